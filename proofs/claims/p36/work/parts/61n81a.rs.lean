set_option maxHeartbeats 4000000 in
theorem c_M_actS (l : Launch) (Mz : zMem) (hW : zMt Mz) (F_ : Nat) (hF64_ : F_ ≤ 64) (s_ : zSg) (p0_ : zSR F_ s_ Mz) : zC l m_M_act 0 0 [.ref 81] Mz (zpV [60] [111] Mz (fun N => zSA F_ s_ N)) := by
  refine zC_of (L0 := [some (.ref 81), none]) md_M_act (Nat.le_of_ble_eq_true rfl) rfl ?_ zQ0
  have hf : zFr [60] [111] Mz Mz := zFr.rf
  have r_60 := ze_r Mz 81 60
  obtain ⟨⟨hs1_, hs2_⟩, hs3_, hs4_⟩ := id p0_
  refine zw_aload_n (pc := 0) (n := 0) (x := 81) rfl d_M_act_0 ?_
  refine zr_getI (hf.w hW) (pc := 1) f_M_391 rfl d_M_act_1 ?_
  refine zw_bipush (pc := 4) (v := Int32.ofInt 12) (by decide) d_M_act_4 ?_
  refine zr_icmp_ne (pc := 6) (tgt := 50) ⟨(ze_r Mz 81 60).1, (ze_r Mz 81 60).2⟩ ⟨(by decide), (by decide)⟩ (by decide) d_M_act_6 (fun hc_6 => ?_) (fun hc_6 => ?_)
  · skip
    first | have hd0_ := zRwD_A (c := s_.2.1) (by omega) hrs_ (by omega) (fun t_ => hsMz.jg (by decide) (by decide) t_) | have hd0_ := zRwD_B (c := s_.2.1) (M := Mz) (by omega) (fun t_ => rfl)
    refine zw_iconst (pc := 50) (v := Int32.ofInt 0) (by decide) d_M_act_50 ?_
    refine zw_istore_n (pc := 51) (i := 1) (L2 := [some (.ref 81), some (.int (Int32.ofInt 0))]) rfl (by decide) rfl d_M_act_51 ?_
    have lp_52 : ∀ (n : Nat) (u1_ : Int) (hu1_a : -2147483648 ≤ u1_) (hu1_b : u1_ < 2147483648) (N2_ : zMem) (hs3_ : zFr [] [111] Mz N2_) (i4_ : 0 ≤ u1_) (i5_ : u1_ ≤ 64) (i6_ : zRwD s_.2.1 Mz N2_ u1_), (64 - u1_).toNat < n → zW l m_M_act (zn Mz + 0, zw Mz + 0) N2_ 52 [some (.ref 81), some (.int (Int32.ofInt u1_))] [] (zpV [60] [111] Mz (fun N => zSA F_ s_ N)) := by
      intro n
      induction n with
      | zero =>
        intro u1_ hu1_a hu1_b N2_ hs3_ i4_ i5_ i6_ h0
        exact absurd h0 (Nat.not_lt_zero _)
      | succ n ih_52 =>
        intro u1_ hu1_a hu1_b N2_ hs3_ i4_ i5_ i6_ hlt_52
        have hf_N2_ : zFr [60] [111] Mz N2_ := hf.tr hs3_ (by decide) (by decide)
        have e60_N2_ : ze N2_ 81 60 = ze Mz 81 60 := hs3_.e (by decide)
        have hrd_ := (show zRwD s_.2.1 Mz N2_ u1_ by assumption)
        refine zw_iload_n (pc := 52) (n := 1) (x := Int32.ofInt u1_) rfl d_M_act_52 ?_
        refine zw_bipush (pc := 53) (v := Int32.ofInt 64) (by decide) d_M_act_53 ?_
        refine zr_icmp_ge (pc := 55) (tgt := 84) ⟨hu1_a, hu1_b⟩ ⟨(by decide), (by decide)⟩ (by decide) d_M_act_55 (fun hc_55 => ?_) (fun hc_55 => ?_)
        · skip
          refine zw_aload_n (pc := 84) (n := 0) (x := 81) rfl d_M_act_84 ?_
          refine zw_dup (pc := 85) rfl d_M_act_85 ?_
          refine zr_getI (hf_N2_.w hW) (pc := 86) f_M_391 rfl d_M_act_86 ?_
          refine zw_iconst (pc := 89) (v := Int32.ofInt 1) (by decide) d_M_act_89 ?_
          refine zr_iadd (pc := 90) d_M_act_90 ?_
          refine zr_putI (hf_N2_.w hW) (pc := 91) f_M_391 rfl rfl ⟨by omega, by omega⟩ rfl rfl d_M_act_91 (fun N7_ hsN7_ hvN7_ => ?_)
          have hf_N7_ : zFr [60] [111] Mz N7_ := hf_N2_.tr hsN7_ (by decide) (by decide)
          have r60_N7_ := ze_r N7_ 81 60
          have hsa_ : zSA F_ s_ N7_ := zSA_i hF64_ p0_ (fun t_ => (hsN7_.jg (by decide) (by decide) t_).trans (by have h_ := hrd_; rw [show u1_ = 64 by omega] at h_; exact h_ t_)) (by omega)
          exact zr_vret (pc := 94) rfl hf_N7_ hsa_ d_M_act_94
        · skip
          refine zw_aload_n (pc := 58) (n := 0) (x := 81) rfl d_M_act_58 ?_
          refine zr_getF (r := 111) (hf_N2_.w hW) (pc := 59) f_M_106 rfl (zh_111 (hf_N2_.w hW)).1 d_M_act_59 ?_
          refine zw_bipush (pc := 62) (v := Int32.ofInt 64) (by decide) d_M_act_62 ?_
          refine zw_aload_n (pc := 64) (n := 0) (x := 81) rfl d_M_act_64 ?_
          refine zr_getI (hf_N2_.w hW) (pc := 65) f_M_391 rfl d_M_act_65 ?_
          refine zr_imul (pc := 68) d_M_act_68 ?_
          refine zw_iload_n (pc := 69) (n := 1) (x := Int32.ofInt u1_) rfl d_M_act_69 ?_
          refine zr_iadd (pc := 70) d_M_act_70 ?_
          refine zw_aload_n (pc := 71) (n := 0) (x := 81) rfl d_M_act_71 ?_
          refine zr_getF (r := 98) (hf_N2_.w hW) (pc := 72) f_M_66 rfl (zh_98 (hf_N2_.w hW)).1 d_M_act_72 ?_
          refine zw_iload_n (pc := 75) (n := 1) (x := Int32.ofInt u1_) rfl d_M_act_75 ?_
          refine zr_laldn (pc := 76) (zh_98 (hf_N2_.w hW)).2 (by decide) (by omega) (by omega) d_M_act_76 (fun v8_ hv8_ hv8_a hv8_b => ?_)
          rw [hf_N2_.jg (by decide) (by decide)] at hv8_
          have hy_ := hv8_
          refine zr_last (pc := 77) (zh_111 (hf_N2_.w hW)).2 (by decide) (by decide) (by omega) (by omega) d_M_act_77 (fun N9_ hN9_ hsN9_ => ?_)
          have hf_N9_ : zFr [60] [111] Mz N9_ := hf_N2_.tr hsN9_ (by decide) (by decide)
          have hb0_N9_ : zFr [] [111] Mz N9_ := hs3_.tr hsN9_ (by decide) (by decide)
          have e60_N9_ : ze N9_ 81 60 = ze N2_ 81 60 := hsN9_.e (by decide)
          have hrd2_ := zRwD_s hrd_ hy_ hN9_ (by first | (rw [if_pos (by omega)]; omega) | (rw [if_neg (by omega)]; omega)) (by omega) ⟨by omega, by omega⟩
          refine zr_iinc (pc := 78) (i := 1) (a := u1_) (n := 1) (L2 := [some (.ref 81), some (.int (Int32.ofInt (u1_ + 1)))]) rfl (by decide) rfl d_M_act_78 ?_
          refine zw_goto (pc := 81) (tgt := 52) (by decide) d_M_act_81 ?_
          exact ih_52 (u1_ + 1) (by omega) (by omega) N9_ hb0_N9_ (show 0 ≤ (u1_ + 1) by first | assumption | omega) (show (u1_ + 1) ≤ 64 by first | assumption | omega) (show zRwD s_.2.1 Mz N9_ (u1_ + 1) by exact hrd2_) (by omega)
    exact lp_52 _ 0 (by decide) (by decide) Mz zFr.rf (show 0 ≤ (0 : Int) by first | assumption | omega) (show (0 : Int) ≤ 64 by first | assumption | omega) (show zRwD s_.2.1 Mz Mz (0 : Int) by exact hd0_) (Nat.lt_succ_self _)
  · skip
    refine zw_bipush (pc := 9) (v := Int32.ofInt 64) (by decide) d_M_act_9 ?_
    refine zw_istore_n (pc := 11) (i := 1) (L2 := [some (.ref 81), some (.int (Int32.ofInt 64))]) rfl (by decide) rfl d_M_act_11 ?_
    have lp_12 : ∀ (n : Nat) (u10_ : Int) (hu10_a : -2147483648 ≤ u10_) (hu10_b : u10_ < 2147483648) (N11_ : zMem) (hs12_ : zFr [] [111] Mz N11_) (i13_ : 64 ≤ u10_) (i14_ : u10_ ≤ 768) (i15_ : zRwS Mz N11_ u10_), (768 - u10_).toNat < n → zW l m_M_act (zn Mz + 0, zw Mz + 0) N11_ 12 [some (.ref 81), some (.int (Int32.ofInt u10_))] [] (zpV [60] [111] Mz (fun N => zSA F_ s_ N)) := by
      intro n
      induction n with
      | zero =>
        intro u10_ hu10_a hu10_b N11_ hs12_ i13_ i14_ i15_ h0
        exact absurd h0 (Nat.not_lt_zero _)
      | succ n ih_12 =>
        intro u10_ hu10_a hu10_b N11_ hs12_ i13_ i14_ i15_ hlt_12
        have hf_N11_ : zFr [60] [111] Mz N11_ := hf.tr hs12_ (by decide) (by decide)
        have e60_N11_ : ze N11_ 81 60 = ze Mz 81 60 := hs12_.e (by decide)
        have hrs_ := (show zRwS Mz N11_ u10_ by assumption)
        refine zw_iload_n (pc := 12) (n := 1) (x := Int32.ofInt u10_) rfl d_M_act_12 ?_
        refine zw_sipush (pc := 13) (v := Int32.ofInt 768) (by decide) d_M_act_13 ?_
        refine zr_icmp_ge (pc := 16) (tgt := 40) ⟨hu10_a, hu10_b⟩ ⟨(by decide), (by decide)⟩ (by decide) d_M_act_16 (fun hc_16 => ?_) (fun hc_16 => ?_)
        · skip
          refine zw_aload_n (pc := 40) (n := 0) (x := 81) rfl d_M_act_40 ?_
          refine zw_dup (pc := 41) rfl d_M_act_41 ?_
          refine zr_getI (hf_N11_.w hW) (pc := 42) f_M_391 rfl d_M_act_42 ?_
          refine zw_iconst (pc := 45) (v := Int32.ofInt 1) (by decide) d_M_act_45 ?_
          refine zr_isub (pc := 46) d_M_act_46 ?_
          refine zr_putI (hf_N11_.w hW) (pc := 47) f_M_391 rfl rfl ⟨by omega, by omega⟩ rfl rfl d_M_act_47 (fun N16_ hsN16_ hvN16_ => ?_)
          have hf_N16_ : zFr [60] [111] Mz N16_ := hf_N11_.tr hsN16_ (by decide) (by decide)
          have r60_N16_ := ze_r N16_ 81 60
          first | have hd0_ := zRwD_A (c := s_.2.1) (by omega) hrs_ (by omega) (fun t_ => hsN16_.jg (by decide) (by decide) t_) | have hd0_ := zRwD_B (c := s_.2.1) (M := Mz) (by omega) (fun t_ => rfl)
          refine zw_iconst (pc := 50) (v := Int32.ofInt 0) (by decide) d_M_act_50 ?_
          refine zw_istore_n (pc := 51) (i := 1) (L2 := [some (.ref 81), some (.int (Int32.ofInt 0))]) rfl (by decide) rfl d_M_act_51 ?_
          have lp_52 : ∀ (n : Nat) (u17_ : Int) (hu17_a : -2147483648 ≤ u17_) (hu17_b : u17_ < 2147483648) (N18_ : zMem) (hs19_ : zFr [] [111] N16_ N18_) (i20_ : 0 ≤ u17_) (i21_ : u17_ ≤ 64) (i22_ : zRwD s_.2.1 Mz N18_ u17_), (64 - u17_).toNat < n → zW l m_M_act (zn Mz + 0, zw Mz + 0) N18_ 52 [some (.ref 81), some (.int (Int32.ofInt u17_))] [] (zpV [60] [111] Mz (fun N => zSA F_ s_ N)) := by
            intro n
            induction n with
            | zero =>
              intro u17_ hu17_a hu17_b N18_ hs19_ i20_ i21_ i22_ h0
              exact absurd h0 (Nat.not_lt_zero _)
            | succ n ih_52 =>
              intro u17_ hu17_a hu17_b N18_ hs19_ i20_ i21_ i22_ hlt_52
              have hf_N18_ : zFr [60] [111] Mz N18_ := hf_N16_.tr hs19_ (by decide) (by decide)
              have e60_N18_ : ze N18_ 81 60 = ze N16_ 81 60 := hs19_.e (by decide)
              have hrd_ := (show zRwD s_.2.1 Mz N18_ u17_ by assumption)
              refine zw_iload_n (pc := 52) (n := 1) (x := Int32.ofInt u17_) rfl d_M_act_52 ?_
              refine zw_bipush (pc := 53) (v := Int32.ofInt 64) (by decide) d_M_act_53 ?_
              refine zr_icmp_ge (pc := 55) (tgt := 84) ⟨hu17_a, hu17_b⟩ ⟨(by decide), (by decide)⟩ (by decide) d_M_act_55 (fun hc_55 => ?_) (fun hc_55 => ?_)
              · skip
                refine zw_aload_n (pc := 84) (n := 0) (x := 81) rfl d_M_act_84 ?_
                refine zw_dup (pc := 85) rfl d_M_act_85 ?_
                refine zr_getI (hf_N18_.w hW) (pc := 86) f_M_391 rfl d_M_act_86 ?_
                refine zw_iconst (pc := 89) (v := Int32.ofInt 1) (by decide) d_M_act_89 ?_
                refine zr_iadd (pc := 90) d_M_act_90 ?_
                refine zr_putI (hf_N18_.w hW) (pc := 91) f_M_391 rfl rfl ⟨by omega, by omega⟩ rfl rfl d_M_act_91 (fun N23_ hsN23_ hvN23_ => ?_)
                have hf_N23_ : zFr [60] [111] Mz N23_ := hf_N18_.tr hsN23_ (by decide) (by decide)
                have r60_N23_ := ze_r N23_ 81 60
                have hsa_ : zSA F_ s_ N23_ := zSA_i hF64_ p0_ (fun t_ => (hsN23_.jg (by decide) (by decide) t_).trans (by have h_ := hrd_; rw [show u17_ = 64 by omega] at h_; exact h_ t_)) (by omega)
                exact zr_vret (pc := 94) rfl hf_N23_ hsa_ d_M_act_94
              · skip
                refine zw_aload_n (pc := 58) (n := 0) (x := 81) rfl d_M_act_58 ?_
                refine zr_getF (r := 111) (hf_N18_.w hW) (pc := 59) f_M_106 rfl (zh_111 (hf_N18_.w hW)).1 d_M_act_59 ?_
                refine zw_bipush (pc := 62) (v := Int32.ofInt 64) (by decide) d_M_act_62 ?_
                refine zw_aload_n (pc := 64) (n := 0) (x := 81) rfl d_M_act_64 ?_
                refine zr_getI (hf_N18_.w hW) (pc := 65) f_M_391 rfl d_M_act_65 ?_
                refine zr_imul (pc := 68) d_M_act_68 ?_
                refine zw_iload_n (pc := 69) (n := 1) (x := Int32.ofInt u17_) rfl d_M_act_69 ?_
                refine zr_iadd (pc := 70) d_M_act_70 ?_
                refine zw_aload_n (pc := 71) (n := 0) (x := 81) rfl d_M_act_71 ?_
                refine zr_getF (r := 98) (hf_N18_.w hW) (pc := 72) f_M_66 rfl (zh_98 (hf_N18_.w hW)).1 d_M_act_72 ?_
                refine zw_iload_n (pc := 75) (n := 1) (x := Int32.ofInt u17_) rfl d_M_act_75 ?_
                refine zr_laldn (pc := 76) (zh_98 (hf_N18_.w hW)).2 (by decide) (by omega) (by omega) d_M_act_76 (fun v24_ hv24_ hv24_a hv24_b => ?_)
                rw [hf_N18_.jg (by decide) (by decide)] at hv24_
                have hy_ := hv24_
                refine zr_last (pc := 77) (zh_111 (hf_N18_.w hW)).2 (by decide) (by decide) (by omega) (by omega) d_M_act_77 (fun N25_ hN25_ hsN25_ => ?_)
                have hf_N25_ : zFr [60] [111] Mz N25_ := hf_N18_.tr hsN25_ (by decide) (by decide)
                have hb0_N25_ : zFr [] [111] N16_ N25_ := hs19_.tr hsN25_ (by decide) (by decide)
                have e60_N25_ : ze N25_ 81 60 = ze N18_ 81 60 := hsN25_.e (by decide)
                have hrd2_ := zRwD_s hrd_ hy_ hN25_ (by first | (rw [if_pos (by omega)]; omega) | (rw [if_neg (by omega)]; omega)) (by omega) ⟨by omega, by omega⟩
                refine zr_iinc (pc := 78) (i := 1) (a := u17_) (n := 1) (L2 := [some (.ref 81), some (.int (Int32.ofInt (u17_ + 1)))]) rfl (by decide) rfl d_M_act_78 ?_
                refine zw_goto (pc := 81) (tgt := 52) (by decide) d_M_act_81 ?_
                exact ih_52 (u17_ + 1) (by omega) (by omega) N25_ hb0_N25_ (show 0 ≤ (u17_ + 1) by first | assumption | omega) (show (u17_ + 1) ≤ 64 by first | assumption | omega) (show zRwD s_.2.1 Mz N25_ (u17_ + 1) by exact hrd2_) (by omega)
          exact lp_52 _ 0 (by decide) (by decide) N16_ zFr.rf (show 0 ≤ (0 : Int) by first | assumption | omega) (show (0 : Int) ≤ 64 by first | assumption | omega) (show zRwD s_.2.1 Mz N16_ (0 : Int) by exact hd0_) (Nat.lt_succ_self _)
        · skip
          refine zw_aload_n (pc := 19) (n := 0) (x := 81) rfl d_M_act_19 ?_
          refine zr_getF (r := 111) (hf_N11_.w hW) (pc := 20) f_M_106 rfl (zh_111 (hf_N11_.w hW)).1 d_M_act_20 ?_
          refine zw_iload_n (pc := 23) (n := 1) (x := Int32.ofInt u10_) rfl d_M_act_23 ?_
          refine zw_bipush (pc := 24) (v := Int32.ofInt 64) (by decide) d_M_act_24 ?_
          refine zr_isub (pc := 26) d_M_act_26 ?_
          refine zw_aload_n (pc := 27) (n := 0) (x := 81) rfl d_M_act_27 ?_
          refine zr_getF (r := 111) (hf_N11_.w hW) (pc := 28) f_M_106 rfl (zh_111 (hf_N11_.w hW)).1 d_M_act_28 ?_
          refine zw_iload_n (pc := 31) (n := 1) (x := Int32.ofInt u10_) rfl d_M_act_31 ?_
          refine zr_laldn (pc := 32) (zh_111 (hf_N11_.w hW)).2 (by decide) (by omega) (by omega) d_M_act_32 (fun v26_ hv26_ hv26_a hv26_b => ?_)
          have hx_ := hv26_
          refine zr_last (pc := 33) (zh_111 (hf_N11_.w hW)).2 (by decide) (by decide) (by omega) (by omega) d_M_act_33 (fun N27_ hN27_ hsN27_ => ?_)
          have hf_N27_ : zFr [60] [111] Mz N27_ := hf_N11_.tr hsN27_ (by decide) (by decide)
          have hb0_N27_ : zFr [] [111] Mz N27_ := hs12_.tr hsN27_ (by decide) (by decide)
          have e60_N27_ : ze N27_ 81 60 = ze N11_ 81 60 := hsN27_.e (by decide)
          have hrs2_ := zRwS_s hrs_ hx_ hN27_ (by omega) ⟨by omega, by omega⟩
          refine zr_iinc (pc := 34) (i := 1) (a := u10_) (n := 1) (L2 := [some (.ref 81), some (.int (Int32.ofInt (u10_ + 1)))]) rfl (by decide) rfl d_M_act_34 ?_
          refine zw_goto (pc := 37) (tgt := 12) (by decide) d_M_act_37 ?_
          exact ih_12 (u10_ + 1) (by omega) (by omega) N27_ hb0_N27_ (show 64 ≤ (u10_ + 1) by first | assumption | omega) (show (u10_ + 1) ≤ 768 by first | assumption | omega) (show zRwS Mz N27_ (u10_ + 1) by exact hrs2_) (by omega)
    exact lp_12 _ 64 (by decide) (by decide) Mz zFr.rf (show 64 ≤ (64 : Int) by first | assumption | omega) (show (64 : Int) ≤ 768 by first | assumption | omega) (show zRwS Mz Mz (64 : Int) by exact zRwS_0) (Nat.lt_succ_self _)
set_option maxHeartbeats 4000000 in
theorem c_M_undoS (l : Launch) (Mz : zMem) (hW : zMt Mz) (F_ : Nat) (hF64_ : F_ ≤ 64) (s_ : zSg) (p0_ : zSR F_ s_ Mz) : zC l m_M_undo 0 0 [.ref 81] Mz (zpI [60] [98] Mz (fun v N => (((1 ≤ s_.2.1 ∧ zSR F_ (zpop s_) N ∧ v = ((s_.2.1 - 1 : Nat) : Int)) ∨ (s_.2.1 = 0 ∧ zSR F_ s_ N ∧ v = (-1 : Int)))))) := by
  refine zC_of (L0 := [some (.ref 81), none]) md_M_undo (Nat.le_of_ble_eq_true rfl) rfl ?_ zQ0
  have hf : zFr [60] [98] Mz Mz := zFr.rf
  have r_60 := ze_r Mz 81 60
  obtain ⟨⟨hs1_, hs2_⟩, hs3_, hs4_⟩ := id p0_
  refine zw_aload_n (pc := 0) (n := 0) (x := 81) rfl d_M_undo_0 ?_
  refine zr_getI (hf.w hW) (pc := 1) f_M_391 rfl d_M_undo_1 ?_
  refine zr_if_ne (pc := 4) (tgt := 9) ⟨(ze_r Mz 81 60).1, (ze_r Mz 81 60).2⟩ (by decide) d_M_undo_4 (fun hc_4 => ?_) (fun hc_4 => ?_)
  · skip
    refine zw_aload_n (pc := 9) (n := 0) (x := 81) rfl d_M_undo_9 ?_
    refine zw_dup (pc := 10) rfl d_M_undo_10 ?_
    refine zr_getI (hf.w hW) (pc := 11) f_M_391 rfl d_M_undo_11 ?_
    refine zw_iconst (pc := 14) (v := Int32.ofInt 1) (by decide) d_M_undo_14 ?_
    refine zr_isub (pc := 15) d_M_undo_15 ?_
    refine zr_putI (hf.w hW) (pc := 16) f_M_391 rfl rfl ⟨by omega, by omega⟩ rfl rfl d_M_undo_16 (fun N1_ hsN1_ hvN1_ => ?_)
    have hf_N1_ : zFr [60] [98] Mz N1_ := hf.tr hsN1_ (by decide) (by decide)
    have r60_N1_ := ze_r N1_ 81 60
    refine zw_iconst (pc := 19) (v := Int32.ofInt 0) (by decide) d_M_undo_19 ?_
    refine zw_istore_n (pc := 20) (i := 1) (L2 := [some (.ref 81), some (.int (Int32.ofInt 0))]) rfl (by decide) rfl d_M_undo_20 ?_
    have lp_21 : ∀ (n : Nat) (u2_ : Int) (hu2_a : -2147483648 ≤ u2_) (hu2_b : u2_ < 2147483648) (N3_ : zMem) (hs4_ : zFr [] [98] N1_ N3_) (i5_ : 0 ≤ u2_) (i6_ : u2_ ≤ 64) (i7_ : (∀ k : Nat, (k : Int) < u2_ → zg N3_ 98 k = zg Mz 111 (64 * (s_.2.1 - 1) + k))), (64 - u2_).toNat < n → zW l m_M_undo (zn Mz + 0, zw Mz + 0) N3_ 21 [some (.ref 81), some (.int (Int32.ofInt u2_))] [] (zpI [60] [98] Mz (fun v N => (((1 ≤ s_.2.1 ∧ zSR F_ (zpop s_) N ∧ v = ((s_.2.1 - 1 : Nat) : Int)) ∨ (s_.2.1 = 0 ∧ zSR F_ s_ N ∧ v = (-1 : Int)))))) := by
      intro n
      induction n with
      | zero =>
        intro u2_ hu2_a hu2_b N3_ hs4_ i5_ i6_ i7_ h0
        exact absurd h0 (Nat.not_lt_zero _)
      | succ n ih_21 =>
        intro u2_ hu2_a hu2_b N3_ hs4_ i5_ i6_ i7_ hlt_21
        have hf_N3_ : zFr [60] [98] Mz N3_ := hf_N1_.tr hs4_ (by decide) (by decide)
        have e60_N3_ : ze N3_ 81 60 = ze N1_ 81 60 := hs4_.e (by decide)
        have hur_ := (show (∀ k : Nat, (k : Int) < u2_ → zg N3_ 98 k = zg Mz 111 (64 * (s_.2.1 - 1) + k)) by assumption)
        refine zw_iload_n (pc := 21) (n := 1) (x := Int32.ofInt u2_) rfl d_M_undo_21 ?_
        refine zw_bipush (pc := 22) (v := Int32.ofInt 64) (by decide) d_M_undo_22 ?_
        refine zr_icmp_ge (pc := 24) (tgt := 53) ⟨hu2_a, hu2_b⟩ ⟨(by decide), (by decide)⟩ (by decide) d_M_undo_24 (fun hc_24 => ?_) (fun hc_24 => ?_)
        · skip
          refine zw_aload_n (pc := 53) (n := 0) (x := 81) rfl d_M_undo_53 ?_
          refine zr_getI (hf_N3_.w hW) (pc := 54) f_M_391 rfl d_M_undo_54 ?_
          exact zr_iret (pc := 57) (ty := .int) rfl rfl ⟨by omega, by omega⟩ hf_N3_ (show ((1 ≤ s_.2.1 ∧ zSR F_ (zpop s_) N3_ ∧ (ze N3_ 81 60) = ((s_.2.1 - 1 : Nat) : Int)) ∨ (s_.2.1 = 0 ∧ zSR F_ s_ N3_ ∧ (ze N3_ 81 60) = (-1 : Int))) by exact Or.inl ⟨by omega, zSR.pop hF64_ p0_ (by omega) (fun k_ hk_ => hur_ k_ (by omega)) (fun t_ => hf_N3_.jg (by decide) (by decide) t_) (by omega), by omega⟩) d_M_undo_57
        · skip
          refine zw_aload_n (pc := 27) (n := 0) (x := 81) rfl d_M_undo_27 ?_
          refine zr_getF (r := 98) (hf_N3_.w hW) (pc := 28) f_M_66 rfl (zh_98 (hf_N3_.w hW)).1 d_M_undo_28 ?_
          refine zw_iload_n (pc := 31) (n := 1) (x := Int32.ofInt u2_) rfl d_M_undo_31 ?_
          refine zw_aload_n (pc := 32) (n := 0) (x := 81) rfl d_M_undo_32 ?_
          refine zr_getF (r := 111) (hf_N3_.w hW) (pc := 33) f_M_106 rfl (zh_111 (hf_N3_.w hW)).1 d_M_undo_33 ?_
          refine zw_bipush (pc := 36) (v := Int32.ofInt 64) (by decide) d_M_undo_36 ?_
          refine zw_aload_n (pc := 38) (n := 0) (x := 81) rfl d_M_undo_38 ?_
          refine zr_getI (hf_N3_.w hW) (pc := 39) f_M_391 rfl d_M_undo_39 ?_
          refine zr_imul (pc := 42) d_M_undo_42 ?_
          refine zw_iload_n (pc := 43) (n := 1) (x := Int32.ofInt u2_) rfl d_M_undo_43 ?_
          refine zr_iadd (pc := 44) d_M_undo_44 ?_
          refine zr_laldn (pc := 45) (zh_111 (hf_N3_.w hW)).2 (by decide) (by omega) (by omega) d_M_undo_45 (fun v8_ hv8_ hv8_a hv8_b => ?_)
          rw [hf_N3_.jg (by decide) (by decide)] at hv8_
          have hx_ := hv8_
          rw [show (64 * ze N3_ 81 60 + u2_).toNat = 64 * (s_.2.1 - 1) + (u2_).toNat by omega] at hx_
          refine zr_last (pc := 46) (zh_98 (hf_N3_.w hW)).2 (by decide) (by decide) (by omega) (by omega) d_M_undo_46 (fun N9_ hN9_ hsN9_ => ?_)
          have hf_N9_ : zFr [60] [98] Mz N9_ := hf_N3_.tr hsN9_ (by decide) (by decide)
          have hb0_N9_ : zFr [] [98] N1_ N9_ := hs4_.tr hsN9_ (by decide) (by decide)
          have e60_N9_ : ze N9_ 81 60 = ze N3_ 81 60 := hsN9_.e (by decide)
          have hur2_ : (∀ k : Nat, (k : Int) < u2_ + 1 → zg N9_ 98 k = zg Mz 111 (64 * (s_.2.1 - 1) + k)) := fun k_ hk_ => by by_cases g_ : (k_ : Int) = u2_; (rw [show k_ = (u2_).toNat by omega, zs_getJ hN9_ ⟨by omega, by omega⟩]; exact hx_); (rw [zs_othJ hN9_ (by omega)]; exact hur_ k_ (by omega))
          refine zr_iinc (pc := 47) (i := 1) (a := u2_) (n := 1) (L2 := [some (.ref 81), some (.int (Int32.ofInt (u2_ + 1)))]) rfl (by decide) rfl d_M_undo_47 ?_
          refine zw_goto (pc := 50) (tgt := 21) (by decide) d_M_undo_50 ?_
          exact ih_21 (u2_ + 1) (by omega) (by omega) N9_ hb0_N9_ (show 0 ≤ (u2_ + 1) by first | assumption | omega) (show (u2_ + 1) ≤ 64 by first | assumption | omega) (show (∀ k : Nat, (k : Int) < (u2_ + 1) → zg N9_ 98 k = zg Mz 111 (64 * (s_.2.1 - 1) + k)) by exact hur2_) (by omega)
    exact lp_21 _ 0 (by decide) (by decide) N1_ zFr.rf (show 0 ≤ (0 : Int) by first | assumption | omega) (show (0 : Int) ≤ 64 by first | assumption | omega) (show (∀ k : Nat, (k : Int) < (0 : Int) → zg N1_ 98 k = zg Mz 111 (64 * (s_.2.1 - 1) + k)) by exact fun k_ hk_ => absurd hk_ (by omega)) (Nat.lt_succ_self _)
  · skip
    refine zw_iconst (pc := 7) (v := Int32.ofInt (-1)) (by decide) d_M_undo_7 ?_
    exact zr_iret (pc := 8) (ty := .int) rfl rfl ⟨by omega, by omega⟩ hf (show ((1 ≤ s_.2.1 ∧ zSR F_ (zpop s_) Mz ∧ ((-1)) = ((s_.2.1 - 1 : Nat) : Int)) ∨ (s_.2.1 = 0 ∧ zSR F_ s_ Mz ∧ ((-1)) = (-1 : Int))) by exact Or.inr ⟨by omega, p0_, rfl⟩) d_M_undo_8
set_option maxHeartbeats 4000000 in
theorem c_M_partsS (l : Launch) (Mz : zMem) (hW : zMt Mz) (F_ : Nat) (K_ : Nat → Nat → Int) (hA_ : zTA F_ K_) (p0_ : zRmk F_ K_ Mz) : zC l m_M_parts 0 0 [.ref 81] Mz (zpI [] [] Mz (fun v N => v = ((znzc (zrw F_ Mz 98 0) F_ : Nat) : Int))) := by
  refine zC_of (L0 := [some (.ref 81), none, none]) md_M_parts (Nat.le_of_ble_eq_true rfl) rfl ?_ zQ0
  have hf : zFr [] [] Mz Mz := zFr.rf
  have r_26 := ze_r Mz 81 26
  obtain ⟨⟨hF1_, hF27_⟩, hAr_⟩ := id hA_
  obtain ⟨hFc_, hKt_⟩ := id p0_
  refine zw_iconst (pc := 0) (v := Int32.ofInt 0) (by decide) d_M_parts_0 ?_
  refine zw_istore_n (pc := 1) (i := 1) (L2 := [some (.ref 81), some (.int (Int32.ofInt 0)), none]) rfl (by decide) rfl d_M_parts_1 ?_
  refine zw_iconst (pc := 2) (v := Int32.ofInt 0) (by decide) d_M_parts_2 ?_
  refine zw_istore_n (pc := 3) (i := 2) (L2 := [some (.ref 81), some (.int (Int32.ofInt 0)), some (.int (Int32.ofInt 0))]) rfl (by decide) rfl d_M_parts_3 ?_
  have lp_4 : ∀ (n : Nat) (u1_ : Int) (hu1_a : -2147483648 ≤ u1_) (hu1_b : u1_ < 2147483648) (u2_ : Int) (hu2_a : -2147483648 ≤ u2_) (hu2_b : u2_ < 2147483648) (i3_ : 0 ≤ u2_) (i4_ : u2_ ≤ F_) (i5_ : u1_ = ((znzc (zrw F_ Mz 98 0) (u2_).toNat : Nat) : Int)) (i6_ : 0 ≤ u1_ ∧ u1_ ≤ u2_), (F_ - u2_).toNat < n → zW l m_M_parts (zn Mz + 0, zw Mz + 0) Mz 4 [some (.ref 81), some (.int (Int32.ofInt u1_)), some (.int (Int32.ofInt u2_))] [] (zpI [] [] Mz (fun v N => v = ((znzc (zrw F_ Mz 98 0) F_ : Nat) : Int))) := by
    intro n
    induction n with
    | zero =>
      intro u1_ hu1_a hu1_b u2_ hu2_a hu2_b i3_ i4_ i5_ i6_ h0
      exact absurd h0 (Nat.not_lt_zero _)
    | succ n ih_4 =>
      intro u1_ hu1_a hu1_b u2_ hu2_a hu2_b i3_ i4_ i5_ i6_ hlt_4
      have hpi_ := (show u1_ = ((znzc (zrw F_ Mz 98 0) (u2_).toNat : Nat) : Int) by assumption)
      refine zw_iload_n (pc := 4) (n := 2) (x := Int32.ofInt u2_) rfl d_M_parts_4 ?_
      refine zw_aload_n (pc := 5) (n := 0) (x := 81) rfl d_M_parts_5 ?_
      refine zr_getI0 hf hW (pc := 6) (by decide) f_M_235 rfl d_M_parts_6 ?_
      refine zr_icmp_ge (pc := 9) (tgt := 40) ⟨hu2_a, hu2_b⟩ ⟨(ze_r Mz 81 26).1, (ze_r Mz 81 26).2⟩ (by decide) d_M_parts_9 (fun hc_9 => ?_) (fun hc_9 => ?_)
      · skip
        refine zw_iload_n (pc := 40) (n := 1) (x := Int32.ofInt u1_) rfl d_M_parts_40 ?_
        exact zr_iret (pc := 41) (ty := .int) rfl rfl ⟨by omega, by omega⟩ hf (show u1_ = ((znzc (zrw F_ Mz 98 0) F_ : Nat) : Int) by have h_ := hpi_; rw [show (u2_).toNat = F_ by omega] at h_; exact h_) d_M_parts_41
      · skip
        refine zw_iload_n (pc := 12) (n := 1) (x := Int32.ofInt u1_) rfl d_M_parts_12 ?_
        refine zw_aload_n (pc := 13) (n := 0) (x := 81) rfl d_M_parts_13 ?_
        refine zr_getF (r := 98) (hf.w hW) (pc := 14) f_M_66 rfl (zh_98 (hf.w hW)).1 d_M_parts_14 ?_
        refine zw_iload_n (pc := 17) (n := 2) (x := Int32.ofInt u2_) rfl d_M_parts_17 ?_
        refine zr_laldn (pc := 18) (zh_98 (hf.w hW)).2 (by decide) (by omega) (by omega) d_M_parts_18 (fun v7_ hv7_ hv7_a hv7_b => ?_)
        have hx_ := zrw_at (F := F_) (k := (u2_).toNat) (e := 0) (by omega) (by omega) hv7_ (by omega)
        refine zw_lconst (pc := 19) (v := Int64.ofInt 0) (by decide) d_M_parts_19 ?_
        refine zr_lcmp (pc := 20) ⟨hv7_a, hv7_b⟩ ⟨(by decide), (by decide)⟩ d_M_parts_20 ?_
        have hr8_ := zcmp_s v7_ 0
        refine zr_if_eq (pc := 21) (tgt := 28) ⟨(by omega), (by omega)⟩ (by decide) d_M_parts_21 (fun hc_21 => ?_) (fun hc_21 => ?_)
        · skip
          refine zw_iconst (pc := 28) (v := Int32.ofInt 0) (by decide) d_M_parts_28 ?_
          refine zr_callS hf.x (pc := 29) [.int (Int32.ofInt 0)] [.int (Int32.ofInt u1_)] l_M_256 (c_M_truth l Mz (hf.w hW) 0 (by decide) (by decide) (by omega)) rfl rfl (by decide) (Nat.le_of_ble_eq_true rfl) d_M_parts_29 ?_
          rintro _ N9_ ⟨v10_, rfl, ⟨hv10_a, hv10_b⟩, hsN9_, hp0_N9_⟩
          obtain rfl := hsN9_.eq.symm
          replace hp0_N9_ : v10_ = 0 := hp0_N9_
          show zW l m_M_parts (zn Mz + 0, zw Mz + 0) Mz 32 [some (.ref 81), some (.int (Int32.ofInt u1_)), some (.int (Int32.ofInt u2_))] [.int (Int32.ofInt v10_), .int (Int32.ofInt u1_)] (zpI [] [] Mz (fun v N => v = ((znzc (zrw F_ Mz 98 0) F_ : Nat) : Int)))
          refine zr_iadd (pc := 32) d_M_parts_32 ?_
          refine zw_istore_n (pc := 33) (i := 1) (L2 := [some (.ref 81), some (.int (Int32.ofInt (u1_ + v10_))), some (.int (Int32.ofInt u2_))]) rfl (by decide) rfl d_M_parts_33 ?_
          refine zr_iinc (pc := 34) (i := 2) (a := u2_) (n := 1) (L2 := [some (.ref 81), some (.int (Int32.ofInt (u1_ + v10_))), some (.int (Int32.ofInt (u2_ + 1)))]) rfl (by decide) rfl d_M_parts_34 ?_
          refine zw_goto (pc := 37) (tgt := 4) (by decide) d_M_parts_37 ?_
          exact ih_4 (u1_ + v10_) (by omega) (by omega) (u2_ + 1) (by omega) (by omega) (show 0 ≤ (u2_ + 1) by first | assumption | omega) (show (u2_ + 1) ≤ F_ by first | assumption | omega) (show (u1_ + v10_) = ((znzc (zrw F_ Mz 98 0) ((u2_ + 1)).toNat : Nat) : Int) by exact znzc_s hpi_ (by omega) _ _ hx_ (by omega)) (show 0 ≤ (u1_ + v10_) ∧ (u1_ + v10_) ≤ (u2_ + 1) by first | assumption | omega) (by omega)
        · skip
          refine zw_iconst (pc := 24) (v := Int32.ofInt 1) (by decide) d_M_parts_24 ?_
          refine zw_goto (pc := 25) (tgt := 29) (by decide) d_M_parts_25 ?_
          refine zr_callS hf.x (pc := 29) [.int (Int32.ofInt 1)] [.int (Int32.ofInt u1_)] l_M_256 (c_M_truth l Mz (hf.w hW) 1 (by decide) (by decide) (by omega)) rfl rfl (by decide) (Nat.le_of_ble_eq_true rfl) d_M_parts_29 ?_
          rintro _ N11_ ⟨v12_, rfl, ⟨hv12_a, hv12_b⟩, hsN11_, hp0_N11_⟩
          obtain rfl := hsN11_.eq.symm
          replace hp0_N11_ : v12_ = 1 := hp0_N11_
          show zW l m_M_parts (zn Mz + 0, zw Mz + 0) Mz 32 [some (.ref 81), some (.int (Int32.ofInt u1_)), some (.int (Int32.ofInt u2_))] [.int (Int32.ofInt v12_), .int (Int32.ofInt u1_)] (zpI [] [] Mz (fun v N => v = ((znzc (zrw F_ Mz 98 0) F_ : Nat) : Int)))
          refine zr_iadd (pc := 32) d_M_parts_32 ?_
          refine zw_istore_n (pc := 33) (i := 1) (L2 := [some (.ref 81), some (.int (Int32.ofInt (u1_ + v12_))), some (.int (Int32.ofInt u2_))]) rfl (by decide) rfl d_M_parts_33 ?_
          refine zr_iinc (pc := 34) (i := 2) (a := u2_) (n := 1) (L2 := [some (.ref 81), some (.int (Int32.ofInt (u1_ + v12_))), some (.int (Int32.ofInt (u2_ + 1)))]) rfl (by decide) rfl d_M_parts_34 ?_
          refine zw_goto (pc := 37) (tgt := 4) (by decide) d_M_parts_37 ?_
          exact ih_4 (u1_ + v12_) (by omega) (by omega) (u2_ + 1) (by omega) (by omega) (show 0 ≤ (u2_ + 1) by first | assumption | omega) (show (u2_ + 1) ≤ F_ by first | assumption | omega) (show (u1_ + v12_) = ((znzc (zrw F_ Mz 98 0) ((u2_ + 1)).toNat : Nat) : Int) by exact znzc_s hpi_ (by omega) _ _ hx_ (by omega)) (show 0 ≤ (u1_ + v12_) ∧ (u1_ + v12_) ≤ (u2_ + 1) by first | assumption | omega) (by omega)
  exact lp_4 _ 0 (by decide) (by decide) 0 (by decide) (by decide) (show 0 ≤ (0 : Int) by first | assumption | omega) (show (0 : Int) ≤ F_ by first | assumption | omega) (show (0 : Int) = ((znzc (zrw F_ Mz 98 0) ((0 : Int)).toNat : Nat) : Int) by rfl) (show 0 ≤ (0 : Int) ∧ (0 : Int) ≤ (0 : Int) by first | assumption | omega) (Nat.lt_succ_self _)
set_option maxHeartbeats 4000000 in
theorem c_M_markAt_105S (l : Launch) (Mz : zMem) (hW : zMt Mz) (a1_ : Int) (ha1_a : -2147483648 ≤ a1_) (ha1_b : a1_ < 2147483648) (a2_ : Int) (ha2_a : -2147483648 ≤ a2_) (ha2_b : a2_ < 2147483648) (F_ : Nat) (K_ : Nat → Nat → Int) (hA_ : zTA F_ K_) (p0_ : zRmk F_ K_ Mz) (p1_ : 0 ≤ a1_) (p2_ : a1_ ≤ 0) (p3_ : 0 ≤ a2_) (p4_ : a2_ < F_) : zC l m_M_markAt 0 0 [.ref 81, .ref 105, .int (Int32.ofInt a1_), .int (Int32.ofInt a2_)] Mz (zpJ [] [] Mz (fun v N => Int64.ofInt v = Int64.ofInt (zmq F_ K_ (zrw F_ Mz 105 a1_) (a2_).toNat))) := by
  refine zC_of (L0 := [some (.ref 81), some (.ref 105), some (.int (Int32.ofInt a1_)), some (.int (Int32.ofInt a2_)), none, none, none]) md_M_markAt (Nat.le_of_ble_eq_true rfl) rfl ?_ zQ0
  have hf : zFr [] [] Mz Mz := zFr.rf
  have r_26 := ze_r Mz 81 26
  obtain ⟨⟨hF1_, hF27_⟩, hAr_⟩ := id hA_
  obtain ⟨hFc_, hKt_⟩ := id p0_
  refine zw_lconst (pc := 0) (v := Int64.ofInt 0) (by decide) d_M_markAt_0 ?_
  refine zw_lstore (pc := 1) (i := 4) (L2 := [some (.ref 81), some (.ref 105), some (.int (Int32.ofInt a1_)), some (.int (Int32.ofInt a2_)), some (.long (Int64.ofInt 0)), none, none]) (by decide) rfl d_M_markAt_1 ?_
  refine zw_iconst (pc := 3) (v := Int32.ofInt 0) (by decide) d_M_markAt_3 ?_
  refine zw_istore (pc := 4) (i := 6) (L2 := [some (.ref 81), some (.ref 105), some (.int (Int32.ofInt a1_)), some (.int (Int32.ofInt a2_)), some (.long (Int64.ofInt 0)), none, some (.int (Int32.ofInt 0))]) (by decide) rfl d_M_markAt_4 ?_
  have lp_6 : ∀ (n : Nat) (u1_ : Int) (hu1_a : -9223372036854775808 ≤ u1_) (hu1_b : u1_ < 9223372036854775808) (u2_ : Int) (hu2_a : -2147483648 ≤ u2_) (hu2_b : u2_ < 2147483648) (i3_ : 0 ≤ u2_) (i4_ : u2_ ≤ F_) (i5_ : Int64.ofInt u1_ = Int64.ofInt (zsm (fun i => (zrw F_ Mz 105 a1_) i * K_ i (a2_).toNat) (u2_).toNat)), (F_ - u2_).toNat < n → zW l m_M_markAt (zn Mz + 0, zw Mz + 0) Mz 6 [some (.ref 81), some (.ref 105), some (.int (Int32.ofInt a1_)), some (.int (Int32.ofInt a2_)), some (.long (Int64.ofInt u1_)), none, some (.int (Int32.ofInt u2_))] [] (zpJ [] [] Mz (fun v N => Int64.ofInt v = Int64.ofInt (zmq F_ K_ (zrw F_ Mz 105 a1_) (a2_).toNat))) := by
    intro n
    induction n with
    | zero =>
      intro u1_ hu1_a hu1_b u2_ hu2_a hu2_b i3_ i4_ i5_ h0
      exact absurd h0 (Nat.not_lt_zero _)
    | succ n ih_6 =>
      intro u1_ hu1_a hu1_b u2_ hu2_a hu2_b i3_ i4_ i5_ hlt_6
      refine zw_iload (pc := 6) (i := 6) (x := Int32.ofInt u2_) rfl d_M_markAt_6 ?_
      refine zw_aload_n (pc := 8) (n := 0) (x := 81) rfl d_M_markAt_8 ?_
      refine zr_getI0 hf hW (pc := 9) (by decide) f_M_235 rfl d_M_markAt_9 ?_
      refine zr_icmp_ge (pc := 12) (tgt := 46) ⟨hu2_a, hu2_b⟩ ⟨(ze_r Mz 81 26).1, (ze_r Mz 81 26).2⟩ (by decide) d_M_markAt_12 (fun hc_12 => ?_) (fun hc_12 => ?_)
      · skip
        refine zw_lload (pc := 46) (i := 4) (x := Int64.ofInt u1_) rfl d_M_markAt_46 ?_
        exact zr_lret (pc := 48) rfl ⟨by omega, by omega⟩ hf (show Int64.ofInt u1_ = Int64.ofInt (zmq F_ K_ (zrw F_ Mz 105 a1_) (a2_).toNat) by have e_ : (u2_).toNat = F_ := (by omega); have h_ := (show Int64.ofInt u1_ = Int64.ofInt (zsm (fun i => (zrw F_ Mz 105 a1_) i * K_ i (a2_).toNat) (u2_).toNat) by assumption); rw [e_] at h_; exact h_) d_M_markAt_48
      · skip
        refine zw_lload (pc := 15) (i := 4) (x := Int64.ofInt u1_) rfl d_M_markAt_15 ?_
        refine zw_aload_n (pc := 17) (n := 1) (x := 105) rfl d_M_markAt_17 ?_
        refine zw_iload_n (pc := 18) (n := 2) (x := Int32.ofInt a1_) rfl d_M_markAt_18 ?_
        refine zw_iload (pc := 19) (i := 6) (x := Int32.ofInt u2_) rfl d_M_markAt_19 ?_
        refine zr_iadd (pc := 21) d_M_markAt_21 ?_
        refine zr_laldn (pc := 22) (zh_105 (hf.w hW)).2 (by decide) (by omega) (by omega) d_M_markAt_22 (fun v6_ hv6_ hv6_a hv6_b => ?_)
        have hx_ := zrw_at (F := F_) (k := (u2_).toNat) (e := a1_) (by omega) (by omega) hv6_ (by omega)
        refine zw_aload_n (pc := 23) (n := 0) (x := 81) rfl d_M_markAt_23 ?_
        refine zr_getF (r := 93) (hf.w hW) (pc := 24) f_M_50 rfl (zh_93 (hf.w hW)).1 d_M_markAt_24 ?_
        refine zw_bipush (pc := 27) (v := Int32.ofInt 64) (by decide) d_M_markAt_27 ?_
        refine zw_iload (pc := 29) (i := 6) (x := Int32.ofInt u2_) rfl d_M_markAt_29 ?_
        refine zr_imul (pc := 31) d_M_markAt_31 ?_
        refine zw_iload_n (pc := 32) (n := 3) (x := Int32.ofInt a2_) rfl d_M_markAt_32 ?_
        refine zr_iadd (pc := 33) d_M_markAt_33 ?_
        refine zr_ialdn (pc := 34) (zh_93 (hf.w hW)).2 (by decide) (by omega) (by omega) d_M_markAt_34 (fun v7_ hv7_ hv7_a hv7_b => ?_)
        have hy_ := p0_.k (by omega) (by omega) (by omega) (by omega) hv7_
        refine zr_i2l (pc := 35) ⟨hv7_a, hv7_b⟩ d_M_markAt_35 ?_
        refine zr_lmul (pc := 36) d_M_markAt_36 ?_
        refine zr_ladd (pc := 37) d_M_markAt_37 ?_
        refine zk_nmJ (fun v8_ hv8_ hv8_e => ?_)
        obtain ⟨hv8_a, hv8_b⟩ := hv8_
        have hz_ := zmq_s (show Int64.ofInt u1_ = Int64.ofInt (zsm (fun i => (zrw F_ Mz 105 a1_) i * K_ i (a2_).toNat) (u2_).toNat) by assumption) hv8_e (by omega) (by show _ * _ = _; rw [← hx_, ← hy_])
        refine zw_lstore (pc := 38) (i := 4) (L2 := [some (.ref 81), some (.ref 105), some (.int (Int32.ofInt a1_)), some (.int (Int32.ofInt a2_)), some (.long (Int64.ofInt v8_)), none, some (.int (Int32.ofInt u2_))]) (by decide) rfl d_M_markAt_38 ?_
        refine zr_iinc (pc := 40) (i := 6) (a := u2_) (n := 1) (L2 := [some (.ref 81), some (.ref 105), some (.int (Int32.ofInt a1_)), some (.int (Int32.ofInt a2_)), some (.long (Int64.ofInt v8_)), none, some (.int (Int32.ofInt (u2_ + 1)))]) rfl (by decide) rfl d_M_markAt_40 ?_
        refine zw_goto (pc := 43) (tgt := 6) (by decide) d_M_markAt_43 ?_
        exact ih_6 v8_ hv8_a hv8_b (u2_ + 1) (by omega) (by omega) (show 0 ≤ (u2_ + 1) by first | assumption | omega) (show (u2_ + 1) ≤ F_ by first | assumption | omega) (show Int64.ofInt v8_ = Int64.ofInt (zsm (fun i => (zrw F_ Mz 105 a1_) i * K_ i (a2_).toNat) ((u2_ + 1)).toNat) by exact hz_) (by omega)
  exact lp_6 _ 0 (by decide) (by decide) 0 (by decide) (by decide) (show 0 ≤ (0 : Int) by first | assumption | omega) (show (0 : Int) ≤ F_ by first | assumption | omega) (show Int64.ofInt (0 : Int) = Int64.ofInt (zsm (fun i => (zrw F_ Mz 105 a1_) i * K_ i (a2_).toNat) ((0 : Int)).toNat) by rfl) (Nat.lt_succ_self _)
set_option maxHeartbeats 4000000 in
theorem c_M_isFit_105S (l : Launch) (Mz : zMem) (hW : zMt Mz) (a1_ : Int) (ha1_a : -2147483648 ≤ a1_) (ha1_b : a1_ < 2147483648) (F_ : Nat) (K_ : Nat → Nat → Int) (hA_ : zTA F_ K_) (p0_ : zRmk F_ K_ Mz) (p1_ : 0 ≤ a1_) (p2_ : a1_ ≤ 0) : zC l m_M_isFit 0 0 [.ref 81, .ref 105, .int (Int32.ofInt a1_)] Mz (zpI [] [] Mz (fun v N => ((v = 0 ∨ v = 1)) ∧ zIsF F_ K_ (zrw F_ Mz 105 a1_) v)) := by
  refine zC_of (L0 := [some (.ref 81), some (.ref 105), some (.int (Int32.ofInt a1_)), none, none]) md_M_isFit (Nat.le_of_ble_eq_true rfl) rfl ?_ zQ0
  have hf : zFr [] [] Mz Mz := zFr.rf
  have r_26 := ze_r Mz 81 26
  obtain ⟨⟨hF1_, hF27_⟩, hAr_⟩ := id hA_
  obtain ⟨hFc_, hKt_⟩ := id p0_
  refine zw_iconst (pc := 0) (v := Int32.ofInt 1) (by decide) d_M_isFit_0 ?_
  refine zw_istore_n (pc := 1) (i := 3) (L2 := [some (.ref 81), some (.ref 105), some (.int (Int32.ofInt a1_)), some (.int (Int32.ofInt 1)), none]) rfl (by decide) rfl d_M_isFit_1 ?_
  refine zw_iconst (pc := 2) (v := Int32.ofInt 0) (by decide) d_M_isFit_2 ?_
  refine zw_istore (pc := 3) (i := 4) (L2 := [some (.ref 81), some (.ref 105), some (.int (Int32.ofInt a1_)), some (.int (Int32.ofInt 1)), some (.int (Int32.ofInt 0))]) (by decide) rfl d_M_isFit_3 ?_
  have lp_5 : ∀ (n : Nat) (u1_ : Int) (hu1_a : -2147483648 ≤ u1_) (hu1_b : u1_ < 2147483648) (hu1_z : u1_ = 0 ∨ u1_ = 1) (u2_ : Int) (hu2_a : -2147483648 ≤ u2_) (hu2_b : u2_ < 2147483648) (i3_ : 0 ≤ u2_) (i4_ : u2_ ≤ F_) (i5_ : zIsA F_ (zrw F_ Mz 105 a1_) u1_ u2_), (F_ - u2_).toNat < n → zW l m_M_isFit (zn Mz + 0, zw Mz + 0) Mz 5 [some (.ref 81), some (.ref 105), some (.int (Int32.ofInt a1_)), some (.int (Int32.ofInt u1_)), some (.int (Int32.ofInt u2_))] [] (zpI [] [] Mz (fun v N => ((v = 0 ∨ v = 1)) ∧ zIsF F_ K_ (zrw F_ Mz 105 a1_) v)) := by
    intro n
    induction n with
    | zero =>
      intro u1_ hu1_a hu1_b hu1_z u2_ hu2_a hu2_b i3_ i4_ i5_ h0
      exact absurd h0 (Nat.not_lt_zero _)
    | succ n ih_5 =>
      intro u1_ hu1_a hu1_b hu1_z u2_ hu2_a hu2_b i3_ i4_ i5_ hlt_5
      have hia_ := (show zIsA F_ (zrw F_ Mz 105 a1_) u1_ u2_ by assumption)
      refine zw_iload (pc := 5) (i := 4) (x := Int32.ofInt u2_) rfl d_M_isFit_5 ?_
      refine zw_aload_n (pc := 7) (n := 0) (x := 81) rfl d_M_isFit_7 ?_
      refine zr_getI0 hf hW (pc := 8) (by decide) f_M_235 rfl d_M_isFit_8 ?_
      refine zr_icmp_ge (pc := 11) (tgt := 48) ⟨hu2_a, hu2_b⟩ ⟨(ze_r Mz 81 26).1, (ze_r Mz 81 26).2⟩ (by decide) d_M_isFit_11 (fun hc_11 => ?_) (fun hc_11 => ?_)
      · skip
        have hib0_ := zIsB_0 (K := K_) hia_ (by omega)
        refine zw_iconst (pc := 48) (v := Int32.ofInt 0) (by decide) d_M_isFit_48 ?_
        refine zw_istore (pc := 49) (i := 4) (L2 := [some (.ref 81), some (.ref 105), some (.int (Int32.ofInt a1_)), some (.int (Int32.ofInt u1_)), some (.int (Int32.ofInt 0))]) (by decide) rfl d_M_isFit_49 ?_
        have lp_51 : ∀ (n : Nat) (u6_ : Int) (hu6_a : -2147483648 ≤ u6_) (hu6_b : u6_ < 2147483648) (hu6_z : u6_ = 0 ∨ u6_ = 1) (u7_ : Int) (hu7_a : -2147483648 ≤ u7_) (hu7_b : u7_ < 2147483648) (i8_ : 0 ≤ u7_) (i9_ : u7_ ≤ F_) (i10_ : zIsB F_ K_ (zrw F_ Mz 105 a1_) u6_ u7_), (F_ - u7_).toNat < n → zW l m_M_isFit (zn Mz + 0, zw Mz + 0) Mz 51 [some (.ref 81), some (.ref 105), some (.int (Int32.ofInt a1_)), some (.int (Int32.ofInt u6_)), some (.int (Int32.ofInt u7_))] [] (zpI [] [] Mz (fun v N => ((v = 0 ∨ v = 1)) ∧ zIsF F_ K_ (zrw F_ Mz 105 a1_) v)) := by
          intro n
          induction n with
          | zero =>
            intro u6_ hu6_a hu6_b hu6_z u7_ hu7_a hu7_b i8_ i9_ i10_ h0
            exact absurd h0 (Nat.not_lt_zero _)
          | succ n ih_51 =>
            intro u6_ hu6_a hu6_b hu6_z u7_ hu7_a hu7_b i8_ i9_ i10_ hlt_51
            have hib_ := (show zIsB F_ K_ (zrw F_ Mz 105 a1_) u6_ u7_ by assumption)
            refine zw_iload (pc := 51) (i := 4) (x := Int32.ofInt u7_) rfl d_M_isFit_51 ?_
            refine zw_aload_n (pc := 53) (n := 0) (x := 81) rfl d_M_isFit_53 ?_
            refine zr_getI0 hf hW (pc := 54) (by decide) f_M_235 rfl d_M_isFit_54 ?_
            refine zr_icmp_ge (pc := 57) (tgt := 88) ⟨hu7_a, hu7_b⟩ ⟨(ze_r Mz 81 26).1, (ze_r Mz 81 26).2⟩ (by decide) d_M_isFit_57 (fun hc_57 => ?_) (fun hc_57 => ?_)
            · skip
              refine zw_iload_n (pc := 88) (n := 3) (x := Int32.ofInt u6_) rfl d_M_isFit_88 ?_
              exact zr_iret (pc := 89) (ty := .boolean) rfl (z_narB (by omega)) ⟨by omega, by omega⟩ hf ⟨(show (u6_ = 0 ∨ u6_ = 1) by have h_ := hib_.1; omega), (show zIsF F_ K_ (zrw F_ Mz 105 a1_) u6_ by exact zIsF_e hib_ (by omega))⟩ d_M_isFit_89
            · skip
              refine zw_iload_n (pc := 60) (n := 3) (x := Int32.ofInt u6_) rfl d_M_isFit_60 ?_
              refine zr_if_eq (pc := 61) (tgt := 88) ⟨hu6_a, hu6_b⟩ (by decide) d_M_isFit_61 (fun hc_61 => ?_) (fun hc_61 => ?_)
              · skip
                refine zw_iload_n (pc := 88) (n := 3) (x := Int32.ofInt u6_) rfl d_M_isFit_88 ?_
                exact zr_iret (pc := 89) (ty := .boolean) rfl (z_narB (by omega)) ⟨by omega, by omega⟩ hf ⟨(show (u6_ = 0 ∨ u6_ = 1) by have h_ := hib_.1; omega), (show zIsF F_ K_ (zrw F_ Mz 105 a1_) u6_ by exact zIsF_e hib_ (by omega))⟩ d_M_isFit_89
              · skip
                refine zw_aload_n (pc := 64) (n := 0) (x := 81) rfl d_M_isFit_64 ?_
                refine zw_aload_n (pc := 65) (n := 1) (x := 105) rfl d_M_isFit_65 ?_
                refine zw_iload_n (pc := 66) (n := 2) (x := Int32.ofInt a1_) rfl d_M_isFit_66 ?_
                refine zw_iload (pc := 67) (i := 4) (x := Int32.ofInt u7_) rfl d_M_isFit_67 ?_
                refine zr_callV (hf.w hW) hf.x (pc := 69) [.ref 105, .int (Int32.ofInt a1_), .int (Int32.ofInt u7_)] [] l_M_264 (c_M_markAt_105S l Mz (hf.w hW) a1_ ha1_a ha1_b u7_ hu7_a hu7_b F_ K_ hA_ p0_ (show 0 ≤ a1_ by first | assumption | omega) (show a1_ ≤ 0 by first | assumption | omega) (show 0 ≤ u7_ by first | assumption | omega) (show u7_ < F_ by first | assumption | omega)) rfl rfl rfl (by decide) (Nat.le_of_ble_eq_true rfl) d_M_isFit_69 ?_
                rintro _ N11_ ⟨v12_, rfl, ⟨hv12_a, hv12_b⟩, hsN11_, hp0_N11_⟩
                obtain rfl := hsN11_.eq.symm
                replace hp0_N11_ : Int64.ofInt v12_ = Int64.ofInt (zmq F_ K_ (zrw F_ Mz 105 a1_) (u7_).toNat) := hp0_N11_
                show zW l m_M_isFit (zn Mz + 0, zw Mz + 0) Mz 72 [some (.ref 81), some (.ref 105), some (.int (Int32.ofInt a1_)), some (.int (Int32.ofInt u6_)), some (.int (Int32.ofInt u7_))] [.long (Int64.ofInt v12_)] (zpI [] [] Mz (fun v N => ((v = 0 ∨ v = 1)) ∧ zIsF F_ K_ (zrw F_ Mz 105 a1_) v))
                have hmk_ := hp0_N11_
                have hr64_ : zn64 v12_ := ⟨by omega, by omega⟩
                refine zr_ldc2 (pc := 72) (n := (-1000000000000)) (by decide) k_M_260 d_M_isFit_72 ?_
                refine zr_ldc2 (pc := 75) (n := 1000000000000) (by decide) k_M_262 d_M_isFit_75 ?_
                refine zr_callS hf.x (pc := 78) [.long (Int64.ofInt v12_), .long (Int64.ofInt ((-1000000000000))), .long (Int64.ofInt 1000000000000)] [] l_M_131 (c_M_isIn l Mz (hf.w hW) v12_ hv12_a hv12_b ((-1000000000000)) (by decide) (by decide) 1000000000000 (by decide) (by decide)) rfl rfl (by decide) (Nat.le_of_ble_eq_true rfl) d_M_isFit_78 ?_
                rintro _ N13_ ⟨v14_, rfl, ⟨hv14_a, hv14_b⟩, hsN13_, hp0_N13_⟩
                obtain rfl := hsN13_.eq.symm
                replace hp0_N13_ : ((v14_ = 1 ∧ ((-1000000000000)) ≤ v12_ ∧ v12_ ≤ 1000000000000) ∨ (v14_ = 0 ∧ (v12_ < ((-1000000000000)) ∨ 1000000000000 < v12_))) := hp0_N13_
                rcases hp0_N13_ with ⟨rfl, ha78_0_hp0_N13_, ha78_1_hp0_N13_⟩ | ⟨rfl, ha78_0_hp0_N13_⟩
                · skip
                  have hnx_ := zIsB_t (r := 1) hib_ (by omega) (by omega) (by omega) hmk_ hr64_ (Or.inl ⟨rfl, ha78_0_hp0_N13_, ha78_1_hp0_N13_⟩)
                  show zW l m_M_isFit (zn Mz + 0, zw Mz + 0) Mz 81 [some (.ref 81), some (.ref 105), some (.int (Int32.ofInt a1_)), some (.int (Int32.ofInt u6_)), some (.int (Int32.ofInt u7_))] [.int (Int32.ofInt 1)] (zpI [] [] Mz (fun v N => ((v = 0 ∨ v = 1)) ∧ zIsF F_ K_ (zrw F_ Mz 105 a1_) v))
                  refine zw_istore_n (pc := 81) (i := 3) (L2 := [some (.ref 81), some (.ref 105), some (.int (Int32.ofInt a1_)), some (.int (Int32.ofInt 1)), some (.int (Int32.ofInt u7_))]) rfl (by decide) rfl d_M_isFit_81 ?_
                  refine zr_iinc (pc := 82) (i := 4) (a := u7_) (n := 1) (L2 := [some (.ref 81), some (.ref 105), some (.int (Int32.ofInt a1_)), some (.int (Int32.ofInt 1)), some (.int (Int32.ofInt (u7_ + 1)))]) rfl (by decide) rfl d_M_isFit_82 ?_
                  refine zw_goto (pc := 85) (tgt := 51) (by decide) d_M_isFit_85 ?_
                  exact ih_51 1 (by decide) (by decide) (by omega) (u7_ + 1) (by omega) (by omega) (show 0 ≤ (u7_ + 1) by first | assumption | omega) (show (u7_ + 1) ≤ F_ by first | assumption | omega) (show zIsB F_ K_ (zrw F_ Mz 105 a1_) (1 : Int) (u7_ + 1) by exact hnx_) (by omega)
                · skip
                  have hnx_ := zIsB_t (r := 0) hib_ (by omega) (by omega) (by omega) hmk_ hr64_ (Or.inr ⟨rfl, ha78_0_hp0_N13_⟩)
                  show zW l m_M_isFit (zn Mz + 0, zw Mz + 0) Mz 81 [some (.ref 81), some (.ref 105), some (.int (Int32.ofInt a1_)), some (.int (Int32.ofInt u6_)), some (.int (Int32.ofInt u7_))] [.int (Int32.ofInt 0)] (zpI [] [] Mz (fun v N => ((v = 0 ∨ v = 1)) ∧ zIsF F_ K_ (zrw F_ Mz 105 a1_) v))
                  refine zw_istore_n (pc := 81) (i := 3) (L2 := [some (.ref 81), some (.ref 105), some (.int (Int32.ofInt a1_)), some (.int (Int32.ofInt 0)), some (.int (Int32.ofInt u7_))]) rfl (by decide) rfl d_M_isFit_81 ?_
                  refine zr_iinc (pc := 82) (i := 4) (a := u7_) (n := 1) (L2 := [some (.ref 81), some (.ref 105), some (.int (Int32.ofInt a1_)), some (.int (Int32.ofInt 0)), some (.int (Int32.ofInt (u7_ + 1)))]) rfl (by decide) rfl d_M_isFit_82 ?_
                  refine zw_goto (pc := 85) (tgt := 51) (by decide) d_M_isFit_85 ?_
                  exact ih_51 0 (by decide) (by decide) (by omega) (u7_ + 1) (by omega) (by omega) (show 0 ≤ (u7_ + 1) by first | assumption | omega) (show (u7_ + 1) ≤ F_ by first | assumption | omega) (show zIsB F_ K_ (zrw F_ Mz 105 a1_) (0 : Int) (u7_ + 1) by exact hnx_) (by omega)
        exact lp_51 _ u1_ hu1_a hu1_b (by omega) 0 (by decide) (by decide) (show 0 ≤ (0 : Int) by first | assumption | omega) (show (0 : Int) ≤ F_ by first | assumption | omega) (show zIsB F_ K_ (zrw F_ Mz 105 a1_) u1_ (0 : Int) by exact hib0_) (Nat.lt_succ_self _)
      · skip
        refine zw_iload_n (pc := 14) (n := 3) (x := Int32.ofInt u1_) rfl d_M_isFit_14 ?_
        refine zr_if_eq (pc := 15) (tgt := 40) ⟨hu1_a, hu1_b⟩ (by decide) d_M_isFit_15 (fun hc_15 => ?_) (fun hc_15 => ?_)
        · skip
          have hin_ := zIsA_f hia_ (by omega) (by omega) (by first | exact Or.inl (by omega) | (refine Or.inr (fun q_ => ?_); rw [← hx_] at q_; unfold zIn zLim at q_; omega))
          refine zw_iconst (pc := 40) (v := Int32.ofInt 0) (by decide) d_M_isFit_40 ?_
          refine zw_istore_n (pc := 41) (i := 3) (L2 := [some (.ref 81), some (.ref 105), some (.int (Int32.ofInt a1_)), some (.int (Int32.ofInt 0)), some (.int (Int32.ofInt u2_))]) rfl (by decide) rfl d_M_isFit_41 ?_
          refine zr_iinc (pc := 42) (i := 4) (a := u2_) (n := 1) (L2 := [some (.ref 81), some (.ref 105), some (.int (Int32.ofInt a1_)), some (.int (Int32.ofInt 0)), some (.int (Int32.ofInt (u2_ + 1)))]) rfl (by decide) rfl d_M_isFit_42 ?_
          refine zw_goto (pc := 45) (tgt := 5) (by decide) d_M_isFit_45 ?_
          exact ih_5 0 (by decide) (by decide) (by omega) (u2_ + 1) (by omega) (by omega) (show 0 ≤ (u2_ + 1) by first | assumption | omega) (show (u2_ + 1) ≤ F_ by first | assumption | omega) (show zIsA F_ (zrw F_ Mz 105 a1_) (0 : Int) (u2_ + 1) by exact hin_) (by omega)
        · skip
          refine zw_aload_n (pc := 18) (n := 1) (x := 105) rfl d_M_isFit_18 ?_
          refine zw_iload_n (pc := 19) (n := 2) (x := Int32.ofInt a1_) rfl d_M_isFit_19 ?_
          refine zw_iload (pc := 20) (i := 4) (x := Int32.ofInt u2_) rfl d_M_isFit_20 ?_
          refine zr_iadd (pc := 22) d_M_isFit_22 ?_
          refine zr_laldn (pc := 23) (zh_105 (hf.w hW)).2 (by decide) (by omega) (by omega) d_M_isFit_23 (fun v15_ hv15_ hv15_a hv15_b => ?_)
          have hx_ := zrw_at (F := F_) (k := (u2_).toNat) (e := a1_) (by omega) (by omega) hv15_ (by omega)
          refine zr_ldc2 (pc := 24) (n := (-1000000000000)) (by decide) k_M_260 d_M_isFit_24 ?_
          refine zr_ldc2 (pc := 27) (n := 1000000000000) (by decide) k_M_262 d_M_isFit_27 ?_
          refine zr_callS hf.x (pc := 30) [.long (Int64.ofInt v15_), .long (Int64.ofInt ((-1000000000000))), .long (Int64.ofInt 1000000000000)] [] l_M_131 (c_M_isIn l Mz (hf.w hW) v15_ hv15_a hv15_b ((-1000000000000)) (by decide) (by decide) 1000000000000 (by decide) (by decide)) rfl rfl (by decide) (Nat.le_of_ble_eq_true rfl) d_M_isFit_30 ?_
          rintro _ N16_ ⟨v17_, rfl, ⟨hv17_a, hv17_b⟩, hsN16_, hp0_N16_⟩
          obtain rfl := hsN16_.eq.symm
          replace hp0_N16_ : ((v17_ = 1 ∧ ((-1000000000000)) ≤ v15_ ∧ v15_ ≤ 1000000000000) ∨ (v17_ = 0 ∧ (v15_ < ((-1000000000000)) ∨ 1000000000000 < v15_))) := hp0_N16_
          rcases hp0_N16_ with ⟨rfl, ha30_0_hp0_N16_, ha30_1_hp0_N16_⟩ | ⟨rfl, ha30_0_hp0_N16_⟩
          · skip
            show zW l m_M_isFit (zn Mz + 0, zw Mz + 0) Mz 33 [some (.ref 81), some (.ref 105), some (.int (Int32.ofInt a1_)), some (.int (Int32.ofInt u1_)), some (.int (Int32.ofInt u2_))] [.int (Int32.ofInt 1)] (zpI [] [] Mz (fun v N => ((v = 0 ∨ v = 1)) ∧ zIsF F_ K_ (zrw F_ Mz 105 a1_) v))
            refine zr_if_eq (pc := 33) (tgt := 40) ⟨(by decide), (by decide)⟩ (by decide) d_M_isFit_33 (fun hc_33 => ?_) (fun hc_33 => ?_)
            · skip
              exact absurd hc_33 (by decide)
            · skip
              have hin_ := zIsA_t hia_ (by omega) (by omega) hx_ (by unfold zIn zLim; omega)
              refine zw_iconst (pc := 36) (v := Int32.ofInt 1) (by decide) d_M_isFit_36 ?_
              refine zw_goto (pc := 37) (tgt := 41) (by decide) d_M_isFit_37 ?_
              refine zw_istore_n (pc := 41) (i := 3) (L2 := [some (.ref 81), some (.ref 105), some (.int (Int32.ofInt a1_)), some (.int (Int32.ofInt 1)), some (.int (Int32.ofInt u2_))]) rfl (by decide) rfl d_M_isFit_41 ?_
              refine zr_iinc (pc := 42) (i := 4) (a := u2_) (n := 1) (L2 := [some (.ref 81), some (.ref 105), some (.int (Int32.ofInt a1_)), some (.int (Int32.ofInt 1)), some (.int (Int32.ofInt (u2_ + 1)))]) rfl (by decide) rfl d_M_isFit_42 ?_
              refine zw_goto (pc := 45) (tgt := 5) (by decide) d_M_isFit_45 ?_
              exact ih_5 1 (by decide) (by decide) (by omega) (u2_ + 1) (by omega) (by omega) (show 0 ≤ (u2_ + 1) by first | assumption | omega) (show (u2_ + 1) ≤ F_ by first | assumption | omega) (show zIsA F_ (zrw F_ Mz 105 a1_) (1 : Int) (u2_ + 1) by exact hin_) (by omega)
          · skip
            show zW l m_M_isFit (zn Mz + 0, zw Mz + 0) Mz 33 [some (.ref 81), some (.ref 105), some (.int (Int32.ofInt a1_)), some (.int (Int32.ofInt u1_)), some (.int (Int32.ofInt u2_))] [.int (Int32.ofInt 0)] (zpI [] [] Mz (fun v N => ((v = 0 ∨ v = 1)) ∧ zIsF F_ K_ (zrw F_ Mz 105 a1_) v))
            refine zr_if_eq (pc := 33) (tgt := 40) ⟨(by decide), (by decide)⟩ (by decide) d_M_isFit_33 (fun hc_33 => ?_) (fun hc_33 => ?_)
            · skip
              have hin_ := zIsA_f hia_ (by omega) (by omega) (by first | exact Or.inl (by omega) | (refine Or.inr (fun q_ => ?_); rw [← hx_] at q_; unfold zIn zLim at q_; omega))
              refine zw_iconst (pc := 40) (v := Int32.ofInt 0) (by decide) d_M_isFit_40 ?_
              refine zw_istore_n (pc := 41) (i := 3) (L2 := [some (.ref 81), some (.ref 105), some (.int (Int32.ofInt a1_)), some (.int (Int32.ofInt 0)), some (.int (Int32.ofInt u2_))]) rfl (by decide) rfl d_M_isFit_41 ?_
              refine zr_iinc (pc := 42) (i := 4) (a := u2_) (n := 1) (L2 := [some (.ref 81), some (.ref 105), some (.int (Int32.ofInt a1_)), some (.int (Int32.ofInt 0)), some (.int (Int32.ofInt (u2_ + 1)))]) rfl (by decide) rfl d_M_isFit_42 ?_
              refine zw_goto (pc := 45) (tgt := 5) (by decide) d_M_isFit_45 ?_
              exact ih_5 0 (by decide) (by decide) (by omega) (u2_ + 1) (by omega) (by omega) (show 0 ≤ (u2_ + 1) by first | assumption | omega) (show (u2_ + 1) ≤ F_ by first | assumption | omega) (show zIsA F_ (zrw F_ Mz 105 a1_) (0 : Int) (u2_ + 1) by exact hin_) (by omega)
            · skip
              exact absurd hc_33 (by decide)
  exact lp_5 _ 1 (by decide) (by decide) (by omega) 0 (by decide) (by decide) (show 0 ≤ (0 : Int) by first | assumption | omega) (show (0 : Int) ≤ F_ by first | assumption | omega) (show zIsA F_ (zrw F_ Mz 105 a1_) (1 : Int) (0 : Int) by exact zIsA_0) (Nat.lt_succ_self _)
set_option maxHeartbeats 4000000 in
theorem c_M_usesS (l : Launch) (Mz : zMem) (hW : zMt Mz) (a0_ : Int) (ha0_a : -2147483648 ≤ a0_) (ha0_b : a0_ < 2147483648) (F_ : Nat) (K_ : Nat → Nat → Int) (hA_ : zTA F_ K_) (s_ : zSg) (nm_ : List (Int × (Nat → Int))) (p0_ : zRmk F_ K_ Mz) (p1_ : zSR F_ s_ Mz) (p2_ : zRNi nm_ F_ K_ Mz) : zC l m_M_uses 0 0 [.ref 81, .int (Int32.ofInt a0_)] Mz (zpI [60] [98, 111] Mz (fun v N => ((((0 ≤ a0_ ∧ a0_ < (nm_.length : Int)) ∧ zSR F_ (zpush s_ (zvun nm_ (a0_).toNat)) N ∧ v = ((znzc (zvun nm_ (a0_).toNat) F_ : Nat) : Int)) ∨ (¬ (0 ≤ a0_ ∧ a0_ < (nm_.length : Int)) ∧ zSR F_ s_ N ∧ v = (-1 : Int)))))) := by
  refine zC_of (L0 := [some (.ref 81), some (.int (Int32.ofInt a0_)), none]) md_M_uses (Nat.le_of_ble_eq_true rfl) rfl ?_ zQ0
  have hf : zFr [60] [98, 111] Mz Mz := zFr.rf
  have r_18 := ze_r Mz 81 18
  have r_26 := ze_r Mz 81 26
  obtain ⟨⟨hF1_, hF27_⟩, hAr_⟩ := id hA_
  obtain ⟨hFc_, hKt_⟩ := id p0_
  obtain ⟨⟨hs1_, hs2_⟩, hs3_, hs4_⟩ := id p1_
  have hF64_ : F_ ≤ 64 := by omega
  have hnl_ := p2_.n
  obtain ⟨⟨hn0_, hn8_⟩, -⟩ := id p2_
  refine zw_iload_n (pc := 0) (n := 1) (x := Int32.ofInt a0_) rfl d_M_uses_0 ?_
  refine zr_i2l (pc := 1) ⟨ha0_a, ha0_b⟩ d_M_uses_1 ?_
  refine zw_lconst (pc := 2) (v := Int64.ofInt 0) (by decide) d_M_uses_2 ?_
  refine zw_aload_n (pc := 3) (n := 0) (x := 81) rfl d_M_uses_3 ?_
  refine zr_getI0 hf hW (pc := 4) (by decide) f_M_388 rfl d_M_uses_4 ?_
  refine zw_iconst (pc := 7) (v := Int32.ofInt 1) (by decide) d_M_uses_7 ?_
  refine zr_isub (pc := 8) d_M_uses_8 ?_
  refine zr_i2l (pc := 9) ⟨(by omega), (by omega)⟩ d_M_uses_9 ?_
  refine zr_callS hf.x (pc := 10) [.long (Int64.ofInt a0_), .long (Int64.ofInt 0), .long (Int64.ofInt ((ze Mz 81 18) - 1))] [] l_M_131 (c_M_isIn l Mz (hf.w hW) a0_ (by omega) (by omega) 0 (by decide) (by decide) ((ze Mz 81 18) - 1) (by omega) (by omega)) rfl rfl (by decide) (Nat.le_of_ble_eq_true rfl) d_M_uses_10 ?_
  rintro _ N1_ ⟨v2_, rfl, ⟨hv2_a, hv2_b⟩, hsN1_, hp0_N1_⟩
  obtain rfl := hsN1_.eq.symm
  replace hp0_N1_ : ((v2_ = 1 ∧ 0 ≤ a0_ ∧ a0_ ≤ ((ze Mz 81 18) - 1)) ∨ (v2_ = 0 ∧ (a0_ < 0 ∨ ((ze Mz 81 18) - 1) < a0_))) := hp0_N1_
  rcases hp0_N1_ with ⟨rfl, ha10_0_hp0_N1_, ha10_1_hp0_N1_⟩ | ⟨rfl, ha10_0_hp0_N1_⟩
  · skip
    show zW l m_M_uses (zn Mz + 0, zw Mz + 0) Mz 13 [some (.ref 81), some (.int (Int32.ofInt a0_)), none] [.int (Int32.ofInt 1)] (zpI [60] [98, 111] Mz (fun v N => ((((0 ≤ a0_ ∧ a0_ < (nm_.length : Int)) ∧ zSR F_ (zpush s_ (zvun nm_ (a0_).toNat)) N ∧ v = ((znzc (zvun nm_ (a0_).toNat) F_ : Nat) : Int)) ∨ (¬ (0 ≤ a0_ ∧ a0_ < (nm_.length : Int)) ∧ zSR F_ s_ N ∧ v = (-1 : Int))))))
    refine zr_if_ne (pc := 13) (tgt := 18) ⟨(by decide), (by decide)⟩ (by decide) d_M_uses_13 (fun hc_13 => ?_) (fun hc_13 => ?_)
    · skip
      refine zw_aload_n (pc := 18) (n := 0) (x := 81) rfl d_M_uses_18 ?_
      refine zr_callV (hf.w hW) hf.x (pc := 19) [] [] l_M_481 (c_M_actS l Mz (hf.w hW) F_ hF64_ s_ p1_) rfl rfl rfl (by decide) (Nat.le_of_ble_eq_true rfl) d_M_uses_19 ?_
      rintro _ N3_ ⟨rfl, hsN3_, hp0_N3_⟩
      replace hp0_N3_ : zSA F_ s_ N3_ := hp0_N3_
      have hf_N3_ : zFr [60] [98, 111] Mz N3_ := hf.tr hsN3_ (by decide) (by decide)
      have e18_N3_ : ze N3_ 81 18 = ze Mz 81 18 := hsN3_.e (by decide)
      have e26_N3_ : ze N3_ 81 26 = ze Mz 81 26 := hsN3_.e (by decide)
      have c5_ : zRmk F_ K_ N3_ := zRmk.fr hsN3_ p0_ (by decide) (by decide)
      have c6_ : zRNi nm_ F_ K_ N3_ := zRNi.fr hsN3_ p2_ (by decide) (by decide)
      show zW l m_M_uses (zn Mz + 0, zw Mz + 0) N3_ 22 [some (.ref 81), some (.int (Int32.ofInt a0_)), none] [] (zpI [60] [98, 111] Mz (fun v N => ((((0 ≤ a0_ ∧ a0_ < (nm_.length : Int)) ∧ zSR F_ (zpush s_ (zvun nm_ (a0_).toNat)) N ∧ v = ((znzc (zvun nm_ (a0_).toNat) F_ : Nat) : Int)) ∨ (¬ (0 ≤ a0_ ∧ a0_ < (nm_.length : Int)) ∧ zSR F_ s_ N ∧ v = (-1 : Int))))))
      refine zw_iconst (pc := 22) (v := Int32.ofInt 0) (by decide) d_M_uses_22 ?_
      refine zw_istore_n (pc := 23) (i := 2) (L2 := [some (.ref 81), some (.int (Int32.ofInt a0_)), some (.int (Int32.ofInt 0))]) rfl (by decide) rfl d_M_uses_23 ?_
      have lp_24 : ∀ (n : Nat) (u7_ : Int) (hu7_a : -2147483648 ≤ u7_) (hu7_b : u7_ < 2147483648) (N8_ : zMem) (hs9_ : zFr [] [98] N3_ N8_) (i10_ : 0 ≤ u7_) (i11_ : u7_ ≤ F_) (i12_ : (∀ k : Nat, (k : Int) < u7_ → zg N8_ 98 k = (zvun nm_ (a0_).toNat) k)), (F_ - u7_).toNat < n → zW l m_M_uses (zn Mz + 0, zw Mz + 0) N8_ 24 [some (.ref 81), some (.int (Int32.ofInt a0_)), some (.int (Int32.ofInt u7_))] [] (zpI [60] [98, 111] Mz (fun v N => ((((0 ≤ a0_ ∧ a0_ < (nm_.length : Int)) ∧ zSR F_ (zpush s_ (zvun nm_ (a0_).toNat)) N ∧ v = ((znzc (zvun nm_ (a0_).toNat) F_ : Nat) : Int)) ∨ (¬ (0 ≤ a0_ ∧ a0_ < (nm_.length : Int)) ∧ zSR F_ s_ N ∧ v = (-1 : Int)))))) := by
        intro n
        induction n with
        | zero =>
          intro u7_ hu7_a hu7_b N8_ hs9_ i10_ i11_ i12_ h0
          exact absurd h0 (Nat.not_lt_zero _)
        | succ n ih_24 =>
          intro u7_ hu7_a hu7_b N8_ hs9_ i10_ i11_ i12_ hlt_24
          have hf_N8_ : zFr [60] [98, 111] Mz N8_ := hf_N3_.tr hs9_ (by decide) (by decide)
          have e18_N8_ : ze N8_ 81 18 = ze N3_ 81 18 := hs9_.e (by decide)
          have e26_N8_ : ze N8_ 81 26 = ze N3_ 81 26 := hs9_.e (by decide)
          have c13_ : zRmk F_ K_ N8_ := zRmk.fr hs9_ c5_ (by decide) (by decide)
          have c14_ : zRNi nm_ F_ K_ N8_ := zRNi.fr hs9_ c6_ (by decide) (by decide)
          have c15_ : zSA F_ s_ N8_ := zSA.fr hs9_ hp0_N3_ (by decide) (by decide)
          have hui_ := (show (∀ k : Nat, (k : Int) < u7_ → zg N8_ 98 k = (zvun nm_ (a0_).toNat) k) by assumption)
          refine zw_iload_n (pc := 24) (n := 2) (x := Int32.ofInt u7_) rfl d_M_uses_24 ?_
          refine zw_aload_n (pc := 25) (n := 0) (x := 81) rfl d_M_uses_25 ?_
          refine zr_getI0 hf_N8_ hW (pc := 26) (by decide) f_M_235 rfl d_M_uses_26 ?_
          refine zr_icmp_ge (pc := 29) (tgt := 55) ⟨hu7_a, hu7_b⟩ ⟨(ze_r Mz 81 26).1, (ze_r Mz 81 26).2⟩ (by decide) d_M_uses_29 (fun hc_29 => ?_) (fun hc_29 => ?_)
          · skip
            refine zw_aload_n (pc := 55) (n := 0) (x := 81) rfl d_M_uses_55 ?_
            refine zr_callV (hf_N8_.w hW) hf_N8_.x (pc := 56) [] [] l_M_484 (c_M_partsS l N8_ (hf_N8_.w hW) F_ K_ hA_ c13_) rfl rfl rfl (by decide) (Nat.le_of_ble_eq_true rfl) d_M_uses_56 ?_
            rintro _ N16_ ⟨v17_, rfl, ⟨hv17_a, hv17_b⟩, hsN16_, hp0_N16_⟩
            obtain rfl := hsN16_.eq.symm
            replace hp0_N16_ : v17_ = ((znzc (zrw F_ N8_ 98 0) F_ : Nat) : Int) := hp0_N16_
            show zW l m_M_uses (zn Mz + 0, zw Mz + 0) N8_ 59 [some (.ref 81), some (.int (Int32.ofInt a0_)), some (.int (Int32.ofInt u7_))] [.int (Int32.ofInt v17_)] (zpI [60] [98, 111] Mz (fun v N => ((((0 ≤ a0_ ∧ a0_ < (nm_.length : Int)) ∧ zSR F_ (zpush s_ (zvun nm_ (a0_).toNat)) N ∧ v = ((znzc (zvun nm_ (a0_).toNat) F_ : Nat) : Int)) ∨ (¬ (0 ≤ a0_ ∧ a0_ < (nm_.length : Int)) ∧ zSR F_ s_ N ∧ v = (-1 : Int))))))
            have hv_ := hp0_N16_
            have hcv_ : ∀ k_ : Nat, k_ < F_ → zrw F_ N8_ 98 0 k_ = (zvun nm_ (a0_).toNat) k_ := fun k_ hk_ => by unfold zrw; rw [if_pos hk_, show (0 : Int).toNat + k_ = k_ by omega]; exact hui_ k_ (by omega)
            have hw_ := hv_.trans (congrArg (fun n_ : Nat => (n_ : Int)) (znzc_c F_ hcv_))
            exact zr_iret (pc := 59) (ty := .int) rfl rfl ⟨by omega, by omega⟩ hf_N8_ (show (((0 ≤ a0_ ∧ a0_ < (nm_.length : Int)) ∧ zSR F_ (zpush s_ (zvun nm_ (a0_).toNat)) N8_ ∧ v17_ = ((znzc (zvun nm_ (a0_).toNat) F_ : Nat) : Int)) ∨ (¬ (0 ≤ a0_ ∧ a0_ < (nm_.length : Int)) ∧ zSR F_ s_ N8_ ∧ v17_ = (-1 : Int))) by exact Or.inl ⟨by omega, c15_.ps (fun k_ hk_ => hui_ k_ (by omega)), hw_⟩) d_M_uses_59
          · skip
            refine zw_aload_n (pc := 32) (n := 0) (x := 81) rfl d_M_uses_32 ?_
            refine zr_getF (r := 98) (hf_N8_.w hW) (pc := 33) f_M_66 rfl (zh_98 (hf_N8_.w hW)).1 d_M_uses_33 ?_
            refine zw_iload_n (pc := 36) (n := 2) (x := Int32.ofInt u7_) rfl d_M_uses_36 ?_
            refine zw_aload_n (pc := 37) (n := 0) (x := 81) rfl d_M_uses_37 ?_
            refine zr_getF (r := 104) (hf_N8_.w hW) (pc := 38) f_M_84 rfl (zh_104 (hf_N8_.w hW)).1 d_M_uses_38 ?_
            refine zw_bipush (pc := 41) (v := Int32.ofInt 64) (by decide) d_M_uses_41 ?_
            refine zw_iload_n (pc := 43) (n := 1) (x := Int32.ofInt a0_) rfl d_M_uses_43 ?_
            refine zr_imul (pc := 44) d_M_uses_44 ?_
            refine zw_iload_n (pc := 45) (n := 2) (x := Int32.ofInt u7_) rfl d_M_uses_45 ?_
            refine zr_iadd (pc := 46) d_M_uses_46 ?_
            refine zr_laldn (pc := 47) (zh_104 (hf_N8_.w hW)).2 (by decide) (by omega) (by omega) d_M_uses_47 (fun v18_ hv18_ hv18_a hv18_b => ?_)
            rw [hf_N8_.jg (by decide) (by decide)] at hv18_
            have hat_ := (p2_.at (k := (a0_).toNat) (by omega)).1
            rw [show (64 : Int) * (((a0_).toNat : Nat) : Int) = 64 * a0_ by omega] at hat_
            have hx_ := (zrw_at (F := F_) (k := (u7_).toNat) (e := 64 * a0_) (by omega) (by omega) hv18_ (by omega)).trans (congrFun hat_ _)
            refine zr_last (pc := 48) (zh_98 (hf_N8_.w hW)).2 (by decide) (by decide) (by omega) (by omega) d_M_uses_48 (fun N19_ hN19_ hsN19_ => ?_)
            have hf_N19_ : zFr [60] [98, 111] Mz N19_ := hf_N8_.tr hsN19_ (by decide) (by decide)
            have hb0_N19_ : zFr [] [98] N3_ N19_ := hs9_.tr hsN19_ (by decide) (by decide)
            have e18_N19_ : ze N19_ 81 18 = ze N8_ 81 18 := hsN19_.e (by decide)
            have e26_N19_ : ze N19_ 81 26 = ze N8_ 81 26 := hsN19_.e (by decide)
            have c20_ : zRmk F_ K_ N19_ := zRmk.fr hsN19_ c13_ (by decide) (by decide)
            have c21_ : zRNi nm_ F_ K_ N19_ := zRNi.fr hsN19_ c14_ (by decide) (by decide)
            have c22_ : zSA F_ s_ N19_ := zSA.fr hsN19_ c15_ (by decide) (by decide)
            have hui2_ : (∀ k : Nat, (k : Int) < u7_ + 1 → zg N19_ 98 k = (zvun nm_ (a0_).toNat) k) := fun k_ hk_ => by by_cases g_ : (k_ : Int) = u7_; (rw [show k_ = (u7_).toNat by omega, zs_getJ hN19_ ⟨by omega, by omega⟩]; exact hx_); (rw [zs_othJ hN19_ (by omega)]; exact hui_ k_ (by omega))
            refine zr_iinc (pc := 49) (i := 2) (a := u7_) (n := 1) (L2 := [some (.ref 81), some (.int (Int32.ofInt a0_)), some (.int (Int32.ofInt (u7_ + 1)))]) rfl (by decide) rfl d_M_uses_49 ?_
            refine zw_goto (pc := 52) (tgt := 24) (by decide) d_M_uses_52 ?_
            exact ih_24 (u7_ + 1) (by omega) (by omega) N19_ hb0_N19_ (show 0 ≤ (u7_ + 1) by first | assumption | omega) (show (u7_ + 1) ≤ F_ by first | assumption | omega) (show (∀ k : Nat, (k : Int) < (u7_ + 1) → zg N19_ 98 k = (zvun nm_ (a0_).toNat) k) by exact hui2_) (by omega)
      exact lp_24 _ 0 (by decide) (by decide) N3_ zFr.rf (show 0 ≤ (0 : Int) by first | assumption | omega) (show (0 : Int) ≤ F_ by first | assumption | omega) (show (∀ k : Nat, (k : Int) < (0 : Int) → zg N3_ 98 k = (zvun nm_ (a0_).toNat) k) by exact fun k_ hk_ => absurd hk_ (by omega)) (Nat.lt_succ_self _)
    · skip
      exact absurd hc_13 (by decide)
  · skip
    show zW l m_M_uses (zn Mz + 0, zw Mz + 0) Mz 13 [some (.ref 81), some (.int (Int32.ofInt a0_)), none] [.int (Int32.ofInt 0)] (zpI [60] [98, 111] Mz (fun v N => ((((0 ≤ a0_ ∧ a0_ < (nm_.length : Int)) ∧ zSR F_ (zpush s_ (zvun nm_ (a0_).toNat)) N ∧ v = ((znzc (zvun nm_ (a0_).toNat) F_ : Nat) : Int)) ∨ (¬ (0 ≤ a0_ ∧ a0_ < (nm_.length : Int)) ∧ zSR F_ s_ N ∧ v = (-1 : Int))))))
    refine zr_if_ne (pc := 13) (tgt := 18) ⟨(by decide), (by decide)⟩ (by decide) d_M_uses_13 (fun hc_13 => ?_) (fun hc_13 => ?_)
    · skip
      exact absurd hc_13 (by decide)
    · skip
      refine zw_iconst (pc := 16) (v := Int32.ofInt (-1)) (by decide) d_M_uses_16 ?_
      exact zr_iret (pc := 17) (ty := .int) rfl rfl ⟨by omega, by omega⟩ hf (show (((0 ≤ a0_ ∧ a0_ < (nm_.length : Int)) ∧ zSR F_ (zpush s_ (zvun nm_ (a0_).toNat)) Mz ∧ ((-1)) = ((znzc (zvun nm_ (a0_).toNat) F_ : Nat) : Int)) ∨ (¬ (0 ≤ a0_ ∧ a0_ < (nm_.length : Int)) ∧ zSR F_ s_ Mz ∧ ((-1)) = (-1 : Int))) by exact Or.inr ⟨by omega, p1_, rfl⟩) d_M_uses_17
set_option maxHeartbeats 4000000 in
theorem c_M_growsS (l : Launch) (Mz : zMem) (hW : zMt Mz) (a0_ : Int) (ha0_a : -2147483648 ≤ a0_) (ha0_b : a0_ < 2147483648) (a1_ : Int) (ha1_a : -2147483648 ≤ a1_) (ha1_b : a1_ < 2147483648) (a2_ : Int) (ha2_a : -2147483648 ≤ a2_) (ha2_b : a2_ < 2147483648) (F_ : Nat) (K_ : Nat → Nat → Int) (hA_ : zTA F_ K_) (s_ : zSg) (p0_ : zRmk F_ K_ Mz) (p1_ : zSR F_ s_ Mz) (p2_ : zSB F_ s_) : zC l m_M_grows 0 0 [.ref 81, .int (Int32.ofInt a0_), .int (Int32.ofInt a1_), .int (Int32.ofInt a2_)] Mz (zpJ [60] [98, 105, 111] Mz (fun v N => ((((((-9 ≤ a0_ ∧ a0_ ≤ 9) ∧ (-999 ≤ a1_ ∧ a1_ ≤ 999) ∧ 0 ≤ a2_ ∧ a2_ < (F_ : Int)) ∧ zfit F_ K_ (zgrw s_.1 a0_ a1_ a2_)) ∧ zSR F_ (zpush s_ (zgrw s_.1 a0_ a1_ a2_)) N ∧ v = (zgrw s_.1 a0_ a1_ a2_) (a2_).toNat) ∨ (¬ (((-9 ≤ a0_ ∧ a0_ ≤ 9) ∧ (-999 ≤ a1_ ∧ a1_ ≤ 999) ∧ 0 ≤ a2_ ∧ a2_ < (F_ : Int)) ∧ zfit F_ K_ (zgrw s_.1 a0_ a1_ a2_)) ∧ zSR F_ s_ N ∧ v = (-9223372036854775808 : Int)))))) := by
  refine zC_of (L0 := [some (.ref 81), some (.int (Int32.ofInt a0_)), some (.int (Int32.ofInt a1_)), some (.int (Int32.ofInt a2_)), none]) md_M_grows (Nat.le_of_ble_eq_true rfl) rfl ?_ zQ0
  have hf : zFr [60] [98, 105, 111] Mz Mz := zFr.rf
  have r_26 := ze_r Mz 81 26
  obtain ⟨⟨hF1_, hF27_⟩, hAr_⟩ := id hA_
  obtain ⟨hFc_, hKt_⟩ := id p0_
  obtain ⟨⟨hs1_, hs2_⟩, hs3_, hs4_⟩ := id p1_
  have hF64_ : F_ ≤ 64 := by omega
  refine zw_aload_n (pc := 0) (n := 0) (x := 81) rfl d_M_grows_0 ?_
  refine zw_iload_n (pc := 1) (n := 3) (x := Int32.ofInt a2_) rfl d_M_grows_1 ?_
  refine zr_callV (hf.w hW) hf.x (pc := 2) [.int (Int32.ofInt a2_)] [] l_M_414 (c_M_isSortF l Mz (hf.w hW) a2_ ha2_a ha2_b F_ K_ hA_ p0_) rfl rfl rfl (by decide) (Nat.le_of_ble_eq_true rfl) d_M_grows_2 ?_
  rintro _ N1_ ⟨v2_, rfl, ⟨hv2_a, hv2_b⟩, hsN1_, hp0_N1_⟩
  obtain rfl := hsN1_.eq.symm
  replace hp0_N1_ : ((v2_ = 1 ∧ 0 ≤ a2_ ∧ a2_ < (F_ : Int)) ∨ (v2_ = 0 ∧ (a2_ < 0 ∨ (F_ : Int) ≤ a2_))) := hp0_N1_
  rcases hp0_N1_ with ⟨rfl, ha2_0_hp0_N1_, ha2_1_hp0_N1_⟩ | ⟨rfl, ha2_0_hp0_N1_⟩
  · skip
    show zW l m_M_grows (zn Mz + 0, zw Mz + 0) Mz 5 [some (.ref 81), some (.int (Int32.ofInt a0_)), some (.int (Int32.ofInt a1_)), some (.int (Int32.ofInt a2_)), none] [.int (Int32.ofInt 1)] (zpJ [60] [98, 105, 111] Mz (fun v N => ((((((-9 ≤ a0_ ∧ a0_ ≤ 9) ∧ (-999 ≤ a1_ ∧ a1_ ≤ 999) ∧ 0 ≤ a2_ ∧ a2_ < (F_ : Int)) ∧ zfit F_ K_ (zgrw s_.1 a0_ a1_ a2_)) ∧ zSR F_ (zpush s_ (zgrw s_.1 a0_ a1_ a2_)) N ∧ v = (zgrw s_.1 a0_ a1_ a2_) (a2_).toNat) ∨ (¬ (((-9 ≤ a0_ ∧ a0_ ≤ 9) ∧ (-999 ≤ a1_ ∧ a1_ ≤ 999) ∧ 0 ≤ a2_ ∧ a2_ < (F_ : Int)) ∧ zfit F_ K_ (zgrw s_.1 a0_ a1_ a2_)) ∧ zSR F_ s_ N ∧ v = (-9223372036854775808 : Int))))))
    refine zr_if_eq (pc := 5) (tgt := 36) ⟨(by decide), (by decide)⟩ (by decide) d_M_grows_5 (fun hc_5 => ?_) (fun hc_5 => ?_)
    · skip
      exact absurd hc_5 (by decide)
    · skip
      refine zw_iload_n (pc := 8) (n := 1) (x := Int32.ofInt a0_) rfl d_M_grows_8 ?_
      refine zr_i2l (pc := 9) ⟨ha0_a, ha0_b⟩ d_M_grows_9 ?_
      refine zr_ldc2 (pc := 10) (n := (-9)) (by decide) k_M_523 d_M_grows_10 ?_
      refine zr_ldc2 (pc := 13) (n := 9) (by decide) k_M_525 d_M_grows_13 ?_
      refine zr_callS hf.x (pc := 16) [.long (Int64.ofInt a0_), .long (Int64.ofInt ((-9))), .long (Int64.ofInt 9)] [] l_M_131 (c_M_isIn l Mz (hf.w hW) a0_ (by omega) (by omega) ((-9)) (by decide) (by decide) 9 (by decide) (by decide)) rfl rfl (by decide) (Nat.le_of_ble_eq_true rfl) d_M_grows_16 ?_
      rintro _ N3_ ⟨v4_, rfl, ⟨hv4_a, hv4_b⟩, hsN3_, hp0_N3_⟩
      obtain rfl := hsN3_.eq.symm
      replace hp0_N3_ : ((v4_ = 1 ∧ ((-9)) ≤ a0_ ∧ a0_ ≤ 9) ∨ (v4_ = 0 ∧ (a0_ < ((-9)) ∨ 9 < a0_))) := hp0_N3_
      rcases hp0_N3_ with ⟨rfl, ha16_0_hp0_N3_, ha16_1_hp0_N3_⟩ | ⟨rfl, ha16_0_hp0_N3_⟩
      · skip
        show zW l m_M_grows (zn Mz + 0, zw Mz + 0) Mz 19 [some (.ref 81), some (.int (Int32.ofInt a0_)), some (.int (Int32.ofInt a1_)), some (.int (Int32.ofInt a2_)), none] [.int (Int32.ofInt 1)] (zpJ [60] [98, 105, 111] Mz (fun v N => ((((((-9 ≤ a0_ ∧ a0_ ≤ 9) ∧ (-999 ≤ a1_ ∧ a1_ ≤ 999) ∧ 0 ≤ a2_ ∧ a2_ < (F_ : Int)) ∧ zfit F_ K_ (zgrw s_.1 a0_ a1_ a2_)) ∧ zSR F_ (zpush s_ (zgrw s_.1 a0_ a1_ a2_)) N ∧ v = (zgrw s_.1 a0_ a1_ a2_) (a2_).toNat) ∨ (¬ (((-9 ≤ a0_ ∧ a0_ ≤ 9) ∧ (-999 ≤ a1_ ∧ a1_ ≤ 999) ∧ 0 ≤ a2_ ∧ a2_ < (F_ : Int)) ∧ zfit F_ K_ (zgrw s_.1 a0_ a1_ a2_)) ∧ zSR F_ s_ N ∧ v = (-9223372036854775808 : Int))))))
        refine zr_if_eq (pc := 19) (tgt := 36) ⟨(by decide), (by decide)⟩ (by decide) d_M_grows_19 (fun hc_19 => ?_) (fun hc_19 => ?_)
        · skip
          exact absurd hc_19 (by decide)
        · skip
          refine zw_iload_n (pc := 22) (n := 2) (x := Int32.ofInt a1_) rfl d_M_grows_22 ?_
          refine zr_i2l (pc := 23) ⟨ha1_a, ha1_b⟩ d_M_grows_23 ?_
          refine zr_ldc2 (pc := 24) (n := (-999)) (by decide) k_M_527 d_M_grows_24 ?_
          refine zr_ldc2 (pc := 27) (n := 999) (by decide) k_M_529 d_M_grows_27 ?_
          refine zr_callS hf.x (pc := 30) [.long (Int64.ofInt a1_), .long (Int64.ofInt ((-999))), .long (Int64.ofInt 999)] [] l_M_131 (c_M_isIn l Mz (hf.w hW) a1_ (by omega) (by omega) ((-999)) (by decide) (by decide) 999 (by decide) (by decide)) rfl rfl (by decide) (Nat.le_of_ble_eq_true rfl) d_M_grows_30 ?_
          rintro _ N5_ ⟨v6_, rfl, ⟨hv6_a, hv6_b⟩, hsN5_, hp0_N5_⟩
          obtain rfl := hsN5_.eq.symm
          replace hp0_N5_ : ((v6_ = 1 ∧ ((-999)) ≤ a1_ ∧ a1_ ≤ 999) ∨ (v6_ = 0 ∧ (a1_ < ((-999)) ∨ 999 < a1_))) := hp0_N5_
          rcases hp0_N5_ with ⟨rfl, ha30_0_hp0_N5_, ha30_1_hp0_N5_⟩ | ⟨rfl, ha30_0_hp0_N5_⟩
          · skip
            show zW l m_M_grows (zn Mz + 0, zw Mz + 0) Mz 33 [some (.ref 81), some (.int (Int32.ofInt a0_)), some (.int (Int32.ofInt a1_)), some (.int (Int32.ofInt a2_)), none] [.int (Int32.ofInt 1)] (zpJ [60] [98, 105, 111] Mz (fun v N => ((((((-9 ≤ a0_ ∧ a0_ ≤ 9) ∧ (-999 ≤ a1_ ∧ a1_ ≤ 999) ∧ 0 ≤ a2_ ∧ a2_ < (F_ : Int)) ∧ zfit F_ K_ (zgrw s_.1 a0_ a1_ a2_)) ∧ zSR F_ (zpush s_ (zgrw s_.1 a0_ a1_ a2_)) N ∧ v = (zgrw s_.1 a0_ a1_ a2_) (a2_).toNat) ∨ (¬ (((-9 ≤ a0_ ∧ a0_ ≤ 9) ∧ (-999 ≤ a1_ ∧ a1_ ≤ 999) ∧ 0 ≤ a2_ ∧ a2_ < (F_ : Int)) ∧ zfit F_ K_ (zgrw s_.1 a0_ a1_ a2_)) ∧ zSR F_ s_ N ∧ v = (-9223372036854775808 : Int))))))
            refine zr_if_ne (pc := 33) (tgt := 40) ⟨(by decide), (by decide)⟩ (by decide) d_M_grows_33 (fun hc_33 => ?_) (fun hc_33 => ?_)
            · skip
              refine zw_iconst (pc := 40) (v := Int32.ofInt 0) (by decide) d_M_grows_40 ?_
              refine zw_istore (pc := 41) (i := 4) (L2 := [some (.ref 81), some (.int (Int32.ofInt a0_)), some (.int (Int32.ofInt a1_)), some (.int (Int32.ofInt a2_)), some (.int (Int32.ofInt 0))]) (by decide) rfl d_M_grows_41 ?_
              have lp_43 : ∀ (n : Nat) (u7_ : Int) (hu7_a : -2147483648 ≤ u7_) (hu7_b : u7_ < 2147483648) (N8_ : zMem) (hs9_ : zFr [] [105] Mz N8_) (i10_ : 0 ≤ u7_) (i11_ : u7_ ≤ F_) (i12_ : (∀ k : Nat, (k : Int) < u7_ → zg N8_ 105 k = (zgrw s_.1 a0_ a1_ a2_) k)), (F_ - u7_).toNat < n → zW l m_M_grows (zn Mz + 0, zw Mz + 0) N8_ 43 [some (.ref 81), some (.int (Int32.ofInt a0_)), some (.int (Int32.ofInt a1_)), some (.int (Int32.ofInt a2_)), some (.int (Int32.ofInt u7_))] [] (zpJ [60] [98, 105, 111] Mz (fun v N => ((((((-9 ≤ a0_ ∧ a0_ ≤ 9) ∧ (-999 ≤ a1_ ∧ a1_ ≤ 999) ∧ 0 ≤ a2_ ∧ a2_ < (F_ : Int)) ∧ zfit F_ K_ (zgrw s_.1 a0_ a1_ a2_)) ∧ zSR F_ (zpush s_ (zgrw s_.1 a0_ a1_ a2_)) N ∧ v = (zgrw s_.1 a0_ a1_ a2_) (a2_).toNat) ∨ (¬ (((-9 ≤ a0_ ∧ a0_ ≤ 9) ∧ (-999 ≤ a1_ ∧ a1_ ≤ 999) ∧ 0 ≤ a2_ ∧ a2_ < (F_ : Int)) ∧ zfit F_ K_ (zgrw s_.1 a0_ a1_ a2_)) ∧ zSR F_ s_ N ∧ v = (-9223372036854775808 : Int)))))) := by
                intro n
                induction n with
                | zero =>
                  intro u7_ hu7_a hu7_b N8_ hs9_ i10_ i11_ i12_ h0
                  exact absurd h0 (Nat.not_lt_zero _)
                | succ n ih_43 =>
                  intro u7_ hu7_a hu7_b N8_ hs9_ i10_ i11_ i12_ hlt_43
                  have hf_N8_ : zFr [60] [98, 105, 111] Mz N8_ := hf.tr hs9_ (by decide) (by decide)
                  have e26_N8_ : ze N8_ 81 26 = ze Mz 81 26 := hs9_.e (by decide)
                  have c13_ : zRmk F_ K_ N8_ := zRmk.fr hs9_ p0_ (by decide) (by decide)
                  have c14_ : zSR F_ s_ N8_ := zSR.fr hs9_ p1_ (by decide) (by decide)
                  have hgi_ := (show (∀ k : Nat, (k : Int) < u7_ → zg N8_ 105 k = (zgrw s_.1 a0_ a1_ a2_) k) by assumption)
                  refine zw_iload (pc := 43) (i := 4) (x := Int32.ofInt u7_) rfl d_M_grows_43 ?_
                  refine zw_aload_n (pc := 45) (n := 0) (x := 81) rfl d_M_grows_45 ?_
                  refine zr_getI0 hf_N8_ hW (pc := 46) (by decide) f_M_235 rfl d_M_grows_46 ?_
                  refine zr_icmp_ge (pc := 49) (tgt := 88) ⟨hu7_a, hu7_b⟩ ⟨(ze_r Mz 81 26).1, (ze_r Mz 81 26).2⟩ (by decide) d_M_grows_49 (fun hc_49 => ?_) (fun hc_49 => ?_)
                  · skip
                    refine zw_aload_n (pc := 88) (n := 0) (x := 81) rfl d_M_grows_88 ?_
                    refine zw_aload_n (pc := 89) (n := 0) (x := 81) rfl d_M_grows_89 ?_
                    refine zr_getF (r := 105) (hf_N8_.w hW) (pc := 90) f_M_87 rfl (zh_105 (hf_N8_.w hW)).1 d_M_grows_90 ?_
                    refine zw_iconst (pc := 93) (v := Int32.ofInt 0) (by decide) d_M_grows_93 ?_
                    refine zr_callV (hf_N8_.w hW) hf_N8_.x (pc := 94) [.ref 105, .int (Int32.ofInt 0)] [] l_M_271 (c_M_isFit_105S l N8_ (hf_N8_.w hW) 0 (by decide) (by decide) F_ K_ hA_ c13_ (show 0 ≤ 0 by first | assumption | omega) (show 0 ≤ 0 by first | assumption | omega)) rfl rfl rfl (by decide) (Nat.le_of_ble_eq_true rfl) d_M_grows_94 ?_
                    rintro _ N15_ ⟨v16_, rfl, ⟨hv16_a, hv16_b⟩, hsN15_, ⟨hp0_N15_, hp1_N15_⟩⟩
                    obtain rfl := hsN15_.eq.symm
                    show zW l m_M_grows (zn Mz + 0, zw Mz + 0) N8_ 97 [some (.ref 81), some (.int (Int32.ofInt a0_)), some (.int (Int32.ofInt a1_)), some (.int (Int32.ofInt a2_)), some (.int (Int32.ofInt u7_))] [.int (Int32.ofInt v16_)] (zpJ [60] [98, 105, 111] Mz (fun v N => ((((((-9 ≤ a0_ ∧ a0_ ≤ 9) ∧ (-999 ≤ a1_ ∧ a1_ ≤ 999) ∧ 0 ≤ a2_ ∧ a2_ < (F_ : Int)) ∧ zfit F_ K_ (zgrw s_.1 a0_ a1_ a2_)) ∧ zSR F_ (zpush s_ (zgrw s_.1 a0_ a1_ a2_)) N ∧ v = (zgrw s_.1 a0_ a1_ a2_) (a2_).toNat) ∨ (¬ (((-9 ≤ a0_ ∧ a0_ ≤ 9) ∧ (-999 ≤ a1_ ∧ a1_ ≤ 999) ∧ 0 ≤ a2_ ∧ a2_ < (F_ : Int)) ∧ zfit F_ K_ (zgrw s_.1 a0_ a1_ a2_)) ∧ zSR F_ s_ N ∧ v = (-9223372036854775808 : Int))))))
                    have hif_ := hp1_N15_
                    have hgf_ : (∀ k : Nat, k < F_ → zg N8_ 105 k = (zgrw s_.1 a0_ a1_ a2_) k) := fun k_ hk_ => hgi_ k_ (by omega)
                    have hgc_ : ∀ k_ : Nat, k_ < F_ → zrw F_ N8_ 105 0 k_ = (zgrw s_.1 a0_ a1_ a2_) k_ := fun k_ hk_ => by unfold zrw; rw [if_pos hk_, show (0 : Int).toNat + k_ = k_ by omega]; exact hgf_ k_ hk_
                    have hgb_ := zgrw_b (n := a0_) (m := a1_) (i := a2_) p2_.1 (by omega) (by omega) (by omega) (by omega)
                    have hgv_ : ∀ k_, k_ < F_ → -10000000000000 ≤ zrw F_ N8_ 105 0 k_ ∧ zrw F_ N8_ 105 0 k_ ≤ 10000000000000 := fun k_ hk_ => by rw [hgc_ k_ hk_]; exact hgb_ k_ hk_
                    have hbd_ : zbd F_ K_ (zrw F_ N8_ 105 0) := fun k_ hk_ => by have h1_ := hgv_ k_ hk_; have h2_ := zmq_b (j := k_) hF27_ (fun i_ hi_ => hAr_.1 i_ k_ hi_ hk_) hgv_; omega
                    have hfi_ := hif_ hbd_
                    refine zr_if_ne (pc := 97) (tgt := 104) ⟨hv16_a, hv16_b⟩ (by decide) d_M_grows_97 (fun hc_97 => ?_) (fun hc_97 => ?_)
                    · skip
                      refine zw_aload_n (pc := 104) (n := 0) (x := 81) rfl d_M_grows_104 ?_
                      refine zr_callV (hf_N8_.w hW) hf_N8_.x (pc := 105) [] [] l_M_481 (c_M_actS l N8_ (hf_N8_.w hW) F_ hF64_ s_ c14_) rfl rfl rfl (by decide) (Nat.le_of_ble_eq_true rfl) d_M_grows_105 ?_
                      rintro _ N17_ ⟨rfl, hsN17_, hp0_N17_⟩
                      replace hp0_N17_ : zSA F_ s_ N17_ := hp0_N17_
                      have hf_N17_ : zFr [60] [98, 105, 111] Mz N17_ := hf_N8_.tr hsN17_ (by decide) (by decide)
                      have e26_N17_ : ze N17_ 81 26 = ze N8_ 81 26 := hsN17_.e (by decide)
                      have c19_ : zRmk F_ K_ N17_ := zRmk.fr hsN17_ c13_ (by decide) (by decide)
                      show zW l m_M_grows (zn Mz + 0, zw Mz + 0) N17_ 108 [some (.ref 81), some (.int (Int32.ofInt a0_)), some (.int (Int32.ofInt a1_)), some (.int (Int32.ofInt a2_)), some (.int (Int32.ofInt u7_))] [] (zpJ [60] [98, 105, 111] Mz (fun v N => ((((((-9 ≤ a0_ ∧ a0_ ≤ 9) ∧ (-999 ≤ a1_ ∧ a1_ ≤ 999) ∧ 0 ≤ a2_ ∧ a2_ < (F_ : Int)) ∧ zfit F_ K_ (zgrw s_.1 a0_ a1_ a2_)) ∧ zSR F_ (zpush s_ (zgrw s_.1 a0_ a1_ a2_)) N ∧ v = (zgrw s_.1 a0_ a1_ a2_) (a2_).toNat) ∨ (¬ (((-9 ≤ a0_ ∧ a0_ ≤ 9) ∧ (-999 ≤ a1_ ∧ a1_ ≤ 999) ∧ 0 ≤ a2_ ∧ a2_ < (F_ : Int)) ∧ zfit F_ K_ (zgrw s_.1 a0_ a1_ a2_)) ∧ zSR F_ s_ N ∧ v = (-9223372036854775808 : Int))))))
                      have hgf_ : (∀ k : Nat, k < F_ → zg N17_ 105 k = (zgrw s_.1 a0_ a1_ a2_) k) := fun k_ hk_ => (hsN17_.jg (by decide) (by decide) k_).trans (hgf_ k_ hk_)
                      refine zw_iconst (pc := 108) (v := Int32.ofInt 0) (by decide) d_M_grows_108 ?_
                      refine zw_istore (pc := 109) (i := 4) (L2 := [some (.ref 81), some (.int (Int32.ofInt a0_)), some (.int (Int32.ofInt a1_)), some (.int (Int32.ofInt a2_)), some (.int (Int32.ofInt 0))]) (by decide) rfl d_M_grows_109 ?_
                      have lp_111 : ∀ (n : Nat) (u20_ : Int) (hu20_a : -2147483648 ≤ u20_) (hu20_b : u20_ < 2147483648) (N21_ : zMem) (hs22_ : zFr [] [98] N17_ N21_) (i23_ : 0 ≤ u20_) (i24_ : u20_ ≤ F_) (i25_ : (∀ k : Nat, (k : Int) < u20_ → zg N21_ 98 k = (zgrw s_.1 a0_ a1_ a2_) k)) (i26_ : (∀ k : Nat, k < F_ → zg N21_ 105 k = (zgrw s_.1 a0_ a1_ a2_) k)), (F_ - u20_).toNat < n → zW l m_M_grows (zn Mz + 0, zw Mz + 0) N21_ 111 [some (.ref 81), some (.int (Int32.ofInt a0_)), some (.int (Int32.ofInt a1_)), some (.int (Int32.ofInt a2_)), some (.int (Int32.ofInt u20_))] [] (zpJ [60] [98, 105, 111] Mz (fun v N => ((((((-9 ≤ a0_ ∧ a0_ ≤ 9) ∧ (-999 ≤ a1_ ∧ a1_ ≤ 999) ∧ 0 ≤ a2_ ∧ a2_ < (F_ : Int)) ∧ zfit F_ K_ (zgrw s_.1 a0_ a1_ a2_)) ∧ zSR F_ (zpush s_ (zgrw s_.1 a0_ a1_ a2_)) N ∧ v = (zgrw s_.1 a0_ a1_ a2_) (a2_).toNat) ∨ (¬ (((-9 ≤ a0_ ∧ a0_ ≤ 9) ∧ (-999 ≤ a1_ ∧ a1_ ≤ 999) ∧ 0 ≤ a2_ ∧ a2_ < (F_ : Int)) ∧ zfit F_ K_ (zgrw s_.1 a0_ a1_ a2_)) ∧ zSR F_ s_ N ∧ v = (-9223372036854775808 : Int)))))) := by
                        intro n
                        induction n with
                        | zero =>
                          intro u20_ hu20_a hu20_b N21_ hs22_ i23_ i24_ i25_ i26_ h0
                          exact absurd h0 (Nat.not_lt_zero _)
                        | succ n ih_111 =>
                          intro u20_ hu20_a hu20_b N21_ hs22_ i23_ i24_ i25_ i26_ hlt_111
                          have hf_N21_ : zFr [60] [98, 105, 111] Mz N21_ := hf_N17_.tr hs22_ (by decide) (by decide)
                          have e26_N21_ : ze N21_ 81 26 = ze N17_ 81 26 := hs22_.e (by decide)
                          have c27_ : zRmk F_ K_ N21_ := zRmk.fr hs22_ c19_ (by decide) (by decide)
                          have c28_ : zSA F_ s_ N21_ := zSA.fr hs22_ hp0_N17_ (by decide) (by decide)
                          have hgj_ := (show (∀ k : Nat, (k : Int) < u20_ → zg N21_ 98 k = (zgrw s_.1 a0_ a1_ a2_) k) by assumption)
                          have hgf_ := (show (∀ k : Nat, k < F_ → zg N21_ 105 k = (zgrw s_.1 a0_ a1_ a2_) k) by assumption)
                          refine zw_iload (pc := 111) (i := 4) (x := Int32.ofInt u20_) rfl d_M_grows_111 ?_
                          refine zw_aload_n (pc := 113) (n := 0) (x := 81) rfl d_M_grows_113 ?_
                          refine zr_getI0 hf_N21_ hW (pc := 114) (by decide) f_M_235 rfl d_M_grows_114 ?_
                          refine zr_icmp_ge (pc := 117) (tgt := 140) ⟨hu20_a, hu20_b⟩ ⟨(ze_r Mz 81 26).1, (ze_r Mz 81 26).2⟩ (by decide) d_M_grows_117 (fun hc_117 => ?_) (fun hc_117 => ?_)
                          · skip
                            refine zw_aload_n (pc := 140) (n := 0) (x := 81) rfl d_M_grows_140 ?_
                            refine zr_getF (r := 98) (hf_N21_.w hW) (pc := 141) f_M_66 rfl (zh_98 (hf_N21_.w hW)).1 d_M_grows_141 ?_
                            refine zw_iload_n (pc := 144) (n := 3) (x := Int32.ofInt a2_) rfl d_M_grows_144 ?_
                            refine zr_laldn (pc := 145) (zh_98 (hf_N21_.w hW)).2 (by decide) (by omega) (by omega) d_M_grows_145 (fun v29_ hv29_ hv29_a hv29_b => ?_)
                            have hv_ := hv29_.trans (hgj_ _ (by omega))
                            exact zr_lret (pc := 146) rfl ⟨by omega, by omega⟩ hf_N21_ (show (((((-9 ≤ a0_ ∧ a0_ ≤ 9) ∧ (-999 ≤ a1_ ∧ a1_ ≤ 999) ∧ 0 ≤ a2_ ∧ a2_ < (F_ : Int)) ∧ zfit F_ K_ (zgrw s_.1 a0_ a1_ a2_)) ∧ zSR F_ (zpush s_ (zgrw s_.1 a0_ a1_ a2_)) N21_ ∧ v29_ = (zgrw s_.1 a0_ a1_ a2_) (a2_).toNat) ∨ (¬ (((-9 ≤ a0_ ∧ a0_ ≤ 9) ∧ (-999 ≤ a1_ ∧ a1_ ≤ 999) ∧ 0 ≤ a2_ ∧ a2_ < (F_ : Int)) ∧ zfit F_ K_ (zgrw s_.1 a0_ a1_ a2_)) ∧ zSR F_ s_ N21_ ∧ v29_ = (-9223372036854775808 : Int))) by exact Or.inl ⟨⟨by omega, zfit_c (hfi_.mp (by omega)) hgc_⟩, c28_.ps (fun k_ hk_ => hgj_ k_ (by omega)), hv_⟩) d_M_grows_146
                          · skip
                            refine zw_aload_n (pc := 120) (n := 0) (x := 81) rfl d_M_grows_120 ?_
                            refine zr_getF (r := 98) (hf_N21_.w hW) (pc := 121) f_M_66 rfl (zh_98 (hf_N21_.w hW)).1 d_M_grows_121 ?_
                            refine zw_iload (pc := 124) (i := 4) (x := Int32.ofInt u20_) rfl d_M_grows_124 ?_
                            refine zw_aload_n (pc := 126) (n := 0) (x := 81) rfl d_M_grows_126 ?_
                            refine zr_getF (r := 105) (hf_N21_.w hW) (pc := 127) f_M_87 rfl (zh_105 (hf_N21_.w hW)).1 d_M_grows_127 ?_
                            refine zw_iload (pc := 130) (i := 4) (x := Int32.ofInt u20_) rfl d_M_grows_130 ?_
                            refine zr_laldn (pc := 132) (zh_105 (hf_N21_.w hW)).2 (by decide) (by omega) (by omega) d_M_grows_132 (fun v30_ hv30_ hv30_a hv30_b => ?_)
                            have hx_ := hv30_.trans (hgf_ _ (by omega))
                            refine zr_last (pc := 133) (zh_98 (hf_N21_.w hW)).2 (by decide) (by decide) (by omega) (by omega) d_M_grows_133 (fun N31_ hN31_ hsN31_ => ?_)
                            have hf_N31_ : zFr [60] [98, 105, 111] Mz N31_ := hf_N21_.tr hsN31_ (by decide) (by decide)
                            have hb0_N31_ : zFr [] [98] N17_ N31_ := hs22_.tr hsN31_ (by decide) (by decide)
                            have e26_N31_ : ze N31_ 81 26 = ze N21_ 81 26 := hsN31_.e (by decide)
                            have c32_ : zRmk F_ K_ N31_ := zRmk.fr hsN31_ c27_ (by decide) (by decide)
                            have c33_ : zSA F_ s_ N31_ := zSA.fr hsN31_ c28_ (by decide) (by decide)
                            have hgj2_ : (∀ k : Nat, (k : Int) < u20_ + 1 → zg N31_ 98 k = (zgrw s_.1 a0_ a1_ a2_) k) := fun k_ hk_ => by by_cases g_ : (k_ : Int) = u20_; (rw [show k_ = (u20_).toNat by omega, zs_getJ hN31_ ⟨by omega, by omega⟩]; exact hx_); (rw [zs_othJ hN31_ (by omega)]; exact hgj_ k_ (by omega))
                            have hgf3_ : (∀ k : Nat, k < F_ → zg N31_ 105 k = (zgrw s_.1 a0_ a1_ a2_) k) := fun k_ hk_ => (hsN31_.jg (by decide) (by decide) k_).trans (hgf_ k_ hk_)
                            refine zr_iinc (pc := 134) (i := 4) (a := u20_) (n := 1) (L2 := [some (.ref 81), some (.int (Int32.ofInt a0_)), some (.int (Int32.ofInt a1_)), some (.int (Int32.ofInt a2_)), some (.int (Int32.ofInt (u20_ + 1)))]) rfl (by decide) rfl d_M_grows_134 ?_
                            refine zw_goto (pc := 137) (tgt := 111) (by decide) d_M_grows_137 ?_
                            exact ih_111 (u20_ + 1) (by omega) (by omega) N31_ hb0_N31_ (show 0 ≤ (u20_ + 1) by first | assumption | omega) (show (u20_ + 1) ≤ F_ by first | assumption | omega) (show (∀ k : Nat, (k : Int) < (u20_ + 1) → zg N31_ 98 k = (zgrw s_.1 a0_ a1_ a2_) k) by exact hgj2_) (show (∀ k : Nat, k < F_ → zg N31_ 105 k = (zgrw s_.1 a0_ a1_ a2_) k) by exact hgf3_) (by omega)
                      exact lp_111 _ 0 (by decide) (by decide) N17_ zFr.rf (show 0 ≤ (0 : Int) by first | assumption | omega) (show (0 : Int) ≤ F_ by first | assumption | omega) (show (∀ k : Nat, (k : Int) < (0 : Int) → zg N17_ 98 k = (zgrw s_.1 a0_ a1_ a2_) k) by exact fun k_ hk_ => absurd hk_ (by omega)) (show (∀ k : Nat, k < F_ → zg N17_ 105 k = (zgrw s_.1 a0_ a1_ a2_) k) by exact hgf_) (Nat.lt_succ_self _)
                    · skip
                      refine zr_ldc2 (pc := 100) (n := (-9223372036854775808)) (by decide) k_M_470 d_M_grows_100 ?_
                      exact zr_lret (pc := 103) rfl ⟨by omega, by omega⟩ hf_N8_ (show (((((-9 ≤ a0_ ∧ a0_ ≤ 9) ∧ (-999 ≤ a1_ ∧ a1_ ≤ 999) ∧ 0 ≤ a2_ ∧ a2_ < (F_ : Int)) ∧ zfit F_ K_ (zgrw s_.1 a0_ a1_ a2_)) ∧ zSR F_ (zpush s_ (zgrw s_.1 a0_ a1_ a2_)) N8_ ∧ ((-9223372036854775808)) = (zgrw s_.1 a0_ a1_ a2_) (a2_).toNat) ∨ (¬ (((-9 ≤ a0_ ∧ a0_ ≤ 9) ∧ (-999 ≤ a1_ ∧ a1_ ≤ 999) ∧ 0 ≤ a2_ ∧ a2_ < (F_ : Int)) ∧ zfit F_ K_ (zgrw s_.1 a0_ a1_ a2_)) ∧ zSR F_ s_ N8_ ∧ ((-9223372036854775808)) = (-9223372036854775808 : Int))) by exact Or.inr ⟨fun q_ => by have h_ := hfi_.mpr (zfit_c q_.2 (fun i_ hi_ => (hgc_ i_ hi_).symm)); omega, c14_, rfl⟩) d_M_grows_103
                  · skip
                    refine zw_aload_n (pc := 52) (n := 0) (x := 81) rfl d_M_grows_52 ?_
                    refine zr_getF (r := 105) (hf_N8_.w hW) (pc := 53) f_M_87 rfl (zh_105 (hf_N8_.w hW)).1 d_M_grows_53 ?_
                    refine zw_iload (pc := 56) (i := 4) (x := Int32.ofInt u7_) rfl d_M_grows_56 ?_
                    refine zw_iload_n (pc := 58) (n := 1) (x := Int32.ofInt a0_) rfl d_M_grows_58 ?_
                    refine zr_i2l (pc := 59) ⟨ha0_a, ha0_b⟩ d_M_grows_59 ?_
                    refine zw_aload_n (pc := 60) (n := 0) (x := 81) rfl d_M_grows_60 ?_
                    refine zr_getF (r := 98) (hf_N8_.w hW) (pc := 61) f_M_66 rfl (zh_98 (hf_N8_.w hW)).1 d_M_grows_61 ?_
                    refine zw_iload (pc := 64) (i := 4) (x := Int32.ofInt u7_) rfl d_M_grows_64 ?_
                    refine zr_laldn (pc := 66) (zh_98 (hf_N8_.w hW)).2 (by decide) (by omega) (by omega) d_M_grows_66 (fun v34_ hv34_ hv34_a hv34_b => ?_)
                    have hy_ := hv34_.trans (c14_.2.1 _ (by omega))
                    have hb_ := p2_.1 (u7_).toNat (by omega)
                    unfold zLim at hb_
                    rw [← hy_] at hb_
                    have hm_ := zmul9 (n := a0_) (by omega) (by omega) hb_.1 hb_.2
                    refine zr_lmul (pc := 67) d_M_grows_67 ?_
                    refine zw_iload (pc := 68) (i := 4) (x := Int32.ofInt u7_) rfl d_M_grows_68 ?_
                    refine zw_iload_n (pc := 70) (n := 3) (x := Int32.ofInt a2_) rfl d_M_grows_70 ?_
                    refine zr_icmp_ne (pc := 71) (tgt := 78) ⟨hu7_a, hu7_b⟩ ⟨ha2_a, ha2_b⟩ (by decide) d_M_grows_71 (fun hc_71 => ?_) (fun hc_71 => ?_)
                    · skip
                      refine zw_iconst (pc := 78) (v := Int32.ofInt 0) (by decide) d_M_grows_78 ?_
                      refine zr_i2l (pc := 79) ⟨(by decide), (by decide)⟩ d_M_grows_79 ?_
                      refine zr_ladd (pc := 80) d_M_grows_80 ?_
                      have hx_ : ((a0_ * v34_) + 0) = (zgrw s_.1 a0_ a1_ a2_) (u7_).toNat := by show _ = _ * _ + (if _ then _ else _); rw [← hy_]; first | rw [if_pos (by omega)] | rw [if_neg (by omega)]
                      refine zr_last (pc := 81) (zh_105 (hf_N8_.w hW)).2 (by decide) (by decide) (by omega) (by omega) d_M_grows_81 (fun N35_ hN35_ hsN35_ => ?_)
                      have hf_N35_ : zFr [60] [98, 105, 111] Mz N35_ := hf_N8_.tr hsN35_ (by decide) (by decide)
                      have hb0_N35_ : zFr [] [105] Mz N35_ := hs9_.tr hsN35_ (by decide) (by decide)
                      have e26_N35_ : ze N35_ 81 26 = ze N8_ 81 26 := hsN35_.e (by decide)
                      have c36_ : zRmk F_ K_ N35_ := zRmk.fr hsN35_ c13_ (by decide) (by decide)
                      have c37_ : zSR F_ s_ N35_ := zSR.fr hsN35_ c14_ (by decide) (by decide)
                      have hgi2_ : (∀ k : Nat, (k : Int) < u7_ + 1 → zg N35_ 105 k = (zgrw s_.1 a0_ a1_ a2_) k) := fun k_ hk_ => by by_cases g_ : (k_ : Int) = u7_; (rw [show k_ = (u7_).toNat by omega, zs_getJ hN35_ ⟨by omega, by omega⟩]; exact hx_); (rw [zs_othJ hN35_ (by omega)]; exact hgi_ k_ (by omega))
                      refine zr_iinc (pc := 82) (i := 4) (a := u7_) (n := 1) (L2 := [some (.ref 81), some (.int (Int32.ofInt a0_)), some (.int (Int32.ofInt a1_)), some (.int (Int32.ofInt a2_)), some (.int (Int32.ofInt (u7_ + 1)))]) rfl (by decide) rfl d_M_grows_82 ?_
                      refine zw_goto (pc := 85) (tgt := 43) (by decide) d_M_grows_85 ?_
                      exact ih_43 (u7_ + 1) (by omega) (by omega) N35_ hb0_N35_ (show 0 ≤ (u7_ + 1) by first | assumption | omega) (show (u7_ + 1) ≤ F_ by first | assumption | omega) (show (∀ k : Nat, (k : Int) < (u7_ + 1) → zg N35_ 105 k = (zgrw s_.1 a0_ a1_ a2_) k) by exact hgi2_) (by omega)
                    · skip
                      refine zw_iload_n (pc := 74) (n := 2) (x := Int32.ofInt a1_) rfl d_M_grows_74 ?_
                      refine zw_goto (pc := 75) (tgt := 79) (by decide) d_M_grows_75 ?_
                      refine zr_i2l (pc := 79) ⟨ha1_a, ha1_b⟩ d_M_grows_79 ?_
                      refine zr_ladd (pc := 80) d_M_grows_80 ?_
                      have hx_ : ((a0_ * v34_) + a1_) = (zgrw s_.1 a0_ a1_ a2_) (u7_).toNat := by show _ = _ * _ + (if _ then _ else _); rw [← hy_]; first | rw [if_pos (by omega)] | rw [if_neg (by omega)]
                      refine zr_last (pc := 81) (zh_105 (hf_N8_.w hW)).2 (by decide) (by decide) (by omega) (by omega) d_M_grows_81 (fun N38_ hN38_ hsN38_ => ?_)
                      have hf_N38_ : zFr [60] [98, 105, 111] Mz N38_ := hf_N8_.tr hsN38_ (by decide) (by decide)
                      have hb0_N38_ : zFr [] [105] Mz N38_ := hs9_.tr hsN38_ (by decide) (by decide)
                      have e26_N38_ : ze N38_ 81 26 = ze N8_ 81 26 := hsN38_.e (by decide)
                      have c39_ : zRmk F_ K_ N38_ := zRmk.fr hsN38_ c13_ (by decide) (by decide)
                      have c40_ : zSR F_ s_ N38_ := zSR.fr hsN38_ c14_ (by decide) (by decide)
                      have hgi2_ : (∀ k : Nat, (k : Int) < u7_ + 1 → zg N38_ 105 k = (zgrw s_.1 a0_ a1_ a2_) k) := fun k_ hk_ => by by_cases g_ : (k_ : Int) = u7_; (rw [show k_ = (u7_).toNat by omega, zs_getJ hN38_ ⟨by omega, by omega⟩]; exact hx_); (rw [zs_othJ hN38_ (by omega)]; exact hgi_ k_ (by omega))
                      refine zr_iinc (pc := 82) (i := 4) (a := u7_) (n := 1) (L2 := [some (.ref 81), some (.int (Int32.ofInt a0_)), some (.int (Int32.ofInt a1_)), some (.int (Int32.ofInt a2_)), some (.int (Int32.ofInt (u7_ + 1)))]) rfl (by decide) rfl d_M_grows_82 ?_
                      refine zw_goto (pc := 85) (tgt := 43) (by decide) d_M_grows_85 ?_
                      exact ih_43 (u7_ + 1) (by omega) (by omega) N38_ hb0_N38_ (show 0 ≤ (u7_ + 1) by first | assumption | omega) (show (u7_ + 1) ≤ F_ by first | assumption | omega) (show (∀ k : Nat, (k : Int) < (u7_ + 1) → zg N38_ 105 k = (zgrw s_.1 a0_ a1_ a2_) k) by exact hgi2_) (by omega)
              exact lp_43 _ 0 (by decide) (by decide) Mz zFr.rf (show 0 ≤ (0 : Int) by first | assumption | omega) (show (0 : Int) ≤ F_ by first | assumption | omega) (show (∀ k : Nat, (k : Int) < (0 : Int) → zg Mz 105 k = (zgrw s_.1 a0_ a1_ a2_) k) by exact fun k_ hk_ => absurd hk_ (by omega)) (Nat.lt_succ_self _)
            · skip
              exact absurd hc_33 (by decide)
          · skip
            show zW l m_M_grows (zn Mz + 0, zw Mz + 0) Mz 33 [some (.ref 81), some (.int (Int32.ofInt a0_)), some (.int (Int32.ofInt a1_)), some (.int (Int32.ofInt a2_)), none] [.int (Int32.ofInt 0)] (zpJ [60] [98, 105, 111] Mz (fun v N => ((((((-9 ≤ a0_ ∧ a0_ ≤ 9) ∧ (-999 ≤ a1_ ∧ a1_ ≤ 999) ∧ 0 ≤ a2_ ∧ a2_ < (F_ : Int)) ∧ zfit F_ K_ (zgrw s_.1 a0_ a1_ a2_)) ∧ zSR F_ (zpush s_ (zgrw s_.1 a0_ a1_ a2_)) N ∧ v = (zgrw s_.1 a0_ a1_ a2_) (a2_).toNat) ∨ (¬ (((-9 ≤ a0_ ∧ a0_ ≤ 9) ∧ (-999 ≤ a1_ ∧ a1_ ≤ 999) ∧ 0 ≤ a2_ ∧ a2_ < (F_ : Int)) ∧ zfit F_ K_ (zgrw s_.1 a0_ a1_ a2_)) ∧ zSR F_ s_ N ∧ v = (-9223372036854775808 : Int))))))
            refine zr_if_ne (pc := 33) (tgt := 40) ⟨(by decide), (by decide)⟩ (by decide) d_M_grows_33 (fun hc_33 => ?_) (fun hc_33 => ?_)
            · skip
              exact absurd hc_33 (by decide)
            · skip
              refine zr_ldc2 (pc := 36) (n := (-9223372036854775808)) (by decide) k_M_470 d_M_grows_36 ?_
              exact zr_lret (pc := 39) rfl ⟨by omega, by omega⟩ hf (show (((((-9 ≤ a0_ ∧ a0_ ≤ 9) ∧ (-999 ≤ a1_ ∧ a1_ ≤ 999) ∧ 0 ≤ a2_ ∧ a2_ < (F_ : Int)) ∧ zfit F_ K_ (zgrw s_.1 a0_ a1_ a2_)) ∧ zSR F_ (zpush s_ (zgrw s_.1 a0_ a1_ a2_)) Mz ∧ ((-9223372036854775808)) = (zgrw s_.1 a0_ a1_ a2_) (a2_).toNat) ∨ (¬ (((-9 ≤ a0_ ∧ a0_ ≤ 9) ∧ (-999 ≤ a1_ ∧ a1_ ≤ 999) ∧ 0 ≤ a2_ ∧ a2_ < (F_ : Int)) ∧ zfit F_ K_ (zgrw s_.1 a0_ a1_ a2_)) ∧ zSR F_ s_ Mz ∧ ((-9223372036854775808)) = (-9223372036854775808 : Int))) by exact Or.inr ⟨fun q_ => by have h_ := q_.1; omega, p1_, rfl⟩) d_M_grows_39
      · skip
        show zW l m_M_grows (zn Mz + 0, zw Mz + 0) Mz 19 [some (.ref 81), some (.int (Int32.ofInt a0_)), some (.int (Int32.ofInt a1_)), some (.int (Int32.ofInt a2_)), none] [.int (Int32.ofInt 0)] (zpJ [60] [98, 105, 111] Mz (fun v N => ((((((-9 ≤ a0_ ∧ a0_ ≤ 9) ∧ (-999 ≤ a1_ ∧ a1_ ≤ 999) ∧ 0 ≤ a2_ ∧ a2_ < (F_ : Int)) ∧ zfit F_ K_ (zgrw s_.1 a0_ a1_ a2_)) ∧ zSR F_ (zpush s_ (zgrw s_.1 a0_ a1_ a2_)) N ∧ v = (zgrw s_.1 a0_ a1_ a2_) (a2_).toNat) ∨ (¬ (((-9 ≤ a0_ ∧ a0_ ≤ 9) ∧ (-999 ≤ a1_ ∧ a1_ ≤ 999) ∧ 0 ≤ a2_ ∧ a2_ < (F_ : Int)) ∧ zfit F_ K_ (zgrw s_.1 a0_ a1_ a2_)) ∧ zSR F_ s_ N ∧ v = (-9223372036854775808 : Int))))))
        refine zr_if_eq (pc := 19) (tgt := 36) ⟨(by decide), (by decide)⟩ (by decide) d_M_grows_19 (fun hc_19 => ?_) (fun hc_19 => ?_)
        · skip
          refine zr_ldc2 (pc := 36) (n := (-9223372036854775808)) (by decide) k_M_470 d_M_grows_36 ?_
          exact zr_lret (pc := 39) rfl ⟨by omega, by omega⟩ hf (show (((((-9 ≤ a0_ ∧ a0_ ≤ 9) ∧ (-999 ≤ a1_ ∧ a1_ ≤ 999) ∧ 0 ≤ a2_ ∧ a2_ < (F_ : Int)) ∧ zfit F_ K_ (zgrw s_.1 a0_ a1_ a2_)) ∧ zSR F_ (zpush s_ (zgrw s_.1 a0_ a1_ a2_)) Mz ∧ ((-9223372036854775808)) = (zgrw s_.1 a0_ a1_ a2_) (a2_).toNat) ∨ (¬ (((-9 ≤ a0_ ∧ a0_ ≤ 9) ∧ (-999 ≤ a1_ ∧ a1_ ≤ 999) ∧ 0 ≤ a2_ ∧ a2_ < (F_ : Int)) ∧ zfit F_ K_ (zgrw s_.1 a0_ a1_ a2_)) ∧ zSR F_ s_ Mz ∧ ((-9223372036854775808)) = (-9223372036854775808 : Int))) by exact Or.inr ⟨fun q_ => by have h_ := q_.1; omega, p1_, rfl⟩) d_M_grows_39
        · skip
          exact absurd hc_19 (by decide)
  · skip
    show zW l m_M_grows (zn Mz + 0, zw Mz + 0) Mz 5 [some (.ref 81), some (.int (Int32.ofInt a0_)), some (.int (Int32.ofInt a1_)), some (.int (Int32.ofInt a2_)), none] [.int (Int32.ofInt 0)] (zpJ [60] [98, 105, 111] Mz (fun v N => ((((((-9 ≤ a0_ ∧ a0_ ≤ 9) ∧ (-999 ≤ a1_ ∧ a1_ ≤ 999) ∧ 0 ≤ a2_ ∧ a2_ < (F_ : Int)) ∧ zfit F_ K_ (zgrw s_.1 a0_ a1_ a2_)) ∧ zSR F_ (zpush s_ (zgrw s_.1 a0_ a1_ a2_)) N ∧ v = (zgrw s_.1 a0_ a1_ a2_) (a2_).toNat) ∨ (¬ (((-9 ≤ a0_ ∧ a0_ ≤ 9) ∧ (-999 ≤ a1_ ∧ a1_ ≤ 999) ∧ 0 ≤ a2_ ∧ a2_ < (F_ : Int)) ∧ zfit F_ K_ (zgrw s_.1 a0_ a1_ a2_)) ∧ zSR F_ s_ N ∧ v = (-9223372036854775808 : Int))))))
    refine zr_if_eq (pc := 5) (tgt := 36) ⟨(by decide), (by decide)⟩ (by decide) d_M_grows_5 (fun hc_5 => ?_) (fun hc_5 => ?_)
    · skip
      refine zr_ldc2 (pc := 36) (n := (-9223372036854775808)) (by decide) k_M_470 d_M_grows_36 ?_
      exact zr_lret (pc := 39) rfl ⟨by omega, by omega⟩ hf (show (((((-9 ≤ a0_ ∧ a0_ ≤ 9) ∧ (-999 ≤ a1_ ∧ a1_ ≤ 999) ∧ 0 ≤ a2_ ∧ a2_ < (F_ : Int)) ∧ zfit F_ K_ (zgrw s_.1 a0_ a1_ a2_)) ∧ zSR F_ (zpush s_ (zgrw s_.1 a0_ a1_ a2_)) Mz ∧ ((-9223372036854775808)) = (zgrw s_.1 a0_ a1_ a2_) (a2_).toNat) ∨ (¬ (((-9 ≤ a0_ ∧ a0_ ≤ 9) ∧ (-999 ≤ a1_ ∧ a1_ ≤ 999) ∧ 0 ≤ a2_ ∧ a2_ < (F_ : Int)) ∧ zfit F_ K_ (zgrw s_.1 a0_ a1_ a2_)) ∧ zSR F_ s_ Mz ∧ ((-9223372036854775808)) = (-9223372036854775808 : Int))) by exact Or.inr ⟨fun q_ => by have h_ := q_.1; omega, p1_, rfl⟩) d_M_grows_39
    · skip
      exact absurd hc_5 (by decide)
