set_option maxHeartbeats 4000000 in
theorem u_Units_narrowAtX (l : Launch) (d_ : Nat) (Mz : zMem) (hW : zKW d_ Mz) (a0_ : Int) (ha0_a : -2147483648 ≤ a0_) (ha0_b : a0_ < 2147483648) : zC l m_Units_narrowAt 0 0 [.ref (d_ + 28), .int (Int32.ofInt a0_)] Mz (zqcV d_ [] [] [(28, 3)] [11, 30, 32] Mz (fun N => True)) := by
  refine zC_of (L0 := [some (.ref (d_ + 28)), some (.int (Int32.ofInt a0_)), none, none, none, none, none, none, none]) md_Units_narrowAt (Nat.le_of_ble_eq_true rfl) rfl ?_ zQ0
  have hf : zFc d_ [] [] [(28, 3)] [11, 30, 32] Mz Mz := zFc.rf
  refine zw_aload_n (pc := 0) (n := 0) (x := (d_ + 28)) rfl (zdal_p dlB_Units_narrowAt_82 (i := 0) rfl) ?_
  refine zw_getF (pc := 1) f_Units_23 rfl ((hf.w hW).kr (o := 28) (by decide)) ((hf.w hW).lr (o := 28) (s := 0) (r := 12) (by decide)) (zdal_p dlB_Units_narrowAt_82 (i := 1) rfl) ?_
  refine zw_getF (pc := 4) f_Units_50 rfl ((hf.w hW).kr (o := 12) (by decide)) ((hf.w hW).lr (o := 12) (s := 0) (r := 1) (by decide)) (zdal_p dlB_Units_narrowAt_82 (i := 2) rfl) ?_
  refine zw_astore_n (pc := 7) (i := 2) (L2 := [some (.ref (d_ + 28)), some (.int (Int32.ofInt a0_)), some (.ref (d_ + 1)), none, none, none, none, none, none]) rfl (by decide) rfl (zdal_p dlB_Units_narrowAt_82 (i := 3) rfl) ?_
  refine zw_aload_n (pc := 8) (n := 0) (x := (d_ + 28)) rfl (zdal_p dlB_Units_narrowAt_82 (i := 4) rfl) ?_
  refine zw_getF (pc := 9) f_Units_23 rfl ((hf.w hW).kr (o := 28) (by decide)) ((hf.w hW).lr (o := 28) (s := 0) (r := 12) (by decide)) (zdal_p dlB_Units_narrowAt_82 (i := 5) rfl) ?_
  refine zw_getF (pc := 12) f_Units_54 rfl ((hf.w hW).kr (o := 12) (by decide)) ((hf.w hW).lr (o := 12) (s := 4) (r := 19) (by decide)) (zdal_p dlB_Units_narrowAt_82 (i := 6) rfl) ?_
  refine zw_iload_n (pc := 15) (n := 1) (x := Int32.ofInt a0_) rfl (zdal_p dlB_Units_narrowAt_82 (i := 7) rfl) ?_
  refine zk_atG hf.x (pc := 16) l_Units_57 ((hf.w hW).kr (o := 19) (by decide)) ((hf.w hW).lr (o := 19) (s := 0) (r := 20) (by decide)) ((hf.w hW).rr (o := 20) (t := 1) (n := 27) (by decide)) (by decide) ⟨by omega, by omega⟩ (by decide) (Nat.le_of_ble_eq_true rfl) (zdal_p dlB_Units_narrowAt_82 (i := 8) rfl) (fun v1_ hv1_ hv1_a hv1_b => ?_)
  clear hv1_
  refine zw_istore_n (pc := 19) (i := 3) (L2 := [some (.ref (d_ + 28)), some (.int (Int32.ofInt a0_)), some (.ref (d_ + 1)), some (.int (Int32.ofInt v1_)), none, none, none, none, none]) rfl (by decide) rfl (zdal_p dlB_Units_narrowAt_82 (i := 9) rfl) ?_
  refine zw_iconst (pc := 20) (v := Int32.ofInt 0) (by decide) (zdal_p dlB_Units_narrowAt_82 (i := 10) rfl) ?_
  refine zw_istore (pc := 21) (i := 4) (L2 := [some (.ref (d_ + 28)), some (.int (Int32.ofInt a0_)), some (.ref (d_ + 1)), some (.int (Int32.ofInt v1_)), some (.int (Int32.ofInt 0)), none, none, none, none]) (by decide) rfl (zdal_p dlB_Units_narrowAt_82 (i := 11) rfl) ?_
  refine zw_aload_n (pc := 23) (n := 2) (x := (d_ + 1)) rfl (zdal_p dlB_Units_narrowAt_82 (i := 12) rfl) ?_
  refine zw_iload_n (pc := 24) (n := 3) (x := Int32.ofInt v1_) rfl (zdal_p dlB_Units_narrowAt_82 (i := 13) rfl) ?_
  refine zk_callV hf.x (pc := 25) [.int (Int32.ofInt v1_)] [] l_Units_61 (u_Group_normOfX l d_ Mz (hf.w hW) v1_ hv1_a hv1_b) rfl rfl ((hf.w hW).kr (o := 1) (by decide)) (by decide) (by decide) (Nat.le_of_ble_eq_true rfl) (zdal_p dlB_Units_narrowAt_82 (i := 14) rfl) ?_
  rintro _ N2_ ⟨v3_, rfl, ⟨hv3_a, hv3_b⟩, hsN2_, -⟩
  obtain rfl := hsN2_.eq.symm
  show zW l m_Units_narrowAt (zn Mz + 0, zw Mz + 0) Mz 28 [some (.ref (d_ + 28)), some (.int (Int32.ofInt a0_)), some (.ref (d_ + 1)), some (.int (Int32.ofInt v1_)), some (.int (Int32.ofInt 0)), none, none, none, none] [.int (Int32.ofInt v3_)] _
  refine zw_istore (pc := 28) (i := 5) (L2 := [some (.ref (d_ + 28)), some (.int (Int32.ofInt a0_)), some (.ref (d_ + 1)), some (.int (Int32.ofInt v1_)), some (.int (Int32.ofInt 0)), some (.int (Int32.ofInt v3_)), none, none, none]) (by decide) rfl (zdal_p dlB_Units_narrowAt_82 (i := 15) rfl) ?_
  refine zw_iconst (pc := 30) (v := Int32.ofInt 0) (by decide) (zdal_p dlB_Units_narrowAt_82 (i := 16) rfl) ?_
  refine zw_istore (pc := 31) (i := 6) (L2 := [some (.ref (d_ + 28)), some (.int (Int32.ofInt a0_)), some (.ref (d_ + 1)), some (.int (Int32.ofInt v1_)), some (.int (Int32.ofInt 0)), some (.int (Int32.ofInt v3_)), some (.int (Int32.ofInt 0)), none, none]) (by decide) rfl (zdal_p dlB_Units_narrowAt_82 (i := 17) rfl) ?_
  have lp_33 : ∀ (n : Nat) (u4_ : Int) (hu4_a : -2147483648 ≤ u4_) (hu4_b : u4_ < 2147483648) (u5_ : Int) (hu5_a : -2147483648 ≤ u5_) (hu5_b : u5_ < 2147483648) (N6_ : zMem) (hs7_ : zFc d_ [] [] [] [11, 32] Mz N6_) (i8_ : 0 ≤ u5_), (ze Mz (d_ + 1) 7 - u5_).toNat < n → zW l m_Units_narrowAt (zn Mz + 0, zw Mz + 0) N6_ 33 [some (.ref (d_ + 28)), some (.int (Int32.ofInt a0_)), some (.ref (d_ + 1)), some (.int (Int32.ofInt v1_)), some (.int (Int32.ofInt u4_)), some (.int (Int32.ofInt v3_)), some (.int (Int32.ofInt u5_)), none, none] [] (zqcV d_ [] [] [(28, 3)] [11, 30, 32] Mz (fun N => True)) := by
    intro n
    induction n with
    | zero =>
      intro u4_ hu4_a hu4_b u5_ hu5_a hu5_b N6_ hs7_ i8_ h0
      exact absurd h0 (Nat.not_lt_zero _)
    | succ n ih_33 =>
      intro u4_ hu4_a hu4_b u5_ hu5_a hu5_b N6_ hs7_ i8_ hlt_33
      have hf_N6_ : zFc d_ [] [] [(28, 3)] [11, 30, 32] Mz N6_ := hf.tr hs7_ (by decide) (by decide) (by decide) (by decide)
      refine zw_iload (pc := 33) (i := 6) (x := Int32.ofInt u5_) rfl (zdal_p dlB_Units_narrowAt_82 (i := 18) rfl) ?_
      refine zw_aload_n (pc := 35) (n := 2) (x := (d_ + 1)) rfl (zdal_p dlB_Units_narrowAt_82 (i := 19) rfl) ?_
      refine zk_getI (pc := 36) f_Units_66 rfl ((hf_N6_.w hW).kr (o := 1) (by decide)) (zdal_p dlB_Units_narrowAt_82 (i := 20) rfl) ?_
      rw [hf_N6_.e (by decide)]
      have hr9_ := ze_r Mz (d_ + 1) 7
      refine zr_icmp_ge (pc := 39) (tgt := 105) ⟨hu5_a, hu5_b⟩ ⟨(ze_r Mz (d_ + 1) 7).1, (ze_r Mz (d_ + 1) 7).2⟩ (by decide) (zdal_p dlB_Units_narrowAt_82 (i := 21) rfl) (fun hc_39 => ?_) (fun hc_39 => ?_)
      · skip
        refine zw_iconst (pc := 105) (v := Int32.ofInt 0) (by decide) (zdal_p dlB_Units_narrowAt_84 (i := 6) rfl) ?_
        refine zw_istore (pc := 106) (i := 6) (L2 := [some (.ref (d_ + 28)), some (.int (Int32.ofInt a0_)), some (.ref (d_ + 1)), some (.int (Int32.ofInt v1_)), some (.int (Int32.ofInt u4_)), some (.int (Int32.ofInt v3_)), some (.int (Int32.ofInt 0)), none, none]) (by decide) rfl (zdal_p dlB_Units_narrowAt_84 (i := 7) rfl) ?_
        have lp_108 : ∀ (n : Nat) (u10_ : Int) (hu10_a : -2147483648 ≤ u10_) (hu10_b : u10_ < 2147483648) (N11_ : zMem) (hs12_ : zFc d_ [] [] [(28, 3)] [30] N6_ N11_) (i13_ : 0 ≤ u10_), (ze Mz (d_ + 1) 7 - u10_).toNat < n → zW l m_Units_narrowAt (zn Mz + 0, zw Mz + 0) N11_ 108 [some (.ref (d_ + 28)), some (.int (Int32.ofInt a0_)), some (.ref (d_ + 1)), some (.int (Int32.ofInt v1_)), some (.int (Int32.ofInt u4_)), some (.int (Int32.ofInt v3_)), some (.int (Int32.ofInt u10_)), none, none] [] (zqcV d_ [] [] [(28, 3)] [11, 30, 32] Mz (fun N => True)) := by
          intro n
          induction n with
          | zero =>
            intro u10_ hu10_a hu10_b N11_ hs12_ i13_ h0
            exact absurd h0 (Nat.not_lt_zero _)
          | succ n ih_108 =>
            intro u10_ hu10_a hu10_b N11_ hs12_ i13_ hlt_108
            have hf_N11_ : zFc d_ [] [] [(28, 3)] [11, 30, 32] Mz N11_ := hf_N6_.tr hs12_ (by decide) (by decide) (by decide) (by decide)
            refine zw_iload (pc := 108) (i := 6) (x := Int32.ofInt u10_) rfl (zdal_p dlB_Units_narrowAt_84 (i := 8) rfl) ?_
            refine zw_aload_n (pc := 110) (n := 2) (x := (d_ + 1)) rfl (zdal_p dlB_Units_narrowAt_84 (i := 9) rfl) ?_
            refine zk_getI (pc := 111) f_Units_66 rfl ((hf_N11_.w hW).kr (o := 1) (by decide)) (zdal_p dlB_Units_narrowAt_84 (i := 10) rfl) ?_
            rw [hf_N11_.e (by decide)]
            refine zr_icmp_ge (pc := 114) (tgt := 215) ⟨hu10_a, hu10_b⟩ ⟨(ze_r Mz (d_ + 1) 7).1, (ze_r Mz (d_ + 1) 7).2⟩ (by decide) (zdal_p dlB_Units_narrowAt_84 (i := 11) rfl) (fun hc_114 => ?_) (fun hc_114 => ?_)
            · skip
              exact zk_vret (pc := 215) rfl hf_N11_ trivial (zdal_p dlB_Units_narrowAt_86 (i := 10) rfl)
            · skip
              refine zw_iconst (pc := 117) (v := Int32.ofInt 0) (by decide) (zdal_p dlB_Units_narrowAt_84 (i := 12) rfl) ?_
              refine zw_istore (pc := 118) (i := 7) (L2 := [some (.ref (d_ + 28)), some (.int (Int32.ofInt a0_)), some (.ref (d_ + 1)), some (.int (Int32.ofInt v1_)), some (.int (Int32.ofInt u4_)), some (.int (Int32.ofInt v3_)), some (.int (Int32.ofInt u10_)), some (.int (Int32.ofInt 0)), none]) (by decide) rfl (zdal_p dlB_Units_narrowAt_84 (i := 13) rfl) ?_
              have lp_120 : ∀ (n : Nat) (u14_ : Int) (hu14_a : -2147483648 ≤ u14_) (hu14_b : u14_ < 2147483648) (N15_ : zMem) (hs16_ : zFc d_ [] [] [(28, 3)] [30] N11_ N15_) (i17_ : 0 ≤ u14_), (ze Mz (d_ + 1) 7 - u14_).toNat < n → zW l m_Units_narrowAt (zn Mz + 0, zw Mz + 0) N15_ 120 [some (.ref (d_ + 28)), some (.int (Int32.ofInt a0_)), some (.ref (d_ + 1)), some (.int (Int32.ofInt v1_)), some (.int (Int32.ofInt u4_)), some (.int (Int32.ofInt v3_)), some (.int (Int32.ofInt u10_)), some (.int (Int32.ofInt u14_)), none] [] (zqcV d_ [] [] [(28, 3)] [11, 30, 32] Mz (fun N => True)) := by
                intro n
                induction n with
                | zero =>
                  intro u14_ hu14_a hu14_b N15_ hs16_ i17_ h0
                  exact absurd h0 (Nat.not_lt_zero _)
                | succ n ih_120 =>
                  intro u14_ hu14_a hu14_b N15_ hs16_ i17_ hlt_120
                  have hf_N15_ : zFc d_ [] [] [(28, 3)] [11, 30, 32] Mz N15_ := hf_N11_.tr hs16_ (by decide) (by decide) (by decide) (by decide)
                  have hb0_N15_ : zFc d_ [] [] [(28, 3)] [30] N6_ N15_ := hs12_.tr hs16_ (by decide) (by decide) (by decide) (by decide)
                  refine zw_iload (pc := 120) (i := 7) (x := Int32.ofInt u14_) rfl (zdal_p dlB_Units_narrowAt_84 (i := 14) rfl) ?_
                  refine zw_aload_n (pc := 122) (n := 2) (x := (d_ + 1)) rfl (zdal_p dlB_Units_narrowAt_84 (i := 15) rfl) ?_
                  refine zk_getI (pc := 123) f_Units_66 rfl ((hf_N15_.w hW).kr (o := 1) (by decide)) (zdal_p dlB_Units_narrowAt_84 (i := 16) rfl) ?_
                  rw [hf_N15_.e (by decide)]
                  refine zr_icmp_ge (pc := 126) (tgt := 209) ⟨hu14_a, hu14_b⟩ ⟨(ze_r Mz (d_ + 1) 7).1, (ze_r Mz (d_ + 1) 7).2⟩ (by decide) (zdal_p dlB_Units_narrowAt_84 (i := 17) rfl) (fun hc_126 => ?_) (fun hc_126 => ?_)
                  · skip
                    refine zr_iinc (pc := 209) (i := 6) (a := u10_) (n := 1) (L2 := [some (.ref (d_ + 28)), some (.int (Int32.ofInt a0_)), some (.ref (d_ + 1)), some (.int (Int32.ofInt v1_)), some (.int (Int32.ofInt u4_)), some (.int (Int32.ofInt v3_)), some (.int (Int32.ofInt (u10_ + 1))), some (.int (Int32.ofInt u14_)), none]) rfl (by decide) rfl (zdal_p dlB_Units_narrowAt_86 (i := 8) rfl) ?_
                    obtain ⟨v18_, hv18_a, hv18_b, hv18_e, hv18_d⟩ := zk_gen (u10_ + 1)
                    rw [hv18_e]
                    refine zw_goto (pc := 212) (tgt := 108) (by decide) (zdal_p dlB_Units_narrowAt_86 (i := 9) rfl) ?_
                    refine zW_le [some (.ref (d_ + 28)), some (.int (Int32.ofInt a0_)), some (.ref (d_ + 1)), some (.int (Int32.ofInt v1_)), some (.int (Int32.ofInt u4_)), some (.int (Int32.ofInt v3_)), some (.int (Int32.ofInt v18_)), none, none] (⟨rfl, rfl, rfl, rfl, rfl, rfl, rfl, trivial⟩) ?_
                    exact ih_108 v18_ hv18_a hv18_b N15_ hb0_N15_ (show 0 ≤ v18_ by first | with_reducible assumption | assumption | omega) (by omega)
                  · skip
                    refine zw_iload (pc := 129) (i := 4) (x := Int32.ofInt u4_) rfl (zdal_p dlB_Units_narrowAt_84 (i := 18) rfl) ?_
                    refine zw_iload (pc := 131) (i := 6) (x := Int32.ofInt u10_) rfl (zdal_p dlB_Units_narrowAt_84 (i := 19) rfl) ?_
                    refine zr_callS hf_N15_.x (pc := 133) [.int (Int32.ofInt u4_), .int (Int32.ofInt u10_)] [] l_Units_69 (u_T_isInX l d_ N15_ (hf_N15_.w hW) u4_ hu4_a hu4_b u10_ hu10_a hu10_b) rfl rfl (by decide) (Nat.le_of_ble_eq_true rfl) (zdal_p dlB_Units_narrowAt_84 (i := 20) rfl) ?_
                    rintro _ N19_ ⟨v20_, rfl, ⟨hv20_a, hv20_b⟩, hsN19_, hp0_N19_⟩
                    obtain rfl := hsN19_.eq.symm
                    replace hp0_N19_ : (v20_ = 0 ∨ v20_ = 1) := hp0_N19_
                    show zW l m_Units_narrowAt (zn Mz + 0, zw Mz + 0) N15_ 136 [some (.ref (d_ + 28)), some (.int (Int32.ofInt a0_)), some (.ref (d_ + 1)), some (.int (Int32.ofInt v1_)), some (.int (Int32.ofInt u4_)), some (.int (Int32.ofInt v3_)), some (.int (Int32.ofInt u10_)), some (.int (Int32.ofInt u14_)), none] [.int (Int32.ofInt v20_)] _
                    refine zr_if_eq (pc := 136) (tgt := 203) ⟨hv20_a, hv20_b⟩ (by decide) (zdal_p dlB_Units_narrowAt_84 (i := 21) rfl) (fun hc_136 => ?_) (fun hc_136 => ?_)
                    · skip
                      refine zr_iinc (pc := 203) (i := 7) (a := u14_) (n := 1) (L2 := [some (.ref (d_ + 28)), some (.int (Int32.ofInt a0_)), some (.ref (d_ + 1)), some (.int (Int32.ofInt v1_)), some (.int (Int32.ofInt u4_)), some (.int (Int32.ofInt v3_)), some (.int (Int32.ofInt u10_)), some (.int (Int32.ofInt (u14_ + 1))), none]) rfl (by decide) rfl (zdal_p dlB_Units_narrowAt_86 (i := 6) rfl) ?_
                      obtain ⟨v21_, hv21_a, hv21_b, hv21_e, hv21_d⟩ := zk_gen (u14_ + 1)
                      rw [hv21_e]
                      refine zw_goto (pc := 206) (tgt := 120) (by decide) (zdal_p dlB_Units_narrowAt_86 (i := 7) rfl) ?_
                      exact ih_120 v21_ hv21_a hv21_b N15_ hs16_ (show 0 ≤ v21_ by first | with_reducible assumption | assumption | omega) (by omega)
                    · skip
                      refine zw_iload (pc := 139) (i := 4) (x := Int32.ofInt u4_) rfl (zdal_p dlB_Units_narrowAt_84 (i := 22) rfl) ?_
                      refine zw_iload (pc := 141) (i := 7) (x := Int32.ofInt u14_) rfl (zdal_p dlB_Units_narrowAt_84 (i := 23) rfl) ?_
                      refine zr_callS hf_N15_.x (pc := 143) [.int (Int32.ofInt u4_), .int (Int32.ofInt u14_)] [] l_Units_69 (u_T_isInX l d_ N15_ (hf_N15_.w hW) u4_ hu4_a hu4_b u14_ hu14_a hu14_b) rfl rfl (by decide) (Nat.le_of_ble_eq_true rfl) (zdal_p dlB_Units_narrowAt_85 (i := 0) rfl) ?_
                      rintro _ N22_ ⟨v23_, rfl, ⟨hv23_a, hv23_b⟩, hsN22_, hp0_N22_⟩
                      obtain rfl := hsN22_.eq.symm
                      replace hp0_N22_ : (v23_ = 0 ∨ v23_ = 1) := hp0_N22_
                      show zW l m_Units_narrowAt (zn Mz + 0, zw Mz + 0) N15_ 146 [some (.ref (d_ + 28)), some (.int (Int32.ofInt a0_)), some (.ref (d_ + 1)), some (.int (Int32.ofInt v1_)), some (.int (Int32.ofInt u4_)), some (.int (Int32.ofInt v3_)), some (.int (Int32.ofInt u10_)), some (.int (Int32.ofInt u14_)), none] [.int (Int32.ofInt v23_)] _
                      refine zr_if_eq (pc := 146) (tgt := 203) ⟨hv23_a, hv23_b⟩ (by decide) (zdal_p dlB_Units_narrowAt_85 (i := 1) rfl) (fun hc_146 => ?_) (fun hc_146 => ?_)
                      · skip
                        refine zr_iinc (pc := 203) (i := 7) (a := u14_) (n := 1) (L2 := [some (.ref (d_ + 28)), some (.int (Int32.ofInt a0_)), some (.ref (d_ + 1)), some (.int (Int32.ofInt v1_)), some (.int (Int32.ofInt u4_)), some (.int (Int32.ofInt v3_)), some (.int (Int32.ofInt u10_)), some (.int (Int32.ofInt (u14_ + 1))), none]) rfl (by decide) rfl (zdal_p dlB_Units_narrowAt_86 (i := 6) rfl) ?_
                        obtain ⟨v24_, hv24_a, hv24_b, hv24_e, hv24_d⟩ := zk_gen (u14_ + 1)
                        rw [hv24_e]
                        refine zw_goto (pc := 206) (tgt := 120) (by decide) (zdal_p dlB_Units_narrowAt_86 (i := 7) rfl) ?_
                        exact ih_120 v24_ hv24_a hv24_b N15_ hs16_ (show 0 ≤ v24_ by first | with_reducible assumption | assumption | omega) (by omega)
                      · skip
                        refine zw_aload_n (pc := 149) (n := 2) (x := (d_ + 1)) rfl (zdal_p dlB_Units_narrowAt_85 (i := 2) rfl) ?_
                        refine zw_iload_n (pc := 150) (n := 3) (x := Int32.ofInt v1_) rfl (zdal_p dlB_Units_narrowAt_85 (i := 3) rfl) ?_
                        refine zw_aload_n (pc := 151) (n := 2) (x := (d_ + 1)) rfl (zdal_p dlB_Units_narrowAt_85 (i := 4) rfl) ?_
                        refine zw_iload (pc := 152) (i := 6) (x := Int32.ofInt u10_) rfl (zdal_p dlB_Units_narrowAt_85 (i := 5) rfl) ?_
                        refine zw_iload (pc := 154) (i := 7) (x := Int32.ofInt u14_) rfl (zdal_p dlB_Units_narrowAt_85 (i := 6) rfl) ?_
                        refine zk_callV hf_N15_.x (pc := 156) [.int (Int32.ofInt u10_), .int (Int32.ofInt u14_)] [.int (Int32.ofInt v1_), .ref (d_ + 1)] l_Units_83 (u_Group_bothX l d_ N15_ (hf_N15_.w hW) u10_ hu10_a hu10_b u14_ hu14_a hu14_b) rfl rfl ((hf_N15_.w hW).kr (o := 1) (by decide)) (by decide) (by decide) (Nat.le_of_ble_eq_true rfl) (zdal_p dlB_Units_narrowAt_85 (i := 7) rfl) ?_
                        rintro _ N25_ ⟨v26_, rfl, ⟨hv26_a, hv26_b⟩, hsN25_, -⟩
                        obtain rfl := hsN25_.eq.symm
                        show zW l m_Units_narrowAt (zn Mz + 0, zw Mz + 0) N15_ 159 [some (.ref (d_ + 28)), some (.int (Int32.ofInt a0_)), some (.ref (d_ + 1)), some (.int (Int32.ofInt v1_)), some (.int (Int32.ofInt u4_)), some (.int (Int32.ofInt v3_)), some (.int (Int32.ofInt u10_)), some (.int (Int32.ofInt u14_)), none] [.int (Int32.ofInt v26_), .int (Int32.ofInt v1_), .ref (d_ + 1)] _
                        refine zk_callV hf_N15_.x (pc := 159) [.int (Int32.ofInt v1_), .int (Int32.ofInt v26_)] [] l_Units_73 (u_Group_leastOfCosetX l d_ N15_ (hf_N15_.w hW) v1_ hv1_a hv1_b v26_ hv26_a hv26_b) rfl rfl ((hf_N15_.w hW).kr (o := 1) (by decide)) (by decide) (by decide) (Nat.le_of_ble_eq_true rfl) (zdal_p dlB_Units_narrowAt_85 (i := 8) rfl) ?_
                        rintro _ N27_ ⟨v28_, rfl, ⟨hv28_a, hv28_b⟩, hsN27_, -⟩
                        obtain rfl := hsN27_.eq.symm
                        show zW l m_Units_narrowAt (zn Mz + 0, zw Mz + 0) N15_ 162 [some (.ref (d_ + 28)), some (.int (Int32.ofInt a0_)), some (.ref (d_ + 1)), some (.int (Int32.ofInt v1_)), some (.int (Int32.ofInt u4_)), some (.int (Int32.ofInt v3_)), some (.int (Int32.ofInt u10_)), some (.int (Int32.ofInt u14_)), none] [.int (Int32.ofInt v28_)] _
                        refine zw_istore (pc := 162) (i := 8) (L2 := [some (.ref (d_ + 28)), some (.int (Int32.ofInt a0_)), some (.ref (d_ + 1)), some (.int (Int32.ofInt v1_)), some (.int (Int32.ofInt u4_)), some (.int (Int32.ofInt v3_)), some (.int (Int32.ofInt u10_)), some (.int (Int32.ofInt u14_)), some (.int (Int32.ofInt v28_))]) (by decide) rfl (zdal_p dlB_Units_narrowAt_85 (i := 9) rfl) ?_
                        refine zw_aload_n (pc := 164) (n := 0) (x := (d_ + 28)) rfl (zdal_p dlB_Units_narrowAt_85 (i := 10) rfl) ?_
                        refine zw_aload_n (pc := 165) (n := 0) (x := (d_ + 28)) rfl (zdal_p dlB_Units_narrowAt_85 (i := 11) rfl) ?_
                        refine zw_iload_n (pc := 166) (n := 1) (x := Int32.ofInt a0_) rfl (zdal_p dlB_Units_narrowAt_85 (i := 12) rfl) ?_
                        refine zk_callV hf_N15_.x (pc := 167) [.int (Int32.ofInt a0_)] [.ref (d_ + 28)] l_Units_80 (u_Units_bitOfX l d_ N15_ (hf_N15_.w hW) a0_ ha0_a ha0_b) rfl rfl ((hf_N15_.w hW).kr (o := 28) (by decide)) (by decide) (by decide) (Nat.le_of_ble_eq_true rfl) (zdal_p dlB_Units_narrowAt_85 (i := 13) rfl) ?_
                        rintro _ N29_ ⟨v30_, rfl, ⟨hv30_a, hv30_b⟩, hsN29_, -⟩
                        obtain rfl := hsN29_.eq.symm
                        show zW l m_Units_narrowAt (zn Mz + 0, zw Mz + 0) N15_ 170 [some (.ref (d_ + 28)), some (.int (Int32.ofInt a0_)), some (.ref (d_ + 1)), some (.int (Int32.ofInt v1_)), some (.int (Int32.ofInt u4_)), some (.int (Int32.ofInt v3_)), some (.int (Int32.ofInt u10_)), some (.int (Int32.ofInt u14_)), some (.int (Int32.ofInt v28_))] [.int (Int32.ofInt v30_), .ref (d_ + 28)] _
                        refine zw_aload_n (pc := 170) (n := 0) (x := (d_ + 28)) rfl (zdal_p dlB_Units_narrowAt_85 (i := 14) rfl) ?_
                        refine zw_getF (pc := 171) f_Units_20 rfl ((hf_N15_.w hW).kr (o := 28) (by decide)) ((hf_N15_.w hW).lr (o := 28) (s := 2) (r := 31) (by decide)) (zdal_p dlB_Units_narrowAt_85 (i := 15) rfl) ?_
                        refine zw_iload (pc := 174) (i := 6) (x := Int32.ofInt u10_) rfl (zdal_p dlB_Units_narrowAt_85 (i := 16) rfl) ?_
                        refine zk_atG hf_N15_.x (pc := 176) l_Units_57 ((hf_N15_.w hW).kr (o := 31) (by decide)) ((hf_N15_.w hW).lr (o := 31) (s := 0) (r := 32) (by decide)) ((hf_N15_.w hW).rr (o := 32) (t := 1) (n := 24) (by decide)) (by decide) ⟨by omega, by omega⟩ (by decide) (Nat.le_of_ble_eq_true rfl) (zdal_p dlB_Units_narrowAt_85 (i := 17) rfl) (fun v31_ hv31_ hv31_a hv31_b => ?_)
                        clear hv31_
                        refine zr_ixor (pc := 179) (zdal_p dlB_Units_narrowAt_85 (i := 18) rfl) ?_
                        have hr32_ := zxor_r v30_ v31_
                        refine zr_nmI (fun v33_ hv33_ => ?_)
                        obtain ⟨hv33_a, hv33_b⟩ := hv33_
                        refine zw_aload_n (pc := 180) (n := 0) (x := (d_ + 28)) rfl (zdal_p dlB_Units_narrowAt_85 (i := 19) rfl) ?_
                        refine zw_getF (pc := 181) f_Units_20 rfl ((hf_N15_.w hW).kr (o := 28) (by decide)) ((hf_N15_.w hW).lr (o := 28) (s := 2) (r := 31) (by decide)) (zdal_p dlB_Units_narrowAt_85 (i := 20) rfl) ?_
                        refine zw_iload (pc := 184) (i := 7) (x := Int32.ofInt u14_) rfl (zdal_p dlB_Units_narrowAt_85 (i := 21) rfl) ?_
                        refine zk_atG hf_N15_.x (pc := 186) l_Units_57 ((hf_N15_.w hW).kr (o := 31) (by decide)) ((hf_N15_.w hW).lr (o := 31) (s := 0) (r := 32) (by decide)) ((hf_N15_.w hW).rr (o := 32) (t := 1) (n := 24) (by decide)) (by decide) ⟨by omega, by omega⟩ (by decide) (Nat.le_of_ble_eq_true rfl) (zdal_p dlB_Units_narrowAt_85 (i := 22) rfl) (fun v34_ hv34_ hv34_a hv34_b => ?_)
                        clear hv34_
                        refine zr_ixor (pc := 189) (zdal_p dlB_Units_narrowAt_85 (i := 23) rfl) ?_
                        have hr35_ := zxor_r v33_ v34_
                        refine zr_nmI (fun v36_ hv36_ => ?_)
                        obtain ⟨hv36_a, hv36_b⟩ := hv36_
                        refine zw_aload_n (pc := 190) (n := 0) (x := (d_ + 28)) rfl (zdal_p dlB_Units_narrowAt_86 (i := 0) rfl) ?_
                        refine zw_getF (pc := 191) f_Units_20 rfl ((hf_N15_.w hW).kr (o := 28) (by decide)) ((hf_N15_.w hW).lr (o := 28) (s := 2) (r := 31) (by decide)) (zdal_p dlB_Units_narrowAt_86 (i := 1) rfl) ?_
                        refine zw_iload (pc := 194) (i := 8) (x := Int32.ofInt v28_) rfl (zdal_p dlB_Units_narrowAt_86 (i := 2) rfl) ?_
                        refine zk_atG hf_N15_.x (pc := 196) l_Units_57 ((hf_N15_.w hW).kr (o := 31) (by decide)) ((hf_N15_.w hW).lr (o := 31) (s := 0) (r := 32) (by decide)) ((hf_N15_.w hW).rr (o := 32) (t := 1) (n := 24) (by decide)) (by decide) ⟨by omega, by omega⟩ (by decide) (Nat.le_of_ble_eq_true rfl) (zdal_p dlB_Units_narrowAt_86 (i := 3) rfl) (fun v37_ hv37_ hv37_a hv37_b => ?_)
                        clear hv37_
                        refine zr_ixor (pc := 199) (zdal_p dlB_Units_narrowAt_86 (i := 4) rfl) ?_
                        have hr38_ := zxor_r v36_ v37_
                        refine zr_nmI (fun v39_ hv39_ => ?_)
                        obtain ⟨hv39_a, hv39_b⟩ := hv39_
                        refine zk_callV hf_N15_.x (pc := 200) [.int (Int32.ofInt v39_)] [] l_Units_86 (u_Units_narrowX l d_ N15_ (hf_N15_.w hW) v39_ hv39_a hv39_b) rfl rfl ((hf_N15_.w hW).kr (o := 28) (by decide)) (by decide) (by decide) (Nat.le_of_ble_eq_true rfl) (zdal_p dlB_Units_narrowAt_86 (i := 5) rfl) ?_
                        rintro _ N40_ ⟨rfl, hsN40_, -⟩
                        have hf_N40_ : zFc d_ [] [] [(28, 3)] [11, 30, 32] Mz N40_ := hf_N15_.tr hsN40_ (by decide) (by decide) (by decide) (by decide)
                        have hb0_N40_ : zFc d_ [] [] [(28, 3)] [30] N6_ N40_ := hb0_N15_.tr hsN40_ (by decide) (by decide) (by decide) (by decide)
                        have hb1_N40_ : zFc d_ [] [] [(28, 3)] [30] N11_ N40_ := hs16_.tr hsN40_ (by decide) (by decide) (by decide) (by decide)
                        show zW l m_Units_narrowAt (zn Mz + 0, zw Mz + 0) N40_ 203 [some (.ref (d_ + 28)), some (.int (Int32.ofInt a0_)), some (.ref (d_ + 1)), some (.int (Int32.ofInt v1_)), some (.int (Int32.ofInt u4_)), some (.int (Int32.ofInt v3_)), some (.int (Int32.ofInt u10_)), some (.int (Int32.ofInt u14_)), some (.int (Int32.ofInt v28_))] [] _
                        refine zr_iinc (pc := 203) (i := 7) (a := u14_) (n := 1) (L2 := [some (.ref (d_ + 28)), some (.int (Int32.ofInt a0_)), some (.ref (d_ + 1)), some (.int (Int32.ofInt v1_)), some (.int (Int32.ofInt u4_)), some (.int (Int32.ofInt v3_)), some (.int (Int32.ofInt u10_)), some (.int (Int32.ofInt (u14_ + 1))), some (.int (Int32.ofInt v28_))]) rfl (by decide) rfl (zdal_p dlB_Units_narrowAt_86 (i := 6) rfl) ?_
                        obtain ⟨v42_, hv42_a, hv42_b, hv42_e, hv42_d⟩ := zk_gen (u14_ + 1)
                        rw [hv42_e]
                        refine zw_goto (pc := 206) (tgt := 120) (by decide) (zdal_p dlB_Units_narrowAt_86 (i := 7) rfl) ?_
                        refine zW_le [some (.ref (d_ + 28)), some (.int (Int32.ofInt a0_)), some (.ref (d_ + 1)), some (.int (Int32.ofInt v1_)), some (.int (Int32.ofInt u4_)), some (.int (Int32.ofInt v3_)), some (.int (Int32.ofInt u10_)), some (.int (Int32.ofInt v42_)), none] (⟨rfl, rfl, rfl, rfl, rfl, rfl, rfl, rfl, trivial⟩) ?_
                        exact ih_120 v42_ hv42_a hv42_b N40_ hb1_N40_ (show 0 ≤ v42_ by first | with_reducible assumption | assumption | omega) (by omega)
              exact lp_120 _ 0 (by decide) (by decide) N11_ zFc.rf (show 0 ≤ (0 : Int) by first | with_reducible assumption | assumption | omega) (Nat.lt_succ_self _)
        exact lp_108 _ 0 (by decide) (by decide) N6_ zFc.rf (show 0 ≤ (0 : Int) by first | with_reducible assumption | assumption | omega) (Nat.lt_succ_self _)
      · skip
        refine zw_iload (pc := 42) (i := 5) (x := Int32.ofInt v3_) rfl (zdal_p dlB_Units_narrowAt_82 (i := 22) rfl) ?_
        refine zw_iload (pc := 44) (i := 6) (x := Int32.ofInt u5_) rfl (zdal_p dlB_Units_narrowAt_82 (i := 23) rfl) ?_
        refine zr_callS hf_N6_.x (pc := 46) [.int (Int32.ofInt v3_), .int (Int32.ofInt u5_)] [] l_Units_69 (u_T_isInX l d_ N6_ (hf_N6_.w hW) v3_ hv3_a hv3_b u5_ hu5_a hu5_b) rfl rfl (by decide) (Nat.le_of_ble_eq_true rfl) (zdal_p dlB_Units_narrowAt_83 (i := 0) rfl) ?_
        rintro _ N43_ ⟨v44_, rfl, ⟨hv44_a, hv44_b⟩, hsN43_, hp0_N43_⟩
        obtain rfl := hsN43_.eq.symm
        replace hp0_N43_ : (v44_ = 0 ∨ v44_ = 1) := hp0_N43_
        show zW l m_Units_narrowAt (zn Mz + 0, zw Mz + 0) N6_ 49 [some (.ref (d_ + 28)), some (.int (Int32.ofInt a0_)), some (.ref (d_ + 1)), some (.int (Int32.ofInt v1_)), some (.int (Int32.ofInt u4_)), some (.int (Int32.ofInt v3_)), some (.int (Int32.ofInt u5_)), none, none] [.int (Int32.ofInt v44_)] _
        refine zr_if_eq (pc := 49) (tgt := 99) ⟨hv44_a, hv44_b⟩ (by decide) (zdal_p dlB_Units_narrowAt_83 (i := 1) rfl) (fun hc_49 => ?_) (fun hc_49 => ?_)
        · skip
          refine zr_iinc (pc := 99) (i := 6) (a := u5_) (n := 1) (L2 := [some (.ref (d_ + 28)), some (.int (Int32.ofInt a0_)), some (.ref (d_ + 1)), some (.int (Int32.ofInt v1_)), some (.int (Int32.ofInt u4_)), some (.int (Int32.ofInt v3_)), some (.int (Int32.ofInt (u5_ + 1))), none, none]) rfl (by decide) rfl (zdal_p dlB_Units_narrowAt_84 (i := 4) rfl) ?_
          obtain ⟨v45_, hv45_a, hv45_b, hv45_e, hv45_d⟩ := zk_gen (u5_ + 1)
          rw [hv45_e]
          refine zw_goto (pc := 102) (tgt := 33) (by decide) (zdal_p dlB_Units_narrowAt_84 (i := 5) rfl) ?_
          exact ih_33 u4_ hu4_a hu4_b v45_ hv45_a hv45_b N6_ hs7_ (show 0 ≤ v45_ by first | with_reducible assumption | assumption | omega) (by omega)
        · skip
          refine zw_aload_n (pc := 52) (n := 2) (x := (d_ + 1)) rfl (zdal_p dlB_Units_narrowAt_83 (i := 2) rfl) ?_
          refine zw_iload_n (pc := 53) (n := 3) (x := Int32.ofInt v1_) rfl (zdal_p dlB_Units_narrowAt_83 (i := 3) rfl) ?_
          refine zw_iload (pc := 54) (i := 6) (x := Int32.ofInt u5_) rfl (zdal_p dlB_Units_narrowAt_83 (i := 4) rfl) ?_
          refine zk_callV hf_N6_.x (pc := 56) [.int (Int32.ofInt v1_), .int (Int32.ofInt u5_)] [] l_Units_73 (u_Group_leastOfCosetX l d_ N6_ (hf_N6_.w hW) v1_ hv1_a hv1_b u5_ hu5_a hu5_b) rfl rfl ((hf_N6_.w hW).kr (o := 1) (by decide)) (by decide) (by decide) (Nat.le_of_ble_eq_true rfl) (zdal_p dlB_Units_narrowAt_83 (i := 5) rfl) ?_
          rintro _ N46_ ⟨v47_, rfl, ⟨hv47_a, hv47_b⟩, hsN46_, -⟩
          obtain rfl := hsN46_.eq.symm
          show zW l m_Units_narrowAt (zn Mz + 0, zw Mz + 0) N6_ 59 [some (.ref (d_ + 28)), some (.int (Int32.ofInt a0_)), some (.ref (d_ + 1)), some (.int (Int32.ofInt v1_)), some (.int (Int32.ofInt u4_)), some (.int (Int32.ofInt v3_)), some (.int (Int32.ofInt u5_)), none, none] [.int (Int32.ofInt v47_)] _
          refine zw_iload (pc := 59) (i := 6) (x := Int32.ofInt u5_) rfl (zdal_p dlB_Units_narrowAt_83 (i := 6) rfl) ?_
          refine zr_icmp_ne (pc := 61) (tgt := 99) ⟨hv47_a, hv47_b⟩ ⟨hu5_a, hu5_b⟩ (by decide) (zdal_p dlB_Units_narrowAt_83 (i := 7) rfl) (fun hc_61 => ?_) (fun hc_61 => ?_)
          · skip
            refine zr_iinc (pc := 99) (i := 6) (a := u5_) (n := 1) (L2 := [some (.ref (d_ + 28)), some (.int (Int32.ofInt a0_)), some (.ref (d_ + 1)), some (.int (Int32.ofInt v1_)), some (.int (Int32.ofInt u4_)), some (.int (Int32.ofInt v3_)), some (.int (Int32.ofInt (u5_ + 1))), none, none]) rfl (by decide) rfl (zdal_p dlB_Units_narrowAt_84 (i := 4) rfl) ?_
            obtain ⟨v48_, hv48_a, hv48_b, hv48_e, hv48_d⟩ := zk_gen (u5_ + 1)
            rw [hv48_e]
            refine zw_goto (pc := 102) (tgt := 33) (by decide) (zdal_p dlB_Units_narrowAt_84 (i := 5) rfl) ?_
            exact ih_33 u4_ hu4_a hu4_b v48_ hv48_a hv48_b N6_ hs7_ (show 0 ≤ v48_ by first | with_reducible assumption | assumption | omega) (by omega)
          · skip
            refine zw_iload (pc := 64) (i := 4) (x := Int32.ofInt u4_) rfl (zdal_p dlB_Units_narrowAt_83 (i := 8) rfl) ?_
            refine zw_iconst (pc := 66) (v := Int32.ofInt 1) (by decide) (zdal_p dlB_Units_narrowAt_83 (i := 9) rfl) ?_
            refine zw_iload (pc := 67) (i := 6) (x := Int32.ofInt u5_) rfl (zdal_p dlB_Units_narrowAt_83 (i := 10) rfl) ?_
            refine zr_ishl (pc := 69) (zdal_p dlB_Units_narrowAt_83 (i := 11) rfl) ?_
            have hr49_ := zshl_r 1 u5_
            refine zr_nmI (fun v50_ hv50_ => ?_)
            obtain ⟨hv50_a, hv50_b⟩ := hv50_
            refine zr_ior (pc := 70) (zdal_p dlB_Units_narrowAt_83 (i := 12) rfl) ?_
            have hr51_ := zor_r u4_ v50_
            refine zr_nmI (fun v52_ hv52_ => ?_)
            obtain ⟨hv52_a, hv52_b⟩ := hv52_
            refine zw_istore (pc := 71) (i := 4) (L2 := [some (.ref (d_ + 28)), some (.int (Int32.ofInt a0_)), some (.ref (d_ + 1)), some (.int (Int32.ofInt v1_)), some (.int (Int32.ofInt v52_)), some (.int (Int32.ofInt v3_)), some (.int (Int32.ofInt u5_)), none, none]) (by decide) rfl (zdal_p dlB_Units_narrowAt_83 (i := 13) rfl) ?_
            refine zw_aload_n (pc := 73) (n := 0) (x := (d_ + 28)) rfl (zdal_p dlB_Units_narrowAt_83 (i := 14) rfl) ?_
            refine zw_getF (pc := 74) f_Units_20 rfl ((hf_N6_.w hW).kr (o := 28) (by decide)) ((hf_N6_.w hW).lr (o := 28) (s := 2) (r := 31) (by decide)) (zdal_p dlB_Units_narrowAt_83 (i := 15) rfl) ?_
            refine zw_iload (pc := 77) (i := 6) (x := Int32.ofInt u5_) rfl (zdal_p dlB_Units_narrowAt_83 (i := 16) rfl) ?_
            refine zw_aload_n (pc := 79) (n := 0) (x := (d_ + 28)) rfl (zdal_p dlB_Units_narrowAt_83 (i := 17) rfl) ?_
            refine zw_aload_n (pc := 80) (n := 0) (x := (d_ + 28)) rfl (zdal_p dlB_Units_narrowAt_83 (i := 18) rfl) ?_
            refine zw_getF (pc := 81) f_Units_23 rfl ((hf_N6_.w hW).kr (o := 28) (by decide)) ((hf_N6_.w hW).lr (o := 28) (s := 0) (r := 12) (by decide)) (zdal_p dlB_Units_narrowAt_83 (i := 19) rfl) ?_
            refine zw_iload_n (pc := 84) (n := 3) (x := Int32.ofInt v1_) rfl (zdal_p dlB_Units_narrowAt_83 (i := 20) rfl) ?_
            refine zw_iconst (pc := 85) (v := Int32.ofInt 1) (by decide) (zdal_p dlB_Units_narrowAt_83 (i := 21) rfl) ?_
            refine zw_iload (pc := 86) (i := 6) (x := Int32.ofInt u5_) rfl (zdal_p dlB_Units_narrowAt_83 (i := 22) rfl) ?_
            refine zr_ishl (pc := 88) (zdal_p dlB_Units_narrowAt_83 (i := 23) rfl) ?_
            have hr53_ := zshl_r 1 u5_
            refine zr_nmI (fun v54_ hv54_ => ?_)
            obtain ⟨hv54_a, hv54_b⟩ := hv54_
            refine zr_ior (pc := 89) (zdal_p dlB_Units_narrowAt_84 (i := 0) rfl) ?_
            have hr55_ := zor_r v1_ v54_
            refine zr_nmI (fun v56_ hv56_ => ?_)
            obtain ⟨hv56_a, hv56_b⟩ := hv56_
            refine zk_callV hf_N6_.x (pc := 90) [.int (Int32.ofInt v56_)] [.ref (d_ + 28), .int (Int32.ofInt u5_), .ref (d_ + 31)] l_Units_77 (u_Sorts_spannedSortX l d_ N6_ (hf_N6_.w hW) v56_ hv56_a hv56_b) rfl rfl ((hf_N6_.w hW).kr (o := 12) (by decide)) (by decide) (by decide) (Nat.le_of_ble_eq_true rfl) (zdal_p dlB_Units_narrowAt_84 (i := 1) rfl) ?_
            rintro _ N57_ ⟨v58_, rfl, ⟨hv58_a, hv58_b⟩, hsN57_, -⟩
            have hf_N57_ : zFc d_ [] [] [(28, 3)] [11, 30, 32] Mz N57_ := hf_N6_.tr hsN57_ (by decide) (by decide) (by decide) (by decide)
            have hb0_N57_ : zFc d_ [] [] [] [11, 32] Mz N57_ := hs7_.tr hsN57_ (by decide) (by decide) (by decide) (by decide)
            show zW l m_Units_narrowAt (zn Mz + 0, zw Mz + 0) N57_ 93 [some (.ref (d_ + 28)), some (.int (Int32.ofInt a0_)), some (.ref (d_ + 1)), some (.int (Int32.ofInt v1_)), some (.int (Int32.ofInt v52_)), some (.int (Int32.ofInt v3_)), some (.int (Int32.ofInt u5_)), none, none] [.int (Int32.ofInt v58_), .ref (d_ + 28), .int (Int32.ofInt u5_), .ref (d_ + 31)] _
            refine zk_callV hf_N57_.x (pc := 93) [.int (Int32.ofInt v58_)] [.int (Int32.ofInt u5_), .ref (d_ + 31)] l_Units_80 (u_Units_bitOfX l d_ N57_ (hf_N57_.w hW) v58_ hv58_a hv58_b) rfl rfl ((hf_N57_.w hW).kr (o := 28) (by decide)) (by decide) (by decide) (Nat.le_of_ble_eq_true rfl) (zdal_p dlB_Units_narrowAt_84 (i := 2) rfl) ?_
            rintro _ N59_ ⟨v60_, rfl, ⟨hv60_a, hv60_b⟩, hsN59_, -⟩
            obtain rfl := hsN59_.eq.symm
            show zW l m_Units_narrowAt (zn Mz + 0, zw Mz + 0) N57_ 96 [some (.ref (d_ + 28)), some (.int (Int32.ofInt a0_)), some (.ref (d_ + 1)), some (.int (Int32.ofInt v1_)), some (.int (Int32.ofInt v52_)), some (.int (Int32.ofInt v3_)), some (.int (Int32.ofInt u5_)), none, none] [.int (Int32.ofInt v60_), .int (Int32.ofInt u5_), .ref (d_ + 31)] _
            refine zk_stG hf_N57_.x (pc := 96) (o := 32) (by decide) l_Units_40 ((hf_N57_.w hW).kr (o := 31) (by decide)) ((hf_N57_.w hW).lr (o := 31) (s := 0) (r := 32) (by decide)) ((hf_N57_.w hW).rr (o := 32) (t := 1) (n := 24) (by decide)) (by decide) ⟨by omega, by omega⟩ (by decide) (Nat.le_of_ble_eq_true rfl) (zdal_p dlB_Units_narrowAt_84 (i := 3) rfl) (fun N61_ hsN61_ => ?_)
            have hf_N61_ : zFc d_ [] [] [(28, 3)] [11, 30, 32] Mz N61_ := hf_N57_.tr hsN61_ (by decide) (by decide) (by decide) (by decide)
            have hb0_N61_ : zFc d_ [] [] [] [11, 32] Mz N61_ := hb0_N57_.tr hsN61_ (by decide) (by decide) (by decide) (by decide)
            refine zr_iinc (pc := 99) (i := 6) (a := u5_) (n := 1) (L2 := [some (.ref (d_ + 28)), some (.int (Int32.ofInt a0_)), some (.ref (d_ + 1)), some (.int (Int32.ofInt v1_)), some (.int (Int32.ofInt v52_)), some (.int (Int32.ofInt v3_)), some (.int (Int32.ofInt (u5_ + 1))), none, none]) rfl (by decide) rfl (zdal_p dlB_Units_narrowAt_84 (i := 4) rfl) ?_
            obtain ⟨v62_, hv62_a, hv62_b, hv62_e, hv62_d⟩ := zk_gen (u5_ + 1)
            rw [hv62_e]
            refine zw_goto (pc := 102) (tgt := 33) (by decide) (zdal_p dlB_Units_narrowAt_84 (i := 5) rfl) ?_
            exact ih_33 v52_ hv52_a hv52_b v62_ hv62_a hv62_b N61_ hb0_N61_ (show 0 ≤ v62_ by first | with_reducible assumption | assumption | omega) (by omega)
  exact lp_33 _ 0 (by decide) (by decide) 0 (by decide) (by decide) Mz zFc.rf (show 0 ≤ (0 : Int) by first | with_reducible assumption | assumption | omega) (Nat.lt_succ_self _)
set_option maxHeartbeats 4000000 in
theorem u_Units_seekX (l : Launch) (d_ : Nat) (Mz : zMem) (hW : zKW d_ Mz) : zC l m_Units_seek 0 0 [.ref (d_ + 28)] Mz (zqcV d_ [] [] [(28, 3), (28, 4)] [11, 30, 32] Mz (fun N => True)) := by
  refine zC_of (L0 := [some (.ref (d_ + 28)), none]) md_Units_seek (Nat.le_of_ble_eq_true rfl) rfl ?_ zQ0
  have hf : zFc d_ [] [] [(28, 3), (28, 4)] [11, 30, 32] Mz Mz := zFc.rf
  refine zw_aload_n (pc := 0) (n := 0) (x := (d_ + 28)) rfl (zdal_p dlB_Units_seek_80 (i := 0) rfl) ?_
  refine zk_getI (pc := 1) f_Units_27 rfl ((hf.w hW).kr (o := 28) (by decide)) (zdal_p dlB_Units_seek_80 (i := 1) rfl) ?_
  have hr1_ := ze_r Mz (d_ + 28) 4
  refine zr_if_eq (pc := 4) (tgt := 8) ⟨(ze_r Mz (d_ + 28) 4).1, (ze_r Mz (d_ + 28) 4).2⟩ (by decide) (zdal_p dlB_Units_seek_80 (i := 2) rfl) (fun hc_4 => ?_) (fun hc_4 => ?_)
  · skip
    refine zw_aload_n (pc := 8) (n := 0) (x := (d_ + 28)) rfl (zdal_p dlB_Units_seek_80 (i := 4) rfl) ?_
    refine zw_iconst (pc := 9) (v := Int32.ofInt 1) (by decide) (zdal_p dlB_Units_seek_80 (i := 5) rfl) ?_
    refine zk_putR (pc := 10) (o := 28) (by decide) f_Units_27 rfl rfl ((hf.w hW).kr (o := 28) (by decide)) ⟨by omega, by omega⟩ (z_narB (by omega)) (z_fitB (by omega)) (zdal_p dlB_Units_seek_80 (i := 6) rfl) (fun N2_ hsN2_ hvN2_ => ?_)
    have hf_N2_ : zFc d_ [] [] [(28, 3), (28, 4)] [11, 30, 32] Mz N2_ := hf.tr hsN2_ (by decide) (by decide) (by decide) (by decide)
    refine zw_aload_n (pc := 13) (n := 0) (x := (d_ + 28)) rfl (zdal_p dlB_Units_seek_80 (i := 7) rfl) ?_
    refine zw_aload_n (pc := 14) (n := 0) (x := (d_ + 28)) rfl (zdal_p dlB_Units_seek_80 (i := 8) rfl) ?_
    refine zw_getF (pc := 15) f_Units_23 rfl ((hf_N2_.w hW).kr (o := 28) (by decide)) ((hf_N2_.w hW).lr (o := 28) (s := 0) (r := 12) (by decide)) (zdal_p dlB_Units_seek_80 (i := 9) rfl) ?_
    refine zk_getI (pc := 18) f_Units_35 rfl ((hf_N2_.w hW).kr (o := 12) (by decide)) (zdal_p dlB_Units_seek_80 (i := 10) rfl) ?_
    rw [hf_N2_.e (by decide)]
    have hr3_ := ze_r Mz (d_ + 12) 7
    refine zk_putR (pc := 21) (o := 28) (by decide) f_Units_31 rfl rfl ((hf_N2_.w hW).kr (o := 28) (by decide)) ⟨by omega, by omega⟩ rfl rfl (zdal_p dlB_Units_seek_80 (i := 11) rfl) (fun N4_ hsN4_ hvN4_ => ?_)
    have hf_N4_ : zFc d_ [] [] [(28, 3), (28, 4)] [11, 30, 32] Mz N4_ := hf_N2_.tr hsN4_ (by decide) (by decide) (by decide) (by decide)
    refine zw_iconst (pc := 24) (v := Int32.ofInt 0) (by decide) (zdal_p dlB_Units_seek_80 (i := 12) rfl) ?_
    refine zw_istore_n (pc := 25) (i := 1) (L2 := [some (.ref (d_ + 28)), some (.int (Int32.ofInt 0))]) rfl (by decide) rfl (zdal_p dlB_Units_seek_80 (i := 13) rfl) ?_
    have lp_26 : ∀ (n : Nat) (u5_ : Int) (hu5_a : -2147483648 ≤ u5_) (hu5_b : u5_ < 2147483648) (N6_ : zMem) (hs7_ : zFc d_ [] [] [] [30] N4_ N6_) (i8_ : 0 ≤ u5_), (ze Mz (d_ + 12) 7 - u5_).toNat < n → zW l m_Units_seek (zn Mz + 0, zw Mz + 0) N6_ 26 [some (.ref (d_ + 28)), some (.int (Int32.ofInt u5_))] [] (zqcV d_ [] [] [(28, 3), (28, 4)] [11, 30, 32] Mz (fun N => True)) := by
      intro n
      induction n with
      | zero =>
        intro u5_ hu5_a hu5_b N6_ hs7_ i8_ h0
        exact absurd h0 (Nat.not_lt_zero _)
      | succ n ih_26 =>
        intro u5_ hu5_a hu5_b N6_ hs7_ i8_ hlt_26
        have hf_N6_ : zFc d_ [] [] [(28, 3), (28, 4)] [11, 30, 32] Mz N6_ := hf_N4_.tr hs7_ (by decide) (by decide) (by decide) (by decide)
        refine zw_iload_n (pc := 26) (n := 1) (x := Int32.ofInt u5_) rfl (zdal_p dlB_Units_seek_80 (i := 14) rfl) ?_
        refine zw_aload_n (pc := 27) (n := 0) (x := (d_ + 28)) rfl (zdal_p dlB_Units_seek_80 (i := 15) rfl) ?_
        refine zw_getF (pc := 28) f_Units_23 rfl ((hf_N6_.w hW).kr (o := 28) (by decide)) ((hf_N6_.w hW).lr (o := 28) (s := 0) (r := 12) (by decide)) (zdal_p dlB_Units_seek_80 (i := 16) rfl) ?_
        refine zk_getI (pc := 31) f_Units_35 rfl ((hf_N6_.w hW).kr (o := 12) (by decide)) (zdal_p dlB_Units_seek_80 (i := 17) rfl) ?_
        rw [hf_N6_.e (by decide)]
        refine zr_icmp_ge (pc := 34) (tgt := 54) ⟨hu5_a, hu5_b⟩ ⟨(ze_r Mz (d_ + 12) 7).1, (ze_r Mz (d_ + 12) 7).2⟩ (by decide) (zdal_p dlB_Units_seek_80 (i := 18) rfl) (fun hc_34 => ?_) (fun hc_34 => ?_)
        · skip
          refine zw_iconst (pc := 54) (v := Int32.ofInt 0) (by decide) (zdal_p dlB_Units_seek_81 (i := 4) rfl) ?_
          refine zw_istore_n (pc := 55) (i := 1) (L2 := [some (.ref (d_ + 28)), some (.int (Int32.ofInt 0))]) rfl (by decide) rfl (zdal_p dlB_Units_seek_81 (i := 5) rfl) ?_
          have lp_56 : ∀ (n : Nat) (u9_ : Int) (hu9_a : -2147483648 ≤ u9_) (hu9_b : u9_ < 2147483648) (N10_ : zMem) (hs11_ : zFc d_ [] [] [(28, 3)] [11, 30, 32] N6_ N10_) (i12_ : 0 ≤ u9_), (ze Mz (d_ + 12) 7 - u9_).toNat < n → zW l m_Units_seek (zn Mz + 0, zw Mz + 0) N10_ 56 [some (.ref (d_ + 28)), some (.int (Int32.ofInt u9_))] [] (zqcV d_ [] [] [(28, 3), (28, 4)] [11, 30, 32] Mz (fun N => True)) := by
            intro n
            induction n with
            | zero =>
              intro u9_ hu9_a hu9_b N10_ hs11_ i12_ h0
              exact absurd h0 (Nat.not_lt_zero _)
            | succ n ih_56 =>
              intro u9_ hu9_a hu9_b N10_ hs11_ i12_ hlt_56
              have hf_N10_ : zFc d_ [] [] [(28, 3), (28, 4)] [11, 30, 32] Mz N10_ := hf_N6_.tr hs11_ (by decide) (by decide) (by decide) (by decide)
              refine zw_iload_n (pc := 56) (n := 1) (x := Int32.ofInt u9_) rfl (zdal_p dlB_Units_seek_81 (i := 6) rfl) ?_
              refine zw_aload_n (pc := 57) (n := 0) (x := (d_ + 28)) rfl (zdal_p dlB_Units_seek_81 (i := 7) rfl) ?_
              refine zw_getF (pc := 58) f_Units_23 rfl ((hf_N10_.w hW).kr (o := 28) (by decide)) ((hf_N10_.w hW).lr (o := 28) (s := 0) (r := 12) (by decide)) (zdal_p dlB_Units_seek_81 (i := 8) rfl) ?_
              refine zk_getI (pc := 61) f_Units_35 rfl ((hf_N10_.w hW).kr (o := 12) (by decide)) (zdal_p dlB_Units_seek_81 (i := 9) rfl) ?_
              rw [hf_N10_.e (by decide)]
              refine zr_icmp_ge (pc := 64) (tgt := 78) ⟨hu9_a, hu9_b⟩ ⟨(ze_r Mz (d_ + 12) 7).1, (ze_r Mz (d_ + 12) 7).2⟩ (by decide) (zdal_p dlB_Units_seek_81 (i := 10) rfl) (fun hc_64 => ?_) (fun hc_64 => ?_)
              · skip
                refine zw_aload_n (pc := 78) (n := 0) (x := (d_ + 28)) rfl (zdal_p dlB_Units_seek_81 (i := 16) rfl) ?_
                refine zk_callV hf_N10_.x (pc := 79) [] [] l_Units_47 (u_Units_straightenX l d_ N10_ (hf_N10_.w hW) ) rfl rfl ((hf_N10_.w hW).kr (o := 28) (by decide)) (by decide) (by decide) (Nat.le_of_ble_eq_true rfl) (zdal_p dlB_Units_seek_81 (i := 17) rfl) ?_
                rintro _ N13_ ⟨rfl, hsN13_, -⟩
                have hf_N13_ : zFc d_ [] [] [(28, 3), (28, 4)] [11, 30, 32] Mz N13_ := hf_N10_.tr hsN13_ (by decide) (by decide) (by decide) (by decide)
                show zW l m_Units_seek (zn Mz + 0, zw Mz + 0) N13_ 82 [some (.ref (d_ + 28)), some (.int (Int32.ofInt u9_))] [] _
                exact zk_vret (pc := 82) rfl hf_N13_ trivial (zdal_p dlB_Units_seek_81 (i := 18) rfl)
              · skip
                refine zw_aload_n (pc := 67) (n := 0) (x := (d_ + 28)) rfl (zdal_p dlB_Units_seek_81 (i := 11) rfl) ?_
                refine zw_iload_n (pc := 68) (n := 1) (x := Int32.ofInt u9_) rfl (zdal_p dlB_Units_seek_81 (i := 12) rfl) ?_
                refine zk_callV hf_N10_.x (pc := 69) [.int (Int32.ofInt u9_)] [] l_Units_44 (u_Units_narrowAtX l d_ N10_ (hf_N10_.w hW) u9_ hu9_a hu9_b) rfl rfl ((hf_N10_.w hW).kr (o := 28) (by decide)) (by decide) (by decide) (Nat.le_of_ble_eq_true rfl) (zdal_p dlB_Units_seek_81 (i := 13) rfl) ?_
                rintro _ N15_ ⟨rfl, hsN15_, -⟩
                have hf_N15_ : zFc d_ [] [] [(28, 3), (28, 4)] [11, 30, 32] Mz N15_ := hf_N10_.tr hsN15_ (by decide) (by decide) (by decide) (by decide)
                have hb0_N15_ : zFc d_ [] [] [(28, 3)] [11, 30, 32] N6_ N15_ := hs11_.tr hsN15_ (by decide) (by decide) (by decide) (by decide)
                show zW l m_Units_seek (zn Mz + 0, zw Mz + 0) N15_ 72 [some (.ref (d_ + 28)), some (.int (Int32.ofInt u9_))] [] _
                refine zr_iinc (pc := 72) (i := 1) (a := u9_) (n := 1) (L2 := [some (.ref (d_ + 28)), some (.int (Int32.ofInt (u9_ + 1)))]) rfl (by decide) rfl (zdal_p dlB_Units_seek_81 (i := 14) rfl) ?_
                obtain ⟨v17_, hv17_a, hv17_b, hv17_e, hv17_d⟩ := zk_gen (u9_ + 1)
                rw [hv17_e]
                refine zw_goto (pc := 75) (tgt := 56) (by decide) (zdal_p dlB_Units_seek_81 (i := 15) rfl) ?_
                exact ih_56 v17_ hv17_a hv17_b N15_ hb0_N15_ (show 0 ≤ v17_ by first | with_reducible assumption | assumption | omega) (by omega)
          exact lp_56 _ 0 (by decide) (by decide) N6_ zFc.rf (show 0 ≤ (0 : Int) by first | with_reducible assumption | assumption | omega) (Nat.lt_succ_self _)
        · skip
          refine zw_aload_n (pc := 37) (n := 0) (x := (d_ + 28)) rfl (zdal_p dlB_Units_seek_80 (i := 19) rfl) ?_
          refine zw_getF (pc := 38) f_Units_14 rfl ((hf_N6_.w hW).kr (o := 28) (by decide)) ((hf_N6_.w hW).lr (o := 28) (s := 1) (r := 29) (by decide)) (zdal_p dlB_Units_seek_80 (i := 20) rfl) ?_
          refine zw_iload_n (pc := 41) (n := 1) (x := Int32.ofInt u5_) rfl (zdal_p dlB_Units_seek_80 (i := 21) rfl) ?_
          refine zw_iconst (pc := 42) (v := Int32.ofInt 1) (by decide) (zdal_p dlB_Units_seek_80 (i := 22) rfl) ?_
          refine zw_iload_n (pc := 43) (n := 1) (x := Int32.ofInt u5_) rfl (zdal_p dlB_Units_seek_80 (i := 23) rfl) ?_
          refine zr_ishl (pc := 44) (zdal_p dlB_Units_seek_81 (i := 0) rfl) ?_
          have hr18_ := zshl_r 1 u5_
          refine zr_nmI (fun v19_ hv19_ => ?_)
          obtain ⟨hv19_a, hv19_b⟩ := hv19_
          refine zk_stG hf_N6_.x (pc := 45) (o := 30) (by decide) l_Units_40 ((hf_N6_.w hW).kr (o := 29) (by decide)) ((hf_N6_.w hW).lr (o := 29) (s := 0) (r := 30) (by decide)) ((hf_N6_.w hW).rr (o := 30) (t := 1) (n := 27) (by decide)) (by decide) ⟨by omega, by omega⟩ (by decide) (Nat.le_of_ble_eq_true rfl) (zdal_p dlB_Units_seek_81 (i := 1) rfl) (fun N20_ hsN20_ => ?_)
          have hf_N20_ : zFc d_ [] [] [(28, 3), (28, 4)] [11, 30, 32] Mz N20_ := hf_N6_.tr hsN20_ (by decide) (by decide) (by decide) (by decide)
          have hb0_N20_ : zFc d_ [] [] [] [30] N4_ N20_ := hs7_.tr hsN20_ (by decide) (by decide) (by decide) (by decide)
          refine zr_iinc (pc := 48) (i := 1) (a := u5_) (n := 1) (L2 := [some (.ref (d_ + 28)), some (.int (Int32.ofInt (u5_ + 1)))]) rfl (by decide) rfl (zdal_p dlB_Units_seek_81 (i := 2) rfl) ?_
          obtain ⟨v21_, hv21_a, hv21_b, hv21_e, hv21_d⟩ := zk_gen (u5_ + 1)
          rw [hv21_e]
          refine zw_goto (pc := 51) (tgt := 26) (by decide) (zdal_p dlB_Units_seek_81 (i := 3) rfl) ?_
          exact ih_26 v21_ hv21_a hv21_b N20_ hb0_N20_ (show 0 ≤ v21_ by first | with_reducible assumption | assumption | omega) (by omega)
    exact lp_26 _ 0 (by decide) (by decide) N4_ zFc.rf (show 0 ≤ (0 : Int) by first | with_reducible assumption | assumption | omega) (Nat.lt_succ_self _)
  · skip
    exact zk_vret (pc := 7) rfl hf trivial (zdal_p dlB_Units_seek_80 (i := 3) rfl)
set_option maxHeartbeats 4000000 in
theorem u_Units_totalX (l : Launch) (d_ : Nat) (Mz : zMem) (hW : zKW d_ Mz) : zC l m_Units_total 0 0 [.ref (d_ + 28)] Mz (zqcI d_ [] [] [] [] Mz (fun v N => True)) := by
  refine zC_of (L0 := [some (.ref (d_ + 28))]) md_Units_total (Nat.le_of_ble_eq_true rfl) rfl ?_ zQ0
  have hf : zFc d_ [] [] [] [] Mz Mz := zFc.rf
  refine zw_iconst (pc := 0) (v := Int32.ofInt 1) (by decide) (zdal_p dlB_Units_total_95 (i := 0) rfl) ?_
  refine zw_aload_n (pc := 1) (n := 0) (x := (d_ + 28)) rfl (zdal_p dlB_Units_total_95 (i := 1) rfl) ?_
  refine zk_getI (pc := 2) f_Units_31 rfl ((hf.w hW).kr (o := 28) (by decide)) (zdal_p dlB_Units_total_95 (i := 2) rfl) ?_
  have hr1_ := ze_r Mz (d_ + 28) 3
  refine zr_ishl (pc := 5) (zdal_p dlB_Units_total_95 (i := 3) rfl) ?_
  have hr2_ := zshl_r 1 (ze Mz (d_ + 28) 3)
  refine zr_nmI (fun v3_ hv3_ => ?_)
  obtain ⟨hv3_a, hv3_b⟩ := hv3_
  exact zk_iret (pc := 6) (ty := .int) rfl rfl ⟨by omega, by omega⟩ hf trivial (zdal_p dlB_Units_total_95 (i := 4) rfl)
set_option maxHeartbeats 4000000 in
theorem u_T_unitsX (l : Launch) (d_ : Nat) (Mz : zMem) (hW : zKW d_ Mz) (hnow : zf Mz 0 2 = some (d_ + 0)) : zC l m_T_units 0 0 [.ref 0] Mz (zqcI d_ [] [] [(28, 3), (28, 4)] [11, 30, 32] Mz (fun v N => True)) := by
  refine zC_of (L0 := [some (.ref 0)]) md_T_units (Nat.le_of_ble_eq_true rfl) rfl ?_ zQ0
  have hf : zFc d_ [] [] [(28, 3), (28, 4)] [11, 30, 32] Mz Mz := zFc.rf
  refine zw_aload_n (pc := 0) (n := 0) (x := 0) rfl (zdal_p dlB_T_units_79 (i := 0) rfl) ?_
  refine zw_getF (pc := 1) f_T_28 rfl ((hf.w hW).ka (o := 0) (by decide)) (hf.now hnow) (zdal_p dlB_T_units_79 (i := 1) rfl) ?_
  refine zw_getF (pc := 4) f_T_227 rfl ((hf.w hW).kr (o := 0) (by decide)) ((hf.w hW).lr (o := 0) (s := 3) (r := 28) (by decide)) (zdal_p dlB_T_units_79 (i := 2) rfl) ?_
  refine zk_callV hf.x (pc := 7) [] [] l_T_231 (u_Units_seekX l d_ Mz (hf.w hW) ) rfl rfl ((hf.w hW).kr (o := 28) (by decide)) (by decide) (by decide) (Nat.le_of_ble_eq_true rfl) (zdal_p dlB_T_units_79 (i := 3) rfl) ?_
  rintro _ N1_ ⟨rfl, hsN1_, -⟩
  have hf_N1_ : zFc d_ [] [] [(28, 3), (28, 4)] [11, 30, 32] Mz N1_ := hf.tr hsN1_ (by decide) (by decide) (by decide) (by decide)
  show zW l m_T_units (zn Mz + 0, zw Mz + 0) N1_ 10 [some (.ref 0)] [] _
  refine zw_aload_n (pc := 10) (n := 0) (x := 0) rfl (zdal_p dlB_T_units_79 (i := 4) rfl) ?_
  refine zw_getF (pc := 11) f_T_28 rfl ((hf_N1_.w hW).ka (o := 0) (by decide)) (hf_N1_.now hnow) (zdal_p dlB_T_units_79 (i := 5) rfl) ?_
  refine zw_getF (pc := 14) f_T_227 rfl ((hf_N1_.w hW).kr (o := 0) (by decide)) ((hf_N1_.w hW).lr (o := 0) (s := 3) (r := 28) (by decide)) (zdal_p dlB_T_units_79 (i := 6) rfl) ?_
  refine zk_callV hf_N1_.x (pc := 17) [] [] l_T_236 (u_Units_totalX l d_ N1_ (hf_N1_.w hW) ) rfl rfl ((hf_N1_.w hW).kr (o := 28) (by decide)) (by decide) (by decide) (Nat.le_of_ble_eq_true rfl) (zdal_p dlB_T_units_79 (i := 7) rfl) ?_
  rintro _ N3_ ⟨v4_, rfl, ⟨hv4_a, hv4_b⟩, hsN3_, -⟩
  obtain rfl := hsN3_.eq.symm
  show zW l m_T_units (zn Mz + 0, zw Mz + 0) N1_ 20 [some (.ref 0)] [.int (Int32.ofInt v4_)] _
  exact zk_iret (pc := 20) (ty := .int) rfl rfl ⟨by omega, by omega⟩ hf_N1_ trivial (zdal_p dlB_T_units_79 (i := 8) rfl)
set_option maxHeartbeats 4000000 in
theorem u_Units_signsOfX (l : Launch) (d_ : Nat) (Mz : zMem) (hW : zKW d_ Mz) (a0_ : Int) (ha0_a : -2147483648 ≤ a0_) (ha0_b : a0_ < 2147483648) : zC l m_Units_signsOf 0 0 [.ref (d_ + 28), .int (Int32.ofInt a0_)] Mz (zqcI d_ [] [] [] [] Mz (fun v N => True)) := by
  refine zC_of (L0 := [some (.ref (d_ + 28)), some (.int (Int32.ofInt a0_)), none, none, none]) md_Units_signsOf (Nat.le_of_ble_eq_true rfl) rfl ?_ zQ0
  have hf : zFc d_ [] [] [] [] Mz Mz := zFc.rf
  refine zw_iconst (pc := 0) (v := Int32.ofInt 0) (by decide) (zdal_p dlB_Units_signsOf_98 (i := 0) rfl) ?_
  refine zw_istore_n (pc := 1) (i := 2) (L2 := [some (.ref (d_ + 28)), some (.int (Int32.ofInt a0_)), some (.int (Int32.ofInt 0)), none, none]) rfl (by decide) rfl (zdal_p dlB_Units_signsOf_98 (i := 1) rfl) ?_
  refine zw_iconst (pc := 2) (v := Int32.ofInt 0) (by decide) (zdal_p dlB_Units_signsOf_98 (i := 2) rfl) ?_
  refine zw_istore_n (pc := 3) (i := 3) (L2 := [some (.ref (d_ + 28)), some (.int (Int32.ofInt a0_)), some (.int (Int32.ofInt 0)), some (.int (Int32.ofInt 0)), none]) rfl (by decide) rfl (zdal_p dlB_Units_signsOf_98 (i := 3) rfl) ?_
  have lp_4 : ∀ (n : Nat) (u1_ : Int) (hu1_a : -2147483648 ≤ u1_) (hu1_b : u1_ < 2147483648) (u2_ : Int) (hu2_a : -2147483648 ≤ u2_) (hu2_b : u2_ < 2147483648) (i3_ : 0 ≤ u2_), (ze Mz (d_ + 28) 3 - u2_).toNat < n → zW l m_Units_signsOf (zn Mz + 0, zw Mz + 0) Mz 4 [some (.ref (d_ + 28)), some (.int (Int32.ofInt a0_)), some (.int (Int32.ofInt u1_)), some (.int (Int32.ofInt u2_)), none] [] (zqcI d_ [] [] [] [] Mz (fun v N => True)) := by
    intro n
    induction n with
    | zero =>
      intro u1_ hu1_a hu1_b u2_ hu2_a hu2_b i3_ h0
      exact absurd h0 (Nat.not_lt_zero _)
    | succ n ih_4 =>
      intro u1_ hu1_a hu1_b u2_ hu2_a hu2_b i3_ hlt_4
      refine zw_iload_n (pc := 4) (n := 3) (x := Int32.ofInt u2_) rfl (zdal_p dlB_Units_signsOf_98 (i := 4) rfl) ?_
      refine zw_aload_n (pc := 5) (n := 0) (x := (d_ + 28)) rfl (zdal_p dlB_Units_signsOf_98 (i := 5) rfl) ?_
      refine zk_getI (pc := 6) f_Units_31 rfl ((hf.w hW).kr (o := 28) (by decide)) (zdal_p dlB_Units_signsOf_98 (i := 6) rfl) ?_
      have hr4_ := ze_r Mz (d_ + 28) 3
      refine zr_icmp_ge (pc := 9) (tgt := 44) ⟨hu2_a, hu2_b⟩ ⟨(ze_r Mz (d_ + 28) 3).1, (ze_r Mz (d_ + 28) 3).2⟩ (by decide) (zdal_p dlB_Units_signsOf_98 (i := 7) rfl) (fun hc_9 => ?_) (fun hc_9 => ?_)
      · skip
        refine zw_iconst (pc := 44) (v := Int32.ofInt 0) (by decide) (zdal_p dlB_Units_signsOf_99 (i := 2) rfl) ?_
        refine zw_istore_n (pc := 45) (i := 3) (L2 := [some (.ref (d_ + 28)), some (.int (Int32.ofInt a0_)), some (.int (Int32.ofInt u1_)), some (.int (Int32.ofInt 0)), none]) rfl (by decide) rfl (zdal_p dlB_Units_signsOf_99 (i := 3) rfl) ?_
        refine zw_iconst (pc := 46) (v := Int32.ofInt 0) (by decide) (zdal_p dlB_Units_signsOf_99 (i := 4) rfl) ?_
        refine zw_istore (pc := 47) (i := 4) (L2 := [some (.ref (d_ + 28)), some (.int (Int32.ofInt a0_)), some (.int (Int32.ofInt u1_)), some (.int (Int32.ofInt 0)), some (.int (Int32.ofInt 0))]) (by decide) rfl (zdal_p dlB_Units_signsOf_99 (i := 5) rfl) ?_
        have lp_49 : ∀ (n : Nat) (u5_ : Int) (hu5_a : -2147483648 ≤ u5_) (hu5_b : u5_ < 2147483648) (u6_ : Int) (hu6_a : -2147483648 ≤ u6_) (hu6_b : u6_ < 2147483648) (i7_ : 0 ≤ u6_), (ze Mz (d_ + 12) 7 - u6_).toNat < n → zW l m_Units_signsOf (zn Mz + 0, zw Mz + 0) Mz 49 [some (.ref (d_ + 28)), some (.int (Int32.ofInt a0_)), some (.int (Int32.ofInt u1_)), some (.int (Int32.ofInt u5_)), some (.int (Int32.ofInt u6_))] [] (zqcI d_ [] [] [] [] Mz (fun v N => True)) := by
          intro n
          induction n with
          | zero =>
            intro u5_ hu5_a hu5_b u6_ hu6_a hu6_b i7_ h0
            exact absurd h0 (Nat.not_lt_zero _)
          | succ n ih_49 =>
            intro u5_ hu5_a hu5_b u6_ hu6_a hu6_b i7_ hlt_49
            refine zw_iload (pc := 49) (i := 4) (x := Int32.ofInt u6_) rfl (zdal_p dlB_Units_signsOf_99 (i := 6) rfl) ?_
            refine zw_aload_n (pc := 51) (n := 0) (x := (d_ + 28)) rfl (zdal_p dlB_Units_signsOf_99 (i := 7) rfl) ?_
            refine zw_getF (pc := 52) f_Units_23 rfl ((hf.w hW).kr (o := 28) (by decide)) ((hf.w hW).lr (o := 28) (s := 0) (r := 12) (by decide)) (zdal_p dlB_Units_signsOf_99 (i := 8) rfl) ?_
            refine zk_getI (pc := 55) f_Units_35 rfl ((hf.w hW).kr (o := 12) (by decide)) (zdal_p dlB_Units_signsOf_99 (i := 9) rfl) ?_
            have hr8_ := ze_r Mz (d_ + 12) 7
            refine zr_icmp_ge (pc := 58) (tgt := 85) ⟨hu6_a, hu6_b⟩ ⟨(ze_r Mz (d_ + 12) 7).1, (ze_r Mz (d_ + 12) 7).2⟩ (by decide) (zdal_p dlB_Units_signsOf_99 (i := 10) rfl) (fun hc_58 => ?_) (fun hc_58 => ?_)
            · skip
              refine zw_iload_n (pc := 85) (n := 3) (x := Int32.ofInt u5_) rfl (zdal_p dlB_Units_signsOf_100 (i := 1) rfl) ?_
              exact zk_iret (pc := 86) (ty := .int) rfl rfl ⟨by omega, by omega⟩ hf trivial (zdal_p dlB_Units_signsOf_100 (i := 2) rfl)
            · skip
              refine zw_iload_n (pc := 61) (n := 2) (x := Int32.ofInt u1_) rfl (zdal_p dlB_Units_signsOf_99 (i := 11) rfl) ?_
              refine zw_aload_n (pc := 62) (n := 0) (x := (d_ + 28)) rfl (zdal_p dlB_Units_signsOf_99 (i := 12) rfl) ?_
              refine zw_iload (pc := 63) (i := 4) (x := Int32.ofInt u6_) rfl (zdal_p dlB_Units_signsOf_99 (i := 13) rfl) ?_
              refine zk_callV hf.x (pc := 65) [.int (Int32.ofInt u6_)] [.int (Int32.ofInt u1_)] l_Units_80 (u_Units_bitOfX l d_ Mz (hf.w hW) u6_ hu6_a hu6_b) rfl rfl ((hf.w hW).kr (o := 28) (by decide)) (by decide) (by decide) (Nat.le_of_ble_eq_true rfl) (zdal_p dlB_Units_signsOf_99 (i := 14) rfl) ?_
              rintro _ N9_ ⟨v10_, rfl, ⟨hv10_a, hv10_b⟩, hsN9_, -⟩
              obtain rfl := hsN9_.eq.symm
              show zW l m_Units_signsOf (zn Mz + 0, zw Mz + 0) Mz 68 [some (.ref (d_ + 28)), some (.int (Int32.ofInt a0_)), some (.int (Int32.ofInt u1_)), some (.int (Int32.ofInt u5_)), some (.int (Int32.ofInt u6_))] [.int (Int32.ofInt v10_), .int (Int32.ofInt u1_)] _
              refine zr_iand (pc := 68) (zdal_p dlB_Units_signsOf_99 (i := 15) rfl) ?_
              have hr11_ := zand_r u1_ v10_
              refine zr_nmI (fun v12_ hv12_ => ?_)
              obtain ⟨hv12_a, hv12_b⟩ := hv12_
              refine zr_if_eq (pc := 69) (tgt := 79) ⟨hv12_a, hv12_b⟩ (by decide) (zdal_p dlB_Units_signsOf_99 (i := 16) rfl) (fun hc_69 => ?_) (fun hc_69 => ?_)
              · skip
                refine zr_iinc (pc := 79) (i := 4) (a := u6_) (n := 1) (L2 := [some (.ref (d_ + 28)), some (.int (Int32.ofInt a0_)), some (.int (Int32.ofInt u1_)), some (.int (Int32.ofInt u5_)), some (.int (Int32.ofInt (u6_ + 1)))]) rfl (by decide) rfl (zdal_p dlB_Units_signsOf_99 (i := 23) rfl) ?_
                obtain ⟨v13_, hv13_a, hv13_b, hv13_e, hv13_d⟩ := zk_gen (u6_ + 1)
                rw [hv13_e]
                refine zw_goto (pc := 82) (tgt := 49) (by decide) (zdal_p dlB_Units_signsOf_100 (i := 0) rfl) ?_
                exact ih_49 u5_ hu5_a hu5_b v13_ hv13_a hv13_b (show 0 ≤ v13_ by first | with_reducible assumption | assumption | omega) (by omega)
              · skip
                refine zw_iload_n (pc := 72) (n := 3) (x := Int32.ofInt u5_) rfl (zdal_p dlB_Units_signsOf_99 (i := 17) rfl) ?_
                refine zw_iconst (pc := 73) (v := Int32.ofInt 1) (by decide) (zdal_p dlB_Units_signsOf_99 (i := 18) rfl) ?_
                refine zw_iload (pc := 74) (i := 4) (x := Int32.ofInt u6_) rfl (zdal_p dlB_Units_signsOf_99 (i := 19) rfl) ?_
                refine zr_ishl (pc := 76) (zdal_p dlB_Units_signsOf_99 (i := 20) rfl) ?_
                have hr14_ := zshl_r 1 u6_
                refine zr_nmI (fun v15_ hv15_ => ?_)
                obtain ⟨hv15_a, hv15_b⟩ := hv15_
                refine zr_ior (pc := 77) (zdal_p dlB_Units_signsOf_99 (i := 21) rfl) ?_
                have hr16_ := zor_r u5_ v15_
                refine zr_nmI (fun v17_ hv17_ => ?_)
                obtain ⟨hv17_a, hv17_b⟩ := hv17_
                refine zw_istore_n (pc := 78) (i := 3) (L2 := [some (.ref (d_ + 28)), some (.int (Int32.ofInt a0_)), some (.int (Int32.ofInt u1_)), some (.int (Int32.ofInt v17_)), some (.int (Int32.ofInt u6_))]) rfl (by decide) rfl (zdal_p dlB_Units_signsOf_99 (i := 22) rfl) ?_
                refine zr_iinc (pc := 79) (i := 4) (a := u6_) (n := 1) (L2 := [some (.ref (d_ + 28)), some (.int (Int32.ofInt a0_)), some (.int (Int32.ofInt u1_)), some (.int (Int32.ofInt v17_)), some (.int (Int32.ofInt (u6_ + 1)))]) rfl (by decide) rfl (zdal_p dlB_Units_signsOf_99 (i := 23) rfl) ?_
                obtain ⟨v18_, hv18_a, hv18_b, hv18_e, hv18_d⟩ := zk_gen (u6_ + 1)
                rw [hv18_e]
                refine zw_goto (pc := 82) (tgt := 49) (by decide) (zdal_p dlB_Units_signsOf_100 (i := 0) rfl) ?_
                exact ih_49 v17_ hv17_a hv17_b v18_ hv18_a hv18_b (show 0 ≤ v18_ by first | with_reducible assumption | assumption | omega) (by omega)
        exact lp_49 _ 0 (by decide) (by decide) 0 (by decide) (by decide) (show 0 ≤ (0 : Int) by first | with_reducible assumption | assumption | omega) (Nat.lt_succ_self _)
      · skip
        refine zw_iload_n (pc := 12) (n := 1) (x := Int32.ofInt a0_) rfl (zdal_p dlB_Units_signsOf_98 (i := 8) rfl) ?_
        refine zw_aload_n (pc := 13) (n := 0) (x := (d_ + 28)) rfl (zdal_p dlB_Units_signsOf_98 (i := 9) rfl) ?_
        refine zk_getI (pc := 14) f_Units_31 rfl ((hf.w hW).kr (o := 28) (by decide)) (zdal_p dlB_Units_signsOf_98 (i := 10) rfl) ?_
        refine zw_iconst (pc := 17) (v := Int32.ofInt 1) (by decide) (zdal_p dlB_Units_signsOf_98 (i := 11) rfl) ?_
        refine zr_isub (pc := 18) (zdal_p dlB_Units_signsOf_98 (i := 12) rfl) ?_
        refine zr_nmI (fun v19_ hv19_ => ?_)
        obtain ⟨hv19_a, hv19_b⟩ := hv19_
        refine zw_iload_n (pc := 19) (n := 3) (x := Int32.ofInt u2_) rfl (zdal_p dlB_Units_signsOf_98 (i := 13) rfl) ?_
        refine zr_isub (pc := 20) (zdal_p dlB_Units_signsOf_98 (i := 14) rfl) ?_
        refine zr_nmI (fun v20_ hv20_ => ?_)
        obtain ⟨hv20_a, hv20_b⟩ := hv20_
        refine zr_callS hf.x (pc := 21) [.int (Int32.ofInt a0_), .int (Int32.ofInt v20_)] [] l_Units_69 (u_T_isInX l d_ Mz (hf.w hW) a0_ ha0_a ha0_b v20_ hv20_a hv20_b) rfl rfl (by decide) (Nat.le_of_ble_eq_true rfl) (zdal_p dlB_Units_signsOf_98 (i := 15) rfl) ?_
        rintro _ N21_ ⟨v22_, rfl, ⟨hv22_a, hv22_b⟩, hsN21_, hp0_N21_⟩
        obtain rfl := hsN21_.eq.symm
        replace hp0_N21_ : (v22_ = 0 ∨ v22_ = 1) := hp0_N21_
        show zW l m_Units_signsOf (zn Mz + 0, zw Mz + 0) Mz 24 [some (.ref (d_ + 28)), some (.int (Int32.ofInt a0_)), some (.int (Int32.ofInt u1_)), some (.int (Int32.ofInt u2_)), none] [.int (Int32.ofInt v22_)] _
        refine zr_if_eq (pc := 24) (tgt := 38) ⟨hv22_a, hv22_b⟩ (by decide) (zdal_p dlB_Units_signsOf_98 (i := 16) rfl) (fun hc_24 => ?_) (fun hc_24 => ?_)
        · skip
          refine zr_iinc (pc := 38) (i := 3) (a := u2_) (n := 1) (L2 := [some (.ref (d_ + 28)), some (.int (Int32.ofInt a0_)), some (.int (Int32.ofInt u1_)), some (.int (Int32.ofInt (u2_ + 1))), none]) rfl (by decide) rfl (zdal_p dlB_Units_signsOf_99 (i := 0) rfl) ?_
          obtain ⟨v23_, hv23_a, hv23_b, hv23_e, hv23_d⟩ := zk_gen (u2_ + 1)
          rw [hv23_e]
          refine zw_goto (pc := 41) (tgt := 4) (by decide) (zdal_p dlB_Units_signsOf_99 (i := 1) rfl) ?_
          exact ih_4 u1_ hu1_a hu1_b v23_ hv23_a hv23_b (show 0 ≤ v23_ by first | with_reducible assumption | assumption | omega) (by omega)
        · skip
          refine zw_iload_n (pc := 27) (n := 2) (x := Int32.ofInt u1_) rfl (zdal_p dlB_Units_signsOf_98 (i := 17) rfl) ?_
          refine zw_aload_n (pc := 28) (n := 0) (x := (d_ + 28)) rfl (zdal_p dlB_Units_signsOf_98 (i := 18) rfl) ?_
          refine zw_getF (pc := 29) f_Units_14 rfl ((hf.w hW).kr (o := 28) (by decide)) ((hf.w hW).lr (o := 28) (s := 1) (r := 29) (by decide)) (zdal_p dlB_Units_signsOf_98 (i := 19) rfl) ?_
          refine zw_iload_n (pc := 32) (n := 3) (x := Int32.ofInt u2_) rfl (zdal_p dlB_Units_signsOf_98 (i := 20) rfl) ?_
          refine zk_atG hf.x (pc := 33) l_Units_57 ((hf.w hW).kr (o := 29) (by decide)) ((hf.w hW).lr (o := 29) (s := 0) (r := 30) (by decide)) ((hf.w hW).rr (o := 30) (t := 1) (n := 27) (by decide)) (by decide) ⟨by omega, by omega⟩ (by decide) (Nat.le_of_ble_eq_true rfl) (zdal_p dlB_Units_signsOf_98 (i := 21) rfl) (fun v24_ hv24_ hv24_a hv24_b => ?_)
          clear hv24_
          refine zr_ixor (pc := 36) (zdal_p dlB_Units_signsOf_98 (i := 22) rfl) ?_
          have hr25_ := zxor_r u1_ v24_
          refine zr_nmI (fun v26_ hv26_ => ?_)
          obtain ⟨hv26_a, hv26_b⟩ := hv26_
          refine zw_istore_n (pc := 37) (i := 2) (L2 := [some (.ref (d_ + 28)), some (.int (Int32.ofInt a0_)), some (.int (Int32.ofInt v26_)), some (.int (Int32.ofInt u2_)), none]) rfl (by decide) rfl (zdal_p dlB_Units_signsOf_98 (i := 23) rfl) ?_
          refine zr_iinc (pc := 38) (i := 3) (a := u2_) (n := 1) (L2 := [some (.ref (d_ + 28)), some (.int (Int32.ofInt a0_)), some (.int (Int32.ofInt v26_)), some (.int (Int32.ofInt (u2_ + 1))), none]) rfl (by decide) rfl (zdal_p dlB_Units_signsOf_99 (i := 0) rfl) ?_
          obtain ⟨v27_, hv27_a, hv27_b, hv27_e, hv27_d⟩ := zk_gen (u2_ + 1)
          rw [hv27_e]
          refine zw_goto (pc := 41) (tgt := 4) (by decide) (zdal_p dlB_Units_signsOf_99 (i := 1) rfl) ?_
          exact ih_4 v26_ hv26_a hv26_b v27_ hv27_a hv27_b (show 0 ≤ v27_ by first | with_reducible assumption | assumption | omega) (by omega)
  exact lp_4 _ 0 (by decide) (by decide) 0 (by decide) (by decide) (show 0 ≤ (0 : Int) by first | with_reducible assumption | assumption | omega) (Nat.lt_succ_self _)
set_option maxHeartbeats 4000000 in
theorem u_Troupe_hasNameX (l : Launch) (d_ : Nat) (Mz : zMem) (hW : zKW d_ Mz) (a0_ : Int) (ha0_a : -2147483648 ≤ a0_) (ha0_b : a0_ < 2147483648) : zC l m_Troupe_hasName 0 0 [.ref (d_ + 0), .int (Int32.ofInt a0_)] Mz (zqcI d_ [] [] [] [] Mz (fun v N => ((v = 0 ∨ v = 1)))) := by
  refine zC_of (L0 := [some (.ref (d_ + 0)), some (.int (Int32.ofInt a0_))]) md_Troupe_hasName (Nat.le_of_ble_eq_true rfl) rfl ?_ zQ0
  have hf : zFc d_ [] [] [] [] Mz Mz := zFc.rf
  refine zw_iload_n (pc := 0) (n := 1) (x := Int32.ofInt a0_) rfl (zdal_p dlB_Troupe_hasName_103 (i := 0) rfl) ?_
  refine zr_if_lt (pc := 1) (tgt := 16) ⟨ha0_a, ha0_b⟩ (by decide) (zdal_p dlB_Troupe_hasName_103 (i := 1) rfl) (fun hc_1 => ?_) (fun hc_1 => ?_)
  · skip
    refine zw_iconst (pc := 16) (v := Int32.ofInt 0) (by decide) (zdal_p dlB_Troupe_hasName_103 (i := 8) rfl) ?_
    exact zk_iret (pc := 17) (ty := .boolean) rfl (z_narB (by omega)) ⟨by omega, by omega⟩ hf (show (((0 : Int)) = 0 ∨ ((0 : Int)) = 1) by first | with_reducible assumption | assumption | omega) d_Troupe_hasName_17
  · skip
    refine zw_iload_n (pc := 4) (n := 1) (x := Int32.ofInt a0_) rfl (zdal_p dlB_Troupe_hasName_103 (i := 2) rfl) ?_
    refine zw_aload_n (pc := 5) (n := 0) (x := (d_ + 0)) rfl (zdal_p dlB_Troupe_hasName_103 (i := 3) rfl) ?_
    refine zk_getI (pc := 6) f_Troupe_64 rfl ((hf.w hW).kr (o := 0) (by decide)) (zdal_p dlB_Troupe_hasName_103 (i := 4) rfl) ?_
    have hr1_ := ze_r Mz (d_ + 0) 6
    refine zr_icmp_ge (pc := 9) (tgt := 16) ⟨ha0_a, ha0_b⟩ ⟨(ze_r Mz (d_ + 0) 6).1, (ze_r Mz (d_ + 0) 6).2⟩ (by decide) (zdal_p dlB_Troupe_hasName_103 (i := 5) rfl) (fun hc_9 => ?_) (fun hc_9 => ?_)
    · skip
      refine zw_iconst (pc := 16) (v := Int32.ofInt 0) (by decide) (zdal_p dlB_Troupe_hasName_103 (i := 8) rfl) ?_
      exact zk_iret (pc := 17) (ty := .boolean) rfl (z_narB (by omega)) ⟨by omega, by omega⟩ hf (show (((0 : Int)) = 0 ∨ ((0 : Int)) = 1) by first | with_reducible assumption | assumption | omega) d_Troupe_hasName_17
    · skip
      refine zw_iconst (pc := 12) (v := Int32.ofInt 1) (by decide) (zdal_p dlB_Troupe_hasName_103 (i := 6) rfl) ?_
      refine zw_goto (pc := 13) (tgt := 17) (by decide) (zdal_p dlB_Troupe_hasName_103 (i := 7) rfl) ?_
      exact zk_iret (pc := 17) (ty := .boolean) rfl (z_narB (by omega)) ⟨by omega, by omega⟩ hf (show (((1 : Int)) = 0 ∨ ((1 : Int)) = 1) by first | with_reducible assumption | assumption | omega) d_Troupe_hasName_17
set_option maxHeartbeats 4000000 in
theorem u_T_namedX (l : Launch) (d_ : Nat) (Mz : zMem) (hW : zKW d_ Mz) (hnow : zf Mz 0 2 = some (d_ + 0)) (a0_ : Int) (ha0_a : -2147483648 ≤ a0_) (ha0_b : a0_ < 2147483648) (a1_ : Int) (ha1_a : -2147483648 ≤ a1_) (ha1_b : a1_ < 2147483648) : zC l m_T_named 0 0 [.ref 0, .int (Int32.ofInt a0_), .int (Int32.ofInt a1_)] Mz (zqcJ d_ [] [] [] [] Mz (fun v N => True)) := by
  refine zC_of (L0 := [some (.ref 0), some (.int (Int32.ofInt a0_)), some (.int (Int32.ofInt a1_))]) md_T_named (Nat.le_of_ble_eq_true rfl) rfl ?_ zQ0
  have hf : zFc d_ [] [] [] [] Mz Mz := zFc.rf
  refine zw_aload_n (pc := 0) (n := 0) (x := 0) rfl (zdal_p dlB_T_named_102 (i := 0) rfl) ?_
  refine zw_getF (pc := 1) f_T_28 rfl ((hf.w hW).ka (o := 0) (by decide)) (hf.now hnow) (zdal_p dlB_T_named_102 (i := 1) rfl) ?_
  refine zw_iload_n (pc := 4) (n := 1) (x := Int32.ofInt a0_) rfl (zdal_p dlB_T_named_102 (i := 2) rfl) ?_
  refine zk_callV hf.x (pc := 5) [.int (Int32.ofInt a0_)] [] l_T_245 (u_Troupe_hasNameX l d_ Mz (hf.w hW) a0_ ha0_a ha0_b) rfl rfl ((hf.w hW).kr (o := 0) (by decide)) (by decide) (by decide) (Nat.le_of_ble_eq_true rfl) (zdal_p dlB_T_named_102 (i := 3) rfl) ?_
  rintro _ N1_ ⟨v2_, rfl, ⟨hv2_a, hv2_b⟩, hsN1_, hp0_N1_⟩
  obtain rfl := hsN1_.eq.symm
  replace hp0_N1_ : (v2_ = 0 ∨ v2_ = 1) := hp0_N1_
  show zW l m_T_named (zn Mz + 0, zw Mz + 0) Mz 8 [some (.ref 0), some (.int (Int32.ofInt a0_)), some (.int (Int32.ofInt a1_))] [.int (Int32.ofInt v2_)] _
  refine zr_if_eq (pc := 8) (tgt := 42) ⟨hv2_a, hv2_b⟩ (by decide) (zdal_p dlB_T_named_102 (i := 4) rfl) (fun hc_8 => ?_) (fun hc_8 => ?_)
  · skip
    refine zr_ldc2 (pc := 42) (n := (-9223372036854775808)) (by decide) k_T_248 (zdal_p dlB_T_named_102 (i := 20) rfl) ?_
    exact zk_lret (pc := 45) rfl ⟨by omega, by omega⟩ hf trivial (zdal_p dlB_T_named_102 (i := 21) rfl)
  · skip
    refine zw_aload_n (pc := 11) (n := 0) (x := 0) rfl (zdal_p dlB_T_named_102 (i := 5) rfl) ?_
    refine zw_getF (pc := 12) f_T_28 rfl ((hf.w hW).ka (o := 0) (by decide)) (hf.now hnow) (zdal_p dlB_T_named_102 (i := 6) rfl) ?_
    refine zw_getF (pc := 15) f_T_85 rfl ((hf.w hW).kr (o := 0) (by decide)) ((hf.w hW).lr (o := 0) (s := 1) (r := 12) (by decide)) (zdal_p dlB_T_named_102 (i := 7) rfl) ?_
    refine zw_iload_n (pc := 18) (n := 2) (x := Int32.ofInt a1_) rfl (zdal_p dlB_T_named_102 (i := 8) rfl) ?_
    refine zk_callV hf.x (pc := 19) [.int (Int32.ofInt a1_)] [] l_T_143 (u_Sorts_hasSortX l d_ Mz (hf.w hW) a1_ ha1_a ha1_b) rfl rfl ((hf.w hW).kr (o := 12) (by decide)) (by decide) (by decide) (Nat.le_of_ble_eq_true rfl) (zdal_p dlB_T_named_102 (i := 9) rfl) ?_
    rintro _ N3_ ⟨v4_, rfl, ⟨hv4_a, hv4_b⟩, hsN3_, hp0_N3_⟩
    obtain rfl := hsN3_.eq.symm
    replace hp0_N3_ : (v4_ = 0 ∨ v4_ = 1) := hp0_N3_
    show zW l m_T_named (zn Mz + 0, zw Mz + 0) Mz 22 [some (.ref 0), some (.int (Int32.ofInt a0_)), some (.int (Int32.ofInt a1_))] [.int (Int32.ofInt v4_)] _
    refine zr_if_eq (pc := 22) (tgt := 42) ⟨hv4_a, hv4_b⟩ (by decide) (zdal_p dlB_T_named_102 (i := 10) rfl) (fun hc_22 => ?_) (fun hc_22 => ?_)
    · skip
      refine zr_ldc2 (pc := 42) (n := (-9223372036854775808)) (by decide) k_T_248 (zdal_p dlB_T_named_102 (i := 20) rfl) ?_
      exact zk_lret (pc := 45) rfl ⟨by omega, by omega⟩ hf trivial (zdal_p dlB_T_named_102 (i := 21) rfl)
    · skip
      refine zw_aload_n (pc := 25) (n := 0) (x := 0) rfl (zdal_p dlB_T_named_102 (i := 11) rfl) ?_
      refine zw_getF (pc := 26) f_T_28 rfl ((hf.w hW).ka (o := 0) (by decide)) (hf.now hnow) (zdal_p dlB_T_named_102 (i := 12) rfl) ?_
      refine zw_getF (pc := 29) f_T_169 rfl ((hf.w hW).kr (o := 0) (by decide)) ((hf.w hW).lr (o := 0) (s := 2) (r := 23) (by decide)) (zdal_p dlB_T_named_102 (i := 13) rfl) ?_
      refine zw_iconst (pc := 32) (v := Int32.ofInt 1) (by decide) (zdal_p dlB_T_named_102 (i := 14) rfl) ?_
      refine zw_iload_n (pc := 33) (n := 1) (x := Int32.ofInt a0_) rfl (zdal_p dlB_T_named_102 (i := 15) rfl) ?_
      refine zr_iadd (pc := 34) (zdal_p dlB_T_named_102 (i := 16) rfl) ?_
      refine zr_nmI (fun v5_ hv5_ => ?_)
      obtain ⟨hv5_a, hv5_b⟩ := hv5_
      refine zw_iload_n (pc := 35) (n := 2) (x := Int32.ofInt a1_) rfl (zdal_p dlB_T_named_102 (i := 17) rfl) ?_
      refine zk_callV hf.x (pc := 36) [.int (Int32.ofInt v5_), .int (Int32.ofInt a1_)] [] l_T_179 (u_Sums_numberAtX l d_ Mz (hf.w hW) v5_ hv5_a hv5_b a1_ ha1_a ha1_b) rfl rfl ((hf.w hW).kr (o := 23) (by decide)) (by decide) (by decide) (Nat.le_of_ble_eq_true rfl) (zdal_p dlB_T_named_102 (i := 18) rfl) ?_
      rintro _ N6_ ⟨v7_, rfl, ⟨hv7_a, hv7_b⟩, hsN6_, -⟩
      obtain rfl := hsN6_.eq.symm
      show zW l m_T_named (zn Mz + 0, zw Mz + 0) Mz 39 [some (.ref 0), some (.int (Int32.ofInt a0_)), some (.int (Int32.ofInt a1_))] [.long (Int64.ofInt v7_)] _
      refine zw_goto (pc := 39) (tgt := 45) (by decide) (zdal_p dlB_T_named_102 (i := 19) rfl) ?_
      exact zk_lret (pc := 45) rfl ⟨by omega, by omega⟩ hf trivial (zdal_p dlB_T_named_102 (i := 21) rfl)
set_option maxHeartbeats 4000000 in
theorem u_T_hasX (l : Launch) (d_ : Nat) (Mz : zMem) (hW : zKW d_ Mz) (hnow : zf Mz 0 2 = some (d_ + 0)) (a0_ : Int) (ha0_a : -2147483648 ≤ a0_) (ha0_b : a0_ < 2147483648) : zC l m_T_has 0 0 [.ref 0, .int (Int32.ofInt a0_)] Mz (zqcJ d_ [] [] [] [] Mz (fun v N => True)) := by
  refine zC_of (L0 := [some (.ref 0), some (.int (Int32.ofInt a0_))]) md_T_has (Nat.le_of_ble_eq_true rfl) rfl ?_ zQ0
  have hf : zFc d_ [] [] [] [] Mz Mz := zFc.rf
  refine zw_aload_n (pc := 0) (n := 0) (x := 0) rfl (zdal_p dlB_T_has_104 (i := 0) rfl) ?_
  refine zw_getF (pc := 1) f_T_28 rfl ((hf.w hW).ka (o := 0) (by decide)) (hf.now hnow) (zdal_p dlB_T_has_104 (i := 1) rfl) ?_
  refine zw_getF (pc := 4) f_T_85 rfl ((hf.w hW).kr (o := 0) (by decide)) ((hf.w hW).lr (o := 0) (s := 1) (r := 12) (by decide)) (zdal_p dlB_T_has_104 (i := 2) rfl) ?_
  refine zw_iload_n (pc := 7) (n := 1) (x := Int32.ofInt a0_) rfl (zdal_p dlB_T_has_104 (i := 3) rfl) ?_
  refine zk_callV hf.x (pc := 8) [.int (Int32.ofInt a0_)] [] l_T_143 (u_Sorts_hasSortX l d_ Mz (hf.w hW) a0_ ha0_a ha0_b) rfl rfl ((hf.w hW).kr (o := 12) (by decide)) (by decide) (by decide) (Nat.le_of_ble_eq_true rfl) (zdal_p dlB_T_has_104 (i := 4) rfl) ?_
  rintro _ N1_ ⟨v2_, rfl, ⟨hv2_a, hv2_b⟩, hsN1_, hp0_N1_⟩
  obtain rfl := hsN1_.eq.symm
  replace hp0_N1_ : (v2_ = 0 ∨ v2_ = 1) := hp0_N1_
  show zW l m_T_has (zn Mz + 0, zw Mz + 0) Mz 11 [some (.ref 0), some (.int (Int32.ofInt a0_))] [.int (Int32.ofInt v2_)] _
  refine zr_if_eq (pc := 11) (tgt := 29) ⟨hv2_a, hv2_b⟩ (by decide) (zdal_p dlB_T_has_104 (i := 5) rfl) (fun hc_11 => ?_) (fun hc_11 => ?_)
  · skip
    refine zr_ldc2 (pc := 29) (n := (-9223372036854775808)) (by decide) k_T_248 (zdal_p dlB_T_has_104 (i := 13) rfl) ?_
    exact zk_lret (pc := 32) rfl ⟨by omega, by omega⟩ hf trivial (zdal_p dlB_T_has_104 (i := 14) rfl)
  · skip
    refine zw_aload_n (pc := 14) (n := 0) (x := 0) rfl (zdal_p dlB_T_has_104 (i := 6) rfl) ?_
    refine zw_getF (pc := 15) f_T_28 rfl ((hf.w hW).ka (o := 0) (by decide)) (hf.now hnow) (zdal_p dlB_T_has_104 (i := 7) rfl) ?_
    refine zw_getF (pc := 18) f_T_169 rfl ((hf.w hW).kr (o := 0) (by decide)) ((hf.w hW).lr (o := 0) (s := 2) (r := 23) (by decide)) (zdal_p dlB_T_has_104 (i := 8) rfl) ?_
    refine zw_iconst (pc := 21) (v := Int32.ofInt 0) (by decide) (zdal_p dlB_T_has_104 (i := 9) rfl) ?_
    refine zw_iload_n (pc := 22) (n := 1) (x := Int32.ofInt a0_) rfl (zdal_p dlB_T_has_104 (i := 10) rfl) ?_
    refine zk_callV hf.x (pc := 23) [.int (Int32.ofInt 0), .int (Int32.ofInt a0_)] [] l_T_179 (u_Sums_numberAtX l d_ Mz (hf.w hW) 0 (by decide) (by decide) a0_ ha0_a ha0_b) rfl rfl ((hf.w hW).kr (o := 23) (by decide)) (by decide) (by decide) (Nat.le_of_ble_eq_true rfl) (zdal_p dlB_T_has_104 (i := 11) rfl) ?_
    rintro _ N3_ ⟨v4_, rfl, ⟨hv4_a, hv4_b⟩, hsN3_, -⟩
    obtain rfl := hsN3_.eq.symm
    show zW l m_T_has (zn Mz + 0, zw Mz + 0) Mz 26 [some (.ref 0), some (.int (Int32.ofInt a0_))] [.long (Int64.ofInt v4_)] _
    refine zw_goto (pc := 26) (tgt := 32) (by decide) (zdal_p dlB_T_has_104 (i := 12) rfl) ?_
    exact zk_lret (pc := 32) rfl ⟨by omega, by omega⟩ hf trivial (zdal_p dlB_T_has_104 (i := 14) rfl)
set_option maxHeartbeats 4000000 in
theorem u_Sums_markOfX (l : Launch) (d_ : Nat) (Mz : zMem) (hW : zKW d_ Mz) (a0_ : Int) (ha0_a : -2147483648 ≤ a0_) (ha0_b : a0_ < 2147483648) (a1_ : Int) (ha1_a : -2147483648 ≤ a1_) (ha1_b : a1_ < 2147483648) : zC l m_Sums_markOf 0 0 [.ref (d_ + 23), .int (Int32.ofInt a0_), .int (Int32.ofInt a1_)] Mz (zqcJ d_ [] [] [] [] Mz (fun v N => True)) := by
  refine zC_of (L0 := [some (.ref (d_ + 23)), some (.int (Int32.ofInt a0_)), some (.int (Int32.ofInt a1_)), none, none, none]) md_Sums_markOf (Nat.le_of_ble_eq_true rfl) rfl ?_ zQ0
  have hf : zFc d_ [] [] [] [] Mz Mz := zFc.rf
  refine zw_lconst (pc := 0) (v := Int64.ofInt 0) (by decide) (zdal_p dlA_Sums_markOf_138 (i := 0) rfl) ?_
  refine zw_lstore_n (pc := 1) (i := 3) (L2 := [some (.ref (d_ + 23)), some (.int (Int32.ofInt a0_)), some (.int (Int32.ofInt a1_)), some (.long (Int64.ofInt 0)), none, none]) rfl (by decide) rfl (zdal_p dlA_Sums_markOf_138 (i := 1) rfl) ?_
  refine zw_iconst (pc := 2) (v := Int32.ofInt 0) (by decide) (zdal_p dlA_Sums_markOf_138 (i := 2) rfl) ?_
  refine zw_istore (pc := 3) (i := 5) (L2 := [some (.ref (d_ + 23)), some (.int (Int32.ofInt a0_)), some (.int (Int32.ofInt a1_)), some (.long (Int64.ofInt 0)), none, some (.int (Int32.ofInt 0))]) (by decide) rfl (zdal_p dlA_Sums_markOf_138 (i := 3) rfl) ?_
  have lp_5 : ∀ (n : Nat) (u1_ : Int) (hu1_a : -9223372036854775808 ≤ u1_) (hu1_b : u1_ < 9223372036854775808) (u2_ : Int) (hu2_a : -2147483648 ≤ u2_) (hu2_b : u2_ < 2147483648) (i3_ : 0 ≤ u2_), (ze Mz (d_ + 12) 7 - u2_).toNat < n → zW l m_Sums_markOf (zn Mz + 0, zw Mz + 0) Mz 5 [some (.ref (d_ + 23)), some (.int (Int32.ofInt a0_)), some (.int (Int32.ofInt a1_)), some (.long (Int64.ofInt u1_)), none, some (.int (Int32.ofInt u2_))] [] (zqcJ d_ [] [] [] [] Mz (fun v N => True)) := by
    intro n
    induction n with
    | zero =>
      intro u1_ hu1_a hu1_b u2_ hu2_a hu2_b i3_ h0
      exact absurd h0 (Nat.not_lt_zero _)
    | succ n ih_5 =>
      intro u1_ hu1_a hu1_b u2_ hu2_a hu2_b i3_ hlt_5
      refine zw_iload (pc := 5) (i := 5) (x := Int32.ofInt u2_) rfl (zdal_p dlA_Sums_markOf_138 (i := 4) rfl) ?_
      refine zw_aload_n (pc := 7) (n := 0) (x := (d_ + 23)) rfl (zdal_p dlA_Sums_markOf_138 (i := 5) rfl) ?_
      refine zw_getF (pc := 8) f_Sums_23 rfl ((hf.w hW).kr (o := 23) (by decide)) ((hf.w hW).lr (o := 23) (s := 0) (r := 12) (by decide)) (zdal_p dlA_Sums_markOf_138 (i := 6) rfl) ?_
      refine zk_getI (pc := 11) f_Sums_35 rfl ((hf.w hW).kr (o := 12) (by decide)) (zdal_p dlA_Sums_markOf_138 (i := 7) rfl) ?_
      have hr4_ := ze_r Mz (d_ + 12) 7
      refine zr_icmp_ge (pc := 14) (tgt := 59) ⟨hu2_a, hu2_b⟩ ⟨(ze_r Mz (d_ + 12) 7).1, (ze_r Mz (d_ + 12) 7).2⟩ (by decide) (zdal_p dlA_Sums_markOf_138 (i := 8) rfl) (fun hc_14 => ?_) (fun hc_14 => ?_)
      · skip
        refine zw_lload_n (pc := 59) (n := 3) (x := Int64.ofInt u1_) rfl (zdal_p dlA_Sums_markOf_139 (i := 9) rfl) ?_
        exact zk_lret (pc := 60) rfl ⟨by omega, by omega⟩ hf trivial (zdal_p dlA_Sums_markOf_139 (i := 10) rfl)
      · skip
        refine zw_lload_n (pc := 17) (n := 3) (x := Int64.ofInt u1_) rfl (zdal_p dlA_Sums_markOf_138 (i := 9) rfl) ?_
        refine zw_aload_n (pc := 18) (n := 0) (x := (d_ + 23)) rfl (zdal_p dlA_Sums_markOf_138 (i := 10) rfl) ?_
        refine zw_getF (pc := 19) f_Sums_16 rfl ((hf.w hW).kr (o := 23) (by decide)) ((hf.w hW).lr (o := 23) (s := 1) (r := 24) (by decide)) (zdal_p dlA_Sums_markOf_138 (i := 11) rfl) ?_
        refine zw_iload_n (pc := 22) (n := 1) (x := Int32.ofInt a0_) rfl (zdal_p dlA_Sums_markOf_138 (i := 12) rfl) ?_
        refine zw_bipush (pc := 23) (v := Int32.ofInt 27) (by decide) (zdal_p dlA_Sums_markOf_138 (i := 13) rfl) ?_
        refine zr_imul (pc := 25) (zdal_p dlA_Sums_markOf_138 (i := 14) rfl) ?_
        refine zr_nmI (fun v5_ hv5_ => ?_)
        obtain ⟨hv5_a, hv5_b⟩ := hv5_
        refine zw_iload (pc := 26) (i := 5) (x := Int32.ofInt u2_) rfl (zdal_p dlA_Sums_markOf_138 (i := 15) rfl) ?_
        refine zr_iadd (pc := 28) (zdal_p dlA_Sums_markOf_138 (i := 16) rfl) ?_
        refine zr_nmI (fun v6_ hv6_ => ?_)
        obtain ⟨hv6_a, hv6_b⟩ := hv6_
        refine zk_atGJ hf.x (pc := 29) l_Sums_27 ((hf.w hW).kr (o := 24) (by decide)) ((hf.w hW).lr (o := 24) (s := 0) (r := 25) (by decide)) ((hf.w hW).rr (o := 25) (t := 2) (n := 1080) (by decide)) (by decide) ⟨by omega, by omega⟩ (by decide) (Nat.le_of_ble_eq_true rfl) (zdal_p dlA_Sums_markOf_138 (i := 17) rfl) (fun v7_ hv7_ hv7_a hv7_b => ?_)
        clear hv7_
        refine zw_aload_n (pc := 32) (n := 0) (x := (d_ + 23)) rfl (zdal_p dlA_Sums_markOf_138 (i := 18) rfl) ?_
        refine zw_getF (pc := 33) f_Sums_23 rfl ((hf.w hW).kr (o := 23) (by decide)) ((hf.w hW).lr (o := 23) (s := 0) (r := 12) (by decide)) (zdal_p dlA_Sums_markOf_138 (i := 19) rfl) ?_
        refine zw_getF (pc := 36) f_Sums_41 rfl ((hf.w hW).kr (o := 12) (by decide)) ((hf.w hW).lr (o := 12) (s := 5) (r := 21) (by decide)) (zdal_p dlA_Sums_markOf_138 (i := 20) rfl) ?_
        refine zw_iload (pc := 39) (i := 5) (x := Int32.ofInt u2_) rfl (zdal_p dlA_Sums_markOf_138 (i := 21) rfl) ?_
        refine zw_bipush (pc := 41) (v := Int32.ofInt 27) (by decide) (zdal_p dlA_Sums_markOf_138 (i := 22) rfl) ?_
        refine zr_imul (pc := 43) (zdal_p dlA_Sums_markOf_138 (i := 23) rfl) ?_
        refine zr_nmI (fun v8_ hv8_ => ?_)
        obtain ⟨hv8_a, hv8_b⟩ := hv8_
        refine zw_iload_n (pc := 44) (n := 2) (x := Int32.ofInt a1_) rfl (zdal_p dlA_Sums_markOf_139 (i := 0) rfl) ?_
        refine zr_iadd (pc := 45) (zdal_p dlA_Sums_markOf_139 (i := 1) rfl) ?_
        refine zr_nmI (fun v9_ hv9_ => ?_)
        obtain ⟨hv9_a, hv9_b⟩ := hv9_
        refine zk_atG hf.x (pc := 46) l_Sums_45 ((hf.w hW).kr (o := 21) (by decide)) ((hf.w hW).lr (o := 21) (s := 0) (r := 22) (by decide)) ((hf.w hW).rr (o := 22) (t := 1) (n := 729) (by decide)) (by decide) ⟨by omega, by omega⟩ (by decide) (Nat.le_of_ble_eq_true rfl) (zdal_p dlA_Sums_markOf_139 (i := 2) rfl) (fun v10_ hv10_ hv10_a hv10_b => ?_)
        clear hv10_
        refine zr_i2l (pc := 49) ⟨hv10_a, hv10_b⟩ (zdal_p dlA_Sums_markOf_139 (i := 3) rfl) ?_
        refine zr_lmul (pc := 50) (zdal_p dlA_Sums_markOf_139 (i := 4) rfl) ?_
        refine zr_nmJ (fun v11_ hv11_ => ?_)
        obtain ⟨hv11_a, hv11_b⟩ := hv11_
        refine zr_ladd (pc := 51) (zdal_p dlA_Sums_markOf_139 (i := 5) rfl) ?_
        refine zr_nmJ (fun v12_ hv12_ => ?_)
        obtain ⟨hv12_a, hv12_b⟩ := hv12_
        refine zw_lstore_n (pc := 52) (i := 3) (L2 := [some (.ref (d_ + 23)), some (.int (Int32.ofInt a0_)), some (.int (Int32.ofInt a1_)), some (.long (Int64.ofInt v12_)), none, some (.int (Int32.ofInt u2_))]) rfl (by decide) rfl (zdal_p dlA_Sums_markOf_139 (i := 6) rfl) ?_
        refine zr_iinc (pc := 53) (i := 5) (a := u2_) (n := 1) (L2 := [some (.ref (d_ + 23)), some (.int (Int32.ofInt a0_)), some (.int (Int32.ofInt a1_)), some (.long (Int64.ofInt v12_)), none, some (.int (Int32.ofInt (u2_ + 1)))]) rfl (by decide) rfl (zdal_p dlA_Sums_markOf_139 (i := 7) rfl) ?_
        obtain ⟨v13_, hv13_a, hv13_b, hv13_e, hv13_d⟩ := zk_gen (u2_ + 1)
        rw [hv13_e]
        refine zw_goto (pc := 56) (tgt := 5) (by decide) (zdal_p dlA_Sums_markOf_139 (i := 8) rfl) ?_
        exact ih_5 v12_ hv12_a hv12_b v13_ hv13_a hv13_b (show 0 ≤ v13_ by first | with_reducible assumption | assumption | omega) (by omega)
  exact lp_5 _ 0 (by decide) (by decide) 0 (by decide) (by decide) (show 0 ≤ (0 : Int) by first | with_reducible assumption | assumption | omega) (Nat.lt_succ_self _)
set_option maxHeartbeats 4000000 in
theorem u_T_markedX (l : Launch) (d_ : Nat) (Mz : zMem) (hW : zKW d_ Mz) (hnow : zf Mz 0 2 = some (d_ + 0)) (a0_ : Int) (ha0_a : -2147483648 ≤ a0_) (ha0_b : a0_ < 2147483648) : zC l m_T_marked 0 0 [.ref 0, .int (Int32.ofInt a0_)] Mz (zqcJ d_ [] [] [] [] Mz (fun v N => True)) := by
  refine zC_of (L0 := [some (.ref 0), some (.int (Int32.ofInt a0_))]) md_T_marked (Nat.le_of_ble_eq_true rfl) rfl ?_ zQ0
  have hf : zFc d_ [] [] [] [] Mz Mz := zFc.rf
  refine zw_aload_n (pc := 0) (n := 0) (x := 0) rfl (zdal_p dlB_T_marked_105 (i := 0) rfl) ?_
  refine zw_getF (pc := 1) f_T_28 rfl ((hf.w hW).ka (o := 0) (by decide)) (hf.now hnow) (zdal_p dlB_T_marked_105 (i := 1) rfl) ?_
  refine zw_getF (pc := 4) f_T_85 rfl ((hf.w hW).kr (o := 0) (by decide)) ((hf.w hW).lr (o := 0) (s := 1) (r := 12) (by decide)) (zdal_p dlB_T_marked_105 (i := 2) rfl) ?_
  refine zw_iload_n (pc := 7) (n := 1) (x := Int32.ofInt a0_) rfl (zdal_p dlB_T_marked_105 (i := 3) rfl) ?_
  refine zk_callV hf.x (pc := 8) [.int (Int32.ofInt a0_)] [] l_T_143 (u_Sorts_hasSortX l d_ Mz (hf.w hW) a0_ ha0_a ha0_b) rfl rfl ((hf.w hW).kr (o := 12) (by decide)) (by decide) (by decide) (Nat.le_of_ble_eq_true rfl) (zdal_p dlB_T_marked_105 (i := 4) rfl) ?_
  rintro _ N1_ ⟨v2_, rfl, ⟨hv2_a, hv2_b⟩, hsN1_, hp0_N1_⟩
  obtain rfl := hsN1_.eq.symm
  replace hp0_N1_ : (v2_ = 0 ∨ v2_ = 1) := hp0_N1_
  show zW l m_T_marked (zn Mz + 0, zw Mz + 0) Mz 11 [some (.ref 0), some (.int (Int32.ofInt a0_))] [.int (Int32.ofInt v2_)] _
  refine zr_if_eq (pc := 11) (tgt := 29) ⟨hv2_a, hv2_b⟩ (by decide) (zdal_p dlB_T_marked_105 (i := 5) rfl) (fun hc_11 => ?_) (fun hc_11 => ?_)
  · skip
    refine zr_ldc2 (pc := 29) (n := (-9223372036854775808)) (by decide) k_T_248 (zdal_p dlB_T_marked_105 (i := 13) rfl) ?_
    exact zk_lret (pc := 32) rfl ⟨by omega, by omega⟩ hf trivial (zdal_p dlB_T_marked_105 (i := 14) rfl)
  · skip
    refine zw_aload_n (pc := 14) (n := 0) (x := 0) rfl (zdal_p dlB_T_marked_105 (i := 6) rfl) ?_
    refine zw_getF (pc := 15) f_T_28 rfl ((hf.w hW).ka (o := 0) (by decide)) (hf.now hnow) (zdal_p dlB_T_marked_105 (i := 7) rfl) ?_
    refine zw_getF (pc := 18) f_T_169 rfl ((hf.w hW).kr (o := 0) (by decide)) ((hf.w hW).lr (o := 0) (s := 2) (r := 23) (by decide)) (zdal_p dlB_T_marked_105 (i := 8) rfl) ?_
    refine zw_iconst (pc := 21) (v := Int32.ofInt 0) (by decide) (zdal_p dlB_T_marked_105 (i := 9) rfl) ?_
    refine zw_iload_n (pc := 22) (n := 1) (x := Int32.ofInt a0_) rfl (zdal_p dlB_T_marked_105 (i := 10) rfl) ?_
    refine zk_callV hf.x (pc := 23) [.int (Int32.ofInt 0), .int (Int32.ofInt a0_)] [] l_T_250 (u_Sums_markOfX l d_ Mz (hf.w hW) 0 (by decide) (by decide) a0_ ha0_a ha0_b) rfl rfl ((hf.w hW).kr (o := 23) (by decide)) (by decide) (by decide) (Nat.le_of_ble_eq_true rfl) (zdal_p dlB_T_marked_105 (i := 11) rfl) ?_
    rintro _ N3_ ⟨v4_, rfl, ⟨hv4_a, hv4_b⟩, hsN3_, -⟩
    obtain rfl := hsN3_.eq.symm
    show zW l m_T_marked (zn Mz + 0, zw Mz + 0) Mz 26 [some (.ref 0), some (.int (Int32.ofInt a0_))] [.long (Int64.ofInt v4_)] _
    refine zw_goto (pc := 26) (tgt := 32) (by decide) (zdal_p dlB_T_marked_105 (i := 12) rfl) ?_
    exact zk_lret (pc := 32) rfl ⟨by omega, by omega⟩ hf trivial (zdal_p dlB_T_marked_105 (i := 14) rfl)
set_option maxHeartbeats 4000000 in
theorem u_T_characterX (l : Launch) (d_ : Nat) (Mz : zMem) (hW : zKW d_ Mz) (hnow : zf Mz 0 2 = some (d_ + 0)) (a0_ : Int) (ha0_a : -2147483648 ≤ a0_) (ha0_b : a0_ < 2147483648) : zC l m_T_character 0 0 [.ref 0, .int (Int32.ofInt a0_)] Mz (zqcJ d_ [] [] [] [11] Mz (fun v N => True)) := by
  refine zC_of (L0 := [some (.ref 0), some (.int (Int32.ofInt a0_))]) md_T_character (Nat.le_of_ble_eq_true rfl) rfl ?_ zQ0
  have hf : zFc d_ [] [] [] [11] Mz Mz := zFc.rf
  refine zw_aload_n (pc := 0) (n := 0) (x := 0) rfl (zdal_p dlB_T_character_106 (i := 0) rfl) ?_
  refine zw_getF (pc := 1) f_T_28 rfl ((hf.w hW).ka (o := 0) (by decide)) (hf.now hnow) (zdal_p dlB_T_character_106 (i := 1) rfl) ?_
  refine zw_getF (pc := 4) f_T_61 rfl ((hf.w hW).kr (o := 0) (by decide)) ((hf.w hW).lr (o := 0) (s := 0) (r := 1) (by decide)) (zdal_p dlB_T_character_106 (i := 2) rfl) ?_
  refine zw_iload_n (pc := 7) (n := 1) (x := Int32.ofInt a0_) rfl (zdal_p dlB_T_character_106 (i := 3) rfl) ?_
  refine zk_callV hf.x (pc := 8) [.int (Int32.ofInt a0_)] [] l_T_108 (u_Group_hasMemberX l d_ Mz (hf.w hW) a0_ ha0_a ha0_b) rfl rfl ((hf.w hW).kr (o := 1) (by decide)) (by decide) (by decide) (Nat.le_of_ble_eq_true rfl) (zdal_p dlB_T_character_106 (i := 4) rfl) ?_
  rintro _ N1_ ⟨v2_, rfl, ⟨hv2_a, hv2_b⟩, hsN1_, hp0_N1_⟩
  obtain rfl := hsN1_.eq.symm
  replace hp0_N1_ : (v2_ = 0 ∨ v2_ = 1) := hp0_N1_
  show zW l m_T_character (zn Mz + 0, zw Mz + 0) Mz 11 [some (.ref 0), some (.int (Int32.ofInt a0_))] [.int (Int32.ofInt v2_)] _
  refine zr_if_ne (pc := 11) (tgt := 18) ⟨hv2_a, hv2_b⟩ (by decide) (zdal_p dlB_T_character_106 (i := 5) rfl) (fun hc_11 => ?_) (fun hc_11 => ?_)
  · skip
    refine zw_aload_n (pc := 18) (n := 0) (x := 0) rfl (zdal_p dlB_T_character_106 (i := 8) rfl) ?_
    refine zw_getF (pc := 19) f_T_28 rfl ((hf.w hW).ka (o := 0) (by decide)) (hf.now hnow) (zdal_p dlB_T_character_106 (i := 9) rfl) ?_
    refine zw_getF (pc := 22) f_T_169 rfl ((hf.w hW).kr (o := 0) (by decide)) ((hf.w hW).lr (o := 0) (s := 2) (r := 23) (by decide)) (zdal_p dlB_T_character_106 (i := 10) rfl) ?_
    refine zw_iconst (pc := 25) (v := Int32.ofInt 0) (by decide) (zdal_p dlB_T_character_106 (i := 11) rfl) ?_
    refine zw_aload_n (pc := 26) (n := 0) (x := 0) rfl (zdal_p dlB_T_character_106 (i := 12) rfl) ?_
    refine zw_getF (pc := 27) f_T_28 rfl ((hf.w hW).ka (o := 0) (by decide)) (hf.now hnow) (zdal_p dlB_T_character_106 (i := 13) rfl) ?_
    refine zw_getF (pc := 30) f_T_85 rfl ((hf.w hW).kr (o := 0) (by decide)) ((hf.w hW).lr (o := 0) (s := 1) (r := 12) (by decide)) (zdal_p dlB_T_character_106 (i := 14) rfl) ?_
    refine zw_iconst (pc := 33) (v := Int32.ofInt 1) (by decide) (zdal_p dlB_T_character_106 (i := 15) rfl) ?_
    refine zw_iload_n (pc := 34) (n := 1) (x := Int32.ofInt a0_) rfl (zdal_p dlB_T_character_106 (i := 16) rfl) ?_
    refine zr_ishl (pc := 35) (zdal_p dlB_T_character_106 (i := 17) rfl) ?_
    have hr3_ := zshl_r 1 a0_
    refine zr_nmI (fun v4_ hv4_ => ?_)
    obtain ⟨hv4_a, hv4_b⟩ := hv4_
    refine zk_callV hf.x (pc := 36) [.int (Int32.ofInt v4_)] [.int (Int32.ofInt 0), .ref (d_ + 23)] l_T_140 (u_Sorts_spannedSortX l d_ Mz (hf.w hW) v4_ hv4_a hv4_b) rfl rfl ((hf.w hW).kr (o := 12) (by decide)) (by decide) (by decide) (Nat.le_of_ble_eq_true rfl) (zdal_p dlB_T_character_106 (i := 18) rfl) ?_
    rintro _ N5_ ⟨v6_, rfl, ⟨hv6_a, hv6_b⟩, hsN5_, -⟩
    have hf_N5_ : zFc d_ [] [] [] [11] Mz N5_ := hf.tr hsN5_ (by decide) (by decide) (by decide) (by decide)
    show zW l m_T_character (zn Mz + 0, zw Mz + 0) N5_ 39 [some (.ref 0), some (.int (Int32.ofInt a0_))] [.int (Int32.ofInt v6_), .int (Int32.ofInt 0), .ref (d_ + 23)] _
    refine zk_callV hf_N5_.x (pc := 39) [.int (Int32.ofInt 0), .int (Int32.ofInt v6_)] [] l_T_250 (u_Sums_markOfX l d_ N5_ (hf_N5_.w hW) 0 (by decide) (by decide) v6_ hv6_a hv6_b) rfl rfl ((hf_N5_.w hW).kr (o := 23) (by decide)) (by decide) (by decide) (Nat.le_of_ble_eq_true rfl) (zdal_p dlB_T_character_106 (i := 19) rfl) ?_
    rintro _ N7_ ⟨v8_, rfl, ⟨hv8_a, hv8_b⟩, hsN7_, -⟩
    obtain rfl := hsN7_.eq.symm
    show zW l m_T_character (zn Mz + 0, zw Mz + 0) N5_ 42 [some (.ref 0), some (.int (Int32.ofInt a0_))] [.long (Int64.ofInt v8_)] _
    exact zk_lret (pc := 42) rfl ⟨by omega, by omega⟩ hf_N5_ trivial (zdal_p dlB_T_character_106 (i := 20) rfl)
  · skip
    refine zr_ldc2 (pc := 14) (n := (-9223372036854775808)) (by decide) k_T_248 (zdal_p dlB_T_character_106 (i := 6) rfl) ?_
    exact zk_lret (pc := 17) rfl ⟨by omega, by omega⟩ hf trivial (zdal_p dlB_T_character_106 (i := 7) rfl)
set_option maxHeartbeats 4000000 in
theorem u_Sums_partsOfX (l : Launch) (d_ : Nat) (Mz : zMem) (hW : zKW d_ Mz) (a0_ : Int) (ha0_a : -2147483648 ≤ a0_) (ha0_b : a0_ < 2147483648) : zC l m_Sums_partsOf 0 0 [.ref (d_ + 23), .int (Int32.ofInt a0_)] Mz (zqcI d_ [] [] [] [] Mz (fun v N => True)) := by
  refine zC_of (L0 := [some (.ref (d_ + 23)), some (.int (Int32.ofInt a0_)), none, none]) md_Sums_partsOf (Nat.le_of_ble_eq_true rfl) rfl ?_ zQ0
  have hf : zFc d_ [] [] [] [] Mz Mz := zFc.rf
  refine zw_iconst (pc := 0) (v := Int32.ofInt 0) (by decide) (zdal_p dlB_Sums_partsOf_108 (i := 0) rfl) ?_
  refine zw_istore_n (pc := 1) (i := 2) (L2 := [some (.ref (d_ + 23)), some (.int (Int32.ofInt a0_)), some (.int (Int32.ofInt 0)), none]) rfl (by decide) rfl (zdal_p dlB_Sums_partsOf_108 (i := 1) rfl) ?_
  refine zw_iconst (pc := 2) (v := Int32.ofInt 0) (by decide) (zdal_p dlB_Sums_partsOf_108 (i := 2) rfl) ?_
  refine zw_istore_n (pc := 3) (i := 3) (L2 := [some (.ref (d_ + 23)), some (.int (Int32.ofInt a0_)), some (.int (Int32.ofInt 0)), some (.int (Int32.ofInt 0))]) rfl (by decide) rfl (zdal_p dlB_Sums_partsOf_108 (i := 3) rfl) ?_
  have lp_4 : ∀ (n : Nat) (u1_ : Int) (hu1_a : -2147483648 ≤ u1_) (hu1_b : u1_ < 2147483648) (u2_ : Int) (hu2_a : -2147483648 ≤ u2_) (hu2_b : u2_ < 2147483648) (i3_ : 0 ≤ u2_), (ze Mz (d_ + 12) 7 - u2_).toNat < n → zW l m_Sums_partsOf (zn Mz + 0, zw Mz + 0) Mz 4 [some (.ref (d_ + 23)), some (.int (Int32.ofInt a0_)), some (.int (Int32.ofInt u1_)), some (.int (Int32.ofInt u2_))] [] (zqcI d_ [] [] [] [] Mz (fun v N => True)) := by
    intro n
    induction n with
    | zero =>
      intro u1_ hu1_a hu1_b u2_ hu2_a hu2_b i3_ h0
      exact absurd h0 (Nat.not_lt_zero _)
    | succ n ih_4 =>
      intro u1_ hu1_a hu1_b u2_ hu2_a hu2_b i3_ hlt_4
      refine zw_iload_n (pc := 4) (n := 3) (x := Int32.ofInt u2_) rfl (zdal_p dlB_Sums_partsOf_108 (i := 4) rfl) ?_
      refine zw_aload_n (pc := 5) (n := 0) (x := (d_ + 23)) rfl (zdal_p dlB_Sums_partsOf_108 (i := 5) rfl) ?_
      refine zw_getF (pc := 6) f_Sums_23 rfl ((hf.w hW).kr (o := 23) (by decide)) ((hf.w hW).lr (o := 23) (s := 0) (r := 12) (by decide)) (zdal_p dlB_Sums_partsOf_108 (i := 6) rfl) ?_
      refine zk_getI (pc := 9) f_Sums_35 rfl ((hf.w hW).kr (o := 12) (by decide)) (zdal_p dlB_Sums_partsOf_108 (i := 7) rfl) ?_
      have hr4_ := ze_r Mz (d_ + 12) 7
      refine zr_icmp_ge (pc := 12) (tgt := 35) ⟨hu2_a, hu2_b⟩ ⟨(ze_r Mz (d_ + 12) 7).1, (ze_r Mz (d_ + 12) 7).2⟩ (by decide) (zdal_p dlB_Sums_partsOf_108 (i := 8) rfl) (fun hc_12 => ?_) (fun hc_12 => ?_)
      · skip
        refine zw_iload_n (pc := 35) (n := 2) (x := Int32.ofInt u1_) rfl (zdal_p dlB_Sums_partsOf_108 (i := 19) rfl) ?_
        exact zk_iret (pc := 36) (ty := .int) rfl rfl ⟨by omega, by omega⟩ hf trivial (zdal_p dlB_Sums_partsOf_108 (i := 20) rfl)
      · skip
        refine zw_aload_n (pc := 15) (n := 0) (x := (d_ + 23)) rfl (zdal_p dlB_Sums_partsOf_108 (i := 9) rfl) ?_
        refine zw_iload_n (pc := 16) (n := 1) (x := Int32.ofInt a0_) rfl (zdal_p dlB_Sums_partsOf_108 (i := 10) rfl) ?_
        refine zw_iload_n (pc := 17) (n := 3) (x := Int32.ofInt u2_) rfl (zdal_p dlB_Sums_partsOf_108 (i := 11) rfl) ?_
        refine zk_callV hf.x (pc := 18) [.int (Int32.ofInt a0_), .int (Int32.ofInt u2_)] [] l_Sums_67 (u_Sums_numberAtX l d_ Mz (hf.w hW) a0_ ha0_a ha0_b u2_ hu2_a hu2_b) rfl rfl ((hf.w hW).kr (o := 23) (by decide)) (by decide) (by decide) (Nat.le_of_ble_eq_true rfl) (zdal_p dlB_Sums_partsOf_108 (i := 12) rfl) ?_
        rintro _ N5_ ⟨v6_, rfl, ⟨hv6_a, hv6_b⟩, hsN5_, -⟩
        obtain rfl := hsN5_.eq.symm
        show zW l m_Sums_partsOf (zn Mz + 0, zw Mz + 0) Mz 21 [some (.ref (d_ + 23)), some (.int (Int32.ofInt a0_)), some (.int (Int32.ofInt u1_)), some (.int (Int32.ofInt u2_))] [.long (Int64.ofInt v6_)] _
        refine zw_lconst (pc := 21) (v := Int64.ofInt 0) (by decide) (zdal_p dlB_Sums_partsOf_108 (i := 13) rfl) ?_
        refine zr_lcmp (pc := 22) ⟨hv6_a, hv6_b⟩ ⟨(by decide), (by decide)⟩ (zdal_p dlB_Sums_partsOf_108 (i := 14) rfl) ?_
        have hr7_ := zcmp_s v6_ 0
        refine zr_if_eq (pc := 23) (tgt := 29) ⟨(by omega), (by omega)⟩ (by decide) (zdal_p dlB_Sums_partsOf_108 (i := 15) rfl) (fun hc_23 => ?_) (fun hc_23 => ?_)
        · skip
          refine zr_iinc (pc := 29) (i := 3) (a := u2_) (n := 1) (L2 := [some (.ref (d_ + 23)), some (.int (Int32.ofInt a0_)), some (.int (Int32.ofInt u1_)), some (.int (Int32.ofInt (u2_ + 1)))]) rfl (by decide) rfl (zdal_p dlB_Sums_partsOf_108 (i := 17) rfl) ?_
          obtain ⟨v8_, hv8_a, hv8_b, hv8_e, hv8_d⟩ := zk_gen (u2_ + 1)
          rw [hv8_e]
          refine zw_goto (pc := 32) (tgt := 4) (by decide) (zdal_p dlB_Sums_partsOf_108 (i := 18) rfl) ?_
          exact ih_4 u1_ hu1_a hu1_b v8_ hv8_a hv8_b (show 0 ≤ v8_ by first | with_reducible assumption | assumption | omega) (by omega)
        · skip
          refine zr_iinc (pc := 26) (i := 2) (a := u1_) (n := 1) (L2 := [some (.ref (d_ + 23)), some (.int (Int32.ofInt a0_)), some (.int (Int32.ofInt (u1_ + 1))), some (.int (Int32.ofInt u2_))]) rfl (by decide) rfl (zdal_p dlB_Sums_partsOf_108 (i := 16) rfl) ?_
          obtain ⟨v9_, hv9_a, hv9_b, hv9_e, hv9_d⟩ := zk_gen (u1_ + 1)
          rw [hv9_e]
          refine zr_iinc (pc := 29) (i := 3) (a := u2_) (n := 1) (L2 := [some (.ref (d_ + 23)), some (.int (Int32.ofInt a0_)), some (.int (Int32.ofInt v9_)), some (.int (Int32.ofInt (u2_ + 1)))]) rfl (by decide) rfl (zdal_p dlB_Sums_partsOf_108 (i := 17) rfl) ?_
          obtain ⟨v10_, hv10_a, hv10_b, hv10_e, hv10_d⟩ := zk_gen (u2_ + 1)
          rw [hv10_e]
          refine zw_goto (pc := 32) (tgt := 4) (by decide) (zdal_p dlB_Sums_partsOf_108 (i := 18) rfl) ?_
          exact ih_4 v9_ hv9_a hv9_b v10_ hv10_a hv10_b (show 0 ≤ v10_ by first | with_reducible assumption | assumption | omega) (by omega)
  exact lp_4 _ 0 (by decide) (by decide) 0 (by decide) (by decide) (show 0 ≤ (0 : Int) by first | with_reducible assumption | assumption | omega) (Nat.lt_succ_self _)
set_option maxHeartbeats 4000000 in
theorem u_T_partsX (l : Launch) (d_ : Nat) (Mz : zMem) (hW : zKW d_ Mz) (hnow : zf Mz 0 2 = some (d_ + 0)) : zC l m_T_parts 0 0 [.ref 0] Mz (zqcI d_ [] [] [] [] Mz (fun v N => True)) := by
  refine zC_of (L0 := [some (.ref 0)]) md_T_parts (Nat.le_of_ble_eq_true rfl) rfl ?_ zQ0
  have hf : zFc d_ [] [] [] [] Mz Mz := zFc.rf
  refine zw_aload_n (pc := 0) (n := 0) (x := 0) rfl (zdal_p dlB_T_parts_107 (i := 0) rfl) ?_
  refine zw_getF (pc := 1) f_T_28 rfl ((hf.w hW).ka (o := 0) (by decide)) (hf.now hnow) (zdal_p dlB_T_parts_107 (i := 1) rfl) ?_
  refine zw_getF (pc := 4) f_T_169 rfl ((hf.w hW).kr (o := 0) (by decide)) ((hf.w hW).lr (o := 0) (s := 2) (r := 23) (by decide)) (zdal_p dlB_T_parts_107 (i := 2) rfl) ?_
  refine zw_iconst (pc := 7) (v := Int32.ofInt 0) (by decide) (zdal_p dlB_T_parts_107 (i := 3) rfl) ?_
  refine zk_callV hf.x (pc := 8) [.int (Int32.ofInt 0)] [] l_T_253 (u_Sums_partsOfX l d_ Mz (hf.w hW) 0 (by decide) (by decide)) rfl rfl ((hf.w hW).kr (o := 23) (by decide)) (by decide) (by decide) (Nat.le_of_ble_eq_true rfl) (zdal_p dlB_T_parts_107 (i := 4) rfl) ?_
  rintro _ N1_ ⟨v2_, rfl, ⟨hv2_a, hv2_b⟩, hsN1_, -⟩
  obtain rfl := hsN1_.eq.symm
  show zW l m_T_parts (zn Mz + 0, zw Mz + 0) Mz 11 [some (.ref 0)] [.int (Int32.ofInt v2_)] _
  exact zk_iret (pc := 11) (ty := .int) rfl rfl ⟨by omega, by omega⟩ hf trivial (zdal_p dlB_T_parts_107 (i := 5) rfl)
set_option maxHeartbeats 4000000 in
theorem u_Sums_putMarksX (l : Launch) (d_ : Nat) (Mz : zMem) (hW : zKW d_ Mz) (a0_ : Int) (ha0_a : -2147483648 ≤ a0_) (ha0_b : a0_ < 2147483648) : zC l m_Sums_putMarks 0 0 [.ref (d_ + 23), .int (Int32.ofInt a0_)] Mz (zqcV d_ [] [] [] [27] Mz (fun N => True)) := by
  refine zC_of (L0 := [some (.ref (d_ + 23)), some (.int (Int32.ofInt a0_)), none]) md_Sums_putMarks (Nat.le_of_ble_eq_true rfl) rfl ?_ zQ0
  have hf : zFc d_ [] [] [] [27] Mz Mz := zFc.rf
  refine zw_iconst (pc := 0) (v := Int32.ofInt 0) (by decide) (zdal_p dlB_Sums_putMarks_111 (i := 0) rfl) ?_
  refine zw_istore_n (pc := 1) (i := 2) (L2 := [some (.ref (d_ + 23)), some (.int (Int32.ofInt a0_)), some (.int (Int32.ofInt 0))]) rfl (by decide) rfl (zdal_p dlB_Sums_putMarks_111 (i := 1) rfl) ?_
  have lp_2 : ∀ (n : Nat) (u1_ : Int) (hu1_a : -2147483648 ≤ u1_) (hu1_b : u1_ < 2147483648) (N2_ : zMem) (hs3_ : zFc d_ [] [] [] [27] Mz N2_) (i4_ : 0 ≤ u1_), (ze Mz (d_ + 12) 7 - u1_).toNat < n → zW l m_Sums_putMarks (zn Mz + 0, zw Mz + 0) N2_ 2 [some (.ref (d_ + 23)), some (.int (Int32.ofInt a0_)), some (.int (Int32.ofInt u1_))] [] (zqcV d_ [] [] [] [27] Mz (fun N => True)) := by
    intro n
    induction n with
    | zero =>
      intro u1_ hu1_a hu1_b N2_ hs3_ i4_ h0
      exact absurd h0 (Nat.not_lt_zero _)
    | succ n ih_2 =>
      intro u1_ hu1_a hu1_b N2_ hs3_ i4_ hlt_2
      have hf_N2_ : zFc d_ [] [] [] [27] Mz N2_ := hf.tr hs3_ (by decide) (by decide) (by decide) (by decide)
      refine zw_iload_n (pc := 2) (n := 2) (x := Int32.ofInt u1_) rfl (zdal_p dlB_Sums_putMarks_111 (i := 2) rfl) ?_
      refine zw_aload_n (pc := 3) (n := 0) (x := (d_ + 23)) rfl (zdal_p dlB_Sums_putMarks_111 (i := 3) rfl) ?_
      refine zw_getF (pc := 4) f_Sums_23 rfl ((hf_N2_.w hW).kr (o := 23) (by decide)) ((hf_N2_.w hW).lr (o := 23) (s := 0) (r := 12) (by decide)) (zdal_p dlB_Sums_putMarks_111 (i := 4) rfl) ?_
      refine zk_getI (pc := 7) f_Sums_35 rfl ((hf_N2_.w hW).kr (o := 12) (by decide)) (zdal_p dlB_Sums_putMarks_111 (i := 5) rfl) ?_
      rw [hf_N2_.e (by decide)]
      have hr5_ := ze_r Mz (d_ + 12) 7
      refine zr_icmp_ge (pc := 10) (tgt := 33) ⟨hu1_a, hu1_b⟩ ⟨(ze_r Mz (d_ + 12) 7).1, (ze_r Mz (d_ + 12) 7).2⟩ (by decide) (zdal_p dlB_Sums_putMarks_111 (i := 6) rfl) (fun hc_10 => ?_) (fun hc_10 => ?_)
      · skip
        exact zk_vret (pc := 33) rfl hf_N2_ trivial (zdal_p dlB_Sums_putMarks_111 (i := 17) rfl)
      · skip
        refine zw_aload_n (pc := 13) (n := 0) (x := (d_ + 23)) rfl (zdal_p dlB_Sums_putMarks_111 (i := 7) rfl) ?_
        refine zw_getF (pc := 14) f_Sums_20 rfl ((hf_N2_.w hW).kr (o := 23) (by decide)) ((hf_N2_.w hW).lr (o := 23) (s := 2) (r := 26) (by decide)) (zdal_p dlB_Sums_putMarks_111 (i := 8) rfl) ?_
        refine zw_iload_n (pc := 17) (n := 2) (x := Int32.ofInt u1_) rfl (zdal_p dlB_Sums_putMarks_111 (i := 9) rfl) ?_
        refine zw_aload_n (pc := 18) (n := 0) (x := (d_ + 23)) rfl (zdal_p dlB_Sums_putMarks_111 (i := 10) rfl) ?_
        refine zw_iload_n (pc := 19) (n := 1) (x := Int32.ofInt a0_) rfl (zdal_p dlB_Sums_putMarks_111 (i := 11) rfl) ?_
        refine zw_iload_n (pc := 20) (n := 2) (x := Int32.ofInt u1_) rfl (zdal_p dlB_Sums_putMarks_111 (i := 12) rfl) ?_
        refine zk_callV hf_N2_.x (pc := 21) [.int (Int32.ofInt a0_), .int (Int32.ofInt u1_)] [.int (Int32.ofInt u1_), .ref (d_ + 26)] l_Sums_50 (u_Sums_markOfX l d_ N2_ (hf_N2_.w hW) a0_ ha0_a ha0_b u1_ hu1_a hu1_b) rfl rfl ((hf_N2_.w hW).kr (o := 23) (by decide)) (by decide) (by decide) (Nat.le_of_ble_eq_true rfl) (zdal_p dlB_Sums_putMarks_111 (i := 13) rfl) ?_
        rintro _ N6_ ⟨v7_, rfl, ⟨hv7_a, hv7_b⟩, hsN6_, -⟩
        obtain rfl := hsN6_.eq.symm
        show zW l m_Sums_putMarks (zn Mz + 0, zw Mz + 0) N2_ 24 [some (.ref (d_ + 23)), some (.int (Int32.ofInt a0_)), some (.int (Int32.ofInt u1_))] [.long (Int64.ofInt v7_), .int (Int32.ofInt u1_), .ref (d_ + 26)] _
        refine zk_stGJ hf_N2_.x (pc := 24) (o := 27) (by decide) l_Sums_31 ((hf_N2_.w hW).kr (o := 26) (by decide)) ((hf_N2_.w hW).lr (o := 26) (s := 0) (r := 27) (by decide)) ((hf_N2_.w hW).rr (o := 27) (t := 2) (n := 27) (by decide)) (by decide) ⟨by omega, by omega⟩ (by decide) (Nat.le_of_ble_eq_true rfl) (zdal_p dlB_Sums_putMarks_111 (i := 14) rfl) (fun N8_ hsN8_ => ?_)
        have hf_N8_ : zFc d_ [] [] [] [27] Mz N8_ := hf_N2_.tr hsN8_ (by decide) (by decide) (by decide) (by decide)
        have hb0_N8_ : zFc d_ [] [] [] [27] Mz N8_ := hs3_.tr hsN8_ (by decide) (by decide) (by decide) (by decide)
        refine zr_iinc (pc := 27) (i := 2) (a := u1_) (n := 1) (L2 := [some (.ref (d_ + 23)), some (.int (Int32.ofInt a0_)), some (.int (Int32.ofInt (u1_ + 1)))]) rfl (by decide) rfl (zdal_p dlB_Sums_putMarks_111 (i := 15) rfl) ?_
        obtain ⟨v9_, hv9_a, hv9_b, hv9_e, hv9_d⟩ := zk_gen (u1_ + 1)
        rw [hv9_e]
        refine zw_goto (pc := 30) (tgt := 2) (by decide) (zdal_p dlB_Sums_putMarks_111 (i := 16) rfl) ?_
        exact ih_2 v9_ hv9_a hv9_b N8_ hb0_N8_ (show 0 ≤ v9_ by first | with_reducible assumption | assumption | omega) (by omega)
  exact lp_2 _ 0 (by decide) (by decide) Mz zFc.rf (show 0 ≤ (0 : Int) by first | with_reducible assumption | assumption | omega) (Nat.lt_succ_self _)
set_option maxHeartbeats 4000000 in
theorem u_Sorts_sumOverNormX (l : Launch) (d_ : Nat) (Mz : zMem) (hW : zKW d_ Mz) (a0_ : Int) (ha0_a : -2147483648 ≤ a0_) (ha0_b : a0_ < 2147483648) : zC l m_Sorts_sumOverNorm 0 0 [.ref (d_ + 12), .int (Int32.ofInt a0_), .ref (d_ + 26)] Mz (zqcJ d_ [] [] [] [11] Mz (fun v N => True)) := by
  refine zC_of (L0 := [some (.ref (d_ + 12)), some (.int (Int32.ofInt a0_)), some (.ref (d_ + 26)), none, none, none, none, none]) md_Sorts_sumOverNorm (Nat.le_of_ble_eq_true rfl) rfl ?_ zQ0
  have hf : zFc d_ [] [] [] [11] Mz Mz := zFc.rf
  refine zw_aload_n (pc := 0) (n := 0) (x := (d_ + 12)) rfl (zdal_p dlB_Sorts_sumOverNorm_113 (i := 0) rfl) ?_
  refine zw_getF (pc := 1) f_Sorts_26 rfl ((hf.w hW).kr (o := 12) (by decide)) ((hf.w hW).lr (o := 12) (s := 4) (r := 19) (by decide)) (zdal_p dlB_Sorts_sumOverNorm_113 (i := 1) rfl) ?_
  refine zw_iload_n (pc := 4) (n := 1) (x := Int32.ofInt a0_) rfl (zdal_p dlB_Sorts_sumOverNorm_113 (i := 2) rfl) ?_
  refine zk_atG hf.x (pc := 5) l_Sorts_49 ((hf.w hW).kr (o := 19) (by decide)) ((hf.w hW).lr (o := 19) (s := 0) (r := 20) (by decide)) ((hf.w hW).rr (o := 20) (t := 1) (n := 27) (by decide)) (by decide) ⟨by omega, by omega⟩ (by decide) (Nat.le_of_ble_eq_true rfl) (zdal_p dlB_Sorts_sumOverNorm_113 (i := 3) rfl) (fun v1_ hv1_ hv1_a hv1_b => ?_)
  clear hv1_
  refine zw_istore_n (pc := 8) (i := 3) (L2 := [some (.ref (d_ + 12)), some (.int (Int32.ofInt a0_)), some (.ref (d_ + 26)), some (.int (Int32.ofInt v1_)), none, none, none, none]) rfl (by decide) rfl (zdal_p dlB_Sorts_sumOverNorm_113 (i := 4) rfl) ?_
  refine zw_aload_n (pc := 9) (n := 0) (x := (d_ + 12)) rfl (zdal_p dlB_Sorts_sumOverNorm_113 (i := 5) rfl) ?_
  refine zw_getF (pc := 10) f_Sorts_32 rfl ((hf.w hW).kr (o := 12) (by decide)) ((hf.w hW).lr (o := 12) (s := 0) (r := 1) (by decide)) (zdal_p dlB_Sorts_sumOverNorm_113 (i := 6) rfl) ?_
  refine zw_iload_n (pc := 13) (n := 3) (x := Int32.ofInt v1_) rfl (zdal_p dlB_Sorts_sumOverNorm_113 (i := 7) rfl) ?_
  refine zk_callV hf.x (pc := 14) [.int (Int32.ofInt v1_)] [] l_Sorts_102 (u_Group_normOfX l d_ Mz (hf.w hW) v1_ hv1_a hv1_b) rfl rfl ((hf.w hW).kr (o := 1) (by decide)) (by decide) (by decide) (Nat.le_of_ble_eq_true rfl) (zdal_p dlB_Sorts_sumOverNorm_113 (i := 8) rfl) ?_
  rintro _ N2_ ⟨v3_, rfl, ⟨hv3_a, hv3_b⟩, hsN2_, -⟩
  obtain rfl := hsN2_.eq.symm
  show zW l m_Sorts_sumOverNorm (zn Mz + 0, zw Mz + 0) Mz 17 [some (.ref (d_ + 12)), some (.int (Int32.ofInt a0_)), some (.ref (d_ + 26)), some (.int (Int32.ofInt v1_)), none, none, none, none] [.int (Int32.ofInt v3_)] _
  refine zw_istore (pc := 17) (i := 4) (L2 := [some (.ref (d_ + 12)), some (.int (Int32.ofInt a0_)), some (.ref (d_ + 26)), some (.int (Int32.ofInt v1_)), some (.int (Int32.ofInt v3_)), none, none, none]) (by decide) rfl (zdal_p dlB_Sorts_sumOverNorm_113 (i := 9) rfl) ?_
  refine zw_lconst (pc := 19) (v := Int64.ofInt 0) (by decide) (zdal_p dlB_Sorts_sumOverNorm_113 (i := 10) rfl) ?_
  refine zw_lstore (pc := 20) (i := 5) (L2 := [some (.ref (d_ + 12)), some (.int (Int32.ofInt a0_)), some (.ref (d_ + 26)), some (.int (Int32.ofInt v1_)), some (.int (Int32.ofInt v3_)), some (.long (Int64.ofInt 0)), none, none]) (by decide) rfl (zdal_p dlB_Sorts_sumOverNorm_113 (i := 11) rfl) ?_
  refine zw_iconst (pc := 22) (v := Int32.ofInt 0) (by decide) (zdal_p dlB_Sorts_sumOverNorm_113 (i := 12) rfl) ?_
  refine zw_istore (pc := 23) (i := 7) (L2 := [some (.ref (d_ + 12)), some (.int (Int32.ofInt a0_)), some (.ref (d_ + 26)), some (.int (Int32.ofInt v1_)), some (.int (Int32.ofInt v3_)), some (.long (Int64.ofInt 0)), none, some (.int (Int32.ofInt 0))]) (by decide) rfl (zdal_p dlB_Sorts_sumOverNorm_113 (i := 13) rfl) ?_
  have lp_25 : ∀ (n : Nat) (u4_ : Int) (hu4_a : -9223372036854775808 ≤ u4_) (hu4_b : u4_ < 9223372036854775808) (u5_ : Int) (hu5_a : -2147483648 ≤ u5_) (hu5_b : u5_ < 2147483648) (N6_ : zMem) (hs7_ : zFc d_ [] [] [] [11] Mz N6_) (i8_ : 0 ≤ u5_), (ze Mz (d_ + 1) 7 - u5_).toNat < n → zW l m_Sorts_sumOverNorm (zn Mz + 0, zw Mz + 0) N6_ 25 [some (.ref (d_ + 12)), some (.int (Int32.ofInt a0_)), some (.ref (d_ + 26)), some (.int (Int32.ofInt v1_)), some (.int (Int32.ofInt v3_)), some (.long (Int64.ofInt u4_)), none, some (.int (Int32.ofInt u5_))] [] (zqcJ d_ [] [] [] [11] Mz (fun v N => True)) := by
    intro n
    induction n with
    | zero =>
      intro u4_ hu4_a hu4_b u5_ hu5_a hu5_b N6_ hs7_ i8_ h0
      exact absurd h0 (Nat.not_lt_zero _)
    | succ n ih_25 =>
      intro u4_ hu4_a hu4_b u5_ hu5_a hu5_b N6_ hs7_ i8_ hlt_25
      have hf_N6_ : zFc d_ [] [] [] [11] Mz N6_ := hf.tr hs7_ (by decide) (by decide) (by decide) (by decide)
      refine zw_iload (pc := 25) (i := 7) (x := Int32.ofInt u5_) rfl (zdal_p dlB_Sorts_sumOverNorm_113 (i := 14) rfl) ?_
      refine zw_aload_n (pc := 27) (n := 0) (x := (d_ + 12)) rfl (zdal_p dlB_Sorts_sumOverNorm_113 (i := 15) rfl) ?_
      refine zw_getF (pc := 28) f_Sorts_32 rfl ((hf_N6_.w hW).kr (o := 12) (by decide)) ((hf_N6_.w hW).lr (o := 12) (s := 0) (r := 1) (by decide)) (zdal_p dlB_Sorts_sumOverNorm_113 (i := 16) rfl) ?_
      refine zk_getI (pc := 31) f_Sorts_44 rfl ((hf_N6_.w hW).kr (o := 1) (by decide)) (zdal_p dlB_Sorts_sumOverNorm_113 (i := 17) rfl) ?_
      rw [hf_N6_.e (by decide)]
      have hr9_ := ze_r Mz (d_ + 1) 7
      refine zr_icmp_ge (pc := 34) (tgt := 72) ⟨hu5_a, hu5_b⟩ ⟨(ze_r Mz (d_ + 1) 7).1, (ze_r Mz (d_ + 1) 7).2⟩ (by decide) (zdal_p dlB_Sorts_sumOverNorm_113 (i := 18) rfl) (fun hc_34 => ?_) (fun hc_34 => ?_)
      · skip
        refine zw_lload (pc := 72) (i := 5) (x := Int64.ofInt u4_) rfl (zdal_p dlB_Sorts_sumOverNorm_114 (i := 13) rfl) ?_
        exact zk_lret (pc := 74) rfl ⟨by omega, by omega⟩ hf_N6_ trivial (zdal_p dlB_Sorts_sumOverNorm_114 (i := 14) rfl)
      · skip
        refine zw_iload (pc := 37) (i := 4) (x := Int32.ofInt v3_) rfl (zdal_p dlB_Sorts_sumOverNorm_113 (i := 19) rfl) ?_
        refine zw_iload (pc := 39) (i := 7) (x := Int32.ofInt u5_) rfl (zdal_p dlB_Sorts_sumOverNorm_113 (i := 20) rfl) ?_
        refine zr_callS hf_N6_.x (pc := 41) [.int (Int32.ofInt v3_), .int (Int32.ofInt u5_)] [] l_Sorts_53 (u_T_isInX l d_ N6_ (hf_N6_.w hW) v3_ hv3_a hv3_b u5_ hu5_a hu5_b) rfl rfl (by decide) (Nat.le_of_ble_eq_true rfl) (zdal_p dlB_Sorts_sumOverNorm_113 (i := 21) rfl) ?_
        rintro _ N10_ ⟨v11_, rfl, ⟨hv11_a, hv11_b⟩, hsN10_, hp0_N10_⟩
        obtain rfl := hsN10_.eq.symm
        replace hp0_N10_ : (v11_ = 0 ∨ v11_ = 1) := hp0_N10_
        show zW l m_Sorts_sumOverNorm (zn Mz + 0, zw Mz + 0) N6_ 44 [some (.ref (d_ + 12)), some (.int (Int32.ofInt a0_)), some (.ref (d_ + 26)), some (.int (Int32.ofInt v1_)), some (.int (Int32.ofInt v3_)), some (.long (Int64.ofInt u4_)), none, some (.int (Int32.ofInt u5_))] [.int (Int32.ofInt v11_)] _
        refine zr_if_eq (pc := 44) (tgt := 66) ⟨hv11_a, hv11_b⟩ (by decide) (zdal_p dlB_Sorts_sumOverNorm_113 (i := 22) rfl) (fun hc_44 => ?_) (fun hc_44 => ?_)
        · skip
          refine zr_iinc (pc := 66) (i := 7) (a := u5_) (n := 1) (L2 := [some (.ref (d_ + 12)), some (.int (Int32.ofInt a0_)), some (.ref (d_ + 26)), some (.int (Int32.ofInt v1_)), some (.int (Int32.ofInt v3_)), some (.long (Int64.ofInt u4_)), none, some (.int (Int32.ofInt (u5_ + 1)))]) rfl (by decide) rfl (zdal_p dlB_Sorts_sumOverNorm_114 (i := 11) rfl) ?_
          obtain ⟨v12_, hv12_a, hv12_b, hv12_e, hv12_d⟩ := zk_gen (u5_ + 1)
          rw [hv12_e]
          refine zw_goto (pc := 69) (tgt := 25) (by decide) (zdal_p dlB_Sorts_sumOverNorm_114 (i := 12) rfl) ?_
          exact ih_25 u4_ hu4_a hu4_b v12_ hv12_a hv12_b N6_ hs7_ (show 0 ≤ v12_ by first | with_reducible assumption | assumption | omega) (by omega)
        · skip
          refine zw_lload (pc := 47) (i := 5) (x := Int64.ofInt u4_) rfl (zdal_p dlB_Sorts_sumOverNorm_113 (i := 23) rfl) ?_
          refine zw_aload_n (pc := 49) (n := 2) (x := (d_ + 26)) rfl (zdal_p dlB_Sorts_sumOverNorm_114 (i := 0) rfl) ?_
          refine zw_aload_n (pc := 50) (n := 0) (x := (d_ + 12)) rfl (zdal_p dlB_Sorts_sumOverNorm_114 (i := 1) rfl) ?_
          refine zw_iload_n (pc := 51) (n := 3) (x := Int32.ofInt v1_) rfl (zdal_p dlB_Sorts_sumOverNorm_114 (i := 2) rfl) ?_
          refine zw_iconst (pc := 52) (v := Int32.ofInt 1) (by decide) (zdal_p dlB_Sorts_sumOverNorm_114 (i := 3) rfl) ?_
          refine zw_iload (pc := 53) (i := 7) (x := Int32.ofInt u5_) rfl (zdal_p dlB_Sorts_sumOverNorm_114 (i := 4) rfl) ?_
          refine zr_ishl (pc := 55) (zdal_p dlB_Sorts_sumOverNorm_114 (i := 5) rfl) ?_
          have hr13_ := zshl_r 1 u5_
          refine zr_nmI (fun v14_ hv14_ => ?_)
          obtain ⟨hv14_a, hv14_b⟩ := hv14_
          refine zr_ior (pc := 56) (zdal_p dlB_Sorts_sumOverNorm_114 (i := 6) rfl) ?_
          have hr15_ := zor_r v1_ v14_
          refine zr_nmI (fun v16_ hv16_ => ?_)
          obtain ⟨hv16_a, hv16_b⟩ := hv16_
          refine zk_callV hf_N6_.x (pc := 57) [.int (Int32.ofInt v16_)] [.ref (d_ + 26), .long (Int64.ofInt u4_)] l_Sorts_112 (u_Sorts_spannedSortX l d_ N6_ (hf_N6_.w hW) v16_ hv16_a hv16_b) rfl rfl ((hf_N6_.w hW).kr (o := 12) (by decide)) (by decide) (by decide) (Nat.le_of_ble_eq_true rfl) (zdal_p dlB_Sorts_sumOverNorm_114 (i := 7) rfl) ?_
          rintro _ N17_ ⟨v18_, rfl, ⟨hv18_a, hv18_b⟩, hsN17_, -⟩
          have hf_N17_ : zFc d_ [] [] [] [11] Mz N17_ := hf_N6_.tr hsN17_ (by decide) (by decide) (by decide) (by decide)
          have hb0_N17_ : zFc d_ [] [] [] [11] Mz N17_ := hs7_.tr hsN17_ (by decide) (by decide) (by decide) (by decide)
          show zW l m_Sorts_sumOverNorm (zn Mz + 0, zw Mz + 0) N17_ 60 [some (.ref (d_ + 12)), some (.int (Int32.ofInt a0_)), some (.ref (d_ + 26)), some (.int (Int32.ofInt v1_)), some (.int (Int32.ofInt v3_)), some (.long (Int64.ofInt u4_)), none, some (.int (Int32.ofInt u5_))] [.int (Int32.ofInt v18_), .ref (d_ + 26), .long (Int64.ofInt u4_)] _
          refine zk_atGJ hf_N17_.x (pc := 60) l_Sorts_115 ((hf_N17_.w hW).kr (o := 26) (by decide)) ((hf_N17_.w hW).lr (o := 26) (s := 0) (r := 27) (by decide)) ((hf_N17_.w hW).rr (o := 27) (t := 2) (n := 27) (by decide)) (by decide) ⟨by omega, by omega⟩ (by decide) (Nat.le_of_ble_eq_true rfl) (zdal_p dlB_Sorts_sumOverNorm_114 (i := 8) rfl) (fun v19_ hv19_ hv19_a hv19_b => ?_)
          clear hv19_
          refine zr_ladd (pc := 63) (zdal_p dlB_Sorts_sumOverNorm_114 (i := 9) rfl) ?_
          refine zr_nmJ (fun v20_ hv20_ => ?_)
          obtain ⟨hv20_a, hv20_b⟩ := hv20_
          refine zw_lstore (pc := 64) (i := 5) (L2 := [some (.ref (d_ + 12)), some (.int (Int32.ofInt a0_)), some (.ref (d_ + 26)), some (.int (Int32.ofInt v1_)), some (.int (Int32.ofInt v3_)), some (.long (Int64.ofInt v20_)), none, some (.int (Int32.ofInt u5_))]) (by decide) rfl (zdal_p dlB_Sorts_sumOverNorm_114 (i := 10) rfl) ?_
          refine zr_iinc (pc := 66) (i := 7) (a := u5_) (n := 1) (L2 := [some (.ref (d_ + 12)), some (.int (Int32.ofInt a0_)), some (.ref (d_ + 26)), some (.int (Int32.ofInt v1_)), some (.int (Int32.ofInt v3_)), some (.long (Int64.ofInt v20_)), none, some (.int (Int32.ofInt (u5_ + 1)))]) rfl (by decide) rfl (zdal_p dlB_Sorts_sumOverNorm_114 (i := 11) rfl) ?_
          obtain ⟨v21_, hv21_a, hv21_b, hv21_e, hv21_d⟩ := zk_gen (u5_ + 1)
          rw [hv21_e]
          refine zw_goto (pc := 69) (tgt := 25) (by decide) (zdal_p dlB_Sorts_sumOverNorm_114 (i := 12) rfl) ?_
          exact ih_25 v20_ hv20_a hv20_b v21_ hv21_a hv21_b N17_ hb0_N17_ (show 0 ≤ v21_ by first | with_reducible assumption | assumption | omega) (by omega)
  exact lp_25 _ 0 (by decide) (by decide) 0 (by decide) (by decide) Mz zFc.rf (show 0 ≤ (0 : Int) by first | with_reducible assumption | assumption | omega) (Nat.lt_succ_self _)
set_option maxHeartbeats 4000000 in
theorem u_Sorts_normSizeX (l : Launch) (d_ : Nat) (Mz : zMem) (hW : zKW d_ Mz) (a0_ : Int) (ha0_a : -2147483648 ≤ a0_) (ha0_b : a0_ < 2147483648) : zC l m_Sorts_normSize 0 0 [.ref (d_ + 12), .int (Int32.ofInt a0_)] Mz (zqcI d_ [] [] [] [] Mz (fun v N => True)) := by
  refine zC_of (L0 := [some (.ref (d_ + 12)), some (.int (Int32.ofInt a0_))]) md_Sorts_normSize (Nat.le_of_ble_eq_true rfl) rfl ?_ zQ0
  have hf : zFc d_ [] [] [] [] Mz Mz := zFc.rf
  refine zw_aload_n (pc := 0) (n := 0) (x := (d_ + 12)) rfl (zdal_p dlB_Sorts_normSize_112 (i := 0) rfl) ?_
  refine zw_getF (pc := 1) f_Sorts_32 rfl ((hf.w hW).kr (o := 12) (by decide)) ((hf.w hW).lr (o := 12) (s := 0) (r := 1) (by decide)) (zdal_p dlB_Sorts_normSize_112 (i := 1) rfl) ?_
  refine zw_aload_n (pc := 4) (n := 0) (x := (d_ + 12)) rfl (zdal_p dlB_Sorts_normSize_112 (i := 2) rfl) ?_
  refine zw_getF (pc := 5) f_Sorts_26 rfl ((hf.w hW).kr (o := 12) (by decide)) ((hf.w hW).lr (o := 12) (s := 4) (r := 19) (by decide)) (zdal_p dlB_Sorts_normSize_112 (i := 3) rfl) ?_
  refine zw_iload_n (pc := 8) (n := 1) (x := Int32.ofInt a0_) rfl (zdal_p dlB_Sorts_normSize_112 (i := 4) rfl) ?_
  refine zk_atG hf.x (pc := 9) l_Sorts_49 ((hf.w hW).kr (o := 19) (by decide)) ((hf.w hW).lr (o := 19) (s := 0) (r := 20) (by decide)) ((hf.w hW).rr (o := 20) (t := 1) (n := 27) (by decide)) (by decide) ⟨by omega, by omega⟩ (by decide) (Nat.le_of_ble_eq_true rfl) (zdal_p dlB_Sorts_normSize_112 (i := 5) rfl) (fun v1_ hv1_ hv1_a hv1_b => ?_)
  clear hv1_
  refine zk_callV hf.x (pc := 12) [.int (Int32.ofInt v1_)] [] l_Sorts_102 (u_Group_normOfX l d_ Mz (hf.w hW) v1_ hv1_a hv1_b) rfl rfl ((hf.w hW).kr (o := 1) (by decide)) (by decide) (by decide) (Nat.le_of_ble_eq_true rfl) (zdal_p dlB_Sorts_normSize_112 (i := 6) rfl) ?_
  rintro _ N2_ ⟨v3_, rfl, ⟨hv3_a, hv3_b⟩, hsN2_, -⟩
  obtain rfl := hsN2_.eq.symm
  show zW l m_Sorts_normSize (zn Mz + 0, zw Mz + 0) Mz 15 [some (.ref (d_ + 12)), some (.int (Int32.ofInt a0_))] [.int (Int32.ofInt v3_)] _
  refine zr_callS hf.x (pc := 15) [.int (Int32.ofInt v3_)] [] l_Sorts_78 (u_Integer_bitCountX l d_ Mz (hf.w hW) v3_ hv3_a hv3_b) rfl rfl (by decide) (Nat.le_of_ble_eq_true rfl) (zdal_p dlB_Sorts_normSize_112 (i := 7) rfl) ?_
  rintro _ N4_ ⟨v5_, rfl, ⟨hv5_a, hv5_b⟩, hsN4_, ⟨hp0_N4_, hp1_N4_⟩⟩
  obtain rfl := hsN4_.eq.symm
  show zW l m_Sorts_normSize (zn Mz + 0, zw Mz + 0) Mz 18 [some (.ref (d_ + 12)), some (.int (Int32.ofInt a0_))] [.int (Int32.ofInt v5_)] _
  exact zk_iret (pc := 18) (ty := .int) rfl rfl ⟨by omega, by omega⟩ hf trivial (zdal_p dlB_Sorts_normSize_112 (i := 8) rfl)
set_option maxHeartbeats 4000000 in
theorem u_T_congruenceX (l : Launch) (d_ : Nat) (Mz : zMem) (hW : zKW d_ Mz) (hnow : zf Mz 0 2 = some (d_ + 0)) (a0_ : Int) (ha0_a : -2147483648 ≤ a0_) (ha0_b : a0_ < 2147483648) : zC l m_T_congruence 0 0 [.ref 0, .int (Int32.ofInt a0_)] Mz (zqcJ d_ [] [] [] [11, 27] Mz (fun v N => True)) := by
  refine zC_of (L0 := [some (.ref 0), some (.int (Int32.ofInt a0_)), none, none, none]) md_T_congruence (Nat.le_of_ble_eq_true rfl) rfl ?_ zQ0
  have hf : zFc d_ [] [] [] [11, 27] Mz Mz := zFc.rf
  refine zw_aload_n (pc := 0) (n := 0) (x := 0) rfl (zdal_p dlB_T_congruence_109 (i := 0) rfl) ?_
  refine zw_getF (pc := 1) f_T_28 rfl ((hf.w hW).ka (o := 0) (by decide)) (hf.now hnow) (zdal_p dlB_T_congruence_109 (i := 1) rfl) ?_
  refine zw_getF (pc := 4) f_T_85 rfl ((hf.w hW).kr (o := 0) (by decide)) ((hf.w hW).lr (o := 0) (s := 1) (r := 12) (by decide)) (zdal_p dlB_T_congruence_109 (i := 2) rfl) ?_
  refine zw_iload_n (pc := 7) (n := 1) (x := Int32.ofInt a0_) rfl (zdal_p dlB_T_congruence_109 (i := 3) rfl) ?_
  refine zk_callV hf.x (pc := 8) [.int (Int32.ofInt a0_)] [] l_T_143 (u_Sorts_hasSortX l d_ Mz (hf.w hW) a0_ ha0_a ha0_b) rfl rfl ((hf.w hW).kr (o := 12) (by decide)) (by decide) (by decide) (Nat.le_of_ble_eq_true rfl) (zdal_p dlB_T_congruence_109 (i := 4) rfl) ?_
  rintro _ N1_ ⟨v2_, rfl, ⟨hv2_a, hv2_b⟩, hsN1_, hp0_N1_⟩
  obtain rfl := hsN1_.eq.symm
  replace hp0_N1_ : (v2_ = 0 ∨ v2_ = 1) := hp0_N1_
  show zW l m_T_congruence (zn Mz + 0, zw Mz + 0) Mz 11 [some (.ref 0), some (.int (Int32.ofInt a0_)), none, none, none] [.int (Int32.ofInt v2_)] _
  refine zr_if_ne (pc := 11) (tgt := 18) ⟨hv2_a, hv2_b⟩ (by decide) (zdal_p dlB_T_congruence_109 (i := 5) rfl) (fun hc_11 => ?_) (fun hc_11 => ?_)
  · skip
    refine zw_aload_n (pc := 18) (n := 0) (x := 0) rfl (zdal_p dlB_T_congruence_109 (i := 8) rfl) ?_
    refine zw_getF (pc := 19) f_T_28 rfl ((hf.w hW).ka (o := 0) (by decide)) (hf.now hnow) (zdal_p dlB_T_congruence_109 (i := 9) rfl) ?_
    refine zw_getF (pc := 22) f_T_169 rfl ((hf.w hW).kr (o := 0) (by decide)) ((hf.w hW).lr (o := 0) (s := 2) (r := 23) (by decide)) (zdal_p dlB_T_congruence_109 (i := 10) rfl) ?_
    refine zw_iconst (pc := 25) (v := Int32.ofInt 0) (by decide) (zdal_p dlB_T_congruence_109 (i := 11) rfl) ?_
    refine zk_callV hf.x (pc := 26) [.int (Int32.ofInt 0)] [] l_T_256 (u_Sums_putMarksX l d_ Mz (hf.w hW) 0 (by decide) (by decide)) rfl rfl ((hf.w hW).kr (o := 23) (by decide)) (by decide) (by decide) (Nat.le_of_ble_eq_true rfl) (zdal_p dlB_T_congruence_109 (i := 12) rfl) ?_
    rintro _ N3_ ⟨rfl, hsN3_, -⟩
    have hf_N3_ : zFc d_ [] [] [] [11, 27] Mz N3_ := hf.tr hsN3_ (by decide) (by decide) (by decide) (by decide)
    show zW l m_T_congruence (zn Mz + 0, zw Mz + 0) N3_ 29 [some (.ref 0), some (.int (Int32.ofInt a0_)), none, none, none] [] _
    refine zw_aload_n (pc := 29) (n := 0) (x := 0) rfl (zdal_p dlB_T_congruence_109 (i := 13) rfl) ?_
    refine zw_getF (pc := 30) f_T_28 rfl ((hf_N3_.w hW).ka (o := 0) (by decide)) (hf_N3_.now hnow) (zdal_p dlB_T_congruence_109 (i := 14) rfl) ?_
    refine zw_getF (pc := 33) f_T_85 rfl ((hf_N3_.w hW).kr (o := 0) (by decide)) ((hf_N3_.w hW).lr (o := 0) (s := 1) (r := 12) (by decide)) (zdal_p dlB_T_congruence_109 (i := 15) rfl) ?_
    refine zw_iload_n (pc := 36) (n := 1) (x := Int32.ofInt a0_) rfl (zdal_p dlB_T_congruence_109 (i := 16) rfl) ?_
    refine zk_callV hf_N3_.x (pc := 37) [.int (Int32.ofInt a0_)] [] l_T_259 (u_Sorts_normSizeX l d_ N3_ (hf_N3_.w hW) a0_ ha0_a ha0_b) rfl rfl ((hf_N3_.w hW).kr (o := 12) (by decide)) (by decide) (by decide) (Nat.le_of_ble_eq_true rfl) (zdal_p dlB_T_congruence_109 (i := 17) rfl) ?_
    rintro _ N5_ ⟨v6_, rfl, ⟨hv6_a, hv6_b⟩, hsN5_, -⟩
    obtain rfl := hsN5_.eq.symm
    show zW l m_T_congruence (zn Mz + 0, zw Mz + 0) N3_ 40 [some (.ref 0), some (.int (Int32.ofInt a0_)), none, none, none] [.int (Int32.ofInt v6_)] _
    refine zw_istore_n (pc := 40) (i := 2) (L2 := [some (.ref 0), some (.int (Int32.ofInt a0_)), some (.int (Int32.ofInt v6_)), none, none]) rfl (by decide) rfl (zdal_p dlB_T_congruence_109 (i := 18) rfl) ?_
    refine zw_aload_n (pc := 41) (n := 0) (x := 0) rfl (zdal_p dlB_T_congruence_109 (i := 19) rfl) ?_
    refine zw_getF (pc := 42) f_T_28 rfl ((hf_N3_.w hW).ka (o := 0) (by decide)) (hf_N3_.now hnow) (zdal_p dlB_T_congruence_109 (i := 20) rfl) ?_
    refine zw_getF (pc := 45) f_T_85 rfl ((hf_N3_.w hW).kr (o := 0) (by decide)) ((hf_N3_.w hW).lr (o := 0) (s := 1) (r := 12) (by decide)) (zdal_p dlB_T_congruence_109 (i := 21) rfl) ?_
    refine zw_iload_n (pc := 48) (n := 1) (x := Int32.ofInt a0_) rfl (zdal_p dlB_T_congruence_109 (i := 22) rfl) ?_
    refine zw_aload_n (pc := 49) (n := 0) (x := 0) rfl (zdal_p dlB_T_congruence_109 (i := 23) rfl) ?_
    refine zw_getF (pc := 50) f_T_28 rfl ((hf_N3_.w hW).ka (o := 0) (by decide)) (hf_N3_.now hnow) (zdal_p dlB_T_congruence_110 (i := 0) rfl) ?_
    refine zw_getF (pc := 53) f_T_169 rfl ((hf_N3_.w hW).kr (o := 0) (by decide)) ((hf_N3_.w hW).lr (o := 0) (s := 2) (r := 23) (by decide)) (zdal_p dlB_T_congruence_110 (i := 1) rfl) ?_
    refine zw_getF (pc := 56) f_T_262 rfl ((hf_N3_.w hW).kr (o := 23) (by decide)) ((hf_N3_.w hW).lr (o := 23) (s := 2) (r := 26) (by decide)) (zdal_p dlB_T_congruence_110 (i := 2) rfl) ?_
    refine zk_callV hf_N3_.x (pc := 59) [.int (Int32.ofInt a0_), .ref (d_ + 26)] [] l_T_266 (u_Sorts_sumOverNormX l d_ N3_ (hf_N3_.w hW) a0_ ha0_a ha0_b) rfl rfl ((hf_N3_.w hW).kr (o := 12) (by decide)) (by decide) (by decide) (Nat.le_of_ble_eq_true rfl) (zdal_p dlB_T_congruence_110 (i := 3) rfl) ?_
    rintro _ N7_ ⟨v8_, rfl, ⟨hv8_a, hv8_b⟩, hsN7_, -⟩
    have hf_N7_ : zFc d_ [] [] [] [11, 27] Mz N7_ := hf_N3_.tr hsN7_ (by decide) (by decide) (by decide) (by decide)
    show zW l m_T_congruence (zn Mz + 0, zw Mz + 0) N7_ 62 [some (.ref 0), some (.int (Int32.ofInt a0_)), some (.int (Int32.ofInt v6_)), none, none] [.long (Int64.ofInt v8_)] _
    refine zw_lstore_n (pc := 62) (i := 3) (L2 := [some (.ref 0), some (.int (Int32.ofInt a0_)), some (.int (Int32.ofInt v6_)), some (.long (Int64.ofInt v8_)), none]) rfl (by decide) rfl (zdal_p dlB_T_congruence_110 (i := 4) rfl) ?_
    refine zw_iload_n (pc := 63) (n := 2) (x := Int32.ofInt v6_) rfl (zdal_p dlB_T_congruence_110 (i := 5) rfl) ?_
    refine zr_if_le (pc := 64) (tgt := 74) ⟨hv6_a, hv6_b⟩ (by decide) (zdal_p dlB_T_congruence_110 (i := 6) rfl) (fun hc_64 => ?_) (fun hc_64 => ?_)
    · skip
      refine zr_ldc2 (pc := 74) (n := (-9223372036854775808)) (by decide) k_T_248 (zdal_p dlB_T_congruence_110 (i := 12) rfl) ?_
      exact zk_lret (pc := 77) rfl ⟨by omega, by omega⟩ hf_N7_ trivial (zdal_p dlB_T_congruence_110 (i := 13) rfl)
    · skip
      refine zw_lload_n (pc := 67) (n := 3) (x := Int64.ofInt v8_) rfl (zdal_p dlB_T_congruence_110 (i := 7) rfl) ?_
      refine zw_iload_n (pc := 68) (n := 2) (x := Int32.ofInt v6_) rfl (zdal_p dlB_T_congruence_110 (i := 8) rfl) ?_
      refine zr_i2l (pc := 69) ⟨hv6_a, hv6_b⟩ (zdal_p dlB_T_congruence_110 (i := 9) rfl) ?_
      refine zr_ldiv (pc := 70) ⟨by omega, by omega⟩ (by omega) (zdal_p dlB_T_congruence_110 (i := 10) rfl) ?_
      have hr9_ := zlquo_r v8_ v6_
      refine zr_nmJ (fun v10_ hv10_ => ?_)
      obtain ⟨hv10_a, hv10_b⟩ := hv10_
      refine zw_goto (pc := 71) (tgt := 77) (by decide) (zdal_p dlB_T_congruence_110 (i := 11) rfl) ?_
      exact zk_lret (pc := 77) rfl ⟨by omega, by omega⟩ hf_N7_ trivial (zdal_p dlB_T_congruence_110 (i := 13) rfl)
  · skip
    refine zr_ldc2 (pc := 14) (n := (-9223372036854775808)) (by decide) k_T_248 (zdal_p dlB_T_congruence_109 (i := 6) rfl) ?_
    exact zk_lret (pc := 17) rfl ⟨by omega, by omega⟩ hf trivial (zdal_p dlB_T_congruence_109 (i := 7) rfl)
set_option maxHeartbeats 4000000 in
theorem u_Sums_hasNoneBelowX (l : Launch) (d_ : Nat) (Mz : zMem) (hW : zKW d_ Mz) (a0_ : Int) (ha0_a : -2147483648 ≤ a0_) (ha0_b : a0_ < 2147483648) : zC l m_Sums_hasNoneBelow 0 0 [.ref (d_ + 23), .int (Int32.ofInt a0_)] Mz (zqcI d_ [] [] [] [] Mz (fun v N => ((v = 0 ∨ v = 1)))) := by
  refine zC_of (L0 := [some (.ref (d_ + 23)), some (.int (Int32.ofInt a0_)), none]) md_Sums_hasNoneBelow (Nat.le_of_ble_eq_true rfl) rfl ?_ zQ0
  have hf : zFc d_ [] [] [] [] Mz Mz := zFc.rf
  refine zw_iconst (pc := 0) (v := Int32.ofInt 0) (by decide) (zdal_p dlB_Sums_hasNoneBelow_117 (i := 0) rfl) ?_
  refine zw_istore_n (pc := 1) (i := 2) (L2 := [some (.ref (d_ + 23)), some (.int (Int32.ofInt a0_)), some (.int (Int32.ofInt 0))]) rfl (by decide) rfl (zdal_p dlB_Sums_hasNoneBelow_117 (i := 1) rfl) ?_
  have lp_2 : ∀ (n : Nat) (u1_ : Int) (hu1_a : -2147483648 ≤ u1_) (hu1_b : u1_ < 2147483648) (i2_ : 0 ≤ u1_), (ze Mz (d_ + 12) 7 - u1_).toNat < n → zW l m_Sums_hasNoneBelow (zn Mz + 0, zw Mz + 0) Mz 2 [some (.ref (d_ + 23)), some (.int (Int32.ofInt a0_)), some (.int (Int32.ofInt u1_))] [] (zqcI d_ [] [] [] [] Mz (fun v N => ((v = 0 ∨ v = 1)))) := by
    intro n
    induction n with
    | zero =>
      intro u1_ hu1_a hu1_b i2_ h0
      exact absurd h0 (Nat.not_lt_zero _)
    | succ n ih_2 =>
      intro u1_ hu1_a hu1_b i2_ hlt_2
      refine zw_iload_n (pc := 2) (n := 2) (x := Int32.ofInt u1_) rfl (zdal_p dlB_Sums_hasNoneBelow_117 (i := 2) rfl) ?_
      refine zw_aload_n (pc := 3) (n := 0) (x := (d_ + 23)) rfl (zdal_p dlB_Sums_hasNoneBelow_117 (i := 3) rfl) ?_
      refine zw_getF (pc := 4) f_Sums_23 rfl ((hf.w hW).kr (o := 23) (by decide)) ((hf.w hW).lr (o := 23) (s := 0) (r := 12) (by decide)) (zdal_p dlB_Sums_hasNoneBelow_117 (i := 4) rfl) ?_
      refine zk_getI (pc := 7) f_Sums_35 rfl ((hf.w hW).kr (o := 12) (by decide)) (zdal_p dlB_Sums_hasNoneBelow_117 (i := 5) rfl) ?_
      have hr3_ := ze_r Mz (d_ + 12) 7
      refine zr_icmp_ge (pc := 10) (tgt := 32) ⟨hu1_a, hu1_b⟩ ⟨(ze_r Mz (d_ + 12) 7).1, (ze_r Mz (d_ + 12) 7).2⟩ (by decide) (zdal_p dlB_Sums_hasNoneBelow_117 (i := 6) rfl) (fun hc_10 => ?_) (fun hc_10 => ?_)
      · skip
        refine zw_iconst (pc := 32) (v := Int32.ofInt 1) (by decide) (zdal_p dlB_Sums_hasNoneBelow_117 (i := 18) rfl) ?_
        exact zk_iret (pc := 33) (ty := .boolean) rfl (z_narB (by omega)) ⟨by omega, by omega⟩ hf (show (((1 : Int)) = 0 ∨ ((1 : Int)) = 1) by first | with_reducible assumption | assumption | omega) (zdal_p dlB_Sums_hasNoneBelow_117 (i := 19) rfl)
      · skip
        refine zw_aload_n (pc := 13) (n := 0) (x := (d_ + 23)) rfl (zdal_p dlB_Sums_hasNoneBelow_117 (i := 7) rfl) ?_
        refine zw_iload_n (pc := 14) (n := 1) (x := Int32.ofInt a0_) rfl (zdal_p dlB_Sums_hasNoneBelow_117 (i := 8) rfl) ?_
        refine zw_iload_n (pc := 15) (n := 2) (x := Int32.ofInt u1_) rfl (zdal_p dlB_Sums_hasNoneBelow_117 (i := 9) rfl) ?_
        refine zk_callV hf.x (pc := 16) [.int (Int32.ofInt a0_), .int (Int32.ofInt u1_)] [] l_Sums_67 (u_Sums_numberAtX l d_ Mz (hf.w hW) a0_ ha0_a ha0_b u1_ hu1_a hu1_b) rfl rfl ((hf.w hW).kr (o := 23) (by decide)) (by decide) (by decide) (Nat.le_of_ble_eq_true rfl) (zdal_p dlB_Sums_hasNoneBelow_117 (i := 10) rfl) ?_
        rintro _ N4_ ⟨v5_, rfl, ⟨hv5_a, hv5_b⟩, hsN4_, -⟩
        obtain rfl := hsN4_.eq.symm
        show zW l m_Sums_hasNoneBelow (zn Mz + 0, zw Mz + 0) Mz 19 [some (.ref (d_ + 23)), some (.int (Int32.ofInt a0_)), some (.int (Int32.ofInt u1_))] [.long (Int64.ofInt v5_)] _
        refine zw_lconst (pc := 19) (v := Int64.ofInt 0) (by decide) (zdal_p dlB_Sums_hasNoneBelow_117 (i := 11) rfl) ?_
        refine zr_lcmp (pc := 20) ⟨hv5_a, hv5_b⟩ ⟨(by decide), (by decide)⟩ (zdal_p dlB_Sums_hasNoneBelow_117 (i := 12) rfl) ?_
        have hr6_ := zcmp_s v5_ 0
        refine zr_if_ge (pc := 21) (tgt := 26) ⟨(by omega), (by omega)⟩ (by decide) (zdal_p dlB_Sums_hasNoneBelow_117 (i := 13) rfl) (fun hc_21 => ?_) (fun hc_21 => ?_)
        · skip
          refine zr_iinc (pc := 26) (i := 2) (a := u1_) (n := 1) (L2 := [some (.ref (d_ + 23)), some (.int (Int32.ofInt a0_)), some (.int (Int32.ofInt (u1_ + 1)))]) rfl (by decide) rfl (zdal_p dlB_Sums_hasNoneBelow_117 (i := 16) rfl) ?_
          obtain ⟨v7_, hv7_a, hv7_b, hv7_e, hv7_d⟩ := zk_gen (u1_ + 1)
          rw [hv7_e]
          refine zw_goto (pc := 29) (tgt := 2) (by decide) (zdal_p dlB_Sums_hasNoneBelow_117 (i := 17) rfl) ?_
          exact ih_2 v7_ hv7_a hv7_b (show 0 ≤ v7_ by first | with_reducible assumption | assumption | omega) (by omega)
        · skip
          refine zw_iconst (pc := 24) (v := Int32.ofInt 0) (by decide) (zdal_p dlB_Sums_hasNoneBelow_117 (i := 14) rfl) ?_
          exact zk_iret (pc := 25) (ty := .boolean) rfl (z_narB (by omega)) ⟨by omega, by omega⟩ hf (show (((0 : Int)) = 0 ∨ ((0 : Int)) = 1) by first | with_reducible assumption | assumption | omega) (zdal_p dlB_Sums_hasNoneBelow_117 (i := 15) rfl)
  exact lp_2 _ 0 (by decide) (by decide) (show 0 ≤ (0 : Int) by first | with_reducible assumption | assumption | omega) (Nat.lt_succ_self _)
set_option maxHeartbeats 4000000 in
theorem u_Sums_marksAreX (l : Launch) (d_ : Nat) (Mz : zMem) (hW : zKW d_ Mz) (a0_ : Int) (ha0_a : -2147483648 ≤ a0_) (ha0_b : a0_ < 2147483648) (a1_ : Int) (ha1_a : -2147483648 ≤ a1_) (ha1_b : a1_ < 2147483648) : zC l m_Sums_marksAre 0 0 [.ref (d_ + 23), .int (Int32.ofInt a0_), .int (Int32.ofInt a1_)] Mz (zqcI d_ [] [] [] [] Mz (fun v N => ((v = 0 ∨ v = 1)))) := by
  refine zC_of (L0 := [some (.ref (d_ + 23)), some (.int (Int32.ofInt a0_)), some (.int (Int32.ofInt a1_)), none]) md_Sums_marksAre (Nat.le_of_ble_eq_true rfl) rfl ?_ zQ0
  have hf : zFc d_ [] [] [] [] Mz Mz := zFc.rf
  refine zw_iconst (pc := 0) (v := Int32.ofInt 0) (by decide) (zdal_p dlB_Sums_marksAre_118 (i := 0) rfl) ?_
  refine zw_istore_n (pc := 1) (i := 3) (L2 := [some (.ref (d_ + 23)), some (.int (Int32.ofInt a0_)), some (.int (Int32.ofInt a1_)), some (.int (Int32.ofInt 0))]) rfl (by decide) rfl (zdal_p dlB_Sums_marksAre_118 (i := 1) rfl) ?_
  have lp_2 : ∀ (n : Nat) (u1_ : Int) (hu1_a : -2147483648 ≤ u1_) (hu1_b : u1_ < 2147483648) (i2_ : 0 ≤ u1_), (ze Mz (d_ + 12) 7 - u1_).toNat < n → zW l m_Sums_marksAre (zn Mz + 0, zw Mz + 0) Mz 2 [some (.ref (d_ + 23)), some (.int (Int32.ofInt a0_)), some (.int (Int32.ofInt a1_)), some (.int (Int32.ofInt u1_))] [] (zqcI d_ [] [] [] [] Mz (fun v N => ((v = 0 ∨ v = 1)))) := by
    intro n
    induction n with
    | zero =>
      intro u1_ hu1_a hu1_b i2_ h0
      exact absurd h0 (Nat.not_lt_zero _)
    | succ n ih_2 =>
      intro u1_ hu1_a hu1_b i2_ hlt_2
      refine zw_iload_n (pc := 2) (n := 3) (x := Int32.ofInt u1_) rfl (zdal_p dlB_Sums_marksAre_118 (i := 2) rfl) ?_
      refine zw_aload_n (pc := 3) (n := 0) (x := (d_ + 23)) rfl (zdal_p dlB_Sums_marksAre_118 (i := 3) rfl) ?_
      refine zw_getF (pc := 4) f_Sums_23 rfl ((hf.w hW).kr (o := 23) (by decide)) ((hf.w hW).lr (o := 23) (s := 0) (r := 12) (by decide)) (zdal_p dlB_Sums_marksAre_118 (i := 4) rfl) ?_
      refine zk_getI (pc := 7) f_Sums_35 rfl ((hf.w hW).kr (o := 12) (by decide)) (zdal_p dlB_Sums_marksAre_118 (i := 5) rfl) ?_
      have hr3_ := ze_r Mz (d_ + 12) 7
      refine zr_icmp_ge (pc := 10) (tgt := 49) ⟨hu1_a, hu1_b⟩ ⟨(ze_r Mz (d_ + 12) 7).1, (ze_r Mz (d_ + 12) 7).2⟩ (by decide) (zdal_p dlB_Sums_marksAre_118 (i := 6) rfl) (fun hc_10 => ?_) (fun hc_10 => ?_)
      · skip
        refine zw_iconst (pc := 49) (v := Int32.ofInt 1) (by decide) (zdal_p dlB_Sums_marksAre_119 (i := 3) rfl) ?_
        exact zk_iret (pc := 50) (ty := .boolean) rfl (z_narB (by omega)) ⟨by omega, by omega⟩ hf (show (((1 : Int)) = 0 ∨ ((1 : Int)) = 1) by first | with_reducible assumption | assumption | omega) (zdal_p dlB_Sums_marksAre_119 (i := 4) rfl)
      · skip
        refine zw_aload_n (pc := 13) (n := 0) (x := (d_ + 23)) rfl (zdal_p dlB_Sums_marksAre_118 (i := 7) rfl) ?_
        refine zw_getF (pc := 14) f_Sums_20 rfl ((hf.w hW).kr (o := 23) (by decide)) ((hf.w hW).lr (o := 23) (s := 2) (r := 26) (by decide)) (zdal_p dlB_Sums_marksAre_118 (i := 8) rfl) ?_
        refine zw_iload_n (pc := 17) (n := 3) (x := Int32.ofInt u1_) rfl (zdal_p dlB_Sums_marksAre_118 (i := 9) rfl) ?_
        refine zk_atGJ hf.x (pc := 18) l_Sums_27 ((hf.w hW).kr (o := 26) (by decide)) ((hf.w hW).lr (o := 26) (s := 0) (r := 27) (by decide)) ((hf.w hW).rr (o := 27) (t := 2) (n := 27) (by decide)) (by decide) ⟨by omega, by omega⟩ (by decide) (Nat.le_of_ble_eq_true rfl) (zdal_p dlB_Sums_marksAre_118 (i := 10) rfl) (fun v4_ hv4_ hv4_a hv4_b => ?_)
        clear hv4_
        refine zw_iload_n (pc := 21) (n := 1) (x := Int32.ofInt a0_) rfl (zdal_p dlB_Sums_marksAre_118 (i := 11) rfl) ?_
        refine zr_i2l (pc := 22) ⟨ha0_a, ha0_b⟩ (zdal_p dlB_Sums_marksAre_118 (i := 12) rfl) ?_
        refine zr_lcmp (pc := 23) ⟨hv4_a, hv4_b⟩ ⟨(by omega), (by omega)⟩ (zdal_p dlB_Sums_marksAre_118 (i := 13) rfl) ?_
        have hr5_ := zcmp_s v4_ a0_
        refine zr_if_eq (pc := 24) (tgt := 43) ⟨(by omega), (by omega)⟩ (by decide) (zdal_p dlB_Sums_marksAre_118 (i := 14) rfl) (fun hc_24 => ?_) (fun hc_24 => ?_)
        · skip
          refine zr_iinc (pc := 43) (i := 3) (a := u1_) (n := 1) (L2 := [some (.ref (d_ + 23)), some (.int (Int32.ofInt a0_)), some (.int (Int32.ofInt a1_)), some (.int (Int32.ofInt (u1_ + 1)))]) rfl (by decide) rfl (zdal_p dlB_Sums_marksAre_119 (i := 1) rfl) ?_
          obtain ⟨v6_, hv6_a, hv6_b, hv6_e, hv6_d⟩ := zk_gen (u1_ + 1)
          rw [hv6_e]
          refine zw_goto (pc := 46) (tgt := 2) (by decide) (zdal_p dlB_Sums_marksAre_119 (i := 2) rfl) ?_
          exact ih_2 v6_ hv6_a hv6_b (show 0 ≤ v6_ by first | with_reducible assumption | assumption | omega) (by omega)
        · skip
          refine zw_aload_n (pc := 27) (n := 0) (x := (d_ + 23)) rfl (zdal_p dlB_Sums_marksAre_118 (i := 15) rfl) ?_
          refine zw_getF (pc := 28) f_Sums_20 rfl ((hf.w hW).kr (o := 23) (by decide)) ((hf.w hW).lr (o := 23) (s := 2) (r := 26) (by decide)) (zdal_p dlB_Sums_marksAre_118 (i := 16) rfl) ?_
          refine zw_iload_n (pc := 31) (n := 3) (x := Int32.ofInt u1_) rfl (zdal_p dlB_Sums_marksAre_118 (i := 17) rfl) ?_
          refine zk_atGJ hf.x (pc := 32) l_Sums_27 ((hf.w hW).kr (o := 26) (by decide)) ((hf.w hW).lr (o := 26) (s := 0) (r := 27) (by decide)) ((hf.w hW).rr (o := 27) (t := 2) (n := 27) (by decide)) (by decide) ⟨by omega, by omega⟩ (by decide) (Nat.le_of_ble_eq_true rfl) (zdal_p dlB_Sums_marksAre_118 (i := 18) rfl) (fun v7_ hv7_ hv7_a hv7_b => ?_)
          clear hv7_
          refine zw_iload_n (pc := 35) (n := 2) (x := Int32.ofInt a1_) rfl (zdal_p dlB_Sums_marksAre_118 (i := 19) rfl) ?_
          refine zr_i2l (pc := 36) ⟨ha1_a, ha1_b⟩ (zdal_p dlB_Sums_marksAre_118 (i := 20) rfl) ?_
          refine zr_lcmp (pc := 37) ⟨hv7_a, hv7_b⟩ ⟨(by omega), (by omega)⟩ (zdal_p dlB_Sums_marksAre_118 (i := 21) rfl) ?_
          have hr8_ := zcmp_s v7_ a1_
          refine zr_if_eq (pc := 38) (tgt := 43) ⟨(by omega), (by omega)⟩ (by decide) (zdal_p dlB_Sums_marksAre_118 (i := 22) rfl) (fun hc_38 => ?_) (fun hc_38 => ?_)
          · skip
            refine zr_iinc (pc := 43) (i := 3) (a := u1_) (n := 1) (L2 := [some (.ref (d_ + 23)), some (.int (Int32.ofInt a0_)), some (.int (Int32.ofInt a1_)), some (.int (Int32.ofInt (u1_ + 1)))]) rfl (by decide) rfl (zdal_p dlB_Sums_marksAre_119 (i := 1) rfl) ?_
            obtain ⟨v9_, hv9_a, hv9_b, hv9_e, hv9_d⟩ := zk_gen (u1_ + 1)
            rw [hv9_e]
            refine zw_goto (pc := 46) (tgt := 2) (by decide) (zdal_p dlB_Sums_marksAre_119 (i := 2) rfl) ?_
            exact ih_2 v9_ hv9_a hv9_b (show 0 ≤ v9_ by first | with_reducible assumption | assumption | omega) (by omega)
          · skip
            refine zw_iconst (pc := 41) (v := Int32.ofInt 0) (by decide) (zdal_p dlB_Sums_marksAre_118 (i := 23) rfl) ?_
            exact zk_iret (pc := 42) (ty := .boolean) rfl (z_narB (by omega)) ⟨by omega, by omega⟩ hf (show (((0 : Int)) = 0 ∨ ((0 : Int)) = 1) by first | with_reducible assumption | assumption | omega) (zdal_p dlB_Sums_marksAre_119 (i := 0) rfl)
  exact lp_2 _ 0 (by decide) (by decide) (show 0 ≤ (0 : Int) by first | with_reducible assumption | assumption | omega) (Nat.lt_succ_self _)
set_option maxHeartbeats 4000000 in
theorem u_Sums_hasMarkNoughtX (l : Launch) (d_ : Nat) (Mz : zMem) (hW : zKW d_ Mz) : zC l m_Sums_hasMarkNought 0 0 [.ref (d_ + 23)] Mz (zqcI d_ [] [] [] [] Mz (fun v N => ((v = 0 ∨ v = 1)))) := by
  refine zC_of (L0 := [some (.ref (d_ + 23)), none]) md_Sums_hasMarkNought (Nat.le_of_ble_eq_true rfl) rfl ?_ zQ0
  have hf : zFc d_ [] [] [] [] Mz Mz := zFc.rf
  refine zw_iconst (pc := 0) (v := Int32.ofInt 0) (by decide) (zdal_p dlB_Sums_hasMarkNought_120 (i := 0) rfl) ?_
  refine zw_istore_n (pc := 1) (i := 1) (L2 := [some (.ref (d_ + 23)), some (.int (Int32.ofInt 0))]) rfl (by decide) rfl (zdal_p dlB_Sums_hasMarkNought_120 (i := 1) rfl) ?_
  have lp_2 : ∀ (n : Nat) (u1_ : Int) (hu1_a : -2147483648 ≤ u1_) (hu1_b : u1_ < 2147483648) (i2_ : 0 ≤ u1_), (ze Mz (d_ + 12) 7 - u1_).toNat < n → zW l m_Sums_hasMarkNought (zn Mz + 0, zw Mz + 0) Mz 2 [some (.ref (d_ + 23)), some (.int (Int32.ofInt u1_))] [] (zqcI d_ [] [] [] [] Mz (fun v N => ((v = 0 ∨ v = 1)))) := by
    intro n
    induction n with
    | zero =>
      intro u1_ hu1_a hu1_b i2_ h0
      exact absurd h0 (Nat.not_lt_zero _)
    | succ n ih_2 =>
      intro u1_ hu1_a hu1_b i2_ hlt_2
      refine zw_iload_n (pc := 2) (n := 1) (x := Int32.ofInt u1_) rfl (zdal_p dlB_Sums_hasMarkNought_120 (i := 2) rfl) ?_
      refine zw_aload_n (pc := 3) (n := 0) (x := (d_ + 23)) rfl (zdal_p dlB_Sums_hasMarkNought_120 (i := 3) rfl) ?_
      refine zw_getF (pc := 4) f_Sums_23 rfl ((hf.w hW).kr (o := 23) (by decide)) ((hf.w hW).lr (o := 23) (s := 0) (r := 12) (by decide)) (zdal_p dlB_Sums_hasMarkNought_120 (i := 4) rfl) ?_
      refine zk_getI (pc := 7) f_Sums_35 rfl ((hf.w hW).kr (o := 12) (by decide)) (zdal_p dlB_Sums_hasMarkNought_120 (i := 5) rfl) ?_
      have hr3_ := ze_r Mz (d_ + 12) 7
      refine zr_icmp_ge (pc := 10) (tgt := 34) ⟨hu1_a, hu1_b⟩ ⟨(ze_r Mz (d_ + 12) 7).1, (ze_r Mz (d_ + 12) 7).2⟩ (by decide) (zdal_p dlB_Sums_hasMarkNought_120 (i := 6) rfl) (fun hc_10 => ?_) (fun hc_10 => ?_)
      · skip
        refine zw_iconst (pc := 34) (v := Int32.ofInt 0) (by decide) (zdal_p dlB_Sums_hasMarkNought_120 (i := 18) rfl) ?_
        exact zk_iret (pc := 35) (ty := .boolean) rfl (z_narB (by omega)) ⟨by omega, by omega⟩ hf (show (((0 : Int)) = 0 ∨ ((0 : Int)) = 1) by first | with_reducible assumption | assumption | omega) (zdal_p dlB_Sums_hasMarkNought_120 (i := 19) rfl)
      · skip
        refine zw_aload_n (pc := 13) (n := 0) (x := (d_ + 23)) rfl (zdal_p dlB_Sums_hasMarkNought_120 (i := 7) rfl) ?_
        refine zw_getF (pc := 14) f_Sums_20 rfl ((hf.w hW).kr (o := 23) (by decide)) ((hf.w hW).lr (o := 23) (s := 2) (r := 26) (by decide)) (zdal_p dlB_Sums_hasMarkNought_120 (i := 8) rfl) ?_
        refine zw_iload_n (pc := 17) (n := 1) (x := Int32.ofInt u1_) rfl (zdal_p dlB_Sums_hasMarkNought_120 (i := 9) rfl) ?_
        refine zk_atGJ hf.x (pc := 18) l_Sums_27 ((hf.w hW).kr (o := 26) (by decide)) ((hf.w hW).lr (o := 26) (s := 0) (r := 27) (by decide)) ((hf.w hW).rr (o := 27) (t := 2) (n := 27) (by decide)) (by decide) ⟨by omega, by omega⟩ (by decide) (Nat.le_of_ble_eq_true rfl) (zdal_p dlB_Sums_hasMarkNought_120 (i := 10) rfl) (fun v4_ hv4_ hv4_a hv4_b => ?_)
        clear hv4_
        refine zw_lconst (pc := 21) (v := Int64.ofInt 0) (by decide) (zdal_p dlB_Sums_hasMarkNought_120 (i := 11) rfl) ?_
        refine zr_lcmp (pc := 22) ⟨hv4_a, hv4_b⟩ ⟨(by decide), (by decide)⟩ (zdal_p dlB_Sums_hasMarkNought_120 (i := 12) rfl) ?_
        have hr5_ := zcmp_s v4_ 0
        refine zr_if_ne (pc := 23) (tgt := 28) ⟨(by omega), (by omega)⟩ (by decide) (zdal_p dlB_Sums_hasMarkNought_120 (i := 13) rfl) (fun hc_23 => ?_) (fun hc_23 => ?_)
        · skip
          refine zr_iinc (pc := 28) (i := 1) (a := u1_) (n := 1) (L2 := [some (.ref (d_ + 23)), some (.int (Int32.ofInt (u1_ + 1)))]) rfl (by decide) rfl (zdal_p dlB_Sums_hasMarkNought_120 (i := 16) rfl) ?_
          obtain ⟨v6_, hv6_a, hv6_b, hv6_e, hv6_d⟩ := zk_gen (u1_ + 1)
          rw [hv6_e]
          refine zw_goto (pc := 31) (tgt := 2) (by decide) (zdal_p dlB_Sums_hasMarkNought_120 (i := 17) rfl) ?_
          exact ih_2 v6_ hv6_a hv6_b (show 0 ≤ v6_ by first | with_reducible assumption | assumption | omega) (by omega)
        · skip
          refine zw_iconst (pc := 26) (v := Int32.ofInt 1) (by decide) (zdal_p dlB_Sums_hasMarkNought_120 (i := 14) rfl) ?_
          exact zk_iret (pc := 27) (ty := .boolean) rfl (z_narB (by omega)) ⟨by omega, by omega⟩ hf (show (((1 : Int)) = 0 ∨ ((1 : Int)) = 1) by first | with_reducible assumption | assumption | omega) (zdal_p dlB_Sums_hasMarkNought_120 (i := 15) rfl)
  exact lp_2 _ 0 (by decide) (by decide) (show 0 ≤ (0 : Int) by first | with_reducible assumption | assumption | omega) (Nat.lt_succ_self _)
set_option maxHeartbeats 4000000 in
theorem u_T_isX (l : Launch) (d_ : Nat) (Mz : zMem) (hW : zKW d_ Mz) (hnow : zf Mz 0 2 = some (d_ + 0)) (a0_ : Int) (ha0_a : -2147483648 ≤ a0_) (ha0_b : a0_ < 2147483648) : zC l m_T_is 0 0 [.ref 0, .int (Int32.ofInt a0_)] Mz (zqcI d_ [] [] [] [27] Mz (fun v N => True)) := by
  refine zC_of (L0 := [some (.ref 0), some (.int (Int32.ofInt a0_)), none]) md_T_is (Nat.le_of_ble_eq_true rfl) rfl ?_ zQ0
  have hf : zFc d_ [] [] [] [27] Mz Mz := zFc.rf
  refine zw_aload_n (pc := 0) (n := 0) (x := 0) rfl (zdal_p dlB_T_is_115 (i := 0) rfl) ?_
  refine zw_getF (pc := 1) f_T_28 rfl ((hf.w hW).ka (o := 0) (by decide)) (hf.now hnow) (zdal_p dlB_T_is_115 (i := 1) rfl) ?_
  refine zw_getF (pc := 4) f_T_169 rfl ((hf.w hW).kr (o := 0) (by decide)) ((hf.w hW).lr (o := 0) (s := 2) (r := 23) (by decide)) (zdal_p dlB_T_is_115 (i := 2) rfl) ?_
  refine zw_astore_n (pc := 7) (i := 2) (L2 := [some (.ref 0), some (.int (Int32.ofInt a0_)), some (.ref (d_ + 23))]) rfl (by decide) rfl (zdal_p dlB_T_is_115 (i := 3) rfl) ?_
  refine zw_aload_n (pc := 8) (n := 2) (x := (d_ + 23)) rfl (zdal_p dlB_T_is_115 (i := 4) rfl) ?_
  refine zw_iconst (pc := 9) (v := Int32.ofInt 0) (by decide) (zdal_p dlB_T_is_115 (i := 5) rfl) ?_
  refine zk_callV hf.x (pc := 10) [.int (Int32.ofInt 0)] [] l_T_256 (u_Sums_putMarksX l d_ Mz (hf.w hW) 0 (by decide) (by decide)) rfl rfl ((hf.w hW).kr (o := 23) (by decide)) (by decide) (by decide) (Nat.le_of_ble_eq_true rfl) (zdal_p dlB_T_is_115 (i := 6) rfl) ?_
  rintro _ N1_ ⟨rfl, hsN1_, -⟩
  have hf_N1_ : zFc d_ [] [] [] [27] Mz N1_ := hf.tr hsN1_ (by decide) (by decide) (by decide) (by decide)
  show zW l m_T_is (zn Mz + 0, zw Mz + 0) N1_ 13 [some (.ref 0), some (.int (Int32.ofInt a0_)), some (.ref (d_ + 23))] [] _
  refine zw_iload_n (pc := 13) (n := 1) (x := Int32.ofInt a0_) rfl (zdal_p dlB_T_is_115 (i := 7) rfl) ?_
  by_cases hs_14_0 : a0_ = 0
  · refine zr_tabIn (c := 0) (off := 30) (tgt := 44) ⟨by decide, by decide⟩ hs_14_0 (by decide) (by decide) rfl (by decide) d_T_is_14 ?_
    refine zw_aload_n (pc := 44) (n := 2) (x := (d_ + 23)) rfl (zdal_p dlB_T_is_115 (i := 9) rfl) ?_
    refine zw_iconst (pc := 45) (v := Int32.ofInt 0) (by decide) (zdal_p dlB_T_is_115 (i := 10) rfl) ?_
    refine zk_callV hf_N1_.x (pc := 46) [.int (Int32.ofInt 0)] [] l_T_270 (u_Sums_hasNoneBelowX l d_ N1_ (hf_N1_.w hW) 0 (by decide) (by decide)) rfl rfl ((hf_N1_.w hW).kr (o := 23) (by decide)) (by decide) (by decide) (Nat.le_of_ble_eq_true rfl) (zdal_p dlB_T_is_115 (i := 11) rfl) ?_
    rintro _ N3_ ⟨v4_, rfl, ⟨hv4_a, hv4_b⟩, hsN3_, hp0_N3_⟩
    obtain rfl := hsN3_.eq.symm
    replace hp0_N3_ : (v4_ = 0 ∨ v4_ = 1) := hp0_N3_
    show zW l m_T_is (zn Mz + 0, zw Mz + 0) N1_ 49 [some (.ref 0), some (.int (Int32.ofInt a0_)), some (.ref (d_ + 23))] [.int (Int32.ofInt v4_)] _
    refine zr_if_eq (pc := 49) (tgt := 56) ⟨hv4_a, hv4_b⟩ (by decide) (zdal_p dlB_T_is_115 (i := 12) rfl) (fun hc_49 => ?_) (fun hc_49 => ?_)
    · skip
      refine zw_iconst (pc := 56) (v := Int32.ofInt 0) (by decide) (zdal_p dlB_T_is_115 (i := 15) rfl) ?_
      exact zk_iret (pc := 57) (ty := .int) rfl rfl ⟨by omega, by omega⟩ hf_N1_ trivial (zdal_p dlB_T_is_115 (i := 16) rfl)
    · skip
      refine zw_iconst (pc := 52) (v := Int32.ofInt 1) (by decide) (zdal_p dlB_T_is_115 (i := 13) rfl) ?_
      refine zw_goto (pc := 53) (tgt := 57) (by decide) (zdal_p dlB_T_is_115 (i := 14) rfl) ?_
      exact zk_iret (pc := 57) (ty := .int) rfl rfl ⟨by omega, by omega⟩ hf_N1_ trivial (zdal_p dlB_T_is_115 (i := 16) rfl)
  by_cases hs_14_1 : a0_ = 1
  · refine zr_tabIn (c := 1) (off := 44) (tgt := 58) ⟨by decide, by decide⟩ hs_14_1 (by decide) (by decide) rfl (by decide) d_T_is_14 ?_
    refine zw_aload_n (pc := 58) (n := 2) (x := (d_ + 23)) rfl (zdal_p dlB_T_is_115 (i := 17) rfl) ?_
    refine zw_iconst (pc := 59) (v := Int32.ofInt 0) (by decide) (zdal_p dlB_T_is_115 (i := 18) rfl) ?_
    refine zw_iconst (pc := 60) (v := Int32.ofInt 1) (by decide) (zdal_p dlB_T_is_115 (i := 19) rfl) ?_
    refine zk_callV hf_N1_.x (pc := 61) [.int (Int32.ofInt 0), .int (Int32.ofInt 1)] [] l_T_273 (u_Sums_marksAreX l d_ N1_ (hf_N1_.w hW) 0 (by decide) (by decide) 1 (by decide) (by decide)) rfl rfl ((hf_N1_.w hW).kr (o := 23) (by decide)) (by decide) (by decide) (Nat.le_of_ble_eq_true rfl) (zdal_p dlB_T_is_115 (i := 20) rfl) ?_
    rintro _ N5_ ⟨v6_, rfl, ⟨hv6_a, hv6_b⟩, hsN5_, hp0_N5_⟩
    obtain rfl := hsN5_.eq.symm
    replace hp0_N5_ : (v6_ = 0 ∨ v6_ = 1) := hp0_N5_
    show zW l m_T_is (zn Mz + 0, zw Mz + 0) N1_ 64 [some (.ref 0), some (.int (Int32.ofInt a0_)), some (.ref (d_ + 23))] [.int (Int32.ofInt v6_)] _
    refine zr_if_eq (pc := 64) (tgt := 71) ⟨hv6_a, hv6_b⟩ (by decide) (zdal_p dlB_T_is_115 (i := 21) rfl) (fun hc_64 => ?_) (fun hc_64 => ?_)
    · skip
      refine zw_iconst (pc := 71) (v := Int32.ofInt 0) (by decide) (zdal_p dlB_T_is_116 (i := 0) rfl) ?_
      exact zk_iret (pc := 72) (ty := .int) rfl rfl ⟨by omega, by omega⟩ hf_N1_ trivial (zdal_p dlB_T_is_116 (i := 1) rfl)
    · skip
      refine zw_iconst (pc := 67) (v := Int32.ofInt 1) (by decide) (zdal_p dlB_T_is_115 (i := 22) rfl) ?_
      refine zw_goto (pc := 68) (tgt := 72) (by decide) (zdal_p dlB_T_is_115 (i := 23) rfl) ?_
      exact zk_iret (pc := 72) (ty := .int) rfl rfl ⟨by omega, by omega⟩ hf_N1_ trivial (zdal_p dlB_T_is_116 (i := 1) rfl)
  by_cases hs_14_2 : a0_ = 2
  · refine zr_tabIn (c := 2) (off := 59) (tgt := 73) ⟨by decide, by decide⟩ hs_14_2 (by decide) (by decide) rfl (by decide) d_T_is_14 ?_
    refine zw_aload_n (pc := 73) (n := 2) (x := (d_ + 23)) rfl (zdal_p dlB_T_is_116 (i := 2) rfl) ?_
    refine zw_iconst (pc := 74) (v := Int32.ofInt (-1)) (by decide) (zdal_p dlB_T_is_116 (i := 3) rfl) ?_
    refine zw_iconst (pc := 75) (v := Int32.ofInt 1) (by decide) (zdal_p dlB_T_is_116 (i := 4) rfl) ?_
    refine zk_callV hf_N1_.x (pc := 76) [.int (Int32.ofInt ((-1))), .int (Int32.ofInt 1)] [] l_T_273 (u_Sums_marksAreX l d_ N1_ (hf_N1_.w hW) ((-1)) (by decide) (by decide) 1 (by decide) (by decide)) rfl rfl ((hf_N1_.w hW).kr (o := 23) (by decide)) (by decide) (by decide) (Nat.le_of_ble_eq_true rfl) (zdal_p dlB_T_is_116 (i := 5) rfl) ?_
    rintro _ N7_ ⟨v8_, rfl, ⟨hv8_a, hv8_b⟩, hsN7_, hp0_N7_⟩
    obtain rfl := hsN7_.eq.symm
    replace hp0_N7_ : (v8_ = 0 ∨ v8_ = 1) := hp0_N7_
    show zW l m_T_is (zn Mz + 0, zw Mz + 0) N1_ 79 [some (.ref 0), some (.int (Int32.ofInt a0_)), some (.ref (d_ + 23))] [.int (Int32.ofInt v8_)] _
    refine zr_if_eq (pc := 79) (tgt := 86) ⟨hv8_a, hv8_b⟩ (by decide) (zdal_p dlB_T_is_116 (i := 6) rfl) (fun hc_79 => ?_) (fun hc_79 => ?_)
    · skip
      refine zw_iconst (pc := 86) (v := Int32.ofInt 0) (by decide) (zdal_p dlB_T_is_116 (i := 9) rfl) ?_
      exact zk_iret (pc := 87) (ty := .int) rfl rfl ⟨by omega, by omega⟩ hf_N1_ trivial (zdal_p dlB_T_is_116 (i := 10) rfl)
    · skip
      refine zw_iconst (pc := 82) (v := Int32.ofInt 1) (by decide) (zdal_p dlB_T_is_116 (i := 7) rfl) ?_
      refine zw_goto (pc := 83) (tgt := 87) (by decide) (zdal_p dlB_T_is_116 (i := 8) rfl) ?_
      exact zk_iret (pc := 87) (ty := .int) rfl rfl ⟨by omega, by omega⟩ hf_N1_ trivial (zdal_p dlB_T_is_116 (i := 10) rfl)
  by_cases hs_14_3 : a0_ = 3
  · refine zr_tabIn (c := 3) (off := 74) (tgt := 88) ⟨by decide, by decide⟩ hs_14_3 (by decide) (by decide) rfl (by decide) d_T_is_14 ?_
    refine zw_aload_n (pc := 88) (n := 2) (x := (d_ + 23)) rfl (zdal_p dlB_T_is_116 (i := 11) rfl) ?_
    refine zk_callV hf_N1_.x (pc := 89) [] [] l_T_277 (u_Sums_hasMarkNoughtX l d_ N1_ (hf_N1_.w hW) ) rfl rfl ((hf_N1_.w hW).kr (o := 23) (by decide)) (by decide) (by decide) (Nat.le_of_ble_eq_true rfl) (zdal_p dlB_T_is_116 (i := 12) rfl) ?_
    rintro _ N9_ ⟨v10_, rfl, ⟨hv10_a, hv10_b⟩, hsN9_, hp0_N9_⟩
    obtain rfl := hsN9_.eq.symm
    replace hp0_N9_ : (v10_ = 0 ∨ v10_ = 1) := hp0_N9_
    show zW l m_T_is (zn Mz + 0, zw Mz + 0) N1_ 92 [some (.ref 0), some (.int (Int32.ofInt a0_)), some (.ref (d_ + 23))] [.int (Int32.ofInt v10_)] _
    refine zr_if_eq (pc := 92) (tgt := 99) ⟨hv10_a, hv10_b⟩ (by decide) (zdal_p dlB_T_is_116 (i := 13) rfl) (fun hc_92 => ?_) (fun hc_92 => ?_)
    · skip
      refine zw_iconst (pc := 99) (v := Int32.ofInt 0) (by decide) (zdal_p dlB_T_is_116 (i := 16) rfl) ?_
      exact zk_iret (pc := 100) (ty := .int) rfl rfl ⟨by omega, by omega⟩ hf_N1_ trivial (zdal_p dlB_T_is_116 (i := 17) rfl)
    · skip
      refine zw_iconst (pc := 95) (v := Int32.ofInt 1) (by decide) (zdal_p dlB_T_is_116 (i := 14) rfl) ?_
      refine zw_goto (pc := 96) (tgt := 100) (by decide) (zdal_p dlB_T_is_116 (i := 15) rfl) ?_
      exact zk_iret (pc := 100) (ty := .int) rfl rfl ⟨by omega, by omega⟩ hf_N1_ trivial (zdal_p dlB_T_is_116 (i := 17) rfl)
  refine zr_tabOut (tgt := 101) ⟨ha0_a, ha0_b⟩ (by omega) (by decide) d_T_is_14 ?_
  refine zw_iconst (pc := 101) (v := Int32.ofInt (-1)) (by decide) (zdal_p dlB_T_is_116 (i := 18) rfl) ?_
  exact zk_iret (pc := 102) (ty := .int) rfl rfl ⟨by omega, by omega⟩ hf_N1_ trivial (zdal_p dlB_T_is_116 (i := 19) rfl)
def zRb (b : Nat → Int) (n : Nat) (M : zMem) : Prop := ze M 81 2 = n ∧ n ≤ 700 ∧ zBy b n ∧ ∀ k, k < n → ze M 82 k = b k
def zRt (b : Nat → Int) (n : Nat) (M : zMem) : Prop := (0 ≤ ze M 81 4 ∧ ze M 81 4 ≤ n) ∧ ze M 81 3 = (zen b n (ze M 81 4).toNat : Nat) ∧ ze M 81 5 = zkd b n (ze M 81 4).toNat ∧ (zkd b n (ze M 81 4).toNat = 1 → zg M 81 11 = zw8 b (ze M 81 4).toNat (zen b n (ze M 81 4).toNat - (ze M 81 4).toNat)) ∧ (zkd b n (ze M 81 4).toNat = 2 → ze M 81 6 = zvl b (ze M 81 4).toNat (zen b n (ze M 81 4).toNat - (ze M 81 4).toNat)) ∧ (zkd b n (ze M 81 4).toNat = 3 → ze M 81 6 = b (ze M 81 4).toNat)
section ZRB
variable {b : Nat → Int} {n : Nat} {S C : List Nat} {M N : zMem}
theorem zRb.fr (hf : zFr S C M N) (h : zRb b n M) (hs : 2 ∉ S) (hc : 82 ∉ C) : zRb b n N :=
  ⟨(hf.e hs).trans h.1, h.2.1, h.2.2.1, fun k hk => (hf.ie (by decide) hc k).trans (h.2.2.2 k hk)⟩
theorem zRt.fr (hf : zFr S C M N) (h : zRt b n M) (hs : 3 ∉ S ∧ 4 ∉ S ∧ 5 ∉ S ∧ 6 ∉ S ∧ 11 ∉ S) (_ : True) : zRt b n N := by
  unfold zRt
  rw [hf.e hs.1, hf.e hs.2.1, hf.e hs.2.2.1, hf.e hs.2.2.2.1, hf.g hs.2.2.2.2]
  exact h
theorem zRb.h (h : zRb b n M) {k : Int} (h0 : 0 ≤ ze M 81 3 + k) : (ze M 81 3 + k < n ∧ zhr M k = b (ze M 81 3 + k).toNat ∧ 0 ≤ zhr M k ∧ zhr M k ≤ 255) ∨ ((n : Int) ≤ ze M 81 3 + k ∧ zhr M k = -1) := by
  unfold zhr
  rw [h.1]
  by_cases g : ze M 81 3 + k < (n : Int)
  · rw [if_pos g]
    have e := h.2.2.2 (ze M 81 3 + k).toNat (by omega)
    have hb := h.2.2.1 (ze M 81 3 + k).toNat (by omega)
    exact Or.inl ⟨g, e, by omega, by omega⟩
  · rw [if_neg g]
    exact Or.inr ⟨by omega, rfl⟩
theorem zRt.x (h : zRt b n M) : (0 ≤ ze M 81 4 ∧ ze M 81 4 ≤ n) ∧ 0 ≤ ze M 81 3 ∧ ze M 81 3 ≤ n := by
  have h1 := h.1
  have h2 := h.2.1
  have h3 := zen_le (b := b) (n := n) (s := (ze M 81 4).toNat) (by omega)
  omega
theorem zRt.nx (h : zRt b n M) (hp : ze N 81 4 = (zru zpB b n (ze M 81 3).toNat : Nat)) : ze N 81 4 = ((znx b n (ze M 81 4).toNat : Nat) : Int) ∧ (ze N 81 4).toNat = znx b n (ze M 81 4).toNat := by
  have h2 := h.2.1
  have e : (ze M 81 3).toNat = zen b n (ze M 81 4).toNat := by omega
  rw [e] at hp
  unfold znx
  exact ⟨hp, by omega⟩
theorem zRt.v2 (h : zRt b n M) (h2 : zkd b n (ze M 81 4).toNat = 2) : ze M 81 6 = znu b n (ze M 81 4).toNat ∧ 0 ≤ ze M 81 6 ∧ ze M 81 6 ≤ 999 := by
  have e : ze M 81 6 = znu b n (ze M 81 4).toNat := h.2.2.2.2.1 h2
  have := znu_b h2
  exact ⟨e, by omega, by omega⟩
theorem zRt_L {s : Nat} (es : ze M 81 4 = s) (h : s < n) (hl : zpL (b s) = true) (h3 : ze M 81 3 = (zru zpL b n s : Nat)) (h5 : ((zru zpL b n s : Nat) : Int) - s ≤ 6 → zg M 81 11 = zw8 b s (zru zpL b n s - s)) (h4 : (((zru zpL b n s : Nat) : Int) - s ≤ 6 ∧ ze M 81 5 = 1) ∨ (6 < ((zru zpL b n s : Nat) : Int) - s ∧ ze M 81 5 = 4)) : zRt b n M := by
  obtain ⟨k1, k2⟩ := zkd_L h hl
  have e : (ze M 81 4).toNat = s := by omega
  unfold zRt
  rw [e, k2, k1]
  refine ⟨⟨by omega, by omega⟩, h3, ?_, ?_, ?_, ?_⟩
  · rcases h4 with ⟨a, c⟩ | ⟨a, c⟩
    · rw [if_pos (by omega)]; exact c
    · rw [if_neg (by omega)]; exact c
  · intro hk
    refine h5 ?_
    by_cases g : zru zpL b n s ≤ s + 6
    · omega
    · rw [if_neg g] at hk; exact absurd hk (by decide)
  · intro hk
    split at hk <;> exact absurd hk (by decide)
  · intro hk
    split at hk <;> exact absurd hk (by decide)
theorem zRt_D {s : Nat} (es : ze M 81 4 = s) (h : s < n) (hl : zpL (b s) = false) (hd : zpD (b s) = true) (h3 : ze M 81 3 = (zru zpD b n s : Nat)) (h5 : zru zpD b n s ≤ s + 3 → ze M 81 6 = zvl b s (zru zpD b n s - s)) (h4 : (zNok b n s ∧ ze M 81 5 = 2) ∨ (¬ zNok b n s ∧ ze M 81 5 = 4)) : zRt b n M := by
  obtain ⟨k1, k2⟩ := zkd_D h hl hd
  have e : (ze M 81 4).toNat = s := by omega
  unfold zRt
  rw [e, k2, k1]
  refine ⟨⟨by omega, by omega⟩, h3, ?_, ?_, ?_, ?_⟩
  · rcases h4 with ⟨a, c⟩ | ⟨a, c⟩
    · rw [if_pos (by exact a)]; exact c
    · rw [if_neg (by exact a)]; exact c
  · intro hk
    split at hk <;> exact absurd hk (by decide)
  · intro hk
    refine h5 ?_
    by_cases g : zNok b n s
    · exact g.1
    · rw [if_neg (by exact g)] at hk; exact absurd hk (by decide)
  · intro hk
    split at hk <;> exact absurd hk (by decide)
theorem zRt_S {s : Nat} (es : ze M 81 4 = s) (h : s < n) (hl : zpL (b s) = false) (hd : zpD (b s) = false) (h3 : ze M 81 3 = s + 1) (h5 : ze M 81 6 = b s) (h4 : (zpS (b s) = true ∧ ze M 81 5 = 3) ∨ (zpS (b s) = false ∧ ze M 81 5 = 4)) : zRt b n M := by
  obtain ⟨k1, k2⟩ := zkd_S h hl hd
  have e : (ze M 81 4).toNat = s := by omega
  unfold zRt
  rw [e, k2, k1]
  refine ⟨⟨by omega, by omega⟩, by omega, ?_, ?_, ?_, fun _ => h5⟩
  · rcases h4 with ⟨a, c⟩ | ⟨a, c⟩
    · rw [if_pos a]; exact c
    · rw [if_neg (by rw [a]; decide)]; exact c
  · intro hk
    split at hk <;> exact absurd hk (by decide)
  · intro hk
    split at hk <;> exact absurd hk (by decide)
theorem zRt_0 {s : Nat} (es : ze M 81 4 = s) (h : n = s) (h3 : ze M 81 3 = s) (h4 : ze M 81 5 = 0) : zRt b n M := by
  obtain ⟨k1, k2⟩ := zkd_0 (b := b) (n := n) (s := s) (by omega)
  have e : (ze M 81 4).toNat = s := by omega
  unfold zRt
  rw [e, k2, k1]
  exact ⟨⟨by omega, by omega⟩, h3, h4, fun h => absurd h (by decide), fun h => absurd h (by decide), fun h => absurd h (by decide)⟩
end ZRB
theorem zw8_b {b : Nat → Int} {s : Nat} : ∀ k : Nat, (∀ i, i < k → zpL (b (s + i)) = true) → 0 ≤ zw8 b s k ∧ zw8 b s k < (256 : Int) ^ k
  | 0, _ => by
    show (0 : Int) ≤ 0 ∧ (0 : Int) < (256 : Int) ^ 0
    rw [Int.pow_zero]
    omega
  | k + 1, h => by
    have ih := zw8_b (s := s) k (fun i hi => h i (by omega))
    have hk := zpL_t.mp (h k (by omega))
    show 0 ≤ 256 * zw8 b s k + b (s + k) ∧ 256 * zw8 b s k + b (s + k) < (256 : Int) ^ (k + 1)
    rw [Int.pow_succ]
    generalize (256 : Int) ^ k = p at ih ⊢
    omega
theorem zw8_inj {b c : Nat → Int} {s t : Nat} : ∀ k m : Nat, (∀ i, i < k → zpL (b (s + i)) = true) → (∀ i, i < m → zpL (c (t + i)) = true) → zw8 b s k = zw8 c t m → k = m ∧ ∀ i, i < k → b (s + i) = c (t + i)
  | 0, 0, _, _, _ => ⟨rfl, fun i h => absurd h (by omega)⟩
  | 0, m + 1, _, h2, h => by
    have a1 := (zw8_b (b := c) (s := t) m (fun i hi => h2 i (by omega))).1
    have a2 := zpL_t.mp (h2 m (by omega))
    have e : (0 : Int) = 256 * zw8 c t m + c (t + m) := h
    exact absurd e (by omega)
  | k + 1, 0, h1, _, h => by
    have a1 := (zw8_b (b := b) (s := s) k (fun i hi => h1 i (by omega))).1
    have a2 := zpL_t.mp (h1 k (by omega))
    have e : 256 * zw8 b s k + b (s + k) = 0 := h
    exact absurd e (by omega)
  | k + 1, m + 1, h1, h2, h => by
    have a2 := zpL_t.mp (h1 k (by omega))
    have b2 := zpL_t.mp (h2 m (by omega))
    have e : 256 * zw8 b s k + b (s + k) = 256 * zw8 c t m + c (t + m) := h
    have e1 : zw8 b s k = zw8 c t m := by omega
    have e2 : b (s + k) = c (t + m) := by omega
    obtain ⟨r1, r2⟩ := zw8_inj k m (fun i hi => h1 i (by omega)) (fun i hi => h2 i (by omega)) e1
    refine ⟨by omega, fun i hi => ?_⟩
    by_cases g : i = k
    · subst g
      rw [e2, r1]
    · exact r2 i (by omega)
theorem zw8_c {b c : Nat → Int} {s t : Nat} : ∀ k : Nat, (∀ i, i < k → b (s + i) = c (t + i)) → zw8 b s k = zw8 c t k ∧ zw2 b s k = zw2 c t k
  | 0, _ => ⟨rfl, rfl⟩
  | k + 1, h => by
    obtain ⟨h1, h2⟩ := zw8_c k (fun i hi => h i (by omega))
    have e := h k (by omega)
    refine ⟨?_, ?_⟩
    · show 256 * zw8 b s k + b (s + k) = 256 * zw8 c t k + c (t + k)
      rw [h1, e]
    · show 27 * zw2 b s k + (b (s + k) - 96) = 27 * zw2 c t k + (c (t + k) - 96)
      rw [h2, e]
theorem zw28 {b c : Nat → Int} {s t k m : Nat} (h1 : ∀ i, i < k → zpL (b (s + i)) = true) (h2 : ∀ i, i < m → zpL (c (t + i)) = true) : zw2 b s k = zw2 c t m ↔ zw8 b s k = zw8 c t m := by
  constructor
  · intro h
    obtain ⟨rfl, r⟩ := zw2_inj k m h1 h2 h
    exact (zw8_c k r).1
  · intro h
    obtain ⟨rfl, r⟩ := zw8_inj k m h1 h2 h
    exact (zw8_c k r).2
def zkW8 : Nat → Int := fun i => [123610792682867, 1836021349, 7103860, 1936683636].getD i 0
theorem zkW8_k {i : Nat} (hi : i < 4) : zkW8 i = zw8 (zsb i) 0 (zsl i) := by
  have h : ∀ i, i < 4 → zkW8 i = zw8 (zsb i) 0 (zsl i) := by decide +kernel
  exact h i hi
def zke8 (b : Nat → Int) (n p : Nat) : Int := zw8 b p (zen b n p - p)
theorem zke8_w {b : Nat → Int} {n p i : Nat} (h : zkd b n p = 1) (hi : i < 4) : zke8 b n p = zkW8 i ↔ zkey b n p = zkw i := by
  obtain ⟨h1, h2, h3, h4, h5⟩ := zkd_1 h
  rw [zkW8_k hi, zsb_k (i := i) hi]
  unfold zke8 zkey
  exact (zw28 (fun j hj => h5 (p + j) (by omega) (by omega)) (fun j hj => by rw [Nat.zero_add]; exact zsb_L (i := i) hi hj)).symm
theorem zl_bv (m : Nat) (h : m < 9223372036854775808) : (Int64.ofInt (m : Int)).toBitVec.toNat = m := by
  rw [Int64.toBitVec_ofInt, BitVec.ofInt_natCast, BitVec.toNat_ofNat]
  omega
theorem zl_ti {x : Int64} {m : Nat} (h : x.toBitVec.toNat = m) (hm : m < 9223372036854775808) : x.toInt = (m : Int) := by
  show x.toBitVec.toInt = _
  rw [BitVec.toInt_eq_toNat_of_lt (by rw [h]; omega), h]
theorem zlor_n (m n : Nat) (hm : m < 9223372036854775808) (hn : n < 9223372036854775808) : zlor m n = ((m ||| n : Nat) : Int) := by
  refine zl_ti ?_ (Nat.or_lt_two_pow (n := 63) hm hn)
  rw [Int64.toBitVec_or, BitVec.toNat_or, zl_bv m hm, zl_bv n hn]
theorem zlshl8 (m : Nat) (hm : m < 36028797018963968) : zlshl m 8 = ((m * 256 : Nat) : Int) := by
  refine zl_ti ?_ (by omega)
  have e8 : ((Int32.ofInt 8).toInt64 &&& 63) = 8 := by decide
  rw [e8]
  show (Int64.ofInt (m : Int) <<< (8 : Int64)).toBitVec.toNat = _
  rw [Int64.toBitVec_shiftLeft]
  show ((Int64.ofInt (m : Int)).toBitVec <<< ((8 : Int64).toBitVec.smod 64)).toNat = _
  have e9 : (8 : Int64).toBitVec.smod 64 = 8#64 := by decide
  rw [e9]
  show ((Int64.ofInt (m : Int)).toBitVec <<< (8#64).toNat).toNat = _
  rw [BitVec.toNat_shiftLeft, zl_bv m (by omega)]
  show m <<< 8 % 2 ^ 64 = _
  rw [Nat.shiftLeft_eq]
  omega
theorem zw8_z {x c : Int} (x0 : 0 ≤ x) (x1 : x < 36028797018963968) (c0 : 0 ≤ c) (c1 : c ≤ 255) : zlor (zlshl x 8) c = 256 * x + c := by
  obtain ⟨m, rfl⟩ := Int.eq_ofNat_of_zero_le x0
  obtain ⟨k, rfl⟩ := Int.eq_ofNat_of_zero_le c0
  rw [zlshl8 m (by omega), zlor_n _ _ (by omega) (by omega), Nat.mul_comm, ← Nat.two_pow_add_eq_or_of_lt (i := 8) (b := k) (by show k < 256; omega) m]
  show ((256 * m + k : Nat) : Int) = _
  omega
theorem zw8_step {b : Nat → Int} {n : Nat} {s : Nat} {k x c v : Int} (k0 : 0 ≤ k) (k5 : k < 6) (hn : (s : Int) + k < n) (hl : ∀ j : Nat, s ≤ j → j < (s + k).toNat → zpL (b j) = true) (hx : k ≤ 6 → x = zw8 b s k.toNat) (hc : c = b (s + k).toNat) (hp : zpL c = true) (hv : v = zlor (zlshl x 8) c) : k + 1 ≤ 6 → v = zw8 b s (k + 1).toNat := by
  intro _
  have hx := hx (by omega)
  have hb := zw8_b (b := b) (s := s) k.toNat (fun i hi => hl (s + i) (by omega) (by omega))
  have h7 : (256 : Int) ^ k.toNat ≤ 1099511627776 := by
    obtain g | g | g | g | g | g : k.toNat = 0 ∨ k.toNat = 1 ∨ k.toNat = 2 ∨ k.toNat = 3 ∨ k.toNat = 4 ∨ k.toNat = 5 := by omega
    all_goals (rw [g]; decide)
  have hcl := zpL_t.mp hp
  rw [← hx] at hb
  rw [hv, zw8_z hb.1 (by omega) (by omega) (by omega), show (k + 1).toNat = k.toNat + 1 by omega]
  show _ = 256 * zw8 b s k.toNat + b (s + k.toNat)
  rw [← hx, hc, show (s + k).toNat = s + k.toNat by omega]
theorem zvl_st3 {b : Nat → Int} {n : Nat} (hb : zBy b n) {s : Nat} {k x c v : Int} (k0 : 0 ≤ k) (k5 : k < 3) (hx : k ≤ 3 → x = zvl b s k.toNat) (hc : c = b (s + k).toNat) (hv : v = 10 * x + c - 48) : k + 1 ≤ 3 → v = zvl b s (k + 1).toNat := by
  intro _
  have hx := hx (by omega)
  rw [hv, show (k + 1).toNat = k.toNat + 1 by omega]
  show _ = 10 * zvl b s k.toNat + (b (s + k.toNat) - 48)
  rw [← hx, hc, show (s + k).toNat = s + k.toNat by omega]
  omega
theorem zvl_d {b : Nat → Int} {s : Nat} : ∀ k : Nat, (∀ i, i < k → zpD (b (s + i)) = true) → 0 ≤ zvl b s k ∧ zvl b s k < (10 : Int) ^ k
  | 0, _ => by
    show (0 : Int) ≤ 0 ∧ (0 : Int) < (10 : Int) ^ 0
    rw [Int.pow_zero]
    omega
  | k + 1, h => by
    have ih := zvl_d (s := s) k (fun i hi => h i (by omega))
    have hk := zpD_t.mp (h k (by omega))
    show 0 ≤ 10 * zvl b s k + (b (s + k) - 48) ∧ 10 * zvl b s k + (b (s + k) - 48) < (10 : Int) ^ (k + 1)
    rw [Int.pow_succ]
    generalize (10 : Int) ^ k = p at ih ⊢
    omega
theorem zvl_d3 {b : Nat → Int} {s : Nat} {k x : Int} (k0 : 0 ≤ k) (k3 : k < 3) (hl : ∀ j : Nat, s ≤ j → j < (s + k).toNat → zpD (b j) = true) (hx : k ≤ 3 → x = zvl b s k.toNat) : 0 ≤ x ∧ x ≤ 99 := by
  have h := zvl_d (b := b) (s := s) k.toNat (fun i hi => hl (s + i) (by omega) (by omega))
  rw [← hx (by omega)] at h
  have h7 : (10 : Int) ^ k.toNat ≤ 100 := by
    obtain g | g | g : k.toNat = 0 ∨ k.toNat = 1 ∨ k.toNat = 2 := by omega
    all_goals (rw [g]; decide)
  omega
theorem zall_1 {b : Nat → Int} {P : Int → Bool} {s : Nat} {k c : Int} (k0 : 0 ≤ k) (hl : ∀ j : Nat, s ≤ j → j < (s + k).toNat → P (b j) = true) (hc : c = b (s + k).toNat) (hp : P c = true) : ∀ j : Nat, s ≤ j → j < (s + (k + 1)).toNat → P (b j) = true := fun j h1 h2 => by
  by_cases g : j = (s + k).toNat
  · rw [g, ← hc]
    exact hp
  · exact hl j h1 (by omega)
theorem zru_st2 {P : Int → Bool} {b : Nat → Int} {n x : Nat} {s : Nat} {k c : Int} (k0 : 0 ≤ k) (h1 : (s : Int) + k < n) (hc : c = b (s + k).toNat) (hp : P c = true) (hi : zru P b n (s + k).toNat = x) : zru P b n (s + (k + 1)).toNat = x := by
  have h := zru_step (u := (s : Int) + k) (by omega) h1 hc hp hi
  rwa [show (s : Int) + k + 1 = s + (k + 1) by omega] at h
theorem zru_sp2 {P : Int → Bool} {b : Nat → Int} {n x : Nat} {s : Nat} {k c : Int} (k0 : 0 ≤ k) (h1 : ((s : Int) + k < n ∧ c = b (s + k).toNat ∧ P c = false) ∨ (n : Int) ≤ s + k) (hi : zru P b n (s + k).toNat = x) : (s : Int) + k = (x : Int) := by
  rcases h1 with ⟨_, h2, h3⟩ | h1
  · exact zru_stop (u := (s : Int) + k) (by omega) (Or.inr ⟨h2, h3⟩) hi
  · exact zru_stop (u := (s : Int) + k) (v := 0) (by omega) (Or.inl h1) hi
