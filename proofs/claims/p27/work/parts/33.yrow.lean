set_option maxHeartbeats 4000000 in
theorem c_M_indexOf (l : Launch) (Mz : zMem) (hW : zMt Mz) (pP_ : Int) (p0_ : 0 ≤ ze Mz 81 20) (p1_ : ze Mz 81 20 ≤ 24) (p2_ : ze Mz 81 12 = pP_) (p3_ : 1 ≤ pP_) (p4_ : pP_ ≤ 6) (p5_ : zB 85 144 0 5 Mz) (p6_ : zCb Mz pP_) : zC l m_M_indexOf 0 0 [.ref 81] Mz (zpI [] [] Mz (fun v N => (((0 ≤ v ∧ v < ze Mz 81 20 ∧ zFnd Mz v pP_) ∨ (v = -1 ∧ zNo2 Mz pP_))))) := by
  refine zC_of (L0 := [some (.ref 81), none, none, none]) md_M_indexOf (Nat.le_of_ble_eq_true rfl) rfl ?_ zQ0
  have hf : zFr [] [] Mz Mz := zFr.rf
  have r_12 := ze_r Mz 81 12
  have r_20 := ze_r Mz 81 20
  have hcb_ : zCb Mz (ze Mz 81 12) := by rw [p2_]; exact p6_
  refine zw_iconst (pc := 0) (v := Int32.ofInt 0) (by decide) (zdal_p dlC_M_indexOf_23 (i := 0) rfl) ?_
  refine zw_istore_n (pc := 1) (i := 1) (L2 := [some (.ref 81), some (.int (Int32.ofInt 0)), none, none]) rfl (by decide) rfl (zdal_p dlC_M_indexOf_23 (i := 1) rfl) ?_
  have lp_2 : ∀ (n : Nat) (u1_ : Int) (hu1_a : -2147483648 ≤ u1_) (hu1_b : u1_ < 2147483648) (i2_ : 0 ≤ u1_) (i3_ : u1_ ≤ ze Mz 81 20) (i4_ : ∀ i : Nat, (i : Int) < u1_ → zrc Mz 85 i (ze Mz 81 12) ≠ zrc Mz 86 0 (ze Mz 81 12)), (ze Mz 81 20 - u1_).toNat < n → zW l m_M_indexOf (zn Mz + 0, zw Mz + 0) Mz 2 [some (.ref 81), some (.int (Int32.ofInt u1_)), none, none] [] (zpI [] [] Mz (fun v N => (((0 ≤ v ∧ v < ze Mz 81 20 ∧ zFnd Mz v pP_) ∨ (v = -1 ∧ zNo2 Mz pP_))))) := by
    intro n
    induction n with
    | zero =>
      intro u1_ hu1_a hu1_b i2_ i3_ i4_ h0
      exact absurd h0 (Nat.not_lt_zero _)
    | succ n ih_2 =>
      intro u1_ hu1_a hu1_b i2_ i3_ i4_ hlt_2
      have hZ_ := (show ∀ i : Nat, (i : Int) < u1_ → zrc Mz 85 i (ze Mz 81 12) ≠ zrc Mz 86 0 (ze Mz 81 12) by assumption)
      refine zw_iload_n (pc := 2) (n := 1) (x := Int32.ofInt u1_) rfl (zdal_p dlC_M_indexOf_23 (i := 2) rfl) ?_
      refine zw_aload_n (pc := 3) (n := 0) (x := 81) rfl (zdal_p dlC_M_indexOf_23 (i := 3) rfl) ?_
      refine zr_getI0 hf hW (pc := 4) (by decide) f_M_196 rfl (zdal_p dlC_M_indexOf_23 (i := 4) rfl) ?_
      refine zr_icmp_ge (pc := 7) (tgt := 70) ⟨hu1_a, hu1_b⟩ ⟨(ze_r Mz 81 20).1, (ze_r Mz 81 20).2⟩ (by decide) (zdal_p dlC_M_indexOf_23 (i := 5) rfl) (fun hc_7 => ?_) (fun hc_7 => ?_)
      · skip
        refine zw_iconst (pc := 70) (v := Int32.ofInt (-1)) (by decide) (zdal_p dlC_M_indexOf_24 (i := 17) rfl) ?_
        exact zr_iret (pc := 71) (ty := .int) rfl rfl ⟨by omega, by omega⟩ hf (show ((0 ≤ ((-1)) ∧ ((-1)) < ze Mz 81 20 ∧ zFnd Mz ((-1)) pP_) ∨ (((-1)) = -1 ∧ zNo2 Mz pP_)) from Or.inr (⟨(show ((-1)) = -1 by first | (rw [← p2_]; intro i hi; exact hZ_ i (by omega)) | omega), (show zNo2 Mz pP_ by first | (rw [← p2_]; intro i hi; exact hZ_ i (by omega)) | omega)⟩)) (zdal_p dlC_M_indexOf_24 (i := 18) rfl)
      · skip
        refine zw_iconst (pc := 10) (v := Int32.ofInt 1) (by decide) (zdal_p dlC_M_indexOf_23 (i := 6) rfl) ?_
        refine zw_istore_n (pc := 11) (i := 2) (L2 := [some (.ref 81), some (.int (Int32.ofInt u1_)), some (.int (Int32.ofInt 1)), none]) rfl (by decide) rfl (zdal_p dlC_M_indexOf_23 (i := 7) rfl) ?_
        refine zw_iconst (pc := 12) (v := Int32.ofInt 0) (by decide) (zdal_p dlC_M_indexOf_23 (i := 8) rfl) ?_
        refine zw_istore_n (pc := 13) (i := 3) (L2 := [some (.ref 81), some (.int (Int32.ofInt u1_)), some (.int (Int32.ofInt 1)), some (.int (Int32.ofInt 0))]) rfl (by decide) rfl (zdal_p dlC_M_indexOf_23 (i := 9) rfl) ?_
        have lp_14 : ∀ (n : Nat) (u5_ : Int) (hu5_a : -2147483648 ≤ u5_) (hu5_b : u5_ < 2147483648) (hu5_z : u5_ = 0 ∨ u5_ = 1) (u6_ : Int) (hu6_a : -2147483648 ≤ u6_) (hu6_b : u6_ < 2147483648) (i7_ : 0 ≤ u6_) (i8_ : u6_ ≤ ze Mz 81 12) (i9_ : zix Mz u1_ u6_ u5_), (ze Mz 81 12 - u6_).toNat < n → zW l m_M_indexOf (zn Mz + 0, zw Mz + 0) Mz 14 [some (.ref 81), some (.int (Int32.ofInt u1_)), some (.int (Int32.ofInt u5_)), some (.int (Int32.ofInt u6_))] [] (zpI [] [] Mz (fun v N => (((0 ≤ v ∧ v < ze Mz 81 20 ∧ zFnd Mz v pP_) ∨ (v = -1 ∧ zNo2 Mz pP_))))) := by
          intro n
          induction n with
          | zero =>
            intro u5_ hu5_a hu5_b hu5_z u6_ hu6_a hu6_b i7_ i8_ i9_ h0
            exact absurd h0 (Nat.not_lt_zero _)
          | succ n ih_14 =>
            intro u5_ hu5_a hu5_b hu5_z u6_ hu6_a hu6_b i7_ i8_ i9_ hlt_14
            refine zw_iload_n (pc := 14) (n := 3) (x := Int32.ofInt u6_) rfl (zdal_p dlC_M_indexOf_23 (i := 10) rfl) ?_
            refine zw_aload_n (pc := 15) (n := 0) (x := 81) rfl (zdal_p dlC_M_indexOf_23 (i := 11) rfl) ?_
            refine zr_getI0 hf hW (pc := 16) (by decide) f_M_115 rfl (zdal_p dlC_M_indexOf_23 (i := 12) rfl) ?_
            refine zr_icmp_ge (pc := 19) (tgt := 58) ⟨hu6_a, hu6_b⟩ ⟨(ze_r Mz 81 12).1, (ze_r Mz 81 12).2⟩ (by decide) (zdal_p dlC_M_indexOf_23 (i := 13) rfl) (fun hc_19 => ?_) (fun hc_19 => ?_)
            · skip
              have he_ : zixE Mz u1_ u5_ (ze Mz 81 12) := zix_e p5_ (by omega) hcb_ (by omega) (by omega) (show zix Mz u1_ u6_ u5_ by assumption) (by omega)
              refine zw_iload_n (pc := 58) (n := 2) (x := Int32.ofInt u5_) rfl (zdal_p dlC_M_indexOf_24 (i := 11) rfl) ?_
              refine zr_if_eq (pc := 59) (tgt := 64) ⟨hu5_a, hu5_b⟩ (by decide) (zdal_p dlC_M_indexOf_24 (i := 12) rfl) (fun hc_59 => ?_) (fun hc_59 => ?_)
              · skip
                refine zr_iinc (pc := 64) (i := 1) (a := u1_) (n := 1) (L2 := [some (.ref 81), some (.int (Int32.ofInt (u1_ + 1))), some (.int (Int32.ofInt u5_)), some (.int (Int32.ofInt u6_))]) rfl (by decide) rfl (zdal_p dlC_M_indexOf_24 (i := 15) rfl) ?_
                refine zw_goto (pc := 67) (tgt := 2) (by decide) (zdal_p dlC_M_indexOf_24 (i := 16) rfl) ?_
                have hx_ := he_.f (by omega)
                refine zW_le [some (.ref 81), some (.int (Int32.ofInt (u1_ + 1))), none, none] (⟨rfl, rfl, trivial⟩) ?_
                exact ih_2 (u1_ + 1) (by omega) (by omega) (show 0 ≤ (u1_ + 1) by first | assumption | omega) (show (u1_ + 1) ≤ ze Mz 81 20 by first | assumption | omega) (show ∀ i : Nat, (i : Int) < (u1_ + 1) → zrc Mz 85 i (ze Mz 81 12) ≠ zrc Mz 86 0 (ze Mz 81 12) by exact zall_s (by omega) hZ_ hx_) (by omega)
              · skip
                refine zw_iload_n (pc := 62) (n := 1) (x := Int32.ofInt u1_) rfl (zdal_p dlC_M_indexOf_24 (i := 13) rfl) ?_
                exact zr_iret (pc := 63) (ty := .int) rfl rfl ⟨by omega, by omega⟩ hf (show ((0 ≤ u1_ ∧ u1_ < ze Mz 81 20 ∧ zFnd Mz u1_ pP_) ∨ (u1_ = -1 ∧ zNo2 Mz pP_)) from Or.inl (⟨(show 0 ≤ u1_ by first | (rw [← p2_]; exact he_.t (by omega)) | omega), (show u1_ < ze Mz 81 20 by first | (rw [← p2_]; exact he_.t (by omega)) | omega), (show zFnd Mz u1_ pP_ by first | (rw [← p2_]; exact he_.t (by omega)) | omega)⟩)) (zdal_p dlC_M_indexOf_24 (i := 14) rfl)
            · skip
              refine zw_iload_n (pc := 22) (n := 2) (x := Int32.ofInt u5_) rfl (zdal_p dlC_M_indexOf_23 (i := 14) rfl) ?_
              refine zr_if_eq (pc := 23) (tgt := 50) ⟨hu5_a, hu5_b⟩ (by decide) (zdal_p dlC_M_indexOf_23 (i := 15) rfl) (fun hc_23 => ?_) (fun hc_23 => ?_)
              · skip
                refine zw_iconst (pc := 50) (v := Int32.ofInt 0) (by decide) (zdal_p dlC_M_indexOf_24 (i := 7) rfl) ?_
                refine zw_istore_n (pc := 51) (i := 2) (L2 := [some (.ref 81), some (.int (Int32.ofInt u1_)), some (.int (Int32.ofInt 0)), some (.int (Int32.ofInt u6_))]) rfl (by decide) rfl (zdal_p dlC_M_indexOf_24 (i := 8) rfl) ?_
                refine zr_iinc (pc := 52) (i := 3) (a := u6_) (n := 1) (L2 := [some (.ref 81), some (.int (Int32.ofInt u1_)), some (.int (Int32.ofInt 0)), some (.int (Int32.ofInt (u6_ + 1)))]) rfl (by decide) rfl (zdal_p dlC_M_indexOf_24 (i := 9) rfl) ?_
                refine zw_goto (pc := 55) (tgt := 14) (by decide) (zdal_p dlC_M_indexOf_24 (i := 10) rfl) ?_
                have hz_ : zix Mz u1_ (u6_ + 1) (0 : Int) := by first | (have h0 := ‹zix Mz _ _ _›; rw [hc_23] at h0; exact zix_k h0) | exact zix_s1 (by assumption) (by assumption) (by omega) (by omega) (by assumption) (by assumption) (by omega) | exact zix_s0 (by omega) (by omega) (by omega) (by assumption) (by assumption) (by omega)
                exact ih_14 0 (by decide) (by decide) (by omega) (u6_ + 1) (by omega) (by omega) (show 0 ≤ (u6_ + 1) by first | assumption | omega) (show (u6_ + 1) ≤ ze Mz 81 12 by first | assumption | omega) (show zix Mz u1_ (u6_ + 1) (0 : Int) by exact hz_) (by omega)
              · skip
                refine zw_aload_n (pc := 26) (n := 0) (x := 81) rfl (zdal_p dlC_M_indexOf_23 (i := 16) rfl) ?_
                refine zr_getF (r := 85) (hf.w hW) (pc := 27) f_M_26 rfl (zh_85 (hf.w hW)).1 (zdal_p dlC_M_indexOf_23 (i := 17) rfl) ?_
                refine zw_bipush (pc := 30) (v := Int32.ofInt 6) (by decide) (zdal_p dlC_M_indexOf_23 (i := 18) rfl) ?_
                refine zw_iload_n (pc := 32) (n := 1) (x := Int32.ofInt u1_) rfl (zdal_p dlC_M_indexOf_23 (i := 19) rfl) ?_
                refine zr_imul (pc := 33) (zdal_p dlC_M_indexOf_23 (i := 20) rfl) ?_
                refine zw_iload_n (pc := 34) (n := 3) (x := Int32.ofInt u6_) rfl (zdal_p dlC_M_indexOf_23 (i := 21) rfl) ?_
                refine zr_iadd (pc := 35) (zdal_p dlC_M_indexOf_23 (i := 22) rfl) ?_
                refine zr_ialdn (pc := 36) (zh_85 (hf.w hW)).2 (by decide) (by omega) (by omega) (zdal_p dlC_M_indexOf_23 (i := 23) rfl) (fun v10_ hv10_ hv10_a hv10_b => ?_)
                have hr11_ := p5_.g (e := (6 * u1_) + u6_) (by omega) (by omega)
                rw [← hv10_] at hr11_
                refine zw_aload_n (pc := 37) (n := 0) (x := 81) rfl (zdal_p dlC_M_indexOf_24 (i := 0) rfl) ?_
                refine zr_getF (r := 86) (hf.w hW) (pc := 38) f_M_29 rfl (zh_86 (hf.w hW)).1 (zdal_p dlC_M_indexOf_24 (i := 1) rfl) ?_
                refine zw_iload_n (pc := 41) (n := 3) (x := Int32.ofInt u6_) rfl (zdal_p dlC_M_indexOf_24 (i := 2) rfl) ?_
                refine zr_ialdn (pc := 42) (zh_86 (hf.w hW)).2 (by decide) (by omega) (by omega) (zdal_p dlC_M_indexOf_24 (i := 3) rfl) (fun v12_ hv12_ hv12_a hv12_b => ?_)
                refine zr_icmp_ne (pc := 43) (tgt := 50) ⟨hv10_a, hv10_b⟩ ⟨hv12_a, hv12_b⟩ (by decide) (zdal_p dlC_M_indexOf_24 (i := 4) rfl) (fun hc_43 => ?_) (fun hc_43 => ?_)
                · skip
                  refine zw_iconst (pc := 50) (v := Int32.ofInt 0) (by decide) (zdal_p dlC_M_indexOf_24 (i := 7) rfl) ?_
                  refine zw_istore_n (pc := 51) (i := 2) (L2 := [some (.ref 81), some (.int (Int32.ofInt u1_)), some (.int (Int32.ofInt 0)), some (.int (Int32.ofInt u6_))]) rfl (by decide) rfl (zdal_p dlC_M_indexOf_24 (i := 8) rfl) ?_
                  refine zr_iinc (pc := 52) (i := 3) (a := u6_) (n := 1) (L2 := [some (.ref 81), some (.int (Int32.ofInt u1_)), some (.int (Int32.ofInt 0)), some (.int (Int32.ofInt (u6_ + 1)))]) rfl (by decide) rfl (zdal_p dlC_M_indexOf_24 (i := 9) rfl) ?_
                  refine zw_goto (pc := 55) (tgt := 14) (by decide) (zdal_p dlC_M_indexOf_24 (i := 10) rfl) ?_
                  have hz_ : zix Mz u1_ (u6_ + 1) (0 : Int) := by first | (have h0 := ‹zix Mz _ _ _›; rw [hc_23] at h0; exact zix_k h0) | exact zix_s1 (by assumption) (by assumption) (by omega) (by omega) (by assumption) (by assumption) (by omega) | exact zix_s0 (by omega) (by omega) (by omega) (by assumption) (by assumption) (by omega)
                  exact ih_14 0 (by decide) (by decide) (by omega) (u6_ + 1) (by omega) (by omega) (show 0 ≤ (u6_ + 1) by first | assumption | omega) (show (u6_ + 1) ≤ ze Mz 81 12 by first | assumption | omega) (show zix Mz u1_ (u6_ + 1) (0 : Int) by exact hz_) (by omega)
                · skip
                  refine zw_iconst (pc := 46) (v := Int32.ofInt 1) (by decide) (zdal_p dlC_M_indexOf_24 (i := 5) rfl) ?_
                  refine zw_goto (pc := 47) (tgt := 51) (by decide) (zdal_p dlC_M_indexOf_24 (i := 6) rfl) ?_
                  refine zw_istore_n (pc := 51) (i := 2) (L2 := [some (.ref 81), some (.int (Int32.ofInt u1_)), some (.int (Int32.ofInt 1)), some (.int (Int32.ofInt u6_))]) rfl (by decide) rfl (zdal_p dlC_M_indexOf_24 (i := 8) rfl) ?_
                  refine zr_iinc (pc := 52) (i := 3) (a := u6_) (n := 1) (L2 := [some (.ref 81), some (.int (Int32.ofInt u1_)), some (.int (Int32.ofInt 1)), some (.int (Int32.ofInt (u6_ + 1)))]) rfl (by decide) rfl (zdal_p dlC_M_indexOf_24 (i := 9) rfl) ?_
                  refine zw_goto (pc := 55) (tgt := 14) (by decide) (zdal_p dlC_M_indexOf_24 (i := 10) rfl) ?_
                  have hz_ : zix Mz u1_ (u6_ + 1) (1 : Int) := by first | (have h0 := ‹zix Mz _ _ _›; rw [hc_23] at h0; exact zix_k h0) | exact zix_s1 (by assumption) (by assumption) (by omega) (by omega) (by assumption) (by assumption) (by omega) | exact zix_s0 (by omega) (by omega) (by omega) (by assumption) (by assumption) (by omega)
                  exact ih_14 1 (by decide) (by decide) (by omega) (u6_ + 1) (by omega) (by omega) (show 0 ≤ (u6_ + 1) by first | assumption | omega) (show (u6_ + 1) ≤ ze Mz 81 12 by first | assumption | omega) (show zix Mz u1_ (u6_ + 1) (1 : Int) by exact hz_) (by omega)
        exact lp_14 _ 1 (by decide) (by decide) (by omega) 0 (by decide) (by decide) (show 0 ≤ (0 : Int) by first | assumption | omega) (show (0 : Int) ≤ ze Mz 81 12 by first | assumption | omega) (show zix Mz u1_ (0 : Int) (1 : Int) by exact zix_0) (Nat.lt_succ_self _)
  exact lp_2 _ 0 (by decide) (by decide) (show 0 ≤ (0 : Int) by first | assumption | omega) (show (0 : Int) ≤ ze Mz 81 20 by first | assumption | omega) (show ∀ i : Nat, (i : Int) < (0 : Int) → zrc Mz 85 i (ze Mz 81 12) ≠ zrc Mz 86 0 (ze Mz 81 12) by exact zall_0) (Nat.lt_succ_self _)
set_option maxHeartbeats 4000000 in
theorem c_M_isBehind (l : Launch) (Mz : zMem) (hW : zMt Mz) (a0_ : Int) (ha0_a : -2147483648 ≤ a0_) (ha0_b : a0_ < 2147483648) (a1_ : Int) (ha1_a : -2147483648 ≤ a1_) (ha1_b : a1_ < 2147483648) (pP_ : Int) (p0_ : 0 ≤ a0_) (p1_ : a0_ ≤ 23) (p2_ : 0 ≤ a1_) (p3_ : a1_ ≤ 23) (p4_ : ze Mz 81 12 = pP_) (p5_ : 1 ≤ pP_) (p6_ : pP_ ≤ 6) (p7_ : 1 ≤ ze Mz 81 12) (p8_ : zB 85 144 0 5 Mz) : zC l m_M_isBehind 0 0 [.ref 81, .int (Int32.ofInt a0_), .int (Int32.ofInt a1_)] Mz (zpI [] [] Mz (fun v N => (((v = 1 ∧ zrc Mz 85 (a1_).toNat pP_ < zrc Mz 85 (a0_).toNat pP_) ∨ (v = 0 ∧ zrc Mz 85 (a0_).toNat pP_ ≤ zrc Mz 85 (a1_).toNat pP_))))) := by
  refine zC_of (L0 := [some (.ref 81), some (.int (Int32.ofInt a0_)), some (.int (Int32.ofInt a1_)), none]) md_M_isBehind (Nat.le_of_ble_eq_true rfl) rfl ?_ zQ0
  have hf : zFr [] [] Mz Mz := zFr.rf
  have r_12 := ze_r Mz 81 12
  refine zw_iconst (pc := 0) (v := Int32.ofInt 0) (by decide) (zdal_p dlC_M_isBehind_25 (i := 0) rfl) ?_
  refine zw_istore_n (pc := 1) (i := 3) (L2 := [some (.ref 81), some (.int (Int32.ofInt a0_)), some (.int (Int32.ofInt a1_)), some (.int (Int32.ofInt 0))]) rfl (by decide) rfl (zdal_p dlC_M_isBehind_25 (i := 1) rfl) ?_
  have lp_2 : ∀ (n : Nat) (u1_ : Int) (hu1_a : -2147483648 ≤ u1_) (hu1_b : u1_ < 2147483648) (i2_ : 0 ≤ u1_) (i3_ : u1_ ≤ ze Mz 81 12) (i4_ : ∀ q : Nat, (q : Int) < u1_ → ze Mz 85 (6 * (a0_).toNat + q) = ze Mz 85 (6 * (a1_).toNat + q)), (ze Mz 81 12 - u1_).toNat < n → zW l m_M_isBehind (zn Mz + 0, zw Mz + 0) Mz 2 [some (.ref 81), some (.int (Int32.ofInt a0_)), some (.int (Int32.ofInt a1_)), some (.int (Int32.ofInt u1_))] [] (zpI [] [] Mz (fun v N => (((v = 1 ∧ zrc Mz 85 (a1_).toNat pP_ < zrc Mz 85 (a0_).toNat pP_) ∨ (v = 0 ∧ zrc Mz 85 (a0_).toNat pP_ ≤ zrc Mz 85 (a1_).toNat pP_))))) := by
    intro n
    induction n with
    | zero =>
      intro u1_ hu1_a hu1_b i2_ i3_ i4_ h0
      exact absurd h0 (Nat.not_lt_zero _)
    | succ n ih_2 =>
      intro u1_ hu1_a hu1_b i2_ i3_ i4_ hlt_2
      refine zw_iload_n (pc := 2) (n := 3) (x := Int32.ofInt u1_) rfl (zdal_p dlC_M_isBehind_25 (i := 2) rfl) ?_
      refine zw_aload_n (pc := 3) (n := 0) (x := 81) rfl (zdal_p dlC_M_isBehind_25 (i := 3) rfl) ?_
      refine zr_getI0 hf hW (pc := 4) (by decide) f_M_115 rfl (zdal_p dlC_M_isBehind_25 (i := 4) rfl) ?_
      refine zr_icmp_ge (pc := 7) (tgt := 72) ⟨hu1_a, hu1_b⟩ ⟨(ze_r Mz 81 12).1, (ze_r Mz 81 12).2⟩ (by decide) (zdal_p dlC_M_isBehind_25 (i := 5) rfl) (fun hc_7 => ?_) (fun hc_7 => ?_)
      · skip
        refine zw_iconst (pc := 72) (v := Int32.ofInt 0) (by decide) (zdal_p dlC_M_isBehind_26 (i := 22) rfl) ?_
        exact zr_iret (pc := 73) (ty := .boolean) rfl (z_narB (by omega)) ⟨by omega, by omega⟩ hf (show ((0 = 1 ∧ zrc Mz 85 (a1_).toNat pP_ < zrc Mz 85 (a0_).toNat pP_) ∨ (0 = 0 ∧ zrc Mz 85 (a0_).toNat pP_ ≤ zrc Mz 85 (a1_).toNat pP_)) from Or.inr (⟨(show 0 = 0 by first | (rw [← p4_]; exact Nat.le_of_eq (zrc_c2 (fun p hp _ => (show ∀ q : Nat, (q : Int) < u1_ → ze Mz 85 (6 * (a0_).toNat + q) = ze Mz 85 (6 * (a1_).toNat + q) by assumption) p (by omega)))) | omega), (show zrc Mz 85 (a0_).toNat pP_ ≤ zrc Mz 85 (a1_).toNat pP_ by first | (rw [← p4_]; exact Nat.le_of_eq (zrc_c2 (fun p hp _ => (show ∀ q : Nat, (q : Int) < u1_ → ze Mz 85 (6 * (a0_).toNat + q) = ze Mz 85 (6 * (a1_).toNat + q) by assumption) p (by omega)))) | omega)⟩)) (zdal_p dlC_M_isBehind_26 (i := 23) rfl)
      · skip
        refine zw_aload_n (pc := 10) (n := 0) (x := 81) rfl (zdal_p dlC_M_isBehind_25 (i := 6) rfl) ?_
        refine zr_getF (r := 85) (hf.w hW) (pc := 11) f_M_26 rfl (zh_85 (hf.w hW)).1 (zdal_p dlC_M_isBehind_25 (i := 7) rfl) ?_
        refine zw_bipush (pc := 14) (v := Int32.ofInt 6) (by decide) (zdal_p dlC_M_isBehind_25 (i := 8) rfl) ?_
        refine zw_iload_n (pc := 16) (n := 1) (x := Int32.ofInt a0_) rfl (zdal_p dlC_M_isBehind_25 (i := 9) rfl) ?_
        refine zr_imul (pc := 17) (zdal_p dlC_M_isBehind_25 (i := 10) rfl) ?_
        refine zw_iload_n (pc := 18) (n := 3) (x := Int32.ofInt u1_) rfl (zdal_p dlC_M_isBehind_25 (i := 11) rfl) ?_
        refine zr_iadd (pc := 19) (zdal_p dlC_M_isBehind_25 (i := 12) rfl) ?_
        refine zr_ialdn (pc := 20) (zh_85 (hf.w hW)).2 (by decide) (by omega) (by omega) (zdal_p dlC_M_isBehind_25 (i := 13) rfl) (fun v5_ hv5_ hv5_a hv5_b => ?_)
        have hr6_ := p8_.g (e := (6 * a0_) + u1_) (by omega) (by omega)
        rw [← hv5_] at hr6_
        refine zw_aload_n (pc := 21) (n := 0) (x := 81) rfl (zdal_p dlC_M_isBehind_25 (i := 14) rfl) ?_
        refine zr_getF (r := 85) (hf.w hW) (pc := 22) f_M_26 rfl (zh_85 (hf.w hW)).1 (zdal_p dlC_M_isBehind_25 (i := 15) rfl) ?_
        refine zw_bipush (pc := 25) (v := Int32.ofInt 6) (by decide) (zdal_p dlC_M_isBehind_25 (i := 16) rfl) ?_
        refine zw_iload_n (pc := 27) (n := 2) (x := Int32.ofInt a1_) rfl (zdal_p dlC_M_isBehind_25 (i := 17) rfl) ?_
        refine zr_imul (pc := 28) (zdal_p dlC_M_isBehind_25 (i := 18) rfl) ?_
        refine zw_iload_n (pc := 29) (n := 3) (x := Int32.ofInt u1_) rfl (zdal_p dlC_M_isBehind_25 (i := 19) rfl) ?_
        refine zr_iadd (pc := 30) (zdal_p dlC_M_isBehind_25 (i := 20) rfl) ?_
        refine zr_ialdn (pc := 31) (zh_85 (hf.w hW)).2 (by decide) (by omega) (by omega) (zdal_p dlC_M_isBehind_25 (i := 21) rfl) (fun v7_ hv7_ hv7_a hv7_b => ?_)
        have hr8_ := p8_.g (e := (6 * a1_) + u1_) (by omega) (by omega)
        rw [← hv7_] at hr8_
        refine zr_icmp_eq (pc := 32) (tgt := 66) ⟨hv5_a, hv5_b⟩ ⟨hv7_a, hv7_b⟩ (by decide) (zdal_p dlC_M_isBehind_25 (i := 22) rfl) (fun hc_32 => ?_) (fun hc_32 => ?_)
        · skip
          have hu_ : ze Mz 85 (6 * (a0_).toNat + (u1_).toNat) = ze Mz 85 (6 * (a1_).toNat + (u1_).toNat) := by rw [show 6 * (a0_).toNat + (u1_).toNat = (6 * a0_ + u1_).toNat by omega, show 6 * (a1_).toNat + (u1_).toNat = (6 * a1_ + u1_).toNat by omega]; omega
          refine zr_iinc (pc := 66) (i := 3) (a := u1_) (n := 1) (L2 := [some (.ref 81), some (.int (Int32.ofInt a0_)), some (.int (Int32.ofInt a1_)), some (.int (Int32.ofInt (u1_ + 1)))]) rfl (by decide) rfl (zdal_p dlC_M_isBehind_26 (i := 20) rfl) ?_
          refine zw_goto (pc := 69) (tgt := 2) (by decide) (zdal_p dlC_M_isBehind_26 (i := 21) rfl) ?_
          exact ih_2 (u1_ + 1) (by omega) (by omega) (show 0 ≤ (u1_ + 1) by first | assumption | omega) (show (u1_ + 1) ≤ ze Mz 81 12 by first | assumption | omega) (show ∀ q : Nat, (q : Int) < (u1_ + 1) → ze Mz 85 (6 * (a0_).toNat + q) = ze Mz 85 (6 * (a1_).toNat + q) by exact zall_s (by omega) (by assumption) hu_) (by omega)
        · skip
          refine zw_aload_n (pc := 35) (n := 0) (x := 81) rfl (zdal_p dlC_M_isBehind_25 (i := 23) rfl) ?_
          refine zr_getF (r := 85) (hf.w hW) (pc := 36) f_M_26 rfl (zh_85 (hf.w hW)).1 (zdal_p dlC_M_isBehind_26 (i := 0) rfl) ?_
          refine zw_bipush (pc := 39) (v := Int32.ofInt 6) (by decide) (zdal_p dlC_M_isBehind_26 (i := 1) rfl) ?_
          refine zw_iload_n (pc := 41) (n := 1) (x := Int32.ofInt a0_) rfl (zdal_p dlC_M_isBehind_26 (i := 2) rfl) ?_
          refine zr_imul (pc := 42) (zdal_p dlC_M_isBehind_26 (i := 3) rfl) ?_
          refine zw_iload_n (pc := 43) (n := 3) (x := Int32.ofInt u1_) rfl (zdal_p dlC_M_isBehind_26 (i := 4) rfl) ?_
          refine zr_iadd (pc := 44) (zdal_p dlC_M_isBehind_26 (i := 5) rfl) ?_
          refine zr_ialdn (pc := 45) (zh_85 (hf.w hW)).2 (by decide) (by omega) (by omega) (zdal_p dlC_M_isBehind_26 (i := 6) rfl) (fun v9_ hv9_ hv9_a hv9_b => ?_)
          have hr10_ := p8_.g (e := (6 * a0_) + u1_) (by omega) (by omega)
          rw [← hv9_] at hr10_
          refine zw_aload_n (pc := 46) (n := 0) (x := 81) rfl (zdal_p dlC_M_isBehind_26 (i := 7) rfl) ?_
          refine zr_getF (r := 85) (hf.w hW) (pc := 47) f_M_26 rfl (zh_85 (hf.w hW)).1 (zdal_p dlC_M_isBehind_26 (i := 8) rfl) ?_
          refine zw_bipush (pc := 50) (v := Int32.ofInt 6) (by decide) (zdal_p dlC_M_isBehind_26 (i := 9) rfl) ?_
          refine zw_iload_n (pc := 52) (n := 2) (x := Int32.ofInt a1_) rfl (zdal_p dlC_M_isBehind_26 (i := 10) rfl) ?_
          refine zr_imul (pc := 53) (zdal_p dlC_M_isBehind_26 (i := 11) rfl) ?_
          refine zw_iload_n (pc := 54) (n := 3) (x := Int32.ofInt u1_) rfl (zdal_p dlC_M_isBehind_26 (i := 12) rfl) ?_
          refine zr_iadd (pc := 55) (zdal_p dlC_M_isBehind_26 (i := 13) rfl) ?_
          refine zr_ialdn (pc := 56) (zh_85 (hf.w hW)).2 (by decide) (by omega) (by omega) (zdal_p dlC_M_isBehind_26 (i := 14) rfl) (fun v11_ hv11_ hv11_a hv11_b => ?_)
          have hr12_ := p8_.g (e := (6 * a1_) + u1_) (by omega) (by omega)
          rw [← hv11_] at hr12_
          refine zr_icmp_le (pc := 57) (tgt := 64) ⟨hv9_a, hv9_b⟩ ⟨hv11_a, hv11_b⟩ (by decide) (zdal_p dlC_M_isBehind_26 (i := 15) rfl) (fun hc_57 => ?_) (fun hc_57 => ?_)
          · skip
            have hlt_ : ze Mz 85 (6 * (a0_).toNat + (u1_).toNat) < ze Mz 85 (6 * (a1_).toNat + (u1_).toNat) := by rw [show 6 * (a0_).toNat + (u1_).toNat = (6 * a0_ + u1_).toNat by omega, show 6 * (a1_).toNat + (u1_).toNat = (6 * a1_ + u1_).toNat by omega]; omega
            refine zw_iconst (pc := 64) (v := Int32.ofInt 0) (by decide) (zdal_p dlC_M_isBehind_26 (i := 18) rfl) ?_
            exact zr_iret (pc := 65) (ty := .boolean) rfl (z_narB (by omega)) ⟨by omega, by omega⟩ hf (show ((0 = 1 ∧ zrc Mz 85 (a1_).toNat pP_ < zrc Mz 85 (a0_).toNat pP_) ∨ (0 = 0 ∧ zrc Mz 85 (a0_).toNat pP_ ≤ zrc Mz 85 (a1_).toNat pP_)) from Or.inr (⟨(show 0 = 0 by first | (rw [← p4_]; exact Nat.le_of_lt (zrc_b (a := (a1_).toNat) (b := (a0_).toNat) (by omega) (zB85 p8_ (by omega) (by omega)) (zB85 p8_ (by omega) (by omega)) (p := (u1_).toNat) (by omega) (fun r hr => ((show ∀ q : Nat, (q : Int) < u1_ → ze Mz 85 (6 * (a0_).toNat + q) = ze Mz 85 (6 * (a1_).toNat + q) by assumption) r (by omega)).symm) hlt_)) | omega), (show zrc Mz 85 (a0_).toNat pP_ ≤ zrc Mz 85 (a1_).toNat pP_ by first | (rw [← p4_]; exact Nat.le_of_lt (zrc_b (a := (a1_).toNat) (b := (a0_).toNat) (by omega) (zB85 p8_ (by omega) (by omega)) (zB85 p8_ (by omega) (by omega)) (p := (u1_).toNat) (by omega) (fun r hr => ((show ∀ q : Nat, (q : Int) < u1_ → ze Mz 85 (6 * (a0_).toNat + q) = ze Mz 85 (6 * (a1_).toNat + q) by assumption) r (by omega)).symm) hlt_)) | omega)⟩)) (zdal_p dlC_M_isBehind_26 (i := 19) rfl)
          · skip
            have hlt_ : ze Mz 85 (6 * (a1_).toNat + (u1_).toNat) < ze Mz 85 (6 * (a0_).toNat + (u1_).toNat) := by rw [show 6 * (a0_).toNat + (u1_).toNat = (6 * a0_ + u1_).toNat by omega, show 6 * (a1_).toNat + (u1_).toNat = (6 * a1_ + u1_).toNat by omega]; omega
            refine zw_iconst (pc := 60) (v := Int32.ofInt 1) (by decide) (zdal_p dlC_M_isBehind_26 (i := 16) rfl) ?_
            refine zw_goto (pc := 61) (tgt := 65) (by decide) (zdal_p dlC_M_isBehind_26 (i := 17) rfl) ?_
            exact zr_iret (pc := 65) (ty := .boolean) rfl (z_narB (by omega)) ⟨by omega, by omega⟩ hf (show ((1 = 1 ∧ zrc Mz 85 (a1_).toNat pP_ < zrc Mz 85 (a0_).toNat pP_) ∨ (1 = 0 ∧ zrc Mz 85 (a0_).toNat pP_ ≤ zrc Mz 85 (a1_).toNat pP_)) from Or.inl (⟨(show 1 = 1 by first | (rw [← p4_]; exact zrc_b (a := (a0_).toNat) (b := (a1_).toNat) (by omega) (zB85 p8_ (by omega) (by omega)) (zB85 p8_ (by omega) (by omega)) (p := (u1_).toNat) (by omega) (fun r hr => ((show ∀ q : Nat, (q : Int) < u1_ → ze Mz 85 (6 * (a0_).toNat + q) = ze Mz 85 (6 * (a1_).toNat + q) by assumption) r (by omega))) hlt_) | omega), (show zrc Mz 85 (a1_).toNat pP_ < zrc Mz 85 (a0_).toNat pP_ by first | (rw [← p4_]; exact zrc_b (a := (a0_).toNat) (b := (a1_).toNat) (by omega) (zB85 p8_ (by omega) (by omega)) (zB85 p8_ (by omega) (by omega)) (p := (u1_).toNat) (by omega) (fun r hr => ((show ∀ q : Nat, (q : Int) < u1_ → ze Mz 85 (6 * (a0_).toNat + q) = ze Mz 85 (6 * (a1_).toNat + q) by assumption) r (by omega))) hlt_) | omega)⟩)) (zdal_p dlC_M_isBehind_26 (i := 19) rfl)
  exact lp_2 _ 0 (by decide) (by decide) (show 0 ≤ (0 : Int) by first | assumption | omega) (show (0 : Int) ≤ ze Mz 81 12 by first | assumption | omega) (show ∀ q : Nat, (q : Int) < (0 : Int) → ze Mz 85 (6 * (a0_).toNat + q) = ze Mz 85 (6 * (a1_).toNat + q) by exact zall_0) (Nat.lt_succ_self _)
set_option maxHeartbeats 4000000 in
theorem c_M_exchanges (l : Launch) (Mz : zMem) (hW : zMt Mz) (a0_ : Int) (ha0_a : -2147483648 ≤ a0_) (ha0_b : a0_ < 2147483648) (a1_ : Int) (ha1_a : -2147483648 ≤ a1_) (ha1_b : a1_ < 2147483648) (p0_ : 0 ≤ a0_) (p1_ : a0_ < a1_) (p2_ : a1_ ≤ 23) (p3_ : zB 85 144 0 5 Mz) : zC l m_M_exchanges 0 0 [.ref 81, .int (Int32.ofInt a0_), .int (Int32.ofInt a1_)] Mz (zpV [] [85] Mz (fun N => zEx Mz N a0_ a1_ ∧ zB 85 144 0 5 N)) := by
  refine zC_of (L0 := [some (.ref 81), some (.int (Int32.ofInt a0_)), some (.int (Int32.ofInt a1_)), none, none]) md_M_exchanges (Nat.le_of_ble_eq_true rfl) rfl ?_ zQ0
  have hf : zFr [] [85] Mz Mz := zFr.rf
  refine zw_iconst (pc := 0) (v := Int32.ofInt 0) (by decide) (zdal_p dlC_M_exchanges_27 (i := 0) rfl) ?_
  refine zw_istore_n (pc := 1) (i := 3) (L2 := [some (.ref 81), some (.int (Int32.ofInt a0_)), some (.int (Int32.ofInt a1_)), some (.int (Int32.ofInt 0)), none]) rfl (by decide) rfl (zdal_p dlC_M_exchanges_27 (i := 1) rfl) ?_
  have lp_2 : ∀ (n : Nat) (u1_ : Int) (hu1_a : -2147483648 ≤ u1_) (hu1_b : u1_ < 2147483648) (N2_ : zMem) (hs3_ : zFr [] [85] Mz N2_) (i4_ : 0 ≤ u1_) (i5_ : u1_ ≤ 6) (i6_ : zExn Mz N2_ a0_ a1_ u1_) (i7_ : zB 85 144 0 5 N2_), (6 - u1_).toNat < n → zW l m_M_exchanges (zn Mz + 0, zw Mz + 0) N2_ 2 [some (.ref 81), some (.int (Int32.ofInt a0_)), some (.int (Int32.ofInt a1_)), some (.int (Int32.ofInt u1_)), none] [] (zpV [] [85] Mz (fun N => zEx Mz N a0_ a1_ ∧ zB 85 144 0 5 N)) := by
    intro n
    induction n with
    | zero =>
      intro u1_ hu1_a hu1_b N2_ hs3_ i4_ i5_ i6_ i7_ h0
      exact absurd h0 (Nat.not_lt_zero _)
    | succ n ih_2 =>
      intro u1_ hu1_a hu1_b N2_ hs3_ i4_ i5_ i6_ i7_ hlt_2
      have hf_N2_ : zFr [] [85] Mz N2_ := hf.tr hs3_ (by decide) (by decide)
      refine zw_iload_n (pc := 2) (n := 3) (x := Int32.ofInt u1_) rfl (zdal_p dlC_M_exchanges_27 (i := 2) rfl) ?_
      refine zw_bipush (pc := 3) (v := Int32.ofInt 6) (by decide) (zdal_p dlC_M_exchanges_27 (i := 3) rfl) ?_
      refine zr_icmp_ge (pc := 5) (tgt := 62) ⟨hu1_a, hu1_b⟩ ⟨(by decide), (by decide)⟩ (by decide) (zdal_p dlC_M_exchanges_27 (i := 4) rfl) (fun hc_5 => ?_) (fun hc_5 => ?_)
      · skip
        exact zr_vret (pc := 62) rfl hf_N2_ ⟨(show zEx Mz N2_ a0_ a1_ by exact zExn_e (show zExn Mz N2_ a0_ a1_ u1_ by assumption) (by omega)), i7_⟩ (zdal_p dlC_M_exchanges_28 (i := 17) rfl)
      · skip
        refine zw_aload_n (pc := 8) (n := 0) (x := 81) rfl (zdal_p dlC_M_exchanges_27 (i := 5) rfl) ?_
        refine zr_getF (r := 85) (hf_N2_.w hW) (pc := 9) f_M_26 rfl (zh_85 (hf_N2_.w hW)).1 (zdal_p dlC_M_exchanges_27 (i := 6) rfl) ?_
        refine zw_bipush (pc := 12) (v := Int32.ofInt 6) (by decide) (zdal_p dlC_M_exchanges_27 (i := 7) rfl) ?_
        refine zw_iload_n (pc := 14) (n := 1) (x := Int32.ofInt a0_) rfl (zdal_p dlC_M_exchanges_27 (i := 8) rfl) ?_
        refine zr_imul (pc := 15) (zdal_p dlC_M_exchanges_27 (i := 9) rfl) ?_
        refine zw_iload_n (pc := 16) (n := 3) (x := Int32.ofInt u1_) rfl (zdal_p dlC_M_exchanges_27 (i := 10) rfl) ?_
        refine zr_iadd (pc := 17) (zdal_p dlC_M_exchanges_27 (i := 11) rfl) ?_
        refine zr_ialdn (pc := 18) (zh_85 (hf_N2_.w hW)).2 (by decide) (by omega) (by omega) (zdal_p dlC_M_exchanges_27 (i := 12) rfl) (fun v8_ hv8_ hv8_a hv8_b => ?_)
        have hr9_ := i7_.g (e := (6 * a0_) + u1_) (by omega) (by omega)
        rw [← hv8_] at hr9_
        refine zw_istore (pc := 19) (i := 4) (L2 := [some (.ref 81), some (.int (Int32.ofInt a0_)), some (.int (Int32.ofInt a1_)), some (.int (Int32.ofInt u1_)), some (.int (Int32.ofInt v8_))]) (by decide) rfl (zdal_p dlC_M_exchanges_27 (i := 13) rfl) ?_
        refine zw_aload_n (pc := 21) (n := 0) (x := 81) rfl (zdal_p dlC_M_exchanges_27 (i := 14) rfl) ?_
        refine zr_getF (r := 85) (hf_N2_.w hW) (pc := 22) f_M_26 rfl (zh_85 (hf_N2_.w hW)).1 (zdal_p dlC_M_exchanges_27 (i := 15) rfl) ?_
        refine zw_bipush (pc := 25) (v := Int32.ofInt 6) (by decide) (zdal_p dlC_M_exchanges_27 (i := 16) rfl) ?_
        refine zw_iload_n (pc := 27) (n := 1) (x := Int32.ofInt a0_) rfl (zdal_p dlC_M_exchanges_27 (i := 17) rfl) ?_
        refine zr_imul (pc := 28) (zdal_p dlC_M_exchanges_27 (i := 18) rfl) ?_
        refine zw_iload_n (pc := 29) (n := 3) (x := Int32.ofInt u1_) rfl (zdal_p dlC_M_exchanges_27 (i := 19) rfl) ?_
        refine zr_iadd (pc := 30) (zdal_p dlC_M_exchanges_27 (i := 20) rfl) ?_
        refine zw_aload_n (pc := 31) (n := 0) (x := 81) rfl (zdal_p dlC_M_exchanges_27 (i := 21) rfl) ?_
        refine zr_getF (r := 85) (hf_N2_.w hW) (pc := 32) f_M_26 rfl (zh_85 (hf_N2_.w hW)).1 (zdal_p dlC_M_exchanges_27 (i := 22) rfl) ?_
        refine zw_bipush (pc := 35) (v := Int32.ofInt 6) (by decide) (zdal_p dlC_M_exchanges_27 (i := 23) rfl) ?_
        refine zw_iload_n (pc := 37) (n := 2) (x := Int32.ofInt a1_) rfl (zdal_p dlC_M_exchanges_28 (i := 0) rfl) ?_
        refine zr_imul (pc := 38) (zdal_p dlC_M_exchanges_28 (i := 1) rfl) ?_
        refine zw_iload_n (pc := 39) (n := 3) (x := Int32.ofInt u1_) rfl (zdal_p dlC_M_exchanges_28 (i := 2) rfl) ?_
        refine zr_iadd (pc := 40) (zdal_p dlC_M_exchanges_28 (i := 3) rfl) ?_
        refine zr_ialdn (pc := 41) (zh_85 (hf_N2_.w hW)).2 (by decide) (by omega) (by omega) (zdal_p dlC_M_exchanges_28 (i := 4) rfl) (fun v10_ hv10_ hv10_a hv10_b => ?_)
        have hr11_ := i7_.g (e := (6 * a1_) + u1_) (by omega) (by omega)
        rw [← hv10_] at hr11_
        refine zr_iast (pc := 42) (zh_85 (hf_N2_.w hW)).2 (by decide) (by decide) (by omega) (by omega) (zdal_p dlC_M_exchanges_28 (i := 5) rfl) (fun N12_ hN12_ hsN12_ => ?_)
        have hf_N12_ : zFr [] [85] Mz N12_ := hf_N2_.tr hsN12_ (by decide) (by decide)
        have hb0_N12_ : zFr [] [85] Mz N12_ := hs3_.tr hsN12_ (by decide) (by decide)
        have c13_ : zB 85 144 0 5 N12_ := zB.s i7_ hN12_ (by omega) (by omega) (by decide) (by decide)
        refine zw_aload_n (pc := 43) (n := 0) (x := 81) rfl (zdal_p dlC_M_exchanges_28 (i := 6) rfl) ?_
        refine zr_getF (r := 85) (hf_N12_.w hW) (pc := 44) f_M_26 rfl (zh_85 (hf_N12_.w hW)).1 (zdal_p dlC_M_exchanges_28 (i := 7) rfl) ?_
        refine zw_bipush (pc := 47) (v := Int32.ofInt 6) (by decide) (zdal_p dlC_M_exchanges_28 (i := 8) rfl) ?_
        refine zw_iload_n (pc := 49) (n := 2) (x := Int32.ofInt a1_) rfl (zdal_p dlC_M_exchanges_28 (i := 9) rfl) ?_
        refine zr_imul (pc := 50) (zdal_p dlC_M_exchanges_28 (i := 10) rfl) ?_
        refine zw_iload_n (pc := 51) (n := 3) (x := Int32.ofInt u1_) rfl (zdal_p dlC_M_exchanges_28 (i := 11) rfl) ?_
        refine zr_iadd (pc := 52) (zdal_p dlC_M_exchanges_28 (i := 12) rfl) ?_
        refine zw_iload (pc := 53) (i := 4) (x := Int32.ofInt v8_) rfl (zdal_p dlC_M_exchanges_28 (i := 13) rfl) ?_
        refine zr_iast (pc := 55) (zh_85 (hf_N12_.w hW)).2 (by decide) (by decide) (by omega) (by omega) (zdal_p dlC_M_exchanges_28 (i := 14) rfl) (fun N14_ hN14_ hsN14_ => ?_)
        have hf_N14_ : zFr [] [85] Mz N14_ := hf_N12_.tr hsN14_ (by decide) (by decide)
        have hb0_N14_ : zFr [] [85] Mz N14_ := hb0_N12_.tr hsN14_ (by decide) (by decide)
        have c15_ : zB 85 144 0 5 N14_ := zB.s c13_ hN14_ (by omega) (by omega) (by decide) (by decide)
        have hX_ := zExn_s (by omega) (by omega) (by omega) (by omega) (by omega) (show zExn Mz N2_ a0_ a1_ u1_ by assumption) (by assumption) (by assumption) hN12_ hN14_
        refine zr_iinc (pc := 56) (i := 3) (a := u1_) (n := 1) (L2 := [some (.ref 81), some (.int (Int32.ofInt a0_)), some (.int (Int32.ofInt a1_)), some (.int (Int32.ofInt (u1_ + 1))), some (.int (Int32.ofInt v8_))]) rfl (by decide) rfl (zdal_p dlC_M_exchanges_28 (i := 15) rfl) ?_
        refine zw_goto (pc := 59) (tgt := 2) (by decide) (zdal_p dlC_M_exchanges_28 (i := 16) rfl) ?_
        refine zW_le [some (.ref 81), some (.int (Int32.ofInt a0_)), some (.int (Int32.ofInt a1_)), some (.int (Int32.ofInt (u1_ + 1))), none] (⟨rfl, rfl, rfl, rfl, trivial⟩) ?_
        exact ih_2 (u1_ + 1) (by omega) (by omega) N14_ hb0_N14_ (show 0 ≤ (u1_ + 1) by first | assumption | omega) (show (u1_ + 1) ≤ 6 by first | assumption | omega) (show zExn Mz N14_ a0_ a1_ (u1_ + 1) by exact hX_) c15_ (by omega)
  exact lp_2 _ 0 (by decide) (by decide) Mz zFr.rf (show 0 ≤ (0 : Int) by first | assumption | omega) (show (0 : Int) ≤ 6 by first | assumption | omega) (show zExn Mz Mz a0_ a1_ (0 : Int) by exact zExn_0) p3_ (Nat.lt_succ_self _)
