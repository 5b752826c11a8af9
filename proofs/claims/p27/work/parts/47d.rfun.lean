set_option maxHeartbeats 4000000 in
theorem c_M_markAt_95F (l : Launch) (Mz : zMem) (hW : zMt Mz) (a1_ : Int) (ha1_a : -2147483648 ≤ a1_) (ha1_b : a1_ < 2147483648) (a2_ : Int) (ha2_a : -2147483648 ≤ a2_) (ha2_b : a2_ < 2147483648) (F_ : Nat) (K_ : Nat → Nat → Int) (hA_ : zTA F_ K_) (p0_ : zRmk F_ K_ Mz) (p1_ : 0 ≤ a1_) (p2_ : a1_ ≤ 2496) (p3_ : 0 ≤ a2_) (p4_ : a2_ < F_) : zC l m_M_markAt 0 0 [.ref 81, .ref 95, .int (Int32.ofInt a1_), .int (Int32.ofInt a2_)] Mz (zpJ [] [] Mz (fun v N => Int64.ofInt v = Int64.ofInt (zmq F_ K_ (zrw F_ Mz 95 a1_) (a2_).toNat))) := by
  refine zC_of (L0 := [some (.ref 81), some (.ref 95), some (.int (Int32.ofInt a1_)), some (.int (Int32.ofInt a2_)), none, none, none]) md_M_markAt (Nat.le_of_ble_eq_true rfl) rfl ?_ zQ0
  have hf : zFr [] [] Mz Mz := zFr.rf
  have r_26 := ze_r Mz 81 26
  obtain ⟨⟨hF1_, hF27_⟩, hAr_⟩ := id hA_
  obtain ⟨hFc_, hKt_⟩ := id p0_
  refine zw_lconst (pc := 0) (v := Int64.ofInt 0) (by decide) (zdal_p dlC_M_markAt_114 (i := 0) rfl) ?_
  refine zw_lstore (pc := 1) (i := 4) (L2 := [some (.ref 81), some (.ref 95), some (.int (Int32.ofInt a1_)), some (.int (Int32.ofInt a2_)), some (.long (Int64.ofInt 0)), none, none]) (by decide) rfl (zdal_p dlC_M_markAt_114 (i := 1) rfl) ?_
  refine zw_iconst (pc := 3) (v := Int32.ofInt 0) (by decide) (zdal_p dlC_M_markAt_114 (i := 2) rfl) ?_
  refine zw_istore (pc := 4) (i := 6) (L2 := [some (.ref 81), some (.ref 95), some (.int (Int32.ofInt a1_)), some (.int (Int32.ofInt a2_)), some (.long (Int64.ofInt 0)), none, some (.int (Int32.ofInt 0))]) (by decide) rfl (zdal_p dlC_M_markAt_114 (i := 3) rfl) ?_
  have lp_6 : ∀ (n : Nat) (u1_ : Int) (hu1_a : -9223372036854775808 ≤ u1_) (hu1_b : u1_ < 9223372036854775808) (u2_ : Int) (hu2_a : -2147483648 ≤ u2_) (hu2_b : u2_ < 2147483648) (i3_ : 0 ≤ u2_) (i4_ : u2_ ≤ F_) (i5_ : Int64.ofInt u1_ = Int64.ofInt (zsm (fun i => (zrw F_ Mz 95 a1_) i * K_ i (a2_).toNat) (u2_).toNat)), (F_ - u2_).toNat < n → zW l m_M_markAt (zn Mz + 0, zw Mz + 0) Mz 6 [some (.ref 81), some (.ref 95), some (.int (Int32.ofInt a1_)), some (.int (Int32.ofInt a2_)), some (.long (Int64.ofInt u1_)), none, some (.int (Int32.ofInt u2_))] [] (zpJ [] [] Mz (fun v N => Int64.ofInt v = Int64.ofInt (zmq F_ K_ (zrw F_ Mz 95 a1_) (a2_).toNat))) := by
    intro n
    induction n with
    | zero =>
      intro u1_ hu1_a hu1_b u2_ hu2_a hu2_b i3_ i4_ i5_ h0
      exact absurd h0 (Nat.not_lt_zero _)
    | succ n ih_6 =>
      intro u1_ hu1_a hu1_b u2_ hu2_a hu2_b i3_ i4_ i5_ hlt_6
      refine zw_iload (pc := 6) (i := 6) (x := Int32.ofInt u2_) rfl (zdal_p dlC_M_markAt_114 (i := 4) rfl) ?_
      refine zw_aload_n (pc := 8) (n := 0) (x := 81) rfl (zdal_p dlC_M_markAt_114 (i := 5) rfl) ?_
      refine zr_getI0 hf hW (pc := 9) (by decide) f_M_235 rfl (zdal_p dlC_M_markAt_114 (i := 6) rfl) ?_
      refine zr_icmp_ge (pc := 12) (tgt := 46) ⟨hu2_a, hu2_b⟩ ⟨(ze_r Mz 81 26).1, (ze_r Mz 81 26).2⟩ (by decide) (zdal_p dlC_M_markAt_114 (i := 7) rfl) (fun hc_12 => ?_) (fun hc_12 => ?_)
      · skip
        refine zw_lload (pc := 46) (i := 4) (x := Int64.ofInt u1_) rfl (zdal_p dlC_M_markAt_115 (i := 4) rfl) ?_
        exact zr_lret (pc := 48) rfl ⟨by omega, by omega⟩ hf (show Int64.ofInt u1_ = Int64.ofInt (zmq F_ K_ (zrw F_ Mz 95 a1_) (a2_).toNat) by have e_ : (u2_).toNat = F_ := (by omega); have h_ := (show Int64.ofInt u1_ = Int64.ofInt (zsm (fun i => (zrw F_ Mz 95 a1_) i * K_ i (a2_).toNat) (u2_).toNat) by assumption); rw [e_] at h_; exact h_) (zdal_p dlC_M_markAt_115 (i := 5) rfl)
      · skip
        refine zw_lload (pc := 15) (i := 4) (x := Int64.ofInt u1_) rfl (zdal_p dlC_M_markAt_114 (i := 8) rfl) ?_
        refine zw_aload_n (pc := 17) (n := 1) (x := 95) rfl (zdal_p dlC_M_markAt_114 (i := 9) rfl) ?_
        refine zw_iload_n (pc := 18) (n := 2) (x := Int32.ofInt a1_) rfl (zdal_p dlC_M_markAt_114 (i := 10) rfl) ?_
        refine zw_iload (pc := 19) (i := 6) (x := Int32.ofInt u2_) rfl (zdal_p dlC_M_markAt_114 (i := 11) rfl) ?_
        refine zr_iadd (pc := 21) (zdal_p dlC_M_markAt_114 (i := 12) rfl) ?_
        refine zr_laldn (pc := 22) (zh_95 (hf.w hW)).2 (by decide) (by omega) (by omega) (zdal_p dlC_M_markAt_114 (i := 13) rfl) (fun v6_ hv6_ hv6_a hv6_b => ?_)
        have hx_ := zrw_at (F := F_) (k := (u2_).toNat) (e := a1_) (by omega) (by omega) hv6_ (by omega)
        refine zw_aload_n (pc := 23) (n := 0) (x := 81) rfl (zdal_p dlC_M_markAt_114 (i := 14) rfl) ?_
        refine zr_getF (r := 93) (hf.w hW) (pc := 24) f_M_50 rfl (zh_93 (hf.w hW)).1 (zdal_p dlC_M_markAt_114 (i := 15) rfl) ?_
        refine zw_bipush (pc := 27) (v := Int32.ofInt 64) (by decide) (zdal_p dlC_M_markAt_114 (i := 16) rfl) ?_
        refine zw_iload (pc := 29) (i := 6) (x := Int32.ofInt u2_) rfl (zdal_p dlC_M_markAt_114 (i := 17) rfl) ?_
        refine zr_imul (pc := 31) (zdal_p dlC_M_markAt_114 (i := 18) rfl) ?_
        refine zw_iload_n (pc := 32) (n := 3) (x := Int32.ofInt a2_) rfl (zdal_p dlC_M_markAt_114 (i := 19) rfl) ?_
        refine zr_iadd (pc := 33) (zdal_p dlC_M_markAt_114 (i := 20) rfl) ?_
        refine zr_ialdn (pc := 34) (zh_93 (hf.w hW)).2 (by decide) (by omega) (by omega) (zdal_p dlC_M_markAt_114 (i := 21) rfl) (fun v7_ hv7_ hv7_a hv7_b => ?_)
        have hy_ := p0_.k (by omega) (by omega) (by omega) (by omega) hv7_
        refine zr_i2l (pc := 35) ⟨hv7_a, hv7_b⟩ (zdal_p dlC_M_markAt_114 (i := 22) rfl) ?_
        refine zr_lmul (pc := 36) (zdal_p dlC_M_markAt_114 (i := 23) rfl) ?_
        refine zr_ladd (pc := 37) (zdal_p dlC_M_markAt_115 (i := 0) rfl) ?_
        refine zk_nmJ (fun v8_ hv8_ hv8_e => ?_)
        obtain ⟨hv8_a, hv8_b⟩ := hv8_
        have hz_ := zmq_s (show Int64.ofInt u1_ = Int64.ofInt (zsm (fun i => (zrw F_ Mz 95 a1_) i * K_ i (a2_).toNat) (u2_).toNat) by assumption) hv8_e (by omega) (by show _ * _ = _; rw [← hx_, ← hy_])
        refine zw_lstore (pc := 38) (i := 4) (L2 := [some (.ref 81), some (.ref 95), some (.int (Int32.ofInt a1_)), some (.int (Int32.ofInt a2_)), some (.long (Int64.ofInt v8_)), none, some (.int (Int32.ofInt u2_))]) (by decide) rfl (zdal_p dlC_M_markAt_115 (i := 1) rfl) ?_
        refine zr_iinc (pc := 40) (i := 6) (a := u2_) (n := 1) (L2 := [some (.ref 81), some (.ref 95), some (.int (Int32.ofInt a1_)), some (.int (Int32.ofInt a2_)), some (.long (Int64.ofInt v8_)), none, some (.int (Int32.ofInt (u2_ + 1)))]) rfl (by decide) rfl (zdal_p dlC_M_markAt_115 (i := 2) rfl) ?_
        refine zw_goto (pc := 43) (tgt := 6) (by decide) (zdal_p dlC_M_markAt_115 (i := 3) rfl) ?_
        exact ih_6 v8_ hv8_a hv8_b (u2_ + 1) (by omega) (by omega) (show 0 ≤ (u2_ + 1) by first | assumption | omega) (show (u2_ + 1) ≤ F_ by first | assumption | omega) (show Int64.ofInt v8_ = Int64.ofInt (zsm (fun i => (zrw F_ Mz 95 a1_) i * K_ i (a2_).toNat) ((u2_ + 1)).toNat) by exact hz_) (by omega)
  exact lp_6 _ 0 (by decide) (by decide) 0 (by decide) (by decide) (show 0 ≤ (0 : Int) by first | assumption | omega) (show (0 : Int) ≤ F_ by first | assumption | omega) (show Int64.ofInt (0 : Int) = Int64.ofInt (zsm (fun i => (zrw F_ Mz 95 a1_) i * K_ i (a2_).toNat) ((0 : Int)).toNat) by rfl) (Nat.lt_succ_self _)
set_option maxHeartbeats 4000000 in
theorem c_M_isFit_95F (l : Launch) (Mz : zMem) (hW : zMt Mz) (a1_ : Int) (ha1_a : -2147483648 ≤ a1_) (ha1_b : a1_ < 2147483648) (F_ : Nat) (K_ : Nat → Nat → Int) (hA_ : zTA F_ K_) (p0_ : zRmk F_ K_ Mz) (p1_ : 0 ≤ a1_) (p2_ : a1_ ≤ 2496) : zC l m_M_isFit 0 0 [.ref 81, .ref 95, .int (Int32.ofInt a1_)] Mz (zpI [] [] Mz (fun v N => ((v = 0 ∨ v = 1)) ∧ zIsF F_ K_ (zrw F_ Mz 95 a1_) v)) := by
  refine zC_of (L0 := [some (.ref 81), some (.ref 95), some (.int (Int32.ofInt a1_)), none, none]) md_M_isFit (Nat.le_of_ble_eq_true rfl) rfl ?_ zQ0
  have hf : zFr [] [] Mz Mz := zFr.rf
  have r_26 := ze_r Mz 81 26
  obtain ⟨⟨hF1_, hF27_⟩, hAr_⟩ := id hA_
  obtain ⟨hFc_, hKt_⟩ := id p0_
  refine zw_iconst (pc := 0) (v := Int32.ofInt 1) (by decide) (zdal_p dlC_M_isFit_112 (i := 0) rfl) ?_
  refine zw_istore_n (pc := 1) (i := 3) (L2 := [some (.ref 81), some (.ref 95), some (.int (Int32.ofInt a1_)), some (.int (Int32.ofInt 1)), none]) rfl (by decide) rfl (zdal_p dlC_M_isFit_112 (i := 1) rfl) ?_
  refine zw_iconst (pc := 2) (v := Int32.ofInt 0) (by decide) (zdal_p dlC_M_isFit_112 (i := 2) rfl) ?_
  refine zw_istore (pc := 3) (i := 4) (L2 := [some (.ref 81), some (.ref 95), some (.int (Int32.ofInt a1_)), some (.int (Int32.ofInt 1)), some (.int (Int32.ofInt 0))]) (by decide) rfl (zdal_p dlC_M_isFit_112 (i := 3) rfl) ?_
  have lp_5 : ∀ (n : Nat) (u1_ : Int) (hu1_a : -2147483648 ≤ u1_) (hu1_b : u1_ < 2147483648) (hu1_z : u1_ = 0 ∨ u1_ = 1) (u2_ : Int) (hu2_a : -2147483648 ≤ u2_) (hu2_b : u2_ < 2147483648) (i3_ : 0 ≤ u2_) (i4_ : u2_ ≤ F_) (i5_ : zIsA F_ (zrw F_ Mz 95 a1_) u1_ u2_), (F_ - u2_).toNat < n → zW l m_M_isFit (zn Mz + 0, zw Mz + 0) Mz 5 [some (.ref 81), some (.ref 95), some (.int (Int32.ofInt a1_)), some (.int (Int32.ofInt u1_)), some (.int (Int32.ofInt u2_))] [] (zpI [] [] Mz (fun v N => ((v = 0 ∨ v = 1)) ∧ zIsF F_ K_ (zrw F_ Mz 95 a1_) v)) := by
    intro n
    induction n with
    | zero =>
      intro u1_ hu1_a hu1_b hu1_z u2_ hu2_a hu2_b i3_ i4_ i5_ h0
      exact absurd h0 (Nat.not_lt_zero _)
    | succ n ih_5 =>
      intro u1_ hu1_a hu1_b hu1_z u2_ hu2_a hu2_b i3_ i4_ i5_ hlt_5
      have hia_ := (show zIsA F_ (zrw F_ Mz 95 a1_) u1_ u2_ by assumption)
      refine zw_iload (pc := 5) (i := 4) (x := Int32.ofInt u2_) rfl (zdal_p dlC_M_isFit_112 (i := 4) rfl) ?_
      refine zw_aload_n (pc := 7) (n := 0) (x := 81) rfl (zdal_p dlC_M_isFit_112 (i := 5) rfl) ?_
      refine zr_getI0 hf hW (pc := 8) (by decide) f_M_235 rfl (zdal_p dlC_M_isFit_112 (i := 6) rfl) ?_
      refine zr_icmp_ge (pc := 11) (tgt := 48) ⟨hu2_a, hu2_b⟩ ⟨(ze_r Mz 81 26).1, (ze_r Mz 81 26).2⟩ (by decide) (zdal_p dlC_M_isFit_112 (i := 7) rfl) (fun hc_11 => ?_) (fun hc_11 => ?_)
      · skip
        have hib0_ := zIsB_0 (K := K_) hia_ (by omega)
        refine zw_iconst (pc := 48) (v := Int32.ofInt 0) (by decide) (zdal_p dlC_M_isFit_113 (i := 1) rfl) ?_
        refine zw_istore (pc := 49) (i := 4) (L2 := [some (.ref 81), some (.ref 95), some (.int (Int32.ofInt a1_)), some (.int (Int32.ofInt u1_)), some (.int (Int32.ofInt 0))]) (by decide) rfl (zdal_p dlC_M_isFit_113 (i := 2) rfl) ?_
        have lp_51 : ∀ (n : Nat) (u6_ : Int) (hu6_a : -2147483648 ≤ u6_) (hu6_b : u6_ < 2147483648) (hu6_z : u6_ = 0 ∨ u6_ = 1) (u7_ : Int) (hu7_a : -2147483648 ≤ u7_) (hu7_b : u7_ < 2147483648) (i8_ : 0 ≤ u7_) (i9_ : u7_ ≤ F_) (i10_ : zIsB F_ K_ (zrw F_ Mz 95 a1_) u6_ u7_), (F_ - u7_).toNat < n → zW l m_M_isFit (zn Mz + 0, zw Mz + 0) Mz 51 [some (.ref 81), some (.ref 95), some (.int (Int32.ofInt a1_)), some (.int (Int32.ofInt u6_)), some (.int (Int32.ofInt u7_))] [] (zpI [] [] Mz (fun v N => ((v = 0 ∨ v = 1)) ∧ zIsF F_ K_ (zrw F_ Mz 95 a1_) v)) := by
          intro n
          induction n with
          | zero =>
            intro u6_ hu6_a hu6_b hu6_z u7_ hu7_a hu7_b i8_ i9_ i10_ h0
            exact absurd h0 (Nat.not_lt_zero _)
          | succ n ih_51 =>
            intro u6_ hu6_a hu6_b hu6_z u7_ hu7_a hu7_b i8_ i9_ i10_ hlt_51
            have hib_ := (show zIsB F_ K_ (zrw F_ Mz 95 a1_) u6_ u7_ by assumption)
            refine zw_iload (pc := 51) (i := 4) (x := Int32.ofInt u7_) rfl (zdal_p dlC_M_isFit_113 (i := 3) rfl) ?_
            refine zw_aload_n (pc := 53) (n := 0) (x := 81) rfl (zdal_p dlC_M_isFit_113 (i := 4) rfl) ?_
            refine zr_getI0 hf hW (pc := 54) (by decide) f_M_235 rfl (zdal_p dlC_M_isFit_113 (i := 5) rfl) ?_
            refine zr_icmp_ge (pc := 57) (tgt := 88) ⟨hu7_a, hu7_b⟩ ⟨(ze_r Mz 81 26).1, (ze_r Mz 81 26).2⟩ (by decide) (zdal_p dlC_M_isFit_113 (i := 6) rfl) (fun hc_57 => ?_) (fun hc_57 => ?_)
            · skip
              refine zw_iload_n (pc := 88) (n := 3) (x := Int32.ofInt u6_) rfl (zdal_p dlC_M_isFit_113 (i := 20) rfl) ?_
              exact zr_iret (pc := 89) (ty := .boolean) rfl (z_narB (by omega)) ⟨by omega, by omega⟩ hf ⟨(show (u6_ = 0 ∨ u6_ = 1) by have h_ := hib_.1; omega), (show zIsF F_ K_ (zrw F_ Mz 95 a1_) u6_ by exact zIsF_e hib_ (by omega))⟩ (zdal_p dlC_M_isFit_113 (i := 21) rfl)
            · skip
              refine zw_iload_n (pc := 60) (n := 3) (x := Int32.ofInt u6_) rfl (zdal_p dlC_M_isFit_113 (i := 7) rfl) ?_
              refine zr_if_eq (pc := 61) (tgt := 88) ⟨hu6_a, hu6_b⟩ (by decide) (zdal_p dlC_M_isFit_113 (i := 8) rfl) (fun hc_61 => ?_) (fun hc_61 => ?_)
              · skip
                refine zw_iload_n (pc := 88) (n := 3) (x := Int32.ofInt u6_) rfl (zdal_p dlC_M_isFit_113 (i := 20) rfl) ?_
                exact zr_iret (pc := 89) (ty := .boolean) rfl (z_narB (by omega)) ⟨by omega, by omega⟩ hf ⟨(show (u6_ = 0 ∨ u6_ = 1) by have h_ := hib_.1; omega), (show zIsF F_ K_ (zrw F_ Mz 95 a1_) u6_ by exact zIsF_e hib_ (by omega))⟩ (zdal_p dlC_M_isFit_113 (i := 21) rfl)
              · skip
                refine zw_aload_n (pc := 64) (n := 0) (x := 81) rfl (zdal_p dlC_M_isFit_113 (i := 9) rfl) ?_
                refine zw_aload_n (pc := 65) (n := 1) (x := 95) rfl (zdal_p dlC_M_isFit_113 (i := 10) rfl) ?_
                refine zw_iload_n (pc := 66) (n := 2) (x := Int32.ofInt a1_) rfl (zdal_p dlC_M_isFit_113 (i := 11) rfl) ?_
                refine zw_iload (pc := 67) (i := 4) (x := Int32.ofInt u7_) rfl (zdal_p dlC_M_isFit_113 (i := 12) rfl) ?_
                refine zr_callV (hf.w hW) hf.x (pc := 69) [.ref 95, .int (Int32.ofInt a1_), .int (Int32.ofInt u7_)] [] l_M_264 (c_M_markAt_95F l Mz (hf.w hW) a1_ ha1_a ha1_b u7_ hu7_a hu7_b F_ K_ hA_ p0_ (show 0 ≤ a1_ by first | assumption | omega) (show a1_ ≤ 2496 by first | assumption | omega) (show 0 ≤ u7_ by first | assumption | omega) (show u7_ < F_ by first | assumption | omega)) rfl rfl rfl (by decide) (Nat.le_of_ble_eq_true rfl) (zdal_p dlC_M_isFit_113 (i := 13) rfl) ?_
                rintro _ N11_ ⟨v12_, rfl, ⟨hv12_a, hv12_b⟩, hsN11_, hp0_N11_⟩
                obtain rfl := hsN11_.eq.symm
                replace hp0_N11_ : Int64.ofInt v12_ = Int64.ofInt (zmq F_ K_ (zrw F_ Mz 95 a1_) (u7_).toNat) := hp0_N11_
                show zW l m_M_isFit (zn Mz + 0, zw Mz + 0) Mz 72 [some (.ref 81), some (.ref 95), some (.int (Int32.ofInt a1_)), some (.int (Int32.ofInt u6_)), some (.int (Int32.ofInt u7_))] [.long (Int64.ofInt v12_)] _
                have hmk_ := hp0_N11_
                have hr64_ : zn64 v12_ := ⟨by omega, by omega⟩
                refine zr_ldc2 (pc := 72) (n := (-1000000000000)) (by decide) k_M_260 (zdal_p dlC_M_isFit_113 (i := 14) rfl) ?_
                refine zr_ldc2 (pc := 75) (n := 1000000000000) (by decide) k_M_262 (zdal_p dlC_M_isFit_113 (i := 15) rfl) ?_
                refine zr_callS hf.x (pc := 78) [.long (Int64.ofInt v12_), .long (Int64.ofInt ((-1000000000000))), .long (Int64.ofInt 1000000000000)] [] l_M_131 (c_M_isIn l Mz (hf.w hW) v12_ hv12_a hv12_b ((-1000000000000)) (by decide) (by decide) 1000000000000 (by decide) (by decide)) rfl rfl (by decide) (Nat.le_of_ble_eq_true rfl) (zdal_p dlC_M_isFit_113 (i := 16) rfl) ?_
                rintro _ N13_ ⟨v14_, rfl, ⟨hv14_a, hv14_b⟩, hsN13_, hp0_N13_⟩
                obtain rfl := hsN13_.eq.symm
                replace hp0_N13_ : ((v14_ = 1 ∧ ((-1000000000000)) ≤ v12_ ∧ v12_ ≤ 1000000000000) ∨ (v14_ = 0 ∧ (v12_ < ((-1000000000000)) ∨ 1000000000000 < v12_))) := hp0_N13_
                rcases hp0_N13_ with ⟨rfl, ha78_0_hp0_N13_, ha78_1_hp0_N13_⟩ | ⟨rfl, ha78_0_hp0_N13_⟩
                · skip
                  have hnx_ := zIsB_t (r := 1) hib_ (by omega) (by omega) (by omega) hmk_ hr64_ (Or.inl ⟨rfl, ha78_0_hp0_N13_, ha78_1_hp0_N13_⟩)
                  show zW l m_M_isFit (zn Mz + 0, zw Mz + 0) Mz 81 [some (.ref 81), some (.ref 95), some (.int (Int32.ofInt a1_)), some (.int (Int32.ofInt u6_)), some (.int (Int32.ofInt u7_))] [.int (Int32.ofInt 1)] _
                  refine zw_istore_n (pc := 81) (i := 3) (L2 := [some (.ref 81), some (.ref 95), some (.int (Int32.ofInt a1_)), some (.int (Int32.ofInt 1)), some (.int (Int32.ofInt u7_))]) rfl (by decide) rfl (zdal_p dlC_M_isFit_113 (i := 17) rfl) ?_
                  refine zr_iinc (pc := 82) (i := 4) (a := u7_) (n := 1) (L2 := [some (.ref 81), some (.ref 95), some (.int (Int32.ofInt a1_)), some (.int (Int32.ofInt 1)), some (.int (Int32.ofInt (u7_ + 1)))]) rfl (by decide) rfl (zdal_p dlC_M_isFit_113 (i := 18) rfl) ?_
                  refine zw_goto (pc := 85) (tgt := 51) (by decide) (zdal_p dlC_M_isFit_113 (i := 19) rfl) ?_
                  exact ih_51 1 (by decide) (by decide) (by omega) (u7_ + 1) (by omega) (by omega) (show 0 ≤ (u7_ + 1) by first | assumption | omega) (show (u7_ + 1) ≤ F_ by first | assumption | omega) (show zIsB F_ K_ (zrw F_ Mz 95 a1_) (1 : Int) (u7_ + 1) by exact hnx_) (by omega)
                · skip
                  have hnx_ := zIsB_t (r := 0) hib_ (by omega) (by omega) (by omega) hmk_ hr64_ (Or.inr ⟨rfl, ha78_0_hp0_N13_⟩)
                  show zW l m_M_isFit (zn Mz + 0, zw Mz + 0) Mz 81 [some (.ref 81), some (.ref 95), some (.int (Int32.ofInt a1_)), some (.int (Int32.ofInt u6_)), some (.int (Int32.ofInt u7_))] [.int (Int32.ofInt 0)] _
                  refine zw_istore_n (pc := 81) (i := 3) (L2 := [some (.ref 81), some (.ref 95), some (.int (Int32.ofInt a1_)), some (.int (Int32.ofInt 0)), some (.int (Int32.ofInt u7_))]) rfl (by decide) rfl (zdal_p dlC_M_isFit_113 (i := 17) rfl) ?_
                  refine zr_iinc (pc := 82) (i := 4) (a := u7_) (n := 1) (L2 := [some (.ref 81), some (.ref 95), some (.int (Int32.ofInt a1_)), some (.int (Int32.ofInt 0)), some (.int (Int32.ofInt (u7_ + 1)))]) rfl (by decide) rfl (zdal_p dlC_M_isFit_113 (i := 18) rfl) ?_
                  refine zw_goto (pc := 85) (tgt := 51) (by decide) (zdal_p dlC_M_isFit_113 (i := 19) rfl) ?_
                  exact ih_51 0 (by decide) (by decide) (by omega) (u7_ + 1) (by omega) (by omega) (show 0 ≤ (u7_ + 1) by first | assumption | omega) (show (u7_ + 1) ≤ F_ by first | assumption | omega) (show zIsB F_ K_ (zrw F_ Mz 95 a1_) (0 : Int) (u7_ + 1) by exact hnx_) (by omega)
        exact lp_51 _ u1_ hu1_a hu1_b (by omega) 0 (by decide) (by decide) (show 0 ≤ (0 : Int) by first | assumption | omega) (show (0 : Int) ≤ F_ by first | assumption | omega) (show zIsB F_ K_ (zrw F_ Mz 95 a1_) u1_ (0 : Int) by exact hib0_) (Nat.lt_succ_self _)
      · skip
        refine zw_iload_n (pc := 14) (n := 3) (x := Int32.ofInt u1_) rfl (zdal_p dlC_M_isFit_112 (i := 8) rfl) ?_
        refine zr_if_eq (pc := 15) (tgt := 40) ⟨hu1_a, hu1_b⟩ (by decide) (zdal_p dlC_M_isFit_112 (i := 9) rfl) (fun hc_15 => ?_) (fun hc_15 => ?_)
        · skip
          have hin_ := zIsA_f hia_ (by omega) (by omega) (by first | exact Or.inl (by omega) | (refine Or.inr (fun q_ => ?_); rw [← hx_] at q_; unfold zIn zLim at q_; omega))
          refine zw_iconst (pc := 40) (v := Int32.ofInt 0) (by decide) (zdal_p dlC_M_isFit_112 (i := 21) rfl) ?_
          refine zw_istore_n (pc := 41) (i := 3) (L2 := [some (.ref 81), some (.ref 95), some (.int (Int32.ofInt a1_)), some (.int (Int32.ofInt 0)), some (.int (Int32.ofInt u2_))]) rfl (by decide) rfl d_M_isFit_41 ?_
          refine zr_iinc (pc := 42) (i := 4) (a := u2_) (n := 1) (L2 := [some (.ref 81), some (.ref 95), some (.int (Int32.ofInt a1_)), some (.int (Int32.ofInt 0)), some (.int (Int32.ofInt (u2_ + 1)))]) rfl (by decide) rfl d_M_isFit_42 ?_
          refine zw_goto (pc := 45) (tgt := 5) (by decide) d_M_isFit_45 ?_
          exact ih_5 0 (by decide) (by decide) (by omega) (u2_ + 1) (by omega) (by omega) (show 0 ≤ (u2_ + 1) by first | assumption | omega) (show (u2_ + 1) ≤ F_ by first | assumption | omega) (show zIsA F_ (zrw F_ Mz 95 a1_) (0 : Int) (u2_ + 1) by exact hin_) (by omega)
        · skip
          refine zw_aload_n (pc := 18) (n := 1) (x := 95) rfl (zdal_p dlC_M_isFit_112 (i := 10) rfl) ?_
          refine zw_iload_n (pc := 19) (n := 2) (x := Int32.ofInt a1_) rfl (zdal_p dlC_M_isFit_112 (i := 11) rfl) ?_
          refine zw_iload (pc := 20) (i := 4) (x := Int32.ofInt u2_) rfl (zdal_p dlC_M_isFit_112 (i := 12) rfl) ?_
          refine zr_iadd (pc := 22) (zdal_p dlC_M_isFit_112 (i := 13) rfl) ?_
          refine zr_laldn (pc := 23) (zh_95 (hf.w hW)).2 (by decide) (by omega) (by omega) (zdal_p dlC_M_isFit_112 (i := 14) rfl) (fun v15_ hv15_ hv15_a hv15_b => ?_)
          have hx_ := zrw_at (F := F_) (k := (u2_).toNat) (e := a1_) (by omega) (by omega) hv15_ (by omega)
          refine zr_ldc2 (pc := 24) (n := (-1000000000000)) (by decide) k_M_260 (zdal_p dlC_M_isFit_112 (i := 15) rfl) ?_
          refine zr_ldc2 (pc := 27) (n := 1000000000000) (by decide) k_M_262 (zdal_p dlC_M_isFit_112 (i := 16) rfl) ?_
          refine zr_callS hf.x (pc := 30) [.long (Int64.ofInt v15_), .long (Int64.ofInt ((-1000000000000))), .long (Int64.ofInt 1000000000000)] [] l_M_131 (c_M_isIn l Mz (hf.w hW) v15_ hv15_a hv15_b ((-1000000000000)) (by decide) (by decide) 1000000000000 (by decide) (by decide)) rfl rfl (by decide) (Nat.le_of_ble_eq_true rfl) (zdal_p dlC_M_isFit_112 (i := 17) rfl) ?_
          rintro _ N16_ ⟨v17_, rfl, ⟨hv17_a, hv17_b⟩, hsN16_, hp0_N16_⟩
          obtain rfl := hsN16_.eq.symm
          replace hp0_N16_ : ((v17_ = 1 ∧ ((-1000000000000)) ≤ v15_ ∧ v15_ ≤ 1000000000000) ∨ (v17_ = 0 ∧ (v15_ < ((-1000000000000)) ∨ 1000000000000 < v15_))) := hp0_N16_
          rcases hp0_N16_ with ⟨rfl, ha30_0_hp0_N16_, ha30_1_hp0_N16_⟩ | ⟨rfl, ha30_0_hp0_N16_⟩
          · skip
            show zW l m_M_isFit (zn Mz + 0, zw Mz + 0) Mz 33 [some (.ref 81), some (.ref 95), some (.int (Int32.ofInt a1_)), some (.int (Int32.ofInt u1_)), some (.int (Int32.ofInt u2_))] [.int (Int32.ofInt 1)] _
            refine zr_if_eq (pc := 33) (tgt := 40) ⟨(by decide), (by decide)⟩ (by decide) (zdal_p dlC_M_isFit_112 (i := 18) rfl) (fun hc_33 => ?_) (fun hc_33 => ?_)
            · skip
              exact absurd hc_33 (by decide)
            · skip
              have hin_ := zIsA_t hia_ (by omega) (by omega) hx_ (by unfold zIn zLim; omega)
              refine zw_iconst (pc := 36) (v := Int32.ofInt 1) (by decide) (zdal_p dlC_M_isFit_112 (i := 19) rfl) ?_
              refine zw_goto (pc := 37) (tgt := 41) (by decide) (zdal_p dlC_M_isFit_112 (i := 20) rfl) ?_
              refine zw_istore_n (pc := 41) (i := 3) (L2 := [some (.ref 81), some (.ref 95), some (.int (Int32.ofInt a1_)), some (.int (Int32.ofInt 1)), some (.int (Int32.ofInt u2_))]) rfl (by decide) rfl d_M_isFit_41 ?_
              refine zr_iinc (pc := 42) (i := 4) (a := u2_) (n := 1) (L2 := [some (.ref 81), some (.ref 95), some (.int (Int32.ofInt a1_)), some (.int (Int32.ofInt 1)), some (.int (Int32.ofInt (u2_ + 1)))]) rfl (by decide) rfl d_M_isFit_42 ?_
              refine zw_goto (pc := 45) (tgt := 5) (by decide) d_M_isFit_45 ?_
              exact ih_5 1 (by decide) (by decide) (by omega) (u2_ + 1) (by omega) (by omega) (show 0 ≤ (u2_ + 1) by first | assumption | omega) (show (u2_ + 1) ≤ F_ by first | assumption | omega) (show zIsA F_ (zrw F_ Mz 95 a1_) (1 : Int) (u2_ + 1) by exact hin_) (by omega)
          · skip
            show zW l m_M_isFit (zn Mz + 0, zw Mz + 0) Mz 33 [some (.ref 81), some (.ref 95), some (.int (Int32.ofInt a1_)), some (.int (Int32.ofInt u1_)), some (.int (Int32.ofInt u2_))] [.int (Int32.ofInt 0)] _
            refine zr_if_eq (pc := 33) (tgt := 40) ⟨(by decide), (by decide)⟩ (by decide) (zdal_p dlC_M_isFit_112 (i := 18) rfl) (fun hc_33 => ?_) (fun hc_33 => ?_)
            · skip
              have hin_ := zIsA_f hia_ (by omega) (by omega) (by first | exact Or.inl (by omega) | (refine Or.inr (fun q_ => ?_); rw [← hx_] at q_; unfold zIn zLim at q_; omega))
              refine zw_iconst (pc := 40) (v := Int32.ofInt 0) (by decide) (zdal_p dlC_M_isFit_112 (i := 21) rfl) ?_
              refine zw_istore_n (pc := 41) (i := 3) (L2 := [some (.ref 81), some (.ref 95), some (.int (Int32.ofInt a1_)), some (.int (Int32.ofInt 0)), some (.int (Int32.ofInt u2_))]) rfl (by decide) rfl d_M_isFit_41 ?_
              refine zr_iinc (pc := 42) (i := 4) (a := u2_) (n := 1) (L2 := [some (.ref 81), some (.ref 95), some (.int (Int32.ofInt a1_)), some (.int (Int32.ofInt 0)), some (.int (Int32.ofInt (u2_ + 1)))]) rfl (by decide) rfl d_M_isFit_42 ?_
              refine zw_goto (pc := 45) (tgt := 5) (by decide) d_M_isFit_45 ?_
              exact ih_5 0 (by decide) (by decide) (by omega) (u2_ + 1) (by omega) (by omega) (show 0 ≤ (u2_ + 1) by first | assumption | omega) (show (u2_ + 1) ≤ F_ by first | assumption | omega) (show zIsA F_ (zrw F_ Mz 95 a1_) (0 : Int) (u2_ + 1) by exact hin_) (by omega)
            · skip
              exact absurd hc_33 (by decide)
  exact lp_5 _ 1 (by decide) (by decide) (by omega) 0 (by decide) (by decide) (show 0 ≤ (0 : Int) by first | assumption | omega) (show (0 : Int) ≤ F_ by first | assumption | omega) (show zIsA F_ (zrw F_ Mz 95 a1_) (1 : Int) (0 : Int) by exact zIsA_0) (Nat.lt_succ_self _)
set_option maxHeartbeats 4000000 in
theorem c_M_looksF (l : Launch) (Mz : zMem) (hW : zMt Mz) (F_ : Nat) (K_ : Nat → Nat → Int) (hA_ : zTA F_ K_) (p0_ : zRmk F_ K_ Mz) (p1_ : 1 ≤ ze Mz 81 38) (p2_ : ze Mz 81 38 ≤ 40) : zC l m_M_looks 0 0 [.ref 81] Mz (zpV [39] [95] Mz (fun N => zLkd F_ K_ (64 * (ze Mz 81 38 - 1)) Mz N)) := by
  refine zC_of (L0 := [some (.ref 81), none]) md_M_looks (Nat.le_of_ble_eq_true rfl) rfl ?_ zQ0
  have hf : zFr [39] [95] Mz Mz := zFr.rf
  have r_26 := ze_r Mz 81 26
  have r_38 := ze_r Mz 81 38
  have r_39 := ze_r Mz 81 39
  obtain ⟨⟨hF1_, hF27_⟩, hAr_⟩ := id hA_
  obtain ⟨hFc_, hKt_⟩ := id p0_
  refine zw_aload_n (pc := 0) (n := 0) (x := 81) rfl (zdal_p dlC_M_looks_110 (i := 0) rfl) ?_
  refine zw_aload_n (pc := 1) (n := 0) (x := 81) rfl (zdal_p dlC_M_looks_110 (i := 1) rfl) ?_
  refine zr_getF (r := 95) (hf.w hW) (pc := 2) f_M_56 rfl (zh_95 (hf.w hW)).1 (zdal_p dlC_M_looks_110 (i := 2) rfl) ?_
  refine zw_bipush (pc := 5) (v := Int32.ofInt 64) (by decide) (zdal_p dlC_M_looks_110 (i := 3) rfl) ?_
  refine zw_aload_n (pc := 7) (n := 0) (x := 81) rfl (zdal_p dlC_M_looks_110 (i := 4) rfl) ?_
  refine zr_getI0 hf hW (pc := 8) (by decide) f_M_268 rfl (zdal_p dlC_M_looks_110 (i := 5) rfl) ?_
  refine zw_iconst (pc := 11) (v := Int32.ofInt 1) (by decide) (zdal_p dlC_M_looks_110 (i := 6) rfl) ?_
  refine zr_isub (pc := 12) (zdal_p dlC_M_looks_110 (i := 7) rfl) ?_
  refine zr_imul (pc := 13) (zdal_p dlC_M_looks_110 (i := 8) rfl) ?_
  refine zr_callV (hf.w hW) hf.x (pc := 14) [.ref 95, .int (Int32.ofInt (64 * ((ze Mz 81 38) - 1)))] [] l_M_271 (c_M_isFit_95F l Mz (hf.w hW) (64 * ((ze Mz 81 38) - 1)) (by omega) (by omega) F_ K_ hA_ p0_ (show 0 ≤ (64 * ((ze Mz 81 38) - 1)) by first | assumption | omega) (show (64 * ((ze Mz 81 38) - 1)) ≤ 2496 by first | assumption | omega)) rfl rfl rfl (by decide) (Nat.le_of_ble_eq_true rfl) (zdal_p dlC_M_looks_110 (i := 9) rfl) ?_
  rintro _ N1_ ⟨v2_, rfl, ⟨hv2_a, hv2_b⟩, hsN1_, ⟨hp0_N1_, hp1_N1_⟩⟩
  obtain rfl := hsN1_.eq.symm
  show zW l m_M_looks (zn Mz + 0, zw Mz + 0) Mz 17 [some (.ref 81), none] [.int (Int32.ofInt v2_)] _
  have hfi_ := hp1_N1_
  have hfz_ := hp0_N1_
  refine zr_if_eq (pc := 17) (tgt := 21) ⟨hv2_a, hv2_b⟩ (by decide) (zdal_p dlC_M_looks_110 (i := 10) rfl) (fun hc_17 => ?_) (fun hc_17 => ?_)
  · skip
    refine zw_aload_n (pc := 21) (n := 0) (x := 81) rfl (zdal_p dlC_M_looks_110 (i := 12) rfl) ?_
    refine zw_iconst (pc := 22) (v := Int32.ofInt 1) (by decide) (zdal_p dlC_M_looks_110 (i := 13) rfl) ?_
    refine zr_putI (hf.w hW) (pc := 23) f_M_275 rfl rfl ⟨by omega, by omega⟩ (z_narB (by omega)) (z_fitB (by omega)) (zdal_p dlC_M_looks_110 (i := 14) rfl) (fun N3_ hsN3_ hvN3_ => ?_)
    have hf_N3_ : zFr [39] [95] Mz N3_ := hf.tr hsN3_ (by decide) (by decide)
    have e26_N3_ : ze N3_ 81 26 = ze Mz 81 26 := hsN3_.e (by decide)
    have e38_N3_ : ze N3_ 81 38 = ze Mz 81 38 := hsN3_.e (by decide)
    have r39_N3_ := ze_r N3_ 81 39
    have c4_ : zRmk F_ K_ N3_ := zRmk.fr hsN3_ p0_ (by decide) (by decide)
    have hg0_ : zOutR F_ (64 * (ze Mz 81 38 - 1)) Mz N3_ := fun x _ => hsN3_.jg (by decide) (by decide) x
    refine zw_iconst (pc := 26) (v := Int32.ofInt 0) (by decide) (zdal_p dlC_M_looks_110 (i := 15) rfl) ?_
    refine zw_istore_n (pc := 27) (i := 1) (L2 := [some (.ref 81), some (.int (Int32.ofInt 0))]) rfl (by decide) rfl (zdal_p dlC_M_looks_110 (i := 16) rfl) ?_
    have lp_28 : ∀ (n : Nat) (u5_ : Int) (hu5_a : -2147483648 ≤ u5_) (hu5_b : u5_ < 2147483648) (N6_ : zMem) (hs7_ : zFr [] [95] N3_ N6_) (i8_ : 0 ≤ u5_) (i9_ : zOutR F_ (64 * (ze Mz 81 38 - 1)) Mz N6_) (i10_ : ze N6_ 81 39 = 1), (F_ - u5_).toNat < n → zW l m_M_looks (zn Mz + 0, zw Mz + 0) N6_ 28 [some (.ref 81), some (.int (Int32.ofInt u5_))] [] (zpV [39] [95] Mz (fun N => zLkd F_ K_ (64 * (ze Mz 81 38 - 1)) Mz N)) := by
      intro n
      induction n with
      | zero =>
        intro u5_ hu5_a hu5_b N6_ hs7_ i8_ i9_ i10_ h0
        exact absurd h0 (Nat.not_lt_zero _)
      | succ n ih_28 =>
        intro u5_ hu5_a hu5_b N6_ hs7_ i8_ i9_ i10_ hlt_28
        have hf_N6_ : zFr [39] [95] Mz N6_ := hf_N3_.tr hs7_ (by decide) (by decide)
        have e26_N6_ : ze N6_ 81 26 = ze N3_ 81 26 := hs7_.e (by decide)
        have e38_N6_ : ze N6_ 81 38 = ze N3_ 81 38 := hs7_.e (by decide)
        have e39_N6_ : ze N6_ 81 39 = ze N3_ 81 39 := hs7_.e (by decide)
        have c11_ : zRmk F_ K_ N6_ := zRmk.fr hs7_ c4_ (by decide) (by decide)
        have hou_ := (show zOutR F_ (64 * (ze Mz 81 38 - 1)) Mz N6_ by assumption)
        refine zw_iload_n (pc := 28) (n := 1) (x := Int32.ofInt u5_) rfl (zdal_p dlC_M_looks_110 (i := 17) rfl) ?_
        refine zw_aload_n (pc := 29) (n := 0) (x := 81) rfl (zdal_p dlC_M_looks_110 (i := 18) rfl) ?_
        refine zr_getI0 hf_N6_ hW (pc := 30) (by decide) f_M_235 rfl (zdal_p dlC_M_looks_110 (i := 19) rfl) ?_
        refine zr_icmp_ge (pc := 33) (tgt := 59) ⟨hu5_a, hu5_b⟩ ⟨(ze_r Mz 81 26).1, (ze_r Mz 81 26).2⟩ (by decide) (zdal_p dlC_M_looks_110 (i := 20) rfl) (fun hc_33 => ?_) (fun hc_33 => ?_)
        · skip
          exact zr_vret (pc := 59) rfl hf_N6_ (show zLkd F_ K_ (64 * (ze Mz 81 38 - 1)) Mz N6_ by first | exact Or.inl ⟨fun x => rfl, rfl, fun hb_ => (hfi_ hb_).mp (by omega)⟩ | exact Or.inr ⟨hou_, by assumption, fun hb_ hq_ => by have := (hfi_ hb_).mpr hq_; omega⟩) (zdal_p dlC_M_looks_111 (i := 11) rfl)
        · skip
          refine zw_aload_n (pc := 36) (n := 0) (x := 81) rfl (zdal_p dlC_M_looks_110 (i := 21) rfl) ?_
          refine zr_getF (r := 95) (hf_N6_.w hW) (pc := 37) f_M_56 rfl (zh_95 (hf_N6_.w hW)).1 (zdal_p dlC_M_looks_110 (i := 22) rfl) ?_
          refine zw_bipush (pc := 40) (v := Int32.ofInt 64) (by decide) (zdal_p dlC_M_looks_110 (i := 23) rfl) ?_
          refine zw_aload_n (pc := 42) (n := 0) (x := 81) rfl (zdal_p dlC_M_looks_111 (i := 0) rfl) ?_
          refine zr_getI0 hf_N6_ hW (pc := 43) (by decide) f_M_268 rfl (zdal_p dlC_M_looks_111 (i := 1) rfl) ?_
          refine zw_iconst (pc := 46) (v := Int32.ofInt 1) (by decide) (zdal_p dlC_M_looks_111 (i := 2) rfl) ?_
          refine zr_isub (pc := 47) (zdal_p dlC_M_looks_111 (i := 3) rfl) ?_
          refine zr_imul (pc := 48) (zdal_p dlC_M_looks_111 (i := 4) rfl) ?_
          refine zw_iload_n (pc := 49) (n := 1) (x := Int32.ofInt u5_) rfl (zdal_p dlC_M_looks_111 (i := 5) rfl) ?_
          refine zr_iadd (pc := 50) (zdal_p dlC_M_looks_111 (i := 6) rfl) ?_
          refine zw_lconst (pc := 51) (v := Int64.ofInt 0) (by decide) (zdal_p dlC_M_looks_111 (i := 7) rfl) ?_
          refine zr_last (pc := 52) (zh_95 (hf_N6_.w hW)).2 (by decide) (by decide) (by omega) (by omega) (zdal_p dlC_M_looks_111 (i := 8) rfl) (fun N12_ hN12_ hsN12_ => ?_)
          have hf_N12_ : zFr [39] [95] Mz N12_ := hf_N6_.tr hsN12_ (by decide) (by decide)
          have hb0_N12_ : zFr [] [95] N3_ N12_ := hs7_.tr hsN12_ (by decide) (by decide)
          have e26_N12_ : ze N12_ 81 26 = ze N6_ 81 26 := hsN12_.e (by decide)
          have e38_N12_ : ze N12_ 81 38 = ze N6_ 81 38 := hsN12_.e (by decide)
          have e39_N12_ : ze N12_ 81 39 = ze N6_ 81 39 := hsN12_.e (by decide)
          have c13_ : zRmk F_ K_ N12_ := zRmk.fr hsN12_ c11_ (by decide) (by decide)
          have hox_ := zOutR_s hou_ hN12_ (by omega) (by omega)
          refine zr_iinc (pc := 53) (i := 1) (a := u5_) (n := 1) (L2 := [some (.ref 81), some (.int (Int32.ofInt (u5_ + 1)))]) rfl (by decide) rfl (zdal_p dlC_M_looks_111 (i := 9) rfl) ?_
          refine zw_goto (pc := 56) (tgt := 28) (by decide) (zdal_p dlC_M_looks_111 (i := 10) rfl) ?_
          exact ih_28 (u5_ + 1) (by omega) (by omega) N12_ hb0_N12_ (show 0 ≤ (u5_ + 1) by first | assumption | omega) (show zOutR F_ (64 * (ze Mz 81 38 - 1)) Mz N12_ by exact hox_) (show ze N12_ 81 39 = 1 by first | assumption | omega) (by omega)
    exact lp_28 _ 0 (by decide) (by decide) N3_ zFr.rf (show 0 ≤ (0 : Int) by first | assumption | omega) (show zOutR F_ (64 * (ze Mz 81 38 - 1)) Mz N3_ by exact hg0_) (show ze N3_ 81 39 = 1 by first | assumption | omega) (Nat.lt_succ_self _)
  · skip
    exact zr_vret (pc := 20) rfl hf (show zLkd F_ K_ (64 * (ze Mz 81 38 - 1)) Mz Mz by first | exact Or.inl ⟨fun x => rfl, rfl, fun hb_ => (hfi_ hb_).mp (by omega)⟩ | exact Or.inr ⟨hou_, by assumption, fun hb_ hq_ => by have := (hfi_ hb_).mpr hq_; omega⟩) (zdal_p dlC_M_looks_110 (i := 11) rfl)
set_option maxHeartbeats 4000000 in
theorem c_M_laysF (l : Launch) (Mz : zMem) (hW : zMt Mz) (a0_ : Int) (ha0_a : -2147483648 ≤ a0_) (ha0_b : a0_ < 2147483648) (a1_ : Int) (ha1_a : -9223372036854775808 ≤ a1_) (ha1_b : a1_ < 9223372036854775808) (F_ : Nat) (K_ : Nat → Nat → Int) (hA_ : zTA F_ K_) (p0_ : zRmk F_ K_ Mz) (p1_ : 0 ≤ ze Mz 81 38) (p2_ : ze Mz 81 38 ≤ 39) (p3_ : 0 ≤ a0_) (p4_ : a0_ < F_) (p5_ : 0 ≤ a1_) (p6_ : a1_ ≤ 999) : zC l m_M_lays 0 0 [.ref 81, .int (Int32.ofInt a0_), .long (Int64.ofInt a1_)] Mz (zpV [38, 39] [95] Mz (fun N => ze N 81 38 = ze Mz 81 38 + 1 ∧ zAcc F_ (64 * ze Mz 81 38) (zone a0_ a1_) (zfit F_ K_ (zone a0_ a1_)) Mz N)) := by
  refine zC_of (L0 := [some (.ref 81), some (.int (Int32.ofInt a0_)), some (.long (Int64.ofInt a1_)), none, none]) md_M_lays (Nat.le_of_ble_eq_true rfl) rfl ?_ zQ0
  have hf : zFr [38, 39] [95] Mz Mz := zFr.rf
  have r_26 := ze_r Mz 81 26
  have r_38 := ze_r Mz 81 38
  have r_39 := ze_r Mz 81 39
  obtain ⟨⟨hF1_, hF27_⟩, hAr_⟩ := id hA_
  obtain ⟨hFc_, hKt_⟩ := id p0_
  refine zw_iconst (pc := 0) (v := Int32.ofInt 0) (by decide) (zdal_p dlC_M_lays_108 (i := 0) rfl) ?_
  refine zw_istore (pc := 1) (i := 4) (L2 := [some (.ref 81), some (.int (Int32.ofInt a0_)), some (.long (Int64.ofInt a1_)), none, some (.int (Int32.ofInt 0))]) (by decide) rfl (zdal_p dlC_M_lays_108 (i := 1) rfl) ?_
  have lp_3 : ∀ (n : Nat) (u1_ : Int) (hu1_a : -2147483648 ≤ u1_) (hu1_b : u1_ < 2147483648) (N2_ : zMem) (hs3_ : zFr [] [95] Mz N2_) (i4_ : 0 ≤ u1_) (i5_ : u1_ ≤ F_) (i6_ : (∀ x : Nat, (x : Int) < 64 * ze Mz 81 38 → zg N2_ 95 x = zg Mz 95 x)) (i7_ : (∀ k : Nat, (k : Int) < u1_ → zg N2_ 95 ((64 * ze Mz 81 38).toNat + k) = zone a0_ a1_ k)), (F_ - u1_).toNat < n → zW l m_M_lays (zn Mz + 0, zw Mz + 0) N2_ 3 [some (.ref 81), some (.int (Int32.ofInt a0_)), some (.long (Int64.ofInt a1_)), none, some (.int (Int32.ofInt u1_))] [] (zpV [38, 39] [95] Mz (fun N => ze N 81 38 = ze Mz 81 38 + 1 ∧ zAcc F_ (64 * ze Mz 81 38) (zone a0_ a1_) (zfit F_ K_ (zone a0_ a1_)) Mz N)) := by
    intro n
    induction n with
    | zero =>
      intro u1_ hu1_a hu1_b N2_ hs3_ i4_ i5_ i6_ i7_ h0
      exact absurd h0 (Nat.not_lt_zero _)
    | succ n ih_3 =>
      intro u1_ hu1_a hu1_b N2_ hs3_ i4_ i5_ i6_ i7_ hlt_3
      have hf_N2_ : zFr [38, 39] [95] Mz N2_ := hf.tr hs3_ (by decide) (by decide)
      have e26_N2_ : ze N2_ 81 26 = ze Mz 81 26 := hs3_.e (by decide)
      have e38_N2_ : ze N2_ 81 38 = ze Mz 81 38 := hs3_.e (by decide)
      have e39_N2_ : ze N2_ 81 39 = ze Mz 81 39 := hs3_.e (by decide)
      have c8_ : zRmk F_ K_ N2_ := zRmk.fr hs3_ p0_ (by decide) (by decide)
      have hlo_ := (show ∀ x : Nat, (x : Int) < 64 * ze Mz 81 38 → zg N2_ 95 x = zg Mz 95 x by assumption)
      have hzo_ := (show ∀ k : Nat, (k : Int) < u1_ → zg N2_ 95 ((64 * ze Mz 81 38).toNat + k) = zone a0_ a1_ k by assumption)
      refine zw_iload (pc := 3) (i := 4) (x := Int32.ofInt u1_) rfl (zdal_p dlC_M_lays_108 (i := 2) rfl) ?_
      refine zw_aload_n (pc := 5) (n := 0) (x := 81) rfl (zdal_p dlC_M_lays_108 (i := 3) rfl) ?_
      refine zr_getI0 hf_N2_ hW (pc := 6) (by decide) f_M_235 rfl (zdal_p dlC_M_lays_108 (i := 4) rfl) ?_
      refine zr_icmp_ge (pc := 9) (tgt := 44) ⟨hu1_a, hu1_b⟩ ⟨(ze_r Mz 81 26).1, (ze_r Mz 81 26).2⟩ (by decide) (zdal_p dlC_M_lays_108 (i := 5) rfl) (fun hc_9 => ?_) (fun hc_9 => ?_)
      · skip
        refine zw_aload_n (pc := 44) (n := 0) (x := 81) rfl (zdal_p dlC_M_lays_108 (i := 23) rfl) ?_
        refine zw_dup (pc := 45) rfl (zdal_p dlC_M_lays_109 (i := 0) rfl) ?_
        refine zr_getI (hf_N2_.w hW) (pc := 46) f_M_268 rfl (zdal_p dlC_M_lays_109 (i := 1) rfl) ?_
        refine zw_iconst (pc := 49) (v := Int32.ofInt 1) (by decide) (zdal_p dlC_M_lays_109 (i := 2) rfl) ?_
        refine zr_iadd (pc := 50) (zdal_p dlC_M_lays_109 (i := 3) rfl) ?_
        refine zr_putI (hf_N2_.w hW) (pc := 51) f_M_268 rfl rfl ⟨by omega, by omega⟩ rfl rfl (zdal_p dlC_M_lays_109 (i := 4) rfl) (fun N9_ hsN9_ hvN9_ => ?_)
        have hf_N9_ : zFr [38, 39] [95] Mz N9_ := hf_N2_.tr hsN9_ (by decide) (by decide)
        have e26_N9_ : ze N9_ 81 26 = ze N2_ 81 26 := hsN9_.e (by decide)
        have r38_N9_ := ze_r N9_ 81 38
        have e39_N9_ : ze N9_ 81 39 = ze N2_ 81 39 := hsN9_.e (by decide)
        have c10_ : zRmk F_ K_ N9_ := zRmk.fr hsN9_ c8_ (by decide) (by decide)
        have hvv_ : zrw F_ N9_ 95 (64 * ze Mz 81 38) = zone a0_ a1_ := zrw_v (fun k hk => (hsN9_.jg (by decide) (by decide) _).trans (hzo_ k (by omega))) (fun k hk => by unfold zone; rw [if_neg (by omega)])
        have hll_ : ∀ x : Nat, (x : Int) < 64 * ze Mz 81 38 → zg N9_ 95 x = zg Mz 95 x := fun x hx => (hsN9_.jg (by decide) (by decide) x).trans (hlo_ x hx)
        refine zw_aload_n (pc := 54) (n := 0) (x := 81) rfl (zdal_p dlC_M_lays_109 (i := 5) rfl) ?_
        refine zr_callV (hf_N9_.w hW) hf_N9_.x (pc := 55) [] [] l_M_279 (c_M_looksF l N9_ (hf_N9_.w hW) F_ K_ hA_ c10_ (show 1 ≤ ze N9_ 81 38 by first | assumption | omega) (show ze N9_ 81 38 ≤ 40 by first | assumption | omega)) rfl rfl rfl (by decide) (Nat.le_of_ble_eq_true rfl) (zdal_p dlC_M_lays_109 (i := 6) rfl) ?_
        rintro _ N11_ ⟨rfl, hsN11_, hp0_N11_⟩
        replace hp0_N11_ : zLkd F_ K_ (64 * (ze N9_ 81 38 - 1)) N9_ N11_ := hp0_N11_
        have hf_N11_ : zFr [38, 39] [95] Mz N11_ := hf_N9_.tr hsN11_ (by decide) (by decide)
        have e26_N11_ : ze N11_ 81 26 = ze N9_ 81 26 := hsN11_.e (by decide)
        have e38_N11_ : ze N11_ 81 38 = ze N9_ 81 38 := hsN11_.e (by decide)
        have r39_N11_ := ze_r N11_ 81 39
        have c13_ : zRmk F_ K_ N11_ := zRmk.fr hsN11_ c10_ (by decide) (by decide)
        show zW l m_M_lays (zn Mz + 0, zw Mz + 0) N11_ 58 [some (.ref 81), some (.int (Int32.ofInt a0_)), some (.long (Int64.ofInt a1_)), none, some (.int (Int32.ofInt u1_))] [] _
        have hlk_ := hp0_N11_
        rw [show 64 * (ze N9_ 81 38 - 1) = 64 * ze Mz 81 38 by omega] at hlk_
        have hac_ := zAcc_l (F := F_) (K := K_) (M := Mz) (by omega) (by omega) hll_ (fun _ => ⟨hvv_, (zone_fit hA_ (by omega) (by omega) (by omega) (by omega)).b⟩) hlk_
        exact zr_vret (pc := 58) rfl hf_N11_ ⟨(show ze N11_ 81 38 = ze Mz 81 38 + 1 by first | assumption | omega), (show zAcc F_ (64 * ze Mz 81 38) (zone a0_ a1_) (zfit F_ K_ (zone a0_ a1_)) Mz N11_ by exact hac_)⟩ (zdal_p dlC_M_lays_109 (i := 7) rfl)
      · skip
        refine zw_aload_n (pc := 12) (n := 0) (x := 81) rfl (zdal_p dlC_M_lays_108 (i := 6) rfl) ?_
        refine zr_getF (r := 95) (hf_N2_.w hW) (pc := 13) f_M_56 rfl (zh_95 (hf_N2_.w hW)).1 (zdal_p dlC_M_lays_108 (i := 7) rfl) ?_
        refine zw_bipush (pc := 16) (v := Int32.ofInt 64) (by decide) (zdal_p dlC_M_lays_108 (i := 8) rfl) ?_
        refine zw_aload_n (pc := 18) (n := 0) (x := 81) rfl (zdal_p dlC_M_lays_108 (i := 9) rfl) ?_
        refine zr_getI (hf_N2_.w hW) (pc := 19) f_M_268 rfl (zdal_p dlC_M_lays_108 (i := 10) rfl) ?_
        refine zr_imul (pc := 22) (zdal_p dlC_M_lays_108 (i := 11) rfl) ?_
        refine zw_iload (pc := 23) (i := 4) (x := Int32.ofInt u1_) rfl (zdal_p dlC_M_lays_108 (i := 12) rfl) ?_
        refine zr_iadd (pc := 25) (zdal_p dlC_M_lays_108 (i := 13) rfl) ?_
        refine zw_iload (pc := 26) (i := 4) (x := Int32.ofInt u1_) rfl (zdal_p dlC_M_lays_108 (i := 14) rfl) ?_
        refine zw_iload_n (pc := 28) (n := 1) (x := Int32.ofInt a0_) rfl (zdal_p dlC_M_lays_108 (i := 15) rfl) ?_
        refine zr_icmp_ne (pc := 29) (tgt := 36) ⟨hu1_a, hu1_b⟩ ⟨ha0_a, ha0_b⟩ (by decide) (zdal_p dlC_M_lays_108 (i := 16) rfl) (fun hc_29 => ?_) (fun hc_29 => ?_)
        · skip
          refine zw_lconst (pc := 36) (v := Int64.ofInt 0) (by decide) (zdal_p dlC_M_lays_108 (i := 19) rfl) ?_
          refine zr_last (pc := 37) (zh_95 (hf_N2_.w hW)).2 (by decide) (by decide) (by omega) (by omega) (zdal_p dlC_M_lays_108 (i := 20) rfl) (fun N14_ hN14_ hsN14_ => ?_)
          have hf_N14_ : zFr [38, 39] [95] Mz N14_ := hf_N2_.tr hsN14_ (by decide) (by decide)
          have hb0_N14_ : zFr [] [95] Mz N14_ := hs3_.tr hsN14_ (by decide) (by decide)
          have e26_N14_ : ze N14_ 81 26 = ze N2_ 81 26 := hsN14_.e (by decide)
          have e38_N14_ : ze N14_ 81 38 = ze N2_ 81 38 := hsN14_.e (by decide)
          have e39_N14_ : ze N14_ 81 39 = ze N2_ 81 39 := hsN14_.e (by decide)
          have c15_ : zRmk F_ K_ N14_ := zRmk.fr hsN14_ c8_ (by decide) (by decide)
          have hl2_ : ∀ x : Nat, (x : Int) < 64 * ze Mz 81 38 → zg N14_ 95 x = zg Mz 95 x := fun x hx => by rw [zs_othJ hN14_ (by omega)]; exact hlo_ x hx
          have hz2_ : ∀ k : Nat, (k : Int) < u1_ + 1 → zg N14_ 95 ((64 * ze Mz 81 38).toNat + k) = zone a0_ a1_ k := fun k hk => by by_cases g_ : (k : Int) = u1_; (rw [show (64 * ze Mz 81 38).toNat + k = (64 * ze N2_ 81 38 + u1_).toNat by omega, zs_getJ hN14_ ⟨by omega, by omega⟩]; unfold zone; first | rw [if_pos (by omega)] | rw [if_neg (by omega)]); (rw [zs_othJ hN14_ (by omega)]; exact hzo_ k (by omega))
          refine zr_iinc (pc := 38) (i := 4) (a := u1_) (n := 1) (L2 := [some (.ref 81), some (.int (Int32.ofInt a0_)), some (.long (Int64.ofInt a1_)), none, some (.int (Int32.ofInt (u1_ + 1)))]) rfl (by decide) rfl (zdal_p dlC_M_lays_108 (i := 21) rfl) ?_
          refine zw_goto (pc := 41) (tgt := 3) (by decide) (zdal_p dlC_M_lays_108 (i := 22) rfl) ?_
          exact ih_3 (u1_ + 1) (by omega) (by omega) N14_ hb0_N14_ (show 0 ≤ (u1_ + 1) by first | assumption | omega) (show (u1_ + 1) ≤ F_ by first | assumption | omega) (show (∀ x : Nat, (x : Int) < 64 * ze Mz 81 38 → zg N14_ 95 x = zg Mz 95 x) by exact hl2_) (show (∀ k : Nat, (k : Int) < (u1_ + 1) → zg N14_ 95 ((64 * ze Mz 81 38).toNat + k) = zone a0_ a1_ k) by exact hz2_) (by omega)
        · skip
          refine zw_lload_n (pc := 32) (n := 2) (x := Int64.ofInt a1_) rfl (zdal_p dlC_M_lays_108 (i := 17) rfl) ?_
          refine zw_goto (pc := 33) (tgt := 37) (by decide) (zdal_p dlC_M_lays_108 (i := 18) rfl) ?_
          refine zr_last (pc := 37) (zh_95 (hf_N2_.w hW)).2 (by decide) (by decide) (by omega) (by omega) (zdal_p dlC_M_lays_108 (i := 20) rfl) (fun N16_ hN16_ hsN16_ => ?_)
          have hf_N16_ : zFr [38, 39] [95] Mz N16_ := hf_N2_.tr hsN16_ (by decide) (by decide)
          have hb0_N16_ : zFr [] [95] Mz N16_ := hs3_.tr hsN16_ (by decide) (by decide)
          have e26_N16_ : ze N16_ 81 26 = ze N2_ 81 26 := hsN16_.e (by decide)
          have e38_N16_ : ze N16_ 81 38 = ze N2_ 81 38 := hsN16_.e (by decide)
          have e39_N16_ : ze N16_ 81 39 = ze N2_ 81 39 := hsN16_.e (by decide)
          have c17_ : zRmk F_ K_ N16_ := zRmk.fr hsN16_ c8_ (by decide) (by decide)
          have hl2_ : ∀ x : Nat, (x : Int) < 64 * ze Mz 81 38 → zg N16_ 95 x = zg Mz 95 x := fun x hx => by rw [zs_othJ hN16_ (by omega)]; exact hlo_ x hx
          have hz2_ : ∀ k : Nat, (k : Int) < u1_ + 1 → zg N16_ 95 ((64 * ze Mz 81 38).toNat + k) = zone a0_ a1_ k := fun k hk => by by_cases g_ : (k : Int) = u1_; (rw [show (64 * ze Mz 81 38).toNat + k = (64 * ze N2_ 81 38 + u1_).toNat by omega, zs_getJ hN16_ ⟨by omega, by omega⟩]; unfold zone; first | rw [if_pos (by omega)] | rw [if_neg (by omega)]); (rw [zs_othJ hN16_ (by omega)]; exact hzo_ k (by omega))
          refine zr_iinc (pc := 38) (i := 4) (a := u1_) (n := 1) (L2 := [some (.ref 81), some (.int (Int32.ofInt a0_)), some (.long (Int64.ofInt a1_)), none, some (.int (Int32.ofInt (u1_ + 1)))]) rfl (by decide) rfl (zdal_p dlC_M_lays_108 (i := 21) rfl) ?_
          refine zw_goto (pc := 41) (tgt := 3) (by decide) (zdal_p dlC_M_lays_108 (i := 22) rfl) ?_
          exact ih_3 (u1_ + 1) (by omega) (by omega) N16_ hb0_N16_ (show 0 ≤ (u1_ + 1) by first | assumption | omega) (show (u1_ + 1) ≤ F_ by first | assumption | omega) (show (∀ x : Nat, (x : Int) < 64 * ze Mz 81 38 → zg N16_ 95 x = zg Mz 95 x) by exact hl2_) (show (∀ k : Nat, (k : Int) < (u1_ + 1) → zg N16_ 95 ((64 * ze Mz 81 38).toNat + k) = zone a0_ a1_ k) by exact hz2_) (by omega)
  exact lp_3 _ 0 (by decide) (by decide) Mz zFr.rf (show 0 ≤ (0 : Int) by first | assumption | omega) (show (0 : Int) ≤ F_ by first | assumption | omega) (show (∀ x : Nat, (x : Int) < 64 * ze Mz 81 38 → zg Mz 95 x = zg Mz 95 x) by exact fun x _ => rfl) (show (∀ k : Nat, (k : Int) < (0 : Int) → zg Mz 95 ((64 * ze Mz 81 38).toNat + k) = zone a0_ a1_ k) by exact fun k hk => absurd hk (by omega)) (Nat.lt_succ_self _)
set_option maxHeartbeats 4000000 in
theorem c_M_numbers_96_95F (l : Launch) (Mz : zMem) (hW : zMt Mz) (a2_ : Int) (ha2_a : -2147483648 ≤ a2_) (ha2_b : a2_ < 2147483648) (F_ : Nat) (K_ : Nat → Nat → Int) (hA_ : zTA F_ K_) (p0_ : zRmk F_ K_ Mz) (p1_ : 0 ≤ a2_) (p2_ : a2_ ≤ 2496) : zC l m_M_numbers 0 0 [.ref 81, .ref 96, .ref 95, .int (Int32.ofInt a2_)] Mz (zpV [] [95] Mz (fun N => zNumR F_ K_ Mz N a2_)) := by
  refine zC_of (L0 := [some (.ref 81), some (.ref 96), some (.ref 95), some (.int (Int32.ofInt a2_)), none, none, none, none]) md_M_numbers (Nat.le_of_ble_eq_true rfl) rfl ?_ zQ0
  have hf : zFr [] [95] Mz Mz := zFr.rf
  have r_26 := ze_r Mz 81 26
  obtain ⟨⟨hF1_, hF27_⟩, hAr_⟩ := id hA_
  obtain ⟨hFc_, hKt_⟩ := id p0_
  refine zw_aload_n (pc := 0) (n := 0) (x := 81) rfl (zdal_p dlC_M_numbers_126 (i := 0) rfl) ?_
  refine zr_getI0 hf hW (pc := 1) (by decide) f_M_235 rfl (zdal_p dlC_M_numbers_126 (i := 1) rfl) ?_
  refine zw_iconst (pc := 4) (v := Int32.ofInt 1) (by decide) (zdal_p dlC_M_numbers_126 (i := 2) rfl) ?_
  refine zr_isub (pc := 5) (zdal_p dlC_M_numbers_126 (i := 3) rfl) ?_
  refine zw_istore (pc := 6) (i := 4) (L2 := [some (.ref 81), some (.ref 96), some (.ref 95), some (.int (Int32.ofInt a2_)), some (.int (Int32.ofInt ((ze Mz 81 26) - 1))), none, none, none]) (by decide) rfl (zdal_p dlC_M_numbers_126 (i := 4) rfl) ?_
  have lp_8 : ∀ (n : Nat) (u1_ : Int) (hu1_a : -2147483648 ≤ u1_) (hu1_b : u1_ < 2147483648) (N2_ : zMem) (hs3_ : zFr [] [95] Mz N2_) (i4_ : u1_ < F_) (i5_ : -1 ≤ u1_) (i6_ : ∀ u : Nat → Int, zsvR F_ K_ Mz u → zUpR F_ Mz N2_ a2_ u u1_) (i7_ : zOutR F_ a2_ Mz N2_), (u1_ + 1).toNat < n → zW l m_M_numbers (zn Mz + 0, zw Mz + 0) N2_ 8 [some (.ref 81), some (.ref 96), some (.ref 95), some (.int (Int32.ofInt a2_)), some (.int (Int32.ofInt u1_)), none, none, none] [] (zpV [] [95] Mz (fun N => zNumR F_ K_ Mz N a2_)) := by
    intro n
    induction n with
    | zero =>
      intro u1_ hu1_a hu1_b N2_ hs3_ i4_ i5_ i6_ i7_ h0
      exact absurd h0 (Nat.not_lt_zero _)
    | succ n ih_8 =>
      intro u1_ hu1_a hu1_b N2_ hs3_ i4_ i5_ i6_ i7_ hlt_8
      have hf_N2_ : zFr [] [95] Mz N2_ := hf.tr hs3_ (by decide) (by decide)
      have e26_N2_ : ze N2_ 81 26 = ze Mz 81 26 := hs3_.e (by decide)
      have c8_ : zRmk F_ K_ N2_ := zRmk.fr hs3_ p0_ (by decide) (by decide)
      refine zw_iload (pc := 8) (i := 4) (x := Int32.ofInt u1_) rfl (zdal_p dlC_M_numbers_126 (i := 5) rfl) ?_
      refine zr_if_lt (pc := 10) (tgt := 95) ⟨hu1_a, hu1_b⟩ (by decide) (zdal_p dlC_M_numbers_126 (i := 6) rfl) (fun hc_10 => ?_) (fun hc_10 => ?_)
      · skip
        exact zr_vret (pc := 95) rfl hf_N2_ (show zNumR F_ K_ Mz N2_ a2_ by exact zNumR_e (by omega) (by assumption) (by assumption) (by omega)) (zdal_p dlC_M_numbers_128 (i := 9) rfl)
      · skip
        refine zw_aload_n (pc := 13) (n := 1) (x := 96) rfl (zdal_p dlC_M_numbers_126 (i := 7) rfl) ?_
        refine zw_iload (pc := 14) (i := 4) (x := Int32.ofInt u1_) rfl (zdal_p dlC_M_numbers_126 (i := 8) rfl) ?_
        refine zr_laldn (pc := 16) (zh_96 (hf_N2_.w hW)).2 (by decide) (by omega) (by omega) (zdal_p dlC_M_numbers_126 (i := 9) rfl) (fun v9_ hv9_ hv9_a hv9_b => ?_)
        rw [hf_N2_.jg (by decide) (by decide)] at hv9_
        have hr0_ := hv9_
        refine zw_lstore (pc := 17) (i := 5) (L2 := [some (.ref 81), some (.ref 96), some (.ref 95), some (.int (Int32.ofInt a2_)), some (.int (Int32.ofInt u1_)), some (.long (Int64.ofInt v9_)), none, none]) (by decide) rfl (zdal_p dlC_M_numbers_126 (i := 10) rfl) ?_
        refine zw_iload (pc := 19) (i := 4) (x := Int32.ofInt u1_) rfl (zdal_p dlC_M_numbers_126 (i := 11) rfl) ?_
        refine zw_iconst (pc := 21) (v := Int32.ofInt 1) (by decide) (zdal_p dlC_M_numbers_126 (i := 12) rfl) ?_
        refine zr_iadd (pc := 22) (zdal_p dlC_M_numbers_126 (i := 13) rfl) ?_
        refine zw_istore (pc := 23) (i := 7) (L2 := [some (.ref 81), some (.ref 96), some (.ref 95), some (.int (Int32.ofInt a2_)), some (.int (Int32.ofInt u1_)), some (.long (Int64.ofInt v9_)), none, some (.int (Int32.ofInt (u1_ + 1)))]) (by decide) rfl (zdal_p dlC_M_numbers_126 (i := 14) rfl) ?_
        have hup_ := (show ∀ u : Nat → Int, zsvR F_ K_ Mz u → zUpR F_ Mz N2_ a2_ u u1_ by assumption)
        have hou_ := (show zOutR F_ a2_ Mz N2_ by assumption)
        have lp_25 : ∀ (n : Nat) (u10_ : Int) (hu10_a : -9223372036854775808 ≤ u10_) (hu10_b : u10_ < 9223372036854775808) (u11_ : Int) (hu11_a : -2147483648 ≤ u11_) (hu11_b : u11_ < 2147483648) (i12_ : u1_ < u11_) (i13_ : u11_ ≤ F_) (i14_ : ∀ u : Nat → Int, zsvR F_ K_ Mz u → zXin F_ K_ u u10_ u1_ u11_), (F_ - u11_).toNat < n → zW l m_M_numbers (zn Mz + 0, zw Mz + 0) N2_ 25 [some (.ref 81), some (.ref 96), some (.ref 95), some (.int (Int32.ofInt a2_)), some (.int (Int32.ofInt u1_)), some (.long (Int64.ofInt u10_)), none, some (.int (Int32.ofInt u11_))] [] (zpV [] [95] Mz (fun N => zNumR F_ K_ Mz N a2_)) := by
          intro n
          induction n with
          | zero =>
            intro u10_ hu10_a hu10_b u11_ hu11_a hu11_b i12_ i13_ i14_ h0
            exact absurd h0 (Nat.not_lt_zero _)
          | succ n ih_25 =>
            intro u10_ hu10_a hu10_b u11_ hu11_a hu11_b i12_ i13_ i14_ hlt_25
            have hxi_ := (show ∀ u : Nat → Int, zsvR F_ K_ Mz u → zXin F_ K_ u u10_ u1_ u11_ by assumption)
            refine zw_iload (pc := 25) (i := 7) (x := Int32.ofInt u11_) rfl (zdal_p dlC_M_numbers_126 (i := 15) rfl) ?_
            refine zw_aload_n (pc := 27) (n := 0) (x := 81) rfl (zdal_p dlC_M_numbers_126 (i := 16) rfl) ?_
            refine zr_getI0 hf_N2_ hW (pc := 28) (by decide) f_M_235 rfl (zdal_p dlC_M_numbers_126 (i := 17) rfl) ?_
            refine zr_icmp_ge (pc := 31) (tgt := 66) ⟨hu11_a, hu11_b⟩ ⟨(ze_r Mz 81 26).1, (ze_r Mz 81 26).2⟩ (by decide) (zdal_p dlC_M_numbers_126 (i := 18) rfl) (fun hc_31 => ?_) (fun hc_31 => ?_)
            · skip
              refine zw_aload_n (pc := 66) (n := 2) (x := 95) rfl (zdal_p dlC_M_numbers_127 (i := 15) rfl) ?_
              refine zw_iload_n (pc := 67) (n := 3) (x := Int32.ofInt a2_) rfl (zdal_p dlC_M_numbers_127 (i := 16) rfl) ?_
              refine zw_iload (pc := 68) (i := 4) (x := Int32.ofInt u1_) rfl (zdal_p dlC_M_numbers_127 (i := 17) rfl) ?_
              refine zr_iadd (pc := 70) (zdal_p dlC_M_numbers_127 (i := 18) rfl) ?_
              refine zw_lload (pc := 71) (i := 5) (x := Int64.ofInt u10_) rfl (zdal_p dlC_M_numbers_127 (i := 19) rfl) ?_
              refine zw_aload_n (pc := 73) (n := 0) (x := 81) rfl (zdal_p dlC_M_numbers_127 (i := 20) rfl) ?_
              refine zr_getF (r := 93) (hf_N2_.w hW) (pc := 74) f_M_50 rfl (zh_93 (hf_N2_.w hW)).1 (zdal_p dlC_M_numbers_127 (i := 21) rfl) ?_
              refine zw_bipush (pc := 77) (v := Int32.ofInt 64) (by decide) (zdal_p dlC_M_numbers_127 (i := 22) rfl) ?_
              refine zw_iload (pc := 79) (i := 4) (x := Int32.ofInt u1_) rfl (zdal_p dlC_M_numbers_127 (i := 23) rfl) ?_
              refine zr_imul (pc := 81) (zdal_p dlC_M_numbers_128 (i := 0) rfl) ?_
              refine zw_iload (pc := 82) (i := 4) (x := Int32.ofInt u1_) rfl (zdal_p dlC_M_numbers_128 (i := 1) rfl) ?_
              refine zr_iadd (pc := 84) (zdal_p dlC_M_numbers_128 (i := 2) rfl) ?_
              refine zr_ialdn (pc := 85) (zh_93 (hf_N2_.w hW)).2 (by decide) (by omega) (by omega) (zdal_p dlC_M_numbers_128 (i := 3) rfl) (fun v15_ hv15_ hv15_a hv15_b => ?_)
              rw [hf_N2_.ie (by decide) (by decide)] at hv15_
              have hm_ := p0_.k (by omega) (by omega) (by omega) (by omega) hv15_
              have hm1_ := hAr_.2.2.1 (u1_).toNat (by omega)
              refine zr_i2l (pc := 86) ⟨hv15_a, hv15_b⟩ (zdal_p dlC_M_numbers_128 (i := 4) rfl) ?_
              refine zr_ldiv (pc := 87) ⟨by omega, by omega⟩ (by omega) (zdal_p dlC_M_numbers_128 (i := 5) rfl) ?_
              have hr16_ := zlquo_r u10_ v15_
              obtain ⟨q_, hq_⟩ : ∃ q, q = (zlquo u10_ v15_) := ⟨_, rfl⟩
              have hqu_ := fun u hu => zXin_e hA_ (hxi_ u hu) (by omega) hu ⟨by omega, by omega⟩ (by omega) (by omega) hm_ hq_
              refine zr_last (pc := 88) (zh_95 (hf_N2_.w hW)).2 (by decide) (by decide) (by omega) (by omega) (zdal_p dlC_M_numbers_128 (i := 6) rfl) (fun N17_ hN17_ hsN17_ => ?_)
              have hf_N17_ : zFr [] [95] Mz N17_ := hf_N2_.tr hsN17_ (by decide) (by decide)
              have hb0_N17_ : zFr [] [95] Mz N17_ := hs3_.tr hsN17_ (by decide) (by decide)
              have e26_N17_ : ze N17_ 81 26 = ze N2_ 81 26 := hsN17_.e (by decide)
              have c18_ : zRmk F_ K_ N17_ := zRmk.fr hsN17_ c8_ (by decide) (by decide)
              have hu1_ := fun u hu => zUpR_s (hup_ u hu) hN17_ ⟨by omega, by omega⟩ (by omega) (by omega) (by omega) (by rw [← hq_]; exact hqu_ u hu)
              have ho1_ := zOutR_s hou_ hN17_ (by omega) (by omega)
              refine zr_iinc (pc := 89) (i := 4) (a := u1_) (n := -1) (L2 := [some (.ref 81), some (.ref 96), some (.ref 95), some (.int (Int32.ofInt a2_)), some (.int (Int32.ofInt (u1_ + (-1)))), some (.long (Int64.ofInt u10_)), none, some (.int (Int32.ofInt u11_))]) rfl (by decide) rfl (zdal_p dlC_M_numbers_128 (i := 7) rfl) ?_
              refine zw_goto (pc := 92) (tgt := 8) (by decide) (zdal_p dlC_M_numbers_128 (i := 8) rfl) ?_
              refine zW_le [some (.ref 81), some (.ref 96), some (.ref 95), some (.int (Int32.ofInt a2_)), some (.int (Int32.ofInt (u1_ + (-1)))), none, none, none] (⟨rfl, rfl, rfl, rfl, rfl, trivial⟩) ?_
              exact ih_8 (u1_ + (-1)) (by omega) (by omega) N17_ hb0_N17_ (show (u1_ + (-1)) < F_ by first | assumption | omega) (show -1 ≤ (u1_ + (-1)) by first | assumption | omega) (show ∀ u : Nat → Int, zsvR F_ K_ Mz u → zUpR F_ Mz N17_ a2_ u (u1_ + (-1)) by exact hu1_) (show zOutR F_ a2_ Mz N17_ by exact ho1_) (by omega)
            · skip
              refine zw_lload (pc := 34) (i := 5) (x := Int64.ofInt u10_) rfl (zdal_p dlC_M_numbers_126 (i := 19) rfl) ?_
              refine zw_aload_n (pc := 36) (n := 2) (x := 95) rfl (zdal_p dlC_M_numbers_126 (i := 20) rfl) ?_
              refine zw_iload_n (pc := 37) (n := 3) (x := Int32.ofInt a2_) rfl (zdal_p dlC_M_numbers_126 (i := 21) rfl) ?_
              refine zw_iload (pc := 38) (i := 7) (x := Int32.ofInt u11_) rfl (zdal_p dlC_M_numbers_126 (i := 22) rfl) ?_
              refine zr_iadd (pc := 40) (zdal_p dlC_M_numbers_126 (i := 23) rfl) ?_
              refine zr_laldn (pc := 41) (zh_95 (hf_N2_.w hW)).2 (by decide) (by omega) (by omega) (zdal_p dlC_M_numbers_127 (i := 0) rfl) (fun v19_ hv19_ hv19_a hv19_b => ?_)
              have hx_ := hv19_
              refine zw_aload_n (pc := 42) (n := 0) (x := 81) rfl (zdal_p dlC_M_numbers_127 (i := 1) rfl) ?_
              refine zr_getF (r := 93) (hf_N2_.w hW) (pc := 43) f_M_50 rfl (zh_93 (hf_N2_.w hW)).1 (zdal_p dlC_M_numbers_127 (i := 2) rfl) ?_
              refine zw_bipush (pc := 46) (v := Int32.ofInt 64) (by decide) (zdal_p dlC_M_numbers_127 (i := 3) rfl) ?_
              refine zw_iload (pc := 48) (i := 7) (x := Int32.ofInt u11_) rfl (zdal_p dlC_M_numbers_127 (i := 4) rfl) ?_
              refine zr_imul (pc := 50) (zdal_p dlC_M_numbers_127 (i := 5) rfl) ?_
              refine zw_iload (pc := 51) (i := 4) (x := Int32.ofInt u1_) rfl (zdal_p dlC_M_numbers_127 (i := 6) rfl) ?_
              refine zr_iadd (pc := 53) (zdal_p dlC_M_numbers_127 (i := 7) rfl) ?_
              refine zr_ialdn (pc := 54) (zh_93 (hf_N2_.w hW)).2 (by decide) (by omega) (by omega) (zdal_p dlC_M_numbers_127 (i := 8) rfl) (fun v20_ hv20_ hv20_a hv20_b => ?_)
              rw [hf_N2_.ie (by decide) (by decide)] at hv20_
              have hy_ := p0_.k (by omega) (by omega) (by omega) (by omega) hv20_
              refine zr_i2l (pc := 55) ⟨hv20_a, hv20_b⟩ (zdal_p dlC_M_numbers_127 (i := 9) rfl) ?_
              refine zr_lmul (pc := 56) (zdal_p dlC_M_numbers_127 (i := 10) rfl) ?_
              refine zr_lsub (pc := 57) (zdal_p dlC_M_numbers_127 (i := 11) rfl) ?_
              refine zk_nmJ (fun v21_ hv21_ hv21_e => ?_)
              obtain ⟨hv21_a, hv21_b⟩ := hv21_
              have hz_ := fun u hu => zXin_s (hxi_ u hu) hv21_e (by omega) (by omega) (by omega) (by omega) (hup_ u hu) hx_ hy_
              refine zw_lstore (pc := 58) (i := 5) (L2 := [some (.ref 81), some (.ref 96), some (.ref 95), some (.int (Int32.ofInt a2_)), some (.int (Int32.ofInt u1_)), some (.long (Int64.ofInt v21_)), none, some (.int (Int32.ofInt u11_))]) (by decide) rfl (zdal_p dlC_M_numbers_127 (i := 12) rfl) ?_
              refine zr_iinc (pc := 60) (i := 7) (a := u11_) (n := 1) (L2 := [some (.ref 81), some (.ref 96), some (.ref 95), some (.int (Int32.ofInt a2_)), some (.int (Int32.ofInt u1_)), some (.long (Int64.ofInt v21_)), none, some (.int (Int32.ofInt (u11_ + 1)))]) rfl (by decide) rfl (zdal_p dlC_M_numbers_127 (i := 13) rfl) ?_
              refine zw_goto (pc := 63) (tgt := 25) (by decide) (zdal_p dlC_M_numbers_127 (i := 14) rfl) ?_
              exact ih_25 v21_ hv21_a hv21_b (u11_ + 1) (by omega) (by omega) (show u1_ < (u11_ + 1) by first | assumption | omega) (show (u11_ + 1) ≤ F_ by first | assumption | omega) (show ∀ u : Nat → Int, zsvR F_ K_ Mz u → zXin F_ K_ u v21_ u1_ (u11_ + 1) by exact hz_) (by omega)
        exact lp_25 _ v9_ hv9_a hv9_b (u1_ + 1) (by omega) (by omega) (show u1_ < (u1_ + 1) by first | assumption | omega) (show (u1_ + 1) ≤ F_ by first | assumption | omega) (show ∀ u : Nat → Int, zsvR F_ K_ Mz u → zXin F_ K_ u v9_ u1_ (u1_ + 1) by exact fun u hu => zXin_0 (by omega) hu (by omega) hr0_) (Nat.lt_succ_self _)
  exact lp_8 _ ((ze Mz 81 26) - 1) (by omega) (by omega) Mz zFr.rf (show ((ze Mz 81 26) - 1) < F_ by first | assumption | omega) (show -1 ≤ ((ze Mz 81 26) - 1) by first | assumption | omega) (show ∀ u : Nat → Int, zsvR F_ K_ Mz u → zUpR F_ Mz Mz a2_ u ((ze Mz 81 26) - 1) by exact fun u hu => zUpR_0 (by omega)) (show zOutR F_ a2_ Mz Mz by exact fun x _ => rfl) (Nat.lt_succ_self _)
set_option maxHeartbeats 4000000 in
theorem c_M_marksOf_96F (l : Launch) (Mz : zMem) (hW : zMt Mz) (a0_ : Int) (ha0_a : -2147483648 ≤ a0_) (ha0_b : a0_ < 2147483648) (F_ : Nat) (K_ : Nat → Nat → Int) (hA_ : zTA F_ K_) (p0_ : zRmk F_ K_ Mz) (p1_ : 0 ≤ a0_) (p2_ : a0_ ≤ 39) : zC l m_M_marksOf 0 0 [.ref 81, .int (Int32.ofInt a0_), .ref 96] Mz (zpV [] [96] Mz (fun N => (∀ k : Nat, k < F_ → Int64.ofInt (zg N 96 k) = Int64.ofInt (zmq F_ K_ (zrw F_ Mz 95 (64 * a0_)) k)))) := by
  refine zC_of (L0 := [some (.ref 81), some (.int (Int32.ofInt a0_)), some (.ref 96), none]) md_M_marksOf (Nat.le_of_ble_eq_true rfl) rfl ?_ zQ0
  have hf : zFr [] [96] Mz Mz := zFr.rf
  have r_26 := ze_r Mz 81 26
  obtain ⟨⟨hF1_, hF27_⟩, hAr_⟩ := id hA_
  obtain ⟨hFc_, hKt_⟩ := id p0_
  refine zw_iconst (pc := 0) (v := Int32.ofInt 0) (by decide) (zdal_p dlC_M_marksOf_121 (i := 0) rfl) ?_
  refine zw_istore_n (pc := 1) (i := 3) (L2 := [some (.ref 81), some (.int (Int32.ofInt a0_)), some (.ref 96), some (.int (Int32.ofInt 0))]) rfl (by decide) rfl (zdal_p dlC_M_marksOf_121 (i := 1) rfl) ?_
  have lp_2 : ∀ (n : Nat) (u1_ : Int) (hu1_a : -2147483648 ≤ u1_) (hu1_b : u1_ < 2147483648) (N2_ : zMem) (hs3_ : zFr [] [96] Mz N2_) (i4_ : 0 ≤ u1_) (i5_ : u1_ ≤ F_) (i6_ : ∀ k : Nat, (k : Int) < u1_ → Int64.ofInt (zg N2_ 96 k) = Int64.ofInt (zmq F_ K_ (zrw F_ Mz 95 (64 * a0_)) k)), (F_ - u1_).toNat < n → zW l m_M_marksOf (zn Mz + 0, zw Mz + 0) N2_ 2 [some (.ref 81), some (.int (Int32.ofInt a0_)), some (.ref 96), some (.int (Int32.ofInt u1_))] [] (zpV [] [96] Mz (fun N => (∀ k : Nat, k < F_ → Int64.ofInt (zg N 96 k) = Int64.ofInt (zmq F_ K_ (zrw F_ Mz 95 (64 * a0_)) k)))) := by
    intro n
    induction n with
    | zero =>
      intro u1_ hu1_a hu1_b N2_ hs3_ i4_ i5_ i6_ h0
      exact absurd h0 (Nat.not_lt_zero _)
    | succ n ih_2 =>
      intro u1_ hu1_a hu1_b N2_ hs3_ i4_ i5_ i6_ hlt_2
      have hf_N2_ : zFr [] [96] Mz N2_ := hf.tr hs3_ (by decide) (by decide)
      have e26_N2_ : ze N2_ 81 26 = ze Mz 81 26 := hs3_.e (by decide)
      have c7_ : zRmk F_ K_ N2_ := zRmk.fr hs3_ p0_ (by decide) (by decide)
      have hmo_ := (show ∀ k : Nat, (k : Int) < u1_ → Int64.ofInt (zg N2_ 96 k) = Int64.ofInt (zmq F_ K_ (zrw F_ Mz 95 (64 * a0_)) k) by assumption)
      refine zw_iload_n (pc := 2) (n := 3) (x := Int32.ofInt u1_) rfl (zdal_p dlC_M_marksOf_121 (i := 2) rfl) ?_
      refine zw_aload_n (pc := 3) (n := 0) (x := 81) rfl (zdal_p dlC_M_marksOf_121 (i := 3) rfl) ?_
      refine zr_getI0 hf_N2_ hW (pc := 4) (by decide) f_M_235 rfl (zdal_p dlC_M_marksOf_121 (i := 4) rfl) ?_
      refine zr_icmp_ge (pc := 7) (tgt := 32) ⟨hu1_a, hu1_b⟩ ⟨(ze_r Mz 81 26).1, (ze_r Mz 81 26).2⟩ (by decide) (zdal_p dlC_M_marksOf_121 (i := 5) rfl) (fun hc_7 => ?_) (fun hc_7 => ?_)
      · skip
        exact zr_vret (pc := 32) rfl hf_N2_ (show (∀ k : Nat, k < F_ → Int64.ofInt (zg N2_ 96 k) = Int64.ofInt (zmq F_ K_ (zrw F_ Mz 95 (64 * a0_)) k)) by exact fun k hk => hmo_ k (by omega)) (zdal_p dlC_M_marksOf_121 (i := 19) rfl)
      · skip
        refine zw_aload_n (pc := 10) (n := 2) (x := 96) rfl (zdal_p dlC_M_marksOf_121 (i := 6) rfl) ?_
        refine zw_iload_n (pc := 11) (n := 3) (x := Int32.ofInt u1_) rfl (zdal_p dlC_M_marksOf_121 (i := 7) rfl) ?_
        refine zw_aload_n (pc := 12) (n := 0) (x := 81) rfl (zdal_p dlC_M_marksOf_121 (i := 8) rfl) ?_
        refine zw_aload_n (pc := 13) (n := 0) (x := 81) rfl (zdal_p dlC_M_marksOf_121 (i := 9) rfl) ?_
        refine zr_getF (r := 95) (hf_N2_.w hW) (pc := 14) f_M_56 rfl (zh_95 (hf_N2_.w hW)).1 (zdal_p dlC_M_marksOf_121 (i := 10) rfl) ?_
        refine zw_bipush (pc := 17) (v := Int32.ofInt 64) (by decide) (zdal_p dlC_M_marksOf_121 (i := 11) rfl) ?_
        refine zw_iload_n (pc := 19) (n := 1) (x := Int32.ofInt a0_) rfl (zdal_p dlC_M_marksOf_121 (i := 12) rfl) ?_
        refine zr_imul (pc := 20) (zdal_p dlC_M_marksOf_121 (i := 13) rfl) ?_
        refine zw_iload_n (pc := 21) (n := 3) (x := Int32.ofInt u1_) rfl (zdal_p dlC_M_marksOf_121 (i := 14) rfl) ?_
        refine zr_callV (hf_N2_.w hW) hf_N2_.x (pc := 22) [.ref 95, .int (Int32.ofInt (64 * a0_)), .int (Int32.ofInt u1_)] [.int (Int32.ofInt u1_), .ref 96] l_M_264 (c_M_markAt_95F l N2_ (hf_N2_.w hW) (64 * a0_) (by omega) (by omega) u1_ hu1_a hu1_b F_ K_ hA_ c7_ (show 0 ≤ (64 * a0_) by first | assumption | omega) (show (64 * a0_) ≤ 2496 by first | assumption | omega) (show 0 ≤ u1_ by first | assumption | omega) (show u1_ < F_ by first | assumption | omega)) rfl rfl rfl (by decide) (Nat.le_of_ble_eq_true rfl) (zdal_p dlC_M_marksOf_121 (i := 15) rfl) ?_
        rintro _ N8_ ⟨v9_, rfl, ⟨hv9_a, hv9_b⟩, hsN8_, hp0_N8_⟩
        obtain rfl := hsN8_.eq.symm
        replace hp0_N8_ : Int64.ofInt v9_ = Int64.ofInt (zmq F_ K_ (zrw F_ N2_ 95 (64 * a0_)) (u1_).toNat) := hp0_N8_
        show zW l m_M_marksOf (zn Mz + 0, zw Mz + 0) N2_ 25 [some (.ref 81), some (.int (Int32.ofInt a0_)), some (.ref 96), some (.int (Int32.ofInt u1_))] [.long (Int64.ofInt v9_), .int (Int32.ofInt u1_), .ref 96] _
        have hmk_ := hp0_N8_
        have h95_ : (zrw F_ N2_ 95 (64 * a0_)) = (zrw F_ Mz 95 (64 * a0_)) := zrw_c (fun k _ => hf_N2_.jg (by decide) (by decide) _)
        rw [h95_] at hmk_
        refine zr_last (pc := 25) (zh_96 (hf_N2_.w hW)).2 (by decide) (by decide) (by omega) (by omega) (zdal_p dlC_M_marksOf_121 (i := 16) rfl) (fun N10_ hN10_ hsN10_ => ?_)
        have hf_N10_ : zFr [] [96] Mz N10_ := hf_N2_.tr hsN10_ (by decide) (by decide)
        have hb0_N10_ : zFr [] [96] Mz N10_ := hs3_.tr hsN10_ (by decide) (by decide)
        have e26_N10_ : ze N10_ 81 26 = ze N2_ 81 26 := hsN10_.e (by decide)
        have c11_ : zRmk F_ K_ N10_ := zRmk.fr hsN10_ c7_ (by decide) (by decide)
        have hm2_ : ∀ k : Nat, (k : Int) < u1_ + 1 → Int64.ofInt (zg N10_ 96 k) = Int64.ofInt (zmq F_ K_ (zrw F_ Mz 95 (64 * a0_)) k) := fun k hk => by by_cases g_ : (k : Int) = u1_; rw [show k = (u1_).toNat by omega, zs_getJ hN10_ ⟨by omega, by omega⟩]; exact hmk_; rw [zs_othJ hN10_ (by omega)]; exact hmo_ k (by omega)
        refine zr_iinc (pc := 26) (i := 3) (a := u1_) (n := 1) (L2 := [some (.ref 81), some (.int (Int32.ofInt a0_)), some (.ref 96), some (.int (Int32.ofInt (u1_ + 1)))]) rfl (by decide) rfl (zdal_p dlC_M_marksOf_121 (i := 17) rfl) ?_
        refine zw_goto (pc := 29) (tgt := 2) (by decide) (zdal_p dlC_M_marksOf_121 (i := 18) rfl) ?_
        exact ih_2 (u1_ + 1) (by omega) (by omega) N10_ hb0_N10_ (show 0 ≤ (u1_ + 1) by first | assumption | omega) (show (u1_ + 1) ≤ F_ by first | assumption | omega) (show ∀ k : Nat, (k : Int) < (u1_ + 1) → Int64.ofInt (zg N10_ 96 k) = Int64.ofInt (zmq F_ K_ (zrw F_ Mz 95 (64 * a0_)) k) by exact hm2_) (by omega)
  exact lp_2 _ 0 (by decide) (by decide) Mz zFr.rf (show 0 ≤ (0 : Int) by first | assumption | omega) (show (0 : Int) ≤ F_ by first | assumption | omega) (show ∀ k : Nat, (k : Int) < (0 : Int) → Int64.ofInt (zg Mz 96 k) = Int64.ofInt (zmq F_ K_ (zrw F_ Mz 95 (64 * a0_)) k) by exact fun k hk => absurd hk (by omega)) (Nat.lt_succ_self _)
set_option maxHeartbeats 4000000 in
theorem c_M_marksOf_97F (l : Launch) (Mz : zMem) (hW : zMt Mz) (a0_ : Int) (ha0_a : -2147483648 ≤ a0_) (ha0_b : a0_ < 2147483648) (F_ : Nat) (K_ : Nat → Nat → Int) (hA_ : zTA F_ K_) (p0_ : zRmk F_ K_ Mz) (p1_ : 0 ≤ a0_) (p2_ : a0_ ≤ 39) : zC l m_M_marksOf 0 0 [.ref 81, .int (Int32.ofInt a0_), .ref 97] Mz (zpV [] [97] Mz (fun N => (∀ k : Nat, k < F_ → Int64.ofInt (zg N 97 k) = Int64.ofInt (zmq F_ K_ (zrw F_ Mz 95 (64 * a0_)) k)))) := by
  refine zC_of (L0 := [some (.ref 81), some (.int (Int32.ofInt a0_)), some (.ref 97), none]) md_M_marksOf (Nat.le_of_ble_eq_true rfl) rfl ?_ zQ0
  have hf : zFr [] [97] Mz Mz := zFr.rf
  have r_26 := ze_r Mz 81 26
  obtain ⟨⟨hF1_, hF27_⟩, hAr_⟩ := id hA_
  obtain ⟨hFc_, hKt_⟩ := id p0_
  refine zw_iconst (pc := 0) (v := Int32.ofInt 0) (by decide) (zdal_p dlC_M_marksOf_121 (i := 0) rfl) ?_
  refine zw_istore_n (pc := 1) (i := 3) (L2 := [some (.ref 81), some (.int (Int32.ofInt a0_)), some (.ref 97), some (.int (Int32.ofInt 0))]) rfl (by decide) rfl (zdal_p dlC_M_marksOf_121 (i := 1) rfl) ?_
  have lp_2 : ∀ (n : Nat) (u1_ : Int) (hu1_a : -2147483648 ≤ u1_) (hu1_b : u1_ < 2147483648) (N2_ : zMem) (hs3_ : zFr [] [97] Mz N2_) (i4_ : 0 ≤ u1_) (i5_ : u1_ ≤ F_) (i6_ : ∀ k : Nat, (k : Int) < u1_ → Int64.ofInt (zg N2_ 97 k) = Int64.ofInt (zmq F_ K_ (zrw F_ Mz 95 (64 * a0_)) k)), (F_ - u1_).toNat < n → zW l m_M_marksOf (zn Mz + 0, zw Mz + 0) N2_ 2 [some (.ref 81), some (.int (Int32.ofInt a0_)), some (.ref 97), some (.int (Int32.ofInt u1_))] [] (zpV [] [97] Mz (fun N => (∀ k : Nat, k < F_ → Int64.ofInt (zg N 97 k) = Int64.ofInt (zmq F_ K_ (zrw F_ Mz 95 (64 * a0_)) k)))) := by
    intro n
    induction n with
    | zero =>
      intro u1_ hu1_a hu1_b N2_ hs3_ i4_ i5_ i6_ h0
      exact absurd h0 (Nat.not_lt_zero _)
    | succ n ih_2 =>
      intro u1_ hu1_a hu1_b N2_ hs3_ i4_ i5_ i6_ hlt_2
      have hf_N2_ : zFr [] [97] Mz N2_ := hf.tr hs3_ (by decide) (by decide)
      have e26_N2_ : ze N2_ 81 26 = ze Mz 81 26 := hs3_.e (by decide)
      have c7_ : zRmk F_ K_ N2_ := zRmk.fr hs3_ p0_ (by decide) (by decide)
      have hmo_ := (show ∀ k : Nat, (k : Int) < u1_ → Int64.ofInt (zg N2_ 97 k) = Int64.ofInt (zmq F_ K_ (zrw F_ Mz 95 (64 * a0_)) k) by assumption)
      refine zw_iload_n (pc := 2) (n := 3) (x := Int32.ofInt u1_) rfl (zdal_p dlC_M_marksOf_121 (i := 2) rfl) ?_
      refine zw_aload_n (pc := 3) (n := 0) (x := 81) rfl (zdal_p dlC_M_marksOf_121 (i := 3) rfl) ?_
      refine zr_getI0 hf_N2_ hW (pc := 4) (by decide) f_M_235 rfl (zdal_p dlC_M_marksOf_121 (i := 4) rfl) ?_
      refine zr_icmp_ge (pc := 7) (tgt := 32) ⟨hu1_a, hu1_b⟩ ⟨(ze_r Mz 81 26).1, (ze_r Mz 81 26).2⟩ (by decide) (zdal_p dlC_M_marksOf_121 (i := 5) rfl) (fun hc_7 => ?_) (fun hc_7 => ?_)
      · skip
        exact zr_vret (pc := 32) rfl hf_N2_ (show (∀ k : Nat, k < F_ → Int64.ofInt (zg N2_ 97 k) = Int64.ofInt (zmq F_ K_ (zrw F_ Mz 95 (64 * a0_)) k)) by exact fun k hk => hmo_ k (by omega)) (zdal_p dlC_M_marksOf_121 (i := 19) rfl)
      · skip
        refine zw_aload_n (pc := 10) (n := 2) (x := 97) rfl (zdal_p dlC_M_marksOf_121 (i := 6) rfl) ?_
        refine zw_iload_n (pc := 11) (n := 3) (x := Int32.ofInt u1_) rfl (zdal_p dlC_M_marksOf_121 (i := 7) rfl) ?_
        refine zw_aload_n (pc := 12) (n := 0) (x := 81) rfl (zdal_p dlC_M_marksOf_121 (i := 8) rfl) ?_
        refine zw_aload_n (pc := 13) (n := 0) (x := 81) rfl (zdal_p dlC_M_marksOf_121 (i := 9) rfl) ?_
        refine zr_getF (r := 95) (hf_N2_.w hW) (pc := 14) f_M_56 rfl (zh_95 (hf_N2_.w hW)).1 (zdal_p dlC_M_marksOf_121 (i := 10) rfl) ?_
        refine zw_bipush (pc := 17) (v := Int32.ofInt 64) (by decide) (zdal_p dlC_M_marksOf_121 (i := 11) rfl) ?_
        refine zw_iload_n (pc := 19) (n := 1) (x := Int32.ofInt a0_) rfl (zdal_p dlC_M_marksOf_121 (i := 12) rfl) ?_
        refine zr_imul (pc := 20) (zdal_p dlC_M_marksOf_121 (i := 13) rfl) ?_
        refine zw_iload_n (pc := 21) (n := 3) (x := Int32.ofInt u1_) rfl (zdal_p dlC_M_marksOf_121 (i := 14) rfl) ?_
        refine zr_callV (hf_N2_.w hW) hf_N2_.x (pc := 22) [.ref 95, .int (Int32.ofInt (64 * a0_)), .int (Int32.ofInt u1_)] [.int (Int32.ofInt u1_), .ref 97] l_M_264 (c_M_markAt_95F l N2_ (hf_N2_.w hW) (64 * a0_) (by omega) (by omega) u1_ hu1_a hu1_b F_ K_ hA_ c7_ (show 0 ≤ (64 * a0_) by first | assumption | omega) (show (64 * a0_) ≤ 2496 by first | assumption | omega) (show 0 ≤ u1_ by first | assumption | omega) (show u1_ < F_ by first | assumption | omega)) rfl rfl rfl (by decide) (Nat.le_of_ble_eq_true rfl) (zdal_p dlC_M_marksOf_121 (i := 15) rfl) ?_
        rintro _ N8_ ⟨v9_, rfl, ⟨hv9_a, hv9_b⟩, hsN8_, hp0_N8_⟩
        obtain rfl := hsN8_.eq.symm
        replace hp0_N8_ : Int64.ofInt v9_ = Int64.ofInt (zmq F_ K_ (zrw F_ N2_ 95 (64 * a0_)) (u1_).toNat) := hp0_N8_
        show zW l m_M_marksOf (zn Mz + 0, zw Mz + 0) N2_ 25 [some (.ref 81), some (.int (Int32.ofInt a0_)), some (.ref 97), some (.int (Int32.ofInt u1_))] [.long (Int64.ofInt v9_), .int (Int32.ofInt u1_), .ref 97] _
        have hmk_ := hp0_N8_
        have h95_ : (zrw F_ N2_ 95 (64 * a0_)) = (zrw F_ Mz 95 (64 * a0_)) := zrw_c (fun k _ => hf_N2_.jg (by decide) (by decide) _)
        rw [h95_] at hmk_
        refine zr_last (pc := 25) (zh_97 (hf_N2_.w hW)).2 (by decide) (by decide) (by omega) (by omega) (zdal_p dlC_M_marksOf_121 (i := 16) rfl) (fun N10_ hN10_ hsN10_ => ?_)
        have hf_N10_ : zFr [] [97] Mz N10_ := hf_N2_.tr hsN10_ (by decide) (by decide)
        have hb0_N10_ : zFr [] [97] Mz N10_ := hs3_.tr hsN10_ (by decide) (by decide)
        have e26_N10_ : ze N10_ 81 26 = ze N2_ 81 26 := hsN10_.e (by decide)
        have c11_ : zRmk F_ K_ N10_ := zRmk.fr hsN10_ c7_ (by decide) (by decide)
        have hm2_ : ∀ k : Nat, (k : Int) < u1_ + 1 → Int64.ofInt (zg N10_ 97 k) = Int64.ofInt (zmq F_ K_ (zrw F_ Mz 95 (64 * a0_)) k) := fun k hk => by by_cases g_ : (k : Int) = u1_; rw [show k = (u1_).toNat by omega, zs_getJ hN10_ ⟨by omega, by omega⟩]; exact hmk_; rw [zs_othJ hN10_ (by omega)]; exact hmo_ k (by omega)
        refine zr_iinc (pc := 26) (i := 3) (a := u1_) (n := 1) (L2 := [some (.ref 81), some (.int (Int32.ofInt a0_)), some (.ref 97), some (.int (Int32.ofInt (u1_ + 1)))]) rfl (by decide) rfl (zdal_p dlC_M_marksOf_121 (i := 17) rfl) ?_
        refine zw_goto (pc := 29) (tgt := 2) (by decide) (zdal_p dlC_M_marksOf_121 (i := 18) rfl) ?_
        exact ih_2 (u1_ + 1) (by omega) (by omega) N10_ hb0_N10_ (show 0 ≤ (u1_ + 1) by first | assumption | omega) (show (u1_ + 1) ≤ F_ by first | assumption | omega) (show ∀ k : Nat, (k : Int) < (u1_ + 1) → Int64.ofInt (zg N10_ 97 k) = Int64.ofInt (zmq F_ K_ (zrw F_ Mz 95 (64 * a0_)) k) by exact hm2_) (by omega)
  exact lp_2 _ 0 (by decide) (by decide) Mz zFr.rf (show 0 ≤ (0 : Int) by first | assumption | omega) (show (0 : Int) ≤ F_ by first | assumption | omega) (show ∀ k : Nat, (k : Int) < (0 : Int) → Int64.ofInt (zg Mz 97 k) = Int64.ofInt (zmq F_ K_ (zrw F_ Mz 95 (64 * a0_)) k) by exact fun k hk => absurd hk (by omega)) (Nat.lt_succ_self _)
