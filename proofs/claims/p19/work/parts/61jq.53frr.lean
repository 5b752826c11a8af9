set_option maxHeartbeats 4000000 in
theorem c_M_orbitG (l : Launch) (Mz : zMem) (hW : zMt Mz) (a0_ : Int) (ha0_a : -2147483648 ≤ a0_) (ha0_b : a0_ < 2147483648) (T : zGT) (hO : gOK T) (P_ : Nat) (mv_ : List Nat) (p0_ : zGB T Mz) (p1_ : zCdR (P_ : Int) mv_ T Mz) (p2_ : ze Mz 81 16 = (P_ : Int)) (p3_ : 1 ≤ P_) (p4_ : P_ ≤ 6) : zC l m_M_orbit 0 0 [.ref 81, .int (Int32.ofInt a0_)] Mz (zpI [] [] Mz (fun v N => (((0 ≤ a0_ ∧ a0_ < (P_ : Int) ∧ ∃ c_ : Nat → Nat, gTb mv_ c_ T ∧ zImg (fun _ => True) (fun m_ => gdg (c_ m_) (a0_).toNat) (gN T) v) ∨ (¬ (0 ≤ a0_ ∧ a0_ < (P_ : Int)) ∧ v = (-1 : Int)))))) := by
  refine zC_of (L0 := [some (.ref 81), some (.int (Int32.ofInt a0_)), none, none]) md_M_orbit (Nat.le_of_ble_eq_true rfl) rfl ?_ zQ0
  have hf : zFr [] [] Mz Mz := zFr.rf
  have r_16 := ze_r Mz 81 16
  have r_20 := ze_r Mz 81 20
  have hG := hO.1
  have g24 := hG.2.1
  have g1 := hG.1
  have dv0 : zTab T Mz := p0_.1
  have dv1 : zB 85 144 0 5 Mz := p0_.2.1
  have dv2 : zJX T Mz := p0_.2.2.1
  have dv3 : zFirs T Mz := p0_.2.2.2.1
  have dv4 : zSSm T Mz := p0_.2.2.2.2.1
  have dv5 : zGD Mz := zGB.d hO p0_
  have gb := dv5.1
  have gn := dv0.1
  have hsz_ := dv0.1
  refine zw_iload_n (pc := 0) (n := 1) (x := Int32.ofInt a0_) rfl (zdal_p dlD_M_orbit_43 (i := 0) rfl) ?_
  refine zr_i2l (pc := 1) ⟨ha0_a, ha0_b⟩ (zdal_p dlD_M_orbit_43 (i := 1) rfl) ?_
  refine zw_lconst (pc := 2) (v := Int64.ofInt 0) (by decide) (zdal_p dlD_M_orbit_43 (i := 2) rfl) ?_
  refine zw_aload_n (pc := 3) (n := 0) (x := 81) rfl (zdal_p dlD_M_orbit_43 (i := 3) rfl) ?_
  refine zr_getI0 hf hW (pc := 4) (by decide) f_M_382 rfl (zdal_p dlD_M_orbit_43 (i := 4) rfl) ?_
  refine zw_iconst (pc := 7) (v := Int32.ofInt 1) (by decide) (zdal_p dlD_M_orbit_43 (i := 5) rfl) ?_
  refine zr_isub (pc := 8) (zdal_p dlD_M_orbit_43 (i := 6) rfl) ?_
  refine zr_i2l (pc := 9) ⟨(by omega), (by omega)⟩ (zdal_p dlD_M_orbit_43 (i := 7) rfl) ?_
  refine zr_callS hf.x (pc := 10) [.long (Int64.ofInt a0_), .long (Int64.ofInt 0), .long (Int64.ofInt ((ze Mz 81 16) - 1))] [] l_M_131 (c_M_isIn l Mz (hf.w hW) a0_ (by omega) (by omega) 0 (by decide) (by decide) ((ze Mz 81 16) - 1) (by omega) (by omega)) rfl rfl (by decide) (Nat.le_of_ble_eq_true rfl) (zdal_p dlD_M_orbit_43 (i := 8) rfl) ?_
  rintro _ N1_ ⟨v2_, rfl, ⟨hv2_a, hv2_b⟩, hsN1_, hp0_N1_⟩
  obtain rfl := hsN1_.eq.symm
  replace hp0_N1_ : ((v2_ = 1 ∧ 0 ≤ a0_ ∧ a0_ ≤ ((ze Mz 81 16) - 1)) ∨ (v2_ = 0 ∧ (a0_ < 0 ∨ ((ze Mz 81 16) - 1) < a0_))) := hp0_N1_
  rcases hp0_N1_ with ⟨rfl, ha10_0_hp0_N1_, ha10_1_hp0_N1_⟩ | ⟨rfl, ha10_0_hp0_N1_⟩
  · skip
    show zW l m_M_orbit (zn Mz + 0, zw Mz + 0) Mz 13 [some (.ref 81), some (.int (Int32.ofInt a0_)), none, none] [.int (Int32.ofInt 1)] _
    refine zr_if_ne (pc := 13) (tgt := 18) ⟨(by decide), (by decide)⟩ (by decide) (zdal_p dlD_M_orbit_43 (i := 9) rfl) (fun hc_13 => ?_) (fun hc_13 => ?_)
    · skip
      refine zw_iconst (pc := 18) (v := Int32.ofInt 0) (by decide) (zdal_p dlD_M_orbit_43 (i := 12) rfl) ?_
      refine zw_istore_n (pc := 19) (i := 2) (L2 := [some (.ref 81), some (.int (Int32.ofInt a0_)), some (.int (Int32.ofInt 0)), none]) rfl (by decide) rfl (zdal_p dlD_M_orbit_43 (i := 13) rfl) ?_
      refine zw_iconst (pc := 20) (v := Int32.ofInt 0) (by decide) (zdal_p dlD_M_orbit_43 (i := 14) rfl) ?_
      refine zw_istore_n (pc := 21) (i := 3) (L2 := [some (.ref 81), some (.int (Int32.ofInt a0_)), some (.int (Int32.ofInt 0)), some (.int (Int32.ofInt 0))]) rfl (by decide) rfl (zdal_p dlD_M_orbit_43 (i := 15) rfl) ?_
      have lp_22 : ∀ (n : Nat) (u3_ : Int) (hu3_a : -2147483648 ≤ u3_) (hu3_b : u3_ < 2147483648) (u4_ : Int) (hu4_a : -2147483648 ≤ u4_) (hu4_b : u4_ < 2147483648) (i5_ : 0 ≤ u4_) (i6_ : u4_ ≤ gN T) (i7_ : zImg (fun _ => True) (fun m_ => gdg (zrc Mz 85 m_ (P_ : Int)) (a0_).toNat) (u4_).toNat u3_), (gN T - u4_).toNat < n → zW l m_M_orbit (zn Mz + 0, zw Mz + 0) Mz 22 [some (.ref 81), some (.int (Int32.ofInt a0_)), some (.int (Int32.ofInt u3_)), some (.int (Int32.ofInt u4_))] [] (zpI [] [] Mz (fun v N => (((0 ≤ a0_ ∧ a0_ < (P_ : Int) ∧ ∃ c_ : Nat → Nat, gTb mv_ c_ T ∧ zImg (fun _ => True) (fun m_ => gdg (c_ m_) (a0_).toNat) (gN T) v) ∨ (¬ (0 ≤ a0_ ∧ a0_ < (P_ : Int)) ∧ v = (-1 : Int)))))) := by
        intro n
        induction n with
        | zero =>
          intro u3_ hu3_a hu3_b u4_ hu4_a hu4_b i5_ i6_ i7_ h0
          exact absurd h0 (Nat.not_lt_zero _)
        | succ n ih_22 =>
          intro u3_ hu3_a hu3_b u4_ hu4_a hu4_b i5_ i6_ i7_ hlt_22
          have hpi_ := (show zImg (fun _ => True) (fun m_ => gdg (zrc Mz 85 m_ (P_ : Int)) (a0_).toNat) (u4_).toNat u3_ by first | with_reducible assumption | assumption)
          have hpr_ := hpi_.1
          refine zw_iload_n (pc := 22) (n := 3) (x := Int32.ofInt u4_) rfl (zdal_p dlD_M_orbit_43 (i := 16) rfl) ?_
          refine zw_aload_n (pc := 23) (n := 0) (x := 81) rfl (zdal_p dlD_M_orbit_43 (i := 17) rfl) ?_
          refine zr_getI0 hf hW (pc := 24) (by decide) f_M_196 rfl (zdal_p dlD_M_orbit_43 (i := 18) rfl) ?_
          refine zr_icmp_ge (pc := 27) (tgt := 52) ⟨hu4_a, hu4_b⟩ ⟨(ze_r Mz 81 20).1, (ze_r Mz 81 20).2⟩ (by decide) (zdal_p dlD_M_orbit_43 (i := 19) rfl) (fun hc_27 => ?_) (fun hc_27 => ?_)
          · skip
            refine zw_iload_n (pc := 52) (n := 2) (x := Int32.ofInt u3_) rfl (zdal_p dlD_M_orbit_44 (i := 11) rfl) ?_
            exact zr_iret (pc := 53) (ty := .int) rfl rfl ⟨by omega, by omega⟩ hf (show ((0 ≤ a0_ ∧ a0_ < (P_ : Int) ∧ ∃ c_ : Nat → Nat, gTb mv_ c_ T ∧ zImg (fun _ => True) (fun m_ => gdg (c_ m_) (a0_).toNat) (gN T) u3_) ∨ (¬ (0 ≤ a0_ ∧ a0_ < (P_ : Int)) ∧ u3_ = (-1 : Int))) by exact Or.inl ⟨by omega, by omega, _, p1_, by rw [show gN T = (u4_).toNat by omega]; exact hpi_⟩) (zdal_p dlD_M_orbit_44 (i := 12) rfl)
          · skip
            refine zw_iload_n (pc := 30) (n := 2) (x := Int32.ofInt u3_) rfl (zdal_p dlD_M_orbit_43 (i := 20) rfl) ?_
            refine zw_iconst (pc := 31) (v := Int32.ofInt 1) (by decide) (zdal_p dlD_M_orbit_43 (i := 21) rfl) ?_
            refine zw_aload_n (pc := 32) (n := 0) (x := 81) rfl (zdal_p dlD_M_orbit_43 (i := 22) rfl) ?_
            refine zr_getF (r := 85) (hf.w hW) (pc := 33) f_M_26 rfl (zh_85 (hf.w hW)).1 (zdal_p dlD_M_orbit_43 (i := 23) rfl) ?_
            refine zw_bipush (pc := 36) (v := Int32.ofInt 6) (by decide) (zdal_p dlD_M_orbit_44 (i := 0) rfl) ?_
            refine zw_iload_n (pc := 38) (n := 3) (x := Int32.ofInt u4_) rfl (zdal_p dlD_M_orbit_44 (i := 1) rfl) ?_
            refine zr_imul (pc := 39) (zdal_p dlD_M_orbit_44 (i := 2) rfl) ?_
            refine zw_iload_n (pc := 40) (n := 1) (x := Int32.ofInt a0_) rfl (zdal_p dlD_M_orbit_44 (i := 3) rfl) ?_
            refine zr_iadd (pc := 41) (zdal_p dlD_M_orbit_44 (i := 4) rfl) ?_
            refine zr_ialdn (pc := 42) (zh_85 (hf.w hW)).2 (by decide) (by omega) (by omega) (zdal_p dlD_M_orbit_44 (i := 5) rfl) (fun v8_ hv8_ hv8_a hv8_b => ?_)
            have hr9_ := dv1.g (e := (6 * u4_) + a0_) (by omega) (by omega)
            rw [← hv8_] at hr9_
            have hv_ := hv8_
            have hd_ := zCdR.dg (P := P_) dv1 (i := (u4_).toNat) (p := (a0_).toNat) (by omega) (by omega) (by omega)
            rw [show 6 * (u4_).toNat + (a0_).toNat = (6 * u4_ + a0_).toNat by omega, ← hv_] at hd_
            have hd8_ := gdg_lt (zrc Mz 85 (u4_).toNat (P_ : Int)) (a0_).toNat
            refine zr_ishl (pc := 43) (zdal_p dlD_M_orbit_44 (i := 6) rfl) ?_
            have hr10_ := zshl_r 1 v8_
            refine zr_ior (pc := 44) (zdal_p dlD_M_orbit_44 (i := 7) rfl) ?_
            have hr11_ := zor_r u3_ (zshl 1 v8_)
            have hpn_ := zImg_1 (q := fun _ => True) (g := (fun m_ => gdg (zrc Mz 85 m_ (P_ : Int)) (a0_).toNat)) (by omega) hpi_ trivial hd_ (show gdg _ _ < 24 by omega)
            refine zw_istore_n (pc := 45) (i := 2) (L2 := [some (.ref 81), some (.int (Int32.ofInt a0_)), some (.int (Int32.ofInt (zor u3_ (zshl 1 v8_)))), some (.int (Int32.ofInt u4_))]) rfl (by decide) rfl (zdal_p dlD_M_orbit_44 (i := 8) rfl) ?_
            refine zr_iinc (pc := 46) (i := 3) (a := u4_) (n := 1) (L2 := [some (.ref 81), some (.int (Int32.ofInt a0_)), some (.int (Int32.ofInt (zor u3_ (zshl 1 v8_)))), some (.int (Int32.ofInt (u4_ + 1)))]) rfl (by decide) rfl (zdal_p dlD_M_orbit_44 (i := 9) rfl) ?_
            refine zw_goto (pc := 49) (tgt := 22) (by decide) (zdal_p dlD_M_orbit_44 (i := 10) rfl) ?_
            exact ih_22 (zor u3_ (zshl 1 v8_)) (by omega) (by omega) (u4_ + 1) (by omega) (by omega) (show 0 ≤ (u4_ + 1) by first | with_reducible assumption | assumption | omega) (show (u4_ + 1) ≤ gN T by first | with_reducible assumption | assumption | omega) (show zImg (fun _ => True) (fun m_ => gdg (zrc Mz 85 m_ (P_ : Int)) (a0_).toNat) ((u4_ + 1)).toNat (zor u3_ (zshl 1 v8_)) by exact hpn_) (by omega)
      exact lp_22 _ 0 (by decide) (by decide) 0 (by decide) (by decide) (show 0 ≤ (0 : Int) by first | with_reducible assumption | assumption | omega) (show (0 : Int) ≤ gN T by first | with_reducible assumption | assumption | omega) (show zImg (fun _ => True) (fun m_ => gdg (zrc Mz 85 m_ (P_ : Int)) (a0_).toNat) ((0 : Int)).toNat (0 : Int) by exact zImg_0) (Nat.lt_succ_self _)
    · skip
      exact absurd hc_13 (by decide)
  · skip
    show zW l m_M_orbit (zn Mz + 0, zw Mz + 0) Mz 13 [some (.ref 81), some (.int (Int32.ofInt a0_)), none, none] [.int (Int32.ofInt 0)] _
    refine zr_if_ne (pc := 13) (tgt := 18) ⟨(by decide), (by decide)⟩ (by decide) (zdal_p dlD_M_orbit_43 (i := 9) rfl) (fun hc_13 => ?_) (fun hc_13 => ?_)
    · skip
      exact absurd hc_13 (by decide)
    · skip
      refine zw_iconst (pc := 16) (v := Int32.ofInt (-1)) (by decide) (zdal_p dlD_M_orbit_43 (i := 10) rfl) ?_
      exact zr_iret (pc := 17) (ty := .int) rfl rfl ⟨by omega, by omega⟩ hf (show ((0 ≤ a0_ ∧ a0_ < (P_ : Int) ∧ ∃ c_ : Nat → Nat, gTb mv_ c_ T ∧ zImg (fun _ => True) (fun m_ => gdg (c_ m_) (a0_).toNat) (gN T) ((-1))) ∨ (¬ (0 ≤ a0_ ∧ a0_ < (P_ : Int)) ∧ ((-1)) = (-1 : Int))) by exact Or.inr ⟨by omega, rfl⟩) (zdal_p dlD_M_orbit_43 (i := 11) rfl)
