set_option maxHeartbeats 4000000 in
theorem c_M_holds (l : Launch) (Mz : zMem) (hW : zMt Mz) (a0_ : Int) (ha0_a : -2147483648 ≤ a0_) (ha0_b : a0_ < 2147483648) (a1_ : Int) (ha1_a : -2147483648 ≤ a1_) (ha1_b : a1_ < 2147483648) (p0_ : 0 ≤ a0_) (p1_ : 0 ≤ a1_) (p2_ : a1_ < 32) : zC l m_M_holds 0 0 [.int (Int32.ofInt a0_), .int (Int32.ofInt a1_)] Mz (zpI [] [] Mz (fun v N => (((v = 1 ∧ zbt a0_ a1_) ∨ (v = 0 ∧ ¬ zbt a0_ a1_))))) := by
  refine zC_of (L0 := [some (.int (Int32.ofInt a0_)), some (.int (Int32.ofInt a1_))]) md_M_holds (Nat.le_of_ble_eq_true rfl) rfl ?_ zQ0
  have hf : zFr [] [] Mz Mz := zFr.rf
  refine zw_iload_n (pc := 0) (n := 0) (x := Int32.ofInt a0_) rfl (zdal_p dlC_M_holds_29 (i := 0) rfl) ?_
  refine zw_iload_n (pc := 1) (n := 1) (x := Int32.ofInt a1_) rfl (zdal_p dlC_M_holds_29 (i := 1) rfl) ?_
  refine zr_ishr (pc := 2) (zdal_p dlC_M_holds_29 (i := 2) rfl) ?_
  have hr1_ := zshr_r a0_ a1_
  refine zw_iconst (pc := 3) (v := Int32.ofInt 1) (by decide) (zdal_p dlC_M_holds_29 (i := 3) rfl) ?_
  refine zr_iand (pc := 4) (zdal_p dlC_M_holds_29 (i := 4) rfl) ?_
  have hr2_ := zand_r (zshr a0_ a1_) 1
  have hz := zbit (x := a0_) (k := a1_) (by omega) (by omega) (by omega) (by omega)
  refine zw_iconst (pc := 5) (v := Int32.ofInt 1) (by decide) (zdal_p dlC_M_holds_29 (i := 5) rfl) ?_
  refine zr_icmp_ne (pc := 6) (tgt := 13) ⟨(by omega), (by omega)⟩ ⟨(by decide), (by decide)⟩ (by decide) (zdal_p dlC_M_holds_29 (i := 6) rfl) (fun hc_6 => ?_) (fun hc_6 => ?_)
  · skip
    refine zw_iconst (pc := 13) (v := Int32.ofInt 0) (by decide) (zdal_p dlC_M_holds_29 (i := 9) rfl) ?_
    exact zr_iret (pc := 14) (ty := .boolean) rfl (z_narB (by omega)) ⟨by omega, by omega⟩ hf (show ((0 = 1 ∧ zbt a0_ a1_) ∨ (0 = 0 ∧ ¬ zbt a0_ a1_)) from Or.inr (⟨(show 0 = 0 by first | omega | (rcases hz with ⟨_, h⟩ | ⟨h, _⟩ <;> first | exact h | omega)), (show ¬ zbt a0_ a1_ by first | omega | (rcases hz with ⟨_, h⟩ | ⟨h, _⟩ <;> first | exact h | omega))⟩)) (zdal_p dlC_M_holds_29 (i := 10) rfl)
  · skip
    refine zw_iconst (pc := 9) (v := Int32.ofInt 1) (by decide) (zdal_p dlC_M_holds_29 (i := 7) rfl) ?_
    refine zw_goto (pc := 10) (tgt := 14) (by decide) (zdal_p dlC_M_holds_29 (i := 8) rfl) ?_
    exact zr_iret (pc := 14) (ty := .boolean) rfl (z_narB (by omega)) ⟨by omega, by omega⟩ hf (show ((1 = 1 ∧ zbt a0_ a1_) ∨ (1 = 0 ∧ ¬ zbt a0_ a1_)) from Or.inl (⟨(show 1 = 1 by first | omega | (rcases hz with ⟨h, _⟩ | ⟨_, h⟩ <;> first | exact h | omega)), (show zbt a0_ a1_ by first | omega | (rcases hz with ⟨h, _⟩ | ⟨_, h⟩ <;> first | exact h | omega))⟩)) (zdal_p dlC_M_holds_29 (i := 10) rfl)
set_option maxHeartbeats 4000000 in
theorem c_M_by (l : Launch) (Mz : zMem) (hW : zMt Mz) (a0_ : Int) (ha0_a : -2147483648 ≤ a0_) (ha0_b : a0_ < 2147483648) (a1_ : Int) (ha1_a : -2147483648 ≤ a1_) (ha1_b : a1_ < 2147483648) (T : zGT) (hG : gGd T) (p0_ : zTab T Mz) (p1_ : 0 ≤ a0_) (p2_ : a0_ < ze Mz 81 20) (p3_ : 0 ≤ a1_) (p4_ : a1_ < ze Mz 81 20) : zC l m_M_by 0 0 [.ref 81, .int (Int32.ofInt a0_), .int (Int32.ofInt a1_)] Mz (zpI [] [] Mz (fun v N => v = ((gm T (a0_).toNat (a1_).toNat : Nat) : Int) ∧ 0 ≤ v ∧ v < ze Mz 81 20)) := by
  refine zC_of (L0 := [some (.ref 81), some (.int (Int32.ofInt a0_)), some (.int (Int32.ofInt a1_))]) md_M_by (Nat.le_of_ble_eq_true rfl) rfl ?_ zQ0
  have hf : zFr [] [] Mz Mz := zFr.rf
  have r_20 := ze_r Mz 81 20
  have gn := p0_.1
  have g1 := hG.1
  have g24 := hG.2.1
  refine zw_aload_n (pc := 0) (n := 0) (x := 81) rfl (zdal_p dlC_M_by_32 (i := 0) rfl) ?_
  refine zr_getF (r := 87) (hf.w hW) (pc := 1) f_M_32 rfl (zh_87 (hf.w hW)).1 (zdal_p dlC_M_by_32 (i := 1) rfl) ?_
  refine zw_bipush (pc := 4) (v := Int32.ofInt 24) (by decide) (zdal_p dlC_M_by_32 (i := 2) rfl) ?_
  refine zw_iload_n (pc := 6) (n := 1) (x := Int32.ofInt a0_) rfl (zdal_p dlC_M_by_32 (i := 3) rfl) ?_
  refine zr_imul (pc := 7) (zdal_p dlC_M_by_32 (i := 4) rfl) ?_
  refine zw_iload_n (pc := 8) (n := 2) (x := Int32.ofInt a1_) rfl (zdal_p dlC_M_by_32 (i := 5) rfl) ?_
  refine zr_iadd (pc := 9) (zdal_p dlC_M_by_32 (i := 6) rfl) ?_
  refine zr_ialdn (pc := 10) (zh_87 (hf.w hW)).2 (by decide) (by omega) (by omega) (zdal_p dlC_M_by_32 (i := 7) rfl) (fun v1_ hv1_ hv1_a hv1_b => ?_)
  have hv := p0_.m (a := a0_) (b := a1_) (by omega) (by omega) (by omega) (by omega)
  have hw := hG.2.2.2 (a0_).toNat (a1_).toNat (by omega) (by omega)
  exact zr_iret (pc := 11) (ty := .int) rfl rfl ⟨by omega, by omega⟩ hf ⟨(show v1_ = ((gm T (a0_).toNat (a1_).toNat : Nat) : Int) by rw [‹v1_ = ze Mz 87 _›]; exact hv), (show 0 ≤ v1_ by omega), (show v1_ < ze Mz 81 20 by omega)⟩ (zdal_p dlC_M_by_32 (i := 8) rfl)
set_option maxHeartbeats 4000000 in
theorem c_M_ones (l : Launch) (Mz : zMem) (hW : zMt Mz) (a0_ : Int) (ha0_a : -2147483648 ≤ a0_) (ha0_b : a0_ < 2147483648) (p0_ : 0 ≤ a0_) : zC l m_M_ones 0 0 [.int (Int32.ofInt a0_)] Mz (zpI [] [] Mz (fun v N => v = zcb a0_ 31 ∧ 0 ≤ v ∧ v ≤ 31)) := by
  refine zC_of (L0 := [some (.int (Int32.ofInt a0_)), none, none]) md_M_ones (Nat.le_of_ble_eq_true rfl) rfl ?_ zQ0
  have hf : zFr [] [] Mz Mz := zFr.rf
  refine zw_iconst (pc := 0) (v := Int32.ofInt 0) (by decide) (zdal_p dlC_M_ones_40 (i := 0) rfl) ?_
  refine zw_istore_n (pc := 1) (i := 1) (L2 := [some (.int (Int32.ofInt a0_)), some (.int (Int32.ofInt 0)), none]) rfl (by decide) rfl (zdal_p dlC_M_ones_40 (i := 1) rfl) ?_
  refine zw_iconst (pc := 2) (v := Int32.ofInt 0) (by decide) (zdal_p dlC_M_ones_40 (i := 2) rfl) ?_
  refine zw_istore_n (pc := 3) (i := 2) (L2 := [some (.int (Int32.ofInt a0_)), some (.int (Int32.ofInt 0)), some (.int (Int32.ofInt 0))]) rfl (by decide) rfl (zdal_p dlC_M_ones_40 (i := 3) rfl) ?_
  have lp_4 : ∀ (n : Nat) (u1_ : Int) (hu1_a : -2147483648 ≤ u1_) (hu1_b : u1_ < 2147483648) (u2_ : Int) (hu2_a : -2147483648 ≤ u2_) (hu2_b : u2_ < 2147483648) (i3_ : 0 ≤ u2_) (i4_ : u2_ ≤ 31) (i5_ : 0 ≤ u1_) (i6_ : u1_ ≤ u2_) (i7_ : u1_ = zcb a0_ u2_.toNat), (31 - u2_).toNat < n → zW l m_M_ones (zn Mz + 0, zw Mz + 0) Mz 4 [some (.int (Int32.ofInt a0_)), some (.int (Int32.ofInt u1_)), some (.int (Int32.ofInt u2_))] [] (zpI [] [] Mz (fun v N => v = zcb a0_ 31 ∧ 0 ≤ v ∧ v ≤ 31)) := by
    intro n
    induction n with
    | zero =>
      intro u1_ hu1_a hu1_b u2_ hu2_a hu2_b i3_ i4_ i5_ i6_ i7_ h0
      exact absurd h0 (Nat.not_lt_zero _)
    | succ n ih_4 =>
      intro u1_ hu1_a hu1_b u2_ hu2_a hu2_b i3_ i4_ i5_ i6_ i7_ hlt_4
      refine zw_iload_n (pc := 4) (n := 2) (x := Int32.ofInt u2_) rfl (zdal_p dlC_M_ones_40 (i := 4) rfl) ?_
      refine zw_bipush (pc := 5) (v := Int32.ofInt 31) (by decide) (zdal_p dlC_M_ones_40 (i := 5) rfl) ?_
      refine zr_icmp_ge (pc := 7) (tgt := 24) ⟨hu2_a, hu2_b⟩ ⟨(by decide), (by decide)⟩ (by decide) (zdal_p dlC_M_ones_40 (i := 6) rfl) (fun hc_7 => ?_) (fun hc_7 => ?_)
      · skip
        refine zw_iload_n (pc := 24) (n := 1) (x := Int32.ofInt u1_) rfl (zdal_p dlC_M_ones_40 (i := 17) rfl) ?_
        have he : (u2_).toNat = 31 := by omega
        exact zr_iret (pc := 25) (ty := .int) rfl rfl ⟨by omega, by omega⟩ hf ⟨(show u1_ = zcb a0_ 31 by rw [← he]; assumption), (show 0 ≤ u1_ by first | assumption | omega), (show u1_ ≤ 31 by first | assumption | omega)⟩ (zdal_p dlC_M_ones_40 (i := 18) rfl)
      · skip
        refine zw_iload_n (pc := 10) (n := 1) (x := Int32.ofInt u1_) rfl (zdal_p dlC_M_ones_40 (i := 7) rfl) ?_
        refine zw_iload_n (pc := 11) (n := 0) (x := Int32.ofInt a0_) rfl (zdal_p dlC_M_ones_40 (i := 8) rfl) ?_
        refine zw_iload_n (pc := 12) (n := 2) (x := Int32.ofInt u2_) rfl (zdal_p dlC_M_ones_40 (i := 9) rfl) ?_
        refine zr_ishr (pc := 13) (zdal_p dlC_M_ones_40 (i := 10) rfl) ?_
        have hr8_ := zshr_r a0_ u2_
        refine zw_iconst (pc := 14) (v := Int32.ofInt 1) (by decide) (zdal_p dlC_M_ones_40 (i := 11) rfl) ?_
        refine zr_iand (pc := 15) (zdal_p dlC_M_ones_40 (i := 12) rfl) ?_
        have hr9_ := zand_r (zshr a0_ u2_) 1
        have hz := zbit (x := a0_) (k := u2_) (by omega) (by omega) (by omega) (by omega)
        have hz2 : zand (zshr a0_ u2_) 1 = 0 ∨ zand (zshr a0_ u2_) 1 = 1 := by rcases hz with ⟨_, h⟩ | ⟨_, h⟩ <;> omega
        have hy := zcb_s a0_ u2_ (by omega)
        refine zr_iadd (pc := 16) (zdal_p dlC_M_ones_40 (i := 13) rfl) ?_
        refine zw_istore_n (pc := 17) (i := 1) (L2 := [some (.int (Int32.ofInt a0_)), some (.int (Int32.ofInt (u1_ + (zand (zshr a0_ u2_) 1)))), some (.int (Int32.ofInt u2_))]) rfl (by decide) rfl (zdal_p dlC_M_ones_40 (i := 14) rfl) ?_
        refine zr_iinc (pc := 18) (i := 2) (a := u2_) (n := 1) (L2 := [some (.int (Int32.ofInt a0_)), some (.int (Int32.ofInt (u1_ + (zand (zshr a0_ u2_) 1)))), some (.int (Int32.ofInt (u2_ + 1)))]) rfl (by decide) rfl (zdal_p dlC_M_ones_40 (i := 15) rfl) ?_
        refine zw_goto (pc := 21) (tgt := 4) (by decide) (zdal_p dlC_M_ones_40 (i := 16) rfl) ?_
        exact ih_4 (u1_ + (zand (zshr a0_ u2_) 1)) (by omega) (by omega) (u2_ + 1) (by omega) (by omega) (show 0 ≤ (u2_ + 1) by first | assumption | omega) (show (u2_ + 1) ≤ 31 by first | assumption | omega) (show 0 ≤ (u1_ + (zand (zshr a0_ u2_) 1)) by first | assumption | omega) (show (u1_ + (zand (zshr a0_ u2_) 1)) ≤ (u2_ + 1) by first | assumption | omega) (show (u1_ + (zand (zshr a0_ u2_) 1)) = zcb a0_ (u2_ + 1).toNat by rw [hy]; omega) (by omega)
  exact lp_4 _ 0 (by decide) (by decide) 0 (by decide) (by decide) (show 0 ≤ (0 : Int) by first | assumption | omega) (show (0 : Int) ≤ 31 by first | assumption | omega) (show 0 ≤ (0 : Int) by first | assumption | omega) (show (0 : Int) ≤ (0 : Int) by first | assumption | omega) (show (0 : Int) = zcb a0_ (0 : Int).toNat by rfl) (Nat.lt_succ_self _)
set_option maxHeartbeats 4000000 in
theorem c_M_closed (l : Launch) (Mz : zMem) (hW : zMt Mz) (a0_ : Int) (ha0_a : -2147483648 ≤ a0_) (ha0_b : a0_ < 2147483648) (T : zGT) (hG : gGd T) (p0_ : zTab T Mz) (p1_ : gIn T a0_) : zC l m_M_closed 0 0 [.ref 81, .int (Int32.ofInt a0_)] Mz (zpI [] [] Mz (fun v N => gLC T (a0_).toNat (v).toNat ∧ 0 ≤ v ∧ v < 16777216)) := by
  refine zC_of (L0 := [some (.ref 81), some (.int (Int32.ofInt a0_)), none, none, none, none]) md_M_closed (Nat.le_of_ble_eq_true rfl) rfl ?_ zQ0
  have hf : zFr [] [] Mz Mz := zFr.rf
  have r_20 := ze_r Mz 81 20
  have gn := p0_.1
  have g1 := hG.1
  have g24 := hG.2.1
  refine zw_iload_n (pc := 0) (n := 1) (x := Int32.ofInt a0_) rfl (zdal_p dlC_M_closed_30 (i := 0) rfl) ?_
  refine zw_iconst (pc := 1) (v := Int32.ofInt 1) (by decide) (zdal_p dlC_M_closed_30 (i := 1) rfl) ?_
  refine zr_ior (pc := 2) (zdal_p dlC_M_closed_30 (i := 2) rfl) ?_
  have hr1_ := zor_r a0_ 1
  refine zw_istore_n (pc := 3) (i := 2) (L2 := [some (.ref 81), some (.int (Int32.ofInt a0_)), some (.int (Int32.ofInt (zor a0_ 1))), none, none, none]) rfl (by decide) rfl (zdal_p dlC_M_closed_30 (i := 3) rfl) ?_
  refine zw_iconst (pc := 4) (v := Int32.ofInt 0) (by decide) (zdal_p dlC_M_closed_30 (i := 4) rfl) ?_
  refine zw_istore_n (pc := 5) (i := 3) (L2 := [some (.ref 81), some (.int (Int32.ofInt a0_)), some (.int (Int32.ofInt (zor a0_ 1))), some (.int (Int32.ofInt 0)), none, none]) rfl (by decide) rfl (zdal_p dlC_M_closed_30 (i := 5) rfl) ?_
  have hA_0 := zclA_0 g1 g24 p1_
  have hl_0 := zclA_l g24 hA_0
  have lp_6 : ∀ (n : Nat) (u2_ : Int) (hu2_a : -2147483648 ≤ u2_) (hu2_b : u2_ < 2147483648) (u3_ : Int) (hu3_a : -2147483648 ≤ u3_) (hu3_b : u3_ < 2147483648) (i4_ : 0 ≤ u3_) (i5_ : u3_ ≤ u2_) (i6_ : u2_ < 16777216) (i7_ : zclA T a0_ u2_ u3_), (16777216 - u3_).toNat < n → zW l m_M_closed (zn Mz + 0, zw Mz + 0) Mz 6 [some (.ref 81), some (.int (Int32.ofInt a0_)), some (.int (Int32.ofInt u2_)), some (.int (Int32.ofInt u3_)), none, none] [] (zpI [] [] Mz (fun v N => gLC T (a0_).toNat (v).toNat ∧ 0 ≤ v ∧ v < 16777216)) := by
    intro n
    induction n with
    | zero =>
      intro u2_ hu2_a hu2_b u3_ hu3_a hu3_b i4_ i5_ i6_ i7_ h0
      exact absurd h0 (Nat.not_lt_zero _)
    | succ n ih_6 =>
      intro u2_ hu2_a hu2_b u3_ hu3_a hu3_b i4_ i5_ i6_ i7_ hlt_6
      refine zw_iload_n (pc := 6) (n := 2) (x := Int32.ofInt u2_) rfl (zdal_p dlC_M_closed_30 (i := 6) rfl) ?_
      refine zw_iload_n (pc := 7) (n := 3) (x := Int32.ofInt u3_) rfl (zdal_p dlC_M_closed_30 (i := 7) rfl) ?_
      refine zr_icmp_eq (pc := 8) (tgt := 83) ⟨hu2_a, hu2_b⟩ ⟨hu3_a, hu3_b⟩ (by decide) (zdal_p dlC_M_closed_30 (i := 8) rfl) (fun hc_8 => ?_) (fun hc_8 => ?_)
      · skip
        refine zw_iload_n (pc := 83) (n := 2) (x := Int32.ofInt u2_) rfl (zdal_p dlC_M_closed_31 (i := 21) rfl) ?_
        have hE := zclA_e ‹zclA T a0_ _ _› (by omega)
        exact zr_iret (pc := 84) (ty := .int) rfl rfl ⟨by omega, by omega⟩ hf ⟨(show gLC T (a0_).toNat (u2_).toNat by first | assumption | omega), (show 0 ≤ u2_ by first | assumption | omega), (show u2_ < 16777216 by first | assumption | omega)⟩ (zdal_p dlC_M_closed_31 (i := 22) rfl)
      · skip
        refine zw_iload_n (pc := 11) (n := 2) (x := Int32.ofInt u2_) rfl (zdal_p dlC_M_closed_30 (i := 9) rfl) ?_
        refine zw_istore_n (pc := 12) (i := 3) (L2 := [some (.ref 81), some (.int (Int32.ofInt a0_)), some (.int (Int32.ofInt u2_)), some (.int (Int32.ofInt u2_)), none, none]) rfl (by decide) rfl (zdal_p dlC_M_closed_30 (i := 10) rfl) ?_
        refine zw_iconst (pc := 13) (v := Int32.ofInt 0) (by decide) (zdal_p dlC_M_closed_30 (i := 11) rfl) ?_
        refine zw_istore (pc := 14) (i := 4) (L2 := [some (.ref 81), some (.int (Int32.ofInt a0_)), some (.int (Int32.ofInt u2_)), some (.int (Int32.ofInt u2_)), some (.int (Int32.ofInt 0)), none]) (by decide) rfl (zdal_p dlC_M_closed_30 (i := 12) rfl) ?_
        have hB_0 := zclB_0 ‹zclA T a0_ u2_ _›
        have lp_16 : ∀ (n : Nat) (u8_ : Int) (hu8_a : -2147483648 ≤ u8_) (hu8_b : u8_ < 2147483648) (u9_ : Int) (hu9_a : -2147483648 ≤ u9_) (hu9_b : u9_ < 2147483648) (i10_ : 0 ≤ u9_) (i11_ : 0 ≤ u8_) (i12_ : u2_ ≤ u8_) (i13_ : u8_ < 16777216) (i14_ : zclB T a0_ u2_ u8_ u9_), (ze Mz 81 20 - u9_).toNat < n → zW l m_M_closed (zn Mz + 0, zw Mz + 0) Mz 16 [some (.ref 81), some (.int (Int32.ofInt a0_)), some (.int (Int32.ofInt u8_)), some (.int (Int32.ofInt u2_)), some (.int (Int32.ofInt u9_)), none] [] (zpI [] [] Mz (fun v N => gLC T (a0_).toNat (v).toNat ∧ 0 ≤ v ∧ v < 16777216)) := by
          intro n
          induction n with
          | zero =>
            intro u8_ hu8_a hu8_b u9_ hu9_a hu9_b i10_ i11_ i12_ i13_ i14_ h0
            exact absurd h0 (Nat.not_lt_zero _)
          | succ n ih_16 =>
            intro u8_ hu8_a hu8_b u9_ hu9_a hu9_b i10_ i11_ i12_ i13_ i14_ hlt_16
            refine zw_iload (pc := 16) (i := 4) (x := Int32.ofInt u9_) rfl (zdal_p dlC_M_closed_30 (i := 13) rfl) ?_
            refine zw_aload_n (pc := 18) (n := 0) (x := 81) rfl (zdal_p dlC_M_closed_30 (i := 14) rfl) ?_
            refine zr_getI0 hf hW (pc := 19) (by decide) f_M_196 rfl (zdal_p dlC_M_closed_30 (i := 15) rfl) ?_
            refine zr_icmp_ge (pc := 22) (tgt := 80) ⟨hu9_a, hu9_b⟩ ⟨(ze_r Mz 81 20).1, (ze_r Mz 81 20).2⟩ (by decide) (zdal_p dlC_M_closed_30 (i := 16) rfl) (fun hc_22 => ?_) (fun hc_22 => ?_)
            · skip
              refine zw_goto (pc := 80) (tgt := 6) (by decide) (zdal_p dlC_M_closed_31 (i := 20) rfl) ?_
              have hA : zclA T a0_ u8_ u2_ := zclB_e (by assumption) (by omega)
              have hl := zclA_l g24 hA
              refine zW_le [some (.ref 81), some (.int (Int32.ofInt a0_)), some (.int (Int32.ofInt u8_)), some (.int (Int32.ofInt u2_)), none, none] (⟨rfl, rfl, rfl, rfl, trivial⟩) ?_
              exact ih_6 u8_ hu8_a hu8_b u2_ hu2_a hu2_b (show 0 ≤ u2_ by first | assumption | omega) (show u2_ ≤ u8_ by first | assumption | omega) (show u8_ < 16777216 by first | assumption | omega) (show zclA T a0_ u8_ u2_ by first | assumption | omega) (by omega)
            · skip
              refine zw_iconst (pc := 25) (v := Int32.ofInt 0) (by decide) (zdal_p dlC_M_closed_30 (i := 17) rfl) ?_
              refine zw_istore (pc := 26) (i := 5) (L2 := [some (.ref 81), some (.int (Int32.ofInt a0_)), some (.int (Int32.ofInt u8_)), some (.int (Int32.ofInt u2_)), some (.int (Int32.ofInt u9_)), some (.int (Int32.ofInt 0))]) (by decide) rfl (zdal_p dlC_M_closed_30 (i := 18) rfl) ?_
              have hC_0 := zclC_0 ‹zclB T a0_ u2_ u8_ u9_› (by omega)
              have lp_28 : ∀ (n : Nat) (u15_ : Int) (hu15_a : -2147483648 ≤ u15_) (hu15_b : u15_ < 2147483648) (u16_ : Int) (hu16_a : -2147483648 ≤ u16_) (hu16_b : u16_ < 2147483648) (i17_ : 0 ≤ u16_) (i18_ : 0 ≤ u15_) (i19_ : u2_ ≤ u15_) (i20_ : u15_ < 16777216) (i21_ : zclC T a0_ u2_ u15_ u9_ u16_), (ze Mz 81 20 - u16_).toNat < n → zW l m_M_closed (zn Mz + 0, zw Mz + 0) Mz 28 [some (.ref 81), some (.int (Int32.ofInt a0_)), some (.int (Int32.ofInt u15_)), some (.int (Int32.ofInt u2_)), some (.int (Int32.ofInt u9_)), some (.int (Int32.ofInt u16_))] [] (zpI [] [] Mz (fun v N => gLC T (a0_).toNat (v).toNat ∧ 0 ≤ v ∧ v < 16777216)) := by
                intro n
                induction n with
                | zero =>
                  intro u15_ hu15_a hu15_b u16_ hu16_a hu16_b i17_ i18_ i19_ i20_ i21_ h0
                  exact absurd h0 (Nat.not_lt_zero _)
                | succ n ih_28 =>
                  intro u15_ hu15_a hu15_b u16_ hu16_a hu16_b i17_ i18_ i19_ i20_ i21_ hlt_28
                  refine zw_iload (pc := 28) (i := 5) (x := Int32.ofInt u16_) rfl (zdal_p dlC_M_closed_30 (i := 19) rfl) ?_
                  refine zw_aload_n (pc := 30) (n := 0) (x := 81) rfl (zdal_p dlC_M_closed_30 (i := 20) rfl) ?_
                  refine zr_getI0 hf hW (pc := 31) (by decide) f_M_196 rfl (zdal_p dlC_M_closed_30 (i := 21) rfl) ?_
                  refine zr_icmp_ge (pc := 34) (tgt := 74) ⟨hu16_a, hu16_b⟩ ⟨(ze_r Mz 81 20).1, (ze_r Mz 81 20).2⟩ (by decide) (zdal_p dlC_M_closed_30 (i := 22) rfl) (fun hc_34 => ?_) (fun hc_34 => ?_)
                  · skip
                    refine zr_iinc (pc := 74) (i := 4) (a := u9_) (n := 1) (L2 := [some (.ref 81), some (.int (Int32.ofInt a0_)), some (.int (Int32.ofInt u15_)), some (.int (Int32.ofInt u2_)), some (.int (Int32.ofInt (u9_ + 1))), some (.int (Int32.ofInt u16_))]) rfl (by decide) rfl (zdal_p dlC_M_closed_31 (i := 18) rfl) ?_
                    refine zw_goto (pc := 77) (tgt := 16) (by decide) (zdal_p dlC_M_closed_31 (i := 19) rfl) ?_
                    have hB : zclB T a0_ u2_ u15_ (u9_ + 1) := by first | exact zclC_e2 (by assumption) (by assumption) | exact zclC_e1 (by assumption) (by omega)
                    refine zW_le [some (.ref 81), some (.int (Int32.ofInt a0_)), some (.int (Int32.ofInt u15_)), some (.int (Int32.ofInt u2_)), some (.int (Int32.ofInt (u9_ + 1))), none] (⟨rfl, rfl, rfl, rfl, rfl, trivial⟩) ?_
                    exact ih_16 u15_ hu15_a hu15_b (u9_ + 1) (by omega) (by omega) (show 0 ≤ (u9_ + 1) by first | assumption | omega) (show 0 ≤ u15_ by first | assumption | omega) (show u2_ ≤ u15_ by first | assumption | omega) (show u15_ < 16777216 by first | assumption | omega) (show zclB T a0_ u2_ u15_ (u9_ + 1) by first | assumption | omega) (by omega)
                  · skip
                    refine zw_iload_n (pc := 37) (n := 2) (x := Int32.ofInt u15_) rfl (zdal_p dlC_M_closed_30 (i := 23) rfl) ?_
                    refine zw_iload (pc := 38) (i := 4) (x := Int32.ofInt u9_) rfl (zdal_p dlC_M_closed_31 (i := 0) rfl) ?_
                    refine zr_callS hf.x (pc := 40) [.int (Int32.ofInt u15_), .int (Int32.ofInt u9_)] [] l_M_213 (c_M_holds l Mz (hf.w hW) u15_ hu15_a hu15_b u9_ hu9_a hu9_b (show 0 ≤ u15_ by first | assumption | omega) (show 0 ≤ u9_ by first | assumption | omega) (show u9_ < 32 by first | assumption | omega)) rfl rfl (by decide) (Nat.le_of_ble_eq_true rfl) (zdal_p dlC_M_closed_31 (i := 1) rfl) ?_
                    rintro _ N22_ ⟨v23_, rfl, ⟨hv23_a, hv23_b⟩, hsN22_, hp0_N22_⟩
                    obtain rfl := hsN22_.eq.symm
                    replace hp0_N22_ : ((v23_ = 1 ∧ zbt u15_ u9_) ∨ (v23_ = 0 ∧ ¬ zbt u15_ u9_)) := hp0_N22_
                    rcases hp0_N22_ with ⟨rfl, ha40_0_hp0_N22_⟩ | ⟨rfl, ha40_0_hp0_N22_⟩
                    · skip
                      show zW l m_M_closed (zn Mz + 0, zw Mz + 0) Mz 43 [some (.ref 81), some (.int (Int32.ofInt a0_)), some (.int (Int32.ofInt u15_)), some (.int (Int32.ofInt u2_)), some (.int (Int32.ofInt u9_)), some (.int (Int32.ofInt u16_))] [.int (Int32.ofInt 1)] _
                      refine zr_if_eq (pc := 43) (tgt := 74) ⟨(by decide), (by decide)⟩ (by decide) (zdal_p dlC_M_closed_31 (i := 2) rfl) (fun hc_43 => ?_) (fun hc_43 => ?_)
                      · skip
                        exact absurd hc_43 (by decide)
                      · skip
                        refine zw_iload_n (pc := 46) (n := 2) (x := Int32.ofInt u15_) rfl (zdal_p dlC_M_closed_31 (i := 3) rfl) ?_
                        refine zw_iload (pc := 47) (i := 5) (x := Int32.ofInt u16_) rfl (zdal_p dlC_M_closed_31 (i := 4) rfl) ?_
                        refine zr_callS hf.x (pc := 49) [.int (Int32.ofInt u15_), .int (Int32.ofInt u16_)] [] l_M_213 (c_M_holds l Mz (hf.w hW) u15_ hu15_a hu15_b u16_ hu16_a hu16_b (show 0 ≤ u15_ by first | assumption | omega) (show 0 ≤ u16_ by first | assumption | omega) (show u16_ < 32 by first | assumption | omega)) rfl rfl (by decide) (Nat.le_of_ble_eq_true rfl) (zdal_p dlC_M_closed_31 (i := 5) rfl) ?_
                        rintro _ N24_ ⟨v25_, rfl, ⟨hv25_a, hv25_b⟩, hsN24_, hp0_N24_⟩
                        obtain rfl := hsN24_.eq.symm
                        replace hp0_N24_ : ((v25_ = 1 ∧ zbt u15_ u16_) ∨ (v25_ = 0 ∧ ¬ zbt u15_ u16_)) := hp0_N24_
                        rcases hp0_N24_ with ⟨rfl, ha49_0_hp0_N24_⟩ | ⟨rfl, ha49_0_hp0_N24_⟩
                        · skip
                          show zW l m_M_closed (zn Mz + 0, zw Mz + 0) Mz 52 [some (.ref 81), some (.int (Int32.ofInt a0_)), some (.int (Int32.ofInt u15_)), some (.int (Int32.ofInt u2_)), some (.int (Int32.ofInt u9_)), some (.int (Int32.ofInt u16_))] [.int (Int32.ofInt 1)] _
                          refine zr_if_eq (pc := 52) (tgt := 68) ⟨(by decide), (by decide)⟩ (by decide) (zdal_p dlC_M_closed_31 (i := 6) rfl) (fun hc_52 => ?_) (fun hc_52 => ?_)
                          · skip
                            exact absurd hc_52 (by decide)
                          · skip
                            refine zw_iload_n (pc := 55) (n := 2) (x := Int32.ofInt u15_) rfl (zdal_p dlC_M_closed_31 (i := 7) rfl) ?_
                            refine zw_iconst (pc := 56) (v := Int32.ofInt 1) (by decide) (zdal_p dlC_M_closed_31 (i := 8) rfl) ?_
                            refine zw_aload_n (pc := 57) (n := 0) (x := 81) rfl (zdal_p dlC_M_closed_31 (i := 9) rfl) ?_
                            refine zw_iload (pc := 58) (i := 4) (x := Int32.ofInt u9_) rfl (zdal_p dlC_M_closed_31 (i := 10) rfl) ?_
                            refine zw_iload (pc := 60) (i := 5) (x := Int32.ofInt u16_) rfl (zdal_p dlC_M_closed_31 (i := 11) rfl) ?_
                            refine zr_callV (hf.w hW) hf.x (pc := 62) [.int (Int32.ofInt u9_), .int (Int32.ofInt u16_)] [.int (Int32.ofInt 1), .int (Int32.ofInt u15_)] l_M_216 (c_M_by l Mz (hf.w hW) u9_ hu9_a hu9_b u16_ hu16_a hu16_b T hG p0_ (show 0 ≤ u9_ by first | assumption | omega) (show u9_ < ze Mz 81 20 by first | assumption | omega) (show 0 ≤ u16_ by first | assumption | omega) (show u16_ < ze Mz 81 20 by first | assumption | omega)) rfl rfl rfl (by decide) (Nat.le_of_ble_eq_true rfl) (zdal_p dlC_M_closed_31 (i := 12) rfl) ?_
                            rintro _ N26_ ⟨v27_, rfl, ⟨hv27_a, hv27_b⟩, hsN26_, ⟨hp0_N26_, hp1_N26_, hp2_N26_⟩⟩
                            obtain rfl := hsN26_.eq.symm
                            show zW l m_M_closed (zn Mz + 0, zw Mz + 0) Mz 65 [some (.ref 81), some (.int (Int32.ofInt a0_)), some (.int (Int32.ofInt u15_)), some (.int (Int32.ofInt u2_)), some (.int (Int32.ofInt u9_)), some (.int (Int32.ofInt u16_))] [.int (Int32.ofInt v27_), .int (Int32.ofInt 1), .int (Int32.ofInt u15_)] _
                            refine zr_ishl (pc := 65) (zdal_p dlC_M_closed_31 (i := 13) rfl) ?_
                            have hr28_ := zshl_r 1 v27_
                            refine zr_ior (pc := 66) (zdal_p dlC_M_closed_31 (i := 14) rfl) ?_
                            have hr29_ := zor_r u15_ (zshl 1 v27_)
                            refine zw_istore_n (pc := 67) (i := 2) (L2 := [some (.ref 81), some (.int (Int32.ofInt a0_)), some (.int (Int32.ofInt (zor u15_ (zshl 1 v27_)))), some (.int (Int32.ofInt u2_)), some (.int (Int32.ofInt u9_)), some (.int (Int32.ofInt u16_))]) rfl (by decide) rfl (zdal_p dlC_M_closed_31 (i := 15) rfl) ?_
                            refine zr_iinc (pc := 68) (i := 5) (a := u16_) (n := 1) (L2 := [some (.ref 81), some (.int (Int32.ofInt a0_)), some (.int (Int32.ofInt (zor u15_ (zshl 1 v27_)))), some (.int (Int32.ofInt u2_)), some (.int (Int32.ofInt u9_)), some (.int (Int32.ofInt (u16_ + 1)))]) rfl (by decide) rfl (zdal_p dlC_M_closed_31 (i := 16) rfl) ?_
                            refine zw_goto (pc := 71) (tgt := 28) (by decide) (zdal_p dlC_M_closed_31 (i := 17) rfl) ?_
                            have hC : zclC T a0_ u2_ (zor u15_ (zshl 1 v27_)) u9_ (u16_ + 1) := by first | exact zclC_s1 (by assumption) (by assumption) | exact zclC_s2 g24 hG.2.2.2 (by assumption) (by assumption) (by assumption) (by omega) (by omega) (by assumption)
                            have hl := zclB_l g24 hC.1
                            exact ih_28 (zor u15_ (zshl 1 v27_)) (by omega) (by omega) (u16_ + 1) (by omega) (by omega) (show 0 ≤ (u16_ + 1) by first | assumption | omega) (show 0 ≤ (zor u15_ (zshl 1 v27_)) by first | assumption | omega) (show u2_ ≤ (zor u15_ (zshl 1 v27_)) by first | assumption | omega) (show (zor u15_ (zshl 1 v27_)) < 16777216 by first | assumption | omega) (show zclC T a0_ u2_ (zor u15_ (zshl 1 v27_)) u9_ (u16_ + 1) by first | assumption | omega) (by omega)
                        · skip
                          show zW l m_M_closed (zn Mz + 0, zw Mz + 0) Mz 52 [some (.ref 81), some (.int (Int32.ofInt a0_)), some (.int (Int32.ofInt u15_)), some (.int (Int32.ofInt u2_)), some (.int (Int32.ofInt u9_)), some (.int (Int32.ofInt u16_))] [.int (Int32.ofInt 0)] _
                          refine zr_if_eq (pc := 52) (tgt := 68) ⟨(by decide), (by decide)⟩ (by decide) (zdal_p dlC_M_closed_31 (i := 6) rfl) (fun hc_52 => ?_) (fun hc_52 => ?_)
                          · skip
                            refine zr_iinc (pc := 68) (i := 5) (a := u16_) (n := 1) (L2 := [some (.ref 81), some (.int (Int32.ofInt a0_)), some (.int (Int32.ofInt u15_)), some (.int (Int32.ofInt u2_)), some (.int (Int32.ofInt u9_)), some (.int (Int32.ofInt (u16_ + 1)))]) rfl (by decide) rfl (zdal_p dlC_M_closed_31 (i := 16) rfl) ?_
                            refine zw_goto (pc := 71) (tgt := 28) (by decide) (zdal_p dlC_M_closed_31 (i := 17) rfl) ?_
                            have hC : zclC T a0_ u2_ u15_ u9_ (u16_ + 1) := by first | exact zclC_s1 (by assumption) (by assumption) | exact zclC_s2 g24 hG.2.2.2 (by assumption) (by assumption) (by assumption) (by omega) (by omega) (by assumption)
                            have hl := zclB_l g24 hC.1
                            exact ih_28 u15_ hu15_a hu15_b (u16_ + 1) (by omega) (by omega) (show 0 ≤ (u16_ + 1) by first | assumption | omega) (show 0 ≤ u15_ by first | assumption | omega) (show u2_ ≤ u15_ by first | assumption | omega) (show u15_ < 16777216 by first | assumption | omega) (show zclC T a0_ u2_ u15_ u9_ (u16_ + 1) by first | assumption | omega) (by omega)
                          · skip
                            exact absurd hc_52 (by decide)
                    · skip
                      show zW l m_M_closed (zn Mz + 0, zw Mz + 0) Mz 43 [some (.ref 81), some (.int (Int32.ofInt a0_)), some (.int (Int32.ofInt u15_)), some (.int (Int32.ofInt u2_)), some (.int (Int32.ofInt u9_)), some (.int (Int32.ofInt u16_))] [.int (Int32.ofInt 0)] _
                      refine zr_if_eq (pc := 43) (tgt := 74) ⟨(by decide), (by decide)⟩ (by decide) (zdal_p dlC_M_closed_31 (i := 2) rfl) (fun hc_43 => ?_) (fun hc_43 => ?_)
                      · skip
                        refine zr_iinc (pc := 74) (i := 4) (a := u9_) (n := 1) (L2 := [some (.ref 81), some (.int (Int32.ofInt a0_)), some (.int (Int32.ofInt u15_)), some (.int (Int32.ofInt u2_)), some (.int (Int32.ofInt (u9_ + 1))), some (.int (Int32.ofInt u16_))]) rfl (by decide) rfl (zdal_p dlC_M_closed_31 (i := 18) rfl) ?_
                        refine zw_goto (pc := 77) (tgt := 16) (by decide) (zdal_p dlC_M_closed_31 (i := 19) rfl) ?_
                        have hB : zclB T a0_ u2_ u15_ (u9_ + 1) := by first | exact zclC_e2 (by assumption) (by assumption) | exact zclC_e1 (by assumption) (by omega)
                        refine zW_le [some (.ref 81), some (.int (Int32.ofInt a0_)), some (.int (Int32.ofInt u15_)), some (.int (Int32.ofInt u2_)), some (.int (Int32.ofInt (u9_ + 1))), none] (⟨rfl, rfl, rfl, rfl, rfl, trivial⟩) ?_
                        exact ih_16 u15_ hu15_a hu15_b (u9_ + 1) (by omega) (by omega) (show 0 ≤ (u9_ + 1) by first | assumption | omega) (show 0 ≤ u15_ by first | assumption | omega) (show u2_ ≤ u15_ by first | assumption | omega) (show u15_ < 16777216 by first | assumption | omega) (show zclB T a0_ u2_ u15_ (u9_ + 1) by first | assumption | omega) (by omega)
                      · skip
                        exact absurd hc_43 (by decide)
              exact lp_28 _ u8_ hu8_a hu8_b 0 (by decide) (by decide) (show 0 ≤ (0 : Int) by first | assumption | omega) (show 0 ≤ u8_ by first | assumption | omega) (show u2_ ≤ u8_ by first | assumption | omega) (show u8_ < 16777216 by first | assumption | omega) (show zclC T a0_ u2_ u8_ u9_ (0 : Int) by first | assumption | omega) (Nat.lt_succ_self _)
        exact lp_16 _ u2_ hu2_a hu2_b 0 (by decide) (by decide) (show 0 ≤ (0 : Int) by first | assumption | omega) (show 0 ≤ u2_ by first | assumption | omega) (show u2_ ≤ u2_ by first | assumption | omega) (show u2_ < 16777216 by first | assumption | omega) (show zclB T a0_ u2_ u2_ (0 : Int) by first | assumption | omega) (Nat.lt_succ_self _)
  exact lp_6 _ (zor a0_ 1) (by omega) (by omega) 0 (by decide) (by decide) (show 0 ≤ (0 : Int) by first | assumption | omega) (show (0 : Int) ≤ (zor a0_ 1) by first | assumption | omega) (show (zor a0_ 1) < 16777216 by first | assumption | omega) (show zclA T a0_ (zor a0_ 1) (0 : Int) by first | assumption | omega) (Nat.lt_succ_self _)
