set_option maxHeartbeats 4000000 in
theorem u_Sums_solveS (l : Launch) (d_ : Nat) (Mz : zMem) (hW : zKW d_ Mz) (a0_ : Int) (ha0_a : -2147483648 ≤ a0_) (ha0_b : a0_ < 2147483648) (F_ : Nat) (K_ : Nat → Nat → Int) (hA_ : zTA F_ K_) (p0_ : zKm F_ K_ d_ Mz) (p1_ : 0 ≤ a0_) (p2_ : a0_ ≤ 39) (p3_ : (∀ j : Nat, j < F_ → -1000000 ≤ zg Mz (d_ + 27) j ∧ zg Mz (d_ + 27) j ≤ 1000000)) : zC l m_Sums_solve 0 0 [.ref (d_ + 23), .int (Int32.ofInt a0_)] Mz (zqcV d_ [] [] [] [25] Mz (fun N => zSh F_ d_ Mz N a0_ (zsq F_ K_ (fun j_ => zg Mz (d_ + 27) j_)))) := by
  refine zC_of (L0 := [some (.ref (d_ + 23)), some (.int (Int32.ofInt a0_)), none, none, none, none]) md_Sums_solve (Nat.le_of_ble_eq_true rfl) rfl ?_ zQ0
  have hf : zFc d_ [] [] [] [25] Mz Mz := zFc.rf
  have r_D12_7 := ze_r Mz (d_ + 12) 7
  obtain ⟨⟨hF1_, hF27_⟩, hAr_⟩ := id hA_
  obtain ⟨hFc_, hKt_⟩ := id p0_
  refine zw_aload_n (pc := 0) (n := 0) (x := (d_ + 23)) rfl d_Sums_solve_0 ?_
  refine zw_getF (pc := 1) f_Sums_23 rfl ((hf.w hW).kr (o := 23) (by decide)) ((hf.w hW).lr (o := 23) (s := 0) (r := 12) (by decide)) d_Sums_solve_1 ?_
  refine zk_getI (pc := 4) f_Sums_35 rfl ((hf.w hW).kr (o := 12) (by decide)) d_Sums_solve_4 ?_
  refine zw_iconst (pc := 7) (v := Int32.ofInt 1) (by decide) d_Sums_solve_7 ?_
  refine zr_isub (pc := 8) d_Sums_solve_8 ?_
  refine zw_istore_n (pc := 9) (i := 2) (L2 := [some (.ref (d_ + 23)), some (.int (Int32.ofInt a0_)), some (.int (Int32.ofInt ((ze Mz (d_ + 12) 7) - 1))), none, none, none]) rfl (by decide) rfl d_Sums_solve_9 ?_
  have lp_10 : ∀ (n : Nat) (u1_ : Int) (hu1_a : -2147483648 ≤ u1_) (hu1_b : u1_ < 2147483648) (N2_ : zMem) (hs3_ : zFc d_ [] [] [] [25] Mz N2_) (i4_ : u1_ < F_) (i5_ : -1 ≤ u1_) (i6_ : zUp F_ d_ Mz N2_ a0_ (zsq F_ K_ (fun j_ => zg Mz (d_ + 27) j_)) u1_), (u1_ + 1).toNat < n → zW l m_Sums_solve (zn Mz + 0, zw Mz + 0) N2_ 10 [some (.ref (d_ + 23)), some (.int (Int32.ofInt a0_)), some (.int (Int32.ofInt u1_)), none, none, none] [] (zqcV d_ [] [] [] [25] Mz (fun N => zSh F_ d_ Mz N a0_ (zsq F_ K_ (fun j_ => zg Mz (d_ + 27) j_)))) := by
    intro n
    induction n with
    | zero =>
      intro u1_ hu1_a hu1_b N2_ hs3_ i4_ i5_ i6_ h0
      exact absurd h0 (Nat.not_lt_zero _)
    | succ n ih_10 =>
      intro u1_ hu1_a hu1_b N2_ hs3_ i4_ i5_ i6_ hlt_10
      have hf_N2_ : zFc d_ [] [] [] [25] Mz N2_ := hf.tr hs3_ (by decide) (by decide) (by decide) (by decide)
      have eD12_7_N2_ : ze N2_ (d_ + 12) 7 = ze Mz (d_ + 12) 7 := hs3_.e (by decide)
      have c7_ : zKm F_ K_ d_ N2_ := zKm.fr (hf.w hW) hs3_ p0_ (by decide)
      refine zw_iload_n (pc := 10) (n := 2) (x := Int32.ofInt u1_) rfl d_Sums_solve_10 ?_
      refine zr_if_lt (pc := 11) (tgt := 133) ⟨hu1_a, hu1_b⟩ (by decide) d_Sums_solve_11 (fun hc_11 => ?_) (fun hc_11 => ?_)
      · skip
        exact zk_vret (pc := 133) rfl hf_N2_ (show zSh F_ d_ Mz N2_ a0_ (zsq F_ K_ (fun j_ => zg Mz (d_ + 27) j_)) by exact zUp_e (show zUp F_ d_ Mz N2_ a0_ (zsq F_ K_ (fun j_ => zg Mz (d_ + 27) j_)) u1_ by assumption) (by omega)) d_Sums_solve_133
      · skip
        refine zw_aload_n (pc := 14) (n := 0) (x := (d_ + 23)) rfl d_Sums_solve_14 ?_
        refine zw_getF (pc := 15) f_Sums_20 rfl ((hf_N2_.w hW).kr (o := 23) (by decide)) ((hf_N2_.w hW).lr (o := 23) (s := 2) (r := 26) (by decide)) d_Sums_solve_15 ?_
        refine zw_iload_n (pc := 18) (n := 2) (x := Int32.ofInt u1_) rfl d_Sums_solve_18 ?_
        refine zk_atJ hf_N2_.x (pc := 19) l_Sums_27 ((hf_N2_.w hW).kr (o := 26) (by decide)) ((hf_N2_.w hW).lr (o := 26) (s := 0) (r := 27) (by decide)) ((hf_N2_.w hW).rr (o := 27) (t := 2) (n := 27) (by decide)) (by decide) (by omega) (by omega) (by decide) (Nat.le_of_ble_eq_true rfl) d_Sums_solve_19 (fun v8_ hv8_ hv8_a hv8_b => ?_)
        rw [hf_N2_.rg (by decide)] at hv8_
        refine zw_lstore_n (pc := 22) (i := 3) (L2 := [some (.ref (d_ + 23)), some (.int (Int32.ofInt a0_)), some (.int (Int32.ofInt u1_)), some (.long (Int64.ofInt v8_)), none, none]) rfl (by decide) rfl d_Sums_solve_22 ?_
        refine zw_iload_n (pc := 23) (n := 2) (x := Int32.ofInt u1_) rfl d_Sums_solve_23 ?_
        refine zw_iconst (pc := 24) (v := Int32.ofInt 1) (by decide) d_Sums_solve_24 ?_
        refine zr_iadd (pc := 25) d_Sums_solve_25 ?_
        refine zw_istore (pc := 26) (i := 5) (L2 := [some (.ref (d_ + 23)), some (.int (Int32.ofInt a0_)), some (.int (Int32.ofInt u1_)), some (.long (Int64.ofInt v8_)), none, some (.int (Int32.ofInt (u1_ + 1)))]) (by decide) rfl d_Sums_solve_26 ?_
        have hup_ := (show zUp F_ d_ Mz N2_ a0_ (zsq F_ K_ (fun j_ => zg Mz (d_ + 27) j_)) u1_ by assumption)
        have lp_28 : ∀ (n : Nat) (u9_ : Int) (hu9_a : -9223372036854775808 ≤ u9_) (hu9_b : u9_ < 9223372036854775808) (u10_ : Int) (hu10_a : -2147483648 ≤ u10_) (hu10_b : u10_ < 2147483648) (i11_ : u1_ < u10_) (i12_ : u10_ ≤ F_) (i13_ : zrX F_ K_ (fun j_ => zg Mz (d_ + 27) j_) u9_ u1_ u10_), (F_ - u10_).toNat < n → zW l m_Sums_solve (zn Mz + 0, zw Mz + 0) N2_ 28 [some (.ref (d_ + 23)), some (.int (Int32.ofInt a0_)), some (.int (Int32.ofInt u1_)), some (.long (Int64.ofInt u9_)), none, some (.int (Int32.ofInt u10_))] [] (zqcV d_ [] [] [] [25] Mz (fun N => zSh F_ d_ Mz N a0_ (zsq F_ K_ (fun j_ => zg Mz (d_ + 27) j_)))) := by
          intro n
          induction n with
          | zero =>
            intro u9_ hu9_a hu9_b u10_ hu10_a hu10_b i11_ i12_ i13_ h0
            exact absurd h0 (Nat.not_lt_zero _)
          | succ n ih_28 =>
            intro u9_ hu9_a hu9_b u10_ hu10_a hu10_b i11_ i12_ i13_ hlt_28
            refine zw_iload (pc := 28) (i := 5) (x := Int32.ofInt u10_) rfl d_Sums_solve_28 ?_
            refine zw_aload_n (pc := 30) (n := 0) (x := (d_ + 23)) rfl d_Sums_solve_30 ?_
            refine zw_getF (pc := 31) f_Sums_23 rfl ((hf_N2_.w hW).kr (o := 23) (by decide)) ((hf_N2_.w hW).lr (o := 23) (s := 0) (r := 12) (by decide)) d_Sums_solve_31 ?_
            refine zk_getI (pc := 34) f_Sums_35 rfl ((hf_N2_.w hW).kr (o := 12) (by decide)) d_Sums_solve_34 ?_
            rw [hf_N2_.e (by decide)]
            refine zr_icmp_ge (pc := 37) (tgt := 82) ⟨hu10_a, hu10_b⟩ ⟨(ze_r Mz (d_ + 12) 7).1, (ze_r Mz (d_ + 12) 7).2⟩ (by decide) d_Sums_solve_37 (fun hc_37 => ?_) (fun hc_37 => ?_)
            · skip
              refine zw_aload_n (pc := 82) (n := 0) (x := (d_ + 23)) rfl d_Sums_solve_82 ?_
              refine zw_getF (pc := 83) f_Sums_23 rfl ((hf_N2_.w hW).kr (o := 23) (by decide)) ((hf_N2_.w hW).lr (o := 23) (s := 0) (r := 12) (by decide)) d_Sums_solve_83 ?_
              refine zw_getF (pc := 86) f_Sums_41 rfl ((hf_N2_.w hW).kr (o := 12) (by decide)) ((hf_N2_.w hW).lr (o := 12) (s := 5) (r := 21) (by decide)) d_Sums_solve_86 ?_
              refine zw_iload_n (pc := 89) (n := 2) (x := Int32.ofInt u1_) rfl d_Sums_solve_89 ?_
              refine zw_bipush (pc := 90) (v := Int32.ofInt 27) (by decide) d_Sums_solve_90 ?_
              refine zr_imul (pc := 92) d_Sums_solve_92 ?_
              refine zw_iload_n (pc := 93) (n := 2) (x := Int32.ofInt u1_) rfl d_Sums_solve_93 ?_
              refine zr_iadd (pc := 94) d_Sums_solve_94 ?_
              refine zk_at hf_N2_.x (pc := 95) l_Sums_45 ((hf_N2_.w hW).kr (o := 21) (by decide)) ((hf_N2_.w hW).lr (o := 21) (s := 0) (r := 22) (by decide)) ((hf_N2_.w hW).rr (o := 22) (t := 1) (n := 729) (by decide)) (by decide) (by omega) (by omega) (by decide) (Nat.le_of_ble_eq_true rfl) d_Sums_solve_95 (fun v14_ hv14_ hv14_a hv14_b => ?_)
              rw [hf_N2_.r (by decide)] at hv14_
              have hm_ := p0_.k (by omega) (by omega) (by omega) (by omega) hv14_
              have hm1_ := hAr_.2.2.1 (u1_).toNat (by omega)
              have hL5_ : u10_ = (F_ : Int) := by omega
              have hin_ := (show zrX F_ K_ (fun j_ => zg Mz (d_ + 27) j_) u9_ u1_ u10_ by assumption)
              refine zw_istore (pc := 98) (i := 5) (L2 := [some (.ref (d_ + 23)), some (.int (Int32.ofInt a0_)), some (.int (Int32.ofInt u1_)), some (.long (Int64.ofInt u9_)), none, some (.int (Int32.ofInt v14_))]) (by decide) rfl d_Sums_solve_98 ?_
              refine zw_aload_n (pc := 100) (n := 0) (x := (d_ + 23)) rfl d_Sums_solve_100 ?_
              refine zw_getF (pc := 101) f_Sums_16 rfl ((hf_N2_.w hW).kr (o := 23) (by decide)) ((hf_N2_.w hW).lr (o := 23) (s := 1) (r := 24) (by decide)) d_Sums_solve_101 ?_
              refine zw_iload_n (pc := 104) (n := 1) (x := Int32.ofInt a0_) rfl d_Sums_solve_104 ?_
              refine zw_bipush (pc := 105) (v := Int32.ofInt 27) (by decide) d_Sums_solve_105 ?_
              refine zr_imul (pc := 107) d_Sums_solve_107 ?_
              refine zw_iload_n (pc := 108) (n := 2) (x := Int32.ofInt u1_) rfl d_Sums_solve_108 ?_
              refine zr_iadd (pc := 109) d_Sums_solve_109 ?_
              refine zw_iload (pc := 110) (i := 5) (x := Int32.ofInt v14_) rfl d_Sums_solve_110 ?_
              refine zr_if_eq (pc := 112) (tgt := 123) ⟨hv14_a, hv14_b⟩ (by decide) d_Sums_solve_112 (fun hc_112 => ?_) (fun hc_112 => ?_)
              · skip
                refine zw_lconst (pc := 123) (v := Int64.ofInt 0) (by decide) d_Sums_solve_123 ?_
                refine zk_stJ hf_N2_.x (pc := 124) (o := 25) (by decide) l_Sums_31 ((hf_N2_.w hW).kr (o := 24) (by decide)) ((hf_N2_.w hW).lr (o := 24) (s := 0) (r := 25) (by decide)) ((hf_N2_.w hW).rr (o := 25) (t := 2) (n := 1080) (by decide)) (by decide) (by omega) (by omega) (by decide) (Nat.le_of_ble_eq_true rfl) d_Sums_solve_124 (fun N15_ hN15_ hsN15_ => ?_)
                have hf_N15_ : zFc d_ [] [] [] [25] Mz N15_ := hf_N2_.tr hsN15_ (by decide) (by decide) (by decide) (by decide)
                have hb0_N15_ : zFc d_ [] [] [] [25] Mz N15_ := hs3_.tr hsN15_ (by decide) (by decide) (by decide) (by decide)
                have eD12_7_N15_ : ze N15_ (d_ + 12) 7 = ze N2_ (d_ + 12) 7 := hsN15_.e (by decide)
                have c16_ : zKm F_ K_ d_ N15_ := zKm.fr (hf_N2_.w hW) hsN15_ c7_ (by decide)
                have h1_ := zS1_i hN15_ ⟨by omega, by omega⟩ (by omega)
                have hu1_ := zUp_s hup_ h1_ rfl (by omega) (by omega) (by first | (exfalso; omega) | (rw [← hq_]; exact hqu_))
                refine zr_iinc (pc := 127) (i := 2) (a := u1_) (n := -1) (L2 := [some (.ref (d_ + 23)), some (.int (Int32.ofInt a0_)), some (.int (Int32.ofInt (u1_ + (-1)))), some (.long (Int64.ofInt u9_)), none, some (.int (Int32.ofInt v14_))]) rfl (by decide) rfl d_Sums_solve_127 ?_
                refine zw_goto (pc := 130) (tgt := 10) (by decide) d_Sums_solve_130 ?_
                refine zW_le [some (.ref (d_ + 23)), some (.int (Int32.ofInt a0_)), some (.int (Int32.ofInt (u1_ + (-1)))), none, none, none] (⟨rfl, rfl, rfl, trivial⟩) ?_
                exact ih_10 (u1_ + (-1)) (by omega) (by omega) N15_ hb0_N15_ (show (u1_ + (-1)) < F_ by first | assumption | omega) (show -1 ≤ (u1_ + (-1)) by first | assumption | omega) (show zUp F_ d_ Mz N15_ a0_ (zsq F_ K_ (fun j_ => zg Mz (d_ + 27) j_)) (u1_ + (-1)) by exact hu1_) (by omega)
              · skip
                refine zw_lload_n (pc := 115) (n := 3) (x := Int64.ofInt u9_) rfl d_Sums_solve_115 ?_
                refine zw_iload (pc := 116) (i := 5) (x := Int32.ofInt v14_) rfl d_Sums_solve_116 ?_
                refine zr_i2l (pc := 118) ⟨hv14_a, hv14_b⟩ d_Sums_solve_118 ?_
                refine zr_ldiv (pc := 119) ⟨by omega, by omega⟩ (by omega) d_Sums_solve_119 ?_
                have hr17_ := zlquo_r u9_ v14_
                obtain ⟨q_, hq_⟩ : ∃ q, q = (zlquo u9_ v14_) := ⟨_, rfl⟩
                have hqu_ := zrX_e hA_ p3_ hin_ hL5_ ⟨by omega, by omega⟩ (by omega) (by omega) hm_ hq_
                refine zw_goto (pc := 120) (tgt := 124) (by decide) d_Sums_solve_120 ?_
                refine zk_stJ hf_N2_.x (pc := 124) (o := 25) (by decide) l_Sums_31 ((hf_N2_.w hW).kr (o := 24) (by decide)) ((hf_N2_.w hW).lr (o := 24) (s := 0) (r := 25) (by decide)) ((hf_N2_.w hW).rr (o := 25) (t := 2) (n := 1080) (by decide)) (by decide) (by omega) (by omega) (by decide) (Nat.le_of_ble_eq_true rfl) d_Sums_solve_124 (fun N18_ hN18_ hsN18_ => ?_)
                have hf_N18_ : zFc d_ [] [] [] [25] Mz N18_ := hf_N2_.tr hsN18_ (by decide) (by decide) (by decide) (by decide)
                have hb0_N18_ : zFc d_ [] [] [] [25] Mz N18_ := hs3_.tr hsN18_ (by decide) (by decide) (by decide) (by decide)
                have eD12_7_N18_ : ze N18_ (d_ + 12) 7 = ze N2_ (d_ + 12) 7 := hsN18_.e (by decide)
                have c19_ : zKm F_ K_ d_ N18_ := zKm.fr (hf_N2_.w hW) hsN18_ c7_ (by decide)
                have h1_ := zS1_i hN18_ ⟨by omega, by omega⟩ (by omega)
                have hu1_ := zUp_s hup_ h1_ rfl (by omega) (by omega) (by first | (exfalso; omega) | (rw [← hq_]; exact hqu_))
                refine zr_iinc (pc := 127) (i := 2) (a := u1_) (n := -1) (L2 := [some (.ref (d_ + 23)), some (.int (Int32.ofInt a0_)), some (.int (Int32.ofInt (u1_ + (-1)))), some (.long (Int64.ofInt u9_)), none, some (.int (Int32.ofInt v14_))]) rfl (by decide) rfl d_Sums_solve_127 ?_
                refine zw_goto (pc := 130) (tgt := 10) (by decide) d_Sums_solve_130 ?_
                refine zW_le [some (.ref (d_ + 23)), some (.int (Int32.ofInt a0_)), some (.int (Int32.ofInt (u1_ + (-1)))), none, none, none] (⟨rfl, rfl, rfl, trivial⟩) ?_
                exact ih_10 (u1_ + (-1)) (by omega) (by omega) N18_ hb0_N18_ (show (u1_ + (-1)) < F_ by first | assumption | omega) (show -1 ≤ (u1_ + (-1)) by first | assumption | omega) (show zUp F_ d_ Mz N18_ a0_ (zsq F_ K_ (fun j_ => zg Mz (d_ + 27) j_)) (u1_ + (-1)) by exact hu1_) (by omega)
            · skip
              refine zw_lload_n (pc := 40) (n := 3) (x := Int64.ofInt u9_) rfl d_Sums_solve_40 ?_
              refine zw_aload_n (pc := 41) (n := 0) (x := (d_ + 23)) rfl d_Sums_solve_41 ?_
              refine zw_getF (pc := 42) f_Sums_16 rfl ((hf_N2_.w hW).kr (o := 23) (by decide)) ((hf_N2_.w hW).lr (o := 23) (s := 1) (r := 24) (by decide)) d_Sums_solve_42 ?_
              refine zw_iload_n (pc := 45) (n := 1) (x := Int32.ofInt a0_) rfl d_Sums_solve_45 ?_
              refine zw_bipush (pc := 46) (v := Int32.ofInt 27) (by decide) d_Sums_solve_46 ?_
              refine zr_imul (pc := 48) d_Sums_solve_48 ?_
              refine zw_iload (pc := 49) (i := 5) (x := Int32.ofInt u10_) rfl d_Sums_solve_49 ?_
              refine zr_iadd (pc := 51) d_Sums_solve_51 ?_
              refine zk_atJ hf_N2_.x (pc := 52) l_Sums_27 ((hf_N2_.w hW).kr (o := 24) (by decide)) ((hf_N2_.w hW).lr (o := 24) (s := 0) (r := 25) (by decide)) ((hf_N2_.w hW).rr (o := 25) (t := 2) (n := 1080) (by decide)) (by decide) (by omega) (by omega) (by decide) (Nat.le_of_ble_eq_true rfl) d_Sums_solve_52 (fun v20_ hv20_ hv20_a hv20_b => ?_)
              have hx_ := zUp_x hup_ (by omega) (by omega) (by omega) hv20_ (by omega)
              refine zw_aload_n (pc := 55) (n := 0) (x := (d_ + 23)) rfl d_Sums_solve_55 ?_
              refine zw_getF (pc := 56) f_Sums_23 rfl ((hf_N2_.w hW).kr (o := 23) (by decide)) ((hf_N2_.w hW).lr (o := 23) (s := 0) (r := 12) (by decide)) d_Sums_solve_56 ?_
              refine zw_getF (pc := 59) f_Sums_41 rfl ((hf_N2_.w hW).kr (o := 12) (by decide)) ((hf_N2_.w hW).lr (o := 12) (s := 5) (r := 21) (by decide)) d_Sums_solve_59 ?_
              refine zw_iload (pc := 62) (i := 5) (x := Int32.ofInt u10_) rfl d_Sums_solve_62 ?_
              refine zw_bipush (pc := 64) (v := Int32.ofInt 27) (by decide) d_Sums_solve_64 ?_
              refine zr_imul (pc := 66) d_Sums_solve_66 ?_
              refine zw_iload_n (pc := 67) (n := 2) (x := Int32.ofInt u1_) rfl d_Sums_solve_67 ?_
              refine zr_iadd (pc := 68) d_Sums_solve_68 ?_
              refine zk_at hf_N2_.x (pc := 69) l_Sums_45 ((hf_N2_.w hW).kr (o := 21) (by decide)) ((hf_N2_.w hW).lr (o := 21) (s := 0) (r := 22) (by decide)) ((hf_N2_.w hW).rr (o := 22) (t := 1) (n := 729) (by decide)) (by decide) (by omega) (by omega) (by decide) (Nat.le_of_ble_eq_true rfl) d_Sums_solve_69 (fun v21_ hv21_ hv21_a hv21_b => ?_)
              rw [hf_N2_.r (by decide)] at hv21_
              have hy_ := p0_.k (by omega) (by omega) (by omega) (by omega) hv21_
              refine zr_i2l (pc := 72) ⟨hv21_a, hv21_b⟩ d_Sums_solve_72 ?_
              refine zr_lmul (pc := 73) d_Sums_solve_73 ?_
              refine zr_lsub (pc := 74) d_Sums_solve_74 ?_
              refine zk_nmJ (fun v22_ hv22_ hv22_e => ?_)
              obtain ⟨hv22_a, hv22_b⟩ := hv22_
              have hz_ := zrX_s (show zrX F_ K_ (fun j_ => zg Mz (d_ + 27) j_) u9_ u1_ u10_ by assumption) hv22_e (by omega) (by omega) (by omega) hx_ hy_
              refine zw_lstore_n (pc := 75) (i := 3) (L2 := [some (.ref (d_ + 23)), some (.int (Int32.ofInt a0_)), some (.int (Int32.ofInt u1_)), some (.long (Int64.ofInt v22_)), none, some (.int (Int32.ofInt u10_))]) rfl (by decide) rfl d_Sums_solve_75 ?_
              refine zr_iinc (pc := 76) (i := 5) (a := u10_) (n := 1) (L2 := [some (.ref (d_ + 23)), some (.int (Int32.ofInt a0_)), some (.int (Int32.ofInt u1_)), some (.long (Int64.ofInt v22_)), none, some (.int (Int32.ofInt (u10_ + 1)))]) rfl (by decide) rfl d_Sums_solve_76 ?_
              refine zw_goto (pc := 79) (tgt := 28) (by decide) d_Sums_solve_79 ?_
              exact ih_28 v22_ hv22_a hv22_b (u10_ + 1) (by omega) (by omega) (show u1_ < (u10_ + 1) by first | assumption | omega) (show (u10_ + 1) ≤ F_ by first | assumption | omega) (show zrX F_ K_ (fun j_ => zg Mz (d_ + 27) j_) v22_ u1_ (u10_ + 1) by exact hz_) (by omega)
        exact lp_28 _ v8_ hv8_a hv8_b (u1_ + 1) (by omega) (by omega) (show u1_ < (u1_ + 1) by first | assumption | omega) (show (u1_ + 1) ≤ F_ by first | assumption | omega) (show zrX F_ K_ (fun j_ => zg Mz (d_ + 27) j_) v8_ u1_ (u1_ + 1) by exact zrX_0 (by assumption)) (Nat.lt_succ_self _)
  exact lp_10 _ ((ze Mz (d_ + 12) 7) - 1) (by omega) (by omega) Mz zFc.rf (show ((ze Mz (d_ + 12) 7) - 1) < F_ by first | assumption | omega) (show -1 ≤ ((ze Mz (d_ + 12) 7) - 1) by first | assumption | omega) (show zUp F_ d_ Mz Mz a0_ (zsq F_ K_ (fun j_ => zg Mz (d_ + 27) j_)) ((ze Mz (d_ + 12) 7) - 1) by exact zUp_0 (by omega)) (Nat.lt_succ_self _)
set_option maxHeartbeats 4000000 in
theorem u_Group_isSetKeptS (l : Launch) (d_ : Nat) (Mz : zMem) (hW : zKW d_ Mz) (a0_ : Int) (ha0_a : -2147483648 ≤ a0_) (ha0_b : a0_ < 2147483648) (a1_ : Int) (ha1_a : -2147483648 ≤ a1_) (ha1_b : a1_ < 2147483648) (T_ : zGT) (hT_ : T_ ∈ gTabs) (P_ : Nat) (mv_ : List Nat) (p0_ : zMvK mv_ P_ d_ Mz) (p1_ : zGc mv_ P_ T_ d_ Mz) (p2_ : 0 ≤ a0_) (p3_ : a0_ < 64) (p4_ : 0 ≤ a1_) (p5_ : a1_ < 16777216) : zC l m_Group_isSetKept 0 0 [.ref (d_ + 1), .int (Int32.ofInt a0_), .int (Int32.ofInt a1_)] Mz (zqcI d_ [] [] [] [] Mz (fun v N => (((v = 1 ∧ (∀ p_ : Nat, p_ < P_ → (a0_).toNat.testBit p_ = true → (zrch (gN T_) (zCo P_ d_ Mz) (a1_).toNat p_) &&& (a0_).toNat = (zrch (gN T_) (zCo P_ d_ Mz) (a1_).toNat p_))) ∨ (v = 0 ∧ ¬ (∀ p_ : Nat, p_ < P_ → (a0_).toNat.testBit p_ = true → (zrch (gN T_) (zCo P_ d_ Mz) (a1_).toNat p_) &&& (a0_).toNat = (zrch (gN T_) (zCo P_ d_ Mz) (a1_).toNat p_))))))) := by
  refine zC_of (L0 := [some (.ref (d_ + 1)), some (.int (Int32.ofInt a0_)), some (.int (Int32.ofInt a1_)), none]) md_Group_isSetKept (Nat.le_of_ble_eq_true rfl) rfl ?_ zQ0
  have hf : zFc d_ [] [] [] [] Mz Mz := zFc.rf
  have r_D1_5 := ze_r Mz (d_ + 1) 5
  have hO_ := gTabs_ok T_ hT_
  have hG_ := hO_.1
  have hn24_ := hG_.2.1
  have hn1_ := hG_.1
  obtain ⟨⟨hP0_, hP1_, hP6_⟩, -⟩ := id p0_
  refine zw_iconst (pc := 0) (v := Int32.ofInt 0) (by decide) d_Group_isSetKept_0 ?_
  refine zw_istore_n (pc := 1) (i := 3) (L2 := [some (.ref (d_ + 1)), some (.int (Int32.ofInt a0_)), some (.int (Int32.ofInt a1_)), some (.int (Int32.ofInt 0))]) rfl (by decide) rfl d_Group_isSetKept_1 ?_
  have lp_2 : ∀ (n : Nat) (u1_ : Int) (hu1_a : -2147483648 ≤ u1_) (hu1_b : u1_ < 2147483648) (i2_ : 0 ≤ u1_) (i3_ : u1_ ≤ P_) (i4_ : (∀ p_ : Nat, (p_ : Int) < u1_ → (a0_).toNat.testBit p_ = true → (zrch (gN T_) (zCo P_ d_ Mz) (a1_).toNat p_) &&& (a0_).toNat = (zrch (gN T_) (zCo P_ d_ Mz) (a1_).toNat p_))), (P_ - u1_).toNat < n → zW l m_Group_isSetKept (zn Mz + 0, zw Mz + 0) Mz 2 [some (.ref (d_ + 1)), some (.int (Int32.ofInt a0_)), some (.int (Int32.ofInt a1_)), some (.int (Int32.ofInt u1_))] [] (zqcI d_ [] [] [] [] Mz (fun v N => (((v = 1 ∧ (∀ p_ : Nat, p_ < P_ → (a0_).toNat.testBit p_ = true → (zrch (gN T_) (zCo P_ d_ Mz) (a1_).toNat p_) &&& (a0_).toNat = (zrch (gN T_) (zCo P_ d_ Mz) (a1_).toNat p_))) ∨ (v = 0 ∧ ¬ (∀ p_ : Nat, p_ < P_ → (a0_).toNat.testBit p_ = true → (zrch (gN T_) (zCo P_ d_ Mz) (a1_).toNat p_) &&& (a0_).toNat = (zrch (gN T_) (zCo P_ d_ Mz) (a1_).toNat p_))))))) := by
    intro n
    induction n with
    | zero =>
      intro u1_ hu1_a hu1_b i2_ i3_ i4_ h0
      exact absurd h0 (Nat.not_lt_zero _)
    | succ n ih_2 =>
      intro u1_ hu1_a hu1_b i2_ i3_ i4_ hlt_2
      have hcl_ := (show (∀ p_ : Nat, (p_ : Int) < u1_ → (a0_).toNat.testBit p_ = true → (zrch (gN T_) (zCo P_ d_ Mz) (a1_).toNat p_) &&& (a0_).toNat = (zrch (gN T_) (zCo P_ d_ Mz) (a1_).toNat p_)) by assumption)
      refine zw_iload_n (pc := 2) (n := 3) (x := Int32.ofInt u1_) rfl d_Group_isSetKept_2 ?_
      refine zw_aload_n (pc := 3) (n := 0) (x := (d_ + 1)) rfl d_Group_isSetKept_3 ?_
      refine zk_getI (pc := 4) f_Group_32 rfl ((hf.w hW).kr (o := 1) (by decide)) d_Group_isSetKept_4 ?_
      refine zr_icmp_ge (pc := 7) (tgt := 39) ⟨hu1_a, hu1_b⟩ ⟨(ze_r Mz (d_ + 1) 5).1, (ze_r Mz (d_ + 1) 5).2⟩ (by decide) d_Group_isSetKept_7 (fun hc_7 => ?_) (fun hc_7 => ?_)
      · skip
        refine zw_iconst (pc := 39) (v := Int32.ofInt 1) (by decide) d_Group_isSetKept_39 ?_
        exact zk_iret (pc := 40) (ty := .boolean) rfl (z_narB (by omega)) ⟨by omega, by omega⟩ hf (show ((1 = 1 ∧ (∀ p_ : Nat, p_ < P_ → (a0_).toNat.testBit p_ = true → (zrch (gN T_) (zCo P_ d_ Mz) (a1_).toNat p_) &&& (a0_).toNat = (zrch (gN T_) (zCo P_ d_ Mz) (a1_).toNat p_))) ∨ (1 = 0 ∧ ¬ (∀ p_ : Nat, p_ < P_ → (a0_).toNat.testBit p_ = true → (zrch (gN T_) (zCo P_ d_ Mz) (a1_).toNat p_) &&& (a0_).toNat = (zrch (gN T_) (zCo P_ d_ Mz) (a1_).toNat p_)))) from Or.inl (⟨(show 1 = 1 by first | rfl | exact fun p_ hp_ hb_ => hcl_ p_ (by omega) hb_), (show (∀ p_ : Nat, p_ < P_ → (a0_).toNat.testBit p_ = true → (zrch (gN T_) (zCo P_ d_ Mz) (a1_).toNat p_) &&& (a0_).toNat = (zrch (gN T_) (zCo P_ d_ Mz) (a1_).toNat p_)) by first | rfl | exact fun p_ hp_ hb_ => hcl_ p_ (by omega) hb_)⟩)) d_Group_isSetKept_40
      · skip
        refine zw_iload_n (pc := 10) (n := 1) (x := Int32.ofInt a0_) rfl d_Group_isSetKept_10 ?_
        refine zw_iload_n (pc := 11) (n := 3) (x := Int32.ofInt u1_) rfl d_Group_isSetKept_11 ?_
        refine zr_callS hf.x (pc := 12) [.int (Int32.ofInt a0_), .int (Int32.ofInt u1_)] [] l_Group_73 (u_T_isIn l d_ Mz (hf.w hW) a0_ ha0_a ha0_b u1_ hu1_a hu1_b (show 0 ≤ a0_ by first | assumption | omega) (show a0_ < 2147483648 by first | assumption | omega) (show 0 ≤ u1_ by first | assumption | omega) (show u1_ < 31 by first | assumption | omega)) rfl rfl (by decide) (Nat.le_of_ble_eq_true rfl) d_Group_isSetKept_12 ?_
        rintro _ N5_ ⟨v6_, rfl, ⟨hv6_a, hv6_b⟩, hsN5_, hp0_N5_⟩
        obtain rfl := hsN5_.eq.symm
        replace hp0_N5_ : ((v6_ = 1 ∧ zbt a0_ u1_) ∨ (v6_ = 0 ∧ ¬ zbt a0_ u1_)) := hp0_N5_
        rcases hp0_N5_ with ⟨rfl, ha12_0_hp0_N5_⟩ | ⟨rfl, ha12_0_hp0_N5_⟩
        · skip
          have hin_ := ha12_0_hp0_N5_
          show zW l m_Group_isSetKept (zn Mz + 0, zw Mz + 0) Mz 15 [some (.ref (d_ + 1)), some (.int (Int32.ofInt a0_)), some (.int (Int32.ofInt a1_)), some (.int (Int32.ofInt u1_))] [.int (Int32.ofInt 1)] (zqcI d_ [] [] [] [] Mz (fun v N => (((v = 1 ∧ (∀ p_ : Nat, p_ < P_ → (a0_).toNat.testBit p_ = true → (zrch (gN T_) (zCo P_ d_ Mz) (a1_).toNat p_) &&& (a0_).toNat = (zrch (gN T_) (zCo P_ d_ Mz) (a1_).toNat p_))) ∨ (v = 0 ∧ ¬ (∀ p_ : Nat, p_ < P_ → (a0_).toNat.testBit p_ = true → (zrch (gN T_) (zCo P_ d_ Mz) (a1_).toNat p_) &&& (a0_).toNat = (zrch (gN T_) (zCo P_ d_ Mz) (a1_).toNat p_)))))))
          refine zr_if_eq (pc := 15) (tgt := 33) ⟨(by decide), (by decide)⟩ (by decide) d_Group_isSetKept_15 (fun hc_15 => ?_) (fun hc_15 => ?_)
          · skip
            exact absurd hc_15 (by decide)
          · skip
            refine zw_aload_n (pc := 18) (n := 0) (x := (d_ + 1)) rfl d_Group_isSetKept_18 ?_
            refine zw_iload_n (pc := 19) (n := 3) (x := Int32.ofInt u1_) rfl d_Group_isSetKept_19 ?_
            refine zw_iload_n (pc := 20) (n := 2) (x := Int32.ofInt a1_) rfl d_Group_isSetKept_20 ?_
            refine zk_callV hf.x (pc := 21) [.int (Int32.ofInt u1_), .int (Int32.ofInt a1_)] [] l_Group_103 (u_Group_placesReachedG l d_ Mz (hf.w hW) u1_ hu1_a hu1_b a1_ ha1_a ha1_b T_ hT_ P_ mv_ p0_ p1_ (show 0 ≤ u1_ by first | assumption | omega) (show u1_ < (P_ : Int) by first | assumption | omega) (show 0 ≤ a1_ by first | assumption | omega) (show a1_ < 16777216 by first | assumption | omega)) rfl rfl ((hf.w hW).kr (o := 1) (by decide)) (by decide) (by decide) (Nat.le_of_ble_eq_true rfl) d_Group_isSetKept_21 ?_
            rintro _ N7_ ⟨v8_, rfl, ⟨hv8_a, hv8_b⟩, hsN7_, hp0_N7_⟩
            obtain rfl := hsN7_.eq.symm
            replace hp0_N7_ : zImg (fun m_ => (a1_).toNat.testBit m_ = true) (fun m_ => gdg (zCo P_ d_ Mz m_) (u1_).toNat) (gN T_) v8_ := hp0_N7_
            show zW l m_Group_isSetKept (zn Mz + 0, zw Mz + 0) Mz 24 [some (.ref (d_ + 1)), some (.int (Int32.ofInt a0_)), some (.int (Int32.ofInt a1_)), some (.int (Int32.ofInt u1_))] [.int (Int32.ofInt v8_)] (zqcI d_ [] [] [] [] Mz (fun v N => (((v = 1 ∧ (∀ p_ : Nat, p_ < P_ → (a0_).toNat.testBit p_ = true → (zrch (gN T_) (zCo P_ d_ Mz) (a1_).toNat p_) &&& (a0_).toNat = (zrch (gN T_) (zCo P_ d_ Mz) (a1_).toNat p_))) ∨ (v = 0 ∧ ¬ (∀ p_ : Nat, p_ < P_ → (a0_).toNat.testBit p_ = true → (zrch (gN T_) (zCo P_ d_ Mz) (a1_).toNat p_) &&& (a0_).toNat = (zrch (gN T_) (zCo P_ d_ Mz) (a1_).toNat p_)))))))
            have hR_ := zImg_r hp0_N7_
            have hRb_ := (hp0_N7_).1
            refine zw_iload_n (pc := 24) (n := 1) (x := Int32.ofInt a0_) rfl d_Group_isSetKept_24 ?_
            refine zr_callS hf.x (pc := 25) [.int (Int32.ofInt v8_), .int (Int32.ofInt a0_)] [] l_Group_115 (u_T_isPart l d_ Mz (hf.w hW) v8_ hv8_a hv8_b a0_ ha0_a ha0_b (show 0 ≤ v8_ by first | assumption | omega) (show v8_ < 2147483648 by first | assumption | omega) (show 0 ≤ a0_ by first | assumption | omega) (show a0_ < 2147483648 by first | assumption | omega)) rfl rfl (by decide) (Nat.le_of_ble_eq_true rfl) d_Group_isSetKept_25 ?_
            rintro _ N9_ ⟨v10_, rfl, ⟨hv10_a, hv10_b⟩, hsN9_, hp0_N9_⟩
            obtain rfl := hsN9_.eq.symm
            replace hp0_N9_ : ((v10_ = 1 ∧ (v8_).toNat &&& (a0_).toNat = (v8_).toNat) ∨ (v10_ = 0 ∧ ¬ (v8_).toNat &&& (a0_).toNat = (v8_).toNat)) := hp0_N9_
            rcases hp0_N9_ with ⟨rfl, ha25_0_hp0_N9_⟩ | ⟨rfl, ha25_0_hp0_N9_⟩
            · skip
              have hpt_ := ha25_0_hp0_N9_
              rw [hR_, Int.toNat_natCast] at hpt_
              have hcn_ : (∀ p_ : Nat, (p_ : Int) < u1_ + 1 → (a0_).toNat.testBit p_ = true → (zrch (gN T_) (zCo P_ d_ Mz) (a1_).toNat p_) &&& (a0_).toNat = (zrch (gN T_) (zCo P_ d_ Mz) (a1_).toNat p_)) := fun p_ hp_ hb_ => by by_cases g_ : (p_ : Int) = u1_; (rw [show p_ = (u1_).toNat by omega]; exact hpt_); exact hcl_ p_ (by omega) hb_
              show zW l m_Group_isSetKept (zn Mz + 0, zw Mz + 0) Mz 28 [some (.ref (d_ + 1)), some (.int (Int32.ofInt a0_)), some (.int (Int32.ofInt a1_)), some (.int (Int32.ofInt u1_))] [.int (Int32.ofInt 1)] (zqcI d_ [] [] [] [] Mz (fun v N => (((v = 1 ∧ (∀ p_ : Nat, p_ < P_ → (a0_).toNat.testBit p_ = true → (zrch (gN T_) (zCo P_ d_ Mz) (a1_).toNat p_) &&& (a0_).toNat = (zrch (gN T_) (zCo P_ d_ Mz) (a1_).toNat p_))) ∨ (v = 0 ∧ ¬ (∀ p_ : Nat, p_ < P_ → (a0_).toNat.testBit p_ = true → (zrch (gN T_) (zCo P_ d_ Mz) (a1_).toNat p_) &&& (a0_).toNat = (zrch (gN T_) (zCo P_ d_ Mz) (a1_).toNat p_)))))))
              refine zr_if_ne (pc := 28) (tgt := 33) ⟨(by decide), (by decide)⟩ (by decide) d_Group_isSetKept_28 (fun hc_28 => ?_) (fun hc_28 => ?_)
              · skip
                refine zr_iinc (pc := 33) (i := 3) (a := u1_) (n := 1) (L2 := [some (.ref (d_ + 1)), some (.int (Int32.ofInt a0_)), some (.int (Int32.ofInt a1_)), some (.int (Int32.ofInt (u1_ + 1)))]) rfl (by decide) rfl d_Group_isSetKept_33 ?_
                refine zw_goto (pc := 36) (tgt := 2) (by decide) d_Group_isSetKept_36 ?_
                exact ih_2 (u1_ + 1) (by omega) (by omega) (show 0 ≤ (u1_ + 1) by first | assumption | omega) (show (u1_ + 1) ≤ P_ by first | assumption | omega) (show (∀ p_ : Nat, (p_ : Int) < (u1_ + 1) → (a0_).toNat.testBit p_ = true → (zrch (gN T_) (zCo P_ d_ Mz) (a1_).toNat p_) &&& (a0_).toNat = (zrch (gN T_) (zCo P_ d_ Mz) (a1_).toNat p_)) by exact hcn_) (by omega)
              · skip
                exact absurd hc_28 (by decide)
            · skip
              have hnp_ := ha25_0_hp0_N9_
              rw [hR_, Int.toNat_natCast] at hnp_
              show zW l m_Group_isSetKept (zn Mz + 0, zw Mz + 0) Mz 28 [some (.ref (d_ + 1)), some (.int (Int32.ofInt a0_)), some (.int (Int32.ofInt a1_)), some (.int (Int32.ofInt u1_))] [.int (Int32.ofInt 0)] (zqcI d_ [] [] [] [] Mz (fun v N => (((v = 1 ∧ (∀ p_ : Nat, p_ < P_ → (a0_).toNat.testBit p_ = true → (zrch (gN T_) (zCo P_ d_ Mz) (a1_).toNat p_) &&& (a0_).toNat = (zrch (gN T_) (zCo P_ d_ Mz) (a1_).toNat p_))) ∨ (v = 0 ∧ ¬ (∀ p_ : Nat, p_ < P_ → (a0_).toNat.testBit p_ = true → (zrch (gN T_) (zCo P_ d_ Mz) (a1_).toNat p_) &&& (a0_).toNat = (zrch (gN T_) (zCo P_ d_ Mz) (a1_).toNat p_)))))))
              refine zr_if_ne (pc := 28) (tgt := 33) ⟨(by decide), (by decide)⟩ (by decide) d_Group_isSetKept_28 (fun hc_28 => ?_) (fun hc_28 => ?_)
              · skip
                exact absurd hc_28 (by decide)
              · skip
                refine zw_iconst (pc := 31) (v := Int32.ofInt 0) (by decide) d_Group_isSetKept_31 ?_
                exact zk_iret (pc := 32) (ty := .boolean) rfl (z_narB (by omega)) ⟨by omega, by omega⟩ hf (show ((0 = 1 ∧ (∀ p_ : Nat, p_ < P_ → (a0_).toNat.testBit p_ = true → (zrch (gN T_) (zCo P_ d_ Mz) (a1_).toNat p_) &&& (a0_).toNat = (zrch (gN T_) (zCo P_ d_ Mz) (a1_).toNat p_))) ∨ (0 = 0 ∧ ¬ (∀ p_ : Nat, p_ < P_ → (a0_).toNat.testBit p_ = true → (zrch (gN T_) (zCo P_ d_ Mz) (a1_).toNat p_) &&& (a0_).toNat = (zrch (gN T_) (zCo P_ d_ Mz) (a1_).toNat p_)))) from Or.inr (⟨(show 0 = 0 by first | rfl | exact fun q_ => hnp_ (q_ _ (by omega) hin_)), (show ¬ (∀ p_ : Nat, p_ < P_ → (a0_).toNat.testBit p_ = true → (zrch (gN T_) (zCo P_ d_ Mz) (a1_).toNat p_) &&& (a0_).toNat = (zrch (gN T_) (zCo P_ d_ Mz) (a1_).toNat p_)) by first | rfl | exact fun q_ => hnp_ (q_ _ (by omega) hin_))⟩)) d_Group_isSetKept_32
        · skip
          have hno_ := ha12_0_hp0_N5_
          have hcn_ : (∀ p_ : Nat, (p_ : Int) < u1_ + 1 → (a0_).toNat.testBit p_ = true → (zrch (gN T_) (zCo P_ d_ Mz) (a1_).toNat p_) &&& (a0_).toNat = (zrch (gN T_) (zCo P_ d_ Mz) (a1_).toNat p_)) := fun p_ hp_ hb_ => by by_cases g_ : (p_ : Int) = u1_; exact absurd (by rw [show p_ = (u1_).toNat by omega] at hb_; exact hb_) hno_; exact hcl_ p_ (by omega) hb_
          show zW l m_Group_isSetKept (zn Mz + 0, zw Mz + 0) Mz 15 [some (.ref (d_ + 1)), some (.int (Int32.ofInt a0_)), some (.int (Int32.ofInt a1_)), some (.int (Int32.ofInt u1_))] [.int (Int32.ofInt 0)] (zqcI d_ [] [] [] [] Mz (fun v N => (((v = 1 ∧ (∀ p_ : Nat, p_ < P_ → (a0_).toNat.testBit p_ = true → (zrch (gN T_) (zCo P_ d_ Mz) (a1_).toNat p_) &&& (a0_).toNat = (zrch (gN T_) (zCo P_ d_ Mz) (a1_).toNat p_))) ∨ (v = 0 ∧ ¬ (∀ p_ : Nat, p_ < P_ → (a0_).toNat.testBit p_ = true → (zrch (gN T_) (zCo P_ d_ Mz) (a1_).toNat p_) &&& (a0_).toNat = (zrch (gN T_) (zCo P_ d_ Mz) (a1_).toNat p_)))))))
          refine zr_if_eq (pc := 15) (tgt := 33) ⟨(by decide), (by decide)⟩ (by decide) d_Group_isSetKept_15 (fun hc_15 => ?_) (fun hc_15 => ?_)
          · skip
            refine zr_iinc (pc := 33) (i := 3) (a := u1_) (n := 1) (L2 := [some (.ref (d_ + 1)), some (.int (Int32.ofInt a0_)), some (.int (Int32.ofInt a1_)), some (.int (Int32.ofInt (u1_ + 1)))]) rfl (by decide) rfl d_Group_isSetKept_33 ?_
            refine zw_goto (pc := 36) (tgt := 2) (by decide) d_Group_isSetKept_36 ?_
            exact ih_2 (u1_ + 1) (by omega) (by omega) (show 0 ≤ (u1_ + 1) by first | assumption | omega) (show (u1_ + 1) ≤ P_ by first | assumption | omega) (show (∀ p_ : Nat, (p_ : Int) < (u1_ + 1) → (a0_).toNat.testBit p_ = true → (zrch (gN T_) (zCo P_ d_ Mz) (a1_).toNat p_) &&& (a0_).toNat = (zrch (gN T_) (zCo P_ d_ Mz) (a1_).toNat p_)) by exact hcn_) (by omega)
          · skip
            exact absurd hc_15 (by decide)
  exact lp_2 _ 0 (by decide) (by decide) (show 0 ≤ (0 : Int) by first | assumption | omega) (show (0 : Int) ≤ P_ by first | assumption | omega) (show (∀ p_ : Nat, (p_ : Int) < (0 : Int) → (a0_).toNat.testBit p_ = true → (zrch (gN T_) (zCo P_ d_ Mz) (a1_).toNat p_) &&& (a0_).toNat = (zrch (gN T_) (zCo P_ d_ Mz) (a1_).toNat p_)) by exact fun p_ hp_ => absurd hp_ (by omega)) (Nat.lt_succ_self _)
set_option maxHeartbeats 4000000 in
theorem u_Group_countSetsKeptS (l : Launch) (d_ : Nat) (Mz : zMem) (hW : zKW d_ Mz) (a0_ : Int) (ha0_a : -2147483648 ≤ a0_) (ha0_b : a0_ < 2147483648) (a1_ : Int) (ha1_a : -2147483648 ≤ a1_) (ha1_b : a1_ < 2147483648) (T_ : zGT) (hT_ : T_ ∈ gTabs) (P_ : Nat) (mv_ : List Nat) (p0_ : zMvK mv_ P_ d_ Mz) (p1_ : zGc mv_ P_ T_ d_ Mz) (p2_ : 0 ≤ a0_) (p3_ : a0_ ≤ 6) (p4_ : 0 ≤ a1_) (p5_ : a1_ < 16777216) : zC l m_Group_countSetsKept 0 0 [.ref (d_ + 1), .int (Int32.ofInt a0_), .int (Int32.ofInt a1_)] Mz (zqcI d_ [] [] [] [] Mz (fun v N => v = ((zct (fun s_ => gcb s_ = (a0_).toNat ∧ ∀ p_ : Nat, p_ < P_ → s_.testBit p_ = true → (zrch (gN T_) (zCo P_ d_ Mz) (a1_).toNat p_) &&& s_ = (zrch (gN T_) (zCo P_ d_ Mz) (a1_).toNat p_)) (2 ^ P_) : Nat) : Int))) := by
  refine zC_of (L0 := [some (.ref (d_ + 1)), some (.int (Int32.ofInt a0_)), some (.int (Int32.ofInt a1_)), none, none]) md_Group_countSetsKept (Nat.le_of_ble_eq_true rfl) rfl ?_ zQ0
  have hf : zFc d_ [] [] [] [] Mz Mz := zFc.rf
  have r_D1_5 := ze_r Mz (d_ + 1) 5
  have hO_ := gTabs_ok T_ hT_
  have hG_ := hO_.1
  have hn24_ := hG_.2.1
  have hn1_ := hG_.1
  obtain ⟨⟨hP0_, hP1_, hP6_⟩, -⟩ := id p0_
  have h64_ : 2 ^ P_ ≤ 64 := Nat.pow_le_pow_right (by decide) hP6_
  have hsh_ := tk_sh P_ (by omega)
  obtain ⟨W_, hW_⟩ : ∃ w : Nat, w = 2 ^ P_ := ⟨_, rfl⟩
  rw [← hW_] at h64_ hsh_
  refine zw_iconst (pc := 0) (v := Int32.ofInt 0) (by decide) d_Group_countSetsKept_0 ?_
  refine zw_istore_n (pc := 1) (i := 3) (L2 := [some (.ref (d_ + 1)), some (.int (Int32.ofInt a0_)), some (.int (Int32.ofInt a1_)), some (.int (Int32.ofInt 0)), none]) rfl (by decide) rfl d_Group_countSetsKept_1 ?_
  refine zw_iconst (pc := 2) (v := Int32.ofInt 0) (by decide) d_Group_countSetsKept_2 ?_
  refine zw_istore (pc := 3) (i := 4) (L2 := [some (.ref (d_ + 1)), some (.int (Int32.ofInt a0_)), some (.int (Int32.ofInt a1_)), some (.int (Int32.ofInt 0)), some (.int (Int32.ofInt 0))]) (by decide) rfl d_Group_countSetsKept_3 ?_
  have lp_5 : ∀ (n : Nat) (u1_ : Int) (hu1_a : -2147483648 ≤ u1_) (hu1_b : u1_ < 2147483648) (u2_ : Int) (hu2_a : -2147483648 ≤ u2_) (hu2_b : u2_ < 2147483648) (i3_ : 0 ≤ u2_) (i4_ : u2_ ≤ W_) (i5_ : u1_ = ((zct (fun s_ => gcb s_ = (a0_).toNat ∧ ∀ p_ : Nat, p_ < P_ → s_.testBit p_ = true → (zrch (gN T_) (zCo P_ d_ Mz) (a1_).toNat p_) &&& s_ = (zrch (gN T_) (zCo P_ d_ Mz) (a1_).toNat p_)) (u2_).toNat : Nat) : Int)) (i6_ : 0 ≤ u1_ ∧ u1_ ≤ u2_), (W_ - u2_).toNat < n → zW l m_Group_countSetsKept (zn Mz + 0, zw Mz + 0) Mz 5 [some (.ref (d_ + 1)), some (.int (Int32.ofInt a0_)), some (.int (Int32.ofInt a1_)), some (.int (Int32.ofInt u1_)), some (.int (Int32.ofInt u2_))] [] (zqcI d_ [] [] [] [] Mz (fun v N => v = ((zct (fun s_ => gcb s_ = (a0_).toNat ∧ ∀ p_ : Nat, p_ < P_ → s_.testBit p_ = true → (zrch (gN T_) (zCo P_ d_ Mz) (a1_).toNat p_) &&& s_ = (zrch (gN T_) (zCo P_ d_ Mz) (a1_).toNat p_)) (2 ^ P_) : Nat) : Int))) := by
    intro n
    induction n with
    | zero =>
      intro u1_ hu1_a hu1_b u2_ hu2_a hu2_b i3_ i4_ i5_ i6_ h0
      exact absurd h0 (Nat.not_lt_zero _)
    | succ n ih_5 =>
      intro u1_ hu1_a hu1_b u2_ hu2_a hu2_b i3_ i4_ i5_ i6_ hlt_5
      have hkc_ := (show u1_ = ((zct (fun s_ => gcb s_ = (a0_).toNat ∧ ∀ p_ : Nat, p_ < P_ → s_.testBit p_ = true → (zrch (gN T_) (zCo P_ d_ Mz) (a1_).toNat p_) &&& s_ = (zrch (gN T_) (zCo P_ d_ Mz) (a1_).toNat p_)) (u2_).toNat : Nat) : Int) by assumption)
      refine zw_iload (pc := 5) (i := 4) (x := Int32.ofInt u2_) rfl d_Group_countSetsKept_5 ?_
      refine zw_iconst (pc := 7) (v := Int32.ofInt 1) (by decide) d_Group_countSetsKept_7 ?_
      refine zw_aload_n (pc := 8) (n := 0) (x := (d_ + 1)) rfl d_Group_countSetsKept_8 ?_
      refine zk_getI (pc := 9) f_Group_32 rfl ((hf.w hW).kr (o := 1) (by decide)) d_Group_countSetsKept_9 ?_
      refine zr_ishl (pc := 12) d_Group_countSetsKept_12 ?_
      have hr7_ := zshl_r 1 (ze Mz (d_ + 1) 5)
      have hw_ : (zshl 1 (ze Mz (d_ + 1) 5)) = (W_ : Int) := by rw [show ze Mz (d_ + 1) 5 = (P_ : Int) by omega]; exact hsh_
      refine zr_icmp_ge (pc := 13) (tgt := 44) ⟨hu2_a, hu2_b⟩ ⟨(by omega), (by omega)⟩ (by decide) d_Group_countSetsKept_13 (fun hc_13 => ?_) (fun hc_13 => ?_)
      · skip
        refine zw_iload_n (pc := 44) (n := 3) (x := Int32.ofInt u1_) rfl d_Group_countSetsKept_44 ?_
        exact zk_iret (pc := 45) (ty := .int) rfl rfl ⟨by omega, by omega⟩ hf (show u1_ = ((zct (fun s_ => gcb s_ = (a0_).toNat ∧ ∀ p_ : Nat, p_ < P_ → s_.testBit p_ = true → (zrch (gN T_) (zCo P_ d_ Mz) (a1_).toNat p_) &&& s_ = (zrch (gN T_) (zCo P_ d_ Mz) (a1_).toNat p_)) (2 ^ P_) : Nat) : Int) by rw [← hW_, show W_ = (u2_).toNat by omega]; exact hkc_) d_Group_countSetsKept_45
      · skip
        refine zw_iload (pc := 16) (i := 4) (x := Int32.ofInt u2_) rfl d_Group_countSetsKept_16 ?_
        refine zr_callS hf.x (pc := 18) [.int (Int32.ofInt u2_)] [] l_Group_83 (u_Integer_bitCount l d_ Mz (hf.w hW) u2_ hu2_a hu2_b (show 0 ≤ u2_ by first | assumption | omega)) rfl rfl (by decide) (Nat.le_of_ble_eq_true rfl) d_Group_countSetsKept_18 ?_
        rintro _ N8_ ⟨v9_, rfl, ⟨hv9_a, hv9_b⟩, hsN8_, ⟨hp0_N8_, hp1_N8_, hp2_N8_⟩⟩
        obtain rfl := hsN8_.eq.symm
        show zW l m_Group_countSetsKept (zn Mz + 0, zw Mz + 0) Mz 21 [some (.ref (d_ + 1)), some (.int (Int32.ofInt a0_)), some (.int (Int32.ofInt a1_)), some (.int (Int32.ofInt u1_)), some (.int (Int32.ofInt u2_))] [.int (Int32.ofInt v9_)] (zqcI d_ [] [] [] [] Mz (fun v N => v = ((zct (fun s_ => gcb s_ = (a0_).toNat ∧ ∀ p_ : Nat, p_ < P_ → s_.testBit p_ = true → (zrch (gN T_) (zCo P_ d_ Mz) (a1_).toNat p_) &&& s_ = (zrch (gN T_) (zCo P_ d_ Mz) (a1_).toNat p_)) (2 ^ P_) : Nat) : Int)))
        have hb_ := hp0_N8_
        rw [kbc_g (by omega)] at hb_
        refine zw_iload_n (pc := 21) (n := 1) (x := Int32.ofInt a0_) rfl d_Group_countSetsKept_21 ?_
        refine zr_icmp_ne (pc := 22) (tgt := 38) ⟨hv9_a, hv9_b⟩ ⟨ha0_a, ha0_b⟩ (by decide) d_Group_countSetsKept_22 (fun hc_22 => ?_) (fun hc_22 => ?_)
        · skip
          refine zr_iinc (pc := 38) (i := 4) (a := u2_) (n := 1) (L2 := [some (.ref (d_ + 1)), some (.int (Int32.ofInt a0_)), some (.int (Int32.ofInt a1_)), some (.int (Int32.ofInt u1_)), some (.int (Int32.ofInt (u2_ + 1)))]) rfl (by decide) rfl d_Group_countSetsKept_38 ?_
          refine zw_goto (pc := 41) (tgt := 5) (by decide) d_Group_countSetsKept_41 ?_
          have hkn_ : u1_ = ((zct (fun s_ => gcb s_ = (a0_).toNat ∧ ∀ p_ : Nat, p_ < P_ → s_.testBit p_ = true → (zrch (gN T_) (zCo P_ d_ Mz) (a1_).toNat p_) &&& s_ = (zrch (gN T_) (zCo P_ d_ Mz) (a1_).toNat p_)) ((u2_ + 1)).toNat : Nat) : Int) := by first | exact zct_1 (p := (fun s_ => gcb s_ = (a0_).toNat ∧ ∀ p_ : Nat, p_ < P_ → s_.testBit p_ = true → (zrch (gN T_) (zCo P_ d_ Mz) (a1_).toNat p_) &&& s_ = (zrch (gN T_) (zCo P_ d_ Mz) (a1_).toNat p_))) (by omega) hkc_ ⟨by omega, hk1_⟩ | exact zct_0 (p := (fun s_ => gcb s_ = (a0_).toNat ∧ ∀ p_ : Nat, p_ < P_ → s_.testBit p_ = true → (zrch (gN T_) (zCo P_ d_ Mz) (a1_).toNat p_) &&& s_ = (zrch (gN T_) (zCo P_ d_ Mz) (a1_).toNat p_))) (by omega) hkc_ (fun q_ => hk0_ q_.2) | exact zct_0 (p := (fun s_ => gcb s_ = (a0_).toNat ∧ ∀ p_ : Nat, p_ < P_ → s_.testBit p_ = true → (zrch (gN T_) (zCo P_ d_ Mz) (a1_).toNat p_) &&& s_ = (zrch (gN T_) (zCo P_ d_ Mz) (a1_).toNat p_))) (by omega) hkc_ (fun q_ => by have h_ := q_.1; omega)
          exact ih_5 u1_ hu1_a hu1_b (u2_ + 1) (by omega) (by omega) (show 0 ≤ (u2_ + 1) by first | assumption | omega) (show (u2_ + 1) ≤ W_ by first | assumption | omega) (show u1_ = ((zct (fun s_ => gcb s_ = (a0_).toNat ∧ ∀ p_ : Nat, p_ < P_ → s_.testBit p_ = true → (zrch (gN T_) (zCo P_ d_ Mz) (a1_).toNat p_) &&& s_ = (zrch (gN T_) (zCo P_ d_ Mz) (a1_).toNat p_)) ((u2_ + 1)).toNat : Nat) : Int) by exact hkn_) (show 0 ≤ u1_ ∧ u1_ ≤ (u2_ + 1) by first | assumption | omega) (by omega)
        · skip
          refine zw_aload_n (pc := 25) (n := 0) (x := (d_ + 1)) rfl d_Group_countSetsKept_25 ?_
          refine zw_iload (pc := 26) (i := 4) (x := Int32.ofInt u2_) rfl d_Group_countSetsKept_26 ?_
          refine zw_iload_n (pc := 28) (n := 2) (x := Int32.ofInt a1_) rfl d_Group_countSetsKept_28 ?_
          refine zk_callV hf.x (pc := 29) [.int (Int32.ofInt u2_), .int (Int32.ofInt a1_)] [] l_Group_112 (u_Group_isSetKeptS l d_ Mz (hf.w hW) u2_ hu2_a hu2_b a1_ ha1_a ha1_b T_ hT_ P_ mv_ p0_ p1_ (show 0 ≤ u2_ by first | assumption | omega) (show u2_ < 64 by first | assumption | omega) (show 0 ≤ a1_ by first | assumption | omega) (show a1_ < 16777216 by first | assumption | omega)) rfl rfl ((hf.w hW).kr (o := 1) (by decide)) (by decide) (by decide) (Nat.le_of_ble_eq_true rfl) d_Group_countSetsKept_29 ?_
          rintro _ N10_ ⟨v11_, rfl, ⟨hv11_a, hv11_b⟩, hsN10_, hp0_N10_⟩
          obtain rfl := hsN10_.eq.symm
          replace hp0_N10_ : ((v11_ = 1 ∧ (∀ p_ : Nat, p_ < P_ → (u2_).toNat.testBit p_ = true → (zrch (gN T_) (zCo P_ d_ Mz) (a1_).toNat p_) &&& (u2_).toNat = (zrch (gN T_) (zCo P_ d_ Mz) (a1_).toNat p_))) ∨ (v11_ = 0 ∧ ¬ (∀ p_ : Nat, p_ < P_ → (u2_).toNat.testBit p_ = true → (zrch (gN T_) (zCo P_ d_ Mz) (a1_).toNat p_) &&& (u2_).toNat = (zrch (gN T_) (zCo P_ d_ Mz) (a1_).toNat p_)))) := hp0_N10_
          rcases hp0_N10_ with ⟨rfl, ha29_0_hp0_N10_⟩ | ⟨rfl, ha29_0_hp0_N10_⟩
          · skip
            have hk1_ := ha29_0_hp0_N10_
            show zW l m_Group_countSetsKept (zn Mz + 0, zw Mz + 0) Mz 32 [some (.ref (d_ + 1)), some (.int (Int32.ofInt a0_)), some (.int (Int32.ofInt a1_)), some (.int (Int32.ofInt u1_)), some (.int (Int32.ofInt u2_))] [.int (Int32.ofInt 1)] (zqcI d_ [] [] [] [] Mz (fun v N => v = ((zct (fun s_ => gcb s_ = (a0_).toNat ∧ ∀ p_ : Nat, p_ < P_ → s_.testBit p_ = true → (zrch (gN T_) (zCo P_ d_ Mz) (a1_).toNat p_) &&& s_ = (zrch (gN T_) (zCo P_ d_ Mz) (a1_).toNat p_)) (2 ^ P_) : Nat) : Int)))
            refine zr_if_eq (pc := 32) (tgt := 38) ⟨(by decide), (by decide)⟩ (by decide) d_Group_countSetsKept_32 (fun hc_32 => ?_) (fun hc_32 => ?_)
            · skip
              exact absurd hc_32 (by decide)
            · skip
              refine zr_iinc (pc := 35) (i := 3) (a := u1_) (n := 1) (L2 := [some (.ref (d_ + 1)), some (.int (Int32.ofInt a0_)), some (.int (Int32.ofInt a1_)), some (.int (Int32.ofInt (u1_ + 1))), some (.int (Int32.ofInt u2_))]) rfl (by decide) rfl d_Group_countSetsKept_35 ?_
              refine zr_iinc (pc := 38) (i := 4) (a := u2_) (n := 1) (L2 := [some (.ref (d_ + 1)), some (.int (Int32.ofInt a0_)), some (.int (Int32.ofInt a1_)), some (.int (Int32.ofInt (u1_ + 1))), some (.int (Int32.ofInt (u2_ + 1)))]) rfl (by decide) rfl d_Group_countSetsKept_38 ?_
              refine zw_goto (pc := 41) (tgt := 5) (by decide) d_Group_countSetsKept_41 ?_
              have hkn_ : (u1_ + 1) = ((zct (fun s_ => gcb s_ = (a0_).toNat ∧ ∀ p_ : Nat, p_ < P_ → s_.testBit p_ = true → (zrch (gN T_) (zCo P_ d_ Mz) (a1_).toNat p_) &&& s_ = (zrch (gN T_) (zCo P_ d_ Mz) (a1_).toNat p_)) ((u2_ + 1)).toNat : Nat) : Int) := by first | exact zct_1 (p := (fun s_ => gcb s_ = (a0_).toNat ∧ ∀ p_ : Nat, p_ < P_ → s_.testBit p_ = true → (zrch (gN T_) (zCo P_ d_ Mz) (a1_).toNat p_) &&& s_ = (zrch (gN T_) (zCo P_ d_ Mz) (a1_).toNat p_))) (by omega) hkc_ ⟨by omega, hk1_⟩ | exact zct_0 (p := (fun s_ => gcb s_ = (a0_).toNat ∧ ∀ p_ : Nat, p_ < P_ → s_.testBit p_ = true → (zrch (gN T_) (zCo P_ d_ Mz) (a1_).toNat p_) &&& s_ = (zrch (gN T_) (zCo P_ d_ Mz) (a1_).toNat p_))) (by omega) hkc_ (fun q_ => hk0_ q_.2) | exact zct_0 (p := (fun s_ => gcb s_ = (a0_).toNat ∧ ∀ p_ : Nat, p_ < P_ → s_.testBit p_ = true → (zrch (gN T_) (zCo P_ d_ Mz) (a1_).toNat p_) &&& s_ = (zrch (gN T_) (zCo P_ d_ Mz) (a1_).toNat p_))) (by omega) hkc_ (fun q_ => by have h_ := q_.1; omega)
              exact ih_5 (u1_ + 1) (by omega) (by omega) (u2_ + 1) (by omega) (by omega) (show 0 ≤ (u2_ + 1) by first | assumption | omega) (show (u2_ + 1) ≤ W_ by first | assumption | omega) (show (u1_ + 1) = ((zct (fun s_ => gcb s_ = (a0_).toNat ∧ ∀ p_ : Nat, p_ < P_ → s_.testBit p_ = true → (zrch (gN T_) (zCo P_ d_ Mz) (a1_).toNat p_) &&& s_ = (zrch (gN T_) (zCo P_ d_ Mz) (a1_).toNat p_)) ((u2_ + 1)).toNat : Nat) : Int) by exact hkn_) (show 0 ≤ (u1_ + 1) ∧ (u1_ + 1) ≤ (u2_ + 1) by first | assumption | omega) (by omega)
          · skip
            have hk0_ := ha29_0_hp0_N10_
            show zW l m_Group_countSetsKept (zn Mz + 0, zw Mz + 0) Mz 32 [some (.ref (d_ + 1)), some (.int (Int32.ofInt a0_)), some (.int (Int32.ofInt a1_)), some (.int (Int32.ofInt u1_)), some (.int (Int32.ofInt u2_))] [.int (Int32.ofInt 0)] (zqcI d_ [] [] [] [] Mz (fun v N => v = ((zct (fun s_ => gcb s_ = (a0_).toNat ∧ ∀ p_ : Nat, p_ < P_ → s_.testBit p_ = true → (zrch (gN T_) (zCo P_ d_ Mz) (a1_).toNat p_) &&& s_ = (zrch (gN T_) (zCo P_ d_ Mz) (a1_).toNat p_)) (2 ^ P_) : Nat) : Int)))
            refine zr_if_eq (pc := 32) (tgt := 38) ⟨(by decide), (by decide)⟩ (by decide) d_Group_countSetsKept_32 (fun hc_32 => ?_) (fun hc_32 => ?_)
            · skip
              refine zr_iinc (pc := 38) (i := 4) (a := u2_) (n := 1) (L2 := [some (.ref (d_ + 1)), some (.int (Int32.ofInt a0_)), some (.int (Int32.ofInt a1_)), some (.int (Int32.ofInt u1_)), some (.int (Int32.ofInt (u2_ + 1)))]) rfl (by decide) rfl d_Group_countSetsKept_38 ?_
              refine zw_goto (pc := 41) (tgt := 5) (by decide) d_Group_countSetsKept_41 ?_
              have hkn_ : u1_ = ((zct (fun s_ => gcb s_ = (a0_).toNat ∧ ∀ p_ : Nat, p_ < P_ → s_.testBit p_ = true → (zrch (gN T_) (zCo P_ d_ Mz) (a1_).toNat p_) &&& s_ = (zrch (gN T_) (zCo P_ d_ Mz) (a1_).toNat p_)) ((u2_ + 1)).toNat : Nat) : Int) := by first | exact zct_1 (p := (fun s_ => gcb s_ = (a0_).toNat ∧ ∀ p_ : Nat, p_ < P_ → s_.testBit p_ = true → (zrch (gN T_) (zCo P_ d_ Mz) (a1_).toNat p_) &&& s_ = (zrch (gN T_) (zCo P_ d_ Mz) (a1_).toNat p_))) (by omega) hkc_ ⟨by omega, hk1_⟩ | exact zct_0 (p := (fun s_ => gcb s_ = (a0_).toNat ∧ ∀ p_ : Nat, p_ < P_ → s_.testBit p_ = true → (zrch (gN T_) (zCo P_ d_ Mz) (a1_).toNat p_) &&& s_ = (zrch (gN T_) (zCo P_ d_ Mz) (a1_).toNat p_))) (by omega) hkc_ (fun q_ => hk0_ q_.2) | exact zct_0 (p := (fun s_ => gcb s_ = (a0_).toNat ∧ ∀ p_ : Nat, p_ < P_ → s_.testBit p_ = true → (zrch (gN T_) (zCo P_ d_ Mz) (a1_).toNat p_) &&& s_ = (zrch (gN T_) (zCo P_ d_ Mz) (a1_).toNat p_))) (by omega) hkc_ (fun q_ => by have h_ := q_.1; omega)
              exact ih_5 u1_ hu1_a hu1_b (u2_ + 1) (by omega) (by omega) (show 0 ≤ (u2_ + 1) by first | assumption | omega) (show (u2_ + 1) ≤ W_ by first | assumption | omega) (show u1_ = ((zct (fun s_ => gcb s_ = (a0_).toNat ∧ ∀ p_ : Nat, p_ < P_ → s_.testBit p_ = true → (zrch (gN T_) (zCo P_ d_ Mz) (a1_).toNat p_) &&& s_ = (zrch (gN T_) (zCo P_ d_ Mz) (a1_).toNat p_)) ((u2_ + 1)).toNat : Nat) : Int) by exact hkn_) (show 0 ≤ u1_ ∧ u1_ ≤ (u2_ + 1) by first | assumption | omega) (by omega)
            · skip
              exact absurd hc_32 (by decide)
  exact lp_5 _ 0 (by decide) (by decide) 0 (by decide) (by decide) (show 0 ≤ (0 : Int) by first | assumption | omega) (show (0 : Int) ≤ W_ by first | assumption | omega) (show (0 : Int) = ((zct (fun s_ => gcb s_ = (a0_).toNat ∧ ∀ p_ : Nat, p_ < P_ → s_.testBit p_ = true → (zrch (gN T_) (zCo P_ d_ Mz) (a1_).toNat p_) &&& s_ = (zrch (gN T_) (zCo P_ d_ Mz) (a1_).toNat p_)) ((0 : Int)).toNat : Nat) : Int) by rfl) (show 0 ≤ (0 : Int) ∧ (0 : Int) ≤ (0 : Int) by first | assumption | omega) (Nat.lt_succ_self _)
set_option maxHeartbeats 4000000 in
theorem u_Group_powerS (l : Launch) (d_ : Nat) (Mz : zMem) (hW : zKW d_ Mz) (a0_ : Int) (ha0_a : -2147483648 ≤ a0_) (ha0_b : a0_ < 2147483648) (a1_ : Int) (ha1_a : -2147483648 ≤ a1_) (ha1_b : a1_ < 2147483648) (p0_ : 0 ≤ a0_) (p1_ : a0_ ≤ 6) (p2_ : 0 ≤ a1_) (p3_ : a1_ ≤ 6) : zC l m_Group_power 0 0 [.int (Int32.ofInt a0_), .int (Int32.ofInt a1_)] Mz (zqcI d_ [] [] [] [] Mz (fun v N => v = a0_ ^ (a1_).toNat)) := by
  refine zC_of (L0 := [some (.int (Int32.ofInt a0_)), some (.int (Int32.ofInt a1_)), none, none]) md_Group_power (Nat.le_of_ble_eq_true rfl) rfl ?_ zQ0
  have hf : zFc d_ [] [] [] [] Mz Mz := zFc.rf
  refine zw_iconst (pc := 0) (v := Int32.ofInt 1) (by decide) d_Group_power_0 ?_
  refine zw_istore_n (pc := 1) (i := 2) (L2 := [some (.int (Int32.ofInt a0_)), some (.int (Int32.ofInt a1_)), some (.int (Int32.ofInt 1)), none]) rfl (by decide) rfl d_Group_power_1 ?_
  refine zw_iconst (pc := 2) (v := Int32.ofInt 0) (by decide) d_Group_power_2 ?_
  refine zw_istore_n (pc := 3) (i := 3) (L2 := [some (.int (Int32.ofInt a0_)), some (.int (Int32.ofInt a1_)), some (.int (Int32.ofInt 1)), some (.int (Int32.ofInt 0))]) rfl (by decide) rfl d_Group_power_3 ?_
  have lp_4 : ∀ (n : Nat) (u1_ : Int) (hu1_a : -2147483648 ≤ u1_) (hu1_b : u1_ < 2147483648) (u2_ : Int) (hu2_a : -2147483648 ≤ u2_) (hu2_b : u2_ < 2147483648) (i3_ : 0 ≤ u2_) (i4_ : u2_ ≤ a1_) (i5_ : u1_ = a0_ ^ (u2_).toNat) (i6_ : 0 ≤ u1_ ∧ u1_ ≤ 46656), (a1_ - u2_).toNat < n → zW l m_Group_power (zn Mz + 0, zw Mz + 0) Mz 4 [some (.int (Int32.ofInt a0_)), some (.int (Int32.ofInt a1_)), some (.int (Int32.ofInt u1_)), some (.int (Int32.ofInt u2_))] [] (zqcI d_ [] [] [] [] Mz (fun v N => v = a0_ ^ (a1_).toNat)) := by
    intro n
    induction n with
    | zero =>
      intro u1_ hu1_a hu1_b u2_ hu2_a hu2_b i3_ i4_ i5_ i6_ h0
      exact absurd h0 (Nat.not_lt_zero _)
    | succ n ih_4 =>
      intro u1_ hu1_a hu1_b u2_ hu2_a hu2_b i3_ i4_ i5_ i6_ hlt_4
      have hpw_ := (show u1_ = a0_ ^ (u2_).toNat by assumption)
      refine zw_iload_n (pc := 4) (n := 3) (x := Int32.ofInt u2_) rfl d_Group_power_4 ?_
      refine zw_iload_n (pc := 5) (n := 1) (x := Int32.ofInt a1_) rfl d_Group_power_5 ?_
      refine zr_icmp_ge (pc := 6) (tgt := 19) ⟨hu2_a, hu2_b⟩ ⟨ha1_a, ha1_b⟩ (by decide) d_Group_power_6 (fun hc_6 => ?_) (fun hc_6 => ?_)
      · skip
        refine zw_iload_n (pc := 19) (n := 2) (x := Int32.ofInt u1_) rfl d_Group_power_19 ?_
        exact zk_iret (pc := 20) (ty := .int) rfl rfl ⟨by omega, by omega⟩ hf (show u1_ = a0_ ^ (a1_).toNat by rw [show a1_ = u2_ by omega]; exact hpw_) d_Group_power_20
      · skip
        refine zw_iload_n (pc := 9) (n := 2) (x := Int32.ofInt u1_) rfl d_Group_power_9 ?_
        refine zw_iload_n (pc := 10) (n := 0) (x := Int32.ofInt a0_) rfl d_Group_power_10 ?_
        refine zr_imul (pc := 11) d_Group_power_11 ?_
        refine zk_nmI (fun v7_ hv7_ hv7_e => ?_)
        obtain ⟨hv7_a, hv7_b⟩ := hv7_
        have hpn_ := zpw_s (n := a0_) hpw_ (show 0 ≤ u2_ by omega)
        have hpb_ := tkp_6 p0_ p1_ (u2_ + 1).toNat (by omega)
        rw [← hpn_] at hpb_
        have hve_ := hv7_e ⟨by omega, by omega⟩
        have hvf_ := hve_.trans hpn_
        refine zw_istore_n (pc := 12) (i := 2) (L2 := [some (.int (Int32.ofInt a0_)), some (.int (Int32.ofInt a1_)), some (.int (Int32.ofInt v7_)), some (.int (Int32.ofInt u2_))]) rfl (by decide) rfl d_Group_power_12 ?_
        refine zr_iinc (pc := 13) (i := 3) (a := u2_) (n := 1) (L2 := [some (.int (Int32.ofInt a0_)), some (.int (Int32.ofInt a1_)), some (.int (Int32.ofInt v7_)), some (.int (Int32.ofInt (u2_ + 1)))]) rfl (by decide) rfl d_Group_power_13 ?_
        refine zw_goto (pc := 16) (tgt := 4) (by decide) d_Group_power_16 ?_
        exact ih_4 v7_ hv7_a hv7_b (u2_ + 1) (by omega) (by omega) (show 0 ≤ (u2_ + 1) by first | assumption | omega) (show (u2_ + 1) ≤ a1_ by first | assumption | omega) (show v7_ = a0_ ^ ((u2_ + 1)).toNat by exact hvf_) (show 0 ≤ v7_ ∧ v7_ ≤ 46656 by omega) (by omega)
  exact lp_4 _ 1 (by decide) (by decide) 0 (by decide) (by decide) (show 0 ≤ (0 : Int) by first | assumption | omega) (show (0 : Int) ≤ a1_ by first | assumption | omega) (show (1 : Int) = a0_ ^ ((0 : Int)).toNat by exact (Int.pow_zero _).symm) (show 0 ≤ (1 : Int) ∧ (1 : Int) ≤ 46656 by first | assumption | omega) (Nat.lt_succ_self _)
set_option maxHeartbeats 4000000 in
theorem u_Group_countKeptS (l : Launch) (d_ : Nat) (Mz : zMem) (hW : zKW d_ Mz) (a0_ : Int) (ha0_a : -2147483648 ≤ a0_) (ha0_b : a0_ < 2147483648) (a1_ : Int) (ha1_a : -2147483648 ≤ a1_) (ha1_b : a1_ < 2147483648) (a2_ : Int) (ha2_a : -2147483648 ≤ a2_) (ha2_b : a2_ < 2147483648) (T_ : zGT) (hT_ : T_ ∈ gTabs) (P_ : Nat) (mv_ : List Nat) (p0_ : zMvK mv_ P_ d_ Mz) (p1_ : zGc mv_ P_ T_ d_ Mz) (p2_ : 0 ≤ a2_) (p3_ : a2_ < 16777216) (p4_ : zPt (zrch (gN T_) (zCo P_ d_ Mz) (a2_).toNat) P_) (p5_ : (a0_ = 0 ∨ ((a0_ = 1 ∨ a0_ = 2) ∧ 0 ≤ a1_ ∧ a1_ ≤ 6))) : zC l m_Group_countKept 0 0 [.ref (d_ + 1), .int (Int32.ofInt a0_), .int (Int32.ofInt a1_), .int (Int32.ofInt a2_)] Mz (zqcI d_ [] [] [] [] Mz (fun v N => v = tkv (zrr P_ T_ (zCo P_ d_ Mz) (a2_).toNat) a0_ a1_)) := by
  refine zC_of (L0 := [some (.ref (d_ + 1)), some (.int (Int32.ofInt a0_)), some (.int (Int32.ofInt a1_)), some (.int (Int32.ofInt a2_)), none, none, none, none]) md_Group_countKept (Nat.le_of_ble_eq_true rfl) rfl ?_ zQ0
  have hf : zFc d_ [] [] [] [] Mz Mz := zFc.rf
  have r_D1_5 := ze_r Mz (d_ + 1) 5
  have hO_ := gTabs_ok T_ hT_
  have hG_ := hO_.1
  have hn24_ := hG_.2.1
  have hn1_ := hG_.1
  obtain ⟨⟨hP0_, hP1_, hP6_⟩, -⟩ := id p0_
  have h64_ : 2 ^ P_ ≤ 64 := Nat.pow_le_pow_right (by decide) hP6_
  refine zw_iconst (pc := 0) (v := Int32.ofInt 0) (by decide) d_Group_countKept_0 ?_
  refine zw_istore (pc := 1) (i := 4) (L2 := [some (.ref (d_ + 1)), some (.int (Int32.ofInt a0_)), some (.int (Int32.ofInt a1_)), some (.int (Int32.ofInt a2_)), some (.int (Int32.ofInt 0)), none, none, none]) (by decide) rfl d_Group_countKept_1 ?_
  refine zw_iconst (pc := 3) (v := Int32.ofInt 0) (by decide) d_Group_countKept_3 ?_
  refine zw_istore (pc := 4) (i := 5) (L2 := [some (.ref (d_ + 1)), some (.int (Int32.ofInt a0_)), some (.int (Int32.ofInt a1_)), some (.int (Int32.ofInt a2_)), some (.int (Int32.ofInt 0)), some (.int (Int32.ofInt 0)), none, none]) (by decide) rfl d_Group_countKept_4 ?_
  refine zw_iconst (pc := 6) (v := Int32.ofInt 0) (by decide) d_Group_countKept_6 ?_
  refine zw_istore (pc := 7) (i := 6) (L2 := [some (.ref (d_ + 1)), some (.int (Int32.ofInt a0_)), some (.int (Int32.ofInt a1_)), some (.int (Int32.ofInt a2_)), some (.int (Int32.ofInt 0)), some (.int (Int32.ofInt 0)), some (.int (Int32.ofInt 0)), none]) (by decide) rfl d_Group_countKept_7 ?_
  have lp_9 : ∀ (n : Nat) (u1_ : Int) (hu1_a : -2147483648 ≤ u1_) (hu1_b : u1_ < 2147483648) (u2_ : Int) (hu2_a : -2147483648 ≤ u2_) (hu2_b : u2_ < 2147483648) (u3_ : Int) (hu3_a : -2147483648 ≤ u3_) (hu3_b : u3_ < 2147483648) (i4_ : 0 ≤ u3_) (i5_ : u3_ ≤ P_) (i6_ : u1_ = ((zct (fun p_ => (zrch (gN T_) (zCo P_ d_ Mz) (a2_).toNat p_) = 2 ^ p_) (u3_).toNat : Nat) : Int)) (i7_ : u2_ = ((zct (fun p_ => (zrch (gN T_) (zCo P_ d_ Mz) (a2_).toNat p_) % 2 ^ p_ = 0) (u3_).toNat : Nat) : Int)) (i8_ : (0 ≤ u1_ ∧ u1_ ≤ u3_) ∧ 0 ≤ u2_ ∧ u2_ ≤ u3_), (P_ - u3_).toNat < n → zW l m_Group_countKept (zn Mz + 0, zw Mz + 0) Mz 9 [some (.ref (d_ + 1)), some (.int (Int32.ofInt a0_)), some (.int (Int32.ofInt a1_)), some (.int (Int32.ofInt a2_)), some (.int (Int32.ofInt u1_)), some (.int (Int32.ofInt u2_)), some (.int (Int32.ofInt u3_)), none] [] (zqcI d_ [] [] [] [] Mz (fun v N => v = tkv (zrr P_ T_ (zCo P_ d_ Mz) (a2_).toNat) a0_ a1_)) := by
    intro n
    induction n with
    | zero =>
      intro u1_ hu1_a hu1_b u2_ hu2_a hu2_b u3_ hu3_a hu3_b i4_ i5_ i6_ i7_ i8_ h0
      exact absurd h0 (Nat.not_lt_zero _)
    | succ n ih_9 =>
      intro u1_ hu1_a hu1_b u2_ hu2_a hu2_b u3_ hu3_a hu3_b i4_ i5_ i6_ i7_ i8_ hlt_9
      have hk0_ := (show u1_ = ((zct (fun p_ => (zrch (gN T_) (zCo P_ d_ Mz) (a2_).toNat p_) = 2 ^ p_) (u3_).toNat : Nat) : Int) by assumption)
      have hkp_ := (show u2_ = ((zct (fun p_ => (zrch (gN T_) (zCo P_ d_ Mz) (a2_).toNat p_) % 2 ^ p_ = 0) (u3_).toNat : Nat) : Int) by assumption)
      refine zw_iload (pc := 9) (i := 6) (x := Int32.ofInt u3_) rfl d_Group_countKept_9 ?_
      refine zw_aload_n (pc := 11) (n := 0) (x := (d_ + 1)) rfl d_Group_countKept_11 ?_
      refine zk_getI (pc := 12) f_Group_32 rfl ((hf.w hW).kr (o := 1) (by decide)) d_Group_countKept_12 ?_
      refine zr_icmp_ge (pc := 15) (tgt := 61) ⟨hu3_a, hu3_b⟩ ⟨(ze_r Mz (d_ + 1) 5).1, (ze_r Mz (d_ + 1) 5).2⟩ (by decide) d_Group_countKept_15 (fun hc_15 => ?_) (fun hc_15 => ?_)
      · skip
        have hLP_ : (u3_).toNat = P_ := by omega
        rw [hLP_] at hk0_ hkp_
        refine zw_iload_n (pc := 61) (n := 1) (x := Int32.ofInt a0_) rfl d_Group_countKept_61 ?_
        refine zr_if_ne (pc := 62) (tgt := 68) ⟨ha0_a, ha0_b⟩ (by decide) d_Group_countKept_62 (fun hc_62 => ?_) (fun hc_62 => ?_)
        · skip
          refine zw_iload_n (pc := 68) (n := 1) (x := Int32.ofInt a0_) rfl d_Group_countKept_68 ?_
          refine zw_iconst (pc := 69) (v := Int32.ofInt 1) (by decide) d_Group_countKept_69 ?_
          refine zr_icmp_ne (pc := 70) (tgt := 82) ⟨ha0_a, ha0_b⟩ ⟨(by decide), (by decide)⟩ (by decide) d_Group_countKept_70 (fun hc_70 => ?_) (fun hc_70 => ?_)
          · skip
            refine zw_iload_n (pc := 82) (n := 2) (x := Int32.ofInt a1_) rfl d_Group_countKept_82 ?_
            refine zw_iload (pc := 83) (i := 5) (x := Int32.ofInt u2_) rfl d_Group_countKept_83 ?_
            refine zr_callS hf.x (pc := 85) [.int (Int32.ofInt a1_), .int (Int32.ofInt u2_)] [] l_Group_109 (u_Group_powerS l d_ Mz (hf.w hW) a1_ ha1_a ha1_b u2_ hu2_a hu2_b (show 0 ≤ a1_ by first | assumption | omega) (show a1_ ≤ 6 by first | assumption | omega) (show 0 ≤ u2_ by first | assumption | omega) (show u2_ ≤ 6 by first | assumption | omega)) rfl rfl (by decide) (Nat.le_of_ble_eq_true rfl) d_Group_countKept_85 ?_
            rintro _ N9_ ⟨v10_, rfl, ⟨hv10_a, hv10_b⟩, hsN9_, hp0_N9_⟩
            obtain rfl := hsN9_.eq.symm
            replace hp0_N9_ : v10_ = a1_ ^ (u2_).toNat := hp0_N9_
            show zW l m_Group_countKept (zn Mz + 0, zw Mz + 0) Mz 88 [some (.ref (d_ + 1)), some (.int (Int32.ofInt a0_)), some (.int (Int32.ofInt a1_)), some (.int (Int32.ofInt a2_)), some (.int (Int32.ofInt u1_)), some (.int (Int32.ofInt u2_)), some (.int (Int32.ofInt u3_)), none] [.int (Int32.ofInt v10_)] (zqcI d_ [] [] [] [] Mz (fun v N => v = tkv (zrr P_ T_ (zCo P_ d_ Mz) (a2_).toNat) a0_ a1_))
            have hpo_ := hp0_N9_
            exact zk_iret (pc := 88) (ty := .int) rfl rfl ⟨by omega, by omega⟩ hf (show v10_ = tkv (zrr P_ T_ (zCo P_ d_ Mz) (a2_).toNat) a0_ a1_ by first | exact tkv_1 hP6_ (by omega) hcs_ | exact tkv_2 (by omega) hkp_ hpo_) d_Group_countKept_88
          · skip
            refine zw_aload_n (pc := 73) (n := 0) (x := (d_ + 1)) rfl d_Group_countKept_73 ?_
            refine zw_iload_n (pc := 74) (n := 2) (x := Int32.ofInt a1_) rfl d_Group_countKept_74 ?_
            refine zw_iload_n (pc := 75) (n := 3) (x := Int32.ofInt a2_) rfl d_Group_countKept_75 ?_
            refine zk_callV hf.x (pc := 76) [.int (Int32.ofInt a1_), .int (Int32.ofInt a2_)] [] l_Group_106 (u_Group_countSetsKeptS l d_ Mz (hf.w hW) a1_ ha1_a ha1_b a2_ ha2_a ha2_b T_ hT_ P_ mv_ p0_ p1_ (show 0 ≤ a1_ by first | assumption | omega) (show a1_ ≤ 6 by first | assumption | omega) (show 0 ≤ a2_ by first | assumption | omega) (show a2_ < 16777216 by first | assumption | omega)) rfl rfl ((hf.w hW).kr (o := 1) (by decide)) (by decide) (by decide) (Nat.le_of_ble_eq_true rfl) d_Group_countKept_76 ?_
            rintro _ N11_ ⟨v12_, rfl, ⟨hv12_a, hv12_b⟩, hsN11_, hp0_N11_⟩
            obtain rfl := hsN11_.eq.symm
            replace hp0_N11_ : v12_ = ((zct (fun s_ => gcb s_ = (a1_).toNat ∧ ∀ p_ : Nat, p_ < P_ → s_.testBit p_ = true → (zrch (gN T_) (zCo P_ d_ Mz) (a2_).toNat p_) &&& s_ = (zrch (gN T_) (zCo P_ d_ Mz) (a2_).toNat p_)) (2 ^ P_) : Nat) : Int) := hp0_N11_
            show zW l m_Group_countKept (zn Mz + 0, zw Mz + 0) Mz 79 [some (.ref (d_ + 1)), some (.int (Int32.ofInt a0_)), some (.int (Int32.ofInt a1_)), some (.int (Int32.ofInt a2_)), some (.int (Int32.ofInt u1_)), some (.int (Int32.ofInt u2_)), some (.int (Int32.ofInt u3_)), none] [.int (Int32.ofInt v12_)] (zqcI d_ [] [] [] [] Mz (fun v N => v = tkv (zrr P_ T_ (zCo P_ d_ Mz) (a2_).toNat) a0_ a1_))
            have hcs_ := hp0_N11_
            refine zw_goto (pc := 79) (tgt := 88) (by decide) d_Group_countKept_79 ?_
            exact zk_iret (pc := 88) (ty := .int) rfl rfl ⟨by omega, by omega⟩ hf (show v12_ = tkv (zrr P_ T_ (zCo P_ d_ Mz) (a2_).toNat) a0_ a1_ by first | exact tkv_1 hP6_ (by omega) hcs_ | exact tkv_2 (by omega) hkp_ hpo_) d_Group_countKept_88
        · skip
          refine zw_iload (pc := 65) (i := 4) (x := Int32.ofInt u1_) rfl d_Group_countKept_65 ?_
          exact zk_iret (pc := 67) (ty := .int) rfl rfl ⟨by omega, by omega⟩ hf (show u1_ = tkv (zrr P_ T_ (zCo P_ d_ Mz) (a2_).toNat) a0_ a1_ by exact tkv_0 (by omega) hk0_) d_Group_countKept_67
      · skip
        refine zw_aload_n (pc := 18) (n := 0) (x := (d_ + 1)) rfl d_Group_countKept_18 ?_
        refine zw_iload (pc := 19) (i := 6) (x := Int32.ofInt u3_) rfl d_Group_countKept_19 ?_
        refine zw_iload_n (pc := 21) (n := 3) (x := Int32.ofInt a2_) rfl d_Group_countKept_21 ?_
        refine zk_callV hf.x (pc := 22) [.int (Int32.ofInt u3_), .int (Int32.ofInt a2_)] [] l_Group_103 (u_Group_placesReachedG l d_ Mz (hf.w hW) u3_ hu3_a hu3_b a2_ ha2_a ha2_b T_ hT_ P_ mv_ p0_ p1_ (show 0 ≤ u3_ by first | assumption | omega) (show u3_ < (P_ : Int) by first | assumption | omega) (show 0 ≤ a2_ by first | assumption | omega) (show a2_ < 16777216 by first | assumption | omega)) rfl rfl ((hf.w hW).kr (o := 1) (by decide)) (by decide) (by decide) (Nat.le_of_ble_eq_true rfl) d_Group_countKept_22 ?_
        rintro _ N13_ ⟨v14_, rfl, ⟨hv14_a, hv14_b⟩, hsN13_, hp0_N13_⟩
        obtain rfl := hsN13_.eq.symm
        replace hp0_N13_ : zImg (fun m_ => (a2_).toNat.testBit m_ = true) (fun m_ => gdg (zCo P_ d_ Mz m_) (u3_).toNat) (gN T_) v14_ := hp0_N13_
        show zW l m_Group_countKept (zn Mz + 0, zw Mz + 0) Mz 25 [some (.ref (d_ + 1)), some (.int (Int32.ofInt a0_)), some (.int (Int32.ofInt a1_)), some (.int (Int32.ofInt a2_)), some (.int (Int32.ofInt u1_)), some (.int (Int32.ofInt u2_)), some (.int (Int32.ofInt u3_)), none] [.int (Int32.ofInt v14_)] (zqcI d_ [] [] [] [] Mz (fun v N => v = tkv (zrr P_ T_ (zCo P_ d_ Mz) (a2_).toNat) a0_ a1_))
        have hR_ := zImg_r hp0_N13_
        have hp4_ := p4_.1 (u3_).toNat (by omega)
        have hq0_ := tk_q0 hR_ (show 0 ≤ u3_ by omega) (by omega)
        have hq1_ := tk_q1 hR_ (show 0 ≤ u3_ by omega) (by omega) (Nat.lt_of_lt_of_le hp4_.1 h64_) hp4_.2
        refine zw_istore (pc := 25) (i := 7) (L2 := [some (.ref (d_ + 1)), some (.int (Int32.ofInt a0_)), some (.int (Int32.ofInt a1_)), some (.int (Int32.ofInt a2_)), some (.int (Int32.ofInt u1_)), some (.int (Int32.ofInt u2_)), some (.int (Int32.ofInt u3_)), some (.int (Int32.ofInt v14_))]) (by decide) rfl d_Group_countKept_25 ?_
        refine zw_iload (pc := 27) (i := 7) (x := Int32.ofInt v14_) rfl d_Group_countKept_27 ?_
        refine zw_iconst (pc := 29) (v := Int32.ofInt 1) (by decide) d_Group_countKept_29 ?_
        refine zw_iload (pc := 30) (i := 6) (x := Int32.ofInt u3_) rfl d_Group_countKept_30 ?_
        refine zr_ishl (pc := 32) d_Group_countKept_32 ?_
        have hr15_ := zshl_r 1 u3_
        refine zr_icmp_ne (pc := 33) (tgt := 39) ⟨hv14_a, hv14_b⟩ ⟨(by omega), (by omega)⟩ (by decide) d_Group_countKept_33 (fun hc_33 => ?_) (fun hc_33 => ?_)
        · skip
          refine zw_iload (pc := 39) (i := 7) (x := Int32.ofInt v14_) rfl d_Group_countKept_39 ?_
          refine zw_iload (pc := 41) (i := 7) (x := Int32.ofInt v14_) rfl d_Group_countKept_41 ?_
          refine zr_ineg (pc := 43) d_Group_countKept_43 ?_
          refine zr_iand (pc := 44) d_Group_countKept_44 ?_
          have hr16_ := zand_r v14_ (-v14_)
          refine zw_iconst (pc := 45) (v := Int32.ofInt 1) (by decide) d_Group_countKept_45 ?_
          refine zw_iload (pc := 46) (i := 6) (x := Int32.ofInt u3_) rfl d_Group_countKept_46 ?_
          refine zr_ishl (pc := 48) d_Group_countKept_48 ?_
          have hr17_ := zshl_r 1 u3_
          refine zr_icmp_ne (pc := 49) (tgt := 55) ⟨(by omega), (by omega)⟩ ⟨(by omega), (by omega)⟩ (by decide) d_Group_countKept_49 (fun hc_49 => ?_) (fun hc_49 => ?_)
          · skip
            refine zr_iinc (pc := 55) (i := 6) (a := u3_) (n := 1) (L2 := [some (.ref (d_ + 1)), some (.int (Int32.ofInt a0_)), some (.int (Int32.ofInt a1_)), some (.int (Int32.ofInt a2_)), some (.int (Int32.ofInt u1_)), some (.int (Int32.ofInt u2_)), some (.int (Int32.ofInt (u3_ + 1))), some (.int (Int32.ofInt v14_))]) rfl (by decide) rfl d_Group_countKept_55 ?_
            refine zw_goto (pc := 58) (tgt := 9) (by decide) d_Group_countKept_58 ?_
            have hk0n_ : u1_ = ((zct (fun p_ => (zrch (gN T_) (zCo P_ d_ Mz) (a2_).toNat p_) = 2 ^ p_) ((u3_ + 1)).toNat : Nat) : Int) := by first | exact zct_1 (p := (fun p_ => (zrch (gN T_) (zCo P_ d_ Mz) (a2_).toNat p_) = 2 ^ p_)) (by omega) hk0_ (hq0_.mp (by assumption)) | exact zct_0 (p := (fun p_ => (zrch (gN T_) (zCo P_ d_ Mz) (a2_).toNat p_) = 2 ^ p_)) (by omega) hk0_ (fun q_ => absurd (hq0_.mpr q_) (by assumption))
            have hkpn_ : u2_ = ((zct (fun p_ => (zrch (gN T_) (zCo P_ d_ Mz) (a2_).toNat p_) % 2 ^ p_ = 0) ((u3_ + 1)).toNat : Nat) : Int) := by first | exact zct_1 (p := (fun p_ => (zrch (gN T_) (zCo P_ d_ Mz) (a2_).toNat p_) % 2 ^ p_ = 0)) (by omega) hkp_ (hq1_.mp (by assumption)) | exact zct_0 (p := (fun p_ => (zrch (gN T_) (zCo P_ d_ Mz) (a2_).toNat p_) % 2 ^ p_ = 0)) (by omega) hkp_ (fun q_ => absurd (hq1_.mpr q_) (by assumption))
            refine zW_le [some (.ref (d_ + 1)), some (.int (Int32.ofInt a0_)), some (.int (Int32.ofInt a1_)), some (.int (Int32.ofInt a2_)), some (.int (Int32.ofInt u1_)), some (.int (Int32.ofInt u2_)), some (.int (Int32.ofInt (u3_ + 1))), none] (⟨rfl, rfl, rfl, rfl, rfl, rfl, rfl, trivial⟩) ?_
            exact ih_9 u1_ hu1_a hu1_b u2_ hu2_a hu2_b (u3_ + 1) (by omega) (by omega) (show 0 ≤ (u3_ + 1) by first | assumption | omega) (show (u3_ + 1) ≤ P_ by first | assumption | omega) (show u1_ = ((zct (fun p_ => (zrch (gN T_) (zCo P_ d_ Mz) (a2_).toNat p_) = 2 ^ p_) ((u3_ + 1)).toNat : Nat) : Int) by exact hk0n_) (show u2_ = ((zct (fun p_ => (zrch (gN T_) (zCo P_ d_ Mz) (a2_).toNat p_) % 2 ^ p_ = 0) ((u3_ + 1)).toNat : Nat) : Int) by exact hkpn_) (show (0 ≤ u1_ ∧ u1_ ≤ (u3_ + 1)) ∧ 0 ≤ u2_ ∧ u2_ ≤ (u3_ + 1) by first | assumption | omega) (by omega)
          · skip
            refine zr_iinc (pc := 52) (i := 5) (a := u2_) (n := 1) (L2 := [some (.ref (d_ + 1)), some (.int (Int32.ofInt a0_)), some (.int (Int32.ofInt a1_)), some (.int (Int32.ofInt a2_)), some (.int (Int32.ofInt u1_)), some (.int (Int32.ofInt (u2_ + 1))), some (.int (Int32.ofInt u3_)), some (.int (Int32.ofInt v14_))]) rfl (by decide) rfl d_Group_countKept_52 ?_
            refine zr_iinc (pc := 55) (i := 6) (a := u3_) (n := 1) (L2 := [some (.ref (d_ + 1)), some (.int (Int32.ofInt a0_)), some (.int (Int32.ofInt a1_)), some (.int (Int32.ofInt a2_)), some (.int (Int32.ofInt u1_)), some (.int (Int32.ofInt (u2_ + 1))), some (.int (Int32.ofInt (u3_ + 1))), some (.int (Int32.ofInt v14_))]) rfl (by decide) rfl d_Group_countKept_55 ?_
            refine zw_goto (pc := 58) (tgt := 9) (by decide) d_Group_countKept_58 ?_
            have hk0n_ : u1_ = ((zct (fun p_ => (zrch (gN T_) (zCo P_ d_ Mz) (a2_).toNat p_) = 2 ^ p_) ((u3_ + 1)).toNat : Nat) : Int) := by first | exact zct_1 (p := (fun p_ => (zrch (gN T_) (zCo P_ d_ Mz) (a2_).toNat p_) = 2 ^ p_)) (by omega) hk0_ (hq0_.mp (by assumption)) | exact zct_0 (p := (fun p_ => (zrch (gN T_) (zCo P_ d_ Mz) (a2_).toNat p_) = 2 ^ p_)) (by omega) hk0_ (fun q_ => absurd (hq0_.mpr q_) (by assumption))
            have hkpn_ : (u2_ + 1) = ((zct (fun p_ => (zrch (gN T_) (zCo P_ d_ Mz) (a2_).toNat p_) % 2 ^ p_ = 0) ((u3_ + 1)).toNat : Nat) : Int) := by first | exact zct_1 (p := (fun p_ => (zrch (gN T_) (zCo P_ d_ Mz) (a2_).toNat p_) % 2 ^ p_ = 0)) (by omega) hkp_ (hq1_.mp (by assumption)) | exact zct_0 (p := (fun p_ => (zrch (gN T_) (zCo P_ d_ Mz) (a2_).toNat p_) % 2 ^ p_ = 0)) (by omega) hkp_ (fun q_ => absurd (hq1_.mpr q_) (by assumption))
            refine zW_le [some (.ref (d_ + 1)), some (.int (Int32.ofInt a0_)), some (.int (Int32.ofInt a1_)), some (.int (Int32.ofInt a2_)), some (.int (Int32.ofInt u1_)), some (.int (Int32.ofInt (u2_ + 1))), some (.int (Int32.ofInt (u3_ + 1))), none] (⟨rfl, rfl, rfl, rfl, rfl, rfl, rfl, trivial⟩) ?_
            exact ih_9 u1_ hu1_a hu1_b (u2_ + 1) (by omega) (by omega) (u3_ + 1) (by omega) (by omega) (show 0 ≤ (u3_ + 1) by first | assumption | omega) (show (u3_ + 1) ≤ P_ by first | assumption | omega) (show u1_ = ((zct (fun p_ => (zrch (gN T_) (zCo P_ d_ Mz) (a2_).toNat p_) = 2 ^ p_) ((u3_ + 1)).toNat : Nat) : Int) by exact hk0n_) (show (u2_ + 1) = ((zct (fun p_ => (zrch (gN T_) (zCo P_ d_ Mz) (a2_).toNat p_) % 2 ^ p_ = 0) ((u3_ + 1)).toNat : Nat) : Int) by exact hkpn_) (show (0 ≤ u1_ ∧ u1_ ≤ (u3_ + 1)) ∧ 0 ≤ (u2_ + 1) ∧ (u2_ + 1) ≤ (u3_ + 1) by first | assumption | omega) (by omega)
        · skip
          refine zr_iinc (pc := 36) (i := 4) (a := u1_) (n := 1) (L2 := [some (.ref (d_ + 1)), some (.int (Int32.ofInt a0_)), some (.int (Int32.ofInt a1_)), some (.int (Int32.ofInt a2_)), some (.int (Int32.ofInt (u1_ + 1))), some (.int (Int32.ofInt u2_)), some (.int (Int32.ofInt u3_)), some (.int (Int32.ofInt v14_))]) rfl (by decide) rfl d_Group_countKept_36 ?_
          refine zw_iload (pc := 39) (i := 7) (x := Int32.ofInt v14_) rfl d_Group_countKept_39 ?_
          refine zw_iload (pc := 41) (i := 7) (x := Int32.ofInt v14_) rfl d_Group_countKept_41 ?_
          refine zr_ineg (pc := 43) d_Group_countKept_43 ?_
          refine zr_iand (pc := 44) d_Group_countKept_44 ?_
          have hr18_ := zand_r v14_ (-v14_)
          refine zw_iconst (pc := 45) (v := Int32.ofInt 1) (by decide) d_Group_countKept_45 ?_
          refine zw_iload (pc := 46) (i := 6) (x := Int32.ofInt u3_) rfl d_Group_countKept_46 ?_
          refine zr_ishl (pc := 48) d_Group_countKept_48 ?_
          have hr19_ := zshl_r 1 u3_
          refine zr_icmp_ne (pc := 49) (tgt := 55) ⟨(by omega), (by omega)⟩ ⟨(by omega), (by omega)⟩ (by decide) d_Group_countKept_49 (fun hc_49 => ?_) (fun hc_49 => ?_)
          · skip
            refine zr_iinc (pc := 55) (i := 6) (a := u3_) (n := 1) (L2 := [some (.ref (d_ + 1)), some (.int (Int32.ofInt a0_)), some (.int (Int32.ofInt a1_)), some (.int (Int32.ofInt a2_)), some (.int (Int32.ofInt (u1_ + 1))), some (.int (Int32.ofInt u2_)), some (.int (Int32.ofInt (u3_ + 1))), some (.int (Int32.ofInt v14_))]) rfl (by decide) rfl d_Group_countKept_55 ?_
            refine zw_goto (pc := 58) (tgt := 9) (by decide) d_Group_countKept_58 ?_
            have hk0n_ : (u1_ + 1) = ((zct (fun p_ => (zrch (gN T_) (zCo P_ d_ Mz) (a2_).toNat p_) = 2 ^ p_) ((u3_ + 1)).toNat : Nat) : Int) := by first | exact zct_1 (p := (fun p_ => (zrch (gN T_) (zCo P_ d_ Mz) (a2_).toNat p_) = 2 ^ p_)) (by omega) hk0_ (hq0_.mp (by assumption)) | exact zct_0 (p := (fun p_ => (zrch (gN T_) (zCo P_ d_ Mz) (a2_).toNat p_) = 2 ^ p_)) (by omega) hk0_ (fun q_ => absurd (hq0_.mpr q_) (by assumption))
            have hkpn_ : u2_ = ((zct (fun p_ => (zrch (gN T_) (zCo P_ d_ Mz) (a2_).toNat p_) % 2 ^ p_ = 0) ((u3_ + 1)).toNat : Nat) : Int) := by first | exact zct_1 (p := (fun p_ => (zrch (gN T_) (zCo P_ d_ Mz) (a2_).toNat p_) % 2 ^ p_ = 0)) (by omega) hkp_ (hq1_.mp (by assumption)) | exact zct_0 (p := (fun p_ => (zrch (gN T_) (zCo P_ d_ Mz) (a2_).toNat p_) % 2 ^ p_ = 0)) (by omega) hkp_ (fun q_ => absurd (hq1_.mpr q_) (by assumption))
            refine zW_le [some (.ref (d_ + 1)), some (.int (Int32.ofInt a0_)), some (.int (Int32.ofInt a1_)), some (.int (Int32.ofInt a2_)), some (.int (Int32.ofInt (u1_ + 1))), some (.int (Int32.ofInt u2_)), some (.int (Int32.ofInt (u3_ + 1))), none] (⟨rfl, rfl, rfl, rfl, rfl, rfl, rfl, trivial⟩) ?_
            exact ih_9 (u1_ + 1) (by omega) (by omega) u2_ hu2_a hu2_b (u3_ + 1) (by omega) (by omega) (show 0 ≤ (u3_ + 1) by first | assumption | omega) (show (u3_ + 1) ≤ P_ by first | assumption | omega) (show (u1_ + 1) = ((zct (fun p_ => (zrch (gN T_) (zCo P_ d_ Mz) (a2_).toNat p_) = 2 ^ p_) ((u3_ + 1)).toNat : Nat) : Int) by exact hk0n_) (show u2_ = ((zct (fun p_ => (zrch (gN T_) (zCo P_ d_ Mz) (a2_).toNat p_) % 2 ^ p_ = 0) ((u3_ + 1)).toNat : Nat) : Int) by exact hkpn_) (show (0 ≤ (u1_ + 1) ∧ (u1_ + 1) ≤ (u3_ + 1)) ∧ 0 ≤ u2_ ∧ u2_ ≤ (u3_ + 1) by first | assumption | omega) (by omega)
          · skip
            refine zr_iinc (pc := 52) (i := 5) (a := u2_) (n := 1) (L2 := [some (.ref (d_ + 1)), some (.int (Int32.ofInt a0_)), some (.int (Int32.ofInt a1_)), some (.int (Int32.ofInt a2_)), some (.int (Int32.ofInt (u1_ + 1))), some (.int (Int32.ofInt (u2_ + 1))), some (.int (Int32.ofInt u3_)), some (.int (Int32.ofInt v14_))]) rfl (by decide) rfl d_Group_countKept_52 ?_
            refine zr_iinc (pc := 55) (i := 6) (a := u3_) (n := 1) (L2 := [some (.ref (d_ + 1)), some (.int (Int32.ofInt a0_)), some (.int (Int32.ofInt a1_)), some (.int (Int32.ofInt a2_)), some (.int (Int32.ofInt (u1_ + 1))), some (.int (Int32.ofInt (u2_ + 1))), some (.int (Int32.ofInt (u3_ + 1))), some (.int (Int32.ofInt v14_))]) rfl (by decide) rfl d_Group_countKept_55 ?_
            refine zw_goto (pc := 58) (tgt := 9) (by decide) d_Group_countKept_58 ?_
            have hk0n_ : (u1_ + 1) = ((zct (fun p_ => (zrch (gN T_) (zCo P_ d_ Mz) (a2_).toNat p_) = 2 ^ p_) ((u3_ + 1)).toNat : Nat) : Int) := by first | exact zct_1 (p := (fun p_ => (zrch (gN T_) (zCo P_ d_ Mz) (a2_).toNat p_) = 2 ^ p_)) (by omega) hk0_ (hq0_.mp (by assumption)) | exact zct_0 (p := (fun p_ => (zrch (gN T_) (zCo P_ d_ Mz) (a2_).toNat p_) = 2 ^ p_)) (by omega) hk0_ (fun q_ => absurd (hq0_.mpr q_) (by assumption))
            have hkpn_ : (u2_ + 1) = ((zct (fun p_ => (zrch (gN T_) (zCo P_ d_ Mz) (a2_).toNat p_) % 2 ^ p_ = 0) ((u3_ + 1)).toNat : Nat) : Int) := by first | exact zct_1 (p := (fun p_ => (zrch (gN T_) (zCo P_ d_ Mz) (a2_).toNat p_) % 2 ^ p_ = 0)) (by omega) hkp_ (hq1_.mp (by assumption)) | exact zct_0 (p := (fun p_ => (zrch (gN T_) (zCo P_ d_ Mz) (a2_).toNat p_) % 2 ^ p_ = 0)) (by omega) hkp_ (fun q_ => absurd (hq1_.mpr q_) (by assumption))
            refine zW_le [some (.ref (d_ + 1)), some (.int (Int32.ofInt a0_)), some (.int (Int32.ofInt a1_)), some (.int (Int32.ofInt a2_)), some (.int (Int32.ofInt (u1_ + 1))), some (.int (Int32.ofInt (u2_ + 1))), some (.int (Int32.ofInt (u3_ + 1))), none] (⟨rfl, rfl, rfl, rfl, rfl, rfl, rfl, trivial⟩) ?_
            exact ih_9 (u1_ + 1) (by omega) (by omega) (u2_ + 1) (by omega) (by omega) (u3_ + 1) (by omega) (by omega) (show 0 ≤ (u3_ + 1) by first | assumption | omega) (show (u3_ + 1) ≤ P_ by first | assumption | omega) (show (u1_ + 1) = ((zct (fun p_ => (zrch (gN T_) (zCo P_ d_ Mz) (a2_).toNat p_) = 2 ^ p_) ((u3_ + 1)).toNat : Nat) : Int) by exact hk0n_) (show (u2_ + 1) = ((zct (fun p_ => (zrch (gN T_) (zCo P_ d_ Mz) (a2_).toNat p_) % 2 ^ p_ = 0) ((u3_ + 1)).toNat : Nat) : Int) by exact hkpn_) (show (0 ≤ (u1_ + 1) ∧ (u1_ + 1) ≤ (u3_ + 1)) ∧ 0 ≤ (u2_ + 1) ∧ (u2_ + 1) ≤ (u3_ + 1) by first | assumption | omega) (by omega)
  exact lp_9 _ 0 (by decide) (by decide) 0 (by decide) (by decide) 0 (by decide) (by decide) (show 0 ≤ (0 : Int) by first | assumption | omega) (show (0 : Int) ≤ P_ by first | assumption | omega) (show (0 : Int) = ((zct (fun p_ => (zrch (gN T_) (zCo P_ d_ Mz) (a2_).toNat p_) = 2 ^ p_) ((0 : Int)).toNat : Nat) : Int) by rfl) (show (0 : Int) = ((zct (fun p_ => (zrch (gN T_) (zCo P_ d_ Mz) (a2_).toNat p_) % 2 ^ p_ = 0) ((0 : Int)).toNat : Nat) : Int) by rfl) (show (0 ≤ (0 : Int) ∧ (0 : Int) ≤ (0 : Int)) ∧ 0 ≤ (0 : Int) ∧ (0 : Int) ≤ (0 : Int) by first | assumption | omega) (Nat.lt_succ_self _)
