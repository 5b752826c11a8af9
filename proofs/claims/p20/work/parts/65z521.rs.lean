/-! 88b -/
set_option maxHeartbeats 4000000 in
theorem c_M_aboutS (l : Launch) (Mz : zMem) (hW : zMt Mz) (a0_ : Int) (ha0_a : -2147483648 ≤ a0_) (ha0_b : a0_ < 2147483648) (T : zGT) (hO : gOK T) (P_ : Nat) (mv_ : List Nat) (s_ : zSg) (nm_ : List (Int × (Nat → Int))) (p0_ : zGB T Mz) (p1_ : ze Mz 81 16 = (P_ : Int)) (p2_ : 0 ≤ ze Mz 81 17) (p3_ : zMvq mv_ Mz) (p4_ : zRNi nm_ (gF T).length (gmkI T) Mz) (p5_ : zSR (gF T).length s_ Mz) : zC l m_M_about 0 0 [.ref 81, .int (Int32.ofInt a0_)] Mz (zpI [] [] Mz (fun v N => zfAb P_ mv_ T nm_ s_ (ze Mz 81 1) a0_ v)) := by
  refine zC_of (L0 := [some (.ref 81), some (.int (Int32.ofInt a0_))]) md_M_about (Nat.le_of_ble_eq_true rfl) rfl ?_ zQ0
  have hf : zFr [] [] Mz Mz := zFr.rf
  have r_1 := ze_r Mz 81 1
  have r_16 := ze_r Mz 81 16
  have r_17 := ze_r Mz 81 17
  have r_18 := ze_r Mz 81 18
  have r_20 := ze_r Mz 81 20
  have r_25 := ze_r Mz 81 25
  have r_26 := ze_r Mz 81 26
  have r_60 := ze_r Mz 81 60
  have hG := hO.1
  have g24 := hG.2.1
  have g1 := hG.1
  have dv0 : zTab T Mz := p0_.1
  have dv1 : zB 85 144 0 5 Mz := p0_.2.1
  have dv2 : zJX T Mz := p0_.2.2.1
  have dv3 : zFirs T Mz := p0_.2.2.2.1
  have dv4 : zSSm T Mz := p0_.2.2.2.2.1
  have dv5 : zGD Mz := zGB.d hO p0_
  have gb := dv5.1
  have gn := dv0.1
  have hsz_ := dv0.1
  have hfl_ := dv3.1
  have hsz_ := dv0.1
  have hfl_ := dv3.1
  have hnl_ := p4_.n
  obtain ⟨⟨hs1_, hs2_⟩, -⟩ := id p5_
  have hen_ := zJX.en hO dv2
  have hj1_ := dv2.1.1
  have hml_ : (mv_.length : Int) = ze Mz 81 17 := by have e_ : zMvF Mz = mv_ := p3_; rw [← e_]; unfold zMvF; rw [List.length_map, List.length_range]; omega
  refine zw_iload_n (pc := 0) (n := 1) (x := Int32.ofInt a0_) rfl d_M_about_0 ?_
  by_cases hs_1_0 : a0_ = 0
  · refine zr_tabIn (c := 0) (off := 51) (tgt := 52) ⟨by decide, by decide⟩ hs_1_0 (by decide) (by decide) rfl (by decide) d_M_about_1 ?_
    refine zw_aload_n (pc := 52) (n := 0) (x := 81) rfl d_M_about_52 ?_
    refine zr_getI0 hf hW (pc := 53) (by decide) f_M_382 rfl d_M_about_53 ?_
    exact zr_iret (pc := 56) (ty := .int) rfl rfl ⟨by omega, by omega⟩ hf (show zfAb P_ mv_ T nm_ s_ (ze Mz 81 1) a0_ (ze Mz 81 16) by refine ⟨⟨fun z_ => ?_, fun z_ => ?_, fun z_ => ?_, fun z_ => ?_⟩, fun z_ => ?_, fun z_ => ?_, fun z_ => ?_, fun z_ => ?_, fun z_ => ?_, fun z_ => ?_⟩; all_goals (first | (exfalso; omega) | omega | trivial)) d_M_about_56
  by_cases hs_1_1 : a0_ = 1
  · refine zr_tabIn (c := 1) (off := 56) (tgt := 57) ⟨by decide, by decide⟩ hs_1_1 (by decide) (by decide) rfl (by decide) d_M_about_1 ?_
    refine zw_aload_n (pc := 57) (n := 0) (x := 81) rfl d_M_about_57 ?_
    refine zr_getI0 hf hW (pc := 58) (by decide) f_M_385 rfl d_M_about_58 ?_
    exact zr_iret (pc := 61) (ty := .int) rfl rfl ⟨by omega, by omega⟩ hf (show zfAb P_ mv_ T nm_ s_ (ze Mz 81 1) a0_ (ze Mz 81 17) by refine ⟨⟨fun z_ => ?_, fun z_ => ?_, fun z_ => ?_, fun z_ => ?_⟩, fun z_ => ?_, fun z_ => ?_, fun z_ => ?_, fun z_ => ?_, fun z_ => ?_, fun z_ => ?_⟩; all_goals (first | (exfalso; omega) | omega | trivial)) d_M_about_61
  by_cases hs_1_2 : a0_ = 2
  · refine zr_tabIn (c := 2) (off := 61) (tgt := 62) ⟨by decide, by decide⟩ hs_1_2 (by decide) (by decide) rfl (by decide) d_M_about_1 ?_
    refine zw_aload_n (pc := 62) (n := 0) (x := 81) rfl d_M_about_62 ?_
    refine zr_getI0 hf hW (pc := 63) (by decide) f_M_388 rfl d_M_about_63 ?_
    exact zr_iret (pc := 66) (ty := .int) rfl rfl ⟨by omega, by omega⟩ hf (show zfAb P_ mv_ T nm_ s_ (ze Mz 81 1) a0_ (ze Mz 81 18) by refine ⟨⟨fun z_ => ?_, fun z_ => ?_, fun z_ => ?_, fun z_ => ?_⟩, fun z_ => ?_, fun z_ => ?_, fun z_ => ?_, fun z_ => ?_, fun z_ => ?_, fun z_ => ?_⟩; all_goals (first | (exfalso; omega) | omega | trivial)) d_M_about_66
  by_cases hs_1_3 : a0_ = 3
  · refine zr_tabIn (c := 3) (off := 66) (tgt := 67) ⟨by decide, by decide⟩ hs_1_3 (by decide) (by decide) rfl (by decide) d_M_about_1 ?_
    refine zw_aload_n (pc := 67) (n := 0) (x := 81) rfl d_M_about_67 ?_
    refine zr_getI0 hf hW (pc := 68) (by decide) f_M_196 rfl d_M_about_68 ?_
    exact zr_iret (pc := 71) (ty := .int) rfl rfl ⟨by omega, by omega⟩ hf (show zfAb P_ mv_ T nm_ s_ (ze Mz 81 1) a0_ (ze Mz 81 20) by refine ⟨⟨fun z_ => ?_, fun z_ => ?_, fun z_ => ?_, fun z_ => ?_⟩, fun z_ => ?_, fun z_ => ?_, fun z_ => ?_, fun z_ => ?_, fun z_ => ?_, fun z_ => ?_⟩; all_goals (first | (exfalso; omega) | omega | trivial)) d_M_about_71
  by_cases hs_1_4 : a0_ = 4
  · refine zr_tabIn (c := 4) (off := 71) (tgt := 72) ⟨by decide, by decide⟩ hs_1_4 (by decide) (by decide) rfl (by decide) d_M_about_1 ?_
    refine zw_aload_n (pc := 72) (n := 0) (x := 81) rfl d_M_about_72 ?_
    refine zr_getI0 hf hW (pc := 73) (by decide) f_M_220 rfl d_M_about_73 ?_
    exact zr_iret (pc := 76) (ty := .int) rfl rfl ⟨by omega, by omega⟩ hf (show zfAb P_ mv_ T nm_ s_ (ze Mz 81 1) a0_ (ze Mz 81 25) by refine ⟨⟨fun z_ => ?_, fun z_ => ?_, fun z_ => ?_, fun z_ => ?_⟩, fun z_ => ?_, fun z_ => ?_, fun z_ => ?_, fun z_ => ?_, fun z_ => ?_, fun z_ => ?_⟩; all_goals (first | (exfalso; omega) | omega | exact ⟨_, _, hen_, by omega⟩)) d_M_about_76
  by_cases hs_1_5 : a0_ = 5
  · refine zr_tabIn (c := 5) (off := 76) (tgt := 77) ⟨by decide, by decide⟩ hs_1_5 (by decide) (by decide) rfl (by decide) d_M_about_1 ?_
    refine zw_aload_n (pc := 77) (n := 0) (x := 81) rfl d_M_about_77 ?_
    refine zr_getI0 hf hW (pc := 78) (by decide) f_M_235 rfl d_M_about_78 ?_
    exact zr_iret (pc := 81) (ty := .int) rfl rfl ⟨by omega, by omega⟩ hf (show zfAb P_ mv_ T nm_ s_ (ze Mz 81 1) a0_ (ze Mz 81 26) by refine ⟨⟨fun z_ => ?_, fun z_ => ?_, fun z_ => ?_, fun z_ => ?_⟩, fun z_ => ?_, fun z_ => ?_, fun z_ => ?_, fun z_ => ?_, fun z_ => ?_, fun z_ => ?_⟩; all_goals (first | (exfalso; omega) | omega | trivial)) d_M_about_81
  by_cases hs_1_6 : a0_ = 6
  · refine zr_tabIn (c := 6) (off := 81) (tgt := 82) ⟨by decide, by decide⟩ hs_1_6 (by decide) (by decide) rfl (by decide) d_M_about_1 ?_
    refine zw_aload_n (pc := 82) (n := 0) (x := 81) rfl d_M_about_82 ?_
    refine zw_iconst (pc := 83) (v := Int32.ofInt 1) (by decide) d_M_about_83 ?_
    refine zw_aload_n (pc := 84) (n := 0) (x := 81) rfl d_M_about_84 ?_
    refine zr_getI0 hf hW (pc := 85) (by decide) f_M_196 rfl d_M_about_85 ?_
    refine zr_ishl (pc := 88) d_M_about_88 ?_
    have hr1_ := zshl_r 1 (ze Mz 81 20)
    have hsh := zshl_b hG gn
    have hpw_ := zsh_2 (k := ze Mz 81 20) (by omega) (by omega)
    rw [show (ze Mz 81 20).toNat = gN T by omega] at hpw_
    have hp2_ : 1 ≤ 2 ^ gN T := Nat.one_le_two_pow
    have het_ : (zshl 1 (ze Mz 81 20) - 1).toNat = 2 ^ gN T - 1 := by omega
    refine zw_iconst (pc := 89) (v := Int32.ofInt 1) (by decide) d_M_about_89 ?_
    refine zr_isub (pc := 90) d_M_about_90 ?_
    refine zr_callV (hf.w hW) hf.x (pc := 91) [.int (Int32.ofInt ((zshl 1 (ze Mz 81 20)) - 1))] [] l_M_397 (c_M_areAlikeG l Mz (hf.w hW) ((zshl 1 (ze Mz 81 20)) - 1) (by omega) (by omega) T hO p0_ (show 0 ≤ ((zshl 1 (ze Mz 81 20)) - 1) by first | assumption | omega) (show ((zshl 1 (ze Mz 81 20)) - 1) < 16777216 by first | assumption | omega)) rfl rfl rfl (by decide) (Nat.le_of_ble_eq_true rfl) d_M_about_91 ?_
    rintro _ N2_ ⟨v3_, rfl, ⟨hv3_a, hv3_b⟩, hsN2_, hp0_N2_⟩
    obtain rfl := hsN2_.eq.symm
    replace hp0_N2_ : ((v3_ = 1 ∧ gAb T (((zshl 1 (ze Mz 81 20)) - 1)).toNat) ∨ (v3_ = 0 ∧ ¬ gAb T (((zshl 1 (ze Mz 81 20)) - 1)).toNat)) := hp0_N2_
    rcases hp0_N2_ with ⟨rfl, ha91_0_hp0_N2_⟩ | ⟨rfl, ha91_0_hp0_N2_⟩
    · skip
      have hb_ := ha91_0_hp0_N2_
      rw [het_] at hb_
      show zW l m_M_about (zn Mz + 0, zw Mz + 0) Mz 94 [some (.ref 81), some (.int (Int32.ofInt a0_))] [.int (Int32.ofInt 1)] (zpI [] [] Mz (fun v N => zfAb P_ mv_ T nm_ s_ (ze Mz 81 1) a0_ v))
      refine zr_callS hf.x (pc := 94) [.int (Int32.ofInt 1)] [] l_M_256 (c_M_truth l Mz (hf.w hW) 1 (by decide) (by decide) (by omega)) rfl rfl (by decide) (Nat.le_of_ble_eq_true rfl) d_M_about_94 ?_
      rintro _ N4_ ⟨v5_, rfl, ⟨hv5_a, hv5_b⟩, hsN4_, hp0_N4_⟩
      obtain rfl := hsN4_.eq.symm
      replace hp0_N4_ : v5_ = 1 := hp0_N4_
      show zW l m_M_about (zn Mz + 0, zw Mz + 0) Mz 97 [some (.ref 81), some (.int (Int32.ofInt a0_))] [.int (Int32.ofInt v5_)] (zpI [] [] Mz (fun v N => zfAb P_ mv_ T nm_ s_ (ze Mz 81 1) a0_ v))
      exact zr_iret (pc := 97) (ty := .int) rfl rfl ⟨by omega, by omega⟩ hf (show zfAb P_ mv_ T nm_ s_ (ze Mz 81 1) a0_ v5_ by refine ⟨⟨fun z_ => ?_, fun z_ => ?_, fun z_ => ?_, fun z_ => ?_⟩, fun z_ => ?_, fun z_ => ?_, fun z_ => ?_, fun z_ => ?_, fun z_ => ?_, fun z_ => ?_⟩; all_goals (first | (exfalso; omega) | omega | first | exact Or.inl ⟨by omega, hb_⟩ | exact Or.inr ⟨by omega, hb_⟩)) d_M_about_97
    · skip
      have hb_ := ha91_0_hp0_N2_
      rw [het_] at hb_
      show zW l m_M_about (zn Mz + 0, zw Mz + 0) Mz 94 [some (.ref 81), some (.int (Int32.ofInt a0_))] [.int (Int32.ofInt 0)] (zpI [] [] Mz (fun v N => zfAb P_ mv_ T nm_ s_ (ze Mz 81 1) a0_ v))
      refine zr_callS hf.x (pc := 94) [.int (Int32.ofInt 0)] [] l_M_256 (c_M_truth l Mz (hf.w hW) 0 (by decide) (by decide) (by omega)) rfl rfl (by decide) (Nat.le_of_ble_eq_true rfl) d_M_about_94 ?_
      rintro _ N6_ ⟨v7_, rfl, ⟨hv7_a, hv7_b⟩, hsN6_, hp0_N6_⟩
      obtain rfl := hsN6_.eq.symm
      replace hp0_N6_ : v7_ = 0 := hp0_N6_
      show zW l m_M_about (zn Mz + 0, zw Mz + 0) Mz 97 [some (.ref 81), some (.int (Int32.ofInt a0_))] [.int (Int32.ofInt v7_)] (zpI [] [] Mz (fun v N => zfAb P_ mv_ T nm_ s_ (ze Mz 81 1) a0_ v))
      exact zr_iret (pc := 97) (ty := .int) rfl rfl ⟨by omega, by omega⟩ hf (show zfAb P_ mv_ T nm_ s_ (ze Mz 81 1) a0_ v7_ by refine ⟨⟨fun z_ => ?_, fun z_ => ?_, fun z_ => ?_, fun z_ => ?_⟩, fun z_ => ?_, fun z_ => ?_, fun z_ => ?_, fun z_ => ?_, fun z_ => ?_, fun z_ => ?_⟩; all_goals (first | (exfalso; omega) | omega | first | exact Or.inl ⟨by omega, hb_⟩ | exact Or.inr ⟨by omega, hb_⟩)) d_M_about_97
  by_cases hs_1_7 : a0_ = 7
  · refine zr_tabIn (c := 7) (off := 97) (tgt := 98) ⟨by decide, by decide⟩ hs_1_7 (by decide) (by decide) rfl (by decide) d_M_about_1 ?_
    refine zw_aload_n (pc := 98) (n := 0) (x := 81) rfl d_M_about_98 ?_
    refine zr_getI0 hf hW (pc := 99) (by decide) f_M_391 rfl d_M_about_99 ?_
    exact zr_iret (pc := 102) (ty := .int) rfl rfl ⟨by omega, by omega⟩ hf (show zfAb P_ mv_ T nm_ s_ (ze Mz 81 1) a0_ (ze Mz 81 60) by refine ⟨⟨fun z_ => ?_, fun z_ => ?_, fun z_ => ?_, fun z_ => ?_⟩, fun z_ => ?_, fun z_ => ?_, fun z_ => ?_, fun z_ => ?_, fun z_ => ?_, fun z_ => ?_⟩; all_goals (first | (exfalso; omega) | omega | trivial)) d_M_about_102
  by_cases hs_1_8 : a0_ = 8
  · refine zr_tabIn (c := 8) (off := 102) (tgt := 103) ⟨by decide, by decide⟩ hs_1_8 (by decide) (by decide) rfl (by decide) d_M_about_1 ?_
    refine zw_aload_n (pc := 103) (n := 0) (x := 81) rfl d_M_about_103 ?_
    refine zr_getI0 hf hW (pc := 104) (by decide) f_M_124 rfl d_M_about_104 ?_
    exact zr_iret (pc := 107) (ty := .int) rfl rfl ⟨by omega, by omega⟩ hf (show zfAb P_ mv_ T nm_ s_ (ze Mz 81 1) a0_ (ze Mz 81 1) by refine ⟨⟨fun z_ => ?_, fun z_ => ?_, fun z_ => ?_, fun z_ => ?_⟩, fun z_ => ?_, fun z_ => ?_, fun z_ => ?_, fun z_ => ?_, fun z_ => ?_, fun z_ => ?_⟩; all_goals (first | (exfalso; omega) | omega | trivial)) d_M_about_107
  refine zr_tabOut (tgt := 108) ⟨ha0_a, ha0_b⟩ (by omega) (by decide) d_M_about_1 ?_
  refine zw_iconst (pc := 108) (v := Int32.ofInt (-1)) (by decide) d_M_about_108 ?_
  exact zr_iret (pc := 109) (ty := .int) rfl rfl ⟨by omega, by omega⟩ hf (show zfAb P_ mv_ T nm_ s_ (ze Mz 81 1) a0_ ((-1)) by refine ⟨⟨fun z_ => ?_, fun z_ => ?_, fun z_ => ?_, fun z_ => ?_⟩, fun z_ => ?_, fun z_ => ?_, fun z_ => ?_, fun z_ => ?_, fun z_ => ?_, fun z_ => ?_⟩; all_goals (first | (exfalso; omega) | omega | trivial)) d_M_about_109
