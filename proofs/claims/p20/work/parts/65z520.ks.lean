/-! what about() tells -/
theorem zct_all : ∀ m : Nat, zct (fun _ => True) m = m
  | 0 => rfl
  | m + 1 => by
    rw [zct_t (p := fun _ => True) trivial, zct_all m]
theorem zEn_n {T : zGT} {f f' : Nat → Nat} {m m' : Nat} (h : zEn T f m) (h' : zEn T f' m') : m = m' := by
  have e := zct_en (fun _ => True) h h'
  rw [zct_all, zct_all] at e
  exact e
def zfAb (P : Nat) (mv : List Nat) (T : zGT) (nm : List (Int × (Nat → Int))) (s : zSg) (ta a v : Int) : Prop := ((a = 0 → v = (P : Int)) ∧ (a = 1 → v = (mv.length : Int)) ∧ (a = 2 → v = (nm.length : Int)) ∧ (a = 3 → v = (gN T : Int))) ∧ (a = 4 → ∃ f m, zEn T f m ∧ v = ((m : Nat) : Int)) ∧ (a = 5 → v = ((gF T).length : Int)) ∧ (a = 6 → (v = 1 ∧ gAb T (2 ^ gN T - 1)) ∨ (v = 0 ∧ ¬ gAb T (2 ^ gN T - 1))) ∧ (a = 7 → v = (s.2.1 : Int)) ∧ (a = 8 → v = ta) ∧ (a < 0 ∨ 8 < a → v = -1)
theorem zfAb_u {P : Nat} {mv : List Nat} {T : zGT} {nm : List (Int × (Nat → Int))} {s : zSg} {ta a v w : Int} (h : zfAb P mv T nm s ta a v) (h' : zfAb P mv T nm s ta a w) : v = w := by
  obtain ⟨⟨a0, a1, a2, a3⟩, a4, a5, a6, a7, a8, a9⟩ := h
  obtain ⟨⟨b0, b1, b2, b3⟩, b4, b5, b6, b7, b8, b9⟩ := h'
  by_cases g4 : a = 4
  · obtain ⟨f, m, q1, q2⟩ := a4 g4
    obtain ⟨f', m', r1, r2⟩ := b4 g4
    rw [q2, r2, zEn_n q1 r1]
  · by_cases g6 : a = 6
    · rcases a6 g6 with ⟨q1, q2⟩ | ⟨q1, q2⟩
      · rcases b6 g6 with ⟨r1, r2⟩ | ⟨r1, r2⟩
        · rw [q1, r1]
        · exact absurd q2 r2
      · rcases b6 g6 with ⟨r1, r2⟩ | ⟨r1, r2⟩
        · exact absurd r2 q2
        · rw [q1, r1]
    · clear a4 a6 b4 b6
      omega
/-! 88a -/
set_option maxHeartbeats 4000000 in
theorem u_T_aboutS (l : Launch) (d_ : Nat) (Mz : zMem) (hW : zKW d_ Mz) (hnow : zf Mz 0 2 = some (d_ + 0)) (a0_ : Int) (ha0_a : -2147483648 ≤ a0_) (ha0_b : a0_ < 2147483648) (T_ : zGT) (hT_ : T_ ∈ gTabs) (P_ : Nat) (mv_ : List Nat) (s_ : zSg) (nm_ : List (Int × (Nat → Int))) (p0_ : zMvK mv_ P_ d_ Mz) (p1_ : zTt T_ d_ Mz) (p2_ : zFir T_ d_ Mz) (p3_ : zSbK T_ d_ Mz) (p4_ : zSK (gF T_).length s_ d_ Mz) (p5_ : zNm nm_ (gF T_).length (gmkI T_) d_ Mz) : zC l m_T_about 0 0 [.ref 0, .int (Int32.ofInt a0_)] Mz (zqcI d_ [] [] [] [] Mz (fun v N => zfAb P_ mv_ T_ nm_ s_ (ze Mz 1 1) a0_ v)) := by
  refine zC_of (L0 := [some (.ref 0), some (.int (Int32.ofInt a0_))]) md_T_about (Nat.le_of_ble_eq_true rfl) rfl ?_ zQ0
  have hf : zFc d_ [] [] [] [] Mz Mz := zFc.rf
  have r_A1_1 := ze_r Mz 1 1
  have r_D0_6 := ze_r Mz (d_ + 0) 6
  have r_D0_7 := ze_r Mz (d_ + 0) 7
  have r_D1_5 := ze_r Mz (d_ + 1) 5
  have r_D1_6 := ze_r Mz (d_ + 1) 6
  have r_D1_7 := ze_r Mz (d_ + 1) 7
  have r_D12_6 := ze_r Mz (d_ + 12) 6
  have r_D12_7 := ze_r Mz (d_ + 12) 7
  have hO_ := gTabs_ok T_ hT_
  have hG_ := hO_.1
  have hn24_ := hG_.2.1
  have hn1_ := hG_.1
  have hsz_ := p1_.1
  have hfl_ := p2_.1
  have hnl_ := p5_.n
  have hml_ := p0_.2.1
  have hpl_ := p0_.1.1
  obtain ⟨⟨hs1_, hs2_⟩, -⟩ := id p4_
  have hen_ := zLs.en p3_.1
  have hlk_ := p3_.1.1
  refine zw_iload_n (pc := 0) (n := 1) (x := Int32.ofInt a0_) rfl d_T_about_0 ?_
  by_cases hs_1_0 : a0_ = 0
  · refine zr_tabIn (c := 0) (off := 51) (tgt := 52) ⟨by decide, by decide⟩ hs_1_0 (by decide) (by decide) rfl (by decide) d_T_about_1 ?_
    refine zw_aload_n (pc := 52) (n := 0) (x := 0) rfl d_T_about_52 ?_
    refine zw_getF (pc := 53) f_T_28 rfl ((hf.w hW).ka (o := 0) (by decide)) (hf.now hnow) d_T_about_53 ?_
    refine zw_getF (pc := 56) f_T_61 rfl ((hf.w hW).kr (o := 0) (by decide)) ((hf.w hW).lr (o := 0) (s := 0) (r := 1) (by decide)) d_T_about_56 ?_
    refine zk_getI (pc := 59) f_T_76 rfl ((hf.w hW).kr (o := 1) (by decide)) d_T_about_59 ?_
    exact zk_iret (pc := 62) (ty := .int) rfl rfl ⟨by omega, by omega⟩ hf (show zfAb P_ mv_ T_ nm_ s_ (ze Mz 1 1) a0_ (ze Mz (d_ + 1) 5) by refine ⟨⟨fun z_ => ?_, fun z_ => ?_, fun z_ => ?_, fun z_ => ?_⟩, fun z_ => ?_, fun z_ => ?_, fun z_ => ?_, fun z_ => ?_, fun z_ => ?_, fun z_ => ?_⟩; all_goals (first | (exfalso; omega) | omega | trivial)) d_T_about_62
  by_cases hs_1_1 : a0_ = 1
  · refine zr_tabIn (c := 1) (off := 62) (tgt := 63) ⟨by decide, by decide⟩ hs_1_1 (by decide) (by decide) rfl (by decide) d_T_about_1 ?_
    refine zw_aload_n (pc := 63) (n := 0) (x := 0) rfl d_T_about_63 ?_
    refine zw_getF (pc := 64) f_T_28 rfl ((hf.w hW).ka (o := 0) (by decide)) (hf.now hnow) d_T_about_64 ?_
    refine zw_getF (pc := 67) f_T_61 rfl ((hf.w hW).kr (o := 0) (by decide)) ((hf.w hW).lr (o := 0) (s := 0) (r := 1) (by decide)) d_T_about_67 ?_
    refine zk_getI (pc := 70) f_T_79 rfl ((hf.w hW).kr (o := 1) (by decide)) d_T_about_70 ?_
    exact zk_iret (pc := 73) (ty := .int) rfl rfl ⟨by omega, by omega⟩ hf (show zfAb P_ mv_ T_ nm_ s_ (ze Mz 1 1) a0_ (ze Mz (d_ + 1) 6) by refine ⟨⟨fun z_ => ?_, fun z_ => ?_, fun z_ => ?_, fun z_ => ?_⟩, fun z_ => ?_, fun z_ => ?_, fun z_ => ?_, fun z_ => ?_, fun z_ => ?_, fun z_ => ?_⟩; all_goals (first | (exfalso; omega) | omega | trivial)) d_T_about_73
  by_cases hs_1_2 : a0_ = 2
  · refine zr_tabIn (c := 2) (off := 73) (tgt := 74) ⟨by decide, by decide⟩ hs_1_2 (by decide) (by decide) rfl (by decide) d_T_about_1 ?_
    refine zw_aload_n (pc := 74) (n := 0) (x := 0) rfl d_T_about_74 ?_
    refine zw_getF (pc := 75) f_T_28 rfl ((hf.w hW).ka (o := 0) (by decide)) (hf.now hnow) d_T_about_75 ?_
    refine zk_getI (pc := 78) f_T_82 rfl ((hf.w hW).kr (o := 0) (by decide)) d_T_about_78 ?_
    exact zk_iret (pc := 81) (ty := .int) rfl rfl ⟨by omega, by omega⟩ hf (show zfAb P_ mv_ T_ nm_ s_ (ze Mz 1 1) a0_ (ze Mz (d_ + 0) 6) by refine ⟨⟨fun z_ => ?_, fun z_ => ?_, fun z_ => ?_, fun z_ => ?_⟩, fun z_ => ?_, fun z_ => ?_, fun z_ => ?_, fun z_ => ?_, fun z_ => ?_, fun z_ => ?_⟩; all_goals (first | (exfalso; omega) | omega | trivial)) d_T_about_81
  by_cases hs_1_3 : a0_ = 3
  · refine zr_tabIn (c := 3) (off := 81) (tgt := 82) ⟨by decide, by decide⟩ hs_1_3 (by decide) (by decide) rfl (by decide) d_T_about_1 ?_
    refine zw_aload_n (pc := 82) (n := 0) (x := 0) rfl d_T_about_82 ?_
    refine zw_getF (pc := 83) f_T_28 rfl ((hf.w hW).ka (o := 0) (by decide)) (hf.now hnow) d_T_about_83 ?_
    refine zw_getF (pc := 86) f_T_61 rfl ((hf.w hW).kr (o := 0) (by decide)) ((hf.w hW).lr (o := 0) (s := 0) (r := 1) (by decide)) d_T_about_86 ?_
    refine zk_getI (pc := 89) f_T_65 rfl ((hf.w hW).kr (o := 1) (by decide)) d_T_about_89 ?_
    exact zk_iret (pc := 92) (ty := .int) rfl rfl ⟨by omega, by omega⟩ hf (show zfAb P_ mv_ T_ nm_ s_ (ze Mz 1 1) a0_ (ze Mz (d_ + 1) 7) by refine ⟨⟨fun z_ => ?_, fun z_ => ?_, fun z_ => ?_, fun z_ => ?_⟩, fun z_ => ?_, fun z_ => ?_, fun z_ => ?_, fun z_ => ?_, fun z_ => ?_, fun z_ => ?_⟩; all_goals (first | (exfalso; omega) | omega | trivial)) d_T_about_92
  by_cases hs_1_4 : a0_ = 4
  · refine zr_tabIn (c := 4) (off := 92) (tgt := 93) ⟨by decide, by decide⟩ hs_1_4 (by decide) (by decide) rfl (by decide) d_T_about_1 ?_
    refine zw_aload_n (pc := 93) (n := 0) (x := 0) rfl d_T_about_93 ?_
    refine zw_getF (pc := 94) f_T_28 rfl ((hf.w hW).ka (o := 0) (by decide)) (hf.now hnow) d_T_about_94 ?_
    refine zw_getF (pc := 97) f_T_85 rfl ((hf.w hW).kr (o := 0) (by decide)) ((hf.w hW).lr (o := 0) (s := 1) (r := 12) (by decide)) d_T_about_97 ?_
    refine zk_getI (pc := 100) f_T_89 rfl ((hf.w hW).kr (o := 12) (by decide)) d_T_about_100 ?_
    exact zk_iret (pc := 103) (ty := .int) rfl rfl ⟨by omega, by omega⟩ hf (show zfAb P_ mv_ T_ nm_ s_ (ze Mz 1 1) a0_ (ze Mz (d_ + 12) 6) by refine ⟨⟨fun z_ => ?_, fun z_ => ?_, fun z_ => ?_, fun z_ => ?_⟩, fun z_ => ?_, fun z_ => ?_, fun z_ => ?_, fun z_ => ?_, fun z_ => ?_, fun z_ => ?_⟩; all_goals (first | (exfalso; omega) | omega | exact ⟨_, _, hen_, by omega⟩)) d_T_about_103
  by_cases hs_1_5 : a0_ = 5
  · refine zr_tabIn (c := 5) (off := 103) (tgt := 104) ⟨by decide, by decide⟩ hs_1_5 (by decide) (by decide) rfl (by decide) d_T_about_1 ?_
    refine zw_aload_n (pc := 104) (n := 0) (x := 0) rfl d_T_about_104 ?_
    refine zw_getF (pc := 105) f_T_28 rfl ((hf.w hW).ka (o := 0) (by decide)) (hf.now hnow) d_T_about_105 ?_
    refine zw_getF (pc := 108) f_T_85 rfl ((hf.w hW).kr (o := 0) (by decide)) ((hf.w hW).lr (o := 0) (s := 1) (r := 12) (by decide)) d_T_about_108 ?_
    refine zk_getI (pc := 111) f_T_94 rfl ((hf.w hW).kr (o := 12) (by decide)) d_T_about_111 ?_
    exact zk_iret (pc := 114) (ty := .int) rfl rfl ⟨by omega, by omega⟩ hf (show zfAb P_ mv_ T_ nm_ s_ (ze Mz 1 1) a0_ (ze Mz (d_ + 12) 7) by refine ⟨⟨fun z_ => ?_, fun z_ => ?_, fun z_ => ?_, fun z_ => ?_⟩, fun z_ => ?_, fun z_ => ?_, fun z_ => ?_, fun z_ => ?_, fun z_ => ?_, fun z_ => ?_⟩; all_goals (first | (exfalso; omega) | omega | trivial)) d_T_about_114
  by_cases hs_1_6 : a0_ = 6
  · refine zr_tabIn (c := 6) (off := 114) (tgt := 115) ⟨by decide, by decide⟩ hs_1_6 (by decide) (by decide) rfl (by decide) d_T_about_1 ?_
    refine zw_aload_n (pc := 115) (n := 0) (x := 0) rfl d_T_about_115 ?_
    refine zw_getF (pc := 116) f_T_28 rfl ((hf.w hW).ka (o := 0) (by decide)) (hf.now hnow) d_T_about_116 ?_
    refine zw_getF (pc := 119) f_T_61 rfl ((hf.w hW).kr (o := 0) (by decide)) ((hf.w hW).lr (o := 0) (s := 0) (r := 1) (by decide)) d_T_about_119 ?_
    refine zw_aload_n (pc := 122) (n := 0) (x := 0) rfl d_T_about_122 ?_
    refine zw_getF (pc := 123) f_T_28 rfl ((hf.w hW).ka (o := 0) (by decide)) (hf.now hnow) d_T_about_123 ?_
    refine zw_getF (pc := 126) f_T_61 rfl ((hf.w hW).kr (o := 0) (by decide)) ((hf.w hW).lr (o := 0) (s := 0) (r := 1) (by decide)) d_T_about_126 ?_
    refine zk_callV hf.x (pc := 129) [] [.ref (d_ + 1)] l_T_97 (u_Group_everyoneG l d_ Mz (hf.w hW) T_ hT_ p1_) rfl rfl ((hf.w hW).kr (o := 1) (by decide)) (by decide) (by decide) (Nat.le_of_ble_eq_true rfl) d_T_about_129 ?_
    rintro _ N1_ ⟨v2_, rfl, ⟨hv2_a, hv2_b⟩, hsN1_, ⟨hp0_N1_, hp1_N1_, hp2_N1_⟩⟩
    obtain rfl := hsN1_.eq.symm
    show zW l m_T_about (zn Mz + 0, zw Mz + 0) Mz 132 [some (.ref 0), some (.int (Int32.ofInt a0_))] [.int (Int32.ofInt v2_), .ref (d_ + 1)] (zqcI d_ [] [] [] [] Mz (fun v N => zfAb P_ mv_ T_ nm_ s_ (ze Mz 1 1) a0_ v))
    have hev_ := hp0_N1_
    have hp2_ : 1 ≤ 2 ^ gN T_ := Nat.one_le_two_pow
    have het_ : (v2_).toNat = 2 ^ gN T_ - 1 := by omega
    refine zk_callV hf.x (pc := 132) [.int (Int32.ofInt v2_)] [] l_T_101 (u_Group_isCommutingG l d_ Mz (hf.w hW) v2_ hv2_a hv2_b T_ hT_ p1_ (show 0 ≤ v2_ by first | assumption | omega) (show (v2_).toNat < 2 ^ gN T_ by rw [het_]; omega)) rfl rfl ((hf.w hW).kr (o := 1) (by decide)) (by decide) (by decide) (Nat.le_of_ble_eq_true rfl) d_T_about_132 ?_
    rintro _ N3_ ⟨v4_, rfl, ⟨hv4_a, hv4_b⟩, hsN3_, hp0_N3_⟩
    obtain rfl := hsN3_.eq.symm
    replace hp0_N3_ : ((v4_ = 1 ∧ gAb T_ (v2_).toNat) ∨ (v4_ = 0 ∧ ¬ gAb T_ (v2_).toNat)) := hp0_N3_
    rcases hp0_N3_ with ⟨rfl, ha132_0_hp0_N3_⟩ | ⟨rfl, ha132_0_hp0_N3_⟩
    · skip
      have hb_ := ha132_0_hp0_N3_
      rw [het_] at hb_
      show zW l m_T_about (zn Mz + 0, zw Mz + 0) Mz 135 [some (.ref 0), some (.int (Int32.ofInt a0_))] [.int (Int32.ofInt 1)] (zqcI d_ [] [] [] [] Mz (fun v N => zfAb P_ mv_ T_ nm_ s_ (ze Mz 1 1) a0_ v))
      have j_143 : ∀ (u5_ : Int) (hu5_a : -2147483648 ≤ u5_) (hu5_b : u5_ < 2147483648) (hu5_z : u5_ = 0 ∨ u5_ = 1) (i6_ : (((u5_ : Int) = 1 ∧ gAb T_ (2 ^ gN T_ - 1)) ∨ ((u5_ : Int) = 0 ∧ ¬ gAb T_ (2 ^ gN T_ - 1)))), zW l m_T_about (zn Mz + 0, zw Mz + 0) Mz 143 [some (.ref 0), some (.int (Int32.ofInt a0_))] [.int (Int32.ofInt u5_)] (zqcI d_ [] [] [] [] Mz (fun v N => zfAb P_ mv_ T_ nm_ s_ (ze Mz 1 1) a0_ v)) := by
        intro u5_ hu5_a hu5_b hu5_z i6_
        have hab_ := (show (((u5_ : Int) = 1 ∧ gAb T_ (2 ^ gN T_ - 1)) ∨ ((u5_ : Int) = 0 ∧ ¬ gAb T_ (2 ^ gN T_ - 1))) by assumption)
        exact zk_iret (pc := 143) (ty := .int) rfl rfl ⟨by omega, by omega⟩ hf (show zfAb P_ mv_ T_ nm_ s_ (ze Mz 1 1) a0_ u5_ by refine ⟨⟨fun z_ => ?_, fun z_ => ?_, fun z_ => ?_, fun z_ => ?_⟩, fun z_ => ?_, fun z_ => ?_, fun z_ => ?_, fun z_ => ?_, fun z_ => ?_, fun z_ => ?_⟩; all_goals (first | (exfalso; omega) | omega | exact hab_)) d_T_about_143
      refine zr_if_eq (pc := 135) (tgt := 142) ⟨(by decide), (by decide)⟩ (by decide) d_T_about_135 (fun hc_135 => ?_) (fun hc_135 => ?_)
      · skip
        exact absurd hc_135 (by decide)
      · skip
        refine zw_iconst (pc := 138) (v := Int32.ofInt 1) (by decide) d_T_about_138 ?_
        refine zw_goto (pc := 139) (tgt := 143) (by decide) d_T_about_139 ?_
        exact j_143 1 (by decide) (by decide) (by omega) (show (((1 : Int) = 1 ∧ gAb T_ (2 ^ gN T_ - 1)) ∨ ((1 : Int) = 0 ∧ ¬ gAb T_ (2 ^ gN T_ - 1))) by first | exact Or.inl ⟨rfl, hb_⟩ | exact Or.inr ⟨rfl, hb_⟩)
    · skip
      have hb_ := ha132_0_hp0_N3_
      rw [het_] at hb_
      show zW l m_T_about (zn Mz + 0, zw Mz + 0) Mz 135 [some (.ref 0), some (.int (Int32.ofInt a0_))] [.int (Int32.ofInt 0)] (zqcI d_ [] [] [] [] Mz (fun v N => zfAb P_ mv_ T_ nm_ s_ (ze Mz 1 1) a0_ v))
      have j_143 : ∀ (u7_ : Int) (hu7_a : -2147483648 ≤ u7_) (hu7_b : u7_ < 2147483648) (hu7_z : u7_ = 0 ∨ u7_ = 1) (i8_ : (((u7_ : Int) = 1 ∧ gAb T_ (2 ^ gN T_ - 1)) ∨ ((u7_ : Int) = 0 ∧ ¬ gAb T_ (2 ^ gN T_ - 1)))), zW l m_T_about (zn Mz + 0, zw Mz + 0) Mz 143 [some (.ref 0), some (.int (Int32.ofInt a0_))] [.int (Int32.ofInt u7_)] (zqcI d_ [] [] [] [] Mz (fun v N => zfAb P_ mv_ T_ nm_ s_ (ze Mz 1 1) a0_ v)) := by
        intro u7_ hu7_a hu7_b hu7_z i8_
        have hab_ := (show (((u7_ : Int) = 1 ∧ gAb T_ (2 ^ gN T_ - 1)) ∨ ((u7_ : Int) = 0 ∧ ¬ gAb T_ (2 ^ gN T_ - 1))) by assumption)
        exact zk_iret (pc := 143) (ty := .int) rfl rfl ⟨by omega, by omega⟩ hf (show zfAb P_ mv_ T_ nm_ s_ (ze Mz 1 1) a0_ u7_ by refine ⟨⟨fun z_ => ?_, fun z_ => ?_, fun z_ => ?_, fun z_ => ?_⟩, fun z_ => ?_, fun z_ => ?_, fun z_ => ?_, fun z_ => ?_, fun z_ => ?_, fun z_ => ?_⟩; all_goals (first | (exfalso; omega) | omega | exact hab_)) d_T_about_143
      refine zr_if_eq (pc := 135) (tgt := 142) ⟨(by decide), (by decide)⟩ (by decide) d_T_about_135 (fun hc_135 => ?_) (fun hc_135 => ?_)
      · skip
        refine zw_iconst (pc := 142) (v := Int32.ofInt 0) (by decide) d_T_about_142 ?_
        exact j_143 0 (by decide) (by decide) (by omega) (show (((0 : Int) = 1 ∧ gAb T_ (2 ^ gN T_ - 1)) ∨ ((0 : Int) = 0 ∧ ¬ gAb T_ (2 ^ gN T_ - 1))) by first | exact Or.inl ⟨rfl, hb_⟩ | exact Or.inr ⟨rfl, hb_⟩)
      · skip
        exact absurd hc_135 (by decide)
  by_cases hs_1_7 : a0_ = 7
  · refine zr_tabIn (c := 7) (off := 143) (tgt := 144) ⟨by decide, by decide⟩ hs_1_7 (by decide) (by decide) rfl (by decide) d_T_about_1 ?_
    refine zw_aload_n (pc := 144) (n := 0) (x := 0) rfl d_T_about_144 ?_
    refine zw_getF (pc := 145) f_T_28 rfl ((hf.w hW).ka (o := 0) (by decide)) (hf.now hnow) d_T_about_145 ?_
    refine zk_getI (pc := 148) f_T_105 rfl ((hf.w hW).kr (o := 0) (by decide)) d_T_about_148 ?_
    exact zk_iret (pc := 151) (ty := .int) rfl rfl ⟨by omega, by omega⟩ hf (show zfAb P_ mv_ T_ nm_ s_ (ze Mz 1 1) a0_ (ze Mz (d_ + 0) 7) by refine ⟨⟨fun z_ => ?_, fun z_ => ?_, fun z_ => ?_, fun z_ => ?_⟩, fun z_ => ?_, fun z_ => ?_, fun z_ => ?_, fun z_ => ?_, fun z_ => ?_, fun z_ => ?_⟩; all_goals (first | (exfalso; omega) | omega | trivial)) d_T_about_151
  by_cases hs_1_8 : a0_ = 8
  · refine zr_tabIn (c := 8) (off := 151) (tgt := 152) ⟨by decide, by decide⟩ hs_1_8 (by decide) (by decide) rfl (by decide) d_T_about_1 ?_
    refine zw_aload_n (pc := 152) (n := 0) (x := 0) rfl d_T_about_152 ?_
    refine zw_getF (pc := 153) f_T_10 rfl ((hf.w hW).ka (o := 0) (by decide)) ((hf.w hW).la (o := 0) (s := 0) (r := 1) (by decide)) d_T_about_153 ?_
    refine zk_getI (pc := 156) f_T_42 rfl ((hf.w hW).ka (o := 1) (by decide)) d_T_about_156 ?_
    exact zk_iret (pc := 159) (ty := .int) rfl rfl ⟨by omega, by omega⟩ hf (show zfAb P_ mv_ T_ nm_ s_ (ze Mz 1 1) a0_ (ze Mz 1 1) by refine ⟨⟨fun z_ => ?_, fun z_ => ?_, fun z_ => ?_, fun z_ => ?_⟩, fun z_ => ?_, fun z_ => ?_, fun z_ => ?_, fun z_ => ?_, fun z_ => ?_, fun z_ => ?_⟩; all_goals (first | (exfalso; omega) | omega | trivial)) d_T_about_159
  refine zr_tabOut (tgt := 160) ⟨ha0_a, ha0_b⟩ (by omega) (by decide) d_T_about_1 ?_
  refine zw_iconst (pc := 160) (v := Int32.ofInt (-1)) (by decide) d_T_about_160 ?_
  exact zk_iret (pc := 161) (ty := .int) rfl rfl ⟨by omega, by omega⟩ hf (show zfAb P_ mv_ T_ nm_ s_ (ze Mz 1 1) a0_ ((-1)) by refine ⟨⟨fun z_ => ?_, fun z_ => ?_, fun z_ => ?_, fun z_ => ?_⟩, fun z_ => ?_, fun z_ => ?_, fun z_ => ?_, fun z_ => ?_, fun z_ => ?_, fun z_ => ?_⟩; all_goals (first | (exfalso; omega) | omega | trivial)) d_T_about_161
