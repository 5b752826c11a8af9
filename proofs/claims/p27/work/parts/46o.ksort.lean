section ZKFI
variable {d : Nat} {T : zGT} {FA : List (Nat × Nat)} {CA : List Nat} {FR : List (Nat × Nat)} {CR : List Nat} {Mz Nz : zMem}
theorem zFir.fr (_ : zKW d Mz) (hf : zFc d FA CA FR CR Mz Nz) (h : zFir T d Mz) (hd : (12 < 38 ∧ 12 ∉ CR ∧ (12, 7) ∉ FR) ∧ 20 < 38 ∧ 20 ∉ CR ∧ ∀ x ∈ FR, x.1 ≠ 20) : zFir T d Nz :=
  ⟨(hf.e hd.1).trans h.1, fun i hi => (hf.r hd.2 i).trans (h.2 i hi)⟩
end ZKFI
set_option maxHeartbeats 4000000 in
theorem u_Sorts_markAt (l : Launch) (d_ : Nat) (Mz : zMem) (hW : zKW d_ Mz) (a0_ : Int) (ha0_a : -2147483648 ≤ a0_) (ha0_b : a0_ < 2147483648) (a1_ : Int) (ha1_a : -2147483648 ≤ a1_) (ha1_b : a1_ < 2147483648) (p0_ : 0 ≤ a0_) (p1_ : a0_ ≤ 26) (p2_ : 0 ≤ a1_) (p3_ : a1_ ≤ 26) : zC l m_Sorts_markAt 0 0 [.ref (d_ + 12), .int (Int32.ofInt a0_), .int (Int32.ofInt a1_)] Mz (zqcI d_ [] [] [] [] Mz (fun v N => v = ze Mz (d_ + 22) (a0_ * 27 + a1_).toNat)) := by
  refine zC_of (L0 := [some (.ref (d_ + 12)), some (.int (Int32.ofInt a0_)), some (.int (Int32.ofInt a1_))]) md_Sorts_markAt (Nat.le_of_ble_eq_true rfl) rfl ?_ zQ0
  have hf : zFc d_ [] [] [] [] Mz Mz := zFc.rf
  refine zw_aload_n (pc := 0) (n := 0) (x := (d_ + 12)) rfl (zdal_p dlA_Sorts_markAt_59 (i := 0) rfl) ?_
  refine zw_getF (pc := 1) f_Sorts_29 rfl ((hf.w hW).kr (o := 12) (by decide)) ((hf.w hW).lr (o := 12) (s := 5) (r := 21) (by decide)) (zdal_p dlA_Sorts_markAt_59 (i := 1) rfl) ?_
  refine zw_iload_n (pc := 4) (n := 1) (x := Int32.ofInt a0_) rfl (zdal_p dlA_Sorts_markAt_59 (i := 2) rfl) ?_
  refine zw_bipush (pc := 5) (v := Int32.ofInt 27) (by decide) (zdal_p dlA_Sorts_markAt_59 (i := 3) rfl) ?_
  refine zr_imul (pc := 7) (zdal_p dlA_Sorts_markAt_59 (i := 4) rfl) ?_
  refine zw_iload_n (pc := 8) (n := 2) (x := Int32.ofInt a1_) rfl (zdal_p dlA_Sorts_markAt_59 (i := 5) rfl) ?_
  refine zr_iadd (pc := 9) (zdal_p dlA_Sorts_markAt_59 (i := 6) rfl) ?_
  refine zk_at hf.x (pc := 10) l_Sorts_49 ((hf.w hW).kr (o := 21) (by decide)) ((hf.w hW).lr (o := 21) (s := 0) (r := 22) (by decide)) ((hf.w hW).rr (o := 22) (t := 1) (n := 729) (by decide)) (by decide) (by omega) (by omega) (by decide) (Nat.le_of_ble_eq_true rfl) (zdal_p dlA_Sorts_markAt_59 (i := 7) rfl) (fun v1_ hv1_ hv1_a hv1_b => ?_)
  exact zk_iret (pc := 13) (ty := .int) rfl rfl ⟨by omega, by omega⟩ hf (show v1_ = ze Mz (d_ + 22) (a0_ * 27 + a1_).toNat by first | assumption | omega) (zdal_p dlA_Sorts_markAt_59 (i := 8) rfl)
set_option maxHeartbeats 4000000 in
theorem u_Sorts_countTurned (l : Launch) (d_ : Nat) (Mz : zMem) (hW : zKW d_ Mz) (a0_ : Int) (ha0_a : -2147483648 ≤ a0_) (ha0_b : a0_ < 2147483648) (a1_ : Int) (ha1_a : -2147483648 ≤ a1_) (ha1_b : a1_ < 2147483648) (T_ : zGT) (hT_ : T_ ∈ gTabs) (l_ : List Nat) (Kp_ : Nat) (hol_ : gOL T_ l_ Kp_ gKL) (g_ : Int) (p0_ : zFir T_ d_ Mz) (p1_ : 0 ≤ a1_) (p2_ : a1_ < (gF T_).length) (p3_ : 0 ≤ g_ ∧ g_ ≤ 24) (p4_ : a0_ = (gtr T_ (gFn T_ (a1_).toNat) (g_).toNat : Nat)) (p5_ : a0_ < 16777216) (p6_ : zFl2 T_ (zRw d_ 22 Mz) a1_ g_ 0) : zC l m_Sorts_countTurned 0 0 [.ref (d_ + 12), .int (Int32.ofInt a0_), .int (Int32.ofInt a1_)] Mz (zqcV d_ [] [] [] [22] Mz (fun N => zFl2 T_ (zRw d_ 22 N) a1_ (g_ + 1) 0)) := by
  refine zC_of (L0 := [some (.ref (d_ + 12)), some (.int (Int32.ofInt a0_)), some (.int (Int32.ofInt a1_)), none]) md_Sorts_countTurned (Nat.le_of_ble_eq_true rfl) rfl ?_ zQ0
  have hf : zFc d_ [] [] [] [22] Mz Mz := zFc.rf
  have r_D12_7 := ze_r Mz (d_ + 12) 7
  have hO_ := gTabs_ok T_ hT_
  have hG_ := hO_.1
  have hn24_ := hG_.2.1
  have hn1_ := hG_.1
  have h27_ := hol_.1.2
  have hfc_ := p0_.1
  refine zw_iconst (pc := 0) (v := Int32.ofInt 0) (by decide) (zdal_p dlA_Sorts_countTurned_56 (i := 0) rfl) ?_
  refine zw_istore_n (pc := 1) (i := 3) (L2 := [some (.ref (d_ + 12)), some (.int (Int32.ofInt a0_)), some (.int (Int32.ofInt a1_)), some (.int (Int32.ofInt 0))]) rfl (by decide) rfl (zdal_p dlA_Sorts_countTurned_56 (i := 1) rfl) ?_
  have lp_2 : ∀ (n : Nat) (u1_ : Int) (hu1_a : -2147483648 ≤ u1_) (hu1_b : u1_ < 2147483648) (N2_ : zMem) (hs3_ : zFc d_ [] [] [] [22] Mz N2_) (i4_ : 0 ≤ u1_) (i5_ : u1_ ≤ (gF T_).length) (i6_ : zFl2 T_ (zRw d_ 22 N2_) a1_ g_ u1_), ((gF T_).length - u1_).toNat < n → zW l m_Sorts_countTurned (zn Mz + 0, zw Mz + 0) N2_ 2 [some (.ref (d_ + 12)), some (.int (Int32.ofInt a0_)), some (.int (Int32.ofInt a1_)), some (.int (Int32.ofInt u1_))] [] (zqcV d_ [] [] [] [22] Mz (fun N => zFl2 T_ (zRw d_ 22 N) a1_ (g_ + 1) 0)) := by
    intro n
    induction n with
    | zero =>
      intro u1_ hu1_a hu1_b N2_ hs3_ i4_ i5_ i6_ h0
      exact absurd h0 (Nat.not_lt_zero _)
    | succ n ih_2 =>
      intro u1_ hu1_a hu1_b N2_ hs3_ i4_ i5_ i6_ hlt_2
      have hf_N2_ : zFc d_ [] [] [] [22] Mz N2_ := hf.tr hs3_ (by decide) (by decide) (by decide) (by decide)
      have eD12_7_N2_ : ze N2_ (d_ + 12) 7 = ze Mz (d_ + 12) 7 := hs3_.e (by decide)
      have c7_ : zFir T_ d_ N2_ := zFir.fr (hf.w hW) hs3_ p0_ (by decide)
      have hfl_ := (show zFl2 T_ (zRw d_ 22 N2_) a1_ g_ u1_ by assumption)
      refine zw_iload_n (pc := 2) (n := 3) (x := Int32.ofInt u1_) rfl (zdal_p dlA_Sorts_countTurned_56 (i := 2) rfl) ?_
      refine zw_aload_n (pc := 3) (n := 0) (x := (d_ + 12)) rfl (zdal_p dlA_Sorts_countTurned_56 (i := 3) rfl) ?_
      refine zk_getI (pc := 4) f_Sorts_83 rfl ((hf_N2_.w hW).kr (o := 12) (by decide)) (zdal_p dlA_Sorts_countTurned_56 (i := 4) rfl) ?_
      rw [hf_N2_.e (by decide)]
      refine zr_icmp_ge (pc := 7) (tgt := 52) ⟨hu1_a, hu1_b⟩ ⟨(ze_r Mz (d_ + 12) 7).1, (ze_r Mz (d_ + 12) 7).2⟩ (by decide) (zdal_p dlA_Sorts_countTurned_56 (i := 5) rfl) (fun hc_7 => ?_) (fun hc_7 => ?_)
      · skip
        exact zk_vret (pc := 52) rfl hf_N2_ (show zFl2 T_ (zRw d_ 22 N2_) a1_ (g_ + 1) 0 by exact zFl2_r hfl_ p3_.1 (by omega)) (zdal_p dlA_Sorts_countTurned_57 (i := 5) rfl)
      · skip
        refine zw_iload_n (pc := 10) (n := 1) (x := Int32.ofInt a0_) rfl (zdal_p dlA_Sorts_countTurned_56 (i := 6) rfl) ?_
        refine zw_aload_n (pc := 11) (n := 0) (x := (d_ + 12)) rfl (zdal_p dlA_Sorts_countTurned_56 (i := 7) rfl) ?_
        refine zw_getF (pc := 12) f_Sorts_26 rfl ((hf_N2_.w hW).kr (o := 12) (by decide)) ((hf_N2_.w hW).lr (o := 12) (s := 4) (r := 19) (by decide)) (zdal_p dlA_Sorts_countTurned_56 (i := 8) rfl) ?_
        refine zw_iload_n (pc := 15) (n := 3) (x := Int32.ofInt u1_) rfl (zdal_p dlA_Sorts_countTurned_56 (i := 9) rfl) ?_
        refine zk_at hf_N2_.x (pc := 16) l_Sorts_49 ((hf_N2_.w hW).kr (o := 19) (by decide)) ((hf_N2_.w hW).lr (o := 19) (s := 0) (r := 20) (by decide)) ((hf_N2_.w hW).rr (o := 20) (t := 1) (n := 27) (by decide)) (by decide) (by omega) (by omega) (by decide) (Nat.le_of_ble_eq_true rfl) (zdal_p dlA_Sorts_countTurned_56 (i := 10) rfl) (fun v8_ hv8_ hv8_a hv8_b => ?_)
        rw [hf_N2_.r (by decide)] at hv8_
        have hv1_ := hv8_
        have hv2_ : v8_ = ((gFn T_ (u1_).toNat : Nat) : Int) := hv1_.trans (p0_.2 _ (by omega))
        have hb_ := gS_b hO_ (hO_.2.2.1.2.1 _ (gFn_m (T := T_) (i := (u1_).toNat) (by omega))).1
        refine zr_callS hf_N2_.x (pc := 19) [.int (Int32.ofInt a0_), .int (Int32.ofInt v8_)] [] l_Sorts_96 (u_T_isPart l d_ N2_ (hf_N2_.w hW) a0_ ha0_a ha0_b v8_ hv8_a hv8_b (show 0 ≤ a0_ by first | assumption | omega) (show a0_ < 2147483648 by first | assumption | omega) (show 0 ≤ v8_ by first | assumption | omega) (show v8_ < 2147483648 by first | assumption | omega)) rfl rfl (by decide) (Nat.le_of_ble_eq_true rfl) (zdal_p dlA_Sorts_countTurned_56 (i := 11) rfl) ?_
        rintro _ N9_ ⟨v10_, rfl, ⟨hv10_a, hv10_b⟩, hsN9_, hp0_N9_⟩
        obtain rfl := hsN9_.eq.symm
        replace hp0_N9_ : ((v10_ = 1 ∧ (a0_).toNat &&& (v8_).toNat = (a0_).toNat) ∨ (v10_ = 0 ∧ ¬ (a0_).toNat &&& (v8_).toNat = (a0_).toNat)) := hp0_N9_
        rcases hp0_N9_ with ⟨rfl, ha19_0_hp0_N9_⟩ | ⟨rfl, ha19_0_hp0_N9_⟩
        · skip
          have hp_ := ha19_0_hp0_N9_
          rw [hv2_, p4_, Int.toNat_natCast, Int.toNat_natCast] at hp_
          show zW l m_Sorts_countTurned (zn Mz + 0, zw Mz + 0) N2_ 22 [some (.ref (d_ + 12)), some (.int (Int32.ofInt a0_)), some (.int (Int32.ofInt a1_)), some (.int (Int32.ofInt u1_))] [.int (Int32.ofInt 1)] _
          refine zr_if_eq (pc := 22) (tgt := 46) ⟨(by decide), (by decide)⟩ (by decide) (zdal_p dlA_Sorts_countTurned_56 (i := 12) rfl) (fun hc_22 => ?_) (fun hc_22 => ?_)
          · skip
            exact absurd hc_22 (by decide)
          · skip
            refine zw_aload_n (pc := 25) (n := 0) (x := (d_ + 12)) rfl (zdal_p dlA_Sorts_countTurned_56 (i := 13) rfl) ?_
            refine zw_getF (pc := 26) f_Sorts_29 rfl ((hf_N2_.w hW).kr (o := 12) (by decide)) ((hf_N2_.w hW).lr (o := 12) (s := 5) (r := 21) (by decide)) (zdal_p dlA_Sorts_countTurned_56 (i := 14) rfl) ?_
            refine zw_iload_n (pc := 29) (n := 3) (x := Int32.ofInt u1_) rfl (zdal_p dlA_Sorts_countTurned_56 (i := 15) rfl) ?_
            refine zw_bipush (pc := 30) (v := Int32.ofInt 27) (by decide) (zdal_p dlA_Sorts_countTurned_56 (i := 16) rfl) ?_
            refine zr_imul (pc := 32) (zdal_p dlA_Sorts_countTurned_56 (i := 17) rfl) ?_
            refine zw_iload_n (pc := 33) (n := 2) (x := Int32.ofInt a1_) rfl (zdal_p dlA_Sorts_countTurned_56 (i := 18) rfl) ?_
            refine zr_iadd (pc := 34) (zdal_p dlA_Sorts_countTurned_56 (i := 19) rfl) ?_
            refine zw_aload_n (pc := 35) (n := 0) (x := (d_ + 12)) rfl (zdal_p dlA_Sorts_countTurned_56 (i := 20) rfl) ?_
            refine zw_iload_n (pc := 36) (n := 3) (x := Int32.ofInt u1_) rfl (zdal_p dlA_Sorts_countTurned_56 (i := 21) rfl) ?_
            refine zw_iload_n (pc := 37) (n := 2) (x := Int32.ofInt a1_) rfl (zdal_p dlA_Sorts_countTurned_56 (i := 22) rfl) ?_
            refine zk_callV hf_N2_.x (pc := 38) [.int (Int32.ofInt u1_), .int (Int32.ofInt a1_)] [.int (Int32.ofInt ((u1_ * 27) + a1_)), .ref (d_ + 21)] l_Sorts_93 (u_Sorts_markAt l d_ N2_ (hf_N2_.w hW) u1_ hu1_a hu1_b a1_ ha1_a ha1_b (show 0 ≤ u1_ by first | assumption | omega) (show u1_ ≤ 26 by first | assumption | omega) (show 0 ≤ a1_ by first | assumption | omega) (show a1_ ≤ 26 by first | assumption | omega)) rfl rfl ((hf_N2_.w hW).kr (o := 12) (by decide)) (by decide) (by decide) (Nat.le_of_ble_eq_true rfl) (zdal_p dlA_Sorts_countTurned_56 (i := 23) rfl) ?_
            rintro _ N11_ ⟨v12_, rfl, ⟨hv12_a, hv12_b⟩, hsN11_, hp0_N11_⟩
            obtain rfl := hsN11_.eq.symm
            replace hp0_N11_ : v12_ = ze N2_ (d_ + 22) (u1_ * 27 + a1_).toNat := hp0_N11_
            show zW l m_Sorts_countTurned (zn Mz + 0, zw Mz + 0) N2_ 41 [some (.ref (d_ + 12)), some (.int (Int32.ofInt a0_)), some (.int (Int32.ofInt a1_)), some (.int (Int32.ofInt u1_))] [.int (Int32.ofInt v12_), .int (Int32.ofInt ((u1_ * 27) + a1_)), .ref (d_ + 21)] _
            have hm_ := hp0_N11_
            have hq_ := hfl_.2 (u1_).toNat (by omega)
            rw [if_neg (by omega)] at hq_
            have hqb_ := gct_b T_ (gFn T_ (u1_).toNat) (gFn T_ (a1_).toNat) (g_).toNat
            rw [show 27 * (u1_).toNat + (a1_).toNat = (u1_ * 27 + a1_).toNat by omega] at hq_
            have hmb_ : v12_ ≤ 24 := by have e_ : v12_ = zRw d_ 22 N2_ (u1_ * 27 + a1_).toNat := hm_; omega
            refine zw_iconst (pc := 41) (v := Int32.ofInt 1) (by decide) (zdal_p dlA_Sorts_countTurned_57 (i := 0) rfl) ?_
            refine zr_iadd (pc := 42) (zdal_p dlA_Sorts_countTurned_57 (i := 1) rfl) ?_
            refine zk_st hf_N2_.x (pc := 43) (o := 22) (by decide) l_Sorts_40 ((hf_N2_.w hW).kr (o := 21) (by decide)) ((hf_N2_.w hW).lr (o := 21) (s := 0) (r := 22) (by decide)) ((hf_N2_.w hW).rr (o := 22) (t := 1) (n := 729) (by decide)) (by decide) (by omega) (by omega) (by decide) (Nat.le_of_ble_eq_true rfl) (zdal_p dlA_Sorts_countTurned_57 (i := 2) rfl) (fun N13_ hN13_ hsN13_ => ?_)
            have hf_N13_ : zFc d_ [] [] [] [22] Mz N13_ := hf_N2_.tr hsN13_ (by decide) (by decide) (by decide) (by decide)
            have hb0_N13_ : zFc d_ [] [] [] [22] Mz N13_ := hs3_.tr hsN13_ (by decide) (by decide) (by decide) (by decide)
            have eD12_7_N13_ : ze N13_ (d_ + 12) 7 = ze N2_ (d_ + 12) 7 := hsN13_.e (by decide)
            have c14_ : zFir T_ d_ N13_ := zFir.fr (hf_N2_.w hW) hsN13_ c7_ (by decide)
            have hfn_ := zFl2_s h27_ hfl_ (by omega) (by omega) p3_.1 hp_ (show _ = zRw d_ 22 N2_ _ from hm_) (zRw_w hN13_ ⟨by omega, by omega⟩)
            refine zr_iinc (pc := 46) (i := 3) (a := u1_) (n := 1) (L2 := [some (.ref (d_ + 12)), some (.int (Int32.ofInt a0_)), some (.int (Int32.ofInt a1_)), some (.int (Int32.ofInt (u1_ + 1)))]) rfl (by decide) rfl (zdal_p dlA_Sorts_countTurned_57 (i := 3) rfl) ?_
            refine zw_goto (pc := 49) (tgt := 2) (by decide) (zdal_p dlA_Sorts_countTurned_57 (i := 4) rfl) ?_
            exact ih_2 (u1_ + 1) (by omega) (by omega) N13_ hb0_N13_ (show 0 ≤ (u1_ + 1) by first | assumption | omega) (show (u1_ + 1) ≤ (gF T_).length by first | assumption | omega) (show zFl2 T_ (zRw d_ 22 N13_) a1_ g_ (u1_ + 1) by exact hfn_) (by omega)
        · skip
          have hp_ := ha19_0_hp0_N9_
          rw [hv2_, p4_, Int.toNat_natCast, Int.toNat_natCast] at hp_
          have hfn_ := zFl2_n hfl_ (by omega) p3_.1 hp_
          show zW l m_Sorts_countTurned (zn Mz + 0, zw Mz + 0) N2_ 22 [some (.ref (d_ + 12)), some (.int (Int32.ofInt a0_)), some (.int (Int32.ofInt a1_)), some (.int (Int32.ofInt u1_))] [.int (Int32.ofInt 0)] _
          refine zr_if_eq (pc := 22) (tgt := 46) ⟨(by decide), (by decide)⟩ (by decide) (zdal_p dlA_Sorts_countTurned_56 (i := 12) rfl) (fun hc_22 => ?_) (fun hc_22 => ?_)
          · skip
            refine zr_iinc (pc := 46) (i := 3) (a := u1_) (n := 1) (L2 := [some (.ref (d_ + 12)), some (.int (Int32.ofInt a0_)), some (.int (Int32.ofInt a1_)), some (.int (Int32.ofInt (u1_ + 1)))]) rfl (by decide) rfl (zdal_p dlA_Sorts_countTurned_57 (i := 3) rfl) ?_
            refine zw_goto (pc := 49) (tgt := 2) (by decide) (zdal_p dlA_Sorts_countTurned_57 (i := 4) rfl) ?_
            exact ih_2 (u1_ + 1) (by omega) (by omega) N2_ hs3_ (show 0 ≤ (u1_ + 1) by first | assumption | omega) (show (u1_ + 1) ≤ (gF T_).length by first | assumption | omega) (show zFl2 T_ (zRw d_ 22 N2_) a1_ g_ (u1_ + 1) by exact hfn_) (by omega)
          · skip
            exact absurd hc_22 (by decide)
  exact lp_2 _ 0 (by decide) (by decide) Mz zFc.rf (show 0 ≤ (0 : Int) by first | assumption | omega) (show (0 : Int) ≤ (gF T_).length by first | assumption | omega) (show zFl2 T_ (zRw d_ 22 Mz) a1_ g_ (0 : Int) by assumption) (Nat.lt_succ_self _)
set_option maxHeartbeats 4000000 in
theorem u_Sorts_fillTable (l : Launch) (d_ : Nat) (Mz : zMem) (hW : zKW d_ Mz) (T_ : zGT) (hT_ : T_ ∈ gTabs) (l_ : List Nat) (Kp_ : Nat) (hol_ : gOL T_ l_ Kp_ gKL) (p0_ : zTt T_ d_ Mz) (p1_ : zFir T_ d_ Mz) : zC l m_Sorts_fillTable 0 0 [.ref (d_ + 12)] Mz (zqcV d_ [] [] [] [22] Mz (fun N => zKm (gF T_).length (gmkI T_) d_ N)) := by
  refine zC_of (L0 := [some (.ref (d_ + 12)), none, none, none]) md_Sorts_fillTable (Nat.le_of_ble_eq_true rfl) rfl ?_ zQ0
  have hf : zFc d_ [] [] [] [22] Mz Mz := zFc.rf
  have r_D1_7 := ze_r Mz (d_ + 1) 7
  have r_D12_7 := ze_r Mz (d_ + 12) 7
  have hO_ := gTabs_ok T_ hT_
  have hG_ := hO_.1
  have hn24_ := hG_.2.1
  have hn1_ := hG_.1
  have h27_ := hol_.1.2
  have hfc_ := p1_.1
  have hsz_ := p0_.1
  refine zw_iconst (pc := 0) (v := Int32.ofInt 0) (by decide) (zdal_p dlA_Sorts_fillTable_52 (i := 0) rfl) ?_
  refine zw_istore_n (pc := 1) (i := 1) (L2 := [some (.ref (d_ + 12)), some (.int (Int32.ofInt 0)), none, none]) rfl (by decide) rfl (zdal_p dlA_Sorts_fillTable_52 (i := 1) rfl) ?_
  have lp_2 : ∀ (n : Nat) (u1_ : Int) (hu1_a : -2147483648 ≤ u1_) (hu1_b : u1_ < 2147483648) (N2_ : zMem) (hs3_ : zFc d_ [] [] [] [22] Mz N2_) (i4_ : 0 ≤ u1_) (i5_ : zFlA T_ (zRw d_ 22 N2_) u1_), ((gF T_).length - u1_).toNat < n → zW l m_Sorts_fillTable (zn Mz + 0, zw Mz + 0) N2_ 2 [some (.ref (d_ + 12)), some (.int (Int32.ofInt u1_)), none, none] [] (zqcV d_ [] [] [] [22] Mz (fun N => zKm (gF T_).length (gmkI T_) d_ N)) := by
    intro n
    induction n with
    | zero =>
      intro u1_ hu1_a hu1_b N2_ hs3_ i4_ i5_ h0
      exact absurd h0 (Nat.not_lt_zero _)
    | succ n ih_2 =>
      intro u1_ hu1_a hu1_b N2_ hs3_ i4_ i5_ hlt_2
      have hf_N2_ : zFc d_ [] [] [] [22] Mz N2_ := hf.tr hs3_ (by decide) (by decide) (by decide) (by decide)
      have eD1_7_N2_ : ze N2_ (d_ + 1) 7 = ze Mz (d_ + 1) 7 := hs3_.e (by decide)
      have eD12_7_N2_ : ze N2_ (d_ + 12) 7 = ze Mz (d_ + 12) 7 := hs3_.e (by decide)
      have c6_ : zTt T_ d_ N2_ := zTt.fr (hf.w hW) hs3_ p0_ (by decide)
      have c7_ : zFir T_ d_ N2_ := zFir.fr (hf.w hW) hs3_ p1_ (by decide)
      have hfa_ := (show zFlA T_ (zRw d_ 22 N2_) u1_ by assumption)
      refine zw_iload_n (pc := 2) (n := 1) (x := Int32.ofInt u1_) rfl (zdal_p dlA_Sorts_fillTable_52 (i := 2) rfl) ?_
      refine zw_aload_n (pc := 3) (n := 0) (x := (d_ + 12)) rfl (zdal_p dlA_Sorts_fillTable_52 (i := 3) rfl) ?_
      refine zk_getI (pc := 4) f_Sorts_83 rfl ((hf_N2_.w hW).kr (o := 12) (by decide)) (zdal_p dlA_Sorts_fillTable_52 (i := 4) rfl) ?_
      rw [hf_N2_.e (by decide)]
      refine zr_icmp_ge (pc := 7) (tgt := 143) ⟨hu1_a, hu1_b⟩ ⟨(ze_r Mz (d_ + 12) 7).1, (ze_r Mz (d_ + 12) 7).2⟩ (by decide) (zdal_p dlA_Sorts_fillTable_52 (i := 5) rfl) (fun hc_7 => ?_) (fun hc_7 => ?_)
      · skip
        exact zk_vret (pc := 143) rfl hf_N2_ (show zKm (gF T_).length (gmkI T_) d_ N2_ by exact ⟨by omega, fun i j hi hj => hfa_ i j hi hj (by omega)⟩) (zdal_p dlA_Sorts_fillTable_55 (i := 5) rfl)
      · skip
        refine zw_iconst (pc := 10) (v := Int32.ofInt 0) (by decide) (zdal_p dlA_Sorts_fillTable_52 (i := 6) rfl) ?_
        refine zw_istore_n (pc := 11) (i := 2) (L2 := [some (.ref (d_ + 12)), some (.int (Int32.ofInt u1_)), some (.int (Int32.ofInt 0)), none]) rfl (by decide) rfl (zdal_p dlA_Sorts_fillTable_52 (i := 7) rfl) ?_
        have lp_12 : ∀ (n : Nat) (u8_ : Int) (hu8_a : -2147483648 ≤ u8_) (hu8_b : u8_ < 2147483648) (N9_ : zMem) (hs10_ : zFc d_ [] [] [] [22] N2_ N9_) (i11_ : 0 ≤ u8_) (i12_ : zFl0 T_ (zRw d_ 22 N9_) u1_ u8_), ((gF T_).length - u8_).toNat < n → zW l m_Sorts_fillTable (zn Mz + 0, zw Mz + 0) N9_ 12 [some (.ref (d_ + 12)), some (.int (Int32.ofInt u1_)), some (.int (Int32.ofInt u8_)), none] [] (zqcV d_ [] [] [] [22] Mz (fun N => zKm (gF T_).length (gmkI T_) d_ N)) := by
          intro n
          induction n with
          | zero =>
            intro u8_ hu8_a hu8_b N9_ hs10_ i11_ i12_ h0
            exact absurd h0 (Nat.not_lt_zero _)
          | succ n ih_12 =>
            intro u8_ hu8_a hu8_b N9_ hs10_ i11_ i12_ hlt_12
            have hf_N9_ : zFc d_ [] [] [] [22] Mz N9_ := hf_N2_.tr hs10_ (by decide) (by decide) (by decide) (by decide)
            have hb0_N9_ : zFc d_ [] [] [] [22] Mz N9_ := hs3_.tr hs10_ (by decide) (by decide) (by decide) (by decide)
            have eD1_7_N9_ : ze N9_ (d_ + 1) 7 = ze N2_ (d_ + 1) 7 := hs10_.e (by decide)
            have eD12_7_N9_ : ze N9_ (d_ + 12) 7 = ze N2_ (d_ + 12) 7 := hs10_.e (by decide)
            have c13_ : zTt T_ d_ N9_ := zTt.fr (hf_N2_.w hW) hs10_ c6_ (by decide)
            have c14_ : zFir T_ d_ N9_ := zFir.fr (hf_N2_.w hW) hs10_ c7_ (by decide)
            have hf0_ := (show zFl0 T_ (zRw d_ 22 N9_) u1_ u8_ by assumption)
            refine zw_iload_n (pc := 12) (n := 2) (x := Int32.ofInt u8_) rfl (zdal_p dlA_Sorts_fillTable_52 (i := 8) rfl) ?_
            refine zw_aload_n (pc := 13) (n := 0) (x := (d_ + 12)) rfl (zdal_p dlA_Sorts_fillTable_52 (i := 9) rfl) ?_
            refine zk_getI (pc := 14) f_Sorts_83 rfl ((hf_N9_.w hW).kr (o := 12) (by decide)) (zdal_p dlA_Sorts_fillTable_52 (i := 10) rfl) ?_
            rw [hf_N9_.e (by decide)]
            refine zr_icmp_ge (pc := 17) (tgt := 40) ⟨hu8_a, hu8_b⟩ ⟨(ze_r Mz (d_ + 12) 7).1, (ze_r Mz (d_ + 12) 7).2⟩ (by decide) (zdal_p dlA_Sorts_fillTable_52 (i := 11) rfl) (fun hc_17 => ?_) (fun hc_17 => ?_)
            · skip
              refine zw_iconst (pc := 40) (v := Int32.ofInt 0) (by decide) (zdal_p dlA_Sorts_fillTable_52 (i := 23) rfl) ?_
              refine zw_istore_n (pc := 41) (i := 2) (L2 := [some (.ref (d_ + 12)), some (.int (Int32.ofInt u1_)), some (.int (Int32.ofInt 0)), none]) rfl (by decide) rfl (zdal_p dlA_Sorts_fillTable_53 (i := 0) rfl) ?_
              have lp_42 : ∀ (n : Nat) (u15_ : Int) (hu15_a : -2147483648 ≤ u15_) (hu15_b : u15_ < 2147483648) (N16_ : zMem) (hs17_ : zFc d_ [] [] [] [22] N9_ N16_) (i18_ : 0 ≤ u15_) (i19_ : u15_ ≤ gN T_) (i20_ : zFl2 T_ (zRw d_ 22 N16_) u1_ u15_ 0), (gN T_ - u15_).toNat < n → zW l m_Sorts_fillTable (zn Mz + 0, zw Mz + 0) N16_ 42 [some (.ref (d_ + 12)), some (.int (Int32.ofInt u1_)), some (.int (Int32.ofInt u15_)), none] [] (zqcV d_ [] [] [] [22] Mz (fun N => zKm (gF T_).length (gmkI T_) d_ N)) := by
                intro n
                induction n with
                | zero =>
                  intro u15_ hu15_a hu15_b N16_ hs17_ i18_ i19_ i20_ h0
                  exact absurd h0 (Nat.not_lt_zero _)
                | succ n ih_42 =>
                  intro u15_ hu15_a hu15_b N16_ hs17_ i18_ i19_ i20_ hlt_42
                  have hf_N16_ : zFc d_ [] [] [] [22] Mz N16_ := hf_N9_.tr hs17_ (by decide) (by decide) (by decide) (by decide)
                  have hb0_N16_ : zFc d_ [] [] [] [22] Mz N16_ := hb0_N9_.tr hs17_ (by decide) (by decide) (by decide) (by decide)
                  have eD1_7_N16_ : ze N16_ (d_ + 1) 7 = ze N9_ (d_ + 1) 7 := hs17_.e (by decide)
                  have eD12_7_N16_ : ze N16_ (d_ + 12) 7 = ze N9_ (d_ + 12) 7 := hs17_.e (by decide)
                  have c21_ : zTt T_ d_ N16_ := zTt.fr (hf_N9_.w hW) hs17_ c13_ (by decide)
                  have c22_ : zFir T_ d_ N16_ := zFir.fr (hf_N9_.w hW) hs17_ c14_ (by decide)
                  have hf2_ := (show zFl2 T_ (zRw d_ 22 N16_) u1_ u15_ 0 by assumption)
                  refine zw_iload_n (pc := 42) (n := 2) (x := Int32.ofInt u15_) rfl (zdal_p dlA_Sorts_fillTable_53 (i := 1) rfl) ?_
                  refine zw_aload_n (pc := 43) (n := 0) (x := (d_ + 12)) rfl (zdal_p dlA_Sorts_fillTable_53 (i := 2) rfl) ?_
                  refine zw_getF (pc := 44) f_Sorts_32 rfl ((hf_N16_.w hW).kr (o := 12) (by decide)) ((hf_N16_.w hW).lr (o := 12) (s := 0) (r := 1) (by decide)) (zdal_p dlA_Sorts_fillTable_53 (i := 3) rfl) ?_
                  refine zk_getI (pc := 47) f_Sorts_44 rfl ((hf_N16_.w hW).kr (o := 1) (by decide)) (zdal_p dlA_Sorts_fillTable_53 (i := 4) rfl) ?_
                  rw [hf_N16_.e (by decide)]
                  refine zr_icmp_ge (pc := 50) (tgt := 80) ⟨hu15_a, hu15_b⟩ ⟨(ze_r Mz (d_ + 1) 7).1, (ze_r Mz (d_ + 1) 7).2⟩ (by decide) (zdal_p dlA_Sorts_fillTable_53 (i := 5) rfl) (fun hc_50 => ?_) (fun hc_50 => ?_)
                  · skip
                    refine zw_iconst (pc := 80) (v := Int32.ofInt 0) (by decide) (zdal_p dlA_Sorts_fillTable_53 (i := 19) rfl) ?_
                    refine zw_istore_n (pc := 81) (i := 2) (L2 := [some (.ref (d_ + 12)), some (.int (Int32.ofInt u1_)), some (.int (Int32.ofInt 0)), none]) rfl (by decide) rfl (zdal_p dlA_Sorts_fillTable_53 (i := 20) rfl) ?_
                    have lp_82 : ∀ (n : Nat) (u23_ : Int) (hu23_a : -2147483648 ≤ u23_) (hu23_b : u23_ < 2147483648) (N24_ : zMem) (hs25_ : zFc d_ [] [] [] [22] N16_ N24_) (i26_ : 0 ≤ u23_) (i27_ : zFl9 T_ (zRw d_ 22 N24_) u1_ u23_), ((gF T_).length - u23_).toNat < n → zW l m_Sorts_fillTable (zn Mz + 0, zw Mz + 0) N24_ 82 [some (.ref (d_ + 12)), some (.int (Int32.ofInt u1_)), some (.int (Int32.ofInt u23_)), none] [] (zqcV d_ [] [] [] [22] Mz (fun N => zKm (gF T_).length (gmkI T_) d_ N)) := by
                      intro n
                      induction n with
                      | zero =>
                        intro u23_ hu23_a hu23_b N24_ hs25_ i26_ i27_ h0
                        exact absurd h0 (Nat.not_lt_zero _)
                      | succ n ih_82 =>
                        intro u23_ hu23_a hu23_b N24_ hs25_ i26_ i27_ hlt_82
                        have hf_N24_ : zFc d_ [] [] [] [22] Mz N24_ := hf_N16_.tr hs25_ (by decide) (by decide) (by decide) (by decide)
                        have hb0_N24_ : zFc d_ [] [] [] [22] Mz N24_ := hb0_N16_.tr hs25_ (by decide) (by decide) (by decide) (by decide)
                        have eD1_7_N24_ : ze N24_ (d_ + 1) 7 = ze N16_ (d_ + 1) 7 := hs25_.e (by decide)
                        have eD12_7_N24_ : ze N24_ (d_ + 12) 7 = ze N16_ (d_ + 12) 7 := hs25_.e (by decide)
                        have c28_ : zTt T_ d_ N24_ := zTt.fr (hf_N16_.w hW) hs25_ c21_ (by decide)
                        have c29_ : zFir T_ d_ N24_ := zFir.fr (hf_N16_.w hW) hs25_ c22_ (by decide)
                        have hf9_ := (show zFl9 T_ (zRw d_ 22 N24_) u1_ u23_ by assumption)
                        refine zw_iload_n (pc := 82) (n := 2) (x := Int32.ofInt u23_) rfl (zdal_p dlA_Sorts_fillTable_53 (i := 21) rfl) ?_
                        refine zw_aload_n (pc := 83) (n := 0) (x := (d_ + 12)) rfl (zdal_p dlA_Sorts_fillTable_53 (i := 22) rfl) ?_
                        refine zk_getI (pc := 84) f_Sorts_83 rfl ((hf_N24_.w hW).kr (o := 12) (by decide)) (zdal_p dlA_Sorts_fillTable_53 (i := 23) rfl) ?_
                        rw [hf_N24_.e (by decide)]
                        refine zr_icmp_ge (pc := 87) (tgt := 137) ⟨hu23_a, hu23_b⟩ ⟨(ze_r Mz (d_ + 12) 7).1, (ze_r Mz (d_ + 12) 7).2⟩ (by decide) (zdal_p dlA_Sorts_fillTable_54 (i := 0) rfl) (fun hc_87 => ?_) (fun hc_87 => ?_)
                        · skip
                          refine zr_iinc (pc := 137) (i := 1) (a := u1_) (n := 1) (L2 := [some (.ref (d_ + 12)), some (.int (Int32.ofInt (u1_ + 1))), some (.int (Int32.ofInt u23_)), none]) rfl (by decide) rfl (zdal_p dlA_Sorts_fillTable_55 (i := 3) rfl) ?_
                          refine zw_goto (pc := 140) (tgt := 2) (by decide) (zdal_p dlA_Sorts_fillTable_55 (i := 4) rfl) ?_
                          refine zW_le [some (.ref (d_ + 12)), some (.int (Int32.ofInt (u1_ + 1))), none, none] (⟨rfl, rfl, trivial⟩) ?_
                          exact ih_2 (u1_ + 1) (by omega) (by omega) N24_ hb0_N24_ (show 0 ≤ (u1_ + 1) by first | assumption | omega) (show zFlA T_ (zRw d_ 22 N24_) (u1_ + 1) by exact zFl9_e hf9_ (by omega)) (by omega)
                        · skip
                          refine zw_aload_n (pc := 90) (n := 0) (x := (d_ + 12)) rfl (zdal_p dlA_Sorts_fillTable_54 (i := 1) rfl) ?_
                          refine zw_getF (pc := 91) f_Sorts_26 rfl ((hf_N24_.w hW).kr (o := 12) (by decide)) ((hf_N24_.w hW).lr (o := 12) (s := 4) (r := 19) (by decide)) (zdal_p dlA_Sorts_fillTable_54 (i := 2) rfl) ?_
                          refine zw_iload_n (pc := 94) (n := 2) (x := Int32.ofInt u23_) rfl (zdal_p dlA_Sorts_fillTable_54 (i := 3) rfl) ?_
                          refine zk_at hf_N24_.x (pc := 95) l_Sorts_49 ((hf_N24_.w hW).kr (o := 19) (by decide)) ((hf_N24_.w hW).lr (o := 19) (s := 0) (r := 20) (by decide)) ((hf_N24_.w hW).rr (o := 20) (t := 1) (n := 27) (by decide)) (by decide) (by omega) (by omega) (by decide) (Nat.le_of_ble_eq_true rfl) (zdal_p dlA_Sorts_fillTable_54 (i := 4) rfl) (fun v30_ hv30_ hv30_a hv30_b => ?_)
                          rw [hf_N24_.r (by decide)] at hv30_
                          have hv3_ := hv30_
                          have hv4_ : v30_ = ((gFn T_ (u23_).toNat : Nat) : Int) := hv3_.trans (p1_.2 _ (by omega))
                          have hgm_ := (hO_.2.2.1.2.1 _ (gFn_m (T := T_) (i := (u23_).toNat) (by omega))).1
                          have hc_ := gS_b hO_ hgm_
                          have hcp_ := gcb_p hc_.2.2 hc_.2.1
                          have hkb_ := hol_.2.2.2.2.2.2.2.2.2 _ hgm_
                          refine zr_callS hf_N24_.x (pc := 98) [.int (Int32.ofInt v30_)] [] l_Sorts_78 (u_Integer_bitCount l d_ N24_ (hf_N24_.w hW) v30_ hv30_a hv30_b (show 0 ≤ v30_ by first | assumption | omega)) rfl rfl (by decide) (Nat.le_of_ble_eq_true rfl) (zdal_p dlA_Sorts_fillTable_54 (i := 5) rfl) ?_
                          rintro _ N31_ ⟨v32_, rfl, ⟨hv32_a, hv32_b⟩, hsN31_, ⟨hp0_N31_, hp1_N31_, hp2_N31_⟩⟩
                          obtain rfl := hsN31_.eq.symm
                          show zW l m_Sorts_fillTable (zn Mz + 0, zw Mz + 0) N24_ 101 [some (.ref (d_ + 12)), some (.int (Int32.ofInt u1_)), some (.int (Int32.ofInt u23_)), none] [.int (Int32.ofInt v32_)] _
                          have he_ := hp0_N31_
                          rw [hv4_, Int.toNat_natCast, hkb_] at he_
                          refine zw_istore_n (pc := 101) (i := 3) (L2 := [some (.ref (d_ + 12)), some (.int (Int32.ofInt u1_)), some (.int (Int32.ofInt u23_)), some (.int (Int32.ofInt v32_))]) rfl (by decide) rfl (zdal_p dlA_Sorts_fillTable_54 (i := 6) rfl) ?_
                          refine zw_aload_n (pc := 102) (n := 0) (x := (d_ + 12)) rfl (zdal_p dlA_Sorts_fillTable_54 (i := 7) rfl) ?_
                          refine zw_getF (pc := 103) f_Sorts_29 rfl ((hf_N24_.w hW).kr (o := 12) (by decide)) ((hf_N24_.w hW).lr (o := 12) (s := 5) (r := 21) (by decide)) (zdal_p dlA_Sorts_fillTable_54 (i := 8) rfl) ?_
                          refine zw_iload_n (pc := 106) (n := 2) (x := Int32.ofInt u23_) rfl (zdal_p dlA_Sorts_fillTable_54 (i := 9) rfl) ?_
                          refine zw_bipush (pc := 107) (v := Int32.ofInt 27) (by decide) (zdal_p dlA_Sorts_fillTable_54 (i := 10) rfl) ?_
                          refine zr_imul (pc := 109) (zdal_p dlA_Sorts_fillTable_54 (i := 11) rfl) ?_
                          refine zw_iload_n (pc := 110) (n := 1) (x := Int32.ofInt u1_) rfl (zdal_p dlA_Sorts_fillTable_54 (i := 12) rfl) ?_
                          refine zr_iadd (pc := 111) (zdal_p dlA_Sorts_fillTable_54 (i := 13) rfl) ?_
                          refine zw_iload_n (pc := 112) (n := 3) (x := Int32.ofInt v32_) rfl (zdal_p dlA_Sorts_fillTable_54 (i := 14) rfl) ?_
                          refine zr_if_le (pc := 113) (tgt := 127) ⟨hv32_a, hv32_b⟩ (by decide) (zdal_p dlA_Sorts_fillTable_54 (i := 15) rfl) (fun hc_113 => ?_) (fun hc_113 => ?_)
                          · skip
                            exfalso; omega
                          · skip
                            refine zw_aload_n (pc := 116) (n := 0) (x := (d_ + 12)) rfl (zdal_p dlA_Sorts_fillTable_54 (i := 16) rfl) ?_
                            refine zw_iload_n (pc := 117) (n := 2) (x := Int32.ofInt u23_) rfl (zdal_p dlA_Sorts_fillTable_54 (i := 17) rfl) ?_
                            refine zw_iload_n (pc := 118) (n := 1) (x := Int32.ofInt u1_) rfl (zdal_p dlA_Sorts_fillTable_54 (i := 18) rfl) ?_
                            refine zk_callV hf_N24_.x (pc := 119) [.int (Int32.ofInt u23_), .int (Int32.ofInt u1_)] [.int (Int32.ofInt ((u23_ * 27) + u1_)), .ref (d_ + 21)] l_Sorts_93 (u_Sorts_markAt l d_ N24_ (hf_N24_.w hW) u23_ hu23_a hu23_b u1_ hu1_a hu1_b (show 0 ≤ u23_ by first | assumption | omega) (show u23_ ≤ 26 by first | assumption | omega) (show 0 ≤ u1_ by first | assumption | omega) (show u1_ ≤ 26 by first | assumption | omega)) rfl rfl ((hf_N24_.w hW).kr (o := 12) (by decide)) (by decide) (by decide) (Nat.le_of_ble_eq_true rfl) (zdal_p dlA_Sorts_fillTable_54 (i := 19) rfl) ?_
                            rintro _ N33_ ⟨v34_, rfl, ⟨hv34_a, hv34_b⟩, hsN33_, hp0_N33_⟩
                            obtain rfl := hsN33_.eq.symm
                            replace hp0_N33_ : v34_ = ze N24_ (d_ + 22) (u23_ * 27 + u1_).toNat := hp0_N33_
                            show zW l m_Sorts_fillTable (zn Mz + 0, zw Mz + 0) N24_ 122 [some (.ref (d_ + 12)), some (.int (Int32.ofInt u1_)), some (.int (Int32.ofInt u23_)), some (.int (Int32.ofInt v32_))] [.int (Int32.ofInt v34_), .int (Int32.ofInt ((u23_ * 27) + u1_)), .ref (d_ + 21)] _
                            have hm_ := hp0_N33_
                            have hm9_ := hf9_.2 (u23_).toNat (by omega) (by omega)
                            have hmb_ := gct_b T_ (gFn T_ (u23_).toNat) (gFn T_ (u1_).toNat) (gN T_)
                            rw [← gct_e] at hmb_
                            rw [show (u23_ * 27 + u1_).toNat = 27 * (u23_).toNat + (u1_).toNat by omega] at hm_
                            have hm2_ : v34_ = ((gct T_ (gFn T_ (u23_).toNat) (gFn T_ (u1_).toNat) : Nat) : Int) := hm_.trans hm9_
                            have hmx_ : v34_ = zRw d_ 22 N24_ (u23_ * 27 + u1_).toNat := by rw [show (u23_ * 27 + u1_).toNat = 27 * (u23_).toNat + (u1_).toNat by omega]; exact hm_
                            obtain ⟨w_, hw_⟩ : ∃ w : Int, w = v34_ := ⟨_, rfl⟩
                            rw [← hw_] at hm2_ hm_
                            refine zw_iload_n (pc := 122) (n := 3) (x := Int32.ofInt v32_) rfl (zdal_p dlA_Sorts_fillTable_54 (i := 20) rfl) ?_
                            refine zr_idiv (pc := 123) ⟨by omega, by omega⟩ (by omega) (zdal_p dlA_Sorts_fillTable_54 (i := 21) rfl) ?_
                            have hr35_ := zquo_r v34_ v32_
                            have hdv_ := zquoK (a := w_) (b := v32_) (by omega) (by omega) (by omega)
                            rw [hw_] at hdv_
                            refine zw_goto (pc := 124) (tgt := 128) (by decide) (zdal_p dlA_Sorts_fillTable_54 (i := 22) rfl) ?_
                            refine zk_st hf_N24_.x (pc := 128) (o := 22) (by decide) l_Sorts_40 ((hf_N24_.w hW).kr (o := 21) (by decide)) ((hf_N24_.w hW).lr (o := 21) (s := 0) (r := 22) (by decide)) ((hf_N24_.w hW).rr (o := 22) (t := 1) (n := 729) (by decide)) (by decide) (by omega) (by omega) (by decide) (Nat.le_of_ble_eq_true rfl) (zdal_p dlA_Sorts_fillTable_55 (i := 0) rfl) (fun N36_ hN36_ hsN36_ => ?_)
                            have hf_N36_ : zFc d_ [] [] [] [22] Mz N36_ := hf_N24_.tr hsN36_ (by decide) (by decide) (by decide) (by decide)
                            have hb0_N36_ : zFc d_ [] [] [] [22] Mz N36_ := hb0_N24_.tr hsN36_ (by decide) (by decide) (by decide) (by decide)
                            have hb1_N36_ : zFc d_ [] [] [] [22] N16_ N36_ := hs25_.tr hsN36_ (by decide) (by decide) (by decide) (by decide)
                            have eD1_7_N36_ : ze N36_ (d_ + 1) 7 = ze N24_ (d_ + 1) 7 := hsN36_.e (by decide)
                            have eD12_7_N36_ : ze N36_ (d_ + 12) 7 = ze N24_ (d_ + 12) 7 := hsN36_.e (by decide)
                            have c37_ : zTt T_ d_ N36_ := zTt.fr (hf_N24_.w hW) hsN36_ c28_ (by decide)
                            have c38_ : zFir T_ d_ N36_ := zFir.fr (hf_N24_.w hW) hsN36_ c29_ (by decide)
                            have hs9_ := zFl9_s h27_ hol_ hf9_ (by omega) (by omega) (v := w_) (e := v32_) (by rw [hw_]; exact hmx_) he_ (by omega) (by rw [hw_]; exact hdv_) (zRw_w hN36_ ⟨by omega, by omega⟩)
                            refine zr_iinc (pc := 131) (i := 2) (a := u23_) (n := 1) (L2 := [some (.ref (d_ + 12)), some (.int (Int32.ofInt u1_)), some (.int (Int32.ofInt (u23_ + 1))), some (.int (Int32.ofInt v32_))]) rfl (by decide) rfl (zdal_p dlA_Sorts_fillTable_55 (i := 1) rfl) ?_
                            refine zw_goto (pc := 134) (tgt := 82) (by decide) (zdal_p dlA_Sorts_fillTable_55 (i := 2) rfl) ?_
                            refine zW_le [some (.ref (d_ + 12)), some (.int (Int32.ofInt u1_)), some (.int (Int32.ofInt (u23_ + 1))), none] (⟨rfl, rfl, rfl, trivial⟩) ?_
                            exact ih_82 (u23_ + 1) (by omega) (by omega) N36_ hb1_N36_ (show 0 ≤ (u23_ + 1) by first | assumption | omega) (show zFl9 T_ (zRw d_ 22 N36_) u1_ (u23_ + 1) by exact hs9_) (by omega)
                    exact lp_82 _ 0 (by decide) (by decide) N16_ zFc.rf (show 0 ≤ (0 : Int) by first | assumption | omega) (show zFl9 T_ (zRw d_ 22 N16_) u1_ (0 : Int) by exact zFl2_e hf2_ (by omega)) (Nat.lt_succ_self _)
                  · skip
                    refine zw_aload_n (pc := 53) (n := 0) (x := (d_ + 12)) rfl (zdal_p dlA_Sorts_fillTable_53 (i := 6) rfl) ?_
                    refine zw_aload_n (pc := 54) (n := 0) (x := (d_ + 12)) rfl (zdal_p dlA_Sorts_fillTable_53 (i := 7) rfl) ?_
                    refine zw_getF (pc := 55) f_Sorts_32 rfl ((hf_N16_.w hW).kr (o := 12) (by decide)) ((hf_N16_.w hW).lr (o := 12) (s := 0) (r := 1) (by decide)) (zdal_p dlA_Sorts_fillTable_53 (i := 8) rfl) ?_
                    refine zw_aload_n (pc := 58) (n := 0) (x := (d_ + 12)) rfl (zdal_p dlA_Sorts_fillTable_53 (i := 9) rfl) ?_
                    refine zw_getF (pc := 59) f_Sorts_26 rfl ((hf_N16_.w hW).kr (o := 12) (by decide)) ((hf_N16_.w hW).lr (o := 12) (s := 4) (r := 19) (by decide)) (zdal_p dlA_Sorts_fillTable_53 (i := 10) rfl) ?_
                    refine zw_iload_n (pc := 62) (n := 1) (x := Int32.ofInt u1_) rfl (zdal_p dlA_Sorts_fillTable_53 (i := 11) rfl) ?_
                    refine zk_at hf_N16_.x (pc := 63) l_Sorts_49 ((hf_N16_.w hW).kr (o := 19) (by decide)) ((hf_N16_.w hW).lr (o := 19) (s := 0) (r := 20) (by decide)) ((hf_N16_.w hW).rr (o := 20) (t := 1) (n := 27) (by decide)) (by decide) (by omega) (by omega) (by decide) (Nat.le_of_ble_eq_true rfl) (zdal_p dlA_Sorts_fillTable_53 (i := 12) rfl) (fun v39_ hv39_ hv39_a hv39_b => ?_)
                    rw [hf_N16_.r (by decide)] at hv39_
                    have hv1_ := hv39_
                    have hv2_ : v39_ = ((gFn T_ (u1_).toNat : Nat) : Int) := hv1_.trans (p1_.2 _ (by omega))
                    have hb_ := gS_b hO_ (hO_.2.2.1.2.1 _ (gFn_m (T := T_) (i := (u1_).toNat) (by omega))).1
                    refine zw_iload_n (pc := 66) (n := 2) (x := Int32.ofInt u15_) rfl (zdal_p dlA_Sorts_fillTable_53 (i := 13) rfl) ?_
                    refine zk_callV hf_N16_.x (pc := 67) [.int (Int32.ofInt v39_), .int (Int32.ofInt u15_)] [.ref (d_ + 12)] l_Sorts_86 (u_Group_turnAll l d_ N16_ (hf_N16_.w hW) v39_ hv39_a hv39_b u15_ hu15_a hu15_b T_ hT_ c21_ (show 0 ≤ v39_ by rw [hv2_]; omega) (show (v39_).toNat < 2 ^ gN T_ by rw [hv2_, Int.toNat_natCast]; exact hb_.1) (show 0 ≤ u15_ by first | assumption | omega) (show u15_ < gN T_ by first | assumption | omega)) rfl rfl ((hf_N16_.w hW).kr (o := 1) (by decide)) (by decide) (by decide) (Nat.le_of_ble_eq_true rfl) (zdal_p dlA_Sorts_fillTable_53 (i := 14) rfl) ?_
                    rintro _ N40_ ⟨v41_, rfl, ⟨hv41_a, hv41_b⟩, hsN40_, ⟨hp0_N40_, hp1_N40_, hp2_N40_⟩⟩
                    obtain rfl := hsN40_.eq.symm
                    show zW l m_Sorts_fillTable (zn Mz + 0, zw Mz + 0) N16_ 70 [some (.ref (d_ + 12)), some (.int (Int32.ofInt u1_)), some (.int (Int32.ofInt u15_)), none] [.int (Int32.ofInt v41_), .ref (d_ + 12)] _
                    have ht_ := hp0_N40_
                    rw [hv2_, Int.toNat_natCast] at ht_
                    refine zw_iload_n (pc := 70) (n := 1) (x := Int32.ofInt u1_) rfl (zdal_p dlA_Sorts_fillTable_53 (i := 15) rfl) ?_
                    refine zk_callV hf_N16_.x (pc := 71) [.int (Int32.ofInt v41_), .int (Int32.ofInt u1_)] [] l_Sorts_90 (u_Sorts_countTurned l d_ N16_ (hf_N16_.w hW) v41_ hv41_a hv41_b u1_ hu1_a hu1_b T_ hT_ l_ Kp_ hol_ u15_ c22_ (show 0 ≤ u1_ by first | assumption | omega) (show u1_ < (gF T_).length by first | assumption | omega) (show 0 ≤ u15_ ∧ u15_ ≤ 24 by first | assumption | omega) (show v41_ = (gtr T_ (gFn T_ (u1_).toNat) (u15_).toNat : Nat) by exact ht_) (show v41_ < 16777216 by omega) (show zFl2 T_ (zRw d_ 22 N16_) u1_ u15_ 0 by first | assumption | omega)) rfl rfl ((hf_N16_.w hW).kr (o := 12) (by decide)) (by decide) (by decide) (Nat.le_of_ble_eq_true rfl) (zdal_p dlA_Sorts_fillTable_53 (i := 16) rfl) ?_
                    rintro _ N42_ ⟨rfl, hsN42_, hp0_N42_⟩
                    replace hp0_N42_ : zFl2 T_ (zRw d_ 22 N42_) u1_ (u15_ + 1) 0 := hp0_N42_
                    have hf_N42_ : zFc d_ [] [] [] [22] Mz N42_ := hf_N16_.tr hsN42_ (by decide) (by decide) (by decide) (by decide)
                    have hb0_N42_ : zFc d_ [] [] [] [22] Mz N42_ := hb0_N16_.tr hsN42_ (by decide) (by decide) (by decide) (by decide)
                    have hb1_N42_ : zFc d_ [] [] [] [22] N9_ N42_ := hs17_.tr hsN42_ (by decide) (by decide) (by decide) (by decide)
                    have eD1_7_N42_ : ze N42_ (d_ + 1) 7 = ze N16_ (d_ + 1) 7 := hsN42_.e (by decide)
                    have eD12_7_N42_ : ze N42_ (d_ + 12) 7 = ze N16_ (d_ + 12) 7 := hsN42_.e (by decide)
                    have c44_ : zTt T_ d_ N42_ := zTt.fr (hf_N16_.w hW) hsN42_ c21_ (by decide)
                    have c45_ : zFir T_ d_ N42_ := zFir.fr (hf_N16_.w hW) hsN42_ c22_ (by decide)
                    show zW l m_Sorts_fillTable (zn Mz + 0, zw Mz + 0) N42_ 74 [some (.ref (d_ + 12)), some (.int (Int32.ofInt u1_)), some (.int (Int32.ofInt u15_)), none] [] _
                    have hs2_ := hp0_N42_
                    refine zr_iinc (pc := 74) (i := 2) (a := u15_) (n := 1) (L2 := [some (.ref (d_ + 12)), some (.int (Int32.ofInt u1_)), some (.int (Int32.ofInt (u15_ + 1))), none]) rfl (by decide) rfl (zdal_p dlA_Sorts_fillTable_53 (i := 17) rfl) ?_
                    refine zw_goto (pc := 77) (tgt := 42) (by decide) (zdal_p dlA_Sorts_fillTable_53 (i := 18) rfl) ?_
                    exact ih_42 (u15_ + 1) (by omega) (by omega) N42_ hb1_N42_ (show 0 ≤ (u15_ + 1) by first | assumption | omega) (show (u15_ + 1) ≤ gN T_ by first | assumption | omega) (show zFl2 T_ (zRw d_ 22 N42_) u1_ (u15_ + 1) 0 by exact hs2_) (by omega)
              exact lp_42 _ 0 (by decide) (by decide) N9_ zFc.rf (show 0 ≤ (0 : Int) by first | assumption | omega) (show (0 : Int) ≤ gN T_ by first | assumption | omega) (show zFl2 T_ (zRw d_ 22 N9_) u1_ (0 : Int) 0 by exact zFl0_e hf0_ (by omega)) (Nat.lt_succ_self _)
            · skip
              refine zw_aload_n (pc := 20) (n := 0) (x := (d_ + 12)) rfl (zdal_p dlA_Sorts_fillTable_52 (i := 12) rfl) ?_
              refine zw_getF (pc := 21) f_Sorts_29 rfl ((hf_N9_.w hW).kr (o := 12) (by decide)) ((hf_N9_.w hW).lr (o := 12) (s := 5) (r := 21) (by decide)) (zdal_p dlA_Sorts_fillTable_52 (i := 13) rfl) ?_
              refine zw_iload_n (pc := 24) (n := 2) (x := Int32.ofInt u8_) rfl (zdal_p dlA_Sorts_fillTable_52 (i := 14) rfl) ?_
              refine zw_bipush (pc := 25) (v := Int32.ofInt 27) (by decide) (zdal_p dlA_Sorts_fillTable_52 (i := 15) rfl) ?_
              refine zr_imul (pc := 27) (zdal_p dlA_Sorts_fillTable_52 (i := 16) rfl) ?_
              refine zw_iload_n (pc := 28) (n := 1) (x := Int32.ofInt u1_) rfl (zdal_p dlA_Sorts_fillTable_52 (i := 17) rfl) ?_
              refine zr_iadd (pc := 29) (zdal_p dlA_Sorts_fillTable_52 (i := 18) rfl) ?_
              refine zw_iconst (pc := 30) (v := Int32.ofInt 0) (by decide) (zdal_p dlA_Sorts_fillTable_52 (i := 19) rfl) ?_
              refine zk_st hf_N9_.x (pc := 31) (o := 22) (by decide) l_Sorts_40 ((hf_N9_.w hW).kr (o := 21) (by decide)) ((hf_N9_.w hW).lr (o := 21) (s := 0) (r := 22) (by decide)) ((hf_N9_.w hW).rr (o := 22) (t := 1) (n := 729) (by decide)) (by decide) (by omega) (by omega) (by decide) (Nat.le_of_ble_eq_true rfl) (zdal_p dlA_Sorts_fillTable_52 (i := 20) rfl) (fun N46_ hN46_ hsN46_ => ?_)
              have hf_N46_ : zFc d_ [] [] [] [22] Mz N46_ := hf_N9_.tr hsN46_ (by decide) (by decide) (by decide) (by decide)
              have hb0_N46_ : zFc d_ [] [] [] [22] Mz N46_ := hb0_N9_.tr hsN46_ (by decide) (by decide) (by decide) (by decide)
              have hb1_N46_ : zFc d_ [] [] [] [22] N2_ N46_ := hs10_.tr hsN46_ (by decide) (by decide) (by decide) (by decide)
              have eD1_7_N46_ : ze N46_ (d_ + 1) 7 = ze N9_ (d_ + 1) 7 := hsN46_.e (by decide)
              have eD12_7_N46_ : ze N46_ (d_ + 12) 7 = ze N9_ (d_ + 12) 7 := hsN46_.e (by decide)
              have c47_ : zTt T_ d_ N46_ := zTt.fr (hf_N9_.w hW) hsN46_ c13_ (by decide)
              have c48_ : zFir T_ d_ N46_ := zFir.fr (hf_N9_.w hW) hsN46_ c14_ (by decide)
              have hs0_ := zFl0_s h27_ hf0_ (by omega) (by omega) (zRw_w hN46_ ⟨by omega, by omega⟩)
              refine zr_iinc (pc := 34) (i := 2) (a := u8_) (n := 1) (L2 := [some (.ref (d_ + 12)), some (.int (Int32.ofInt u1_)), some (.int (Int32.ofInt (u8_ + 1))), none]) rfl (by decide) rfl (zdal_p dlA_Sorts_fillTable_52 (i := 21) rfl) ?_
              refine zw_goto (pc := 37) (tgt := 12) (by decide) (zdal_p dlA_Sorts_fillTable_52 (i := 22) rfl) ?_
              exact ih_12 (u8_ + 1) (by omega) (by omega) N46_ hb1_N46_ (show 0 ≤ (u8_ + 1) by first | assumption | omega) (show zFl0 T_ (zRw d_ 22 N46_) u1_ (u8_ + 1) by exact hs0_) (by omega)
        exact lp_12 _ 0 (by decide) (by decide) N2_ zFc.rf (show 0 ≤ (0 : Int) by first | assumption | omega) (show zFl0 T_ (zRw d_ 22 N2_) u1_ (0 : Int) by exact zFl0_0 hfa_) (Nat.lt_succ_self _)
  exact lp_2 _ 0 (by decide) (by decide) Mz zFc.rf (show 0 ≤ (0 : Int) by first | assumption | omega) (show zFlA T_ (zRw d_ 22 Mz) (0 : Int) by exact fun a b _ _ h => absurd h (by omega)) (Nat.lt_succ_self _)
