set_option maxHeartbeats 4000000 in
theorem u_Units_seekU (l : Launch) (d_ : Nat) (Mz : zMem) (hW : zKW d_ Mz) (T_ : zGT) (hT_ : T_ ∈ gTabs) (hAs_ : gAs T_) (hGr_ : gGr T_) (p0_ : zTt T_ d_ Mz) (p1_ : zFir T_ d_ Mz) (p2_ : zSbK T_ d_ Mz) (p3_ : zUW T_ d_ Mz) : zC l m_Units_seek 0 0 [.ref (d_ + 28)] Mz (zqcV d_ [] [] [(28, 3), (28, 4)] [11, 30, 32] Mz (fun N => (ze N (d_ + 28) 4 = 1 ∧ zUf (zUS T_) d_ N))) := by
  refine zC_of (L0 := [some (.ref (d_ + 28)), none]) md_Units_seek (Nat.le_of_ble_eq_true rfl) rfl ?_ zQ0
  have hf : zFc d_ [] [] [(28, 3), (28, 4)] [11, 30, 32] Mz Mz := zFc.rf
  have r_D12_7 := ze_r Mz (d_ + 12) 7
  have r_D28_3 := ze_r Mz (d_ + 28) 3
  have r_D28_4 := ze_r Mz (d_ + 28) 4
  have hO_ := gTabs_ok T_ hT_
  have hG_ := hO_.1
  have hn24_ := hG_.2.1
  have hn1_ := hG_.1
  have hfl_ := p1_.1
  obtain ⟨⟨hF1_, hF27_⟩, hAr_⟩ := id (gT_zTA hT_)
  have hp3_ : ze Mz (d_ + 28) 4 = 0 ∨ (ze Mz (d_ + 28) 4 = 1 ∧ zUf (zUS T_) d_ Mz) := p3_
  refine zw_aload_n (pc := 0) (n := 0) (x := (d_ + 28)) rfl (zdal_p dlB_Units_seek_80 (i := 0) rfl) ?_
  refine zk_getI (pc := 1) f_Units_27 rfl ((hf.w hW).kr (o := 28) (by decide)) (zdal_p dlB_Units_seek_80 (i := 1) rfl) ?_
  refine zr_if_eq (pc := 4) (tgt := 8) ⟨(ze_r Mz (d_ + 28) 4).1, (ze_r Mz (d_ + 28) 4).2⟩ (by decide) (zdal_p dlB_Units_seek_80 (i := 2) rfl) (fun hc_4 => ?_) (fun hc_4 => ?_)
  · skip
    refine zw_aload_n (pc := 8) (n := 0) (x := (d_ + 28)) rfl (zdal_p dlB_Units_seek_80 (i := 4) rfl) ?_
    refine zw_iconst (pc := 9) (v := Int32.ofInt 1) (by decide) (zdal_p dlB_Units_seek_80 (i := 5) rfl) ?_
    refine zk_putR (pc := 10) (o := 28) (by decide) f_Units_27 rfl rfl ((hf.w hW).kr (o := 28) (by decide)) ⟨by omega, by omega⟩ (z_narB (by omega)) (z_fitB (by omega)) (zdal_p dlB_Units_seek_80 (i := 6) rfl) (fun N1_ hsN1_ hvN1_ => ?_)
    have hf_N1_ : zFc d_ [] [] [(28, 3), (28, 4)] [11, 30, 32] Mz N1_ := hf.tr hsN1_ (by decide) (by decide) (by decide) (by decide)
    have eD12_7_N1_ : ze N1_ (d_ + 12) 7 = ze Mz (d_ + 12) 7 := hsN1_.e (by decide)
    have eD28_3_N1_ : ze N1_ (d_ + 28) 3 = ze Mz (d_ + 28) 3 := hsN1_.e (by decide)
    have rD28_4_N1_ := ze_r N1_ (d_ + 28) 4
    have c2_ : zTt T_ d_ N1_ := zTt.fr (hf.w hW) hsN1_ p0_ (by decide)
    have c3_ : zFir T_ d_ N1_ := zFir.fr (hf.w hW) hsN1_ p1_ (by decide)
    have c4_ : zSbK T_ d_ N1_ := zSbK.fr (hf.w hW) hsN1_ p2_ (by decide)
    refine zw_aload_n (pc := 13) (n := 0) (x := (d_ + 28)) rfl (zdal_p dlB_Units_seek_80 (i := 7) rfl) ?_
    refine zw_aload_n (pc := 14) (n := 0) (x := (d_ + 28)) rfl (zdal_p dlB_Units_seek_80 (i := 8) rfl) ?_
    refine zw_getF (pc := 15) f_Units_23 rfl ((hf_N1_.w hW).kr (o := 28) (by decide)) ((hf_N1_.w hW).lr (o := 28) (s := 0) (r := 12) (by decide)) (zdal_p dlB_Units_seek_80 (i := 9) rfl) ?_
    refine zk_getI (pc := 18) f_Units_35 rfl ((hf_N1_.w hW).kr (o := 12) (by decide)) (zdal_p dlB_Units_seek_80 (i := 10) rfl) ?_
    rw [hf_N1_.e (by decide)]
    refine zk_putR (pc := 21) (o := 28) (by decide) f_Units_31 rfl rfl ((hf_N1_.w hW).kr (o := 28) (by decide)) ⟨by omega, by omega⟩ rfl rfl (zdal_p dlB_Units_seek_80 (i := 11) rfl) (fun N5_ hsN5_ hvN5_ => ?_)
    have hf_N5_ : zFc d_ [] [] [(28, 3), (28, 4)] [11, 30, 32] Mz N5_ := hf_N1_.tr hsN5_ (by decide) (by decide) (by decide) (by decide)
    have eD12_7_N5_ : ze N5_ (d_ + 12) 7 = ze N1_ (d_ + 12) 7 := hsN5_.e (by decide)
    have rD28_3_N5_ := ze_r N5_ (d_ + 28) 3
    have eD28_4_N5_ : ze N5_ (d_ + 28) 4 = ze N1_ (d_ + 28) 4 := hsN5_.e (by decide)
    have c6_ : zTt T_ d_ N5_ := zTt.fr (hf_N1_.w hW) hsN5_ c2_ (by decide)
    have c7_ : zFir T_ d_ N5_ := zFir.fr (hf_N1_.w hW) hsN5_ c3_ (by decide)
    have c8_ : zSbK T_ d_ N5_ := zSbK.fr (hf_N1_.w hW) hsN5_ c4_ (by decide)
    refine zw_iconst (pc := 24) (v := Int32.ofInt 0) (by decide) (zdal_p dlB_Units_seek_80 (i := 12) rfl) ?_
    refine zw_istore_n (pc := 25) (i := 1) (L2 := [some (.ref (d_ + 28)), some (.int (Int32.ofInt 0))]) rfl (by decide) rfl (zdal_p dlB_Units_seek_80 (i := 13) rfl) ?_
    have lp_26 : ∀ (n : Nat) (u9_ : Int) (hu9_a : -2147483648 ≤ u9_) (hu9_b : u9_ < 2147483648) (N10_ : zMem) (hs11_ : zFc d_ [] [] [] [30] N5_ N10_) (i12_ : 0 ≤ u9_) (i13_ : u9_ ≤ ((gF T_).length : Int)) (i14_ : (∀ i : Nat, (i : Int) < u9_ → ze N10_ (d_ + 30) i = ((2 ^ i : Nat) : Int))), (((gF T_).length : Int) - u9_).toNat < n → zW l m_Units_seek (zn Mz + 0, zw Mz + 0) N10_ 26 [some (.ref (d_ + 28)), some (.int (Int32.ofInt u9_))] [] (zqcV d_ [] [] [(28, 3), (28, 4)] [11, 30, 32] Mz (fun N => (ze N (d_ + 28) 4 = 1 ∧ zUf (zUS T_) d_ N))) := by
      intro n
      induction n with
      | zero =>
        intro u9_ hu9_a hu9_b N10_ hs11_ i12_ i13_ i14_ h0
        exact absurd h0 (Nat.not_lt_zero _)
      | succ n ih_26 =>
        intro u9_ hu9_a hu9_b N10_ hs11_ i12_ i13_ i14_ hlt_26
        have hf_N10_ : zFc d_ [] [] [(28, 3), (28, 4)] [11, 30, 32] Mz N10_ := hf_N5_.tr hs11_ (by decide) (by decide) (by decide) (by decide)
        have eD12_7_N10_ : ze N10_ (d_ + 12) 7 = ze N5_ (d_ + 12) 7 := hs11_.e (by decide)
        have eD28_3_N10_ : ze N10_ (d_ + 28) 3 = ze N5_ (d_ + 28) 3 := hs11_.e (by decide)
        have eD28_4_N10_ : ze N10_ (d_ + 28) 4 = ze N5_ (d_ + 28) 4 := hs11_.e (by decide)
        have c15_ : zTt T_ d_ N10_ := zTt.fr (hf_N5_.w hW) hs11_ c6_ (by decide)
        have c16_ : zFir T_ d_ N10_ := zFir.fr (hf_N5_.w hW) hs11_ c7_ (by decide)
        have c17_ : zSbK T_ d_ N10_ := zSbK.fr (hf_N5_.w hW) hs11_ c8_ (by decide)
        have hrw_ := (show (∀ i : Nat, (i : Int) < u9_ → ze N10_ (d_ + 30) i = ((2 ^ i : Nat) : Int)) by first | with_reducible assumption | assumption)
        refine zw_iload_n (pc := 26) (n := 1) (x := Int32.ofInt u9_) rfl (zdal_p dlB_Units_seek_80 (i := 14) rfl) ?_
        refine zw_aload_n (pc := 27) (n := 0) (x := (d_ + 28)) rfl (zdal_p dlB_Units_seek_80 (i := 15) rfl) ?_
        refine zw_getF (pc := 28) f_Units_23 rfl ((hf_N10_.w hW).kr (o := 28) (by decide)) ((hf_N10_.w hW).lr (o := 28) (s := 0) (r := 12) (by decide)) (zdal_p dlB_Units_seek_80 (i := 16) rfl) ?_
        refine zk_getI (pc := 31) f_Units_35 rfl ((hf_N10_.w hW).kr (o := 12) (by decide)) (zdal_p dlB_Units_seek_80 (i := 17) rfl) ?_
        rw [hf_N10_.e (by decide)]
        refine zr_icmp_ge (pc := 34) (tgt := 54) ⟨hu9_a, hu9_b⟩ ⟨(ze_r Mz (d_ + 12) 7).1, (ze_r Mz (d_ + 12) 7).2⟩ (by decide) (zdal_p dlB_Units_seek_80 (i := 18) rfl) (fun hc_34 => ?_) (fun hc_34 => ?_)
        · skip
          refine zw_iconst (pc := 54) (v := Int32.ofInt 0) (by decide) (zdal_p dlB_Units_seek_81 (i := 4) rfl) ?_
          refine zw_istore_n (pc := 55) (i := 1) (L2 := [some (.ref (d_ + 28)), some (.int (Int32.ofInt 0))]) rfl (by decide) rfl (zdal_p dlB_Units_seek_81 (i := 5) rfl) ?_
          have hn1_ : zNw (fun x_ => x_ < 2 ^ (gF T_).length) d_ N10_ := zNw_1 hF27_ (by omega) (fun i_ hi_ => hrw_ i_ (by omega))
          have lp_56 : ∀ (n : Nat) (u18_ : Int) (hu18_a : -2147483648 ≤ u18_) (hu18_b : u18_ < 2147483648) (N19_ : zMem) (hs20_ : zFc d_ [] [] [(28, 3)] [11, 30, 32] N10_ N19_) (i21_ : 0 ≤ u18_) (i22_ : u18_ ≤ ((gF T_).length : Int)) (i23_ : (zNw (fun x_ => x_ < 2 ^ (gF T_).length ∧ ∀ i : Nat, (i : Int) < u18_ → zyC T_ i x_) d_ N19_)), (((gF T_).length : Int) - u18_).toNat < n → zW l m_Units_seek (zn Mz + 0, zw Mz + 0) N19_ 56 [some (.ref (d_ + 28)), some (.int (Int32.ofInt u18_))] [] (zqcV d_ [] [] [(28, 3), (28, 4)] [11, 30, 32] Mz (fun N => (ze N (d_ + 28) 4 = 1 ∧ zUf (zUS T_) d_ N))) := by
            intro n
            induction n with
            | zero =>
              intro u18_ hu18_a hu18_b N19_ hs20_ i21_ i22_ i23_ h0
              exact absurd h0 (Nat.not_lt_zero _)
            | succ n ih_56 =>
              intro u18_ hu18_a hu18_b N19_ hs20_ i21_ i22_ i23_ hlt_56
              have hf_N19_ : zFc d_ [] [] [(28, 3), (28, 4)] [11, 30, 32] Mz N19_ := hf_N10_.tr hs20_ (by decide) (by decide) (by decide) (by decide)
              have eD12_7_N19_ : ze N19_ (d_ + 12) 7 = ze N10_ (d_ + 12) 7 := hs20_.e (by decide)
              have rD28_3_N19_ := ze_r N19_ (d_ + 28) 3
              have eD28_4_N19_ : ze N19_ (d_ + 28) 4 = ze N10_ (d_ + 28) 4 := hs20_.e (by decide)
              have c24_ : zTt T_ d_ N19_ := zTt.fr (hf_N10_.w hW) hs20_ c15_ (by decide)
              have c25_ : zFir T_ d_ N19_ := zFir.fr (hf_N10_.w hW) hs20_ c16_ (by decide)
              have c26_ : zSbK T_ d_ N19_ := zSbK.fr (hf_N10_.w hW) hs20_ c17_ (by decide)
              have hz5_ := (show (zNw (fun x_ => x_ < 2 ^ (gF T_).length ∧ ∀ i : Nat, (i : Int) < u18_ → zyC T_ i x_) d_ N19_) by first | with_reducible assumption | assumption)
              refine zw_iload_n (pc := 56) (n := 1) (x := Int32.ofInt u18_) rfl (zdal_p dlB_Units_seek_81 (i := 6) rfl) ?_
              refine zw_aload_n (pc := 57) (n := 0) (x := (d_ + 28)) rfl (zdal_p dlB_Units_seek_81 (i := 7) rfl) ?_
              refine zw_getF (pc := 58) f_Units_23 rfl ((hf_N19_.w hW).kr (o := 28) (by decide)) ((hf_N19_.w hW).lr (o := 28) (s := 0) (r := 12) (by decide)) (zdal_p dlB_Units_seek_81 (i := 8) rfl) ?_
              refine zk_getI (pc := 61) f_Units_35 rfl ((hf_N19_.w hW).kr (o := 12) (by decide)) (zdal_p dlB_Units_seek_81 (i := 9) rfl) ?_
              rw [hf_N19_.e (by decide)]
              refine zr_icmp_ge (pc := 64) (tgt := 78) ⟨hu18_a, hu18_b⟩ ⟨(ze_r Mz (d_ + 12) 7).1, (ze_r Mz (d_ + 12) 7).2⟩ (by decide) (zdal_p dlB_Units_seek_81 (i := 10) rfl) (fun hc_64 => ?_) (fun hc_64 => ?_)
              · skip
                refine zw_aload_n (pc := 78) (n := 0) (x := (d_ + 28)) rfl (zdal_p dlB_Units_seek_81 (i := 16) rfl) ?_
                have hzs_ := hz5_.c (S' := zUS T_) (fun x_ => ⟨fun q_ => ⟨q_.1, fun i_ hi_ => q_.2 i_ (by omega)⟩, fun q_ => ⟨q_.1, fun i_ hi_ => q_.2 i_ (by omega)⟩⟩)
                refine zk_callV hf_N19_.x (pc := 79) [] [] l_Units_47 (u_Units_straightenU l d_ N19_ (hf_N19_.w hW) T_ hT_ (zUS T_) (fun x_ q_ => q_.1) c25_ hzs_) rfl rfl ((hf_N19_.w hW).kr (o := 28) (by decide)) (by decide) (by decide) (Nat.le_of_ble_eq_true rfl) (zdal_p dlB_Units_seek_81 (i := 17) rfl) ?_
                rintro _ N27_ ⟨rfl, hsN27_, hp0_N27_⟩
                replace hp0_N27_ : (zUf (zUS T_) d_ N27_) := hp0_N27_
                have hf_N27_ : zFc d_ [] [] [(28, 3), (28, 4)] [11, 30, 32] Mz N27_ := hf_N19_.tr hsN27_ (by decide) (by decide) (by decide) (by decide)
                have eD12_7_N27_ : ze N27_ (d_ + 12) 7 = ze N19_ (d_ + 12) 7 := hsN27_.e (by decide)
                have eD28_3_N27_ : ze N27_ (d_ + 28) 3 = ze N19_ (d_ + 28) 3 := hsN27_.e (by decide)
                have eD28_4_N27_ : ze N27_ (d_ + 28) 4 = ze N19_ (d_ + 28) 4 := hsN27_.e (by decide)
                have c29_ : zTt T_ d_ N27_ := zTt.fr (hf_N19_.w hW) hsN27_ c24_ (by decide)
                have c30_ : zFir T_ d_ N27_ := zFir.fr (hf_N19_.w hW) hsN27_ c25_ (by decide)
                have c31_ : zSbK T_ d_ N27_ := zSbK.fr (hf_N19_.w hW) hsN27_ c26_ (by decide)
                show zW l m_Units_seek (zn Mz + 0, zw Mz + 0) N27_ 82 [some (.ref (d_ + 28)), some (.int (Int32.ofInt u18_))] [] _
                have hus_ := hp0_N27_
                exact zk_vret (pc := 82) rfl hf_N27_ (show (ze N27_ (d_ + 28) 4 = 1 ∧ zUf (zUS T_) d_ N27_) by exact ⟨by omega, hus_⟩) (zdal_p dlB_Units_seek_81 (i := 18) rfl)
              · skip
                refine zw_aload_n (pc := 67) (n := 0) (x := (d_ + 28)) rfl (zdal_p dlB_Units_seek_81 (i := 11) rfl) ?_
                refine zw_iload_n (pc := 68) (n := 1) (x := Int32.ofInt u18_) rfl (zdal_p dlB_Units_seek_81 (i := 12) rfl) ?_
                refine zk_callV hf_N19_.x (pc := 69) [.int (Int32.ofInt u18_)] [] l_Units_44 (u_Units_narrowAtU l d_ N19_ (hf_N19_.w hW) u18_ hu18_a hu18_b T_ hT_ hAs_ hGr_ (fun x_ => x_ < 2 ^ (gF T_).length ∧ ∀ i : Nat, (i : Int) < u18_ → zyC T_ i x_) c24_ c25_ c26_ hz5_ (show 0 ≤ u18_ by first | with_reducible assumption | assumption | omega) (show u18_ < ((gF T_).length : Int) by first | with_reducible assumption | assumption | omega)) rfl rfl ((hf_N19_.w hW).kr (o := 28) (by decide)) (by decide) (by decide) (Nat.le_of_ble_eq_true rfl) (zdal_p dlB_Units_seek_81 (i := 13) rfl) ?_
                rintro _ N32_ ⟨rfl, hsN32_, hp0_N32_⟩
                replace hp0_N32_ : (zNw (fun x_ => (fun x_ => x_ < 2 ^ (gF T_).length ∧ ∀ i : Nat, (i : Int) < u18_ → zyC T_ i x_) x_ ∧ zyC T_ (u18_).toNat x_) d_ N32_) := hp0_N32_
                have hf_N32_ : zFc d_ [] [] [(28, 3), (28, 4)] [11, 30, 32] Mz N32_ := hf_N19_.tr hsN32_ (by decide) (by decide) (by decide) (by decide)
                have hb0_N32_ : zFc d_ [] [] [(28, 3)] [11, 30, 32] N10_ N32_ := hs20_.tr hsN32_ (by decide) (by decide) (by decide) (by decide)
                have eD12_7_N32_ : ze N32_ (d_ + 12) 7 = ze N19_ (d_ + 12) 7 := hsN32_.e (by decide)
                have rD28_3_N32_ := ze_r N32_ (d_ + 28) 3
                have eD28_4_N32_ : ze N32_ (d_ + 28) 4 = ze N19_ (d_ + 28) 4 := hsN32_.e (by decide)
                have c34_ : zTt T_ d_ N32_ := zTt.fr (hf_N19_.w hW) hsN32_ c24_ (by decide)
                have c35_ : zFir T_ d_ N32_ := zFir.fr (hf_N19_.w hW) hsN32_ c25_ (by decide)
                have c36_ : zSbK T_ d_ N32_ := zSbK.fr (hf_N19_.w hW) hsN32_ c26_ (by decide)
                show zW l m_Units_seek (zn Mz + 0, zw Mz + 0) N32_ 72 [some (.ref (d_ + 28)), some (.int (Int32.ofInt u18_))] [] _
                have hnn_ := (hp0_N32_).c (S' := (fun x_ => x_ < 2 ^ (gF T_).length ∧ ∀ i : Nat, (i : Int) < u18_ + 1 → zyC T_ i x_)) (fun x_ => ⟨fun q_ => ⟨q_.1.1, fun i_ hi_ => by by_cases g_ : (i_ : Int) < u18_; exact q_.1.2 i_ g_; (rw [show i_ = (u18_).toNat by omega]; exact q_.2)⟩, fun q_ => ⟨⟨q_.1, fun i_ hi_ => q_.2 i_ (by omega)⟩, q_.2 (u18_).toNat (by omega)⟩⟩)
                refine zr_iinc (pc := 72) (i := 1) (a := u18_) (n := 1) (L2 := [some (.ref (d_ + 28)), some (.int (Int32.ofInt (u18_ + 1)))]) rfl (by decide) rfl (zdal_p dlB_Units_seek_81 (i := 14) rfl) ?_
                refine zw_goto (pc := 75) (tgt := 56) (by decide) (zdal_p dlB_Units_seek_81 (i := 15) rfl) ?_
                exact ih_56 (u18_ + 1) (by omega) (by omega) N32_ hb0_N32_ (show 0 ≤ (u18_ + 1) by first | with_reducible assumption | assumption | omega) (show (u18_ + 1) ≤ ((gF T_).length : Int) by first | with_reducible assumption | assumption | omega) (show (zNw (fun x_ => x_ < 2 ^ (gF T_).length ∧ ∀ i : Nat, (i : Int) < (u18_ + 1) → zyC T_ i x_) d_ N32_) by exact hnn_) (by omega)
          exact lp_56 _ 0 (by decide) (by decide) N10_ zFc.rf (show 0 ≤ (0 : Int) by first | with_reducible assumption | assumption | omega) (show (0 : Int) ≤ ((gF T_).length : Int) by first | with_reducible assumption | assumption | omega) (show (zNw (fun x_ => x_ < 2 ^ (gF T_).length ∧ ∀ i : Nat, (i : Int) < (0 : Int) → zyC T_ i x_) d_ N10_) by exact hn1_.c (fun x_ => ⟨fun q_ => ⟨q_, fun i_ hi_ => absurd hi_ (by omega)⟩, fun q_ => q_.1⟩)) (Nat.lt_succ_self _)
        · skip
          refine zw_aload_n (pc := 37) (n := 0) (x := (d_ + 28)) rfl (zdal_p dlB_Units_seek_80 (i := 19) rfl) ?_
          refine zw_getF (pc := 38) f_Units_14 rfl ((hf_N10_.w hW).kr (o := 28) (by decide)) ((hf_N10_.w hW).lr (o := 28) (s := 1) (r := 29) (by decide)) (zdal_p dlB_Units_seek_80 (i := 20) rfl) ?_
          refine zw_iload_n (pc := 41) (n := 1) (x := Int32.ofInt u9_) rfl (zdal_p dlB_Units_seek_80 (i := 21) rfl) ?_
          refine zw_iconst (pc := 42) (v := Int32.ofInt 1) (by decide) (zdal_p dlB_Units_seek_80 (i := 22) rfl) ?_
          refine zw_iload_n (pc := 43) (n := 1) (x := Int32.ofInt u9_) rfl (zdal_p dlB_Units_seek_80 (i := 23) rfl) ?_
          refine zr_ishl (pc := 44) (zdal_p dlB_Units_seek_81 (i := 0) rfl) ?_
          have hr37_ := zshl_r 1 u9_
          refine zk_st hf_N10_.x (pc := 45) (o := 30) (by decide) l_Units_40 ((hf_N10_.w hW).kr (o := 29) (by decide)) ((hf_N10_.w hW).lr (o := 29) (s := 0) (r := 30) (by decide)) ((hf_N10_.w hW).rr (o := 30) (t := 1) (n := 27) (by decide)) (by decide) (by omega) (by omega) (by decide) (Nat.le_of_ble_eq_true rfl) (zdal_p dlB_Units_seek_81 (i := 1) rfl) (fun N38_ hN38_ hsN38_ => ?_)
          have hf_N38_ : zFc d_ [] [] [(28, 3), (28, 4)] [11, 30, 32] Mz N38_ := hf_N10_.tr hsN38_ (by decide) (by decide) (by decide) (by decide)
          have hb0_N38_ : zFc d_ [] [] [] [30] N5_ N38_ := hs11_.tr hsN38_ (by decide) (by decide) (by decide) (by decide)
          have eD12_7_N38_ : ze N38_ (d_ + 12) 7 = ze N10_ (d_ + 12) 7 := hsN38_.e (by decide)
          have eD28_3_N38_ : ze N38_ (d_ + 28) 3 = ze N10_ (d_ + 28) 3 := hsN38_.e (by decide)
          have eD28_4_N38_ : ze N38_ (d_ + 28) 4 = ze N10_ (d_ + 28) 4 := hsN38_.e (by decide)
          have c39_ : zTt T_ d_ N38_ := zTt.fr (hf_N10_.w hW) hsN38_ c15_ (by decide)
          have c40_ : zFir T_ d_ N38_ := zFir.fr (hf_N10_.w hW) hsN38_ c16_ (by decide)
          have c41_ : zSbK T_ d_ N38_ := zSbK.fr (hf_N10_.w hW) hsN38_ c17_ (by decide)
          have hst_ := zs_get hN38_ ⟨by omega, by omega⟩
          have hrn_ : (∀ i : Nat, (i : Int) < u9_ + 1 → ze N38_ (d_ + 30) i = ((2 ^ i : Nat) : Int)) := fun i_ hi_ => by by_cases g_ : (i_ : Int) = u9_; (rw [show i_ = (u9_).toNat by omega, hst_, zshl_nn (by omega) (by omega)]); (rw [zs_oth hN38_ (j := i_) (by omega)]; exact hrw_ i_ (by omega))
          refine zr_iinc (pc := 48) (i := 1) (a := u9_) (n := 1) (L2 := [some (.ref (d_ + 28)), some (.int (Int32.ofInt (u9_ + 1)))]) rfl (by decide) rfl (zdal_p dlB_Units_seek_81 (i := 2) rfl) ?_
          refine zw_goto (pc := 51) (tgt := 26) (by decide) (zdal_p dlB_Units_seek_81 (i := 3) rfl) ?_
          exact ih_26 (u9_ + 1) (by omega) (by omega) N38_ hb0_N38_ (show 0 ≤ (u9_ + 1) by first | with_reducible assumption | assumption | omega) (show (u9_ + 1) ≤ ((gF T_).length : Int) by first | with_reducible assumption | assumption | omega) (show (∀ i : Nat, (i : Int) < (u9_ + 1) → ze N38_ (d_ + 30) i = ((2 ^ i : Nat) : Int)) by exact hrn_) (by omega)
    exact lp_26 _ 0 (by decide) (by decide) N5_ zFc.rf (show 0 ≤ (0 : Int) by first | with_reducible assumption | assumption | omega) (show (0 : Int) ≤ ((gF T_).length : Int) by first | with_reducible assumption | assumption | omega) (show (∀ i : Nat, (i : Int) < (0 : Int) → ze N5_ (d_ + 30) i = ((2 ^ i : Nat) : Int)) by exact fun i_ hi_ => absurd hi_ (by omega)) (Nat.lt_succ_self _)
  · skip
    exact zk_vret (pc := 7) rfl hf (show (ze Mz (d_ + 28) 4 = 1 ∧ zUf (zUS T_) d_ Mz) by exact hp3_.resolve_left (by omega)) (zdal_p dlB_Units_seek_80 (i := 3) rfl)
set_option maxHeartbeats 4000000 in
theorem u_Units_totalU (l : Launch) (d_ : Nat) (Mz : zMem) (hW : zKW d_ Mz) (p0_ : 0 ≤ ze Mz (d_ + 28) 3 ∧ ze Mz (d_ + 28) 3 ≤ 27) : zC l m_Units_total 0 0 [.ref (d_ + 28)] Mz (zqcI d_ [] [] [] [] Mz (fun v N => v = ((2 ^ (ze Mz (d_ + 28) 3).toNat : Nat) : Int) ∧ 0 ≤ v ∧ v ≤ 134217728)) := by
  refine zC_of (L0 := [some (.ref (d_ + 28))]) md_Units_total (Nat.le_of_ble_eq_true rfl) rfl ?_ zQ0
  have hf : zFc d_ [] [] [] [] Mz Mz := zFc.rf
  have r_D28_3 := ze_r Mz (d_ + 28) 3
  have hz_ := zshl_nn (k := ze Mz (d_ + 28) 3) (by omega) (by omega)
  have hp_ : 2 ^ (ze Mz (d_ + 28) 3).toNat ≤ 134217728 := zp27l (by omega)
  refine zw_iconst (pc := 0) (v := Int32.ofInt 1) (by decide) (zdal_p dlB_Units_total_95 (i := 0) rfl) ?_
  refine zw_aload_n (pc := 1) (n := 0) (x := (d_ + 28)) rfl (zdal_p dlB_Units_total_95 (i := 1) rfl) ?_
  refine zk_getI (pc := 2) f_Units_31 rfl ((hf.w hW).kr (o := 28) (by decide)) (zdal_p dlB_Units_total_95 (i := 2) rfl) ?_
  refine zr_ishl (pc := 5) (zdal_p dlB_Units_total_95 (i := 3) rfl) ?_
  have hr1_ := zshl_r 1 (ze Mz (d_ + 28) 3)
  exact zk_iret (pc := 6) (ty := .int) rfl rfl ⟨by omega, by omega⟩ hf ⟨(show (zshl 1 (ze Mz (d_ + 28) 3)) = ((2 ^ (ze Mz (d_ + 28) 3).toNat : Nat) : Int) by exact hz_), (show 0 ≤ (zshl 1 (ze Mz (d_ + 28) 3)) ∧ (zshl 1 (ze Mz (d_ + 28) 3)) ≤ 134217728 by exact zcast_c hz_ hp_)⟩ (zdal_p dlB_Units_total_95 (i := 4) rfl)
set_option maxHeartbeats 4000000 in
theorem u_Units_signsOfU (l : Launch) (d_ : Nat) (Mz : zMem) (hW : zKW d_ Mz) (a0_ : Int) (ha0_a : -2147483648 ≤ a0_) (ha0_b : a0_ < 2147483648) (T_ : zGT) (hT_ : T_ ∈ gTabs) (S_ : Nat → Prop) (p0_ : zFir T_ d_ Mz) (p1_ : zUf S_ d_ Mz) (p2_ : 0 ≤ a0_) (p3_ : a0_ < 134217728) : zC l m_Units_signsOf 0 0 [.ref (d_ + 28), .int (Int32.ofInt a0_)] Mz (zqcI d_ [] [] [] [] Mz (fun v N => (0 ≤ v ∧ v < 134217728) ∧ (∀ s : Nat, s < (gF T_).length → ((v).toNat.testBit s = true ↔ (zUk d_ Mz (a0_).toNat).testBit ((gF T_).length - 1 - s) = true)))) := by
  refine zC_of (L0 := [some (.ref (d_ + 28)), some (.int (Int32.ofInt a0_)), none, none, none]) md_Units_signsOf (Nat.le_of_ble_eq_true rfl) rfl ?_ zQ0
  have hf : zFc d_ [] [] [] [] Mz Mz := zFc.rf
  have r_D12_7 := ze_r Mz (d_ + 12) 7
  have r_D28_3 := ze_r Mz (d_ + 28) 3
  have hO_ := gTabs_ok T_ hT_
  have hG_ := hO_.1
  have hn24_ := hG_.2.1
  have hn1_ := hG_.1
  have hfl_ := p0_.1
  obtain ⟨⟨hF1_, hF27_⟩, hAr_⟩ := id (gT_zTA hT_)
  have hm_ := p1_.1.1
  refine zw_iconst (pc := 0) (v := Int32.ofInt 0) (by decide) (zdal_p dlB_Units_signsOf_98 (i := 0) rfl) ?_
  refine zw_istore_n (pc := 1) (i := 2) (L2 := [some (.ref (d_ + 28)), some (.int (Int32.ofInt a0_)), some (.int (Int32.ofInt 0)), none, none]) rfl (by decide) rfl (zdal_p dlB_Units_signsOf_98 (i := 1) rfl) ?_
  refine zw_iconst (pc := 2) (v := Int32.ofInt 0) (by decide) (zdal_p dlB_Units_signsOf_98 (i := 2) rfl) ?_
  refine zw_istore_n (pc := 3) (i := 3) (L2 := [some (.ref (d_ + 28)), some (.int (Int32.ofInt a0_)), some (.int (Int32.ofInt 0)), some (.int (Int32.ofInt 0)), none]) rfl (by decide) rfl (zdal_p dlB_Units_signsOf_98 (i := 3) rfl) ?_
  have lp_4 : ∀ (n : Nat) (u1_ : Int) (hu1_a : -2147483648 ≤ u1_) (hu1_b : u1_ < 2147483648) (u2_ : Int) (hu2_a : -2147483648 ≤ u2_) (hu2_b : u2_ < 2147483648) (i3_ : 0 ≤ u2_) (i4_ : u2_ ≤ ze Mz (d_ + 28) 3) (i5_ : zkr (fun i_ => (a0_).toNat.testBit ((ze Mz (d_ + 28) 3).toNat - 1 - i_)) (zub d_ Mz) u1_ u2_), (ze Mz (d_ + 28) 3 - u2_).toNat < n → zW l m_Units_signsOf (zn Mz + 0, zw Mz + 0) Mz 4 [some (.ref (d_ + 28)), some (.int (Int32.ofInt a0_)), some (.int (Int32.ofInt u1_)), some (.int (Int32.ofInt u2_)), none] [] (zqcI d_ [] [] [] [] Mz (fun v N => (0 ≤ v ∧ v < 134217728) ∧ (∀ s : Nat, s < (gF T_).length → ((v).toNat.testBit s = true ↔ (zUk d_ Mz (a0_).toNat).testBit ((gF T_).length - 1 - s) = true)))) := by
    intro n
    induction n with
    | zero =>
      intro u1_ hu1_a hu1_b u2_ hu2_a hu2_b i3_ i4_ i5_ h0
      exact absurd h0 (Nat.not_lt_zero _)
    | succ n ih_4 =>
      intro u1_ hu1_a hu1_b u2_ hu2_a hu2_b i3_ i4_ i5_ hlt_4
      have hkr_ := (show zkr (fun i_ => (a0_).toNat.testBit ((ze Mz (d_ + 28) 3).toNat - 1 - i_)) (zub d_ Mz) u1_ u2_ by first | with_reducible assumption | assumption)
      refine zw_iload_n (pc := 4) (n := 3) (x := Int32.ofInt u2_) rfl (zdal_p dlB_Units_signsOf_98 (i := 4) rfl) ?_
      refine zw_aload_n (pc := 5) (n := 0) (x := (d_ + 28)) rfl (zdal_p dlB_Units_signsOf_98 (i := 5) rfl) ?_
      refine zk_getI (pc := 6) f_Units_31 rfl ((hf.w hW).kr (o := 28) (by decide)) (zdal_p dlB_Units_signsOf_98 (i := 6) rfl) ?_
      refine zr_icmp_ge (pc := 9) (tgt := 44) ⟨hu2_a, hu2_b⟩ ⟨(ze_r Mz (d_ + 28) 3).1, (ze_r Mz (d_ + 28) 3).2⟩ (by decide) (zdal_p dlB_Units_signsOf_98 (i := 7) rfl) (fun hc_9 => ?_) (fun hc_9 => ?_)
      · skip
        refine zw_iconst (pc := 44) (v := Int32.ofInt 0) (by decide) (zdal_p dlB_Units_signsOf_99 (i := 2) rfl) ?_
        refine zw_istore_n (pc := 45) (i := 3) (L2 := [some (.ref (d_ + 28)), some (.int (Int32.ofInt a0_)), some (.int (Int32.ofInt u1_)), some (.int (Int32.ofInt 0)), none]) rfl (by decide) rfl (zdal_p dlB_Units_signsOf_99 (i := 3) rfl) ?_
        refine zw_iconst (pc := 46) (v := Int32.ofInt 0) (by decide) (zdal_p dlB_Units_signsOf_99 (i := 4) rfl) ?_
        refine zw_istore (pc := 47) (i := 4) (L2 := [some (.ref (d_ + 28)), some (.int (Int32.ofInt a0_)), some (.int (Int32.ofInt u1_)), some (.int (Int32.ofInt 0)), some (.int (Int32.ofInt 0))]) (by decide) rfl (zdal_p dlB_Units_signsOf_99 (i := 5) rfl) ?_
        have hkb_ := hkr_.2
        obtain ⟨kk_, hkk_, hkx_⟩ : ∃ k_ : Int, k_ = ze Mz (d_ + 28) 3 ∧ zkr (fun i_ => (a0_).toNat.testBit ((ze Mz (d_ + 28) 3).toNat - 1 - i_)) (zub d_ Mz) u1_ k_ := ⟨_, (by omega), hkr_⟩
        rw [hkk_] at hkx_
        have hrow_ : (u1_).toNat = zUk d_ Mz (a0_).toNat := (congrArg Int.toNat hkx_.1).trans (Int.toNat_natCast _)
        have lp_49 : ∀ (n : Nat) (u6_ : Int) (hu6_a : -2147483648 ≤ u6_) (hu6_b : u6_ < 2147483648) (u7_ : Int) (hu7_a : -2147483648 ≤ u7_) (hu7_b : u7_ < 2147483648) (i8_ : 0 ≤ u7_) (i9_ : u7_ ≤ ((gF T_).length : Int)) (i10_ : zsgs (gF T_).length (u1_).toNat u6_ u7_), (((gF T_).length : Int) - u7_).toNat < n → zW l m_Units_signsOf (zn Mz + 0, zw Mz + 0) Mz 49 [some (.ref (d_ + 28)), some (.int (Int32.ofInt a0_)), some (.int (Int32.ofInt u1_)), some (.int (Int32.ofInt u6_)), some (.int (Int32.ofInt u7_))] [] (zqcI d_ [] [] [] [] Mz (fun v N => (0 ≤ v ∧ v < 134217728) ∧ (∀ s : Nat, s < (gF T_).length → ((v).toNat.testBit s = true ↔ (zUk d_ Mz (a0_).toNat).testBit ((gF T_).length - 1 - s) = true)))) := by
          intro n
          induction n with
          | zero =>
            intro u6_ hu6_a hu6_b u7_ hu7_a hu7_b i8_ i9_ i10_ h0
            exact absurd h0 (Nat.not_lt_zero _)
          | succ n ih_49 =>
            intro u6_ hu6_a hu6_b u7_ hu7_a hu7_b i8_ i9_ i10_ hlt_49
            have hsg_ := (show zsgs (gF T_).length (u1_).toNat u6_ u7_ by first | with_reducible assumption | assumption)
            have hsb_ := hsg_.1
            refine zw_iload (pc := 49) (i := 4) (x := Int32.ofInt u7_) rfl (zdal_p dlB_Units_signsOf_99 (i := 6) rfl) ?_
            refine zw_aload_n (pc := 51) (n := 0) (x := (d_ + 28)) rfl (zdal_p dlB_Units_signsOf_99 (i := 7) rfl) ?_
            refine zw_getF (pc := 52) f_Units_23 rfl ((hf.w hW).kr (o := 28) (by decide)) ((hf.w hW).lr (o := 28) (s := 0) (r := 12) (by decide)) (zdal_p dlB_Units_signsOf_99 (i := 8) rfl) ?_
            refine zk_getI (pc := 55) f_Units_35 rfl ((hf.w hW).kr (o := 12) (by decide)) (zdal_p dlB_Units_signsOf_99 (i := 9) rfl) ?_
            refine zr_icmp_ge (pc := 58) (tgt := 85) ⟨hu7_a, hu7_b⟩ ⟨(ze_r Mz (d_ + 12) 7).1, (ze_r Mz (d_ + 12) 7).2⟩ (by decide) (zdal_p dlB_Units_signsOf_99 (i := 10) rfl) (fun hc_58 => ?_) (fun hc_58 => ?_)
            · skip
              refine zw_iload_n (pc := 85) (n := 3) (x := Int32.ofInt u6_) rfl (zdal_p dlB_Units_signsOf_100 (i := 1) rfl) ?_
              exact zk_iret (pc := 86) (ty := .int) rfl rfl ⟨by omega, by omega⟩ hf ⟨(show (0 ≤ u6_ ∧ u6_ < 134217728) by exact hsg_.1), (show (∀ s : Nat, s < (gF T_).length → ((u6_).toNat.testBit s = true ↔ (zUk d_ Mz (a0_).toNat).testBit ((gF T_).length - 1 - s) = true)) by exact fun s_ hs_ => by rw [hsg_.2 s_, hrow_, show (((gF T_).length : Int) - 1 - (s_ : Int)).toNat = (gF T_).length - 1 - s_ by omega]; exact ⟨fun q_ => q_.2, fun q_ => ⟨by omega, q_⟩⟩)⟩ (zdal_p dlB_Units_signsOf_100 (i := 2) rfl)
            · skip
              refine zw_iload_n (pc := 61) (n := 2) (x := Int32.ofInt u1_) rfl (zdal_p dlB_Units_signsOf_99 (i := 11) rfl) ?_
              refine zw_aload_n (pc := 62) (n := 0) (x := (d_ + 28)) rfl (zdal_p dlB_Units_signsOf_99 (i := 12) rfl) ?_
              refine zw_iload (pc := 63) (i := 4) (x := Int32.ofInt u7_) rfl (zdal_p dlB_Units_signsOf_99 (i := 13) rfl) ?_
              refine zk_callV hf.x (pc := 65) [.int (Int32.ofInt u7_)] [.int (Int32.ofInt u1_)] l_Units_80 (u_Units_bitOfU l d_ Mz (hf.w hW) u7_ hu7_a hu7_b T_ hT_ p0_ (show 0 ≤ u7_ by first | with_reducible assumption | assumption | omega) (show u7_ < ((gF T_).length : Int) by first | with_reducible assumption | assumption | omega)) rfl rfl ((hf.w hW).kr (o := 28) (by decide)) (by decide) (by decide) (Nat.le_of_ble_eq_true rfl) (zdal_p dlB_Units_signsOf_99 (i := 14) rfl) ?_
              rintro _ N11_ ⟨v12_, rfl, ⟨hv12_a, hv12_b⟩, hsN11_, ⟨hp0_N11_, hp1_N11_, hp2_N11_⟩⟩
              obtain rfl := hsN11_.eq.symm
              show zW l m_Units_signsOf (zn Mz + 0, zw Mz + 0) Mz 68 [some (.ref (d_ + 28)), some (.int (Int32.ofInt a0_)), some (.int (Int32.ofInt u1_)), some (.int (Int32.ofInt u6_)), some (.int (Int32.ofInt u7_))] [.int (Int32.ofInt v12_), .int (Int32.ofInt u1_)] _
              have hbo_ := hp0_N11_
              refine zr_iand (pc := 68) (zdal_p dlB_Units_signsOf_99 (i := 15) rfl) ?_
              have hr13_ := zand_r u1_ v12_
              have hbt_ := zubt (F := (gF T_).length) (s := u7_) hkb_ hF27_ ⟨by omega, by omega⟩ hbo_ rfl
              refine zr_if_eq (pc := 69) (tgt := 79) ⟨(by omega), (by omega)⟩ (by decide) (zdal_p dlB_Units_signsOf_99 (i := 16) rfl) (fun hc_69 => ?_) (fun hc_69 => ?_)
              · skip
                refine zr_iinc (pc := 79) (i := 4) (a := u7_) (n := 1) (L2 := [some (.ref (d_ + 28)), some (.int (Int32.ofInt a0_)), some (.int (Int32.ofInt u1_)), some (.int (Int32.ofInt u6_)), some (.int (Int32.ofInt (u7_ + 1)))]) rfl (by decide) rfl (zdal_p dlB_Units_signsOf_99 (i := 23) rfl) ?_
                refine zw_goto (pc := 82) (tgt := 49) (by decide) (zdal_p dlB_Units_signsOf_100 (i := 0) rfl) ?_
                have hsx_ : zsgs (gF T_).length (u1_).toNat u6_ (u7_ + 1) := by first | exact hsn_ | exact zsgs_0 hsg_ (by omega) (hbt_.mp (by omega))
                exact ih_49 u6_ hu6_a hu6_b (u7_ + 1) (by omega) (by omega) (show 0 ≤ (u7_ + 1) by first | with_reducible assumption | assumption | omega) (show (u7_ + 1) ≤ ((gF T_).length : Int) by first | with_reducible assumption | assumption | omega) (show zsgs (gF T_).length (u1_).toNat u6_ (u7_ + 1) by exact hsx_) (by omega)
              · skip
                refine zw_iload_n (pc := 72) (n := 3) (x := Int32.ofInt u6_) rfl (zdal_p dlB_Units_signsOf_99 (i := 17) rfl) ?_
                refine zw_iconst (pc := 73) (v := Int32.ofInt 1) (by decide) (zdal_p dlB_Units_signsOf_99 (i := 18) rfl) ?_
                refine zw_iload (pc := 74) (i := 4) (x := Int32.ofInt u7_) rfl (zdal_p dlB_Units_signsOf_99 (i := 19) rfl) ?_
                refine zr_ishl (pc := 76) (zdal_p dlB_Units_signsOf_99 (i := 20) rfl) ?_
                have hr14_ := zshl_r 1 u7_
                refine zr_ior (pc := 77) (zdal_p dlB_Units_signsOf_99 (i := 21) rfl) ?_
                have hr15_ := zor_r u6_ (zshl 1 u7_)
                have hbs_ : (u1_).toNat.testBit (((gF T_).length : Int) - 1 - u7_).toNat = true := by cases hz_ : (u1_).toNat.testBit (((gF T_).length : Int) - 1 - u7_).toNat; exact absurd (hbt_.mpr hz_) (by omega); rfl
                have hsn_ := zsgs_1 hsg_ (by omega) (by omega) hbs_
                refine zw_istore_n (pc := 78) (i := 3) (L2 := [some (.ref (d_ + 28)), some (.int (Int32.ofInt a0_)), some (.int (Int32.ofInt u1_)), some (.int (Int32.ofInt (zor u6_ (zshl 1 u7_)))), some (.int (Int32.ofInt u7_))]) rfl (by decide) rfl (zdal_p dlB_Units_signsOf_99 (i := 22) rfl) ?_
                refine zr_iinc (pc := 79) (i := 4) (a := u7_) (n := 1) (L2 := [some (.ref (d_ + 28)), some (.int (Int32.ofInt a0_)), some (.int (Int32.ofInt u1_)), some (.int (Int32.ofInt (zor u6_ (zshl 1 u7_)))), some (.int (Int32.ofInt (u7_ + 1)))]) rfl (by decide) rfl (zdal_p dlB_Units_signsOf_99 (i := 23) rfl) ?_
                refine zw_goto (pc := 82) (tgt := 49) (by decide) (zdal_p dlB_Units_signsOf_100 (i := 0) rfl) ?_
                have hsx_ : zsgs (gF T_).length (u1_).toNat (zor u6_ (zshl 1 u7_)) (u7_ + 1) := by first | exact hsn_ | exact zsgs_0 hsg_ (by omega) (hbt_.mp (by omega))
                exact ih_49 (zor u6_ (zshl 1 u7_)) (by omega) (by omega) (u7_ + 1) (by omega) (by omega) (show 0 ≤ (u7_ + 1) by first | with_reducible assumption | assumption | omega) (show (u7_ + 1) ≤ ((gF T_).length : Int) by first | with_reducible assumption | assumption | omega) (show zsgs (gF T_).length (u1_).toNat (zor u6_ (zshl 1 u7_)) (u7_ + 1) by exact hsx_) (by omega)
        exact lp_49 _ 0 (by decide) (by decide) 0 (by decide) (by decide) (show 0 ≤ (0 : Int) by first | with_reducible assumption | assumption | omega) (show (0 : Int) ≤ ((gF T_).length : Int) by first | with_reducible assumption | assumption | omega) (show zsgs (gF T_).length (u1_).toNat (0 : Int) (0 : Int) by exact zsgs_z) (Nat.lt_succ_self _)
      · skip
        refine zw_iload_n (pc := 12) (n := 1) (x := Int32.ofInt a0_) rfl (zdal_p dlB_Units_signsOf_98 (i := 8) rfl) ?_
        refine zw_aload_n (pc := 13) (n := 0) (x := (d_ + 28)) rfl (zdal_p dlB_Units_signsOf_98 (i := 9) rfl) ?_
        refine zk_getI (pc := 14) f_Units_31 rfl ((hf.w hW).kr (o := 28) (by decide)) (zdal_p dlB_Units_signsOf_98 (i := 10) rfl) ?_
        refine zw_iconst (pc := 17) (v := Int32.ofInt 1) (by decide) (zdal_p dlB_Units_signsOf_98 (i := 11) rfl) ?_
        refine zr_isub (pc := 18) (zdal_p dlB_Units_signsOf_98 (i := 12) rfl) ?_
        refine zw_iload_n (pc := 19) (n := 3) (x := Int32.ofInt u2_) rfl (zdal_p dlB_Units_signsOf_98 (i := 13) rfl) ?_
        refine zr_isub (pc := 20) (zdal_p dlB_Units_signsOf_98 (i := 14) rfl) ?_
        refine zr_callS hf.x (pc := 21) [.int (Int32.ofInt a0_), .int (Int32.ofInt (((ze Mz (d_ + 28) 3) - 1) - u2_))] [] l_Units_69 (u_T_isIn l d_ Mz (hf.w hW) a0_ ha0_a ha0_b (((ze Mz (d_ + 28) 3) - 1) - u2_) (by omega) (by omega) (show 0 ≤ a0_ by first | with_reducible assumption | assumption | omega) (show a0_ < 2147483648 by first | with_reducible assumption | assumption | omega) (show 0 ≤ (((ze Mz (d_ + 28) 3) - 1) - u2_) by first | with_reducible assumption | assumption | omega) (show (((ze Mz (d_ + 28) 3) - 1) - u2_) < 31 by first | with_reducible assumption | assumption | omega)) rfl rfl (by decide) (Nat.le_of_ble_eq_true rfl) (zdal_p dlB_Units_signsOf_98 (i := 15) rfl) ?_
        rintro _ N16_ ⟨v17_, rfl, ⟨hv17_a, hv17_b⟩, hsN16_, hp0_N16_⟩
        obtain rfl := hsN16_.eq.symm
        replace hp0_N16_ : ((v17_ = 1 ∧ zbt a0_ (((ze Mz (d_ + 28) 3) - 1) - u2_)) ∨ (v17_ = 0 ∧ ¬ zbt a0_ (((ze Mz (d_ + 28) 3) - 1) - u2_))) := hp0_N16_
        rcases hp0_N16_ with ⟨rfl, ha21_0_hp0_N16_⟩ | ⟨rfl, ha21_0_hp0_N16_⟩
        · skip
          have hbt1_ : (fun i_ => (a0_).toNat.testBit ((ze Mz (d_ + 28) 3).toNat - 1 - i_)) (u2_).toNat = true := by have hz_ := ha21_0_hp0_N16_; unfold zbt at hz_; show (a0_).toNat.testBit ((ze Mz (d_ + 28) 3).toNat - 1 - (u2_).toNat) = true; rw [show (ze Mz (d_ + 28) 3).toNat - 1 - (u2_).toNat = (ze Mz (d_ + 28) 3 - 1 - u2_).toNat by omega]; exact hz_
          show zW l m_Units_signsOf (zn Mz + 0, zw Mz + 0) Mz 24 [some (.ref (d_ + 28)), some (.int (Int32.ofInt a0_)), some (.int (Int32.ofInt u1_)), some (.int (Int32.ofInt u2_)), none] [.int (Int32.ofInt 1)] _
          refine zr_if_eq (pc := 24) (tgt := 38) ⟨(by decide), (by decide)⟩ (by decide) (zdal_p dlB_Units_signsOf_98 (i := 16) rfl) (fun hc_24 => ?_) (fun hc_24 => ?_)
          · skip
            exact absurd hc_24 (by decide)
          · skip
            refine zw_iload_n (pc := 27) (n := 2) (x := Int32.ofInt u1_) rfl (zdal_p dlB_Units_signsOf_98 (i := 17) rfl) ?_
            refine zw_aload_n (pc := 28) (n := 0) (x := (d_ + 28)) rfl (zdal_p dlB_Units_signsOf_98 (i := 18) rfl) ?_
            refine zw_getF (pc := 29) f_Units_14 rfl ((hf.w hW).kr (o := 28) (by decide)) ((hf.w hW).lr (o := 28) (s := 1) (r := 29) (by decide)) (zdal_p dlB_Units_signsOf_98 (i := 19) rfl) ?_
            refine zw_iload_n (pc := 32) (n := 3) (x := Int32.ofInt u2_) rfl (zdal_p dlB_Units_signsOf_98 (i := 20) rfl) ?_
            refine zk_at hf.x (pc := 33) l_Units_57 ((hf.w hW).kr (o := 29) (by decide)) ((hf.w hW).lr (o := 29) (s := 0) (r := 30) (by decide)) ((hf.w hW).rr (o := 30) (t := 1) (n := 27) (by decide)) (by decide) (by omega) (by omega) (by decide) (Nat.le_of_ble_eq_true rfl) (zdal_p dlB_Units_signsOf_98 (i := 21) rfl) (fun v18_ hv18_ hv18_a hv18_b => ?_)
            have hrg_ := p1_.1.2.1 (u2_).toNat (by omega)
            rw [← hv18_] at hrg_
            have hzu_ : zub d_ Mz (u2_).toNat = (v18_).toNat := by rw [hv18_]; rfl
            refine zr_ixor (pc := 36) (zdal_p dlB_Units_signsOf_98 (i := 22) rfl) ?_
            have hr19_ := zxor_r u1_ v18_
            have hkn_ := zkr_1 hkr_ (by omega) hbt1_ hrg_ hzu_
            refine zw_istore_n (pc := 37) (i := 2) (L2 := [some (.ref (d_ + 28)), some (.int (Int32.ofInt a0_)), some (.int (Int32.ofInt (zxor u1_ v18_))), some (.int (Int32.ofInt u2_)), none]) rfl (by decide) rfl (zdal_p dlB_Units_signsOf_98 (i := 23) rfl) ?_
            refine zr_iinc (pc := 38) (i := 3) (a := u2_) (n := 1) (L2 := [some (.ref (d_ + 28)), some (.int (Int32.ofInt a0_)), some (.int (Int32.ofInt (zxor u1_ v18_))), some (.int (Int32.ofInt (u2_ + 1))), none]) rfl (by decide) rfl (zdal_p dlB_Units_signsOf_99 (i := 0) rfl) ?_
            refine zw_goto (pc := 41) (tgt := 4) (by decide) (zdal_p dlB_Units_signsOf_99 (i := 1) rfl) ?_
            have hkx_ : zkr (fun i_ => (a0_).toNat.testBit ((ze Mz (d_ + 28) 3).toNat - 1 - i_)) (zub d_ Mz) (zxor u1_ v18_) (u2_ + 1) := by first | exact hkn_ | exact zkr_0 hkr_ (by omega) hbt0_
            exact ih_4 (zxor u1_ v18_) (by omega) (by omega) (u2_ + 1) (by omega) (by omega) (show 0 ≤ (u2_ + 1) by first | with_reducible assumption | assumption | omega) (show (u2_ + 1) ≤ ze Mz (d_ + 28) 3 by first | with_reducible assumption | assumption | omega) (show zkr (fun i_ => (a0_).toNat.testBit ((ze Mz (d_ + 28) 3).toNat - 1 - i_)) (zub d_ Mz) (zxor u1_ v18_) (u2_ + 1) by exact hkx_) (by omega)
        · skip
          have hbt0_ : (fun i_ => (a0_).toNat.testBit ((ze Mz (d_ + 28) 3).toNat - 1 - i_)) (u2_).toNat = false := by have hz_ := ha21_0_hp0_N16_; unfold zbt at hz_; show (a0_).toNat.testBit ((ze Mz (d_ + 28) 3).toNat - 1 - (u2_).toNat) = false; rw [show (ze Mz (d_ + 28) 3).toNat - 1 - (u2_).toNat = (ze Mz (d_ + 28) 3 - 1 - u2_).toNat by omega]; exact Bool.eq_false_iff.mpr hz_
          show zW l m_Units_signsOf (zn Mz + 0, zw Mz + 0) Mz 24 [some (.ref (d_ + 28)), some (.int (Int32.ofInt a0_)), some (.int (Int32.ofInt u1_)), some (.int (Int32.ofInt u2_)), none] [.int (Int32.ofInt 0)] _
          refine zr_if_eq (pc := 24) (tgt := 38) ⟨(by decide), (by decide)⟩ (by decide) (zdal_p dlB_Units_signsOf_98 (i := 16) rfl) (fun hc_24 => ?_) (fun hc_24 => ?_)
          · skip
            refine zr_iinc (pc := 38) (i := 3) (a := u2_) (n := 1) (L2 := [some (.ref (d_ + 28)), some (.int (Int32.ofInt a0_)), some (.int (Int32.ofInt u1_)), some (.int (Int32.ofInt (u2_ + 1))), none]) rfl (by decide) rfl (zdal_p dlB_Units_signsOf_99 (i := 0) rfl) ?_
            refine zw_goto (pc := 41) (tgt := 4) (by decide) (zdal_p dlB_Units_signsOf_99 (i := 1) rfl) ?_
            have hkx_ : zkr (fun i_ => (a0_).toNat.testBit ((ze Mz (d_ + 28) 3).toNat - 1 - i_)) (zub d_ Mz) u1_ (u2_ + 1) := by first | exact hkn_ | exact zkr_0 hkr_ (by omega) hbt0_
            exact ih_4 u1_ hu1_a hu1_b (u2_ + 1) (by omega) (by omega) (show 0 ≤ (u2_ + 1) by first | with_reducible assumption | assumption | omega) (show (u2_ + 1) ≤ ze Mz (d_ + 28) 3 by first | with_reducible assumption | assumption | omega) (show zkr (fun i_ => (a0_).toNat.testBit ((ze Mz (d_ + 28) 3).toNat - 1 - i_)) (zub d_ Mz) u1_ (u2_ + 1) by exact hkx_) (by omega)
          · skip
            exact absurd hc_24 (by decide)
  exact lp_4 _ 0 (by decide) (by decide) 0 (by decide) (by decide) (show 0 ≤ (0 : Int) by first | with_reducible assumption | assumption | omega) (show (0 : Int) ≤ ze Mz (d_ + 28) 3 by first | with_reducible assumption | assumption | omega) (show zkr (fun i_ => (a0_).toNat.testBit ((ze Mz (d_ + 28) 3).toNat - 1 - i_)) (zub d_ Mz) (0 : Int) (0 : Int) by exact zkr_z) (Nat.lt_succ_self _)
