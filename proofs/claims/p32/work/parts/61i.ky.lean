set_option maxHeartbeats 4000000 in
theorem u_Reader_readBehindX (l : Launch) (d_ : Nat) (Mz : zMem) (hW : zKW d_ Mz) : zC l m_Reader_readBehind 0 0 [.ref 4, .ref (d_ + 33)] Mz (zqcI d_ [(1, 2), (1, 3), (1, 4), (1, 5), (4, 2), (4, 3)] [] [(33, 2), (33, 3), (33, 4), (33, 5), (33, 6)] [25, 27] Mz (fun v N => ((v = 0 ∨ v = 1)))) := by
  refine zC_of (L0 := [some (.ref 4), some (.ref (d_ + 33)), none]) md_Reader_readBehind (Nat.le_of_ble_eq_true rfl) rfl ?_ zQ0
  have hf : zFc d_ [(1, 2), (1, 3), (1, 4), (1, 5), (4, 2), (4, 3)] [] [(33, 2), (33, 3), (33, 4), (33, 5), (33, 6)] [25, 27] Mz Mz := zFc.rf
  refine zw_iconst (pc := 0) (v := Int32.ofInt 0) (by decide) (zdal_p dlA_Reader_readBehind_131 (i := 0) rfl) ?_
  refine zw_istore_n (pc := 1) (i := 2) (L2 := [some (.ref 4), some (.ref (d_ + 33)), some (.int (Int32.ofInt 0))]) rfl (by decide) rfl (zdal_p dlA_Reader_readBehind_131 (i := 1) rfl) ?_
  have lp_2 : ∀ (n : Nat) (u1_ : Int) (hu1_a : -2147483648 ≤ u1_) (hu1_b : u1_ < 2147483648) (N2_ : zMem) (hs3_ : zFc d_ [(1, 2), (1, 3), (1, 4), (1, 5)] [] [(33, 2), (33, 3), (33, 4), (33, 5), (33, 6)] [25, 27] Mz N2_) (i4_ : 0 ≤ u1_), (30 + 1 - u1_).toNat < n → zW l m_Reader_readBehind (zn Mz + 0, zw Mz + 0) N2_ 2 [some (.ref 4), some (.ref (d_ + 33)), some (.int (Int32.ofInt u1_))] [] (zqcI d_ [(1, 2), (1, 3), (1, 4), (1, 5), (4, 2), (4, 3)] [] [(33, 2), (33, 3), (33, 4), (33, 5), (33, 6)] [25, 27] Mz (fun v N => ((v = 0 ∨ v = 1)))) := by
    intro n
    induction n with
    | zero =>
      intro u1_ hu1_a hu1_b N2_ hs3_ i4_ h0
      exact absurd h0 (Nat.not_lt_zero _)
    | succ n ih_2 =>
      intro u1_ hu1_a hu1_b N2_ hs3_ i4_ hlt_2
      have hf_N2_ : zFc d_ [(1, 2), (1, 3), (1, 4), (1, 5), (4, 2), (4, 3)] [] [(33, 2), (33, 3), (33, 4), (33, 5), (33, 6)] [25, 27] Mz N2_ := hf.tr hs3_ (by decide) (by decide) (by decide) (by decide)
      refine zw_iload_n (pc := 2) (n := 2) (x := Int32.ofInt u1_) rfl (zdal_p dlA_Reader_readBehind_131 (i := 2) rfl) ?_
      refine zw_bipush (pc := 3) (v := Int32.ofInt 30) (by decide) (zdal_p dlA_Reader_readBehind_131 (i := 3) rfl) ?_
      refine zr_icmp_gt (pc := 5) (tgt := 120) ⟨hu1_a, hu1_b⟩ ⟨(by decide), (by decide)⟩ (by decide) (zdal_p dlA_Reader_readBehind_131 (i := 4) rfl) (fun hc_5 => ?_) (fun hc_5 => ?_)
      · skip
        refine zw_aload_n (pc := 120) (n := 0) (x := 4) rfl (zdal_p dlA_Reader_readBehind_133 (i := 8) rfl) ?_
        refine zw_iconst (pc := 121) (v := Int32.ofInt 2) (by decide) (zdal_p dlA_Reader_readBehind_133 (i := 9) rfl) ?_
        refine zk_callV hf_N2_.x (pc := 122) [.int (Int32.ofInt 2)] [] l_Reader_41 (u_Reader_refuseX l d_ N2_ (hf_N2_.w hW) 2 (by decide) (by decide)) rfl rfl ((hf_N2_.w hW).ka (o := 4) (by decide)) (by decide) (by decide) (Nat.le_of_ble_eq_true rfl) (zdal_p dlA_Reader_readBehind_133 (i := 10) rfl) ?_
        rintro _ N5_ ⟨v6_, rfl, ⟨hv6_a, hv6_b⟩, hsN5_, hp0_N5_⟩
        replace hp0_N5_ : (v6_ = 0 ∨ v6_ = 1) := hp0_N5_
        have hf_N5_ : zFc d_ [(1, 2), (1, 3), (1, 4), (1, 5), (4, 2), (4, 3)] [] [(33, 2), (33, 3), (33, 4), (33, 5), (33, 6)] [25, 27] Mz N5_ := hf_N2_.tr hsN5_ (by decide) (by decide) (by decide) (by decide)
        show zW l m_Reader_readBehind (zn Mz + 0, zw Mz + 0) N5_ 125 [some (.ref 4), some (.ref (d_ + 33)), some (.int (Int32.ofInt u1_))] [.int (Int32.ofInt v6_)] _
        exact zk_iret (pc := 125) (ty := .boolean) rfl (z_narB (by (exact hp0_N5_))) ⟨by (exact hv6_a), by (exact hv6_b)⟩ hf_N5_ (show (v6_ = 0 ∨ v6_ = 1) by first | with_reducible assumption | assumption | omega) (zdal_p dlA_Reader_readBehind_133 (i := 11) rfl)
      · skip
        refine zw_aload_n (pc := 8) (n := 0) (x := 4) rfl (zdal_p dlA_Reader_readBehind_131 (i := 5) rfl) ?_
        refine zw_getF (pc := 9) f_Reader_15 rfl ((hf_N2_.w hW).ka (o := 4) (by decide)) ((hf_N2_.w hW).la (o := 4) (s := 0) (r := 1) (by decide)) (zdal_p dlA_Reader_readBehind_131 (i := 6) rfl) ?_
        refine zw_bipush (pc := 12) (v := Int32.ofInt 94) (by decide) (zdal_p dlA_Reader_readBehind_131 (i := 7) rfl) ?_
        refine zk_callV hf_N2_.x (pc := 14) [.int (Int32.ofInt 94)] [] l_Reader_37 (u_Tokens_isSignX l d_ N2_ (hf_N2_.w hW) 94 (by decide) (by decide)) rfl rfl ((hf_N2_.w hW).ka (o := 1) (by decide)) (by decide) (by decide) (Nat.le_of_ble_eq_true rfl) (zdal_p dlA_Reader_readBehind_131 (i := 8) rfl) ?_
        rintro _ N7_ ⟨v8_, rfl, ⟨hv8_a, hv8_b⟩, hsN7_, hp0_N7_⟩
        obtain rfl := hsN7_.eq.symm
        replace hp0_N7_ : (v8_ = 0 ∨ v8_ = 1) := hp0_N7_
        show zW l m_Reader_readBehind (zn Mz + 0, zw Mz + 0) N2_ 17 [some (.ref 4), some (.ref (d_ + 33)), some (.int (Int32.ofInt u1_))] [.int (Int32.ofInt v8_)] _
        refine zr_if_eq (pc := 17) (tgt := 73) ⟨hv8_a, hv8_b⟩ (by decide) (zdal_p dlA_Reader_readBehind_131 (i := 9) rfl) (fun hc_17 => ?_) (fun hc_17 => ?_)
        · skip
          refine zw_aload_n (pc := 73) (n := 1) (x := (d_ + 33)) rfl (zdal_p dlA_Reader_readBehind_132 (i := 10) rfl) ?_
          refine zk_callV hf_N2_.x (pc := 74) [] [] l_Reader_182 (u_Calc_negateX l d_ N2_ (hf_N2_.w hW) ) rfl rfl ((hf_N2_.w hW).kr (o := 33) (by decide)) (by decide) (by decide) (Nat.le_of_ble_eq_true rfl) (zdal_p dlA_Reader_readBehind_132 (i := 11) rfl) ?_
          rintro _ N9_ ⟨rfl, hsN9_, -⟩
          have hf_N9_ : zFc d_ [(1, 2), (1, 3), (1, 4), (1, 5), (4, 2), (4, 3)] [] [(33, 2), (33, 3), (33, 4), (33, 5), (33, 6)] [25, 27] Mz N9_ := hf_N2_.tr hsN9_ (by decide) (by decide) (by decide) (by decide)
          have hb0_N9_ : zFc d_ [(1, 2), (1, 3), (1, 4), (1, 5)] [] [(33, 2), (33, 3), (33, 4), (33, 5), (33, 6)] [25, 27] Mz N9_ := hs3_.tr hsN9_ (by decide) (by decide) (by decide) (by decide)
          show zW l m_Reader_readBehind (zn Mz + 0, zw Mz + 0) N9_ 77 [some (.ref 4), some (.ref (d_ + 33)), some (.int (Int32.ofInt u1_))] [] _
          refine zw_aload_n (pc := 77) (n := 1) (x := (d_ + 33)) rfl (zdal_p dlA_Reader_readBehind_132 (i := 12) rfl) ?_
          refine zk_getI (pc := 78) f_Reader_142 rfl ((hf_N9_.w hW).kr (o := 33) (by decide)) (zdal_p dlA_Reader_readBehind_132 (i := 13) rfl) ?_
          have hr11_ := ze_r N9_ (d_ + 33) 5
          refine zr_if_le (pc := 81) (tgt := 96) ⟨(ze_r N9_ (d_ + 33) 5).1, (ze_r N9_ (d_ + 33) 5).2⟩ (by decide) (zdal_p dlA_Reader_readBehind_132 (i := 14) rfl) (fun hc_81 => ?_) (fun hc_81 => ?_)
          · skip
            refine zw_iconst (pc := 96) (v := Int32.ofInt 1) (by decide) d_Reader_readBehind_96 ?_
            exact zk_iret (pc := 97) (ty := .boolean) rfl (z_narB (by (decide))) ⟨by (decide), by (decide)⟩ hf_N9_ (show (((1 : Int)) = 0 ∨ ((1 : Int)) = 1) by first | with_reducible assumption | (decide) | assumption) d_Reader_readBehind_97
          · skip
            refine zw_aload_n (pc := 84) (n := 0) (x := 4) rfl (zdal_p dlA_Reader_readBehind_132 (i := 15) rfl) ?_
            refine zw_getF (pc := 85) f_Reader_15 rfl ((hf_N9_.w hW).ka (o := 4) (by decide)) ((hf_N9_.w hW).la (o := 4) (s := 0) (r := 1) (by decide)) (zdal_p dlA_Reader_readBehind_132 (i := 16) rfl) ?_
            refine zw_bipush (pc := 88) (v := Int32.ofInt 41) (by decide) (zdal_p dlA_Reader_readBehind_132 (i := 17) rfl) ?_
            refine zk_callV hf_N9_.x (pc := 90) [.int (Int32.ofInt 41)] [] l_Reader_37 (u_Tokens_isSignX l d_ N9_ (hf_N9_.w hW) 41 (by decide) (by decide)) rfl rfl ((hf_N9_.w hW).ka (o := 1) (by decide)) (by decide) (by decide) (Nat.le_of_ble_eq_true rfl) (zdal_p dlA_Reader_readBehind_132 (i := 18) rfl) ?_
            rintro _ N12_ ⟨v13_, rfl, ⟨hv13_a, hv13_b⟩, hsN12_, hp0_N12_⟩
            obtain rfl := hsN12_.eq.symm
            replace hp0_N12_ : (v13_ = 0 ∨ v13_ = 1) := hp0_N12_
            show zW l m_Reader_readBehind (zn Mz + 0, zw Mz + 0) N9_ 93 [some (.ref 4), some (.ref (d_ + 33)), some (.int (Int32.ofInt u1_))] [.int (Int32.ofInt v13_)] _
            refine zr_if_ne (pc := 93) (tgt := 98) ⟨hv13_a, hv13_b⟩ (by decide) d_Reader_readBehind_93 (fun hc_93 => ?_) (fun hc_93 => ?_)
            · skip
              refine zw_aload_n (pc := 98) (n := 1) (x := (d_ + 33)) rfl (zdal_p dlA_Reader_readBehind_132 (i := 22) rfl) ?_
              refine zw_iconst (pc := 99) (v := Int32.ofInt 0) (by decide) (zdal_p dlA_Reader_readBehind_132 (i := 23) rfl) ?_
              refine zk_callV hf_N9_.x (pc := 100) [.int (Int32.ofInt 0)] [] l_Reader_145 (u_Calc_reckonX l d_ N9_ (hf_N9_.w hW) 0 (by decide) (by decide) (by (decide))) rfl rfl ((hf_N9_.w hW).kr (o := 33) (by decide)) (by decide) (by decide) (Nat.le_of_ble_eq_true rfl) (zdal_p dlA_Reader_readBehind_133 (i := 0) rfl) ?_
              rintro _ N14_ ⟨rfl, hsN14_, -⟩
              have hf_N14_ : zFc d_ [(1, 2), (1, 3), (1, 4), (1, 5), (4, 2), (4, 3)] [] [(33, 2), (33, 3), (33, 4), (33, 5), (33, 6)] [25, 27] Mz N14_ := hf_N9_.tr hsN14_ (by decide) (by decide) (by decide) (by decide)
              have hb0_N14_ : zFc d_ [(1, 2), (1, 3), (1, 4), (1, 5)] [] [(33, 2), (33, 3), (33, 4), (33, 5), (33, 6)] [25, 27] Mz N14_ := hb0_N9_.tr hsN14_ (by decide) (by decide) (by decide) (by decide)
              show zW l m_Reader_readBehind (zn Mz + 0, zw Mz + 0) N14_ 103 [some (.ref 4), some (.ref (d_ + 33)), some (.int (Int32.ofInt u1_))] [] _
              refine zw_aload_n (pc := 103) (n := 1) (x := (d_ + 33)) rfl (zdal_p dlA_Reader_readBehind_133 (i := 1) rfl) ?_
              refine zk_callV hf_N14_.x (pc := 104) [] [] l_Reader_185 (u_Calc_closeX l d_ N14_ (hf_N14_.w hW) ) rfl rfl ((hf_N14_.w hW).kr (o := 33) (by decide)) (by decide) (by decide) (Nat.le_of_ble_eq_true rfl) (zdal_p dlA_Reader_readBehind_133 (i := 2) rfl) ?_
              rintro _ N16_ ⟨rfl, hsN16_, -⟩
              have hf_N16_ : zFc d_ [(1, 2), (1, 3), (1, 4), (1, 5), (4, 2), (4, 3)] [] [(33, 2), (33, 3), (33, 4), (33, 5), (33, 6)] [25, 27] Mz N16_ := hf_N14_.tr hsN16_ (by decide) (by decide) (by decide) (by decide)
              have hb0_N16_ : zFc d_ [(1, 2), (1, 3), (1, 4), (1, 5)] [] [(33, 2), (33, 3), (33, 4), (33, 5), (33, 6)] [25, 27] Mz N16_ := hb0_N14_.tr hsN16_ (by decide) (by decide) (by decide) (by decide)
              show zW l m_Reader_readBehind (zn Mz + 0, zw Mz + 0) N16_ 107 [some (.ref 4), some (.ref (d_ + 33)), some (.int (Int32.ofInt u1_))] [] _
              refine zw_aload_n (pc := 107) (n := 0) (x := 4) rfl (zdal_p dlA_Reader_readBehind_133 (i := 3) rfl) ?_
              refine zw_getF (pc := 108) f_Reader_15 rfl ((hf_N16_.w hW).ka (o := 4) (by decide)) ((hf_N16_.w hW).la (o := 4) (s := 0) (r := 1) (by decide)) (zdal_p dlA_Reader_readBehind_133 (i := 4) rfl) ?_
              refine zk_callV hf_N16_.x (pc := 111) [] [] l_Reader_44 (u_Tokens_stepX l d_ N16_ (hf_N16_.w hW) ) rfl rfl ((hf_N16_.w hW).ka (o := 1) (by decide)) (by decide) (by decide) (Nat.le_of_ble_eq_true rfl) (zdal_p dlA_Reader_readBehind_133 (i := 5) rfl) ?_
              rintro _ N18_ ⟨rfl, hsN18_, -⟩
              have hf_N18_ : zFc d_ [(1, 2), (1, 3), (1, 4), (1, 5), (4, 2), (4, 3)] [] [(33, 2), (33, 3), (33, 4), (33, 5), (33, 6)] [25, 27] Mz N18_ := hf_N16_.tr hsN18_ (by decide) (by decide) (by decide) (by decide)
              have hb0_N18_ : zFc d_ [(1, 2), (1, 3), (1, 4), (1, 5)] [] [(33, 2), (33, 3), (33, 4), (33, 5), (33, 6)] [25, 27] Mz N18_ := hb0_N16_.tr hsN18_ (by decide) (by decide) (by decide) (by decide)
              show zW l m_Reader_readBehind (zn Mz + 0, zw Mz + 0) N18_ 114 [some (.ref 4), some (.ref (d_ + 33)), some (.int (Int32.ofInt u1_))] [] _
              refine zr_iinc (pc := 114) (i := 2) (a := u1_) (n := 1) (L2 := [some (.ref 4), some (.ref (d_ + 33)), some (.int (Int32.ofInt (u1_ + 1)))]) rfl (by decide) rfl (zdal_p dlA_Reader_readBehind_133 (i := 6) rfl) ?_
              obtain ⟨v20_, hv20_a, hv20_b, hv20_e, hv20_d⟩ := zk_gen (u1_ + 1)
              rw [hv20_e]
              refine zw_goto (pc := 117) (tgt := 2) (by decide) (zdal_p dlA_Reader_readBehind_133 (i := 7) rfl) ?_
              exact ih_2 v20_ hv20_a hv20_b N18_ hb0_N18_ (show 0 ≤ v20_ by first | with_reducible assumption | assumption | omega) (by omega)
            · skip
              refine zw_iconst (pc := 96) (v := Int32.ofInt 1) (by decide) d_Reader_readBehind_96 ?_
              exact zk_iret (pc := 97) (ty := .boolean) rfl (z_narB (by (decide))) ⟨by (decide), by (decide)⟩ hf_N9_ (show (((1 : Int)) = 0 ∨ ((1 : Int)) = 1) by first | with_reducible assumption | (decide) | assumption) d_Reader_readBehind_97
        · skip
          refine zw_aload_n (pc := 20) (n := 0) (x := 4) rfl (zdal_p dlA_Reader_readBehind_131 (i := 10) rfl) ?_
          refine zw_getF (pc := 21) f_Reader_15 rfl ((hf_N2_.w hW).ka (o := 4) (by decide)) ((hf_N2_.w hW).la (o := 4) (s := 0) (r := 1) (by decide)) (zdal_p dlA_Reader_readBehind_131 (i := 11) rfl) ?_
          refine zk_callV hf_N2_.x (pc := 24) [] [] l_Reader_44 (u_Tokens_stepX l d_ N2_ (hf_N2_.w hW) ) rfl rfl ((hf_N2_.w hW).ka (o := 1) (by decide)) (by decide) (by decide) (Nat.le_of_ble_eq_true rfl) (zdal_p dlA_Reader_readBehind_131 (i := 12) rfl) ?_
          rintro _ N21_ ⟨rfl, hsN21_, -⟩
          have hf_N21_ : zFc d_ [(1, 2), (1, 3), (1, 4), (1, 5), (4, 2), (4, 3)] [] [(33, 2), (33, 3), (33, 4), (33, 5), (33, 6)] [25, 27] Mz N21_ := hf_N2_.tr hsN21_ (by decide) (by decide) (by decide) (by decide)
          have hb0_N21_ : zFc d_ [(1, 2), (1, 3), (1, 4), (1, 5)] [] [(33, 2), (33, 3), (33, 4), (33, 5), (33, 6)] [25, 27] Mz N21_ := hs3_.tr hsN21_ (by decide) (by decide) (by decide) (by decide)
          show zW l m_Reader_readBehind (zn Mz + 0, zw Mz + 0) N21_ 27 [some (.ref 4), some (.ref (d_ + 33)), some (.int (Int32.ofInt u1_))] [] _
          refine zw_aload_n (pc := 27) (n := 0) (x := 4) rfl (zdal_p dlA_Reader_readBehind_131 (i := 13) rfl) ?_
          refine zw_getF (pc := 28) f_Reader_15 rfl ((hf_N21_.w hW).ka (o := 4) (by decide)) ((hf_N21_.w hW).la (o := 4) (s := 0) (r := 1) (by decide)) (zdal_p dlA_Reader_readBehind_131 (i := 14) rfl) ?_
          refine zk_callV hf_N21_.x (pc := 31) [] [] l_Reader_53 (u_Tokens_isNumberX l d_ N21_ (hf_N21_.w hW) ) rfl rfl ((hf_N21_.w hW).ka (o := 1) (by decide)) (by decide) (by decide) (Nat.le_of_ble_eq_true rfl) (zdal_p dlA_Reader_readBehind_131 (i := 15) rfl) ?_
          rintro _ N23_ ⟨v24_, rfl, ⟨hv24_a, hv24_b⟩, hsN23_, hp0_N23_⟩
          obtain rfl := hsN23_.eq.symm
          replace hp0_N23_ : (v24_ = 0 ∨ v24_ = 1) := hp0_N23_
          show zW l m_Reader_readBehind (zn Mz + 0, zw Mz + 0) N21_ 34 [some (.ref 4), some (.ref (d_ + 33)), some (.int (Int32.ofInt u1_))] [.int (Int32.ofInt v24_)] _
          refine zr_if_eq (pc := 34) (tgt := 49) ⟨hv24_a, hv24_b⟩ (by decide) (zdal_p dlA_Reader_readBehind_131 (i := 16) rfl) (fun hc_34 => ?_) (fun hc_34 => ?_)
          · skip
            refine zw_aload_n (pc := 49) (n := 0) (x := 4) rfl (zdal_p dlA_Reader_readBehind_131 (i := 22) rfl) ?_
            refine zw_iconst (pc := 50) (v := Int32.ofInt 2) (by decide) (zdal_p dlA_Reader_readBehind_131 (i := 23) rfl) ?_
            refine zk_callV hf_N21_.x (pc := 51) [.int (Int32.ofInt 2)] [] l_Reader_41 (u_Reader_refuseX l d_ N21_ (hf_N21_.w hW) 2 (by decide) (by decide)) rfl rfl ((hf_N21_.w hW).ka (o := 4) (by decide)) (by decide) (by decide) (Nat.le_of_ble_eq_true rfl) (zdal_p dlA_Reader_readBehind_132 (i := 0) rfl) ?_
            rintro _ N25_ ⟨v26_, rfl, ⟨hv26_a, hv26_b⟩, hsN25_, hp0_N25_⟩
            replace hp0_N25_ : (v26_ = 0 ∨ v26_ = 1) := hp0_N25_
            have hf_N25_ : zFc d_ [(1, 2), (1, 3), (1, 4), (1, 5), (4, 2), (4, 3)] [] [(33, 2), (33, 3), (33, 4), (33, 5), (33, 6)] [25, 27] Mz N25_ := hf_N21_.tr hsN25_ (by decide) (by decide) (by decide) (by decide)
            show zW l m_Reader_readBehind (zn Mz + 0, zw Mz + 0) N25_ 54 [some (.ref 4), some (.ref (d_ + 33)), some (.int (Int32.ofInt u1_))] [.int (Int32.ofInt v26_)] _
            exact zk_iret (pc := 54) (ty := .boolean) rfl (z_narB (by (exact hp0_N25_))) ⟨by (exact hv26_a), by (exact hv26_b)⟩ hf_N25_ (show (v26_ = 0 ∨ v26_ = 1) by first | with_reducible assumption | assumption | omega) (zdal_p dlA_Reader_readBehind_132 (i := 1) rfl)
          · skip
            refine zw_aload_n (pc := 37) (n := 0) (x := 4) rfl (zdal_p dlA_Reader_readBehind_131 (i := 17) rfl) ?_
            refine zw_getF (pc := 38) f_Reader_15 rfl ((hf_N21_.w hW).ka (o := 4) (by decide)) ((hf_N21_.w hW).la (o := 4) (s := 0) (r := 1) (by decide)) (zdal_p dlA_Reader_readBehind_131 (i := 18) rfl) ?_
            refine zk_getI (pc := 41) f_Reader_57 rfl ((hf_N21_.w hW).ka (o := 1) (by decide)) (zdal_p dlA_Reader_readBehind_131 (i := 19) rfl) ?_
            have hr27_ := ze_r N21_ 1 5
            refine zw_bipush (pc := 44) (v := Int32.ofInt 9) (by decide) (zdal_p dlA_Reader_readBehind_131 (i := 20) rfl) ?_
            refine zr_icmp_le (pc := 46) (tgt := 55) ⟨(ze_r N21_ 1 5).1, (ze_r N21_ 1 5).2⟩ ⟨(by decide), (by decide)⟩ (by decide) (zdal_p dlA_Reader_readBehind_131 (i := 21) rfl) (fun hc_46 => ?_) (fun hc_46 => ?_)
            · skip
              refine zw_aload_n (pc := 55) (n := 1) (x := (d_ + 33)) rfl (zdal_p dlA_Reader_readBehind_132 (i := 2) rfl) ?_
              refine zw_aload_n (pc := 56) (n := 0) (x := 4) rfl (zdal_p dlA_Reader_readBehind_132 (i := 3) rfl) ?_
              refine zw_getF (pc := 57) f_Reader_15 rfl ((hf_N21_.w hW).ka (o := 4) (by decide)) ((hf_N21_.w hW).la (o := 4) (s := 0) (r := 1) (by decide)) (zdal_p dlA_Reader_readBehind_132 (i := 4) rfl) ?_
              refine zk_getI (pc := 60) f_Reader_57 rfl ((hf_N21_.w hW).ka (o := 1) (by decide)) (zdal_p dlA_Reader_readBehind_132 (i := 5) rfl) ?_
              refine zk_callV hf_N21_.x (pc := 63) [.int (Int32.ofInt (ze N21_ 1 5))] [] l_Reader_179 (u_Calc_raiseX l d_ N21_ (hf_N21_.w hW) (ze N21_ 1 5) (ze_r N21_ 1 5).1 (ze_r N21_ 1 5).2) rfl rfl ((hf_N21_.w hW).kr (o := 33) (by decide)) (by decide) (by decide) (Nat.le_of_ble_eq_true rfl) (zdal_p dlA_Reader_readBehind_132 (i := 6) rfl) ?_
              rintro _ N28_ ⟨rfl, hsN28_, -⟩
              have hf_N28_ : zFc d_ [(1, 2), (1, 3), (1, 4), (1, 5), (4, 2), (4, 3)] [] [(33, 2), (33, 3), (33, 4), (33, 5), (33, 6)] [25, 27] Mz N28_ := hf_N21_.tr hsN28_ (by decide) (by decide) (by decide) (by decide)
              have hb0_N28_ : zFc d_ [(1, 2), (1, 3), (1, 4), (1, 5)] [] [(33, 2), (33, 3), (33, 4), (33, 5), (33, 6)] [25, 27] Mz N28_ := hb0_N21_.tr hsN28_ (by decide) (by decide) (by decide) (by decide)
              show zW l m_Reader_readBehind (zn Mz + 0, zw Mz + 0) N28_ 66 [some (.ref 4), some (.ref (d_ + 33)), some (.int (Int32.ofInt u1_))] [] _
              refine zw_aload_n (pc := 66) (n := 0) (x := 4) rfl (zdal_p dlA_Reader_readBehind_132 (i := 7) rfl) ?_
              refine zw_getF (pc := 67) f_Reader_15 rfl ((hf_N28_.w hW).ka (o := 4) (by decide)) ((hf_N28_.w hW).la (o := 4) (s := 0) (r := 1) (by decide)) (zdal_p dlA_Reader_readBehind_132 (i := 8) rfl) ?_
              refine zk_callV hf_N28_.x (pc := 70) [] [] l_Reader_44 (u_Tokens_stepX l d_ N28_ (hf_N28_.w hW) ) rfl rfl ((hf_N28_.w hW).ka (o := 1) (by decide)) (by decide) (by decide) (Nat.le_of_ble_eq_true rfl) (zdal_p dlA_Reader_readBehind_132 (i := 9) rfl) ?_
              rintro _ N30_ ⟨rfl, hsN30_, -⟩
              have hf_N30_ : zFc d_ [(1, 2), (1, 3), (1, 4), (1, 5), (4, 2), (4, 3)] [] [(33, 2), (33, 3), (33, 4), (33, 5), (33, 6)] [25, 27] Mz N30_ := hf_N28_.tr hsN30_ (by decide) (by decide) (by decide) (by decide)
              have hb0_N30_ : zFc d_ [(1, 2), (1, 3), (1, 4), (1, 5)] [] [(33, 2), (33, 3), (33, 4), (33, 5), (33, 6)] [25, 27] Mz N30_ := hb0_N28_.tr hsN30_ (by decide) (by decide) (by decide) (by decide)
              show zW l m_Reader_readBehind (zn Mz + 0, zw Mz + 0) N30_ 73 [some (.ref 4), some (.ref (d_ + 33)), some (.int (Int32.ofInt u1_))] [] _
              refine zw_aload_n (pc := 73) (n := 1) (x := (d_ + 33)) rfl (zdal_p dlA_Reader_readBehind_132 (i := 10) rfl) ?_
              refine zk_callV hf_N30_.x (pc := 74) [] [] l_Reader_182 (u_Calc_negateX l d_ N30_ (hf_N30_.w hW) ) rfl rfl ((hf_N30_.w hW).kr (o := 33) (by decide)) (by decide) (by decide) (Nat.le_of_ble_eq_true rfl) (zdal_p dlA_Reader_readBehind_132 (i := 11) rfl) ?_
              rintro _ N32_ ⟨rfl, hsN32_, -⟩
              have hf_N32_ : zFc d_ [(1, 2), (1, 3), (1, 4), (1, 5), (4, 2), (4, 3)] [] [(33, 2), (33, 3), (33, 4), (33, 5), (33, 6)] [25, 27] Mz N32_ := hf_N30_.tr hsN32_ (by decide) (by decide) (by decide) (by decide)
              have hb0_N32_ : zFc d_ [(1, 2), (1, 3), (1, 4), (1, 5)] [] [(33, 2), (33, 3), (33, 4), (33, 5), (33, 6)] [25, 27] Mz N32_ := hb0_N30_.tr hsN32_ (by decide) (by decide) (by decide) (by decide)
              show zW l m_Reader_readBehind (zn Mz + 0, zw Mz + 0) N32_ 77 [some (.ref 4), some (.ref (d_ + 33)), some (.int (Int32.ofInt u1_))] [] _
              refine zw_aload_n (pc := 77) (n := 1) (x := (d_ + 33)) rfl (zdal_p dlA_Reader_readBehind_132 (i := 12) rfl) ?_
              refine zk_getI (pc := 78) f_Reader_142 rfl ((hf_N32_.w hW).kr (o := 33) (by decide)) (zdal_p dlA_Reader_readBehind_132 (i := 13) rfl) ?_
              have hr34_ := ze_r N32_ (d_ + 33) 5
              refine zr_if_le (pc := 81) (tgt := 96) ⟨(ze_r N32_ (d_ + 33) 5).1, (ze_r N32_ (d_ + 33) 5).2⟩ (by decide) (zdal_p dlA_Reader_readBehind_132 (i := 14) rfl) (fun hc_81 => ?_) (fun hc_81 => ?_)
              · skip
                refine zw_iconst (pc := 96) (v := Int32.ofInt 1) (by decide) d_Reader_readBehind_96 ?_
                exact zk_iret (pc := 97) (ty := .boolean) rfl (z_narB (by (decide))) ⟨by (decide), by (decide)⟩ hf_N32_ (show (((1 : Int)) = 0 ∨ ((1 : Int)) = 1) by first | with_reducible assumption | (decide) | assumption) d_Reader_readBehind_97
              · skip
                refine zw_aload_n (pc := 84) (n := 0) (x := 4) rfl (zdal_p dlA_Reader_readBehind_132 (i := 15) rfl) ?_
                refine zw_getF (pc := 85) f_Reader_15 rfl ((hf_N32_.w hW).ka (o := 4) (by decide)) ((hf_N32_.w hW).la (o := 4) (s := 0) (r := 1) (by decide)) (zdal_p dlA_Reader_readBehind_132 (i := 16) rfl) ?_
                refine zw_bipush (pc := 88) (v := Int32.ofInt 41) (by decide) (zdal_p dlA_Reader_readBehind_132 (i := 17) rfl) ?_
                refine zk_callV hf_N32_.x (pc := 90) [.int (Int32.ofInt 41)] [] l_Reader_37 (u_Tokens_isSignX l d_ N32_ (hf_N32_.w hW) 41 (by decide) (by decide)) rfl rfl ((hf_N32_.w hW).ka (o := 1) (by decide)) (by decide) (by decide) (Nat.le_of_ble_eq_true rfl) (zdal_p dlA_Reader_readBehind_132 (i := 18) rfl) ?_
                rintro _ N35_ ⟨v36_, rfl, ⟨hv36_a, hv36_b⟩, hsN35_, hp0_N35_⟩
                obtain rfl := hsN35_.eq.symm
                replace hp0_N35_ : (v36_ = 0 ∨ v36_ = 1) := hp0_N35_
                show zW l m_Reader_readBehind (zn Mz + 0, zw Mz + 0) N32_ 93 [some (.ref 4), some (.ref (d_ + 33)), some (.int (Int32.ofInt u1_))] [.int (Int32.ofInt v36_)] _
                refine zr_if_ne (pc := 93) (tgt := 98) ⟨hv36_a, hv36_b⟩ (by decide) d_Reader_readBehind_93 (fun hc_93 => ?_) (fun hc_93 => ?_)
                · skip
                  refine zw_aload_n (pc := 98) (n := 1) (x := (d_ + 33)) rfl (zdal_p dlA_Reader_readBehind_132 (i := 22) rfl) ?_
                  refine zw_iconst (pc := 99) (v := Int32.ofInt 0) (by decide) (zdal_p dlA_Reader_readBehind_132 (i := 23) rfl) ?_
                  refine zk_callV hf_N32_.x (pc := 100) [.int (Int32.ofInt 0)] [] l_Reader_145 (u_Calc_reckonX l d_ N32_ (hf_N32_.w hW) 0 (by decide) (by decide) (by (decide))) rfl rfl ((hf_N32_.w hW).kr (o := 33) (by decide)) (by decide) (by decide) (Nat.le_of_ble_eq_true rfl) (zdal_p dlA_Reader_readBehind_133 (i := 0) rfl) ?_
                  rintro _ N37_ ⟨rfl, hsN37_, -⟩
                  have hf_N37_ : zFc d_ [(1, 2), (1, 3), (1, 4), (1, 5), (4, 2), (4, 3)] [] [(33, 2), (33, 3), (33, 4), (33, 5), (33, 6)] [25, 27] Mz N37_ := hf_N32_.tr hsN37_ (by decide) (by decide) (by decide) (by decide)
                  have hb0_N37_ : zFc d_ [(1, 2), (1, 3), (1, 4), (1, 5)] [] [(33, 2), (33, 3), (33, 4), (33, 5), (33, 6)] [25, 27] Mz N37_ := hb0_N32_.tr hsN37_ (by decide) (by decide) (by decide) (by decide)
                  show zW l m_Reader_readBehind (zn Mz + 0, zw Mz + 0) N37_ 103 [some (.ref 4), some (.ref (d_ + 33)), some (.int (Int32.ofInt u1_))] [] _
                  refine zw_aload_n (pc := 103) (n := 1) (x := (d_ + 33)) rfl (zdal_p dlA_Reader_readBehind_133 (i := 1) rfl) ?_
                  refine zk_callV hf_N37_.x (pc := 104) [] [] l_Reader_185 (u_Calc_closeX l d_ N37_ (hf_N37_.w hW) ) rfl rfl ((hf_N37_.w hW).kr (o := 33) (by decide)) (by decide) (by decide) (Nat.le_of_ble_eq_true rfl) (zdal_p dlA_Reader_readBehind_133 (i := 2) rfl) ?_
                  rintro _ N39_ ⟨rfl, hsN39_, -⟩
                  have hf_N39_ : zFc d_ [(1, 2), (1, 3), (1, 4), (1, 5), (4, 2), (4, 3)] [] [(33, 2), (33, 3), (33, 4), (33, 5), (33, 6)] [25, 27] Mz N39_ := hf_N37_.tr hsN39_ (by decide) (by decide) (by decide) (by decide)
                  have hb0_N39_ : zFc d_ [(1, 2), (1, 3), (1, 4), (1, 5)] [] [(33, 2), (33, 3), (33, 4), (33, 5), (33, 6)] [25, 27] Mz N39_ := hb0_N37_.tr hsN39_ (by decide) (by decide) (by decide) (by decide)
                  show zW l m_Reader_readBehind (zn Mz + 0, zw Mz + 0) N39_ 107 [some (.ref 4), some (.ref (d_ + 33)), some (.int (Int32.ofInt u1_))] [] _
                  refine zw_aload_n (pc := 107) (n := 0) (x := 4) rfl (zdal_p dlA_Reader_readBehind_133 (i := 3) rfl) ?_
                  refine zw_getF (pc := 108) f_Reader_15 rfl ((hf_N39_.w hW).ka (o := 4) (by decide)) ((hf_N39_.w hW).la (o := 4) (s := 0) (r := 1) (by decide)) (zdal_p dlA_Reader_readBehind_133 (i := 4) rfl) ?_
                  refine zk_callV hf_N39_.x (pc := 111) [] [] l_Reader_44 (u_Tokens_stepX l d_ N39_ (hf_N39_.w hW) ) rfl rfl ((hf_N39_.w hW).ka (o := 1) (by decide)) (by decide) (by decide) (Nat.le_of_ble_eq_true rfl) (zdal_p dlA_Reader_readBehind_133 (i := 5) rfl) ?_
                  rintro _ N41_ ⟨rfl, hsN41_, -⟩
                  have hf_N41_ : zFc d_ [(1, 2), (1, 3), (1, 4), (1, 5), (4, 2), (4, 3)] [] [(33, 2), (33, 3), (33, 4), (33, 5), (33, 6)] [25, 27] Mz N41_ := hf_N39_.tr hsN41_ (by decide) (by decide) (by decide) (by decide)
                  have hb0_N41_ : zFc d_ [(1, 2), (1, 3), (1, 4), (1, 5)] [] [(33, 2), (33, 3), (33, 4), (33, 5), (33, 6)] [25, 27] Mz N41_ := hb0_N39_.tr hsN41_ (by decide) (by decide) (by decide) (by decide)
                  show zW l m_Reader_readBehind (zn Mz + 0, zw Mz + 0) N41_ 114 [some (.ref 4), some (.ref (d_ + 33)), some (.int (Int32.ofInt u1_))] [] _
                  refine zr_iinc (pc := 114) (i := 2) (a := u1_) (n := 1) (L2 := [some (.ref 4), some (.ref (d_ + 33)), some (.int (Int32.ofInt (u1_ + 1)))]) rfl (by decide) rfl (zdal_p dlA_Reader_readBehind_133 (i := 6) rfl) ?_
                  obtain ⟨v43_, hv43_a, hv43_b, hv43_e, hv43_d⟩ := zk_gen (u1_ + 1)
                  rw [hv43_e]
                  refine zw_goto (pc := 117) (tgt := 2) (by decide) (zdal_p dlA_Reader_readBehind_133 (i := 7) rfl) ?_
                  exact ih_2 v43_ hv43_a hv43_b N41_ hb0_N41_ (show 0 ≤ v43_ by first | with_reducible assumption | assumption | omega) (by omega)
                · skip
                  refine zw_iconst (pc := 96) (v := Int32.ofInt 1) (by decide) d_Reader_readBehind_96 ?_
                  exact zk_iret (pc := 97) (ty := .boolean) rfl (z_narB (by (decide))) ⟨by (decide), by (decide)⟩ hf_N32_ (show (((1 : Int)) = 0 ∨ ((1 : Int)) = 1) by first | with_reducible assumption | (decide) | assumption) d_Reader_readBehind_97
            · skip
              refine zw_aload_n (pc := 49) (n := 0) (x := 4) rfl (zdal_p dlA_Reader_readBehind_131 (i := 22) rfl) ?_
              refine zw_iconst (pc := 50) (v := Int32.ofInt 2) (by decide) (zdal_p dlA_Reader_readBehind_131 (i := 23) rfl) ?_
              refine zk_callV hf_N21_.x (pc := 51) [.int (Int32.ofInt 2)] [] l_Reader_41 (u_Reader_refuseX l d_ N21_ (hf_N21_.w hW) 2 (by decide) (by decide)) rfl rfl ((hf_N21_.w hW).ka (o := 4) (by decide)) (by decide) (by decide) (Nat.le_of_ble_eq_true rfl) (zdal_p dlA_Reader_readBehind_132 (i := 0) rfl) ?_
              rintro _ N44_ ⟨v45_, rfl, ⟨hv45_a, hv45_b⟩, hsN44_, hp0_N44_⟩
              replace hp0_N44_ : (v45_ = 0 ∨ v45_ = 1) := hp0_N44_
              have hf_N44_ : zFc d_ [(1, 2), (1, 3), (1, 4), (1, 5), (4, 2), (4, 3)] [] [(33, 2), (33, 3), (33, 4), (33, 5), (33, 6)] [25, 27] Mz N44_ := hf_N21_.tr hsN44_ (by decide) (by decide) (by decide) (by decide)
              show zW l m_Reader_readBehind (zn Mz + 0, zw Mz + 0) N44_ 54 [some (.ref 4), some (.ref (d_ + 33)), some (.int (Int32.ofInt u1_))] [.int (Int32.ofInt v45_)] _
              exact zk_iret (pc := 54) (ty := .boolean) rfl (z_narB (by (exact hp0_N44_))) ⟨by (exact hv45_a), by (exact hv45_b)⟩ hf_N44_ (show (v45_ = 0 ∨ v45_ = 1) by first | with_reducible assumption | assumption | omega) (zdal_p dlA_Reader_readBehind_132 (i := 1) rfl)
  exact lp_2 _ 0 (by decide) (by decide) Mz zFc.rf (show 0 ≤ (0 : Int) by first | with_reducible assumption | (decide) | assumption) (Nat.lt_succ_self _)
set_option maxHeartbeats 4000000 in
theorem u_Calc_putX (l : Launch) (d_ : Nat) (Mz : zMem) (hW : zKW d_ Mz) (a0_ : Int) (ha0_a : -2147483648 ≤ a0_) (ha0_b : a0_ < 2147483648) : zC l m_Calc_put 0 0 [.ref (d_ + 33), .int (Int32.ofInt a0_)] Mz (zqcV d_ [] [] [(33, 2), (33, 3), (33, 6)] [25, 27, 35] Mz (fun N => True)) := by
  refine zC_of (L0 := [some (.ref (d_ + 33)), some (.int (Int32.ofInt a0_))]) md_Calc_put (Nat.le_of_ble_eq_true rfl) rfl ?_ zQ0
  have hf : zFc d_ [] [] [(33, 2), (33, 3), (33, 6)] [25, 27, 35] Mz Mz := zFc.rf
  refine zw_aload_n (pc := 0) (n := 0) (x := (d_ + 33)) rfl (zdal_p dlA_Calc_put_160 (i := 0) rfl) ?_
  refine zw_iload_n (pc := 1) (n := 1) (x := Int32.ofInt a0_) rfl (zdal_p dlA_Calc_put_160 (i := 1) rfl) ?_
  refine zw_bipush (pc := 2) (v := Int32.ofInt 42) (by decide) (zdal_p dlA_Calc_put_160 (i := 2) rfl) ?_
  refine zr_icmp_ne (pc := 4) (tgt := 11) ⟨ha0_a, ha0_b⟩ ⟨(by decide), (by decide)⟩ (by decide) (zdal_p dlA_Calc_put_160 (i := 3) rfl) (fun hc_4 => ?_) (fun hc_4 => ?_)
  · skip
    refine zw_iconst (pc := 11) (v := Int32.ofInt 0) (by decide) (zdal_p dlA_Calc_put_160 (i := 6) rfl) ?_
    refine zk_callV hf.x (pc := 12) [.int (Int32.ofInt 0)] [] l_Calc_95 (u_Calc_reckonX l d_ Mz (hf.w hW) 0 (by decide) (by decide) (by (decide))) rfl rfl ((hf.w hW).kr (o := 33) (by decide)) (by decide) (by decide) (Nat.le_of_ble_eq_true rfl) (zdal_p dlA_Calc_put_160 (i := 7) rfl) ?_
    rintro _ N1_ ⟨rfl, hsN1_, -⟩
    have hf_N1_ : zFc d_ [] [] [(33, 2), (33, 3), (33, 6)] [25, 27, 35] Mz N1_ := hf.tr hsN1_ (by decide) (by decide) (by decide) (by decide)
    show zW l m_Calc_put (zn Mz + 0, zw Mz + 0) N1_ 15 [some (.ref (d_ + 33)), some (.int (Int32.ofInt a0_))] [] _
    refine zw_aload_n (pc := 15) (n := 0) (x := (d_ + 33)) rfl (zdal_p dlA_Calc_put_160 (i := 8) rfl) ?_
    refine zw_iload_n (pc := 16) (n := 1) (x := Int32.ofInt a0_) rfl (zdal_p dlA_Calc_put_160 (i := 9) rfl) ?_
    refine zk_callV hf_N1_.x (pc := 17) [.int (Int32.ofInt a0_)] [] l_Calc_55 (u_Calc_pushSignX l d_ N1_ (hf_N1_.w hW) a0_ ha0_a ha0_b) rfl rfl ((hf_N1_.w hW).kr (o := 33) (by decide)) (by decide) (by decide) (Nat.le_of_ble_eq_true rfl) (zdal_p dlA_Calc_put_160 (i := 10) rfl) ?_
    rintro _ N3_ ⟨rfl, hsN3_, -⟩
    have hf_N3_ : zFc d_ [] [] [(33, 2), (33, 3), (33, 6)] [25, 27, 35] Mz N3_ := hf_N1_.tr hsN3_ (by decide) (by decide) (by decide) (by decide)
    show zW l m_Calc_put (zn Mz + 0, zw Mz + 0) N3_ 20 [some (.ref (d_ + 33)), some (.int (Int32.ofInt a0_))] [] _
    exact zk_vret (pc := 20) rfl hf_N3_ trivial (zdal_p dlA_Calc_put_160 (i := 11) rfl)
  · skip
    refine zw_iconst (pc := 7) (v := Int32.ofInt 1) (by decide) (zdal_p dlA_Calc_put_160 (i := 4) rfl) ?_
    refine zw_goto (pc := 8) (tgt := 12) (by decide) (zdal_p dlA_Calc_put_160 (i := 5) rfl) ?_
    refine zk_callV hf.x (pc := 12) [.int (Int32.ofInt 1)] [] l_Calc_95 (u_Calc_reckonX l d_ Mz (hf.w hW) 1 (by decide) (by decide) (by (decide))) rfl rfl ((hf.w hW).kr (o := 33) (by decide)) (by decide) (by decide) (Nat.le_of_ble_eq_true rfl) (zdal_p dlA_Calc_put_160 (i := 7) rfl) ?_
    rintro _ N5_ ⟨rfl, hsN5_, -⟩
    have hf_N5_ : zFc d_ [] [] [(33, 2), (33, 3), (33, 6)] [25, 27, 35] Mz N5_ := hf.tr hsN5_ (by decide) (by decide) (by decide) (by decide)
    show zW l m_Calc_put (zn Mz + 0, zw Mz + 0) N5_ 15 [some (.ref (d_ + 33)), some (.int (Int32.ofInt a0_))] [] _
    refine zw_aload_n (pc := 15) (n := 0) (x := (d_ + 33)) rfl (zdal_p dlA_Calc_put_160 (i := 8) rfl) ?_
    refine zw_iload_n (pc := 16) (n := 1) (x := Int32.ofInt a0_) rfl (zdal_p dlA_Calc_put_160 (i := 9) rfl) ?_
    refine zk_callV hf_N5_.x (pc := 17) [.int (Int32.ofInt a0_)] [] l_Calc_55 (u_Calc_pushSignX l d_ N5_ (hf_N5_.w hW) a0_ ha0_a ha0_b) rfl rfl ((hf_N5_.w hW).kr (o := 33) (by decide)) (by decide) (by decide) (Nat.le_of_ble_eq_true rfl) (zdal_p dlA_Calc_put_160 (i := 10) rfl) ?_
    rintro _ N7_ ⟨rfl, hsN7_, -⟩
    have hf_N7_ : zFc d_ [] [] [(33, 2), (33, 3), (33, 6)] [25, 27, 35] Mz N7_ := hf_N5_.tr hsN7_ (by decide) (by decide) (by decide) (by decide)
    show zW l m_Calc_put (zn Mz + 0, zw Mz + 0) N7_ 20 [some (.ref (d_ + 33)), some (.int (Int32.ofInt a0_))] [] _
    exact zk_vret (pc := 20) rfl hf_N7_ trivial (zdal_p dlA_Calc_put_160 (i := 11) rfl)
set_option maxHeartbeats 4000000 in
theorem u_Reader_readSumX (l : Launch) (d_ : Nat) (Mz : zMem) (hW : zKW d_ Mz) : zC l m_Reader_readSum 0 0 [.ref 4, .ref (d_ + 0)] Mz (zqcI d_ [(1, 2), (1, 3), (1, 4), (1, 5), (4, 1), (4, 2), (4, 3)] [] [(33, 2), (33, 3), (33, 4), (33, 5), (33, 6)] [25, 27, 35] Mz (fun v N => ((v = 0 ∨ v = 1)))) := by
  refine zC_of (L0 := [some (.ref 4), some (.ref (d_ + 0)), none, none, none]) md_Reader_readSum (Nat.le_of_ble_eq_true rfl) rfl ?_ zQ0
  have hf : zFc d_ [(1, 2), (1, 3), (1, 4), (1, 5), (4, 1), (4, 2), (4, 3)] [] [(33, 2), (33, 3), (33, 4), (33, 5), (33, 6)] [25, 27, 35] Mz Mz := zFc.rf
  refine zw_aload_n (pc := 0) (n := 1) (x := (d_ + 0)) rfl (zdal_p dlA_Reader_readSum_109 (i := 0) rfl) ?_
  refine zw_getF (pc := 1) f_Reader_111 rfl ((hf.w hW).kr (o := 0) (by decide)) ((hf.w hW).lr (o := 0) (s := 4) (r := 33) (by decide)) (zdal_p dlA_Reader_readSum_109 (i := 1) rfl) ?_
  refine zw_astore_n (pc := 4) (i := 2) (L2 := [some (.ref 4), some (.ref (d_ + 0)), some (.ref (d_ + 33)), none, none]) rfl (by decide) rfl (zdal_p dlA_Reader_readSum_109 (i := 2) rfl) ?_
  refine zw_aload_n (pc := 5) (n := 2) (x := (d_ + 33)) rfl (zdal_p dlA_Reader_readSum_109 (i := 3) rfl) ?_
  refine zk_callV hf.x (pc := 6) [] [] l_Reader_124 (u_Calc_beginX l d_ Mz (hf.w hW) ) rfl rfl ((hf.w hW).kr (o := 33) (by decide)) (by decide) (by decide) (Nat.le_of_ble_eq_true rfl) (zdal_p dlA_Reader_readSum_109 (i := 4) rfl) ?_
  rintro _ N1_ ⟨rfl, hsN1_, -⟩
  have hf_N1_ : zFc d_ [(1, 2), (1, 3), (1, 4), (1, 5), (4, 1), (4, 2), (4, 3)] [] [(33, 2), (33, 3), (33, 4), (33, 5), (33, 6)] [25, 27, 35] Mz N1_ := hf.tr hsN1_ (by decide) (by decide) (by decide) (by decide)
  show zW l m_Reader_readSum (zn Mz + 0, zw Mz + 0) N1_ 9 [some (.ref 4), some (.ref (d_ + 0)), some (.ref (d_ + 33)), none, none] [] _
  refine zw_aload_n (pc := 9) (n := 0) (x := 4) rfl (zdal_p dlA_Reader_readSum_109 (i := 5) rfl) ?_
  refine zw_iconst (pc := 10) (v := Int32.ofInt 0) (by decide) (zdal_p dlA_Reader_readSum_109 (i := 6) rfl) ?_
  refine zk_putA (pc := 11) (hf_N1_.w hW) (by decide) f_Reader_126 rfl rfl ((hf_N1_.w hW).ka (o := 4) (by decide)) ⟨by (decide), by (decide)⟩ rfl rfl (zdal_p dlA_Reader_readSum_109 (i := 7) rfl) (fun N3_ hsN3_ hvN3_ => ?_)
  have hf_N3_ : zFc d_ [(1, 2), (1, 3), (1, 4), (1, 5), (4, 1), (4, 2), (4, 3)] [] [(33, 2), (33, 3), (33, 4), (33, 5), (33, 6)] [25, 27, 35] Mz N3_ := hf_N1_.tr hsN3_ (by decide) (by decide) (by decide) (by decide)
  refine zw_iconst (pc := 14) (v := Int32.ofInt 1) (by decide) (zdal_p dlA_Reader_readSum_109 (i := 8) rfl) ?_
  refine zw_istore_n (pc := 15) (i := 3) (L2 := [some (.ref 4), some (.ref (d_ + 0)), some (.ref (d_ + 33)), some (.int (Int32.ofInt 1)), none]) rfl (by decide) rfl (zdal_p dlA_Reader_readSum_109 (i := 9) rfl) ?_
  refine zw_iconst (pc := 16) (v := Int32.ofInt 0) (by decide) (zdal_p dlA_Reader_readSum_109 (i := 10) rfl) ?_
  refine zw_istore (pc := 17) (i := 4) (L2 := [some (.ref 4), some (.ref (d_ + 0)), some (.ref (d_ + 33)), some (.int (Int32.ofInt 1)), some (.int (Int32.ofInt 0))]) (by decide) rfl (zdal_p dlA_Reader_readSum_109 (i := 11) rfl) ?_
  have lp_19 : ∀ (n : Nat) (u4_ : Int) (hu4_a : -2147483648 ≤ u4_) (hu4_b : u4_ < 2147483648) (hu4_z : u4_ = 0 ∨ u4_ = 1) (u5_ : Int) (hu5_a : -2147483648 ≤ u5_) (hu5_b : u5_ < 2147483648) (N6_ : zMem) (hs7_ : zFc d_ [(1, 2), (1, 3), (1, 4), (1, 5), (4, 1), (4, 2), (4, 3)] [] [(33, 2), (33, 3), (33, 4), (33, 5), (33, 6)] [25, 27, 35] N3_ N6_) (i8_ : 0 ≤ u5_), (30 + 1 - u5_).toNat < n → zW l m_Reader_readSum (zn Mz + 0, zw Mz + 0) N6_ 19 [some (.ref 4), some (.ref (d_ + 0)), some (.ref (d_ + 33)), some (.int (Int32.ofInt u4_)), some (.int (Int32.ofInt u5_))] [] (zqcI d_ [(1, 2), (1, 3), (1, 4), (1, 5), (4, 1), (4, 2), (4, 3)] [] [(33, 2), (33, 3), (33, 4), (33, 5), (33, 6)] [25, 27, 35] Mz (fun v N => ((v = 0 ∨ v = 1)))) := by
    intro n
    induction n with
    | zero =>
      intro u4_ hu4_a hu4_b hu4_z u5_ hu5_a hu5_b N6_ hs7_ i8_ h0
      exact absurd h0 (Nat.not_lt_zero _)
    | succ n ih_19 =>
      intro u4_ hu4_a hu4_b hu4_z u5_ hu5_a hu5_b N6_ hs7_ i8_ hlt_19
      have hf_N6_ : zFc d_ [(1, 2), (1, 3), (1, 4), (1, 5), (4, 1), (4, 2), (4, 3)] [] [(33, 2), (33, 3), (33, 4), (33, 5), (33, 6)] [25, 27, 35] Mz N6_ := hf_N3_.tr hs7_ (by decide) (by decide) (by decide) (by decide)
      refine zw_iload (pc := 19) (i := 4) (x := Int32.ofInt u5_) rfl (zdal_p dlA_Reader_readSum_109 (i := 12) rfl) ?_
      refine zw_bipush (pc := 21) (v := Int32.ofInt 30) (by decide) (zdal_p dlA_Reader_readSum_109 (i := 13) rfl) ?_
      refine zr_icmp_gt (pc := 23) (tgt := 126) ⟨hu5_a, hu5_b⟩ ⟨(by decide), (by decide)⟩ (by decide) (zdal_p dlA_Reader_readSum_109 (i := 14) rfl) (fun hc_23 => ?_) (fun hc_23 => ?_)
      · skip
        refine zw_aload_n (pc := 126) (n := 2) (x := (d_ + 33)) rfl (zdal_p dlA_Reader_readSum_111 (i := 14) rfl) ?_
        refine zk_getI (pc := 127) f_Reader_142 rfl ((hf_N6_.w hW).kr (o := 33) (by decide)) (zdal_p dlA_Reader_readSum_111 (i := 15) rfl) ?_
        have hr9_ := ze_r N6_ (d_ + 33) 5
        refine zr_if_le (pc := 130) (tgt := 139) ⟨(ze_r N6_ (d_ + 33) 5).1, (ze_r N6_ (d_ + 33) 5).2⟩ (by decide) (zdal_p dlA_Reader_readSum_111 (i := 16) rfl) (fun hc_130 => ?_) (fun hc_130 => ?_)
        · skip
          refine zw_aload_n (pc := 139) (n := 2) (x := (d_ + 33)) rfl (zdal_p dlA_Reader_readSum_111 (i := 21) rfl) ?_
          refine zw_iconst (pc := 140) (v := Int32.ofInt 0) (by decide) (zdal_p dlA_Reader_readSum_111 (i := 22) rfl) ?_
          refine zk_callV hf_N6_.x (pc := 141) [.int (Int32.ofInt 0)] [] l_Reader_145 (u_Calc_reckonX l d_ N6_ (hf_N6_.w hW) 0 (by decide) (by decide) (by (decide))) rfl rfl ((hf_N6_.w hW).kr (o := 33) (by decide)) (by decide) (by decide) (Nat.le_of_ble_eq_true rfl) (zdal_p dlA_Reader_readSum_111 (i := 23) rfl) ?_
          rintro _ N10_ ⟨rfl, hsN10_, -⟩
          have hf_N10_ : zFc d_ [(1, 2), (1, 3), (1, 4), (1, 5), (4, 1), (4, 2), (4, 3)] [] [(33, 2), (33, 3), (33, 4), (33, 5), (33, 6)] [25, 27, 35] Mz N10_ := hf_N6_.tr hsN10_ (by decide) (by decide) (by decide) (by decide)
          show zW l m_Reader_readSum (zn Mz + 0, zw Mz + 0) N10_ 144 [some (.ref 4), some (.ref (d_ + 0)), some (.ref (d_ + 33)), some (.int (Int32.ofInt u4_)), some (.int (Int32.ofInt u5_))] [] _
          refine zw_iconst (pc := 144) (v := Int32.ofInt 1) (by decide) (zdal_p dlA_Reader_readSum_112 (i := 0) rfl) ?_
          exact zk_iret (pc := 145) (ty := .boolean) rfl (z_narB (by (decide))) ⟨by (decide), by (decide)⟩ hf_N10_ (show (((1 : Int)) = 0 ∨ ((1 : Int)) = 1) by first | with_reducible assumption | (decide) | assumption) (zdal_p dlA_Reader_readSum_112 (i := 1) rfl)
        · skip
          refine zw_aload_n (pc := 133) (n := 0) (x := 4) rfl (zdal_p dlA_Reader_readSum_111 (i := 17) rfl) ?_
          refine zw_iconst (pc := 134) (v := Int32.ofInt 2) (by decide) (zdal_p dlA_Reader_readSum_111 (i := 18) rfl) ?_
          refine zk_callV hf_N6_.x (pc := 135) [.int (Int32.ofInt 2)] [] l_Reader_41 (u_Reader_refuseX l d_ N6_ (hf_N6_.w hW) 2 (by decide) (by decide)) rfl rfl ((hf_N6_.w hW).ka (o := 4) (by decide)) (by decide) (by decide) (Nat.le_of_ble_eq_true rfl) (zdal_p dlA_Reader_readSum_111 (i := 19) rfl) ?_
          rintro _ N12_ ⟨v13_, rfl, ⟨hv13_a, hv13_b⟩, hsN12_, hp0_N12_⟩
          replace hp0_N12_ : (v13_ = 0 ∨ v13_ = 1) := hp0_N12_
          have hf_N12_ : zFc d_ [(1, 2), (1, 3), (1, 4), (1, 5), (4, 1), (4, 2), (4, 3)] [] [(33, 2), (33, 3), (33, 4), (33, 5), (33, 6)] [25, 27, 35] Mz N12_ := hf_N6_.tr hsN12_ (by decide) (by decide) (by decide) (by decide)
          show zW l m_Reader_readSum (zn Mz + 0, zw Mz + 0) N12_ 138 [some (.ref 4), some (.ref (d_ + 0)), some (.ref (d_ + 33)), some (.int (Int32.ofInt u4_)), some (.int (Int32.ofInt u5_))] [.int (Int32.ofInt v13_)] _
          exact zk_iret (pc := 138) (ty := .boolean) rfl (z_narB (by (exact hp0_N12_))) ⟨by (exact hv13_a), by (exact hv13_b)⟩ hf_N12_ (show (v13_ = 0 ∨ v13_ = 1) by first | with_reducible assumption | assumption | omega) (zdal_p dlA_Reader_readSum_111 (i := 20) rfl)
      · skip
        refine zw_iload_n (pc := 26) (n := 3) (x := Int32.ofInt u4_) rfl (zdal_p dlA_Reader_readSum_109 (i := 15) rfl) ?_
        refine zr_if_eq (pc := 27) (tgt := 126) ⟨hu4_a, hu4_b⟩ (by decide) (zdal_p dlA_Reader_readSum_109 (i := 16) rfl) (fun hc_27 => ?_) (fun hc_27 => ?_)
        · skip
          refine zw_aload_n (pc := 126) (n := 2) (x := (d_ + 33)) rfl (zdal_p dlA_Reader_readSum_111 (i := 14) rfl) ?_
          refine zk_getI (pc := 127) f_Reader_142 rfl ((hf_N6_.w hW).kr (o := 33) (by decide)) (zdal_p dlA_Reader_readSum_111 (i := 15) rfl) ?_
          have hr14_ := ze_r N6_ (d_ + 33) 5
          refine zr_if_le (pc := 130) (tgt := 139) ⟨(ze_r N6_ (d_ + 33) 5).1, (ze_r N6_ (d_ + 33) 5).2⟩ (by decide) (zdal_p dlA_Reader_readSum_111 (i := 16) rfl) (fun hc_130 => ?_) (fun hc_130 => ?_)
          · skip
            refine zw_aload_n (pc := 139) (n := 2) (x := (d_ + 33)) rfl (zdal_p dlA_Reader_readSum_111 (i := 21) rfl) ?_
            refine zw_iconst (pc := 140) (v := Int32.ofInt 0) (by decide) (zdal_p dlA_Reader_readSum_111 (i := 22) rfl) ?_
            refine zk_callV hf_N6_.x (pc := 141) [.int (Int32.ofInt 0)] [] l_Reader_145 (u_Calc_reckonX l d_ N6_ (hf_N6_.w hW) 0 (by decide) (by decide) (by (decide))) rfl rfl ((hf_N6_.w hW).kr (o := 33) (by decide)) (by decide) (by decide) (Nat.le_of_ble_eq_true rfl) (zdal_p dlA_Reader_readSum_111 (i := 23) rfl) ?_
            rintro _ N15_ ⟨rfl, hsN15_, -⟩
            have hf_N15_ : zFc d_ [(1, 2), (1, 3), (1, 4), (1, 5), (4, 1), (4, 2), (4, 3)] [] [(33, 2), (33, 3), (33, 4), (33, 5), (33, 6)] [25, 27, 35] Mz N15_ := hf_N6_.tr hsN15_ (by decide) (by decide) (by decide) (by decide)
            show zW l m_Reader_readSum (zn Mz + 0, zw Mz + 0) N15_ 144 [some (.ref 4), some (.ref (d_ + 0)), some (.ref (d_ + 33)), some (.int (Int32.ofInt u4_)), some (.int (Int32.ofInt u5_))] [] _
            refine zw_iconst (pc := 144) (v := Int32.ofInt 1) (by decide) (zdal_p dlA_Reader_readSum_112 (i := 0) rfl) ?_
            exact zk_iret (pc := 145) (ty := .boolean) rfl (z_narB (by (decide))) ⟨by (decide), by (decide)⟩ hf_N15_ (show (((1 : Int)) = 0 ∨ ((1 : Int)) = 1) by first | with_reducible assumption | (decide) | assumption) (zdal_p dlA_Reader_readSum_112 (i := 1) rfl)
          · skip
            refine zw_aload_n (pc := 133) (n := 0) (x := 4) rfl (zdal_p dlA_Reader_readSum_111 (i := 17) rfl) ?_
            refine zw_iconst (pc := 134) (v := Int32.ofInt 2) (by decide) (zdal_p dlA_Reader_readSum_111 (i := 18) rfl) ?_
            refine zk_callV hf_N6_.x (pc := 135) [.int (Int32.ofInt 2)] [] l_Reader_41 (u_Reader_refuseX l d_ N6_ (hf_N6_.w hW) 2 (by decide) (by decide)) rfl rfl ((hf_N6_.w hW).ka (o := 4) (by decide)) (by decide) (by decide) (Nat.le_of_ble_eq_true rfl) (zdal_p dlA_Reader_readSum_111 (i := 19) rfl) ?_
            rintro _ N17_ ⟨v18_, rfl, ⟨hv18_a, hv18_b⟩, hsN17_, hp0_N17_⟩
            replace hp0_N17_ : (v18_ = 0 ∨ v18_ = 1) := hp0_N17_
            have hf_N17_ : zFc d_ [(1, 2), (1, 3), (1, 4), (1, 5), (4, 1), (4, 2), (4, 3)] [] [(33, 2), (33, 3), (33, 4), (33, 5), (33, 6)] [25, 27, 35] Mz N17_ := hf_N6_.tr hsN17_ (by decide) (by decide) (by decide) (by decide)
            show zW l m_Reader_readSum (zn Mz + 0, zw Mz + 0) N17_ 138 [some (.ref 4), some (.ref (d_ + 0)), some (.ref (d_ + 33)), some (.int (Int32.ofInt u4_)), some (.int (Int32.ofInt u5_))] [.int (Int32.ofInt v18_)] _
            exact zk_iret (pc := 138) (ty := .boolean) rfl (z_narB (by (exact hp0_N17_))) ⟨by (exact hv18_a), by (exact hv18_b)⟩ hf_N17_ (show (v18_ = 0 ∨ v18_ = 1) by first | with_reducible assumption | assumption | omega) (zdal_p dlA_Reader_readSum_111 (i := 20) rfl)
        · skip
          refine zw_aload_n (pc := 30) (n := 0) (x := 4) rfl (zdal_p dlA_Reader_readSum_109 (i := 17) rfl) ?_
          refine zw_aload_n (pc := 31) (n := 2) (x := (d_ + 33)) rfl (zdal_p dlA_Reader_readSum_109 (i := 18) rfl) ?_
          refine zk_callV hf_N6_.x (pc := 32) [.ref (d_ + 33)] [] l_Reader_129 (u_Reader_readAheadX l d_ N6_ (hf_N6_.w hW) ) rfl rfl ((hf_N6_.w hW).ka (o := 4) (by decide)) (by decide) (by decide) (Nat.le_of_ble_eq_true rfl) (zdal_p dlA_Reader_readSum_109 (i := 19) rfl) ?_
          rintro _ N19_ ⟨v20_, rfl, ⟨hv20_a, hv20_b⟩, hsN19_, hp0_N19_⟩
          replace hp0_N19_ : (v20_ = 0 ∨ v20_ = 1) := hp0_N19_
          have hf_N19_ : zFc d_ [(1, 2), (1, 3), (1, 4), (1, 5), (4, 1), (4, 2), (4, 3)] [] [(33, 2), (33, 3), (33, 4), (33, 5), (33, 6)] [25, 27, 35] Mz N19_ := hf_N6_.tr hsN19_ (by decide) (by decide) (by decide) (by decide)
          have hb0_N19_ : zFc d_ [(1, 2), (1, 3), (1, 4), (1, 5), (4, 1), (4, 2), (4, 3)] [] [(33, 2), (33, 3), (33, 4), (33, 5), (33, 6)] [25, 27, 35] N3_ N19_ := hs7_.tr hsN19_ (by decide) (by decide) (by decide) (by decide)
          show zW l m_Reader_readSum (zn Mz + 0, zw Mz + 0) N19_ 35 [some (.ref 4), some (.ref (d_ + 0)), some (.ref (d_ + 33)), some (.int (Int32.ofInt u4_)), some (.int (Int32.ofInt u5_))] [.int (Int32.ofInt v20_)] _
          refine zr_if_eq (pc := 35) (tgt := 54) ⟨hv20_a, hv20_b⟩ (by decide) (zdal_p dlA_Reader_readSum_109 (i := 20) rfl) (fun hc_35 => ?_) (fun hc_35 => ?_)
          · skip
            refine zw_iconst (pc := 54) (v := Int32.ofInt 0) (by decide) d_Reader_readSum_54 ?_
            exact zk_iret (pc := 55) (ty := .boolean) rfl (z_narB (by (decide))) ⟨by (decide), by (decide)⟩ hf_N19_ (show (((0 : Int)) = 0 ∨ ((0 : Int)) = 1) by first | with_reducible assumption | (decide) | assumption) d_Reader_readSum_55
          · skip
            refine zw_aload_n (pc := 38) (n := 0) (x := 4) rfl (zdal_p dlA_Reader_readSum_109 (i := 21) rfl) ?_
            refine zw_aload_n (pc := 39) (n := 1) (x := (d_ + 0)) rfl (zdal_p dlA_Reader_readSum_109 (i := 22) rfl) ?_
            refine zk_callV hf_N19_.x (pc := 40) [.ref (d_ + 0)] [] l_Reader_133 (u_Reader_readOperandX l d_ N19_ (hf_N19_.w hW) ) rfl rfl ((hf_N19_.w hW).ka (o := 4) (by decide)) (by decide) (by decide) (Nat.le_of_ble_eq_true rfl) (zdal_p dlA_Reader_readSum_109 (i := 23) rfl) ?_
            rintro _ N21_ ⟨v22_, rfl, ⟨hv22_a, hv22_b⟩, hsN21_, hp0_N21_⟩
            replace hp0_N21_ : (v22_ = 0 ∨ v22_ = 1) := hp0_N21_
            have hf_N21_ : zFc d_ [(1, 2), (1, 3), (1, 4), (1, 5), (4, 1), (4, 2), (4, 3)] [] [(33, 2), (33, 3), (33, 4), (33, 5), (33, 6)] [25, 27, 35] Mz N21_ := hf_N19_.tr hsN21_ (by decide) (by decide) (by decide) (by decide)
            have hb0_N21_ : zFc d_ [(1, 2), (1, 3), (1, 4), (1, 5), (4, 1), (4, 2), (4, 3)] [] [(33, 2), (33, 3), (33, 4), (33, 5), (33, 6)] [25, 27, 35] N3_ N21_ := hb0_N19_.tr hsN21_ (by decide) (by decide) (by decide) (by decide)
            show zW l m_Reader_readSum (zn Mz + 0, zw Mz + 0) N21_ 43 [some (.ref 4), some (.ref (d_ + 0)), some (.ref (d_ + 33)), some (.int (Int32.ofInt u4_)), some (.int (Int32.ofInt u5_))] [.int (Int32.ofInt v22_)] _
            refine zr_if_eq (pc := 43) (tgt := 54) ⟨hv22_a, hv22_b⟩ (by decide) (zdal_p dlA_Reader_readSum_110 (i := 0) rfl) (fun hc_43 => ?_) (fun hc_43 => ?_)
            · skip
              refine zw_iconst (pc := 54) (v := Int32.ofInt 0) (by decide) d_Reader_readSum_54 ?_
              exact zk_iret (pc := 55) (ty := .boolean) rfl (z_narB (by (decide))) ⟨by (decide), by (decide)⟩ hf_N21_ (show (((0 : Int)) = 0 ∨ ((0 : Int)) = 1) by first | with_reducible assumption | (decide) | assumption) d_Reader_readSum_55
            · skip
              refine zw_aload_n (pc := 46) (n := 0) (x := 4) rfl (zdal_p dlA_Reader_readSum_110 (i := 1) rfl) ?_
              refine zw_aload_n (pc := 47) (n := 2) (x := (d_ + 33)) rfl (zdal_p dlA_Reader_readSum_110 (i := 2) rfl) ?_
              refine zk_callV hf_N21_.x (pc := 48) [.ref (d_ + 33)] [] l_Reader_136 (u_Reader_readBehindX l d_ N21_ (hf_N21_.w hW) ) rfl rfl ((hf_N21_.w hW).ka (o := 4) (by decide)) (by decide) (by decide) (Nat.le_of_ble_eq_true rfl) (zdal_p dlA_Reader_readSum_110 (i := 3) rfl) ?_
              rintro _ N23_ ⟨v24_, rfl, ⟨hv24_a, hv24_b⟩, hsN23_, hp0_N23_⟩
              replace hp0_N23_ : (v24_ = 0 ∨ v24_ = 1) := hp0_N23_
              have hf_N23_ : zFc d_ [(1, 2), (1, 3), (1, 4), (1, 5), (4, 1), (4, 2), (4, 3)] [] [(33, 2), (33, 3), (33, 4), (33, 5), (33, 6)] [25, 27, 35] Mz N23_ := hf_N21_.tr hsN23_ (by decide) (by decide) (by decide) (by decide)
              have hb0_N23_ : zFc d_ [(1, 2), (1, 3), (1, 4), (1, 5), (4, 1), (4, 2), (4, 3)] [] [(33, 2), (33, 3), (33, 4), (33, 5), (33, 6)] [25, 27, 35] N3_ N23_ := hb0_N21_.tr hsN23_ (by decide) (by decide) (by decide) (by decide)
              show zW l m_Reader_readSum (zn Mz + 0, zw Mz + 0) N23_ 51 [some (.ref 4), some (.ref (d_ + 0)), some (.ref (d_ + 33)), some (.int (Int32.ofInt u4_)), some (.int (Int32.ofInt u5_))] [.int (Int32.ofInt v24_)] _
              refine zr_if_ne (pc := 51) (tgt := 56) ⟨hv24_a, hv24_b⟩ (by decide) (zdal_p dlA_Reader_readSum_110 (i := 4) rfl) (fun hc_51 => ?_) (fun hc_51 => ?_)
              · skip
                refine zw_aload_n (pc := 56) (n := 0) (x := 4) rfl (zdal_p dlA_Reader_readSum_110 (i := 7) rfl) ?_
                refine zw_getF (pc := 57) f_Reader_15 rfl ((hf_N23_.w hW).ka (o := 4) (by decide)) ((hf_N23_.w hW).la (o := 4) (s := 0) (r := 1) (by decide)) (zdal_p dlA_Reader_readSum_110 (i := 8) rfl) ?_
                refine zw_bipush (pc := 60) (v := Int32.ofInt 43) (by decide) (zdal_p dlA_Reader_readSum_110 (i := 9) rfl) ?_
                refine zk_callV hf_N23_.x (pc := 62) [.int (Int32.ofInt 43)] [] l_Reader_37 (u_Tokens_isSignX l d_ N23_ (hf_N23_.w hW) 43 (by decide) (by decide)) rfl rfl ((hf_N23_.w hW).ka (o := 1) (by decide)) (by decide) (by decide) (Nat.le_of_ble_eq_true rfl) (zdal_p dlA_Reader_readSum_110 (i := 10) rfl) ?_
                rintro _ N25_ ⟨v26_, rfl, ⟨hv26_a, hv26_b⟩, hsN25_, hp0_N25_⟩
                obtain rfl := hsN25_.eq.symm
                replace hp0_N25_ : (v26_ = 0 ∨ v26_ = 1) := hp0_N25_
                show zW l m_Reader_readSum (zn Mz + 0, zw Mz + 0) N23_ 65 [some (.ref 4), some (.ref (d_ + 0)), some (.ref (d_ + 33)), some (.int (Int32.ofInt u4_)), some (.int (Int32.ofInt u5_))] [.int (Int32.ofInt v26_)] _
                refine zr_if_ne (pc := 65) (tgt := 92) ⟨hv26_a, hv26_b⟩ (by decide) (zdal_p dlA_Reader_readSum_110 (i := 11) rfl) (fun hc_65 => ?_) (fun hc_65 => ?_)
                · skip
                  refine zw_iconst (pc := 92) (v := Int32.ofInt 1) (by decide) d_Reader_readSum_92 ?_
                  refine zw_goto (pc := 93) (tgt := 97) (by decide) d_Reader_readSum_93 ?_
                  refine zw_istore_n (pc := 97) (i := 3) (L2 := [some (.ref 4), some (.ref (d_ + 0)), some (.ref (d_ + 33)), some (.int (Int32.ofInt 1)), some (.int (Int32.ofInt u5_))]) rfl (by decide) rfl d_Reader_readSum_97 ?_
                  refine zw_iload_n (pc := 98) (n := 3) (x := Int32.ofInt 1) rfl d_Reader_readSum_98 ?_
                  refine zr_if_eq (pc := 99) (tgt := 120) ⟨(by decide), (by decide)⟩ (by decide) d_Reader_readSum_99 (fun hc_99 => ?_) (fun hc_99 => ?_)
                  · skip
                    exact absurd hc_99 (by decide)
                  · skip
                    refine zw_aload_n (pc := 102) (n := 2) (x := (d_ + 33)) rfl d_Reader_readSum_102 ?_
                    refine zw_aload_n (pc := 103) (n := 0) (x := 4) rfl d_Reader_readSum_103 ?_
                    refine zw_getF (pc := 104) f_Reader_15 rfl ((hf_N23_.w hW).ka (o := 4) (by decide)) ((hf_N23_.w hW).la (o := 4) (s := 0) (r := 1) (by decide)) d_Reader_readSum_104 ?_
                    refine zk_getI (pc := 107) f_Reader_57 rfl ((hf_N23_.w hW).ka (o := 1) (by decide)) d_Reader_readSum_107 ?_
                    have hr27_ := ze_r N23_ 1 5
                    refine zk_callV hf_N23_.x (pc := 110) [.int (Int32.ofInt (ze N23_ 1 5))] [] l_Reader_139 (u_Calc_putX l d_ N23_ (hf_N23_.w hW) (ze N23_ 1 5) (ze_r N23_ 1 5).1 (ze_r N23_ 1 5).2) rfl rfl ((hf_N23_.w hW).kr (o := 33) (by decide)) (by decide) (by decide) (Nat.le_of_ble_eq_true rfl) d_Reader_readSum_110 ?_
                    rintro _ N28_ ⟨rfl, hsN28_, -⟩
                    have hf_N28_ : zFc d_ [(1, 2), (1, 3), (1, 4), (1, 5), (4, 1), (4, 2), (4, 3)] [] [(33, 2), (33, 3), (33, 4), (33, 5), (33, 6)] [25, 27, 35] Mz N28_ := hf_N23_.tr hsN28_ (by decide) (by decide) (by decide) (by decide)
                    have hb0_N28_ : zFc d_ [(1, 2), (1, 3), (1, 4), (1, 5), (4, 1), (4, 2), (4, 3)] [] [(33, 2), (33, 3), (33, 4), (33, 5), (33, 6)] [25, 27, 35] N3_ N28_ := hb0_N23_.tr hsN28_ (by decide) (by decide) (by decide) (by decide)
                    show zW l m_Reader_readSum (zn Mz + 0, zw Mz + 0) N28_ 113 [some (.ref 4), some (.ref (d_ + 0)), some (.ref (d_ + 33)), some (.int (Int32.ofInt 1)), some (.int (Int32.ofInt u5_))] [] _
                    refine zw_aload_n (pc := 113) (n := 0) (x := 4) rfl d_Reader_readSum_113 ?_
                    refine zw_getF (pc := 114) f_Reader_15 rfl ((hf_N28_.w hW).ka (o := 4) (by decide)) ((hf_N28_.w hW).la (o := 4) (s := 0) (r := 1) (by decide)) d_Reader_readSum_114 ?_
                    refine zk_callV hf_N28_.x (pc := 117) [] [] l_Reader_44 (u_Tokens_stepX l d_ N28_ (hf_N28_.w hW) ) rfl rfl ((hf_N28_.w hW).ka (o := 1) (by decide)) (by decide) (by decide) (Nat.le_of_ble_eq_true rfl) d_Reader_readSum_117 ?_
                    rintro _ N30_ ⟨rfl, hsN30_, -⟩
                    have hf_N30_ : zFc d_ [(1, 2), (1, 3), (1, 4), (1, 5), (4, 1), (4, 2), (4, 3)] [] [(33, 2), (33, 3), (33, 4), (33, 5), (33, 6)] [25, 27, 35] Mz N30_ := hf_N28_.tr hsN30_ (by decide) (by decide) (by decide) (by decide)
                    have hb0_N30_ : zFc d_ [(1, 2), (1, 3), (1, 4), (1, 5), (4, 1), (4, 2), (4, 3)] [] [(33, 2), (33, 3), (33, 4), (33, 5), (33, 6)] [25, 27, 35] N3_ N30_ := hb0_N28_.tr hsN30_ (by decide) (by decide) (by decide) (by decide)
                    show zW l m_Reader_readSum (zn Mz + 0, zw Mz + 0) N30_ 120 [some (.ref 4), some (.ref (d_ + 0)), some (.ref (d_ + 33)), some (.int (Int32.ofInt 1)), some (.int (Int32.ofInt u5_))] [] _
                    refine zr_iinc (pc := 120) (i := 4) (a := u5_) (n := 1) (L2 := [some (.ref 4), some (.ref (d_ + 0)), some (.ref (d_ + 33)), some (.int (Int32.ofInt 1)), some (.int (Int32.ofInt (u5_ + 1)))]) rfl (by decide) rfl d_Reader_readSum_120 ?_
                    obtain ⟨v32_, hv32_a, hv32_b, hv32_e, hv32_d⟩ := zk_gen (u5_ + 1)
                    rw [hv32_e]
                    refine zw_goto (pc := 123) (tgt := 19) (by decide) d_Reader_readSum_123 ?_
                    exact ih_19 1 (by decide) (by decide) (by (decide)) v32_ hv32_a hv32_b N30_ hb0_N30_ (show 0 ≤ v32_ by first | with_reducible assumption | assumption | omega) (by omega)
                · skip
                  refine zw_aload_n (pc := 68) (n := 0) (x := 4) rfl (zdal_p dlA_Reader_readSum_110 (i := 12) rfl) ?_
                  refine zw_getF (pc := 69) f_Reader_15 rfl ((hf_N23_.w hW).ka (o := 4) (by decide)) ((hf_N23_.w hW).la (o := 4) (s := 0) (r := 1) (by decide)) (zdal_p dlA_Reader_readSum_110 (i := 13) rfl) ?_
                  refine zw_bipush (pc := 72) (v := Int32.ofInt 45) (by decide) (zdal_p dlA_Reader_readSum_110 (i := 14) rfl) ?_
                  refine zk_callV hf_N23_.x (pc := 74) [.int (Int32.ofInt 45)] [] l_Reader_37 (u_Tokens_isSignX l d_ N23_ (hf_N23_.w hW) 45 (by decide) (by decide)) rfl rfl ((hf_N23_.w hW).ka (o := 1) (by decide)) (by decide) (by decide) (Nat.le_of_ble_eq_true rfl) (zdal_p dlA_Reader_readSum_110 (i := 15) rfl) ?_
                  rintro _ N33_ ⟨v34_, rfl, ⟨hv34_a, hv34_b⟩, hsN33_, hp0_N33_⟩
                  obtain rfl := hsN33_.eq.symm
                  replace hp0_N33_ : (v34_ = 0 ∨ v34_ = 1) := hp0_N33_
                  show zW l m_Reader_readSum (zn Mz + 0, zw Mz + 0) N23_ 77 [some (.ref 4), some (.ref (d_ + 0)), some (.ref (d_ + 33)), some (.int (Int32.ofInt u4_)), some (.int (Int32.ofInt u5_))] [.int (Int32.ofInt v34_)] _
                  refine zr_if_ne (pc := 77) (tgt := 92) ⟨hv34_a, hv34_b⟩ (by decide) (zdal_p dlA_Reader_readSum_110 (i := 16) rfl) (fun hc_77 => ?_) (fun hc_77 => ?_)
                  · skip
                    refine zw_iconst (pc := 92) (v := Int32.ofInt 1) (by decide) d_Reader_readSum_92 ?_
                    refine zw_goto (pc := 93) (tgt := 97) (by decide) d_Reader_readSum_93 ?_
                    refine zw_istore_n (pc := 97) (i := 3) (L2 := [some (.ref 4), some (.ref (d_ + 0)), some (.ref (d_ + 33)), some (.int (Int32.ofInt 1)), some (.int (Int32.ofInt u5_))]) rfl (by decide) rfl d_Reader_readSum_97 ?_
                    refine zw_iload_n (pc := 98) (n := 3) (x := Int32.ofInt 1) rfl d_Reader_readSum_98 ?_
                    refine zr_if_eq (pc := 99) (tgt := 120) ⟨(by decide), (by decide)⟩ (by decide) d_Reader_readSum_99 (fun hc_99 => ?_) (fun hc_99 => ?_)
                    · skip
                      exact absurd hc_99 (by decide)
                    · skip
                      refine zw_aload_n (pc := 102) (n := 2) (x := (d_ + 33)) rfl d_Reader_readSum_102 ?_
                      refine zw_aload_n (pc := 103) (n := 0) (x := 4) rfl d_Reader_readSum_103 ?_
                      refine zw_getF (pc := 104) f_Reader_15 rfl ((hf_N23_.w hW).ka (o := 4) (by decide)) ((hf_N23_.w hW).la (o := 4) (s := 0) (r := 1) (by decide)) d_Reader_readSum_104 ?_
                      refine zk_getI (pc := 107) f_Reader_57 rfl ((hf_N23_.w hW).ka (o := 1) (by decide)) d_Reader_readSum_107 ?_
                      have hr35_ := ze_r N23_ 1 5
                      refine zk_callV hf_N23_.x (pc := 110) [.int (Int32.ofInt (ze N23_ 1 5))] [] l_Reader_139 (u_Calc_putX l d_ N23_ (hf_N23_.w hW) (ze N23_ 1 5) (ze_r N23_ 1 5).1 (ze_r N23_ 1 5).2) rfl rfl ((hf_N23_.w hW).kr (o := 33) (by decide)) (by decide) (by decide) (Nat.le_of_ble_eq_true rfl) d_Reader_readSum_110 ?_
                      rintro _ N36_ ⟨rfl, hsN36_, -⟩
                      have hf_N36_ : zFc d_ [(1, 2), (1, 3), (1, 4), (1, 5), (4, 1), (4, 2), (4, 3)] [] [(33, 2), (33, 3), (33, 4), (33, 5), (33, 6)] [25, 27, 35] Mz N36_ := hf_N23_.tr hsN36_ (by decide) (by decide) (by decide) (by decide)
                      have hb0_N36_ : zFc d_ [(1, 2), (1, 3), (1, 4), (1, 5), (4, 1), (4, 2), (4, 3)] [] [(33, 2), (33, 3), (33, 4), (33, 5), (33, 6)] [25, 27, 35] N3_ N36_ := hb0_N23_.tr hsN36_ (by decide) (by decide) (by decide) (by decide)
                      show zW l m_Reader_readSum (zn Mz + 0, zw Mz + 0) N36_ 113 [some (.ref 4), some (.ref (d_ + 0)), some (.ref (d_ + 33)), some (.int (Int32.ofInt 1)), some (.int (Int32.ofInt u5_))] [] _
                      refine zw_aload_n (pc := 113) (n := 0) (x := 4) rfl d_Reader_readSum_113 ?_
                      refine zw_getF (pc := 114) f_Reader_15 rfl ((hf_N36_.w hW).ka (o := 4) (by decide)) ((hf_N36_.w hW).la (o := 4) (s := 0) (r := 1) (by decide)) d_Reader_readSum_114 ?_
                      refine zk_callV hf_N36_.x (pc := 117) [] [] l_Reader_44 (u_Tokens_stepX l d_ N36_ (hf_N36_.w hW) ) rfl rfl ((hf_N36_.w hW).ka (o := 1) (by decide)) (by decide) (by decide) (Nat.le_of_ble_eq_true rfl) d_Reader_readSum_117 ?_
                      rintro _ N38_ ⟨rfl, hsN38_, -⟩
                      have hf_N38_ : zFc d_ [(1, 2), (1, 3), (1, 4), (1, 5), (4, 1), (4, 2), (4, 3)] [] [(33, 2), (33, 3), (33, 4), (33, 5), (33, 6)] [25, 27, 35] Mz N38_ := hf_N36_.tr hsN38_ (by decide) (by decide) (by decide) (by decide)
                      have hb0_N38_ : zFc d_ [(1, 2), (1, 3), (1, 4), (1, 5), (4, 1), (4, 2), (4, 3)] [] [(33, 2), (33, 3), (33, 4), (33, 5), (33, 6)] [25, 27, 35] N3_ N38_ := hb0_N36_.tr hsN38_ (by decide) (by decide) (by decide) (by decide)
                      show zW l m_Reader_readSum (zn Mz + 0, zw Mz + 0) N38_ 120 [some (.ref 4), some (.ref (d_ + 0)), some (.ref (d_ + 33)), some (.int (Int32.ofInt 1)), some (.int (Int32.ofInt u5_))] [] _
                      refine zr_iinc (pc := 120) (i := 4) (a := u5_) (n := 1) (L2 := [some (.ref 4), some (.ref (d_ + 0)), some (.ref (d_ + 33)), some (.int (Int32.ofInt 1)), some (.int (Int32.ofInt (u5_ + 1)))]) rfl (by decide) rfl d_Reader_readSum_120 ?_
                      obtain ⟨v40_, hv40_a, hv40_b, hv40_e, hv40_d⟩ := zk_gen (u5_ + 1)
                      rw [hv40_e]
                      refine zw_goto (pc := 123) (tgt := 19) (by decide) d_Reader_readSum_123 ?_
                      exact ih_19 1 (by decide) (by decide) (by (decide)) v40_ hv40_a hv40_b N38_ hb0_N38_ (show 0 ≤ v40_ by first | with_reducible assumption | assumption | omega) (by omega)
                  · skip
                    refine zw_aload_n (pc := 80) (n := 0) (x := 4) rfl (zdal_p dlA_Reader_readSum_110 (i := 17) rfl) ?_
                    refine zw_getF (pc := 81) f_Reader_15 rfl ((hf_N23_.w hW).ka (o := 4) (by decide)) ((hf_N23_.w hW).la (o := 4) (s := 0) (r := 1) (by decide)) (zdal_p dlA_Reader_readSum_110 (i := 18) rfl) ?_
                    refine zw_bipush (pc := 84) (v := Int32.ofInt 42) (by decide) (zdal_p dlA_Reader_readSum_110 (i := 19) rfl) ?_
                    refine zk_callV hf_N23_.x (pc := 86) [.int (Int32.ofInt 42)] [] l_Reader_37 (u_Tokens_isSignX l d_ N23_ (hf_N23_.w hW) 42 (by decide) (by decide)) rfl rfl ((hf_N23_.w hW).ka (o := 1) (by decide)) (by decide) (by decide) (Nat.le_of_ble_eq_true rfl) (zdal_p dlA_Reader_readSum_110 (i := 20) rfl) ?_
                    rintro _ N41_ ⟨v42_, rfl, ⟨hv42_a, hv42_b⟩, hsN41_, hp0_N41_⟩
                    obtain rfl := hsN41_.eq.symm
                    replace hp0_N41_ : (v42_ = 0 ∨ v42_ = 1) := hp0_N41_
                    show zW l m_Reader_readSum (zn Mz + 0, zw Mz + 0) N23_ 89 [some (.ref 4), some (.ref (d_ + 0)), some (.ref (d_ + 33)), some (.int (Int32.ofInt u4_)), some (.int (Int32.ofInt u5_))] [.int (Int32.ofInt v42_)] _
                    refine zr_if_eq (pc := 89) (tgt := 96) ⟨hv42_a, hv42_b⟩ (by decide) (zdal_p dlA_Reader_readSum_110 (i := 21) rfl) (fun hc_89 => ?_) (fun hc_89 => ?_)
                    · skip
                      refine zw_iconst (pc := 96) (v := Int32.ofInt 0) (by decide) (zdal_p dlA_Reader_readSum_111 (i := 0) rfl) ?_
                      refine zw_istore_n (pc := 97) (i := 3) (L2 := [some (.ref 4), some (.ref (d_ + 0)), some (.ref (d_ + 33)), some (.int (Int32.ofInt 0)), some (.int (Int32.ofInt u5_))]) rfl (by decide) rfl d_Reader_readSum_97 ?_
                      refine zw_iload_n (pc := 98) (n := 3) (x := Int32.ofInt 0) rfl d_Reader_readSum_98 ?_
                      refine zr_if_eq (pc := 99) (tgt := 120) ⟨(by decide), (by decide)⟩ (by decide) d_Reader_readSum_99 (fun hc_99 => ?_) (fun hc_99 => ?_)
                      · skip
                        refine zr_iinc (pc := 120) (i := 4) (a := u5_) (n := 1) (L2 := [some (.ref 4), some (.ref (d_ + 0)), some (.ref (d_ + 33)), some (.int (Int32.ofInt 0)), some (.int (Int32.ofInt (u5_ + 1)))]) rfl (by decide) rfl d_Reader_readSum_120 ?_
                        obtain ⟨v43_, hv43_a, hv43_b, hv43_e, hv43_d⟩ := zk_gen (u5_ + 1)
                        rw [hv43_e]
                        refine zw_goto (pc := 123) (tgt := 19) (by decide) d_Reader_readSum_123 ?_
                        exact ih_19 0 (by decide) (by decide) (by (decide)) v43_ hv43_a hv43_b N23_ hb0_N23_ (show 0 ≤ v43_ by first | with_reducible assumption | assumption | omega) (by omega)
                      · skip
                        exact absurd hc_99 (by decide)
                    · skip
                      refine zw_iconst (pc := 92) (v := Int32.ofInt 1) (by decide) d_Reader_readSum_92 ?_
                      refine zw_goto (pc := 93) (tgt := 97) (by decide) d_Reader_readSum_93 ?_
                      refine zw_istore_n (pc := 97) (i := 3) (L2 := [some (.ref 4), some (.ref (d_ + 0)), some (.ref (d_ + 33)), some (.int (Int32.ofInt 1)), some (.int (Int32.ofInt u5_))]) rfl (by decide) rfl d_Reader_readSum_97 ?_
                      refine zw_iload_n (pc := 98) (n := 3) (x := Int32.ofInt 1) rfl d_Reader_readSum_98 ?_
                      refine zr_if_eq (pc := 99) (tgt := 120) ⟨(by decide), (by decide)⟩ (by decide) d_Reader_readSum_99 (fun hc_99 => ?_) (fun hc_99 => ?_)
                      · skip
                        exact absurd hc_99 (by decide)
                      · skip
                        refine zw_aload_n (pc := 102) (n := 2) (x := (d_ + 33)) rfl d_Reader_readSum_102 ?_
                        refine zw_aload_n (pc := 103) (n := 0) (x := 4) rfl d_Reader_readSum_103 ?_
                        refine zw_getF (pc := 104) f_Reader_15 rfl ((hf_N23_.w hW).ka (o := 4) (by decide)) ((hf_N23_.w hW).la (o := 4) (s := 0) (r := 1) (by decide)) d_Reader_readSum_104 ?_
                        refine zk_getI (pc := 107) f_Reader_57 rfl ((hf_N23_.w hW).ka (o := 1) (by decide)) d_Reader_readSum_107 ?_
                        have hr44_ := ze_r N23_ 1 5
                        refine zk_callV hf_N23_.x (pc := 110) [.int (Int32.ofInt (ze N23_ 1 5))] [] l_Reader_139 (u_Calc_putX l d_ N23_ (hf_N23_.w hW) (ze N23_ 1 5) (ze_r N23_ 1 5).1 (ze_r N23_ 1 5).2) rfl rfl ((hf_N23_.w hW).kr (o := 33) (by decide)) (by decide) (by decide) (Nat.le_of_ble_eq_true rfl) d_Reader_readSum_110 ?_
                        rintro _ N45_ ⟨rfl, hsN45_, -⟩
                        have hf_N45_ : zFc d_ [(1, 2), (1, 3), (1, 4), (1, 5), (4, 1), (4, 2), (4, 3)] [] [(33, 2), (33, 3), (33, 4), (33, 5), (33, 6)] [25, 27, 35] Mz N45_ := hf_N23_.tr hsN45_ (by decide) (by decide) (by decide) (by decide)
                        have hb0_N45_ : zFc d_ [(1, 2), (1, 3), (1, 4), (1, 5), (4, 1), (4, 2), (4, 3)] [] [(33, 2), (33, 3), (33, 4), (33, 5), (33, 6)] [25, 27, 35] N3_ N45_ := hb0_N23_.tr hsN45_ (by decide) (by decide) (by decide) (by decide)
                        show zW l m_Reader_readSum (zn Mz + 0, zw Mz + 0) N45_ 113 [some (.ref 4), some (.ref (d_ + 0)), some (.ref (d_ + 33)), some (.int (Int32.ofInt 1)), some (.int (Int32.ofInt u5_))] [] _
                        refine zw_aload_n (pc := 113) (n := 0) (x := 4) rfl d_Reader_readSum_113 ?_
                        refine zw_getF (pc := 114) f_Reader_15 rfl ((hf_N45_.w hW).ka (o := 4) (by decide)) ((hf_N45_.w hW).la (o := 4) (s := 0) (r := 1) (by decide)) d_Reader_readSum_114 ?_
                        refine zk_callV hf_N45_.x (pc := 117) [] [] l_Reader_44 (u_Tokens_stepX l d_ N45_ (hf_N45_.w hW) ) rfl rfl ((hf_N45_.w hW).ka (o := 1) (by decide)) (by decide) (by decide) (Nat.le_of_ble_eq_true rfl) d_Reader_readSum_117 ?_
                        rintro _ N47_ ⟨rfl, hsN47_, -⟩
                        have hf_N47_ : zFc d_ [(1, 2), (1, 3), (1, 4), (1, 5), (4, 1), (4, 2), (4, 3)] [] [(33, 2), (33, 3), (33, 4), (33, 5), (33, 6)] [25, 27, 35] Mz N47_ := hf_N45_.tr hsN47_ (by decide) (by decide) (by decide) (by decide)
                        have hb0_N47_ : zFc d_ [(1, 2), (1, 3), (1, 4), (1, 5), (4, 1), (4, 2), (4, 3)] [] [(33, 2), (33, 3), (33, 4), (33, 5), (33, 6)] [25, 27, 35] N3_ N47_ := hb0_N45_.tr hsN47_ (by decide) (by decide) (by decide) (by decide)
                        show zW l m_Reader_readSum (zn Mz + 0, zw Mz + 0) N47_ 120 [some (.ref 4), some (.ref (d_ + 0)), some (.ref (d_ + 33)), some (.int (Int32.ofInt 1)), some (.int (Int32.ofInt u5_))] [] _
                        refine zr_iinc (pc := 120) (i := 4) (a := u5_) (n := 1) (L2 := [some (.ref 4), some (.ref (d_ + 0)), some (.ref (d_ + 33)), some (.int (Int32.ofInt 1)), some (.int (Int32.ofInt (u5_ + 1)))]) rfl (by decide) rfl d_Reader_readSum_120 ?_
                        obtain ⟨v49_, hv49_a, hv49_b, hv49_e, hv49_d⟩ := zk_gen (u5_ + 1)
                        rw [hv49_e]
                        refine zw_goto (pc := 123) (tgt := 19) (by decide) d_Reader_readSum_123 ?_
                        exact ih_19 1 (by decide) (by decide) (by (decide)) v49_ hv49_a hv49_b N47_ hb0_N47_ (show 0 ≤ v49_ by first | with_reducible assumption | assumption | omega) (by omega)
              · skip
                refine zw_iconst (pc := 54) (v := Int32.ofInt 0) (by decide) d_Reader_readSum_54 ?_
                exact zk_iret (pc := 55) (ty := .boolean) rfl (z_narB (by (decide))) ⟨by (decide), by (decide)⟩ hf_N23_ (show (((0 : Int)) = 0 ∨ ((0 : Int)) = 1) by first | with_reducible assumption | (decide) | assumption) d_Reader_readSum_55
  exact lp_19 _ 1 (by decide) (by decide) (by (decide)) 0 (by decide) (by decide) N3_ zFc.rf (show 0 ≤ (0 : Int) by first | with_reducible assumption | (decide) | assumption) (Nat.lt_succ_self _)
set_option maxHeartbeats 4000000 in
theorem u_Reader_readWholeX (l : Launch) (d_ : Nat) (Mz : zMem) (hW : zKW d_ Mz) : zC l m_Reader_readWhole 0 0 [.ref 4, .ref (d_ + 0)] Mz (zqcI d_ [(1, 2), (1, 3), (1, 4), (1, 5), (4, 1), (4, 2), (4, 3)] [] [(33, 2), (33, 3), (33, 4), (33, 5), (33, 6)] [25, 27, 35] Mz (fun v N => ((v = 0 ∨ v = 1)))) := by
  refine zC_of (L0 := [some (.ref 4), some (.ref (d_ + 0))]) md_Reader_readWhole (Nat.le_of_ble_eq_true rfl) rfl ?_ zQ0
  have hf : zFc d_ [(1, 2), (1, 3), (1, 4), (1, 5), (4, 1), (4, 2), (4, 3)] [] [(33, 2), (33, 3), (33, 4), (33, 5), (33, 6)] [25, 27, 35] Mz Mz := zFc.rf
  refine zw_aload_n (pc := 0) (n := 0) (x := 4) rfl (zdal_p dlB_Reader_readWhole_123 (i := 0) rfl) ?_
  refine zw_aload_n (pc := 1) (n := 1) (x := (d_ + 0)) rfl (zdal_p dlB_Reader_readWhole_123 (i := 1) rfl) ?_
  refine zk_callV hf.x (pc := 2) [.ref (d_ + 0)] [] l_Reader_107 (u_Reader_readSumX l d_ Mz (hf.w hW) ) rfl rfl ((hf.w hW).ka (o := 4) (by decide)) (by decide) (by decide) (Nat.le_of_ble_eq_true rfl) (zdal_p dlB_Reader_readWhole_123 (i := 2) rfl) ?_
  rintro _ N1_ ⟨v2_, rfl, ⟨hv2_a, hv2_b⟩, hsN1_, hp0_N1_⟩
  replace hp0_N1_ : (v2_ = 0 ∨ v2_ = 1) := hp0_N1_
  have hf_N1_ : zFc d_ [(1, 2), (1, 3), (1, 4), (1, 5), (4, 1), (4, 2), (4, 3)] [] [(33, 2), (33, 3), (33, 4), (33, 5), (33, 6)] [25, 27, 35] Mz N1_ := hf.tr hsN1_ (by decide) (by decide) (by decide) (by decide)
  show zW l m_Reader_readWhole (zn Mz + 0, zw Mz + 0) N1_ 5 [some (.ref 4), some (.ref (d_ + 0))] [.int (Int32.ofInt v2_)] _
  refine zr_if_ne (pc := 5) (tgt := 10) ⟨hv2_a, hv2_b⟩ (by decide) (zdal_p dlB_Reader_readWhole_123 (i := 3) rfl) (fun hc_5 => ?_) (fun hc_5 => ?_)
  · skip
    refine zw_aload_n (pc := 10) (n := 0) (x := 4) rfl (zdal_p dlB_Reader_readWhole_123 (i := 6) rfl) ?_
    refine zw_getF (pc := 11) f_Reader_15 rfl ((hf_N1_.w hW).ka (o := 4) (by decide)) ((hf_N1_.w hW).la (o := 4) (s := 0) (r := 1) (by decide)) (zdal_p dlB_Reader_readWhole_123 (i := 7) rfl) ?_
    refine zk_getI (pc := 14) f_Reader_27 rfl ((hf_N1_.w hW).ka (o := 1) (by decide)) (zdal_p dlB_Reader_readWhole_123 (i := 8) rfl) ?_
    have hr3_ := ze_r N1_ 1 4
    refine zr_if_eq (pc := 17) (tgt := 26) ⟨(ze_r N1_ 1 4).1, (ze_r N1_ 1 4).2⟩ (by decide) (zdal_p dlB_Reader_readWhole_123 (i := 9) rfl) (fun hc_17 => ?_) (fun hc_17 => ?_)
    · skip
      refine zw_aload_n (pc := 26) (n := 1) (x := (d_ + 0)) rfl (zdal_p dlB_Reader_readWhole_123 (i := 14) rfl) ?_
      refine zw_getF (pc := 27) f_Reader_111 rfl ((hf_N1_.w hW).kr (o := 0) (by decide)) ((hf_N1_.w hW).lr (o := 0) (s := 4) (r := 33) (by decide)) (zdal_p dlB_Reader_readWhole_123 (i := 15) rfl) ?_
      refine zk_getI (pc := 30) f_Reader_115 rfl ((hf_N1_.w hW).kr (o := 33) (by decide)) (zdal_p dlB_Reader_readWhole_123 (i := 16) rfl) ?_
      have hr4_ := ze_r N1_ (d_ + 33) 6
      refine zr_if_eq (pc := 33) (tgt := 46) ⟨(ze_r N1_ (d_ + 33) 6).1, (ze_r N1_ (d_ + 33) 6).2⟩ (by decide) (zdal_p dlB_Reader_readWhole_123 (i := 17) rfl) (fun hc_33 => ?_) (fun hc_33 => ?_)
      · skip
        refine zw_iconst (pc := 46) (v := Int32.ofInt 1) (by decide) (zdal_p dlB_Reader_readWhole_123 (i := 23) rfl) ?_
        refine zw_goto (pc := 47) (tgt := 51) (by decide) (zdal_p dlB_Reader_readWhole_124 (i := 0) rfl) ?_
        exact zk_iret (pc := 51) (ty := .boolean) rfl (z_narB (by (decide))) ⟨by (decide), by (decide)⟩ hf_N1_ (show (((1 : Int)) = 0 ∨ ((1 : Int)) = 1) by first | with_reducible assumption | (decide) | assumption) (zdal_p dlB_Reader_readWhole_124 (i := 2) rfl)
      · skip
        refine zw_aload_n (pc := 36) (n := 0) (x := 4) rfl (zdal_p dlB_Reader_readWhole_123 (i := 18) rfl) ?_
        refine zw_bipush (pc := 37) (v := Int32.ofInt 6) (by decide) (zdal_p dlB_Reader_readWhole_123 (i := 19) rfl) ?_
        refine zw_iconst (pc := 39) (v := Int32.ofInt 0) (by decide) (zdal_p dlB_Reader_readWhole_123 (i := 20) rfl) ?_
        refine zk_callV hf_N1_.x (pc := 40) [.int (Int32.ofInt 6), .int (Int32.ofInt 0)] [] l_Reader_33 (u_Reader_refuseAtX l d_ N1_ (hf_N1_.w hW) 6 (by decide) (by decide) 0 (by decide) (by decide)) rfl rfl ((hf_N1_.w hW).ka (o := 4) (by decide)) (by decide) (by decide) (Nat.le_of_ble_eq_true rfl) (zdal_p dlB_Reader_readWhole_123 (i := 21) rfl) ?_
        rintro _ N5_ ⟨v6_, rfl, ⟨hv6_a, hv6_b⟩, hsN5_, hp0_N5_⟩
        replace hp0_N5_ : (v6_ = 0 ∨ v6_ = 1) := hp0_N5_
        have hf_N5_ : zFc d_ [(1, 2), (1, 3), (1, 4), (1, 5), (4, 1), (4, 2), (4, 3)] [] [(33, 2), (33, 3), (33, 4), (33, 5), (33, 6)] [25, 27, 35] Mz N5_ := hf_N1_.tr hsN5_ (by decide) (by decide) (by decide) (by decide)
        show zW l m_Reader_readWhole (zn Mz + 0, zw Mz + 0) N5_ 43 [some (.ref 4), some (.ref (d_ + 0))] [.int (Int32.ofInt v6_)] _
        refine zr_if_eq (pc := 43) (tgt := 50) ⟨hv6_a, hv6_b⟩ (by decide) (zdal_p dlB_Reader_readWhole_123 (i := 22) rfl) (fun hc_43 => ?_) (fun hc_43 => ?_)
        · skip
          refine zw_iconst (pc := 50) (v := Int32.ofInt 0) (by decide) (zdal_p dlB_Reader_readWhole_124 (i := 1) rfl) ?_
          exact zk_iret (pc := 51) (ty := .boolean) rfl (z_narB (by (decide))) ⟨by (decide), by (decide)⟩ hf_N5_ (show (((0 : Int)) = 0 ∨ ((0 : Int)) = 1) by first | with_reducible assumption | (decide) | assumption) (zdal_p dlB_Reader_readWhole_124 (i := 2) rfl)
        · skip
          refine zw_iconst (pc := 46) (v := Int32.ofInt 1) (by decide) (zdal_p dlB_Reader_readWhole_123 (i := 23) rfl) ?_
          refine zw_goto (pc := 47) (tgt := 51) (by decide) (zdal_p dlB_Reader_readWhole_124 (i := 0) rfl) ?_
          exact zk_iret (pc := 51) (ty := .boolean) rfl (z_narB (by (decide))) ⟨by (decide), by (decide)⟩ hf_N5_ (show (((1 : Int)) = 0 ∨ ((1 : Int)) = 1) by first | with_reducible assumption | (decide) | assumption) (zdal_p dlB_Reader_readWhole_124 (i := 2) rfl)
    · skip
      refine zw_aload_n (pc := 20) (n := 0) (x := 4) rfl (zdal_p dlB_Reader_readWhole_123 (i := 10) rfl) ?_
      refine zw_iconst (pc := 21) (v := Int32.ofInt 2) (by decide) (zdal_p dlB_Reader_readWhole_123 (i := 11) rfl) ?_
      refine zk_callV hf_N1_.x (pc := 22) [.int (Int32.ofInt 2)] [] l_Reader_41 (u_Reader_refuseX l d_ N1_ (hf_N1_.w hW) 2 (by decide) (by decide)) rfl rfl ((hf_N1_.w hW).ka (o := 4) (by decide)) (by decide) (by decide) (Nat.le_of_ble_eq_true rfl) (zdal_p dlB_Reader_readWhole_123 (i := 12) rfl) ?_
      rintro _ N7_ ⟨v8_, rfl, ⟨hv8_a, hv8_b⟩, hsN7_, hp0_N7_⟩
      replace hp0_N7_ : (v8_ = 0 ∨ v8_ = 1) := hp0_N7_
      have hf_N7_ : zFc d_ [(1, 2), (1, 3), (1, 4), (1, 5), (4, 1), (4, 2), (4, 3)] [] [(33, 2), (33, 3), (33, 4), (33, 5), (33, 6)] [25, 27, 35] Mz N7_ := hf_N1_.tr hsN7_ (by decide) (by decide) (by decide) (by decide)
      show zW l m_Reader_readWhole (zn Mz + 0, zw Mz + 0) N7_ 25 [some (.ref 4), some (.ref (d_ + 0))] [.int (Int32.ofInt v8_)] _
      exact zk_iret (pc := 25) (ty := .boolean) rfl (z_narB (by (exact hp0_N7_))) ⟨by (exact hv8_a), by (exact hv8_b)⟩ hf_N7_ (show (v8_ = 0 ∨ v8_ = 1) by first | with_reducible assumption | assumption | omega) (zdal_p dlB_Reader_readWhole_123 (i := 13) rfl)
  · skip
    refine zw_iconst (pc := 8) (v := Int32.ofInt 0) (by decide) (zdal_p dlB_Reader_readWhole_123 (i := 4) rfl) ?_
    exact zk_iret (pc := 9) (ty := .boolean) rfl (z_narB (by (decide))) ⟨by (decide), by (decide)⟩ hf_N1_ (show (((0 : Int)) = 0 ∨ ((0 : Int)) = 1) by first | with_reducible assumption | (decide) | assumption) (zdal_p dlB_Reader_readWhole_123 (i := 5) rfl)
set_option maxHeartbeats 4000000 in
theorem u_T_makesX (l : Launch) (d_ : Nat) (Mz : zMem) (hW : zKW d_ Mz) (hnow : zf Mz 0 2 = some (d_ + 0)) : zC l m_T_makes 0 0 [.ref 0] Mz (zqcI d_ [(1, 1), (1, 2), (1, 3), (1, 4), (1, 5), (4, 1), (4, 2), (4, 3)] [] [(0, 7), (0, 8), (33, 2), (33, 3), (33, 4), (33, 5), (33, 6)] [25, 27, 35] Mz (fun v N => ze N 1 1 = 0)) := by
  refine zC_of (L0 := [some (.ref 0), none]) md_T_makes (Nat.le_of_ble_eq_true rfl) rfl ?_ zQ0
  have hf : zFc d_ [(1, 1), (1, 2), (1, 3), (1, 4), (1, 5), (4, 1), (4, 2), (4, 3)] [] [(0, 7), (0, 8), (33, 2), (33, 3), (33, 4), (33, 5), (33, 6)] [25, 27, 35] Mz Mz := zFc.rf
  have r_A1_1 := ze_r Mz 1 1
  refine zw_aload_n (pc := 0) (n := 0) (x := 0) rfl (zdal_p dlB_T_makes_121 (i := 0) rfl) ?_
  refine zw_getF (pc := 1) f_T_21 rfl ((hf.w hW).ka (o := 0) (by decide)) ((hf.w hW).la (o := 0) (s := 1) (r := 4) (by decide)) (zdal_p dlB_T_makes_121 (i := 1) rfl) ?_
  refine zk_callV hf.x (pc := 4) [] [] l_T_49 (u_Reader_beginX l d_ Mz (hf.w hW) ) rfl rfl ((hf.w hW).ka (o := 4) (by decide)) (by decide) (by decide) (Nat.le_of_ble_eq_true rfl) (zdal_p dlB_T_makes_121 (i := 2) rfl) ?_
  rintro _ N1_ ⟨rfl, hsN1_, -⟩
  have hf_N1_ : zFc d_ [(1, 1), (1, 2), (1, 3), (1, 4), (1, 5), (4, 1), (4, 2), (4, 3)] [] [(0, 7), (0, 8), (33, 2), (33, 3), (33, 4), (33, 5), (33, 6)] [25, 27, 35] Mz N1_ := hf.tr hsN1_ (by decide) (by decide) (by decide) (by decide)
  have eA1_1_N1_ : ze N1_ 1 1 = ze Mz 1 1 := hsN1_.ea (hf.w hW) (by decide)
  show zW l m_T_makes (zn Mz + 0, zw Mz + 0) N1_ 7 [some (.ref 0), none] [] _
  refine zw_aload_n (pc := 7) (n := 0) (x := 0) rfl (zdal_p dlB_T_makes_121 (i := 3) rfl) ?_
  refine zw_getF (pc := 8) f_T_21 rfl ((hf_N1_.w hW).ka (o := 0) (by decide)) ((hf_N1_.w hW).la (o := 0) (s := 1) (r := 4) (by decide)) (zdal_p dlB_T_makes_121 (i := 4) rfl) ?_
  refine zw_aload_n (pc := 11) (n := 0) (x := 0) rfl (zdal_p dlB_T_makes_121 (i := 5) rfl) ?_
  refine zw_getF (pc := 12) f_T_28 rfl ((hf_N1_.w hW).ka (o := 0) (by decide)) (hf_N1_.now hnow) (zdal_p dlB_T_makes_121 (i := 6) rfl) ?_
  refine zk_callV hf_N1_.x (pc := 15) [.ref (d_ + 0)] [] l_T_281 (u_Reader_readWholeX l d_ N1_ (hf_N1_.w hW) ) rfl rfl ((hf_N1_.w hW).ka (o := 4) (by decide)) (by decide) (by decide) (Nat.le_of_ble_eq_true rfl) (zdal_p dlB_T_makes_121 (i := 7) rfl) ?_
  rintro _ N3_ ⟨v4_, rfl, ⟨hv4_a, hv4_b⟩, hsN3_, hp0_N3_⟩
  replace hp0_N3_ : (v4_ = 0 ∨ v4_ = 1) := hp0_N3_
  have hf_N3_ : zFc d_ [(1, 1), (1, 2), (1, 3), (1, 4), (1, 5), (4, 1), (4, 2), (4, 3)] [] [(0, 7), (0, 8), (33, 2), (33, 3), (33, 4), (33, 5), (33, 6)] [25, 27, 35] Mz N3_ := hf_N1_.tr hsN3_ (by decide) (by decide) (by decide) (by decide)
  have eA1_1_N3_ : ze N3_ 1 1 = ze N1_ 1 1 := hsN3_.ea (hf_N1_.w hW) (by decide)
  show zW l m_T_makes (zn Mz + 0, zw Mz + 0) N3_ 18 [some (.ref 0), none] [.int (Int32.ofInt v4_)] _
  refine zw_istore_n (pc := 18) (i := 1) (L2 := [some (.ref 0), some (.int (Int32.ofInt v4_))]) rfl (by decide) rfl (zdal_p dlB_T_makes_121 (i := 8) rfl) ?_
  refine zw_aload_n (pc := 19) (n := 0) (x := 0) rfl (zdal_p dlB_T_makes_121 (i := 9) rfl) ?_
  refine zw_getF (pc := 20) f_T_10 rfl ((hf_N3_.w hW).ka (o := 0) (by decide)) ((hf_N3_.w hW).la (o := 0) (s := 0) (r := 1) (by decide)) (zdal_p dlB_T_makes_121 (i := 10) rfl) ?_
  refine zw_iconst (pc := 23) (v := Int32.ofInt 0) (by decide) (zdal_p dlB_T_makes_121 (i := 11) rfl) ?_
  refine zk_putA (pc := 24) (hf_N3_.w hW) (by decide) f_T_42 rfl rfl ((hf_N3_.w hW).ka (o := 1) (by decide)) ⟨by (decide), by (decide)⟩ rfl rfl (zdal_p dlB_T_makes_121 (i := 12) rfl) (fun N5_ hsN5_ hvN5_ => ?_)
  have hf_N5_ : zFc d_ [(1, 1), (1, 2), (1, 3), (1, 4), (1, 5), (4, 1), (4, 2), (4, 3)] [] [(0, 7), (0, 8), (33, 2), (33, 3), (33, 4), (33, 5), (33, 6)] [25, 27, 35] Mz N5_ := hf_N3_.tr hsN5_ (by decide) (by decide) (by decide) (by decide)
  have rA1_1_N5_ := ze_r N5_ 1 1
  refine zw_iload_n (pc := 27) (n := 1) (x := Int32.ofInt v4_) rfl (zdal_p dlB_T_makes_121 (i := 13) rfl) ?_
  refine zr_if_ne (pc := 28) (tgt := 33) ⟨hv4_a, hv4_b⟩ (by decide) (zdal_p dlB_T_makes_121 (i := 14) rfl) (fun hc_28 => ?_) (fun hc_28 => ?_)
  · skip
    refine zw_aload_n (pc := 33) (n := 0) (x := 0) rfl (zdal_p dlB_T_makes_121 (i := 17) rfl) ?_
    refine zw_getF (pc := 34) f_T_28 rfl ((hf_N5_.w hW).ka (o := 0) (by decide)) (hf_N5_.now hnow) (zdal_p dlB_T_makes_121 (i := 18) rfl) ?_
    refine zw_bipush (pc := 37) (v := Int32.ofInt 21) (by decide) (zdal_p dlB_T_makes_121 (i := 19) rfl) ?_
    refine zk_callV hf_N5_.x (pc := 39) [.int (Int32.ofInt 21)] [] l_T_284 (u_Troupe_becomeX l d_ N5_ (hf_N5_.w hW) 21 (by decide) (by decide)) rfl rfl ((hf_N5_.w hW).kr (o := 0) (by decide)) (by decide) (by decide) (Nat.le_of_ble_eq_true rfl) (zdal_p dlB_T_makes_121 (i := 20) rfl) ?_
    rintro _ N6_ ⟨rfl, hsN6_, -⟩
    have hf_N6_ : zFc d_ [(1, 1), (1, 2), (1, 3), (1, 4), (1, 5), (4, 1), (4, 2), (4, 3)] [] [(0, 7), (0, 8), (33, 2), (33, 3), (33, 4), (33, 5), (33, 6)] [25, 27, 35] Mz N6_ := hf_N5_.tr hsN6_ (by decide) (by decide) (by decide) (by decide)
    have eA1_1_N6_ : ze N6_ 1 1 = ze N5_ 1 1 := hsN6_.ea (hf_N5_.w hW) (by decide)
    show zW l m_T_makes (zn Mz + 0, zw Mz + 0) N6_ 42 [some (.ref 0), some (.int (Int32.ofInt v4_))] [] _
    refine zw_aload_n (pc := 42) (n := 0) (x := 0) rfl (zdal_p dlB_T_makes_121 (i := 21) rfl) ?_
    refine zw_getF (pc := 43) f_T_28 rfl ((hf_N6_.w hW).ka (o := 0) (by decide)) (hf_N6_.now hnow) (zdal_p dlB_T_makes_121 (i := 22) rfl) ?_
    refine zw_getF (pc := 46) f_T_169 rfl ((hf_N6_.w hW).kr (o := 0) (by decide)) ((hf_N6_.w hW).lr (o := 0) (s := 2) (r := 23) (by decide)) (zdal_p dlB_T_makes_121 (i := 23) rfl) ?_
    refine zw_iconst (pc := 49) (v := Int32.ofInt 0) (by decide) (zdal_p dlB_T_makes_122 (i := 0) rfl) ?_
    refine zk_callV hf_N6_.x (pc := 50) [.int (Int32.ofInt 0)] [] l_T_253 (u_Sums_partsOfX l d_ N6_ (hf_N6_.w hW) 0 (by decide) (by decide)) rfl rfl ((hf_N6_.w hW).kr (o := 23) (by decide)) (by decide) (by decide) (Nat.le_of_ble_eq_true rfl) (zdal_p dlB_T_makes_122 (i := 1) rfl) ?_
    rintro _ N8_ ⟨v9_, rfl, ⟨hv9_a, hv9_b⟩, hsN8_, -⟩
    obtain rfl := hsN8_.eq.symm
    show zW l m_T_makes (zn Mz + 0, zw Mz + 0) N6_ 53 [some (.ref 0), some (.int (Int32.ofInt v4_))] [.int (Int32.ofInt v9_)] _
    exact zk_iret (pc := 53) (ty := .int) rfl rfl ⟨by (exact hv9_a), by (exact hv9_b)⟩ hf_N6_ (show ze N6_ 1 1 = 0 by first | with_reducible assumption | (exact zo_610 eA1_1_N6_ hvN5_) | assumption) (zdal_p dlB_T_makes_122 (i := 2) rfl)
  · skip
    refine zw_iconst (pc := 31) (v := Int32.ofInt (-1)) (by decide) (zdal_p dlB_T_makes_121 (i := 15) rfl) ?_
    exact zk_iret (pc := 32) (ty := .int) rfl rfl ⟨by (decide), by (decide)⟩ hf_N5_ (show ze N5_ 1 1 = 0 by first | with_reducible assumption | assumption | omega) (zdal_p dlB_T_makes_121 (i := 16) rfl)
set_option maxHeartbeats 4000000 in
theorem u_Reader_readRowX (l : Launch) (d_ : Nat) (Mz : zMem) (hW : zKW d_ Mz) (a1_ : Int) (ha1_a : -2147483648 ≤ a1_) (ha1_b : a1_ < 2147483648) : zC l m_Reader_readRow 0 0 [.ref 4, .ref (d_ + 26), .int (Int32.ofInt a1_)] Mz (zqcI d_ [] [] [] [27] Mz (fun v N => ((v = 0 ∨ v = 1)))) := by
  refine zC_of (L0 := [some (.ref 4), some (.ref (d_ + 26)), some (.int (Int32.ofInt a1_)), none, none, none, none, none, none, none]) md_Reader_readRow (Nat.le_of_ble_eq_true rfl) rfl ?_ zQ0
  have hf : zFc d_ [] [] [] [27] Mz Mz := zFc.rf
  refine zw_aload_n (pc := 0) (n := 0) (x := 4) rfl (zdal_p dlB_Reader_readRow_137 (i := 0) rfl) ?_
  refine zw_getF (pc := 1) f_Reader_15 rfl ((hf.w hW).ka (o := 4) (by decide)) ((hf.w hW).la (o := 4) (s := 0) (r := 1) (by decide)) (zdal_p dlB_Reader_readRow_137 (i := 1) rfl) ?_
  refine zw_iconst (pc := 4) (v := Int32.ofInt 0) (by decide) (zdal_p dlB_Reader_readRow_137 (i := 2) rfl) ?_
  refine zk_callV hf.x (pc := 5) [.int (Int32.ofInt 0)] [] l_Reader_188 (u_Tokens_pastBlanksX l d_ Mz (hf.w hW) 0 (by decide) (by decide)) rfl rfl ((hf.w hW).ka (o := 1) (by decide)) (by decide) (by decide) (Nat.le_of_ble_eq_true rfl) (zdal_p dlB_Reader_readRow_137 (i := 3) rfl) ?_
  rintro _ N1_ ⟨v2_, rfl, ⟨hv2_a, hv2_b⟩, hsN1_, -⟩
  obtain rfl := hsN1_.eq.symm
  show zW l m_Reader_readRow (zn Mz + 0, zw Mz + 0) Mz 8 [some (.ref 4), some (.ref (d_ + 26)), some (.int (Int32.ofInt a1_)), none, none, none, none, none, none, none] [.int (Int32.ofInt v2_)] _
  refine zw_istore_n (pc := 8) (i := 3) (L2 := [some (.ref 4), some (.ref (d_ + 26)), some (.int (Int32.ofInt a1_)), some (.int (Int32.ofInt v2_)), none, none, none, none, none, none]) rfl (by decide) rfl (zdal_p dlB_Reader_readRow_137 (i := 4) rfl) ?_
  refine zw_iconst (pc := 9) (v := Int32.ofInt 0) (by decide) (zdal_p dlB_Reader_readRow_137 (i := 5) rfl) ?_
  refine zw_istore (pc := 10) (i := 4) (L2 := [some (.ref 4), some (.ref (d_ + 26)), some (.int (Int32.ofInt a1_)), some (.int (Int32.ofInt v2_)), some (.int (Int32.ofInt 0)), none, none, none, none, none]) (by decide) rfl (zdal_p dlB_Reader_readRow_137 (i := 6) rfl) ?_
  have lp_12 : ∀ (n : Nat) (u3_ : Int) (hu3_a : -2147483648 ≤ u3_) (hu3_b : u3_ < 2147483648) (u4_ : Int) (hu4_a : -2147483648 ≤ u4_) (hu4_b : u4_ < 2147483648) (N5_ : zMem) (hs6_ : zFc d_ [] [] [] [27] Mz N5_) (i7_ : 0 ≤ u4_), (a1_ - u4_).toNat < n → zW l m_Reader_readRow (zn Mz + 0, zw Mz + 0) N5_ 12 [some (.ref 4), some (.ref (d_ + 26)), some (.int (Int32.ofInt a1_)), some (.int (Int32.ofInt u3_)), some (.int (Int32.ofInt u4_)), none, none, none, none, none] [] (zqcI d_ [] [] [] [27] Mz (fun v N => ((v = 0 ∨ v = 1)))) := by
    intro n
    induction n with
    | zero =>
      intro u3_ hu3_a hu3_b u4_ hu4_a hu4_b N5_ hs6_ i7_ h0
      exact absurd h0 (Nat.not_lt_zero _)
    | succ n ih_12 =>
      intro u3_ hu3_a hu3_b u4_ hu4_a hu4_b N5_ hs6_ i7_ hlt_12
      have hf_N5_ : zFc d_ [] [] [] [27] Mz N5_ := hf.tr hs6_ (by decide) (by decide) (by decide) (by decide)
      refine zw_iload (pc := 12) (i := 4) (x := Int32.ofInt u4_) rfl (zdal_p dlB_Reader_readRow_137 (i := 7) rfl) ?_
      refine zw_iload_n (pc := 14) (n := 2) (x := Int32.ofInt a1_) rfl (zdal_p dlB_Reader_readRow_137 (i := 8) rfl) ?_
      refine zr_icmp_ge (pc := 15) (tgt := 179) ⟨hu4_a, hu4_b⟩ ⟨ha1_a, ha1_b⟩ (by decide) (zdal_p dlB_Reader_readRow_137 (i := 9) rfl) (fun hc_15 => ?_) (fun hc_15 => ?_)
      · skip
        refine zw_iload_n (pc := 179) (n := 3) (x := Int32.ofInt u3_) rfl (zdal_p dlB_Reader_readRow_140 (i := 15) rfl) ?_
        refine zw_aload_n (pc := 180) (n := 0) (x := 4) rfl (zdal_p dlB_Reader_readRow_140 (i := 16) rfl) ?_
        refine zw_getF (pc := 181) f_Reader_15 rfl ((hf_N5_.w hW).ka (o := 4) (by decide)) ((hf_N5_.w hW).la (o := 4) (s := 0) (r := 1) (by decide)) (zdal_p dlB_Reader_readRow_140 (i := 17) rfl) ?_
        refine zk_getI (pc := 184) f_Reader_191 rfl ((hf_N5_.w hW).ka (o := 1) (by decide)) (zdal_p dlB_Reader_readRow_140 (i := 18) rfl) ?_
        rw [hf_N5_.ea hW (by decide)]
        have hr8_ := ze_r Mz 1 1
        refine zr_icmp_lt (pc := 187) (tgt := 194) ⟨hu3_a, hu3_b⟩ ⟨(ze_r Mz 1 1).1, (ze_r Mz 1 1).2⟩ (by decide) (zdal_p dlB_Reader_readRow_140 (i := 19) rfl) (fun hc_187 => ?_) (fun hc_187 => ?_)
        · skip
          refine zw_iconst (pc := 194) (v := Int32.ofInt 0) (by decide) (zdal_p dlB_Reader_readRow_140 (i := 22) rfl) ?_
          exact zk_iret (pc := 195) (ty := .boolean) rfl (z_narB (by (decide))) ⟨by (decide), by (decide)⟩ hf_N5_ (show (((0 : Int)) = 0 ∨ ((0 : Int)) = 1) by first | with_reducible assumption | (decide) | assumption) (zdal_p dlB_Reader_readRow_140 (i := 23) rfl)
        · skip
          refine zw_iconst (pc := 190) (v := Int32.ofInt 1) (by decide) (zdal_p dlB_Reader_readRow_140 (i := 20) rfl) ?_
          refine zw_goto (pc := 191) (tgt := 195) (by decide) (zdal_p dlB_Reader_readRow_140 (i := 21) rfl) ?_
          exact zk_iret (pc := 195) (ty := .boolean) rfl (z_narB (by (decide))) ⟨by (decide), by (decide)⟩ hf_N5_ (show (((1 : Int)) = 0 ∨ ((1 : Int)) = 1) by first | with_reducible assumption | (decide) | assumption) (zdal_p dlB_Reader_readRow_140 (i := 23) rfl)
      · skip
        refine zw_iload_n (pc := 18) (n := 3) (x := Int32.ofInt u3_) rfl (zdal_p dlB_Reader_readRow_137 (i := 10) rfl) ?_
        refine zw_aload_n (pc := 19) (n := 0) (x := 4) rfl (zdal_p dlB_Reader_readRow_137 (i := 11) rfl) ?_
        refine zw_getF (pc := 20) f_Reader_15 rfl ((hf_N5_.w hW).ka (o := 4) (by decide)) ((hf_N5_.w hW).la (o := 4) (s := 0) (r := 1) (by decide)) (zdal_p dlB_Reader_readRow_137 (i := 12) rfl) ?_
        refine zk_getI (pc := 23) f_Reader_191 rfl ((hf_N5_.w hW).ka (o := 1) (by decide)) (zdal_p dlB_Reader_readRow_137 (i := 13) rfl) ?_
        rw [hf_N5_.ea hW (by decide)]
        have hr9_ := ze_r Mz 1 1
        refine zr_icmp_ge (pc := 26) (tgt := 49) ⟨hu3_a, hu3_b⟩ ⟨(ze_r Mz 1 1).1, (ze_r Mz 1 1).2⟩ (by decide) (zdal_p dlB_Reader_readRow_137 (i := 14) rfl) (fun hc_26 => ?_) (fun hc_26 => ?_)
        · skip
          refine zw_iconst (pc := 49) (v := Int32.ofInt 0) (by decide) (zdal_p dlB_Reader_readRow_138 (i := 0) rfl) ?_
          refine zw_istore (pc := 50) (i := 5) (L2 := [some (.ref 4), some (.ref (d_ + 26)), some (.int (Int32.ofInt a1_)), some (.int (Int32.ofInt u3_)), some (.int (Int32.ofInt u4_)), some (.int (Int32.ofInt 0)), none, none, none, none]) (by decide) rfl (zdal_p dlB_Reader_readRow_138 (i := 1) rfl) ?_
          refine zw_iload (pc := 52) (i := 5) (x := Int32.ofInt 0) rfl (zdal_p dlB_Reader_readRow_138 (i := 2) rfl) ?_
          refine zr_if_eq (pc := 54) (tgt := 63) ⟨(by decide), (by decide)⟩ (by decide) (zdal_p dlB_Reader_readRow_138 (i := 3) rfl) (fun hc_54 => ?_) (fun hc_54 => ?_)
          · skip
            refine zw_iload_n (pc := 63) (n := 3) (x := Int32.ofInt u3_) rfl (zdal_p dlB_Reader_readRow_138 (i := 8) rfl) ?_
            refine zw_istore (pc := 64) (i := 6) (L2 := [some (.ref 4), some (.ref (d_ + 26)), some (.int (Int32.ofInt a1_)), some (.int (Int32.ofInt u3_)), some (.int (Int32.ofInt u4_)), some (.int (Int32.ofInt 0)), some (.int (Int32.ofInt u3_)), none, none, none]) (by decide) rfl (zdal_p dlB_Reader_readRow_138 (i := 9) rfl) ?_
            refine zw_aload_n (pc := 66) (n := 0) (x := 4) rfl (zdal_p dlB_Reader_readRow_138 (i := 10) rfl) ?_
            refine zw_getF (pc := 67) f_Reader_15 rfl ((hf_N5_.w hW).ka (o := 4) (by decide)) ((hf_N5_.w hW).la (o := 4) (s := 0) (r := 1) (by decide)) (zdal_p dlB_Reader_readRow_138 (i := 11) rfl) ?_
            refine zw_iload (pc := 70) (i := 6) (x := Int32.ofInt u3_) rfl (zdal_p dlB_Reader_readRow_138 (i := 12) rfl) ?_
            refine zk_callV hf_N5_.x (pc := 72) [.int (Int32.ofInt u3_)] [] l_Reader_203 (u_Tokens_pastDigitsX l d_ N5_ (hf_N5_.w hW) u3_ hu3_a hu3_b) rfl rfl ((hf_N5_.w hW).ka (o := 1) (by decide)) (by decide) (by decide) (Nat.le_of_ble_eq_true rfl) (zdal_p dlB_Reader_readRow_138 (i := 13) rfl) ?_
            rintro _ N10_ ⟨v11_, rfl, ⟨hv11_a, hv11_b⟩, hsN10_, -⟩
            obtain rfl := hsN10_.eq.symm
            show zW l m_Reader_readRow (zn Mz + 0, zw Mz + 0) N5_ 75 [some (.ref 4), some (.ref (d_ + 26)), some (.int (Int32.ofInt a1_)), some (.int (Int32.ofInt u3_)), some (.int (Int32.ofInt u4_)), some (.int (Int32.ofInt 0)), some (.int (Int32.ofInt u3_)), none, none, none] [.int (Int32.ofInt v11_)] _
            refine zw_istore (pc := 75) (i := 7) (L2 := [some (.ref 4), some (.ref (d_ + 26)), some (.int (Int32.ofInt a1_)), some (.int (Int32.ofInt u3_)), some (.int (Int32.ofInt u4_)), some (.int (Int32.ofInt 0)), some (.int (Int32.ofInt u3_)), some (.int (Int32.ofInt v11_)), none, none]) (by decide) rfl (zdal_p dlB_Reader_readRow_138 (i := 14) rfl) ?_
            refine zw_iload (pc := 77) (i := 7) (x := Int32.ofInt v11_) rfl (zdal_p dlB_Reader_readRow_138 (i := 15) rfl) ?_
            refine zw_iload (pc := 79) (i := 6) (x := Int32.ofInt u3_) rfl (zdal_p dlB_Reader_readRow_138 (i := 16) rfl) ?_
            refine zr_isub (pc := 81) (zdal_p dlB_Reader_readRow_138 (i := 17) rfl) ?_
            refine zr_nmI (fun v12_ hv12_ => ?_)
            obtain ⟨hv12_a, hv12_b⟩ := hv12_
            refine zw_istore (pc := 82) (i := 8) (L2 := [some (.ref 4), some (.ref (d_ + 26)), some (.int (Int32.ofInt a1_)), some (.int (Int32.ofInt u3_)), some (.int (Int32.ofInt u4_)), some (.int (Int32.ofInt 0)), some (.int (Int32.ofInt u3_)), some (.int (Int32.ofInt v11_)), some (.int (Int32.ofInt v12_)), none]) (by decide) rfl (zdal_p dlB_Reader_readRow_138 (i := 18) rfl) ?_
            refine zw_iload (pc := 84) (i := 8) (x := Int32.ofInt v12_) rfl (zdal_p dlB_Reader_readRow_138 (i := 19) rfl) ?_
            refine zw_iconst (pc := 86) (v := Int32.ofInt 1) (by decide) (zdal_p dlB_Reader_readRow_138 (i := 20) rfl) ?_
            refine zr_icmp_lt (pc := 87) (tgt := 127) ⟨hv12_a, hv12_b⟩ ⟨(by decide), (by decide)⟩ (by decide) (zdal_p dlB_Reader_readRow_138 (i := 21) rfl) (fun hc_87 => ?_) (fun hc_87 => ?_)
            · skip
              refine zw_iconst (pc := 127) (v := Int32.ofInt 0) (by decide) d_Reader_readRow_127 ?_
              exact zk_iret (pc := 128) (ty := .boolean) rfl (z_narB (by (decide))) ⟨by (decide), by (decide)⟩ hf_N5_ (show (((0 : Int)) = 0 ∨ ((0 : Int)) = 1) by first | with_reducible assumption | (decide) | assumption) d_Reader_readRow_128
            · skip
              refine zw_iload (pc := 90) (i := 8) (x := Int32.ofInt v12_) rfl (zdal_p dlB_Reader_readRow_138 (i := 22) rfl) ?_
              refine zw_bipush (pc := 92) (v := Int32.ofInt 6) (by decide) (zdal_p dlB_Reader_readRow_138 (i := 23) rfl) ?_
              refine zr_icmp_gt (pc := 94) (tgt := 127) ⟨hv12_a, hv12_b⟩ ⟨(by decide), (by decide)⟩ (by decide) (zdal_p dlB_Reader_readRow_139 (i := 0) rfl) (fun hc_94 => ?_) (fun hc_94 => ?_)
              · skip
                refine zw_iconst (pc := 127) (v := Int32.ofInt 0) (by decide) d_Reader_readRow_127 ?_
                exact zk_iret (pc := 128) (ty := .boolean) rfl (z_narB (by (decide))) ⟨by (decide), by (decide)⟩ hf_N5_ (show (((0 : Int)) = 0 ∨ ((0 : Int)) = 1) by first | with_reducible assumption | (decide) | assumption) d_Reader_readRow_128
              · skip
                refine zw_iload (pc := 97) (i := 7) (x := Int32.ofInt v11_) rfl (zdal_p dlB_Reader_readRow_139 (i := 1) rfl) ?_
                refine zw_aload_n (pc := 99) (n := 0) (x := 4) rfl (zdal_p dlB_Reader_readRow_139 (i := 2) rfl) ?_
                refine zw_getF (pc := 100) f_Reader_15 rfl ((hf_N5_.w hW).ka (o := 4) (by decide)) ((hf_N5_.w hW).la (o := 4) (s := 0) (r := 1) (by decide)) (zdal_p dlB_Reader_readRow_139 (i := 3) rfl) ?_
                refine zk_getI (pc := 103) f_Reader_191 rfl ((hf_N5_.w hW).ka (o := 1) (by decide)) (zdal_p dlB_Reader_readRow_139 (i := 4) rfl) ?_
                rw [hf_N5_.ea hW (by decide)]
                refine zr_icmp_ge (pc := 106) (tgt := 129) ⟨hv11_a, hv11_b⟩ ⟨(ze_r Mz 1 1).1, (ze_r Mz 1 1).2⟩ (by decide) (zdal_p dlB_Reader_readRow_139 (i := 5) rfl) (fun hc_106 => ?_) (fun hc_106 => ?_)
                · skip
                  refine zw_aload_n (pc := 129) (n := 0) (x := 4) rfl d_Reader_readRow_129 ?_
                  refine zw_getF (pc := 130) f_Reader_15 rfl ((hf_N5_.w hW).ka (o := 4) (by decide)) ((hf_N5_.w hW).la (o := 4) (s := 0) (r := 1) (by decide)) d_Reader_readRow_130 ?_
                  refine zw_iload (pc := 133) (i := 6) (x := Int32.ofInt u3_) rfl d_Reader_readRow_133 ?_
                  refine zw_iload (pc := 135) (i := 7) (x := Int32.ofInt v11_) rfl d_Reader_readRow_135 ?_
                  refine zk_callV hf_N5_.x (pc := 137) [.int (Int32.ofInt u3_), .int (Int32.ofInt v11_)] [] l_Reader_209 (u_Tokens_numberFromX l d_ N5_ (hf_N5_.w hW) u3_ hu3_a hu3_b v11_ hv11_a hv11_b) rfl rfl ((hf_N5_.w hW).ka (o := 1) (by decide)) (by decide) (by decide) (Nat.le_of_ble_eq_true rfl) d_Reader_readRow_137 ?_
                  rintro _ N13_ ⟨v14_, rfl, ⟨hv14_a, hv14_b⟩, hsN13_, -⟩
                  obtain rfl := hsN13_.eq.symm
                  show zW l m_Reader_readRow (zn Mz + 0, zw Mz + 0) N5_ 140 [some (.ref 4), some (.ref (d_ + 26)), some (.int (Int32.ofInt a1_)), some (.int (Int32.ofInt u3_)), some (.int (Int32.ofInt u4_)), some (.int (Int32.ofInt 0)), some (.int (Int32.ofInt u3_)), some (.int (Int32.ofInt v11_)), some (.int (Int32.ofInt v12_)), none] [.int (Int32.ofInt v14_)] _
                  refine zw_istore (pc := 140) (i := 9) (L2 := [some (.ref 4), some (.ref (d_ + 26)), some (.int (Int32.ofInt a1_)), some (.int (Int32.ofInt u3_)), some (.int (Int32.ofInt u4_)), some (.int (Int32.ofInt 0)), some (.int (Int32.ofInt u3_)), some (.int (Int32.ofInt v11_)), some (.int (Int32.ofInt v12_)), some (.int (Int32.ofInt v14_))]) (by decide) rfl d_Reader_readRow_140 ?_
                  refine zw_aload_n (pc := 142) (n := 1) (x := (d_ + 26)) rfl d_Reader_readRow_142 ?_
                  refine zw_iload (pc := 143) (i := 4) (x := Int32.ofInt u4_) rfl d_Reader_readRow_143 ?_
                  refine zw_iload (pc := 145) (i := 5) (x := Int32.ofInt 0) rfl d_Reader_readRow_145 ?_
                  refine zr_if_eq (pc := 147) (tgt := 157) ⟨(by decide), (by decide)⟩ (by decide) d_Reader_readRow_147 (fun hc_147 => ?_) (fun hc_147 => ?_)
                  · skip
                    refine zw_iload (pc := 157) (i := 9) (x := Int32.ofInt v14_) rfl (zdal_p dlB_Reader_readRow_140 (i := 5) rfl) ?_
                    refine zr_i2l (pc := 159) ⟨hv14_a, hv14_b⟩ (zdal_p dlB_Reader_readRow_140 (i := 6) rfl) ?_
                    refine zk_stGJ hf_N5_.x (pc := 160) (o := 27) (by decide) l_Reader_212 ((hf_N5_.w hW).kr (o := 26) (by decide)) ((hf_N5_.w hW).lr (o := 26) (s := 0) (r := 27) (by decide)) ((hf_N5_.w hW).rr (o := 27) (t := 2) (n := 27) (by decide)) (by decide) ⟨by (exact hu4_a), by (exact hu4_b)⟩ (by decide) (Nat.le_of_ble_eq_true rfl) d_Reader_readRow_160 (fun N15_ hsN15_ => ?_)
                    have hf_N15_ : zFc d_ [] [] [] [27] Mz N15_ := hf_N5_.tr hsN15_ (by decide) (by decide) (by decide) (by decide)
                    have hb0_N15_ : zFc d_ [] [] [] [27] Mz N15_ := hs6_.tr hsN15_ (by decide) (by decide) (by decide) (by decide)
                    refine zw_aload_n (pc := 163) (n := 0) (x := 4) rfl d_Reader_readRow_163 ?_
                    refine zw_getF (pc := 164) f_Reader_15 rfl ((hf_N15_.w hW).ka (o := 4) (by decide)) ((hf_N15_.w hW).la (o := 4) (s := 0) (r := 1) (by decide)) d_Reader_readRow_164 ?_
                    refine zw_iload (pc := 167) (i := 7) (x := Int32.ofInt v11_) rfl d_Reader_readRow_167 ?_
                    refine zk_callV hf_N15_.x (pc := 169) [.int (Int32.ofInt v11_)] [] l_Reader_188 (u_Tokens_pastBlanksX l d_ N15_ (hf_N15_.w hW) v11_ hv11_a hv11_b) rfl rfl ((hf_N15_.w hW).ka (o := 1) (by decide)) (by decide) (by decide) (Nat.le_of_ble_eq_true rfl) d_Reader_readRow_169 ?_
                    rintro _ N16_ ⟨v17_, rfl, ⟨hv17_a, hv17_b⟩, hsN16_, -⟩
                    obtain rfl := hsN16_.eq.symm
                    show zW l m_Reader_readRow (zn Mz + 0, zw Mz + 0) N15_ 172 [some (.ref 4), some (.ref (d_ + 26)), some (.int (Int32.ofInt a1_)), some (.int (Int32.ofInt u3_)), some (.int (Int32.ofInt u4_)), some (.int (Int32.ofInt 0)), some (.int (Int32.ofInt u3_)), some (.int (Int32.ofInt v11_)), some (.int (Int32.ofInt v12_)), some (.int (Int32.ofInt v14_))] [.int (Int32.ofInt v17_)] _
                    refine zw_istore_n (pc := 172) (i := 3) (L2 := [some (.ref 4), some (.ref (d_ + 26)), some (.int (Int32.ofInt a1_)), some (.int (Int32.ofInt v17_)), some (.int (Int32.ofInt u4_)), some (.int (Int32.ofInt 0)), some (.int (Int32.ofInt u3_)), some (.int (Int32.ofInt v11_)), some (.int (Int32.ofInt v12_)), some (.int (Int32.ofInt v14_))]) rfl (by decide) rfl d_Reader_readRow_172 ?_
                    refine zr_iinc (pc := 173) (i := 4) (a := u4_) (n := 1) (L2 := [some (.ref 4), some (.ref (d_ + 26)), some (.int (Int32.ofInt a1_)), some (.int (Int32.ofInt v17_)), some (.int (Int32.ofInt (u4_ + 1))), some (.int (Int32.ofInt 0)), some (.int (Int32.ofInt u3_)), some (.int (Int32.ofInt v11_)), some (.int (Int32.ofInt v12_)), some (.int (Int32.ofInt v14_))]) rfl (by decide) rfl d_Reader_readRow_173 ?_
                    obtain ⟨v18_, hv18_a, hv18_b, hv18_e, hv18_d⟩ := zk_gen (u4_ + 1)
                    rw [hv18_e]
                    refine zw_goto (pc := 176) (tgt := 12) (by decide) d_Reader_readRow_176 ?_
                    refine zW_le [some (.ref 4), some (.ref (d_ + 26)), some (.int (Int32.ofInt a1_)), some (.int (Int32.ofInt v17_)), some (.int (Int32.ofInt v18_)), none, none, none, none, none] (⟨rfl, rfl, rfl, rfl, rfl, trivial⟩) ?_
                    exact ih_12 v17_ hv17_a hv17_b v18_ hv18_a hv18_b N15_ hb0_N15_ (show 0 ≤ v18_ by first | with_reducible assumption | assumption | omega) (by omega)
                  · skip
                    exact absurd hc_147 (by decide)
                · skip
                  refine zw_aload_n (pc := 109) (n := 0) (x := 4) rfl (zdal_p dlB_Reader_readRow_139 (i := 6) rfl) ?_
                  refine zw_getF (pc := 110) f_Reader_15 rfl ((hf_N5_.w hW).ka (o := 4) (by decide)) ((hf_N5_.w hW).la (o := 4) (s := 0) (r := 1) (by decide)) (zdal_p dlB_Reader_readRow_139 (i := 7) rfl) ?_
                  refine zw_getF (pc := 113) f_Reader_194 rfl ((hf_N5_.w hW).ka (o := 1) (by decide)) ((hf_N5_.w hW).la (o := 1) (s := 0) (r := 2) (by decide)) (zdal_p dlB_Reader_readRow_139 (i := 8) rfl) ?_
                  refine zw_iload (pc := 116) (i := 7) (x := Int32.ofInt v11_) rfl (zdal_p dlB_Reader_readRow_139 (i := 9) rfl) ?_
                  refine zk_atG hf_N5_.x (pc := 118) l_Reader_198 ((hf_N5_.w hW).ka (o := 2) (by decide)) ((hf_N5_.w hW).la (o := 2) (s := 0) (r := 3) (by decide)) ((hf_N5_.w hW).ra (o := 3) (t := 1) (n := 700) (by decide)) (by decide) ⟨by (exact hv11_a), by (exact hv11_b)⟩ (by decide) (Nat.le_of_ble_eq_true rfl) (zdal_p dlB_Reader_readRow_139 (i := 10) rfl) (fun v19_ hv19_ hv19_a hv19_b => ?_)
                  clear hv19_
                  refine zr_callS hf_N5_.x (pc := 121) [.int (Int32.ofInt v19_)] [] l_Reader_206 (u_Tokens_isBlankX l d_ N5_ (hf_N5_.w hW) v19_ hv19_a hv19_b) rfl rfl (by decide) (Nat.le_of_ble_eq_true rfl) (zdal_p dlB_Reader_readRow_139 (i := 11) rfl) ?_
                  rintro _ N20_ ⟨v21_, rfl, ⟨hv21_a, hv21_b⟩, hsN20_, hp0_N20_⟩
                  obtain rfl := hsN20_.eq.symm
                  replace hp0_N20_ : (v21_ = 0 ∨ v21_ = 1) := hp0_N20_
                  show zW l m_Reader_readRow (zn Mz + 0, zw Mz + 0) N5_ 124 [some (.ref 4), some (.ref (d_ + 26)), some (.int (Int32.ofInt a1_)), some (.int (Int32.ofInt u3_)), some (.int (Int32.ofInt u4_)), some (.int (Int32.ofInt 0)), some (.int (Int32.ofInt u3_)), some (.int (Int32.ofInt v11_)), some (.int (Int32.ofInt v12_)), none] [.int (Int32.ofInt v21_)] _
                  refine zr_if_ne (pc := 124) (tgt := 129) ⟨hv21_a, hv21_b⟩ (by decide) (zdal_p dlB_Reader_readRow_139 (i := 12) rfl) (fun hc_124 => ?_) (fun hc_124 => ?_)
                  · skip
                    refine zw_aload_n (pc := 129) (n := 0) (x := 4) rfl d_Reader_readRow_129 ?_
                    refine zw_getF (pc := 130) f_Reader_15 rfl ((hf_N5_.w hW).ka (o := 4) (by decide)) ((hf_N5_.w hW).la (o := 4) (s := 0) (r := 1) (by decide)) d_Reader_readRow_130 ?_
                    refine zw_iload (pc := 133) (i := 6) (x := Int32.ofInt u3_) rfl d_Reader_readRow_133 ?_
                    refine zw_iload (pc := 135) (i := 7) (x := Int32.ofInt v11_) rfl d_Reader_readRow_135 ?_
                    refine zk_callV hf_N5_.x (pc := 137) [.int (Int32.ofInt u3_), .int (Int32.ofInt v11_)] [] l_Reader_209 (u_Tokens_numberFromX l d_ N5_ (hf_N5_.w hW) u3_ hu3_a hu3_b v11_ hv11_a hv11_b) rfl rfl ((hf_N5_.w hW).ka (o := 1) (by decide)) (by decide) (by decide) (Nat.le_of_ble_eq_true rfl) d_Reader_readRow_137 ?_
                    rintro _ N22_ ⟨v23_, rfl, ⟨hv23_a, hv23_b⟩, hsN22_, -⟩
                    obtain rfl := hsN22_.eq.symm
                    show zW l m_Reader_readRow (zn Mz + 0, zw Mz + 0) N5_ 140 [some (.ref 4), some (.ref (d_ + 26)), some (.int (Int32.ofInt a1_)), some (.int (Int32.ofInt u3_)), some (.int (Int32.ofInt u4_)), some (.int (Int32.ofInt 0)), some (.int (Int32.ofInt u3_)), some (.int (Int32.ofInt v11_)), some (.int (Int32.ofInt v12_)), none] [.int (Int32.ofInt v23_)] _
                    refine zw_istore (pc := 140) (i := 9) (L2 := [some (.ref 4), some (.ref (d_ + 26)), some (.int (Int32.ofInt a1_)), some (.int (Int32.ofInt u3_)), some (.int (Int32.ofInt u4_)), some (.int (Int32.ofInt 0)), some (.int (Int32.ofInt u3_)), some (.int (Int32.ofInt v11_)), some (.int (Int32.ofInt v12_)), some (.int (Int32.ofInt v23_))]) (by decide) rfl d_Reader_readRow_140 ?_
                    refine zw_aload_n (pc := 142) (n := 1) (x := (d_ + 26)) rfl d_Reader_readRow_142 ?_
                    refine zw_iload (pc := 143) (i := 4) (x := Int32.ofInt u4_) rfl d_Reader_readRow_143 ?_
                    refine zw_iload (pc := 145) (i := 5) (x := Int32.ofInt 0) rfl d_Reader_readRow_145 ?_
                    refine zr_if_eq (pc := 147) (tgt := 157) ⟨(by decide), (by decide)⟩ (by decide) d_Reader_readRow_147 (fun hc_147 => ?_) (fun hc_147 => ?_)
                    · skip
                      refine zw_iload (pc := 157) (i := 9) (x := Int32.ofInt v23_) rfl (zdal_p dlB_Reader_readRow_140 (i := 5) rfl) ?_
                      refine zr_i2l (pc := 159) ⟨hv23_a, hv23_b⟩ (zdal_p dlB_Reader_readRow_140 (i := 6) rfl) ?_
                      refine zk_stGJ hf_N5_.x (pc := 160) (o := 27) (by decide) l_Reader_212 ((hf_N5_.w hW).kr (o := 26) (by decide)) ((hf_N5_.w hW).lr (o := 26) (s := 0) (r := 27) (by decide)) ((hf_N5_.w hW).rr (o := 27) (t := 2) (n := 27) (by decide)) (by decide) ⟨by (exact hu4_a), by (exact hu4_b)⟩ (by decide) (Nat.le_of_ble_eq_true rfl) d_Reader_readRow_160 (fun N24_ hsN24_ => ?_)
                      have hf_N24_ : zFc d_ [] [] [] [27] Mz N24_ := hf_N5_.tr hsN24_ (by decide) (by decide) (by decide) (by decide)
                      have hb0_N24_ : zFc d_ [] [] [] [27] Mz N24_ := hs6_.tr hsN24_ (by decide) (by decide) (by decide) (by decide)
                      refine zw_aload_n (pc := 163) (n := 0) (x := 4) rfl d_Reader_readRow_163 ?_
                      refine zw_getF (pc := 164) f_Reader_15 rfl ((hf_N24_.w hW).ka (o := 4) (by decide)) ((hf_N24_.w hW).la (o := 4) (s := 0) (r := 1) (by decide)) d_Reader_readRow_164 ?_
                      refine zw_iload (pc := 167) (i := 7) (x := Int32.ofInt v11_) rfl d_Reader_readRow_167 ?_
                      refine zk_callV hf_N24_.x (pc := 169) [.int (Int32.ofInt v11_)] [] l_Reader_188 (u_Tokens_pastBlanksX l d_ N24_ (hf_N24_.w hW) v11_ hv11_a hv11_b) rfl rfl ((hf_N24_.w hW).ka (o := 1) (by decide)) (by decide) (by decide) (Nat.le_of_ble_eq_true rfl) d_Reader_readRow_169 ?_
                      rintro _ N25_ ⟨v26_, rfl, ⟨hv26_a, hv26_b⟩, hsN25_, -⟩
                      obtain rfl := hsN25_.eq.symm
                      show zW l m_Reader_readRow (zn Mz + 0, zw Mz + 0) N24_ 172 [some (.ref 4), some (.ref (d_ + 26)), some (.int (Int32.ofInt a1_)), some (.int (Int32.ofInt u3_)), some (.int (Int32.ofInt u4_)), some (.int (Int32.ofInt 0)), some (.int (Int32.ofInt u3_)), some (.int (Int32.ofInt v11_)), some (.int (Int32.ofInt v12_)), some (.int (Int32.ofInt v23_))] [.int (Int32.ofInt v26_)] _
                      refine zw_istore_n (pc := 172) (i := 3) (L2 := [some (.ref 4), some (.ref (d_ + 26)), some (.int (Int32.ofInt a1_)), some (.int (Int32.ofInt v26_)), some (.int (Int32.ofInt u4_)), some (.int (Int32.ofInt 0)), some (.int (Int32.ofInt u3_)), some (.int (Int32.ofInt v11_)), some (.int (Int32.ofInt v12_)), some (.int (Int32.ofInt v23_))]) rfl (by decide) rfl d_Reader_readRow_172 ?_
                      refine zr_iinc (pc := 173) (i := 4) (a := u4_) (n := 1) (L2 := [some (.ref 4), some (.ref (d_ + 26)), some (.int (Int32.ofInt a1_)), some (.int (Int32.ofInt v26_)), some (.int (Int32.ofInt (u4_ + 1))), some (.int (Int32.ofInt 0)), some (.int (Int32.ofInt u3_)), some (.int (Int32.ofInt v11_)), some (.int (Int32.ofInt v12_)), some (.int (Int32.ofInt v23_))]) rfl (by decide) rfl d_Reader_readRow_173 ?_
                      obtain ⟨v27_, hv27_a, hv27_b, hv27_e, hv27_d⟩ := zk_gen (u4_ + 1)
                      rw [hv27_e]
                      refine zw_goto (pc := 176) (tgt := 12) (by decide) d_Reader_readRow_176 ?_
                      refine zW_le [some (.ref 4), some (.ref (d_ + 26)), some (.int (Int32.ofInt a1_)), some (.int (Int32.ofInt v26_)), some (.int (Int32.ofInt v27_)), none, none, none, none, none] (⟨rfl, rfl, rfl, rfl, rfl, trivial⟩) ?_
                      exact ih_12 v26_ hv26_a hv26_b v27_ hv27_a hv27_b N24_ hb0_N24_ (show 0 ≤ v27_ by first | with_reducible assumption | assumption | omega) (by omega)
                    · skip
                      exact absurd hc_147 (by decide)
                  · skip
                    refine zw_iconst (pc := 127) (v := Int32.ofInt 0) (by decide) d_Reader_readRow_127 ?_
                    exact zk_iret (pc := 128) (ty := .boolean) rfl (z_narB (by (decide))) ⟨by (decide), by (decide)⟩ hf_N5_ (show (((0 : Int)) = 0 ∨ ((0 : Int)) = 1) by first | with_reducible assumption | (decide) | assumption) d_Reader_readRow_128
          · skip
            exact absurd hc_54 (by decide)
        · skip
          refine zw_aload_n (pc := 29) (n := 0) (x := 4) rfl (zdal_p dlB_Reader_readRow_137 (i := 15) rfl) ?_
          refine zw_getF (pc := 30) f_Reader_15 rfl ((hf_N5_.w hW).ka (o := 4) (by decide)) ((hf_N5_.w hW).la (o := 4) (s := 0) (r := 1) (by decide)) (zdal_p dlB_Reader_readRow_137 (i := 16) rfl) ?_
          refine zw_getF (pc := 33) f_Reader_194 rfl ((hf_N5_.w hW).ka (o := 1) (by decide)) ((hf_N5_.w hW).la (o := 1) (s := 0) (r := 2) (by decide)) (zdal_p dlB_Reader_readRow_137 (i := 17) rfl) ?_
          refine zw_iload_n (pc := 36) (n := 3) (x := Int32.ofInt u3_) rfl (zdal_p dlB_Reader_readRow_137 (i := 18) rfl) ?_
          refine zk_atG hf_N5_.x (pc := 37) l_Reader_198 ((hf_N5_.w hW).ka (o := 2) (by decide)) ((hf_N5_.w hW).la (o := 2) (s := 0) (r := 3) (by decide)) ((hf_N5_.w hW).ra (o := 3) (t := 1) (n := 700) (by decide)) (by decide) ⟨by (exact hu3_a), by (exact hu3_b)⟩ (by decide) (Nat.le_of_ble_eq_true rfl) (zdal_p dlB_Reader_readRow_137 (i := 19) rfl) (fun v28_ hv28_ hv28_a hv28_b => ?_)
          clear hv28_
          refine zw_bipush (pc := 40) (v := Int32.ofInt 45) (by decide) (zdal_p dlB_Reader_readRow_137 (i := 20) rfl) ?_
          refine zr_icmp_ne (pc := 42) (tgt := 49) ⟨hv28_a, hv28_b⟩ ⟨(by decide), (by decide)⟩ (by decide) (zdal_p dlB_Reader_readRow_137 (i := 21) rfl) (fun hc_42 => ?_) (fun hc_42 => ?_)
          · skip
            refine zw_iconst (pc := 49) (v := Int32.ofInt 0) (by decide) (zdal_p dlB_Reader_readRow_138 (i := 0) rfl) ?_
            refine zw_istore (pc := 50) (i := 5) (L2 := [some (.ref 4), some (.ref (d_ + 26)), some (.int (Int32.ofInt a1_)), some (.int (Int32.ofInt u3_)), some (.int (Int32.ofInt u4_)), some (.int (Int32.ofInt 0)), none, none, none, none]) (by decide) rfl (zdal_p dlB_Reader_readRow_138 (i := 1) rfl) ?_
            refine zw_iload (pc := 52) (i := 5) (x := Int32.ofInt 0) rfl (zdal_p dlB_Reader_readRow_138 (i := 2) rfl) ?_
            refine zr_if_eq (pc := 54) (tgt := 63) ⟨(by decide), (by decide)⟩ (by decide) (zdal_p dlB_Reader_readRow_138 (i := 3) rfl) (fun hc_54 => ?_) (fun hc_54 => ?_)
            · skip
              refine zw_iload_n (pc := 63) (n := 3) (x := Int32.ofInt u3_) rfl (zdal_p dlB_Reader_readRow_138 (i := 8) rfl) ?_
              refine zw_istore (pc := 64) (i := 6) (L2 := [some (.ref 4), some (.ref (d_ + 26)), some (.int (Int32.ofInt a1_)), some (.int (Int32.ofInt u3_)), some (.int (Int32.ofInt u4_)), some (.int (Int32.ofInt 0)), some (.int (Int32.ofInt u3_)), none, none, none]) (by decide) rfl (zdal_p dlB_Reader_readRow_138 (i := 9) rfl) ?_
              refine zw_aload_n (pc := 66) (n := 0) (x := 4) rfl (zdal_p dlB_Reader_readRow_138 (i := 10) rfl) ?_
              refine zw_getF (pc := 67) f_Reader_15 rfl ((hf_N5_.w hW).ka (o := 4) (by decide)) ((hf_N5_.w hW).la (o := 4) (s := 0) (r := 1) (by decide)) (zdal_p dlB_Reader_readRow_138 (i := 11) rfl) ?_
              refine zw_iload (pc := 70) (i := 6) (x := Int32.ofInt u3_) rfl (zdal_p dlB_Reader_readRow_138 (i := 12) rfl) ?_
              refine zk_callV hf_N5_.x (pc := 72) [.int (Int32.ofInt u3_)] [] l_Reader_203 (u_Tokens_pastDigitsX l d_ N5_ (hf_N5_.w hW) u3_ hu3_a hu3_b) rfl rfl ((hf_N5_.w hW).ka (o := 1) (by decide)) (by decide) (by decide) (Nat.le_of_ble_eq_true rfl) (zdal_p dlB_Reader_readRow_138 (i := 13) rfl) ?_
              rintro _ N29_ ⟨v30_, rfl, ⟨hv30_a, hv30_b⟩, hsN29_, -⟩
              obtain rfl := hsN29_.eq.symm
              show zW l m_Reader_readRow (zn Mz + 0, zw Mz + 0) N5_ 75 [some (.ref 4), some (.ref (d_ + 26)), some (.int (Int32.ofInt a1_)), some (.int (Int32.ofInt u3_)), some (.int (Int32.ofInt u4_)), some (.int (Int32.ofInt 0)), some (.int (Int32.ofInt u3_)), none, none, none] [.int (Int32.ofInt v30_)] _
              refine zw_istore (pc := 75) (i := 7) (L2 := [some (.ref 4), some (.ref (d_ + 26)), some (.int (Int32.ofInt a1_)), some (.int (Int32.ofInt u3_)), some (.int (Int32.ofInt u4_)), some (.int (Int32.ofInt 0)), some (.int (Int32.ofInt u3_)), some (.int (Int32.ofInt v30_)), none, none]) (by decide) rfl (zdal_p dlB_Reader_readRow_138 (i := 14) rfl) ?_
              refine zw_iload (pc := 77) (i := 7) (x := Int32.ofInt v30_) rfl (zdal_p dlB_Reader_readRow_138 (i := 15) rfl) ?_
              refine zw_iload (pc := 79) (i := 6) (x := Int32.ofInt u3_) rfl (zdal_p dlB_Reader_readRow_138 (i := 16) rfl) ?_
              refine zr_isub (pc := 81) (zdal_p dlB_Reader_readRow_138 (i := 17) rfl) ?_
              refine zr_nmI (fun v31_ hv31_ => ?_)
              obtain ⟨hv31_a, hv31_b⟩ := hv31_
              refine zw_istore (pc := 82) (i := 8) (L2 := [some (.ref 4), some (.ref (d_ + 26)), some (.int (Int32.ofInt a1_)), some (.int (Int32.ofInt u3_)), some (.int (Int32.ofInt u4_)), some (.int (Int32.ofInt 0)), some (.int (Int32.ofInt u3_)), some (.int (Int32.ofInt v30_)), some (.int (Int32.ofInt v31_)), none]) (by decide) rfl (zdal_p dlB_Reader_readRow_138 (i := 18) rfl) ?_
              refine zw_iload (pc := 84) (i := 8) (x := Int32.ofInt v31_) rfl (zdal_p dlB_Reader_readRow_138 (i := 19) rfl) ?_
              refine zw_iconst (pc := 86) (v := Int32.ofInt 1) (by decide) (zdal_p dlB_Reader_readRow_138 (i := 20) rfl) ?_
              refine zr_icmp_lt (pc := 87) (tgt := 127) ⟨hv31_a, hv31_b⟩ ⟨(by decide), (by decide)⟩ (by decide) (zdal_p dlB_Reader_readRow_138 (i := 21) rfl) (fun hc_87 => ?_) (fun hc_87 => ?_)
              · skip
                refine zw_iconst (pc := 127) (v := Int32.ofInt 0) (by decide) d_Reader_readRow_127 ?_
                exact zk_iret (pc := 128) (ty := .boolean) rfl (z_narB (by (decide))) ⟨by (decide), by (decide)⟩ hf_N5_ (show (((0 : Int)) = 0 ∨ ((0 : Int)) = 1) by first | with_reducible assumption | (decide) | assumption) d_Reader_readRow_128
              · skip
                refine zw_iload (pc := 90) (i := 8) (x := Int32.ofInt v31_) rfl (zdal_p dlB_Reader_readRow_138 (i := 22) rfl) ?_
                refine zw_bipush (pc := 92) (v := Int32.ofInt 6) (by decide) (zdal_p dlB_Reader_readRow_138 (i := 23) rfl) ?_
                refine zr_icmp_gt (pc := 94) (tgt := 127) ⟨hv31_a, hv31_b⟩ ⟨(by decide), (by decide)⟩ (by decide) (zdal_p dlB_Reader_readRow_139 (i := 0) rfl) (fun hc_94 => ?_) (fun hc_94 => ?_)
                · skip
                  refine zw_iconst (pc := 127) (v := Int32.ofInt 0) (by decide) d_Reader_readRow_127 ?_
                  exact zk_iret (pc := 128) (ty := .boolean) rfl (z_narB (by (decide))) ⟨by (decide), by (decide)⟩ hf_N5_ (show (((0 : Int)) = 0 ∨ ((0 : Int)) = 1) by first | with_reducible assumption | (decide) | assumption) d_Reader_readRow_128
                · skip
                  refine zw_iload (pc := 97) (i := 7) (x := Int32.ofInt v30_) rfl (zdal_p dlB_Reader_readRow_139 (i := 1) rfl) ?_
                  refine zw_aload_n (pc := 99) (n := 0) (x := 4) rfl (zdal_p dlB_Reader_readRow_139 (i := 2) rfl) ?_
                  refine zw_getF (pc := 100) f_Reader_15 rfl ((hf_N5_.w hW).ka (o := 4) (by decide)) ((hf_N5_.w hW).la (o := 4) (s := 0) (r := 1) (by decide)) (zdal_p dlB_Reader_readRow_139 (i := 3) rfl) ?_
                  refine zk_getI (pc := 103) f_Reader_191 rfl ((hf_N5_.w hW).ka (o := 1) (by decide)) (zdal_p dlB_Reader_readRow_139 (i := 4) rfl) ?_
                  rw [hf_N5_.ea hW (by decide)]
                  refine zr_icmp_ge (pc := 106) (tgt := 129) ⟨hv30_a, hv30_b⟩ ⟨(ze_r Mz 1 1).1, (ze_r Mz 1 1).2⟩ (by decide) (zdal_p dlB_Reader_readRow_139 (i := 5) rfl) (fun hc_106 => ?_) (fun hc_106 => ?_)
                  · skip
                    refine zw_aload_n (pc := 129) (n := 0) (x := 4) rfl d_Reader_readRow_129 ?_
                    refine zw_getF (pc := 130) f_Reader_15 rfl ((hf_N5_.w hW).ka (o := 4) (by decide)) ((hf_N5_.w hW).la (o := 4) (s := 0) (r := 1) (by decide)) d_Reader_readRow_130 ?_
                    refine zw_iload (pc := 133) (i := 6) (x := Int32.ofInt u3_) rfl d_Reader_readRow_133 ?_
                    refine zw_iload (pc := 135) (i := 7) (x := Int32.ofInt v30_) rfl d_Reader_readRow_135 ?_
                    refine zk_callV hf_N5_.x (pc := 137) [.int (Int32.ofInt u3_), .int (Int32.ofInt v30_)] [] l_Reader_209 (u_Tokens_numberFromX l d_ N5_ (hf_N5_.w hW) u3_ hu3_a hu3_b v30_ hv30_a hv30_b) rfl rfl ((hf_N5_.w hW).ka (o := 1) (by decide)) (by decide) (by decide) (Nat.le_of_ble_eq_true rfl) d_Reader_readRow_137 ?_
                    rintro _ N32_ ⟨v33_, rfl, ⟨hv33_a, hv33_b⟩, hsN32_, -⟩
                    obtain rfl := hsN32_.eq.symm
                    show zW l m_Reader_readRow (zn Mz + 0, zw Mz + 0) N5_ 140 [some (.ref 4), some (.ref (d_ + 26)), some (.int (Int32.ofInt a1_)), some (.int (Int32.ofInt u3_)), some (.int (Int32.ofInt u4_)), some (.int (Int32.ofInt 0)), some (.int (Int32.ofInt u3_)), some (.int (Int32.ofInt v30_)), some (.int (Int32.ofInt v31_)), none] [.int (Int32.ofInt v33_)] _
                    refine zw_istore (pc := 140) (i := 9) (L2 := [some (.ref 4), some (.ref (d_ + 26)), some (.int (Int32.ofInt a1_)), some (.int (Int32.ofInt u3_)), some (.int (Int32.ofInt u4_)), some (.int (Int32.ofInt 0)), some (.int (Int32.ofInt u3_)), some (.int (Int32.ofInt v30_)), some (.int (Int32.ofInt v31_)), some (.int (Int32.ofInt v33_))]) (by decide) rfl d_Reader_readRow_140 ?_
                    refine zw_aload_n (pc := 142) (n := 1) (x := (d_ + 26)) rfl d_Reader_readRow_142 ?_
                    refine zw_iload (pc := 143) (i := 4) (x := Int32.ofInt u4_) rfl d_Reader_readRow_143 ?_
                    refine zw_iload (pc := 145) (i := 5) (x := Int32.ofInt 0) rfl d_Reader_readRow_145 ?_
                    refine zr_if_eq (pc := 147) (tgt := 157) ⟨(by decide), (by decide)⟩ (by decide) d_Reader_readRow_147 (fun hc_147 => ?_) (fun hc_147 => ?_)
                    · skip
                      refine zw_iload (pc := 157) (i := 9) (x := Int32.ofInt v33_) rfl (zdal_p dlB_Reader_readRow_140 (i := 5) rfl) ?_
                      refine zr_i2l (pc := 159) ⟨hv33_a, hv33_b⟩ (zdal_p dlB_Reader_readRow_140 (i := 6) rfl) ?_
                      refine zk_stGJ hf_N5_.x (pc := 160) (o := 27) (by decide) l_Reader_212 ((hf_N5_.w hW).kr (o := 26) (by decide)) ((hf_N5_.w hW).lr (o := 26) (s := 0) (r := 27) (by decide)) ((hf_N5_.w hW).rr (o := 27) (t := 2) (n := 27) (by decide)) (by decide) ⟨by (exact hu4_a), by (exact hu4_b)⟩ (by decide) (Nat.le_of_ble_eq_true rfl) d_Reader_readRow_160 (fun N34_ hsN34_ => ?_)
                      have hf_N34_ : zFc d_ [] [] [] [27] Mz N34_ := hf_N5_.tr hsN34_ (by decide) (by decide) (by decide) (by decide)
                      have hb0_N34_ : zFc d_ [] [] [] [27] Mz N34_ := hs6_.tr hsN34_ (by decide) (by decide) (by decide) (by decide)
                      refine zw_aload_n (pc := 163) (n := 0) (x := 4) rfl d_Reader_readRow_163 ?_
                      refine zw_getF (pc := 164) f_Reader_15 rfl ((hf_N34_.w hW).ka (o := 4) (by decide)) ((hf_N34_.w hW).la (o := 4) (s := 0) (r := 1) (by decide)) d_Reader_readRow_164 ?_
                      refine zw_iload (pc := 167) (i := 7) (x := Int32.ofInt v30_) rfl d_Reader_readRow_167 ?_
                      refine zk_callV hf_N34_.x (pc := 169) [.int (Int32.ofInt v30_)] [] l_Reader_188 (u_Tokens_pastBlanksX l d_ N34_ (hf_N34_.w hW) v30_ hv30_a hv30_b) rfl rfl ((hf_N34_.w hW).ka (o := 1) (by decide)) (by decide) (by decide) (Nat.le_of_ble_eq_true rfl) d_Reader_readRow_169 ?_
                      rintro _ N35_ ⟨v36_, rfl, ⟨hv36_a, hv36_b⟩, hsN35_, -⟩
                      obtain rfl := hsN35_.eq.symm
                      show zW l m_Reader_readRow (zn Mz + 0, zw Mz + 0) N34_ 172 [some (.ref 4), some (.ref (d_ + 26)), some (.int (Int32.ofInt a1_)), some (.int (Int32.ofInt u3_)), some (.int (Int32.ofInt u4_)), some (.int (Int32.ofInt 0)), some (.int (Int32.ofInt u3_)), some (.int (Int32.ofInt v30_)), some (.int (Int32.ofInt v31_)), some (.int (Int32.ofInt v33_))] [.int (Int32.ofInt v36_)] _
                      refine zw_istore_n (pc := 172) (i := 3) (L2 := [some (.ref 4), some (.ref (d_ + 26)), some (.int (Int32.ofInt a1_)), some (.int (Int32.ofInt v36_)), some (.int (Int32.ofInt u4_)), some (.int (Int32.ofInt 0)), some (.int (Int32.ofInt u3_)), some (.int (Int32.ofInt v30_)), some (.int (Int32.ofInt v31_)), some (.int (Int32.ofInt v33_))]) rfl (by decide) rfl d_Reader_readRow_172 ?_
                      refine zr_iinc (pc := 173) (i := 4) (a := u4_) (n := 1) (L2 := [some (.ref 4), some (.ref (d_ + 26)), some (.int (Int32.ofInt a1_)), some (.int (Int32.ofInt v36_)), some (.int (Int32.ofInt (u4_ + 1))), some (.int (Int32.ofInt 0)), some (.int (Int32.ofInt u3_)), some (.int (Int32.ofInt v30_)), some (.int (Int32.ofInt v31_)), some (.int (Int32.ofInt v33_))]) rfl (by decide) rfl d_Reader_readRow_173 ?_
                      obtain ⟨v37_, hv37_a, hv37_b, hv37_e, hv37_d⟩ := zk_gen (u4_ + 1)
                      rw [hv37_e]
                      refine zw_goto (pc := 176) (tgt := 12) (by decide) d_Reader_readRow_176 ?_
                      refine zW_le [some (.ref 4), some (.ref (d_ + 26)), some (.int (Int32.ofInt a1_)), some (.int (Int32.ofInt v36_)), some (.int (Int32.ofInt v37_)), none, none, none, none, none] (⟨rfl, rfl, rfl, rfl, rfl, trivial⟩) ?_
                      exact ih_12 v36_ hv36_a hv36_b v37_ hv37_a hv37_b N34_ hb0_N34_ (show 0 ≤ v37_ by first | with_reducible assumption | assumption | omega) (by omega)
                    · skip
                      exact absurd hc_147 (by decide)
                  · skip
                    refine zw_aload_n (pc := 109) (n := 0) (x := 4) rfl (zdal_p dlB_Reader_readRow_139 (i := 6) rfl) ?_
                    refine zw_getF (pc := 110) f_Reader_15 rfl ((hf_N5_.w hW).ka (o := 4) (by decide)) ((hf_N5_.w hW).la (o := 4) (s := 0) (r := 1) (by decide)) (zdal_p dlB_Reader_readRow_139 (i := 7) rfl) ?_
                    refine zw_getF (pc := 113) f_Reader_194 rfl ((hf_N5_.w hW).ka (o := 1) (by decide)) ((hf_N5_.w hW).la (o := 1) (s := 0) (r := 2) (by decide)) (zdal_p dlB_Reader_readRow_139 (i := 8) rfl) ?_
                    refine zw_iload (pc := 116) (i := 7) (x := Int32.ofInt v30_) rfl (zdal_p dlB_Reader_readRow_139 (i := 9) rfl) ?_
                    refine zk_atG hf_N5_.x (pc := 118) l_Reader_198 ((hf_N5_.w hW).ka (o := 2) (by decide)) ((hf_N5_.w hW).la (o := 2) (s := 0) (r := 3) (by decide)) ((hf_N5_.w hW).ra (o := 3) (t := 1) (n := 700) (by decide)) (by decide) ⟨by (exact hv30_a), by (exact hv30_b)⟩ (by decide) (Nat.le_of_ble_eq_true rfl) (zdal_p dlB_Reader_readRow_139 (i := 10) rfl) (fun v38_ hv38_ hv38_a hv38_b => ?_)
                    clear hv38_
                    refine zr_callS hf_N5_.x (pc := 121) [.int (Int32.ofInt v38_)] [] l_Reader_206 (u_Tokens_isBlankX l d_ N5_ (hf_N5_.w hW) v38_ hv38_a hv38_b) rfl rfl (by decide) (Nat.le_of_ble_eq_true rfl) (zdal_p dlB_Reader_readRow_139 (i := 11) rfl) ?_
                    rintro _ N39_ ⟨v40_, rfl, ⟨hv40_a, hv40_b⟩, hsN39_, hp0_N39_⟩
                    obtain rfl := hsN39_.eq.symm
                    replace hp0_N39_ : (v40_ = 0 ∨ v40_ = 1) := hp0_N39_
                    show zW l m_Reader_readRow (zn Mz + 0, zw Mz + 0) N5_ 124 [some (.ref 4), some (.ref (d_ + 26)), some (.int (Int32.ofInt a1_)), some (.int (Int32.ofInt u3_)), some (.int (Int32.ofInt u4_)), some (.int (Int32.ofInt 0)), some (.int (Int32.ofInt u3_)), some (.int (Int32.ofInt v30_)), some (.int (Int32.ofInt v31_)), none] [.int (Int32.ofInt v40_)] _
                    refine zr_if_ne (pc := 124) (tgt := 129) ⟨hv40_a, hv40_b⟩ (by decide) (zdal_p dlB_Reader_readRow_139 (i := 12) rfl) (fun hc_124 => ?_) (fun hc_124 => ?_)
                    · skip
                      refine zw_aload_n (pc := 129) (n := 0) (x := 4) rfl d_Reader_readRow_129 ?_
                      refine zw_getF (pc := 130) f_Reader_15 rfl ((hf_N5_.w hW).ka (o := 4) (by decide)) ((hf_N5_.w hW).la (o := 4) (s := 0) (r := 1) (by decide)) d_Reader_readRow_130 ?_
                      refine zw_iload (pc := 133) (i := 6) (x := Int32.ofInt u3_) rfl d_Reader_readRow_133 ?_
                      refine zw_iload (pc := 135) (i := 7) (x := Int32.ofInt v30_) rfl d_Reader_readRow_135 ?_
                      refine zk_callV hf_N5_.x (pc := 137) [.int (Int32.ofInt u3_), .int (Int32.ofInt v30_)] [] l_Reader_209 (u_Tokens_numberFromX l d_ N5_ (hf_N5_.w hW) u3_ hu3_a hu3_b v30_ hv30_a hv30_b) rfl rfl ((hf_N5_.w hW).ka (o := 1) (by decide)) (by decide) (by decide) (Nat.le_of_ble_eq_true rfl) d_Reader_readRow_137 ?_
                      rintro _ N41_ ⟨v42_, rfl, ⟨hv42_a, hv42_b⟩, hsN41_, -⟩
                      obtain rfl := hsN41_.eq.symm
                      show zW l m_Reader_readRow (zn Mz + 0, zw Mz + 0) N5_ 140 [some (.ref 4), some (.ref (d_ + 26)), some (.int (Int32.ofInt a1_)), some (.int (Int32.ofInt u3_)), some (.int (Int32.ofInt u4_)), some (.int (Int32.ofInt 0)), some (.int (Int32.ofInt u3_)), some (.int (Int32.ofInt v30_)), some (.int (Int32.ofInt v31_)), none] [.int (Int32.ofInt v42_)] _
                      refine zw_istore (pc := 140) (i := 9) (L2 := [some (.ref 4), some (.ref (d_ + 26)), some (.int (Int32.ofInt a1_)), some (.int (Int32.ofInt u3_)), some (.int (Int32.ofInt u4_)), some (.int (Int32.ofInt 0)), some (.int (Int32.ofInt u3_)), some (.int (Int32.ofInt v30_)), some (.int (Int32.ofInt v31_)), some (.int (Int32.ofInt v42_))]) (by decide) rfl d_Reader_readRow_140 ?_
                      refine zw_aload_n (pc := 142) (n := 1) (x := (d_ + 26)) rfl d_Reader_readRow_142 ?_
                      refine zw_iload (pc := 143) (i := 4) (x := Int32.ofInt u4_) rfl d_Reader_readRow_143 ?_
                      refine zw_iload (pc := 145) (i := 5) (x := Int32.ofInt 0) rfl d_Reader_readRow_145 ?_
                      refine zr_if_eq (pc := 147) (tgt := 157) ⟨(by decide), (by decide)⟩ (by decide) d_Reader_readRow_147 (fun hc_147 => ?_) (fun hc_147 => ?_)
                      · skip
                        refine zw_iload (pc := 157) (i := 9) (x := Int32.ofInt v42_) rfl (zdal_p dlB_Reader_readRow_140 (i := 5) rfl) ?_
                        refine zr_i2l (pc := 159) ⟨hv42_a, hv42_b⟩ (zdal_p dlB_Reader_readRow_140 (i := 6) rfl) ?_
                        refine zk_stGJ hf_N5_.x (pc := 160) (o := 27) (by decide) l_Reader_212 ((hf_N5_.w hW).kr (o := 26) (by decide)) ((hf_N5_.w hW).lr (o := 26) (s := 0) (r := 27) (by decide)) ((hf_N5_.w hW).rr (o := 27) (t := 2) (n := 27) (by decide)) (by decide) ⟨by (exact hu4_a), by (exact hu4_b)⟩ (by decide) (Nat.le_of_ble_eq_true rfl) d_Reader_readRow_160 (fun N43_ hsN43_ => ?_)
                        have hf_N43_ : zFc d_ [] [] [] [27] Mz N43_ := hf_N5_.tr hsN43_ (by decide) (by decide) (by decide) (by decide)
                        have hb0_N43_ : zFc d_ [] [] [] [27] Mz N43_ := hs6_.tr hsN43_ (by decide) (by decide) (by decide) (by decide)
                        refine zw_aload_n (pc := 163) (n := 0) (x := 4) rfl d_Reader_readRow_163 ?_
                        refine zw_getF (pc := 164) f_Reader_15 rfl ((hf_N43_.w hW).ka (o := 4) (by decide)) ((hf_N43_.w hW).la (o := 4) (s := 0) (r := 1) (by decide)) d_Reader_readRow_164 ?_
                        refine zw_iload (pc := 167) (i := 7) (x := Int32.ofInt v30_) rfl d_Reader_readRow_167 ?_
                        refine zk_callV hf_N43_.x (pc := 169) [.int (Int32.ofInt v30_)] [] l_Reader_188 (u_Tokens_pastBlanksX l d_ N43_ (hf_N43_.w hW) v30_ hv30_a hv30_b) rfl rfl ((hf_N43_.w hW).ka (o := 1) (by decide)) (by decide) (by decide) (Nat.le_of_ble_eq_true rfl) d_Reader_readRow_169 ?_
                        rintro _ N44_ ⟨v45_, rfl, ⟨hv45_a, hv45_b⟩, hsN44_, -⟩
                        obtain rfl := hsN44_.eq.symm
                        show zW l m_Reader_readRow (zn Mz + 0, zw Mz + 0) N43_ 172 [some (.ref 4), some (.ref (d_ + 26)), some (.int (Int32.ofInt a1_)), some (.int (Int32.ofInt u3_)), some (.int (Int32.ofInt u4_)), some (.int (Int32.ofInt 0)), some (.int (Int32.ofInt u3_)), some (.int (Int32.ofInt v30_)), some (.int (Int32.ofInt v31_)), some (.int (Int32.ofInt v42_))] [.int (Int32.ofInt v45_)] _
                        refine zw_istore_n (pc := 172) (i := 3) (L2 := [some (.ref 4), some (.ref (d_ + 26)), some (.int (Int32.ofInt a1_)), some (.int (Int32.ofInt v45_)), some (.int (Int32.ofInt u4_)), some (.int (Int32.ofInt 0)), some (.int (Int32.ofInt u3_)), some (.int (Int32.ofInt v30_)), some (.int (Int32.ofInt v31_)), some (.int (Int32.ofInt v42_))]) rfl (by decide) rfl d_Reader_readRow_172 ?_
                        refine zr_iinc (pc := 173) (i := 4) (a := u4_) (n := 1) (L2 := [some (.ref 4), some (.ref (d_ + 26)), some (.int (Int32.ofInt a1_)), some (.int (Int32.ofInt v45_)), some (.int (Int32.ofInt (u4_ + 1))), some (.int (Int32.ofInt 0)), some (.int (Int32.ofInt u3_)), some (.int (Int32.ofInt v30_)), some (.int (Int32.ofInt v31_)), some (.int (Int32.ofInt v42_))]) rfl (by decide) rfl d_Reader_readRow_173 ?_
                        obtain ⟨v46_, hv46_a, hv46_b, hv46_e, hv46_d⟩ := zk_gen (u4_ + 1)
                        rw [hv46_e]
                        refine zw_goto (pc := 176) (tgt := 12) (by decide) d_Reader_readRow_176 ?_
                        refine zW_le [some (.ref 4), some (.ref (d_ + 26)), some (.int (Int32.ofInt a1_)), some (.int (Int32.ofInt v45_)), some (.int (Int32.ofInt v46_)), none, none, none, none, none] (⟨rfl, rfl, rfl, rfl, rfl, trivial⟩) ?_
                        exact ih_12 v45_ hv45_a hv45_b v46_ hv46_a hv46_b N43_ hb0_N43_ (show 0 ≤ v46_ by first | with_reducible assumption | assumption | omega) (by omega)
                      · skip
                        exact absurd hc_147 (by decide)
                    · skip
                      refine zw_iconst (pc := 127) (v := Int32.ofInt 0) (by decide) d_Reader_readRow_127 ?_
                      exact zk_iret (pc := 128) (ty := .boolean) rfl (z_narB (by (decide))) ⟨by (decide), by (decide)⟩ hf_N5_ (show (((0 : Int)) = 0 ∨ ((0 : Int)) = 1) by first | with_reducible assumption | (decide) | assumption) d_Reader_readRow_128
            · skip
              exact absurd hc_54 (by decide)
          · skip
            refine zw_iconst (pc := 45) (v := Int32.ofInt 1) (by decide) (zdal_p dlB_Reader_readRow_137 (i := 22) rfl) ?_
            refine zw_goto (pc := 46) (tgt := 50) (by decide) (zdal_p dlB_Reader_readRow_137 (i := 23) rfl) ?_
            refine zw_istore (pc := 50) (i := 5) (L2 := [some (.ref 4), some (.ref (d_ + 26)), some (.int (Int32.ofInt a1_)), some (.int (Int32.ofInt u3_)), some (.int (Int32.ofInt u4_)), some (.int (Int32.ofInt 1)), none, none, none, none]) (by decide) rfl (zdal_p dlB_Reader_readRow_138 (i := 1) rfl) ?_
            refine zw_iload (pc := 52) (i := 5) (x := Int32.ofInt 1) rfl (zdal_p dlB_Reader_readRow_138 (i := 2) rfl) ?_
            refine zr_if_eq (pc := 54) (tgt := 63) ⟨(by decide), (by decide)⟩ (by decide) (zdal_p dlB_Reader_readRow_138 (i := 3) rfl) (fun hc_54 => ?_) (fun hc_54 => ?_)
            · skip
              exact absurd hc_54 (by decide)
            · skip
              refine zw_iload_n (pc := 57) (n := 3) (x := Int32.ofInt u3_) rfl (zdal_p dlB_Reader_readRow_138 (i := 4) rfl) ?_
              refine zw_iconst (pc := 58) (v := Int32.ofInt 1) (by decide) (zdal_p dlB_Reader_readRow_138 (i := 5) rfl) ?_
              refine zr_iadd (pc := 59) (zdal_p dlB_Reader_readRow_138 (i := 6) rfl) ?_
              refine zr_nmI (fun v47_ hv47_ => ?_)
              obtain ⟨hv47_a, hv47_b⟩ := hv47_
              refine zw_goto (pc := 60) (tgt := 64) (by decide) (zdal_p dlB_Reader_readRow_138 (i := 7) rfl) ?_
              refine zw_istore (pc := 64) (i := 6) (L2 := [some (.ref 4), some (.ref (d_ + 26)), some (.int (Int32.ofInt a1_)), some (.int (Int32.ofInt u3_)), some (.int (Int32.ofInt u4_)), some (.int (Int32.ofInt 1)), some (.int (Int32.ofInt v47_)), none, none, none]) (by decide) rfl (zdal_p dlB_Reader_readRow_138 (i := 9) rfl) ?_
              refine zw_aload_n (pc := 66) (n := 0) (x := 4) rfl (zdal_p dlB_Reader_readRow_138 (i := 10) rfl) ?_
              refine zw_getF (pc := 67) f_Reader_15 rfl ((hf_N5_.w hW).ka (o := 4) (by decide)) ((hf_N5_.w hW).la (o := 4) (s := 0) (r := 1) (by decide)) (zdal_p dlB_Reader_readRow_138 (i := 11) rfl) ?_
              refine zw_iload (pc := 70) (i := 6) (x := Int32.ofInt v47_) rfl (zdal_p dlB_Reader_readRow_138 (i := 12) rfl) ?_
              refine zk_callV hf_N5_.x (pc := 72) [.int (Int32.ofInt v47_)] [] l_Reader_203 (u_Tokens_pastDigitsX l d_ N5_ (hf_N5_.w hW) v47_ hv47_a hv47_b) rfl rfl ((hf_N5_.w hW).ka (o := 1) (by decide)) (by decide) (by decide) (Nat.le_of_ble_eq_true rfl) (zdal_p dlB_Reader_readRow_138 (i := 13) rfl) ?_
              rintro _ N48_ ⟨v49_, rfl, ⟨hv49_a, hv49_b⟩, hsN48_, -⟩
              obtain rfl := hsN48_.eq.symm
              show zW l m_Reader_readRow (zn Mz + 0, zw Mz + 0) N5_ 75 [some (.ref 4), some (.ref (d_ + 26)), some (.int (Int32.ofInt a1_)), some (.int (Int32.ofInt u3_)), some (.int (Int32.ofInt u4_)), some (.int (Int32.ofInt 1)), some (.int (Int32.ofInt v47_)), none, none, none] [.int (Int32.ofInt v49_)] _
              refine zw_istore (pc := 75) (i := 7) (L2 := [some (.ref 4), some (.ref (d_ + 26)), some (.int (Int32.ofInt a1_)), some (.int (Int32.ofInt u3_)), some (.int (Int32.ofInt u4_)), some (.int (Int32.ofInt 1)), some (.int (Int32.ofInt v47_)), some (.int (Int32.ofInt v49_)), none, none]) (by decide) rfl (zdal_p dlB_Reader_readRow_138 (i := 14) rfl) ?_
              refine zw_iload (pc := 77) (i := 7) (x := Int32.ofInt v49_) rfl (zdal_p dlB_Reader_readRow_138 (i := 15) rfl) ?_
              refine zw_iload (pc := 79) (i := 6) (x := Int32.ofInt v47_) rfl (zdal_p dlB_Reader_readRow_138 (i := 16) rfl) ?_
              refine zr_isub (pc := 81) (zdal_p dlB_Reader_readRow_138 (i := 17) rfl) ?_
              refine zr_nmI (fun v50_ hv50_ => ?_)
              obtain ⟨hv50_a, hv50_b⟩ := hv50_
              refine zw_istore (pc := 82) (i := 8) (L2 := [some (.ref 4), some (.ref (d_ + 26)), some (.int (Int32.ofInt a1_)), some (.int (Int32.ofInt u3_)), some (.int (Int32.ofInt u4_)), some (.int (Int32.ofInt 1)), some (.int (Int32.ofInt v47_)), some (.int (Int32.ofInt v49_)), some (.int (Int32.ofInt v50_)), none]) (by decide) rfl (zdal_p dlB_Reader_readRow_138 (i := 18) rfl) ?_
              refine zw_iload (pc := 84) (i := 8) (x := Int32.ofInt v50_) rfl (zdal_p dlB_Reader_readRow_138 (i := 19) rfl) ?_
              refine zw_iconst (pc := 86) (v := Int32.ofInt 1) (by decide) (zdal_p dlB_Reader_readRow_138 (i := 20) rfl) ?_
              refine zr_icmp_lt (pc := 87) (tgt := 127) ⟨hv50_a, hv50_b⟩ ⟨(by decide), (by decide)⟩ (by decide) (zdal_p dlB_Reader_readRow_138 (i := 21) rfl) (fun hc_87 => ?_) (fun hc_87 => ?_)
              · skip
                refine zw_iconst (pc := 127) (v := Int32.ofInt 0) (by decide) d_Reader_readRow_127 ?_
                exact zk_iret (pc := 128) (ty := .boolean) rfl (z_narB (by (decide))) ⟨by (decide), by (decide)⟩ hf_N5_ (show (((0 : Int)) = 0 ∨ ((0 : Int)) = 1) by first | with_reducible assumption | (decide) | assumption) d_Reader_readRow_128
              · skip
                refine zw_iload (pc := 90) (i := 8) (x := Int32.ofInt v50_) rfl (zdal_p dlB_Reader_readRow_138 (i := 22) rfl) ?_
                refine zw_bipush (pc := 92) (v := Int32.ofInt 6) (by decide) (zdal_p dlB_Reader_readRow_138 (i := 23) rfl) ?_
                refine zr_icmp_gt (pc := 94) (tgt := 127) ⟨hv50_a, hv50_b⟩ ⟨(by decide), (by decide)⟩ (by decide) (zdal_p dlB_Reader_readRow_139 (i := 0) rfl) (fun hc_94 => ?_) (fun hc_94 => ?_)
                · skip
                  refine zw_iconst (pc := 127) (v := Int32.ofInt 0) (by decide) d_Reader_readRow_127 ?_
                  exact zk_iret (pc := 128) (ty := .boolean) rfl (z_narB (by (decide))) ⟨by (decide), by (decide)⟩ hf_N5_ (show (((0 : Int)) = 0 ∨ ((0 : Int)) = 1) by first | with_reducible assumption | (decide) | assumption) d_Reader_readRow_128
                · skip
                  refine zw_iload (pc := 97) (i := 7) (x := Int32.ofInt v49_) rfl (zdal_p dlB_Reader_readRow_139 (i := 1) rfl) ?_
                  refine zw_aload_n (pc := 99) (n := 0) (x := 4) rfl (zdal_p dlB_Reader_readRow_139 (i := 2) rfl) ?_
                  refine zw_getF (pc := 100) f_Reader_15 rfl ((hf_N5_.w hW).ka (o := 4) (by decide)) ((hf_N5_.w hW).la (o := 4) (s := 0) (r := 1) (by decide)) (zdal_p dlB_Reader_readRow_139 (i := 3) rfl) ?_
                  refine zk_getI (pc := 103) f_Reader_191 rfl ((hf_N5_.w hW).ka (o := 1) (by decide)) (zdal_p dlB_Reader_readRow_139 (i := 4) rfl) ?_
                  rw [hf_N5_.ea hW (by decide)]
                  refine zr_icmp_ge (pc := 106) (tgt := 129) ⟨hv49_a, hv49_b⟩ ⟨(ze_r Mz 1 1).1, (ze_r Mz 1 1).2⟩ (by decide) (zdal_p dlB_Reader_readRow_139 (i := 5) rfl) (fun hc_106 => ?_) (fun hc_106 => ?_)
                  · skip
                    refine zw_aload_n (pc := 129) (n := 0) (x := 4) rfl d_Reader_readRow_129 ?_
                    refine zw_getF (pc := 130) f_Reader_15 rfl ((hf_N5_.w hW).ka (o := 4) (by decide)) ((hf_N5_.w hW).la (o := 4) (s := 0) (r := 1) (by decide)) d_Reader_readRow_130 ?_
                    refine zw_iload (pc := 133) (i := 6) (x := Int32.ofInt v47_) rfl d_Reader_readRow_133 ?_
                    refine zw_iload (pc := 135) (i := 7) (x := Int32.ofInt v49_) rfl d_Reader_readRow_135 ?_
                    refine zk_callV hf_N5_.x (pc := 137) [.int (Int32.ofInt v47_), .int (Int32.ofInt v49_)] [] l_Reader_209 (u_Tokens_numberFromX l d_ N5_ (hf_N5_.w hW) v47_ hv47_a hv47_b v49_ hv49_a hv49_b) rfl rfl ((hf_N5_.w hW).ka (o := 1) (by decide)) (by decide) (by decide) (Nat.le_of_ble_eq_true rfl) d_Reader_readRow_137 ?_
                    rintro _ N51_ ⟨v52_, rfl, ⟨hv52_a, hv52_b⟩, hsN51_, -⟩
                    obtain rfl := hsN51_.eq.symm
                    show zW l m_Reader_readRow (zn Mz + 0, zw Mz + 0) N5_ 140 [some (.ref 4), some (.ref (d_ + 26)), some (.int (Int32.ofInt a1_)), some (.int (Int32.ofInt u3_)), some (.int (Int32.ofInt u4_)), some (.int (Int32.ofInt 1)), some (.int (Int32.ofInt v47_)), some (.int (Int32.ofInt v49_)), some (.int (Int32.ofInt v50_)), none] [.int (Int32.ofInt v52_)] _
                    refine zw_istore (pc := 140) (i := 9) (L2 := [some (.ref 4), some (.ref (d_ + 26)), some (.int (Int32.ofInt a1_)), some (.int (Int32.ofInt u3_)), some (.int (Int32.ofInt u4_)), some (.int (Int32.ofInt 1)), some (.int (Int32.ofInt v47_)), some (.int (Int32.ofInt v49_)), some (.int (Int32.ofInt v50_)), some (.int (Int32.ofInt v52_))]) (by decide) rfl d_Reader_readRow_140 ?_
                    refine zw_aload_n (pc := 142) (n := 1) (x := (d_ + 26)) rfl d_Reader_readRow_142 ?_
                    refine zw_iload (pc := 143) (i := 4) (x := Int32.ofInt u4_) rfl d_Reader_readRow_143 ?_
                    refine zw_iload (pc := 145) (i := 5) (x := Int32.ofInt 1) rfl d_Reader_readRow_145 ?_
                    refine zr_if_eq (pc := 147) (tgt := 157) ⟨(by decide), (by decide)⟩ (by decide) d_Reader_readRow_147 (fun hc_147 => ?_) (fun hc_147 => ?_)
                    · skip
                      exact absurd hc_147 (by decide)
                    · skip
                      refine zw_iload (pc := 150) (i := 9) (x := Int32.ofInt v52_) rfl (zdal_p dlB_Reader_readRow_140 (i := 1) rfl) ?_
                      refine zr_ineg (pc := 152) (zdal_p dlB_Reader_readRow_140 (i := 2) rfl) ?_
                      refine zr_nmI (fun v53_ hv53_ => ?_)
                      obtain ⟨hv53_a, hv53_b⟩ := hv53_
                      refine zr_i2l (pc := 153) ⟨hv53_a, hv53_b⟩ (zdal_p dlB_Reader_readRow_140 (i := 3) rfl) ?_
                      refine zw_goto (pc := 154) (tgt := 160) (by decide) (zdal_p dlB_Reader_readRow_140 (i := 4) rfl) ?_
                      refine zk_stGJ hf_N5_.x (pc := 160) (o := 27) (by decide) l_Reader_212 ((hf_N5_.w hW).kr (o := 26) (by decide)) ((hf_N5_.w hW).lr (o := 26) (s := 0) (r := 27) (by decide)) ((hf_N5_.w hW).rr (o := 27) (t := 2) (n := 27) (by decide)) (by decide) ⟨by (exact hu4_a), by (exact hu4_b)⟩ (by decide) (Nat.le_of_ble_eq_true rfl) d_Reader_readRow_160 (fun N54_ hsN54_ => ?_)
                      have hf_N54_ : zFc d_ [] [] [] [27] Mz N54_ := hf_N5_.tr hsN54_ (by decide) (by decide) (by decide) (by decide)
                      have hb0_N54_ : zFc d_ [] [] [] [27] Mz N54_ := hs6_.tr hsN54_ (by decide) (by decide) (by decide) (by decide)
                      refine zw_aload_n (pc := 163) (n := 0) (x := 4) rfl d_Reader_readRow_163 ?_
                      refine zw_getF (pc := 164) f_Reader_15 rfl ((hf_N54_.w hW).ka (o := 4) (by decide)) ((hf_N54_.w hW).la (o := 4) (s := 0) (r := 1) (by decide)) d_Reader_readRow_164 ?_
                      refine zw_iload (pc := 167) (i := 7) (x := Int32.ofInt v49_) rfl d_Reader_readRow_167 ?_
                      refine zk_callV hf_N54_.x (pc := 169) [.int (Int32.ofInt v49_)] [] l_Reader_188 (u_Tokens_pastBlanksX l d_ N54_ (hf_N54_.w hW) v49_ hv49_a hv49_b) rfl rfl ((hf_N54_.w hW).ka (o := 1) (by decide)) (by decide) (by decide) (Nat.le_of_ble_eq_true rfl) d_Reader_readRow_169 ?_
                      rintro _ N55_ ⟨v56_, rfl, ⟨hv56_a, hv56_b⟩, hsN55_, -⟩
                      obtain rfl := hsN55_.eq.symm
                      show zW l m_Reader_readRow (zn Mz + 0, zw Mz + 0) N54_ 172 [some (.ref 4), some (.ref (d_ + 26)), some (.int (Int32.ofInt a1_)), some (.int (Int32.ofInt u3_)), some (.int (Int32.ofInt u4_)), some (.int (Int32.ofInt 1)), some (.int (Int32.ofInt v47_)), some (.int (Int32.ofInt v49_)), some (.int (Int32.ofInt v50_)), some (.int (Int32.ofInt v52_))] [.int (Int32.ofInt v56_)] _
                      refine zw_istore_n (pc := 172) (i := 3) (L2 := [some (.ref 4), some (.ref (d_ + 26)), some (.int (Int32.ofInt a1_)), some (.int (Int32.ofInt v56_)), some (.int (Int32.ofInt u4_)), some (.int (Int32.ofInt 1)), some (.int (Int32.ofInt v47_)), some (.int (Int32.ofInt v49_)), some (.int (Int32.ofInt v50_)), some (.int (Int32.ofInt v52_))]) rfl (by decide) rfl d_Reader_readRow_172 ?_
                      refine zr_iinc (pc := 173) (i := 4) (a := u4_) (n := 1) (L2 := [some (.ref 4), some (.ref (d_ + 26)), some (.int (Int32.ofInt a1_)), some (.int (Int32.ofInt v56_)), some (.int (Int32.ofInt (u4_ + 1))), some (.int (Int32.ofInt 1)), some (.int (Int32.ofInt v47_)), some (.int (Int32.ofInt v49_)), some (.int (Int32.ofInt v50_)), some (.int (Int32.ofInt v52_))]) rfl (by decide) rfl d_Reader_readRow_173 ?_
                      obtain ⟨v57_, hv57_a, hv57_b, hv57_e, hv57_d⟩ := zk_gen (u4_ + 1)
                      rw [hv57_e]
                      refine zw_goto (pc := 176) (tgt := 12) (by decide) d_Reader_readRow_176 ?_
                      refine zW_le [some (.ref 4), some (.ref (d_ + 26)), some (.int (Int32.ofInt a1_)), some (.int (Int32.ofInt v56_)), some (.int (Int32.ofInt v57_)), none, none, none, none, none] (⟨rfl, rfl, rfl, rfl, rfl, trivial⟩) ?_
                      exact ih_12 v56_ hv56_a hv56_b v57_ hv57_a hv57_b N54_ hb0_N54_ (show 0 ≤ v57_ by first | with_reducible assumption | assumption | omega) (by omega)
                  · skip
                    refine zw_aload_n (pc := 109) (n := 0) (x := 4) rfl (zdal_p dlB_Reader_readRow_139 (i := 6) rfl) ?_
                    refine zw_getF (pc := 110) f_Reader_15 rfl ((hf_N5_.w hW).ka (o := 4) (by decide)) ((hf_N5_.w hW).la (o := 4) (s := 0) (r := 1) (by decide)) (zdal_p dlB_Reader_readRow_139 (i := 7) rfl) ?_
                    refine zw_getF (pc := 113) f_Reader_194 rfl ((hf_N5_.w hW).ka (o := 1) (by decide)) ((hf_N5_.w hW).la (o := 1) (s := 0) (r := 2) (by decide)) (zdal_p dlB_Reader_readRow_139 (i := 8) rfl) ?_
                    refine zw_iload (pc := 116) (i := 7) (x := Int32.ofInt v49_) rfl (zdal_p dlB_Reader_readRow_139 (i := 9) rfl) ?_
                    refine zk_atG hf_N5_.x (pc := 118) l_Reader_198 ((hf_N5_.w hW).ka (o := 2) (by decide)) ((hf_N5_.w hW).la (o := 2) (s := 0) (r := 3) (by decide)) ((hf_N5_.w hW).ra (o := 3) (t := 1) (n := 700) (by decide)) (by decide) ⟨by (exact hv49_a), by (exact hv49_b)⟩ (by decide) (Nat.le_of_ble_eq_true rfl) (zdal_p dlB_Reader_readRow_139 (i := 10) rfl) (fun v58_ hv58_ hv58_a hv58_b => ?_)
                    clear hv58_
                    refine zr_callS hf_N5_.x (pc := 121) [.int (Int32.ofInt v58_)] [] l_Reader_206 (u_Tokens_isBlankX l d_ N5_ (hf_N5_.w hW) v58_ hv58_a hv58_b) rfl rfl (by decide) (Nat.le_of_ble_eq_true rfl) (zdal_p dlB_Reader_readRow_139 (i := 11) rfl) ?_
                    rintro _ N59_ ⟨v60_, rfl, ⟨hv60_a, hv60_b⟩, hsN59_, hp0_N59_⟩
                    obtain rfl := hsN59_.eq.symm
                    replace hp0_N59_ : (v60_ = 0 ∨ v60_ = 1) := hp0_N59_
                    show zW l m_Reader_readRow (zn Mz + 0, zw Mz + 0) N5_ 124 [some (.ref 4), some (.ref (d_ + 26)), some (.int (Int32.ofInt a1_)), some (.int (Int32.ofInt u3_)), some (.int (Int32.ofInt u4_)), some (.int (Int32.ofInt 1)), some (.int (Int32.ofInt v47_)), some (.int (Int32.ofInt v49_)), some (.int (Int32.ofInt v50_)), none] [.int (Int32.ofInt v60_)] _
                    refine zr_if_ne (pc := 124) (tgt := 129) ⟨hv60_a, hv60_b⟩ (by decide) (zdal_p dlB_Reader_readRow_139 (i := 12) rfl) (fun hc_124 => ?_) (fun hc_124 => ?_)
                    · skip
                      refine zw_aload_n (pc := 129) (n := 0) (x := 4) rfl d_Reader_readRow_129 ?_
                      refine zw_getF (pc := 130) f_Reader_15 rfl ((hf_N5_.w hW).ka (o := 4) (by decide)) ((hf_N5_.w hW).la (o := 4) (s := 0) (r := 1) (by decide)) d_Reader_readRow_130 ?_
                      refine zw_iload (pc := 133) (i := 6) (x := Int32.ofInt v47_) rfl d_Reader_readRow_133 ?_
                      refine zw_iload (pc := 135) (i := 7) (x := Int32.ofInt v49_) rfl d_Reader_readRow_135 ?_
                      refine zk_callV hf_N5_.x (pc := 137) [.int (Int32.ofInt v47_), .int (Int32.ofInt v49_)] [] l_Reader_209 (u_Tokens_numberFromX l d_ N5_ (hf_N5_.w hW) v47_ hv47_a hv47_b v49_ hv49_a hv49_b) rfl rfl ((hf_N5_.w hW).ka (o := 1) (by decide)) (by decide) (by decide) (Nat.le_of_ble_eq_true rfl) d_Reader_readRow_137 ?_
                      rintro _ N61_ ⟨v62_, rfl, ⟨hv62_a, hv62_b⟩, hsN61_, -⟩
                      obtain rfl := hsN61_.eq.symm
                      show zW l m_Reader_readRow (zn Mz + 0, zw Mz + 0) N5_ 140 [some (.ref 4), some (.ref (d_ + 26)), some (.int (Int32.ofInt a1_)), some (.int (Int32.ofInt u3_)), some (.int (Int32.ofInt u4_)), some (.int (Int32.ofInt 1)), some (.int (Int32.ofInt v47_)), some (.int (Int32.ofInt v49_)), some (.int (Int32.ofInt v50_)), none] [.int (Int32.ofInt v62_)] _
                      refine zw_istore (pc := 140) (i := 9) (L2 := [some (.ref 4), some (.ref (d_ + 26)), some (.int (Int32.ofInt a1_)), some (.int (Int32.ofInt u3_)), some (.int (Int32.ofInt u4_)), some (.int (Int32.ofInt 1)), some (.int (Int32.ofInt v47_)), some (.int (Int32.ofInt v49_)), some (.int (Int32.ofInt v50_)), some (.int (Int32.ofInt v62_))]) (by decide) rfl d_Reader_readRow_140 ?_
                      refine zw_aload_n (pc := 142) (n := 1) (x := (d_ + 26)) rfl d_Reader_readRow_142 ?_
                      refine zw_iload (pc := 143) (i := 4) (x := Int32.ofInt u4_) rfl d_Reader_readRow_143 ?_
                      refine zw_iload (pc := 145) (i := 5) (x := Int32.ofInt 1) rfl d_Reader_readRow_145 ?_
                      refine zr_if_eq (pc := 147) (tgt := 157) ⟨(by decide), (by decide)⟩ (by decide) d_Reader_readRow_147 (fun hc_147 => ?_) (fun hc_147 => ?_)
                      · skip
                        exact absurd hc_147 (by decide)
                      · skip
                        refine zw_iload (pc := 150) (i := 9) (x := Int32.ofInt v62_) rfl (zdal_p dlB_Reader_readRow_140 (i := 1) rfl) ?_
                        refine zr_ineg (pc := 152) (zdal_p dlB_Reader_readRow_140 (i := 2) rfl) ?_
                        refine zr_nmI (fun v63_ hv63_ => ?_)
                        obtain ⟨hv63_a, hv63_b⟩ := hv63_
                        refine zr_i2l (pc := 153) ⟨hv63_a, hv63_b⟩ (zdal_p dlB_Reader_readRow_140 (i := 3) rfl) ?_
                        refine zw_goto (pc := 154) (tgt := 160) (by decide) (zdal_p dlB_Reader_readRow_140 (i := 4) rfl) ?_
                        refine zk_stGJ hf_N5_.x (pc := 160) (o := 27) (by decide) l_Reader_212 ((hf_N5_.w hW).kr (o := 26) (by decide)) ((hf_N5_.w hW).lr (o := 26) (s := 0) (r := 27) (by decide)) ((hf_N5_.w hW).rr (o := 27) (t := 2) (n := 27) (by decide)) (by decide) ⟨by (exact hu4_a), by (exact hu4_b)⟩ (by decide) (Nat.le_of_ble_eq_true rfl) d_Reader_readRow_160 (fun N64_ hsN64_ => ?_)
                        have hf_N64_ : zFc d_ [] [] [] [27] Mz N64_ := hf_N5_.tr hsN64_ (by decide) (by decide) (by decide) (by decide)
                        have hb0_N64_ : zFc d_ [] [] [] [27] Mz N64_ := hs6_.tr hsN64_ (by decide) (by decide) (by decide) (by decide)
                        refine zw_aload_n (pc := 163) (n := 0) (x := 4) rfl d_Reader_readRow_163 ?_
                        refine zw_getF (pc := 164) f_Reader_15 rfl ((hf_N64_.w hW).ka (o := 4) (by decide)) ((hf_N64_.w hW).la (o := 4) (s := 0) (r := 1) (by decide)) d_Reader_readRow_164 ?_
                        refine zw_iload (pc := 167) (i := 7) (x := Int32.ofInt v49_) rfl d_Reader_readRow_167 ?_
                        refine zk_callV hf_N64_.x (pc := 169) [.int (Int32.ofInt v49_)] [] l_Reader_188 (u_Tokens_pastBlanksX l d_ N64_ (hf_N64_.w hW) v49_ hv49_a hv49_b) rfl rfl ((hf_N64_.w hW).ka (o := 1) (by decide)) (by decide) (by decide) (Nat.le_of_ble_eq_true rfl) d_Reader_readRow_169 ?_
                        rintro _ N65_ ⟨v66_, rfl, ⟨hv66_a, hv66_b⟩, hsN65_, -⟩
                        obtain rfl := hsN65_.eq.symm
                        show zW l m_Reader_readRow (zn Mz + 0, zw Mz + 0) N64_ 172 [some (.ref 4), some (.ref (d_ + 26)), some (.int (Int32.ofInt a1_)), some (.int (Int32.ofInt u3_)), some (.int (Int32.ofInt u4_)), some (.int (Int32.ofInt 1)), some (.int (Int32.ofInt v47_)), some (.int (Int32.ofInt v49_)), some (.int (Int32.ofInt v50_)), some (.int (Int32.ofInt v62_))] [.int (Int32.ofInt v66_)] _
                        refine zw_istore_n (pc := 172) (i := 3) (L2 := [some (.ref 4), some (.ref (d_ + 26)), some (.int (Int32.ofInt a1_)), some (.int (Int32.ofInt v66_)), some (.int (Int32.ofInt u4_)), some (.int (Int32.ofInt 1)), some (.int (Int32.ofInt v47_)), some (.int (Int32.ofInt v49_)), some (.int (Int32.ofInt v50_)), some (.int (Int32.ofInt v62_))]) rfl (by decide) rfl d_Reader_readRow_172 ?_
                        refine zr_iinc (pc := 173) (i := 4) (a := u4_) (n := 1) (L2 := [some (.ref 4), some (.ref (d_ + 26)), some (.int (Int32.ofInt a1_)), some (.int (Int32.ofInt v66_)), some (.int (Int32.ofInt (u4_ + 1))), some (.int (Int32.ofInt 1)), some (.int (Int32.ofInt v47_)), some (.int (Int32.ofInt v49_)), some (.int (Int32.ofInt v50_)), some (.int (Int32.ofInt v62_))]) rfl (by decide) rfl d_Reader_readRow_173 ?_
                        obtain ⟨v67_, hv67_a, hv67_b, hv67_e, hv67_d⟩ := zk_gen (u4_ + 1)
                        rw [hv67_e]
                        refine zw_goto (pc := 176) (tgt := 12) (by decide) d_Reader_readRow_176 ?_
                        refine zW_le [some (.ref 4), some (.ref (d_ + 26)), some (.int (Int32.ofInt a1_)), some (.int (Int32.ofInt v66_)), some (.int (Int32.ofInt v67_)), none, none, none, none, none] (⟨rfl, rfl, rfl, rfl, rfl, trivial⟩) ?_
                        exact ih_12 v66_ hv66_a hv66_b v67_ hv67_a hv67_b N64_ hb0_N64_ (show 0 ≤ v67_ by first | with_reducible assumption | assumption | omega) (by omega)
                    · skip
                      refine zw_iconst (pc := 127) (v := Int32.ofInt 0) (by decide) d_Reader_readRow_127 ?_
                      exact zk_iret (pc := 128) (ty := .boolean) rfl (z_narB (by (decide))) ⟨by (decide), by (decide)⟩ hf_N5_ (show (((0 : Int)) = 0 ∨ ((0 : Int)) = 1) by first | with_reducible assumption | (decide) | assumption) d_Reader_readRow_128
  exact lp_12 _ v2_ hv2_a hv2_b 0 (by decide) (by decide) Mz zFc.rf (show 0 ≤ (0 : Int) by first | with_reducible assumption | (decide) | assumption) (Nat.lt_succ_self _)
set_option maxHeartbeats 4000000 in
theorem u_Sorts_firstIncongruentX (l : Launch) (d_ : Nat) (Mz : zMem) (hW : zKW d_ Mz) : zC l m_Sorts_firstIncongruent 0 0 [.ref (d_ + 12), .ref (d_ + 26)] Mz (zqcI d_ [] [] [] [11] Mz (fun v N => True)) := by
  refine zC_of (L0 := [some (.ref (d_ + 12)), some (.ref (d_ + 26)), none, none]) md_Sorts_firstIncongruent (Nat.le_of_ble_eq_true rfl) rfl ?_ zQ0
  have hf : zFc d_ [] [] [] [11] Mz Mz := zFc.rf
  refine zw_iconst (pc := 0) (v := Int32.ofInt 0) (by decide) (zdal_p dlB_Sorts_firstIncongruent_141 (i := 0) rfl) ?_
  refine zw_istore_n (pc := 1) (i := 2) (L2 := [some (.ref (d_ + 12)), some (.ref (d_ + 26)), some (.int (Int32.ofInt 0)), none]) rfl (by decide) rfl (zdal_p dlB_Sorts_firstIncongruent_141 (i := 1) rfl) ?_
  have lp_2 : ∀ (n : Nat) (u1_ : Int) (hu1_a : -2147483648 ≤ u1_) (hu1_b : u1_ < 2147483648) (N2_ : zMem) (hs3_ : zFc d_ [] [] [] [11] Mz N2_) (i4_ : 0 ≤ u1_), (ze Mz (d_ + 12) 7 - u1_).toNat < n → zW l m_Sorts_firstIncongruent (zn Mz + 0, zw Mz + 0) N2_ 2 [some (.ref (d_ + 12)), some (.ref (d_ + 26)), some (.int (Int32.ofInt u1_)), none] [] (zqcI d_ [] [] [] [11] Mz (fun v N => True)) := by
    intro n
    induction n with
    | zero =>
      intro u1_ hu1_a hu1_b N2_ hs3_ i4_ h0
      exact absurd h0 (Nat.not_lt_zero _)
    | succ n ih_2 =>
      intro u1_ hu1_a hu1_b N2_ hs3_ i4_ hlt_2
      have hf_N2_ : zFc d_ [] [] [] [11] Mz N2_ := hf.tr hs3_ (by decide) (by decide) (by decide) (by decide)
      refine zw_iload_n (pc := 2) (n := 2) (x := Int32.ofInt u1_) rfl (zdal_p dlB_Sorts_firstIncongruent_141 (i := 2) rfl) ?_
      refine zw_aload_n (pc := 3) (n := 0) (x := (d_ + 12)) rfl (zdal_p dlB_Sorts_firstIncongruent_141 (i := 3) rfl) ?_
      refine zk_getI (pc := 4) f_Sorts_83 rfl ((hf_N2_.w hW).kr (o := 12) (by decide)) (zdal_p dlB_Sorts_firstIncongruent_141 (i := 4) rfl) ?_
      rw [hf_N2_.e (by decide)]
      have hr5_ := ze_r Mz (d_ + 12) 7
      refine zr_icmp_ge (pc := 7) (tgt := 42) ⟨hu1_a, hu1_b⟩ ⟨(ze_r Mz (d_ + 12) 7).1, (ze_r Mz (d_ + 12) 7).2⟩ (by decide) (zdal_p dlB_Sorts_firstIncongruent_141 (i := 5) rfl) (fun hc_7 => ?_) (fun hc_7 => ?_)
      · skip
        refine zw_iconst (pc := 42) (v := Int32.ofInt (-1)) (by decide) (zdal_p dlB_Sorts_firstIncongruent_142 (i := 2) rfl) ?_
        exact zk_iret (pc := 43) (ty := .int) rfl rfl ⟨by (decide), by (decide)⟩ hf_N2_ trivial (zdal_p dlB_Sorts_firstIncongruent_142 (i := 3) rfl)
      · skip
        refine zw_aload_n (pc := 10) (n := 0) (x := (d_ + 12)) rfl (zdal_p dlB_Sorts_firstIncongruent_141 (i := 6) rfl) ?_
        refine zw_iload_n (pc := 11) (n := 2) (x := Int32.ofInt u1_) rfl (zdal_p dlB_Sorts_firstIncongruent_141 (i := 7) rfl) ?_
        refine zk_callV hf_N2_.x (pc := 12) [.int (Int32.ofInt u1_)] [] l_Sorts_120 (u_Sorts_normSizeX l d_ N2_ (hf_N2_.w hW) u1_ hu1_a hu1_b) rfl rfl ((hf_N2_.w hW).kr (o := 12) (by decide)) (by decide) (by decide) (Nat.le_of_ble_eq_true rfl) (zdal_p dlB_Sorts_firstIncongruent_141 (i := 8) rfl) ?_
        rintro _ N6_ ⟨v7_, rfl, ⟨hv7_a, hv7_b⟩, hsN6_, -⟩
        obtain rfl := hsN6_.eq.symm
        show zW l m_Sorts_firstIncongruent (zn Mz + 0, zw Mz + 0) N2_ 15 [some (.ref (d_ + 12)), some (.ref (d_ + 26)), some (.int (Int32.ofInt u1_)), none] [.int (Int32.ofInt v7_)] _
        refine zw_istore_n (pc := 15) (i := 3) (L2 := [some (.ref (d_ + 12)), some (.ref (d_ + 26)), some (.int (Int32.ofInt u1_)), some (.int (Int32.ofInt v7_))]) rfl (by decide) rfl (zdal_p dlB_Sorts_firstIncongruent_141 (i := 9) rfl) ?_
        refine zw_iload_n (pc := 16) (n := 3) (x := Int32.ofInt v7_) rfl (zdal_p dlB_Sorts_firstIncongruent_141 (i := 10) rfl) ?_
        refine zr_if_le (pc := 17) (tgt := 36) ⟨hv7_a, hv7_b⟩ (by decide) (zdal_p dlB_Sorts_firstIncongruent_141 (i := 11) rfl) (fun hc_17 => ?_) (fun hc_17 => ?_)
        · skip
          refine zr_iinc (pc := 36) (i := 2) (a := u1_) (n := 1) (L2 := [some (.ref (d_ + 12)), some (.ref (d_ + 26)), some (.int (Int32.ofInt (u1_ + 1))), some (.int (Int32.ofInt v7_))]) rfl (by decide) rfl (zdal_p dlB_Sorts_firstIncongruent_142 (i := 0) rfl) ?_
          obtain ⟨v8_, hv8_a, hv8_b, hv8_e, hv8_d⟩ := zk_gen (u1_ + 1)
          rw [hv8_e]
          refine zw_goto (pc := 39) (tgt := 2) (by decide) (zdal_p dlB_Sorts_firstIncongruent_142 (i := 1) rfl) ?_
          refine zW_le [some (.ref (d_ + 12)), some (.ref (d_ + 26)), some (.int (Int32.ofInt v8_)), none] (⟨rfl, rfl, rfl, trivial⟩) ?_
          exact ih_2 v8_ hv8_a hv8_b N2_ hs3_ (show 0 ≤ v8_ by first | with_reducible assumption | assumption | omega) (by omega)
        · skip
          refine zw_aload_n (pc := 20) (n := 0) (x := (d_ + 12)) rfl (zdal_p dlB_Sorts_firstIncongruent_141 (i := 12) rfl) ?_
          refine zw_iload_n (pc := 21) (n := 2) (x := Int32.ofInt u1_) rfl (zdal_p dlB_Sorts_firstIncongruent_141 (i := 13) rfl) ?_
          refine zw_aload_n (pc := 22) (n := 1) (x := (d_ + 26)) rfl (zdal_p dlB_Sorts_firstIncongruent_141 (i := 14) rfl) ?_
          refine zk_callV hf_N2_.x (pc := 23) [.int (Int32.ofInt u1_), .ref (d_ + 26)] [] l_Sorts_123 (u_Sorts_sumOverNormX l d_ N2_ (hf_N2_.w hW) u1_ hu1_a hu1_b) rfl rfl ((hf_N2_.w hW).kr (o := 12) (by decide)) (by decide) (by decide) (Nat.le_of_ble_eq_true rfl) (zdal_p dlB_Sorts_firstIncongruent_141 (i := 15) rfl) ?_
          rintro _ N9_ ⟨v10_, rfl, ⟨hv10_a, hv10_b⟩, hsN9_, -⟩
          have hf_N9_ : zFc d_ [] [] [] [11] Mz N9_ := hf_N2_.tr hsN9_ (by decide) (by decide) (by decide) (by decide)
          have hb0_N9_ : zFc d_ [] [] [] [11] Mz N9_ := hs3_.tr hsN9_ (by decide) (by decide) (by decide) (by decide)
          show zW l m_Sorts_firstIncongruent (zn Mz + 0, zw Mz + 0) N9_ 26 [some (.ref (d_ + 12)), some (.ref (d_ + 26)), some (.int (Int32.ofInt u1_)), some (.int (Int32.ofInt v7_))] [.long (Int64.ofInt v10_)] _
          refine zw_iload_n (pc := 26) (n := 3) (x := Int32.ofInt v7_) rfl (zdal_p dlB_Sorts_firstIncongruent_141 (i := 16) rfl) ?_
          refine zr_i2l (pc := 27) ⟨hv7_a, hv7_b⟩ (zdal_p dlB_Sorts_firstIncongruent_141 (i := 17) rfl) ?_
          refine zr_lrem (pc := 28) ⟨by omega, by (exact zo_283 hv7_b)⟩ (by omega) (zdal_p dlB_Sorts_firstIncongruent_141 (i := 18) rfl) ?_
          have hr11_ := zlrem_r v10_ v7_
          refine zr_nmJ (fun v12_ hv12_ => ?_)
          obtain ⟨hv12_a, hv12_b⟩ := hv12_
          refine zw_lconst (pc := 29) (v := Int64.ofInt 0) (by decide) (zdal_p dlB_Sorts_firstIncongruent_141 (i := 19) rfl) ?_
          refine zr_lcmp (pc := 30) ⟨hv12_a, hv12_b⟩ ⟨(by decide), (by decide)⟩ (zdal_p dlB_Sorts_firstIncongruent_141 (i := 20) rfl) ?_
          have hr13_ := zcmp_s v12_ 0
          refine zr_if_eq (pc := 31) (tgt := 36) ⟨(by (exact zo_71 hr13_)), (by (exact zo_72 hr13_))⟩ (by decide) (zdal_p dlB_Sorts_firstIncongruent_141 (i := 21) rfl) (fun hc_31 => ?_) (fun hc_31 => ?_)
          · skip
            refine zr_iinc (pc := 36) (i := 2) (a := u1_) (n := 1) (L2 := [some (.ref (d_ + 12)), some (.ref (d_ + 26)), some (.int (Int32.ofInt (u1_ + 1))), some (.int (Int32.ofInt v7_))]) rfl (by decide) rfl (zdal_p dlB_Sorts_firstIncongruent_142 (i := 0) rfl) ?_
            obtain ⟨v14_, hv14_a, hv14_b, hv14_e, hv14_d⟩ := zk_gen (u1_ + 1)
            rw [hv14_e]
            refine zw_goto (pc := 39) (tgt := 2) (by decide) (zdal_p dlB_Sorts_firstIncongruent_142 (i := 1) rfl) ?_
            refine zW_le [some (.ref (d_ + 12)), some (.ref (d_ + 26)), some (.int (Int32.ofInt v14_)), none] (⟨rfl, rfl, rfl, trivial⟩) ?_
            exact ih_2 v14_ hv14_a hv14_b N9_ hb0_N9_ (show 0 ≤ v14_ by first | with_reducible assumption | assumption | omega) (by omega)
          · skip
            refine zw_iload_n (pc := 34) (n := 2) (x := Int32.ofInt u1_) rfl (zdal_p dlB_Sorts_firstIncongruent_141 (i := 22) rfl) ?_
            exact zk_iret (pc := 35) (ty := .int) rfl rfl ⟨by (exact hu1_a), by (exact hu1_b)⟩ hf_N9_ trivial (zdal_p dlB_Sorts_firstIncongruent_141 (i := 23) rfl)
  exact lp_2 _ 0 (by decide) (by decide) Mz zFc.rf (show 0 ≤ (0 : Int) by first | with_reducible assumption | (decide) | assumption) (Nat.lt_succ_self _)
set_option maxHeartbeats 4000000 in
theorem u_T_marksX (l : Launch) (d_ : Nat) (Mz : zMem) (hW : zKW d_ Mz) (hnow : zf Mz 0 2 = some (d_ + 0)) : zC l m_T_marks 0 0 [.ref 0] Mz (zqcI d_ [(1, 1)] [] [(0, 7), (0, 8)] [11, 25, 27] Mz (fun v N => ze N 1 1 = 0)) := by
  refine zC_of (L0 := [some (.ref 0), none, none]) md_T_marks (Nat.le_of_ble_eq_true rfl) rfl ?_ zQ0
  have hf : zFc d_ [(1, 1)] [] [(0, 7), (0, 8)] [11, 25, 27] Mz Mz := zFc.rf
  have r_A1_1 := ze_r Mz 1 1
  refine zw_aload_n (pc := 0) (n := 0) (x := 0) rfl (zdal_p dlB_T_marks_135 (i := 0) rfl) ?_
  refine zw_getF (pc := 1) f_T_21 rfl ((hf.w hW).ka (o := 0) (by decide)) ((hf.w hW).la (o := 0) (s := 1) (r := 4) (by decide)) (zdal_p dlB_T_marks_135 (i := 1) rfl) ?_
  refine zw_aload_n (pc := 4) (n := 0) (x := 0) rfl (zdal_p dlB_T_marks_135 (i := 2) rfl) ?_
  refine zw_getF (pc := 5) f_T_28 rfl ((hf.w hW).ka (o := 0) (by decide)) (hf.now hnow) (zdal_p dlB_T_marks_135 (i := 3) rfl) ?_
  refine zw_getF (pc := 8) f_T_169 rfl ((hf.w hW).kr (o := 0) (by decide)) ((hf.w hW).lr (o := 0) (s := 2) (r := 23) (by decide)) (zdal_p dlB_T_marks_135 (i := 4) rfl) ?_
  refine zw_getF (pc := 11) f_T_262 rfl ((hf.w hW).kr (o := 23) (by decide)) ((hf.w hW).lr (o := 23) (s := 2) (r := 26) (by decide)) (zdal_p dlB_T_marks_135 (i := 5) rfl) ?_
  refine zw_aload_n (pc := 14) (n := 0) (x := 0) rfl (zdal_p dlB_T_marks_135 (i := 6) rfl) ?_
  refine zw_getF (pc := 15) f_T_28 rfl ((hf.w hW).ka (o := 0) (by decide)) (hf.now hnow) (zdal_p dlB_T_marks_135 (i := 7) rfl) ?_
  refine zw_getF (pc := 18) f_T_85 rfl ((hf.w hW).kr (o := 0) (by decide)) ((hf.w hW).lr (o := 0) (s := 1) (r := 12) (by decide)) (zdal_p dlB_T_marks_135 (i := 8) rfl) ?_
  refine zk_getI (pc := 21) f_T_94 rfl ((hf.w hW).kr (o := 12) (by decide)) (zdal_p dlB_T_marks_135 (i := 9) rfl) ?_
  have hr1_ := ze_r Mz (d_ + 12) 7
  refine zk_callV hf.x (pc := 24) [.ref (d_ + 26), .int (Int32.ofInt (ze Mz (d_ + 12) 7))] [] l_T_299 (u_Reader_readRowX l d_ Mz (hf.w hW) (ze Mz (d_ + 12) 7) (ze_r Mz (d_ + 12) 7).1 (ze_r Mz (d_ + 12) 7).2) rfl rfl ((hf.w hW).ka (o := 4) (by decide)) (by decide) (by decide) (Nat.le_of_ble_eq_true rfl) (zdal_p dlB_T_marks_135 (i := 10) rfl) ?_
  rintro _ N2_ ⟨v3_, rfl, ⟨hv3_a, hv3_b⟩, hsN2_, hp0_N2_⟩
  replace hp0_N2_ : (v3_ = 0 ∨ v3_ = 1) := hp0_N2_
  have hf_N2_ : zFc d_ [(1, 1)] [] [(0, 7), (0, 8)] [11, 25, 27] Mz N2_ := hf.tr hsN2_ (by decide) (by decide) (by decide) (by decide)
  have eA1_1_N2_ : ze N2_ 1 1 = ze Mz 1 1 := hsN2_.ea (hf.w hW) (by decide)
  show zW l m_T_marks (zn Mz + 0, zw Mz + 0) N2_ 27 [some (.ref 0), none, none] [.int (Int32.ofInt v3_)] _
  refine zw_istore_n (pc := 27) (i := 1) (L2 := [some (.ref 0), some (.int (Int32.ofInt v3_)), none]) rfl (by decide) rfl (zdal_p dlB_T_marks_135 (i := 11) rfl) ?_
  refine zw_aload_n (pc := 28) (n := 0) (x := 0) rfl (zdal_p dlB_T_marks_135 (i := 12) rfl) ?_
  refine zw_getF (pc := 29) f_T_10 rfl ((hf_N2_.w hW).ka (o := 0) (by decide)) ((hf_N2_.w hW).la (o := 0) (s := 0) (r := 1) (by decide)) (zdal_p dlB_T_marks_135 (i := 13) rfl) ?_
  refine zw_iconst (pc := 32) (v := Int32.ofInt 0) (by decide) (zdal_p dlB_T_marks_135 (i := 14) rfl) ?_
  refine zk_putA (pc := 33) (hf_N2_.w hW) (by decide) f_T_42 rfl rfl ((hf_N2_.w hW).ka (o := 1) (by decide)) ⟨by (decide), by (decide)⟩ rfl rfl (zdal_p dlB_T_marks_135 (i := 15) rfl) (fun N4_ hsN4_ hvN4_ => ?_)
  have hf_N4_ : zFc d_ [(1, 1)] [] [(0, 7), (0, 8)] [11, 25, 27] Mz N4_ := hf_N2_.tr hsN4_ (by decide) (by decide) (by decide) (by decide)
  have rA1_1_N4_ := ze_r N4_ 1 1
  refine zw_iload_n (pc := 36) (n := 1) (x := Int32.ofInt v3_) rfl (zdal_p dlB_T_marks_135 (i := 16) rfl) ?_
  refine zr_if_ne (pc := 37) (tgt := 43) ⟨hv3_a, hv3_b⟩ (by decide) (zdal_p dlB_T_marks_135 (i := 17) rfl) (fun hc_37 => ?_) (fun hc_37 => ?_)
  · skip
    refine zw_aload_n (pc := 43) (n := 0) (x := 0) rfl (zdal_p dlB_T_marks_135 (i := 20) rfl) ?_
    refine zw_getF (pc := 44) f_T_28 rfl ((hf_N4_.w hW).ka (o := 0) (by decide)) (hf_N4_.now hnow) (zdal_p dlB_T_marks_135 (i := 21) rfl) ?_
    refine zw_getF (pc := 47) f_T_85 rfl ((hf_N4_.w hW).kr (o := 0) (by decide)) ((hf_N4_.w hW).lr (o := 0) (s := 1) (r := 12) (by decide)) (zdal_p dlB_T_marks_135 (i := 22) rfl) ?_
    refine zw_aload_n (pc := 50) (n := 0) (x := 0) rfl (zdal_p dlB_T_marks_135 (i := 23) rfl) ?_
    refine zw_getF (pc := 51) f_T_28 rfl ((hf_N4_.w hW).ka (o := 0) (by decide)) (hf_N4_.now hnow) (zdal_p dlB_T_marks_136 (i := 0) rfl) ?_
    refine zw_getF (pc := 54) f_T_169 rfl ((hf_N4_.w hW).kr (o := 0) (by decide)) ((hf_N4_.w hW).lr (o := 0) (s := 2) (r := 23) (by decide)) (zdal_p dlB_T_marks_136 (i := 1) rfl) ?_
    refine zw_getF (pc := 57) f_T_262 rfl ((hf_N4_.w hW).kr (o := 23) (by decide)) ((hf_N4_.w hW).lr (o := 23) (s := 2) (r := 26) (by decide)) (zdal_p dlB_T_marks_136 (i := 2) rfl) ?_
    refine zk_callV hf_N4_.x (pc := 60) [.ref (d_ + 26)] [] l_T_303 (u_Sorts_firstIncongruentX l d_ N4_ (hf_N4_.w hW) ) rfl rfl ((hf_N4_.w hW).kr (o := 12) (by decide)) (by decide) (by decide) (Nat.le_of_ble_eq_true rfl) (zdal_p dlB_T_marks_136 (i := 3) rfl) ?_
    rintro _ N5_ ⟨v6_, rfl, ⟨hv6_a, hv6_b⟩, hsN5_, -⟩
    have hf_N5_ : zFc d_ [(1, 1)] [] [(0, 7), (0, 8)] [11, 25, 27] Mz N5_ := hf_N4_.tr hsN5_ (by decide) (by decide) (by decide) (by decide)
    have eA1_1_N5_ : ze N5_ 1 1 = ze N4_ 1 1 := hsN5_.ea (hf_N4_.w hW) (by decide)
    show zW l m_T_marks (zn Mz + 0, zw Mz + 0) N5_ 63 [some (.ref 0), some (.int (Int32.ofInt v3_)), none] [.int (Int32.ofInt v6_)] _
    refine zw_istore_n (pc := 63) (i := 2) (L2 := [some (.ref 0), some (.int (Int32.ofInt v3_)), some (.int (Int32.ofInt v6_))]) rfl (by decide) rfl (zdal_p dlB_T_marks_136 (i := 4) rfl) ?_
    refine zw_iload_n (pc := 64) (n := 2) (x := Int32.ofInt v6_) rfl (zdal_p dlB_T_marks_136 (i := 5) rfl) ?_
    refine zw_iconst (pc := 65) (v := Int32.ofInt (-1)) (by decide) (zdal_p dlB_T_marks_136 (i := 6) rfl) ?_
    refine zr_icmp_eq (pc := 66) (tgt := 73) ⟨hv6_a, hv6_b⟩ ⟨(by decide), (by decide)⟩ (by decide) (zdal_p dlB_T_marks_136 (i := 7) rfl) (fun hc_66 => ?_) (fun hc_66 => ?_)
    · skip
      refine zw_aload_n (pc := 73) (n := 0) (x := 0) rfl (zdal_p dlB_T_marks_136 (i := 12) rfl) ?_
      refine zw_getF (pc := 74) f_T_28 rfl ((hf_N5_.w hW).ka (o := 0) (by decide)) (hf_N5_.now hnow) (zdal_p dlB_T_marks_136 (i := 13) rfl) ?_
      refine zw_getF (pc := 77) f_T_169 rfl ((hf_N5_.w hW).kr (o := 0) (by decide)) ((hf_N5_.w hW).lr (o := 0) (s := 2) (r := 23) (by decide)) (zdal_p dlB_T_marks_136 (i := 14) rfl) ?_
      refine zw_bipush (pc := 80) (v := Int32.ofInt 39) (by decide) (zdal_p dlB_T_marks_136 (i := 15) rfl) ?_
      refine zk_callV hf_N5_.x (pc := 82) [.int (Int32.ofInt 39)] [] l_T_296 (u_Sums_solveX l d_ N5_ (hf_N5_.w hW) 39 (by decide) (by decide)) rfl rfl ((hf_N5_.w hW).kr (o := 23) (by decide)) (by decide) (by decide) (Nat.le_of_ble_eq_true rfl) (zdal_p dlB_T_marks_136 (i := 16) rfl) ?_
      rintro _ N7_ ⟨rfl, hsN7_, -⟩
      have hf_N7_ : zFc d_ [(1, 1)] [] [(0, 7), (0, 8)] [11, 25, 27] Mz N7_ := hf_N5_.tr hsN7_ (by decide) (by decide) (by decide) (by decide)
      have eA1_1_N7_ : ze N7_ 1 1 = ze N5_ 1 1 := hsN7_.ea (hf_N5_.w hW) (by decide)
      show zW l m_T_marks (zn Mz + 0, zw Mz + 0) N7_ 85 [some (.ref 0), some (.int (Int32.ofInt v3_)), some (.int (Int32.ofInt v6_))] [] _
      refine zw_aload_n (pc := 85) (n := 0) (x := 0) rfl (zdal_p dlB_T_marks_136 (i := 17) rfl) ?_
      refine zw_getF (pc := 86) f_T_28 rfl ((hf_N7_.w hW).ka (o := 0) (by decide)) (hf_N7_.now hnow) (zdal_p dlB_T_marks_136 (i := 18) rfl) ?_
      refine zw_bipush (pc := 89) (v := Int32.ofInt 39) (by decide) (zdal_p dlB_T_marks_136 (i := 19) rfl) ?_
      refine zk_callV hf_N7_.x (pc := 91) [.int (Int32.ofInt 39)] [] l_T_284 (u_Troupe_becomeX l d_ N7_ (hf_N7_.w hW) 39 (by decide) (by decide)) rfl rfl ((hf_N7_.w hW).kr (o := 0) (by decide)) (by decide) (by decide) (Nat.le_of_ble_eq_true rfl) (zdal_p dlB_T_marks_136 (i := 20) rfl) ?_
      rintro _ N9_ ⟨rfl, hsN9_, -⟩
      have hf_N9_ : zFc d_ [(1, 1)] [] [(0, 7), (0, 8)] [11, 25, 27] Mz N9_ := hf_N7_.tr hsN9_ (by decide) (by decide) (by decide) (by decide)
      have eA1_1_N9_ : ze N9_ 1 1 = ze N7_ 1 1 := hsN9_.ea (hf_N7_.w hW) (by decide)
      show zW l m_T_marks (zn Mz + 0, zw Mz + 0) N9_ 94 [some (.ref 0), some (.int (Int32.ofInt v3_)), some (.int (Int32.ofInt v6_))] [] _
      refine zw_iconst (pc := 94) (v := Int32.ofInt 0) (by decide) (zdal_p dlB_T_marks_136 (i := 21) rfl) ?_
      exact zk_iret (pc := 95) (ty := .int) rfl rfl ⟨by (decide), by (decide)⟩ hf_N9_ (show ze N9_ 1 1 = 0 by first | with_reducible assumption | (exact zo_595 eA1_1_N5_ eA1_1_N7_ eA1_1_N9_ hvN4_) | assumption) (zdal_p dlB_T_marks_136 (i := 22) rfl)
    · skip
      refine zw_iload_n (pc := 69) (n := 2) (x := Int32.ofInt v6_) rfl (zdal_p dlB_T_marks_136 (i := 8) rfl) ?_
      refine zw_iconst (pc := 70) (v := Int32.ofInt 1) (by decide) (zdal_p dlB_T_marks_136 (i := 9) rfl) ?_
      refine zr_iadd (pc := 71) (zdal_p dlB_T_marks_136 (i := 10) rfl) ?_
      refine zr_nmI (fun v11_ hv11_ => ?_)
      obtain ⟨hv11_a, hv11_b⟩ := hv11_
      exact zk_iret (pc := 72) (ty := .int) rfl rfl ⟨by (exact hv11_a), by (exact hv11_b)⟩ hf_N5_ (show ze N5_ 1 1 = 0 by first | with_reducible assumption | (exact zo_610 eA1_1_N5_ hvN4_) | assumption) (zdal_p dlB_T_marks_136 (i := 11) rfl)
  · skip
    refine zw_bipush (pc := 40) (v := Int32.ofInt (-2)) (by decide) (zdal_p dlB_T_marks_135 (i := 18) rfl) ?_
    exact zk_iret (pc := 42) (ty := .int) rfl rfl ⟨by (decide), by (decide)⟩ hf_N4_ (show ze N4_ 1 1 = 0 by first | with_reducible assumption | assumption | omega) (zdal_p dlB_T_marks_135 (i := 19) rfl)
