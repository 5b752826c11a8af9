theorem zk_nz {v a : Int} (he : Int64.ofInt v = Int64.ofInt a) (h1 : 1 ≤ a) (h2 : a ≤ 9223372036854775808) : v ≠ 0 := by
  intro hv
  rw [hv] at he
  by_cases g : a = 9223372036854775808
  · rw [g] at he
    exact absurd he (by decide)
  · have h3 := congrArg Int64.toInt he
    rw [z64 ⟨by (decide), by (decide)⟩, z64 ⟨by (exact zo_2176 h1), by omega⟩] at h3
    omega
set_option maxHeartbeats 4000000 in
theorem u_Reader_readOperandX (l : Launch) (d_ : Nat) (Mz : zMem) (hW : zKW d_ Mz) : zC l m_Reader_readOperand 0 0 [.ref 4, .ref (d_ + 0)] Mz (zqcI d_ [(1, 2), (1, 3), (1, 4), (1, 5), (4, 1), (4, 2), (4, 3)] [] [(33, 3)] [25] Mz (fun v N => ((v = 0 ∨ v = 1)))) := by
  refine zC_of (L0 := [some (.ref 4), some (.ref (d_ + 0)), none, none, none]) md_Reader_readOperand (Nat.le_of_ble_eq_true rfl) rfl ?_ zQ0
  have hf : zFc d_ [(1, 2), (1, 3), (1, 4), (1, 5), (4, 1), (4, 2), (4, 3)] [] [(33, 3)] [25] Mz Mz := zFc.rf
  refine zw_aload_n (pc := 0) (n := 1) (x := (d_ + 0)) rfl (zdal_p dlA_Reader_readOperand_119 (i := 0) rfl) ?_
  refine zw_getF (pc := 1) f_Reader_111 rfl ((hf.w hW).kr (o := 0) (by decide)) ((hf.w hW).lr (o := 0) (s := 4) (r := 33) (by decide)) (zdal_p dlA_Reader_readOperand_119 (i := 1) rfl) ?_
  refine zw_astore_n (pc := 4) (i := 2) (L2 := [some (.ref 4), some (.ref (d_ + 0)), some (.ref (d_ + 33)), none, none]) rfl (by decide) rfl (zdal_p dlA_Reader_readOperand_119 (i := 2) rfl) ?_
  refine zw_aload_n (pc := 5) (n := 1) (x := (d_ + 0)) rfl (zdal_p dlA_Reader_readOperand_119 (i := 3) rfl) ?_
  refine zw_getF (pc := 6) f_Reader_158 rfl ((hf.w hW).kr (o := 0) (by decide)) ((hf.w hW).lr (o := 0) (s := 1) (r := 12) (by decide)) (zdal_p dlA_Reader_readOperand_119 (i := 4) rfl) ?_
  refine zk_getI (pc := 9) f_Reader_162 rfl ((hf.w hW).kr (o := 12) (by decide)) (zdal_p dlA_Reader_readOperand_119 (i := 5) rfl) ?_
  have hr1_ := ze_r Mz (d_ + 12) 7
  refine zw_iconst (pc := 12) (v := Int32.ofInt 1) (by decide) (zdal_p dlA_Reader_readOperand_119 (i := 6) rfl) ?_
  refine zr_isub (pc := 13) (zdal_p dlA_Reader_readOperand_119 (i := 7) rfl) ?_
  refine zr_nmI (fun v2_ hv2_ => ?_)
  obtain ⟨hv2_a, hv2_b⟩ := hv2_
  refine zw_istore_n (pc := 14) (i := 3) (L2 := [some (.ref 4), some (.ref (d_ + 0)), some (.ref (d_ + 33)), some (.int (Int32.ofInt v2_)), none]) rfl (by decide) rfl (zdal_p dlA_Reader_readOperand_119 (i := 8) rfl) ?_
  refine zw_aload_n (pc := 15) (n := 0) (x := 4) rfl (zdal_p dlA_Reader_readOperand_119 (i := 9) rfl) ?_
  refine zw_getF (pc := 16) f_Reader_15 rfl ((hf.w hW).ka (o := 4) (by decide)) ((hf.w hW).la (o := 4) (s := 0) (r := 1) (by decide)) (zdal_p dlA_Reader_readOperand_119 (i := 10) rfl) ?_
  refine zk_callV hf.x (pc := 19) [] [] l_Reader_53 (u_Tokens_isNumberX l d_ Mz (hf.w hW) ) rfl rfl ((hf.w hW).ka (o := 1) (by decide)) (by decide) (by decide) (Nat.le_of_ble_eq_true rfl) (zdal_p dlA_Reader_readOperand_119 (i := 11) rfl) ?_
  rintro _ N3_ ⟨v4_, rfl, ⟨hv4_a, hv4_b⟩, hsN3_, hp0_N3_⟩
  obtain rfl := hsN3_.eq.symm
  replace hp0_N3_ : (v4_ = 0 ∨ v4_ = 1) := hp0_N3_
  show zW l m_Reader_readOperand (zn Mz + 0, zw Mz + 0) Mz 22 [some (.ref 4), some (.ref (d_ + 0)), some (.ref (d_ + 33)), some (.int (Int32.ofInt v2_)), none] [.int (Int32.ofInt v4_)] _
  refine zw_istore (pc := 22) (i := 4) (L2 := [some (.ref 4), some (.ref (d_ + 0)), some (.ref (d_ + 33)), some (.int (Int32.ofInt v2_)), some (.int (Int32.ofInt v4_))]) (by decide) rfl (zdal_p dlA_Reader_readOperand_119 (i := 12) rfl) ?_
  refine zw_iload (pc := 24) (i := 4) (x := Int32.ofInt v4_) rfl (zdal_p dlA_Reader_readOperand_119 (i := 13) rfl) ?_
  refine zr_if_ne (pc := 26) (tgt := 51) ⟨hv4_a, hv4_b⟩ (by decide) (zdal_p dlA_Reader_readOperand_119 (i := 14) rfl) (fun hc_26 => ?_) (fun hc_26 => ?_)
  · skip
    refine zw_aload_n (pc := 51) (n := 0) (x := 4) rfl (zdal_p dlA_Reader_readOperand_120 (i := 2) rfl) ?_
    refine zw_aload_n (pc := 52) (n := 2) (x := (d_ + 33)) rfl (zdal_p dlA_Reader_readOperand_120 (i := 3) rfl) ?_
    refine zk_callV hf.x (pc := 53) [.ref (d_ + 33)] [] l_Reader_152 (u_Reader_countUnitX l d_ Mz (hf.w hW) ) rfl rfl ((hf.w hW).ka (o := 4) (by decide)) (by decide) (by decide) (Nat.le_of_ble_eq_true rfl) (zdal_p dlA_Reader_readOperand_120 (i := 4) rfl) ?_
    rintro _ N5_ ⟨v6_, rfl, ⟨hv6_a, hv6_b⟩, hsN5_, hp0_N5_⟩
    replace hp0_N5_ : (v6_ = 0 ∨ v6_ = 1) := hp0_N5_
    have hf_N5_ : zFc d_ [(1, 2), (1, 3), (1, 4), (1, 5), (4, 1), (4, 2), (4, 3)] [] [(33, 3)] [25] Mz N5_ := hf.tr hsN5_ (by decide) (by decide) (by decide) (by decide)
    show zW l m_Reader_readOperand (zn Mz + 0, zw Mz + 0) N5_ 56 [some (.ref 4), some (.ref (d_ + 0)), some (.ref (d_ + 33)), some (.int (Int32.ofInt v2_)), some (.int (Int32.ofInt v4_))] [.int (Int32.ofInt v6_)] _
    refine zr_if_ne (pc := 56) (tgt := 61) ⟨hv6_a, hv6_b⟩ (by decide) d_Reader_readOperand_56 (fun hc_56 => ?_) (fun hc_56 => ?_)
    · skip
      refine zw_iload (pc := 61) (i := 4) (x := Int32.ofInt v4_) rfl (zdal_p dlA_Reader_readOperand_120 (i := 8) rfl) ?_
      refine zr_if_eq (pc := 63) (tgt := 81) ⟨hv4_a, hv4_b⟩ (by decide) (zdal_p dlA_Reader_readOperand_120 (i := 9) rfl) (fun hc_63 => ?_) (fun hc_63 => ?_)
      · skip
        refine zw_aload_n (pc := 81) (n := 0) (x := 4) rfl (zdal_p dlA_Reader_readOperand_120 (i := 17) rfl) ?_
        refine zw_getF (pc := 82) f_Reader_15 rfl ((hf_N5_.w hW).ka (o := 4) (by decide)) ((hf_N5_.w hW).la (o := 4) (s := 0) (r := 1) (by decide)) (zdal_p dlA_Reader_readOperand_120 (i := 18) rfl) ?_
        refine zk_callV hf_N5_.x (pc := 85) [] [] l_Reader_44 (u_Tokens_stepX l d_ N5_ (hf_N5_.w hW) ) rfl rfl ((hf_N5_.w hW).ka (o := 1) (by decide)) (by decide) (by decide) (Nat.le_of_ble_eq_true rfl) (zdal_p dlA_Reader_readOperand_120 (i := 19) rfl) ?_
        rintro _ N7_ ⟨rfl, hsN7_, -⟩
        have hf_N7_ : zFc d_ [(1, 2), (1, 3), (1, 4), (1, 5), (4, 1), (4, 2), (4, 3)] [] [(33, 3)] [25] Mz N7_ := hf_N5_.tr hsN7_ (by decide) (by decide) (by decide) (by decide)
        show zW l m_Reader_readOperand (zn Mz + 0, zw Mz + 0) N7_ 88 [some (.ref 4), some (.ref (d_ + 0)), some (.ref (d_ + 33)), some (.int (Int32.ofInt v2_)), some (.int (Int32.ofInt v4_))] [] _
        refine zw_aload_n (pc := 88) (n := 0) (x := 4) rfl (zdal_p dlA_Reader_readOperand_120 (i := 20) rfl) ?_
        refine zw_getF (pc := 89) f_Reader_15 rfl ((hf_N7_.w hW).ka (o := 4) (by decide)) ((hf_N7_.w hW).la (o := 4) (s := 0) (r := 1) (by decide)) (zdal_p dlA_Reader_readOperand_120 (i := 21) rfl) ?_
        refine zk_callV hf_N7_.x (pc := 92) [] [] l_Reader_53 (u_Tokens_isNumberX l d_ N7_ (hf_N7_.w hW) ) rfl rfl ((hf_N7_.w hW).ka (o := 1) (by decide)) (by decide) (by decide) (Nat.le_of_ble_eq_true rfl) (zdal_p dlA_Reader_readOperand_120 (i := 22) rfl) ?_
        rintro _ N9_ ⟨v10_, rfl, ⟨hv10_a, hv10_b⟩, hsN9_, hp0_N9_⟩
        obtain rfl := hsN9_.eq.symm
        replace hp0_N9_ : (v10_ = 0 ∨ v10_ = 1) := hp0_N9_
        show zW l m_Reader_readOperand (zn Mz + 0, zw Mz + 0) N7_ 95 [some (.ref 4), some (.ref (d_ + 0)), some (.ref (d_ + 33)), some (.int (Int32.ofInt v2_)), some (.int (Int32.ofInt v4_))] [.int (Int32.ofInt v10_)] _
        refine zr_if_ne (pc := 95) (tgt := 104) ⟨hv10_a, hv10_b⟩ (by decide) (zdal_p dlA_Reader_readOperand_120 (i := 23) rfl) (fun hc_95 => ?_) (fun hc_95 => ?_)
        · skip
          refine zw_aload_n (pc := 104) (n := 0) (x := 4) rfl (zdal_p dlA_Reader_readOperand_121 (i := 4) rfl) ?_
          refine zw_getF (pc := 105) f_Reader_15 rfl ((hf_N7_.w hW).ka (o := 4) (by decide)) ((hf_N7_.w hW).la (o := 4) (s := 0) (r := 1) (by decide)) (zdal_p dlA_Reader_readOperand_121 (i := 5) rfl) ?_
          refine zk_getI (pc := 108) f_Reader_57 rfl ((hf_N7_.w hW).ka (o := 1) (by decide)) (zdal_p dlA_Reader_readOperand_121 (i := 6) rfl) ?_
          have hr11_ := ze_r N7_ 1 5
          refine zw_iload_n (pc := 111) (n := 3) (x := Int32.ofInt v2_) rfl (zdal_p dlA_Reader_readOperand_121 (i := 7) rfl) ?_
          refine zr_icmp_le (pc := 112) (tgt := 121) ⟨(ze_r N7_ 1 5).1, (ze_r N7_ 1 5).2⟩ ⟨hv2_a, hv2_b⟩ (by decide) (zdal_p dlA_Reader_readOperand_121 (i := 8) rfl) (fun hc_112 => ?_) (fun hc_112 => ?_)
          · skip
            refine zw_aload_n (pc := 121) (n := 2) (x := (d_ + 33)) rfl (zdal_p dlA_Reader_readOperand_121 (i := 13) rfl) ?_
            refine zw_aload_n (pc := 122) (n := 0) (x := 4) rfl (zdal_p dlA_Reader_readOperand_121 (i := 14) rfl) ?_
            refine zw_getF (pc := 123) f_Reader_15 rfl ((hf_N7_.w hW).ka (o := 4) (by decide)) ((hf_N7_.w hW).la (o := 4) (s := 0) (r := 1) (by decide)) (zdal_p dlA_Reader_readOperand_121 (i := 15) rfl) ?_
            refine zk_getI (pc := 126) f_Reader_57 rfl ((hf_N7_.w hW).ka (o := 1) (by decide)) (zdal_p dlA_Reader_readOperand_121 (i := 16) rfl) ?_
            refine zw_iconst (pc := 129) (v := Int32.ofInt 1) (by decide) (zdal_p dlA_Reader_readOperand_121 (i := 17) rfl) ?_
            refine zk_callV hf_N7_.x (pc := 130) [.int (Int32.ofInt (ze N7_ 1 5)), .int (Int32.ofInt 1)] [] l_Reader_172 (u_Calc_pushSingleX l d_ N7_ (hf_N7_.w hW) (ze N7_ 1 5) (ze_r N7_ 1 5).1 (ze_r N7_ 1 5).2 1 (by decide) (by decide)) rfl rfl ((hf_N7_.w hW).kr (o := 33) (by decide)) (by decide) (by decide) (Nat.le_of_ble_eq_true rfl) (zdal_p dlA_Reader_readOperand_121 (i := 18) rfl) ?_
            rintro _ N12_ ⟨rfl, hsN12_, -⟩
            have hf_N12_ : zFc d_ [(1, 2), (1, 3), (1, 4), (1, 5), (4, 1), (4, 2), (4, 3)] [] [(33, 3)] [25] Mz N12_ := hf_N7_.tr hsN12_ (by decide) (by decide) (by decide) (by decide)
            show zW l m_Reader_readOperand (zn Mz + 0, zw Mz + 0) N12_ 133 [some (.ref 4), some (.ref (d_ + 0)), some (.ref (d_ + 33)), some (.int (Int32.ofInt v2_)), some (.int (Int32.ofInt v4_))] [] _
            refine zw_aload_n (pc := 133) (n := 0) (x := 4) rfl d_Reader_readOperand_133 ?_
            refine zw_getF (pc := 134) f_Reader_15 rfl ((hf_N12_.w hW).ka (o := 4) (by decide)) ((hf_N12_.w hW).la (o := 4) (s := 0) (r := 1) (by decide)) d_Reader_readOperand_134 ?_
            refine zk_callV hf_N12_.x (pc := 137) [] [] l_Reader_44 (u_Tokens_stepX l d_ N12_ (hf_N12_.w hW) ) rfl rfl ((hf_N12_.w hW).ka (o := 1) (by decide)) (by decide) (by decide) (Nat.le_of_ble_eq_true rfl) d_Reader_readOperand_137 ?_
            rintro _ N14_ ⟨rfl, hsN14_, -⟩
            have hf_N14_ : zFc d_ [(1, 2), (1, 3), (1, 4), (1, 5), (4, 1), (4, 2), (4, 3)] [] [(33, 3)] [25] Mz N14_ := hf_N12_.tr hsN14_ (by decide) (by decide) (by decide) (by decide)
            show zW l m_Reader_readOperand (zn Mz + 0, zw Mz + 0) N14_ 140 [some (.ref 4), some (.ref (d_ + 0)), some (.ref (d_ + 33)), some (.int (Int32.ofInt v2_)), some (.int (Int32.ofInt v4_))] [] _
            refine zw_iconst (pc := 140) (v := Int32.ofInt 1) (by decide) d_Reader_readOperand_140 ?_
            exact zk_iret (pc := 141) (ty := .boolean) rfl (z_narB (by (decide))) ⟨by (decide), by (decide)⟩ hf_N14_ (show (((1 : Int)) = 0 ∨ ((1 : Int)) = 1) by first | with_reducible assumption | (decide) | assumption) d_Reader_readOperand_141
          · skip
            refine zw_aload_n (pc := 115) (n := 0) (x := 4) rfl (zdal_p dlA_Reader_readOperand_121 (i := 9) rfl) ?_
            refine zw_iconst (pc := 116) (v := Int32.ofInt 4) (by decide) (zdal_p dlA_Reader_readOperand_121 (i := 10) rfl) ?_
            refine zk_callV hf_N7_.x (pc := 117) [.int (Int32.ofInt 4)] [] l_Reader_41 (u_Reader_refuseX l d_ N7_ (hf_N7_.w hW) 4 (by decide) (by decide)) rfl rfl ((hf_N7_.w hW).ka (o := 4) (by decide)) (by decide) (by decide) (Nat.le_of_ble_eq_true rfl) (zdal_p dlA_Reader_readOperand_121 (i := 11) rfl) ?_
            rintro _ N16_ ⟨v17_, rfl, ⟨hv17_a, hv17_b⟩, hsN16_, hp0_N16_⟩
            replace hp0_N16_ : (v17_ = 0 ∨ v17_ = 1) := hp0_N16_
            have hf_N16_ : zFc d_ [(1, 2), (1, 3), (1, 4), (1, 5), (4, 1), (4, 2), (4, 3)] [] [(33, 3)] [25] Mz N16_ := hf_N7_.tr hsN16_ (by decide) (by decide) (by decide) (by decide)
            show zW l m_Reader_readOperand (zn Mz + 0, zw Mz + 0) N16_ 120 [some (.ref 4), some (.ref (d_ + 0)), some (.ref (d_ + 33)), some (.int (Int32.ofInt v2_)), some (.int (Int32.ofInt v4_))] [.int (Int32.ofInt v17_)] _
            exact zk_iret (pc := 120) (ty := .boolean) rfl (z_narB (by (exact hp0_N16_))) ⟨by (exact hv17_a), by (exact hv17_b)⟩ hf_N16_ (show (v17_ = 0 ∨ v17_ = 1) by first | with_reducible assumption | assumption | omega) (zdal_p dlA_Reader_readOperand_121 (i := 12) rfl)
        · skip
          refine zw_aload_n (pc := 98) (n := 0) (x := 4) rfl (zdal_p dlA_Reader_readOperand_121 (i := 0) rfl) ?_
          refine zw_iconst (pc := 99) (v := Int32.ofInt 2) (by decide) (zdal_p dlA_Reader_readOperand_121 (i := 1) rfl) ?_
          refine zk_callV hf_N7_.x (pc := 100) [.int (Int32.ofInt 2)] [] l_Reader_41 (u_Reader_refuseX l d_ N7_ (hf_N7_.w hW) 2 (by decide) (by decide)) rfl rfl ((hf_N7_.w hW).ka (o := 4) (by decide)) (by decide) (by decide) (Nat.le_of_ble_eq_true rfl) (zdal_p dlA_Reader_readOperand_121 (i := 2) rfl) ?_
          rintro _ N18_ ⟨v19_, rfl, ⟨hv19_a, hv19_b⟩, hsN18_, hp0_N18_⟩
          replace hp0_N18_ : (v19_ = 0 ∨ v19_ = 1) := hp0_N18_
          have hf_N18_ : zFc d_ [(1, 2), (1, 3), (1, 4), (1, 5), (4, 1), (4, 2), (4, 3)] [] [(33, 3)] [25] Mz N18_ := hf_N7_.tr hsN18_ (by decide) (by decide) (by decide) (by decide)
          show zW l m_Reader_readOperand (zn Mz + 0, zw Mz + 0) N18_ 103 [some (.ref 4), some (.ref (d_ + 0)), some (.ref (d_ + 33)), some (.int (Int32.ofInt v2_)), some (.int (Int32.ofInt v4_))] [.int (Int32.ofInt v19_)] _
          exact zk_iret (pc := 103) (ty := .boolean) rfl (z_narB (by (exact hp0_N18_))) ⟨by (exact hv19_a), by (exact hv19_b)⟩ hf_N18_ (show (v19_ = 0 ∨ v19_ = 1) by first | with_reducible assumption | assumption | omega) (zdal_p dlA_Reader_readOperand_121 (i := 3) rfl)
      · skip
        refine zw_aload_n (pc := 66) (n := 2) (x := (d_ + 33)) rfl (zdal_p dlA_Reader_readOperand_120 (i := 10) rfl) ?_
        refine zw_iload_n (pc := 67) (n := 3) (x := Int32.ofInt v2_) rfl (zdal_p dlA_Reader_readOperand_120 (i := 11) rfl) ?_
        refine zw_aload_n (pc := 68) (n := 0) (x := 4) rfl (zdal_p dlA_Reader_readOperand_120 (i := 12) rfl) ?_
        refine zw_getF (pc := 69) f_Reader_15 rfl ((hf_N5_.w hW).ka (o := 4) (by decide)) ((hf_N5_.w hW).la (o := 4) (s := 0) (r := 1) (by decide)) (zdal_p dlA_Reader_readOperand_120 (i := 13) rfl) ?_
        refine zk_getI (pc := 72) f_Reader_57 rfl ((hf_N5_.w hW).ka (o := 1) (by decide)) (zdal_p dlA_Reader_readOperand_120 (i := 14) rfl) ?_
        have hr20_ := ze_r N5_ 1 5
        refine zk_callV hf_N5_.x (pc := 75) [.int (Int32.ofInt v2_), .int (Int32.ofInt (ze N5_ 1 5))] [] l_Reader_172 (u_Calc_pushSingleX l d_ N5_ (hf_N5_.w hW) v2_ hv2_a hv2_b (ze N5_ 1 5) (ze_r N5_ 1 5).1 (ze_r N5_ 1 5).2) rfl rfl ((hf_N5_.w hW).kr (o := 33) (by decide)) (by decide) (by decide) (Nat.le_of_ble_eq_true rfl) (zdal_p dlA_Reader_readOperand_120 (i := 15) rfl) ?_
        rintro _ N21_ ⟨rfl, hsN21_, -⟩
        have hf_N21_ : zFc d_ [(1, 2), (1, 3), (1, 4), (1, 5), (4, 1), (4, 2), (4, 3)] [] [(33, 3)] [25] Mz N21_ := hf_N5_.tr hsN21_ (by decide) (by decide) (by decide) (by decide)
        show zW l m_Reader_readOperand (zn Mz + 0, zw Mz + 0) N21_ 78 [some (.ref 4), some (.ref (d_ + 0)), some (.ref (d_ + 33)), some (.int (Int32.ofInt v2_)), some (.int (Int32.ofInt v4_))] [] _
        refine zw_goto (pc := 78) (tgt := 133) (by decide) (zdal_p dlA_Reader_readOperand_120 (i := 16) rfl) ?_
        refine zw_aload_n (pc := 133) (n := 0) (x := 4) rfl d_Reader_readOperand_133 ?_
        refine zw_getF (pc := 134) f_Reader_15 rfl ((hf_N21_.w hW).ka (o := 4) (by decide)) ((hf_N21_.w hW).la (o := 4) (s := 0) (r := 1) (by decide)) d_Reader_readOperand_134 ?_
        refine zk_callV hf_N21_.x (pc := 137) [] [] l_Reader_44 (u_Tokens_stepX l d_ N21_ (hf_N21_.w hW) ) rfl rfl ((hf_N21_.w hW).ka (o := 1) (by decide)) (by decide) (by decide) (Nat.le_of_ble_eq_true rfl) d_Reader_readOperand_137 ?_
        rintro _ N23_ ⟨rfl, hsN23_, -⟩
        have hf_N23_ : zFc d_ [(1, 2), (1, 3), (1, 4), (1, 5), (4, 1), (4, 2), (4, 3)] [] [(33, 3)] [25] Mz N23_ := hf_N21_.tr hsN23_ (by decide) (by decide) (by decide) (by decide)
        show zW l m_Reader_readOperand (zn Mz + 0, zw Mz + 0) N23_ 140 [some (.ref 4), some (.ref (d_ + 0)), some (.ref (d_ + 33)), some (.int (Int32.ofInt v2_)), some (.int (Int32.ofInt v4_))] [] _
        refine zw_iconst (pc := 140) (v := Int32.ofInt 1) (by decide) d_Reader_readOperand_140 ?_
        exact zk_iret (pc := 141) (ty := .boolean) rfl (z_narB (by (decide))) ⟨by (decide), by (decide)⟩ hf_N23_ (show (((1 : Int)) = 0 ∨ ((1 : Int)) = 1) by first | with_reducible assumption | (decide) | assumption) d_Reader_readOperand_141
    · skip
      refine zw_iconst (pc := 59) (v := Int32.ofInt 0) (by decide) (zdal_p dlA_Reader_readOperand_120 (i := 6) rfl) ?_
      exact zk_iret (pc := 60) (ty := .boolean) rfl (z_narB (by (decide))) ⟨by (decide), by (decide)⟩ hf_N5_ (show (((0 : Int)) = 0 ∨ ((0 : Int)) = 1) by first | with_reducible assumption | (decide) | assumption) (zdal_p dlA_Reader_readOperand_120 (i := 7) rfl)
  · skip
    refine zw_aload_n (pc := 29) (n := 0) (x := 4) rfl (zdal_p dlA_Reader_readOperand_119 (i := 15) rfl) ?_
    refine zw_getF (pc := 30) f_Reader_15 rfl ((hf.w hW).ka (o := 4) (by decide)) ((hf.w hW).la (o := 4) (s := 0) (r := 1) (by decide)) (zdal_p dlA_Reader_readOperand_119 (i := 16) rfl) ?_
    refine zw_ldcs (pc := 33) (i := 3) (List.mem_of_getElem? (i := 7) rfl) (zdal_p dlA_Reader_readOperand_119 (i := 17) rfl) ?_
    refine zk_callV hf.x (pc := 35) [.ref (zK 3)] [] l_Reader_49 (u_Tokens_isWordX l d_ Mz (hf.w hW) 3 (by decide)) rfl rfl ((hf.w hW).ka (o := 1) (by decide)) (by decide) (by decide) (Nat.le_of_ble_eq_true rfl) (zdal_p dlA_Reader_readOperand_119 (i := 18) rfl) ?_
    rintro _ N25_ ⟨v26_, rfl, ⟨hv26_a, hv26_b⟩, hsN25_, hp0_N25_⟩
    obtain rfl := hsN25_.eq.symm
    replace hp0_N25_ : (v26_ = 0 ∨ v26_ = 1) := hp0_N25_
    show zW l m_Reader_readOperand (zn Mz + 0, zw Mz + 0) Mz 38 [some (.ref 4), some (.ref (d_ + 0)), some (.ref (d_ + 33)), some (.int (Int32.ofInt v2_)), some (.int (Int32.ofInt v4_))] [.int (Int32.ofInt v26_)] _
    refine zr_if_ne (pc := 38) (tgt := 51) ⟨hv26_a, hv26_b⟩ (by decide) (zdal_p dlA_Reader_readOperand_119 (i := 19) rfl) (fun hc_38 => ?_) (fun hc_38 => ?_)
    · skip
      refine zw_aload_n (pc := 51) (n := 0) (x := 4) rfl (zdal_p dlA_Reader_readOperand_120 (i := 2) rfl) ?_
      refine zw_aload_n (pc := 52) (n := 2) (x := (d_ + 33)) rfl (zdal_p dlA_Reader_readOperand_120 (i := 3) rfl) ?_
      refine zk_callV hf.x (pc := 53) [.ref (d_ + 33)] [] l_Reader_152 (u_Reader_countUnitX l d_ Mz (hf.w hW) ) rfl rfl ((hf.w hW).ka (o := 4) (by decide)) (by decide) (by decide) (Nat.le_of_ble_eq_true rfl) (zdal_p dlA_Reader_readOperand_120 (i := 4) rfl) ?_
      rintro _ N27_ ⟨v28_, rfl, ⟨hv28_a, hv28_b⟩, hsN27_, hp0_N27_⟩
      replace hp0_N27_ : (v28_ = 0 ∨ v28_ = 1) := hp0_N27_
      have hf_N27_ : zFc d_ [(1, 2), (1, 3), (1, 4), (1, 5), (4, 1), (4, 2), (4, 3)] [] [(33, 3)] [25] Mz N27_ := hf.tr hsN27_ (by decide) (by decide) (by decide) (by decide)
      show zW l m_Reader_readOperand (zn Mz + 0, zw Mz + 0) N27_ 56 [some (.ref 4), some (.ref (d_ + 0)), some (.ref (d_ + 33)), some (.int (Int32.ofInt v2_)), some (.int (Int32.ofInt v4_))] [.int (Int32.ofInt v28_)] _
      refine zr_if_ne (pc := 56) (tgt := 61) ⟨hv28_a, hv28_b⟩ (by decide) d_Reader_readOperand_56 (fun hc_56 => ?_) (fun hc_56 => ?_)
      · skip
        refine zw_iload (pc := 61) (i := 4) (x := Int32.ofInt v4_) rfl (zdal_p dlA_Reader_readOperand_120 (i := 8) rfl) ?_
        refine zr_if_eq (pc := 63) (tgt := 81) ⟨hv4_a, hv4_b⟩ (by decide) (zdal_p dlA_Reader_readOperand_120 (i := 9) rfl) (fun hc_63 => ?_) (fun hc_63 => ?_)
        · skip
          refine zw_aload_n (pc := 81) (n := 0) (x := 4) rfl (zdal_p dlA_Reader_readOperand_120 (i := 17) rfl) ?_
          refine zw_getF (pc := 82) f_Reader_15 rfl ((hf_N27_.w hW).ka (o := 4) (by decide)) ((hf_N27_.w hW).la (o := 4) (s := 0) (r := 1) (by decide)) (zdal_p dlA_Reader_readOperand_120 (i := 18) rfl) ?_
          refine zk_callV hf_N27_.x (pc := 85) [] [] l_Reader_44 (u_Tokens_stepX l d_ N27_ (hf_N27_.w hW) ) rfl rfl ((hf_N27_.w hW).ka (o := 1) (by decide)) (by decide) (by decide) (Nat.le_of_ble_eq_true rfl) (zdal_p dlA_Reader_readOperand_120 (i := 19) rfl) ?_
          rintro _ N29_ ⟨rfl, hsN29_, -⟩
          have hf_N29_ : zFc d_ [(1, 2), (1, 3), (1, 4), (1, 5), (4, 1), (4, 2), (4, 3)] [] [(33, 3)] [25] Mz N29_ := hf_N27_.tr hsN29_ (by decide) (by decide) (by decide) (by decide)
          show zW l m_Reader_readOperand (zn Mz + 0, zw Mz + 0) N29_ 88 [some (.ref 4), some (.ref (d_ + 0)), some (.ref (d_ + 33)), some (.int (Int32.ofInt v2_)), some (.int (Int32.ofInt v4_))] [] _
          refine zw_aload_n (pc := 88) (n := 0) (x := 4) rfl (zdal_p dlA_Reader_readOperand_120 (i := 20) rfl) ?_
          refine zw_getF (pc := 89) f_Reader_15 rfl ((hf_N29_.w hW).ka (o := 4) (by decide)) ((hf_N29_.w hW).la (o := 4) (s := 0) (r := 1) (by decide)) (zdal_p dlA_Reader_readOperand_120 (i := 21) rfl) ?_
          refine zk_callV hf_N29_.x (pc := 92) [] [] l_Reader_53 (u_Tokens_isNumberX l d_ N29_ (hf_N29_.w hW) ) rfl rfl ((hf_N29_.w hW).ka (o := 1) (by decide)) (by decide) (by decide) (Nat.le_of_ble_eq_true rfl) (zdal_p dlA_Reader_readOperand_120 (i := 22) rfl) ?_
          rintro _ N31_ ⟨v32_, rfl, ⟨hv32_a, hv32_b⟩, hsN31_, hp0_N31_⟩
          obtain rfl := hsN31_.eq.symm
          replace hp0_N31_ : (v32_ = 0 ∨ v32_ = 1) := hp0_N31_
          show zW l m_Reader_readOperand (zn Mz + 0, zw Mz + 0) N29_ 95 [some (.ref 4), some (.ref (d_ + 0)), some (.ref (d_ + 33)), some (.int (Int32.ofInt v2_)), some (.int (Int32.ofInt v4_))] [.int (Int32.ofInt v32_)] _
          refine zr_if_ne (pc := 95) (tgt := 104) ⟨hv32_a, hv32_b⟩ (by decide) (zdal_p dlA_Reader_readOperand_120 (i := 23) rfl) (fun hc_95 => ?_) (fun hc_95 => ?_)
          · skip
            refine zw_aload_n (pc := 104) (n := 0) (x := 4) rfl (zdal_p dlA_Reader_readOperand_121 (i := 4) rfl) ?_
            refine zw_getF (pc := 105) f_Reader_15 rfl ((hf_N29_.w hW).ka (o := 4) (by decide)) ((hf_N29_.w hW).la (o := 4) (s := 0) (r := 1) (by decide)) (zdal_p dlA_Reader_readOperand_121 (i := 5) rfl) ?_
            refine zk_getI (pc := 108) f_Reader_57 rfl ((hf_N29_.w hW).ka (o := 1) (by decide)) (zdal_p dlA_Reader_readOperand_121 (i := 6) rfl) ?_
            have hr33_ := ze_r N29_ 1 5
            refine zw_iload_n (pc := 111) (n := 3) (x := Int32.ofInt v2_) rfl (zdal_p dlA_Reader_readOperand_121 (i := 7) rfl) ?_
            refine zr_icmp_le (pc := 112) (tgt := 121) ⟨(ze_r N29_ 1 5).1, (ze_r N29_ 1 5).2⟩ ⟨hv2_a, hv2_b⟩ (by decide) (zdal_p dlA_Reader_readOperand_121 (i := 8) rfl) (fun hc_112 => ?_) (fun hc_112 => ?_)
            · skip
              refine zw_aload_n (pc := 121) (n := 2) (x := (d_ + 33)) rfl (zdal_p dlA_Reader_readOperand_121 (i := 13) rfl) ?_
              refine zw_aload_n (pc := 122) (n := 0) (x := 4) rfl (zdal_p dlA_Reader_readOperand_121 (i := 14) rfl) ?_
              refine zw_getF (pc := 123) f_Reader_15 rfl ((hf_N29_.w hW).ka (o := 4) (by decide)) ((hf_N29_.w hW).la (o := 4) (s := 0) (r := 1) (by decide)) (zdal_p dlA_Reader_readOperand_121 (i := 15) rfl) ?_
              refine zk_getI (pc := 126) f_Reader_57 rfl ((hf_N29_.w hW).ka (o := 1) (by decide)) (zdal_p dlA_Reader_readOperand_121 (i := 16) rfl) ?_
              refine zw_iconst (pc := 129) (v := Int32.ofInt 1) (by decide) (zdal_p dlA_Reader_readOperand_121 (i := 17) rfl) ?_
              refine zk_callV hf_N29_.x (pc := 130) [.int (Int32.ofInt (ze N29_ 1 5)), .int (Int32.ofInt 1)] [] l_Reader_172 (u_Calc_pushSingleX l d_ N29_ (hf_N29_.w hW) (ze N29_ 1 5) (ze_r N29_ 1 5).1 (ze_r N29_ 1 5).2 1 (by decide) (by decide)) rfl rfl ((hf_N29_.w hW).kr (o := 33) (by decide)) (by decide) (by decide) (Nat.le_of_ble_eq_true rfl) (zdal_p dlA_Reader_readOperand_121 (i := 18) rfl) ?_
              rintro _ N34_ ⟨rfl, hsN34_, -⟩
              have hf_N34_ : zFc d_ [(1, 2), (1, 3), (1, 4), (1, 5), (4, 1), (4, 2), (4, 3)] [] [(33, 3)] [25] Mz N34_ := hf_N29_.tr hsN34_ (by decide) (by decide) (by decide) (by decide)
              show zW l m_Reader_readOperand (zn Mz + 0, zw Mz + 0) N34_ 133 [some (.ref 4), some (.ref (d_ + 0)), some (.ref (d_ + 33)), some (.int (Int32.ofInt v2_)), some (.int (Int32.ofInt v4_))] [] _
              refine zw_aload_n (pc := 133) (n := 0) (x := 4) rfl d_Reader_readOperand_133 ?_
              refine zw_getF (pc := 134) f_Reader_15 rfl ((hf_N34_.w hW).ka (o := 4) (by decide)) ((hf_N34_.w hW).la (o := 4) (s := 0) (r := 1) (by decide)) d_Reader_readOperand_134 ?_
              refine zk_callV hf_N34_.x (pc := 137) [] [] l_Reader_44 (u_Tokens_stepX l d_ N34_ (hf_N34_.w hW) ) rfl rfl ((hf_N34_.w hW).ka (o := 1) (by decide)) (by decide) (by decide) (Nat.le_of_ble_eq_true rfl) d_Reader_readOperand_137 ?_
              rintro _ N36_ ⟨rfl, hsN36_, -⟩
              have hf_N36_ : zFc d_ [(1, 2), (1, 3), (1, 4), (1, 5), (4, 1), (4, 2), (4, 3)] [] [(33, 3)] [25] Mz N36_ := hf_N34_.tr hsN36_ (by decide) (by decide) (by decide) (by decide)
              show zW l m_Reader_readOperand (zn Mz + 0, zw Mz + 0) N36_ 140 [some (.ref 4), some (.ref (d_ + 0)), some (.ref (d_ + 33)), some (.int (Int32.ofInt v2_)), some (.int (Int32.ofInt v4_))] [] _
              refine zw_iconst (pc := 140) (v := Int32.ofInt 1) (by decide) d_Reader_readOperand_140 ?_
              exact zk_iret (pc := 141) (ty := .boolean) rfl (z_narB (by (decide))) ⟨by (decide), by (decide)⟩ hf_N36_ (show (((1 : Int)) = 0 ∨ ((1 : Int)) = 1) by first | with_reducible assumption | (decide) | assumption) d_Reader_readOperand_141
            · skip
              refine zw_aload_n (pc := 115) (n := 0) (x := 4) rfl (zdal_p dlA_Reader_readOperand_121 (i := 9) rfl) ?_
              refine zw_iconst (pc := 116) (v := Int32.ofInt 4) (by decide) (zdal_p dlA_Reader_readOperand_121 (i := 10) rfl) ?_
              refine zk_callV hf_N29_.x (pc := 117) [.int (Int32.ofInt 4)] [] l_Reader_41 (u_Reader_refuseX l d_ N29_ (hf_N29_.w hW) 4 (by decide) (by decide)) rfl rfl ((hf_N29_.w hW).ka (o := 4) (by decide)) (by decide) (by decide) (Nat.le_of_ble_eq_true rfl) (zdal_p dlA_Reader_readOperand_121 (i := 11) rfl) ?_
              rintro _ N38_ ⟨v39_, rfl, ⟨hv39_a, hv39_b⟩, hsN38_, hp0_N38_⟩
              replace hp0_N38_ : (v39_ = 0 ∨ v39_ = 1) := hp0_N38_
              have hf_N38_ : zFc d_ [(1, 2), (1, 3), (1, 4), (1, 5), (4, 1), (4, 2), (4, 3)] [] [(33, 3)] [25] Mz N38_ := hf_N29_.tr hsN38_ (by decide) (by decide) (by decide) (by decide)
              show zW l m_Reader_readOperand (zn Mz + 0, zw Mz + 0) N38_ 120 [some (.ref 4), some (.ref (d_ + 0)), some (.ref (d_ + 33)), some (.int (Int32.ofInt v2_)), some (.int (Int32.ofInt v4_))] [.int (Int32.ofInt v39_)] _
              exact zk_iret (pc := 120) (ty := .boolean) rfl (z_narB (by (exact hp0_N38_))) ⟨by (exact hv39_a), by (exact hv39_b)⟩ hf_N38_ (show (v39_ = 0 ∨ v39_ = 1) by first | with_reducible assumption | assumption | omega) (zdal_p dlA_Reader_readOperand_121 (i := 12) rfl)
          · skip
            refine zw_aload_n (pc := 98) (n := 0) (x := 4) rfl (zdal_p dlA_Reader_readOperand_121 (i := 0) rfl) ?_
            refine zw_iconst (pc := 99) (v := Int32.ofInt 2) (by decide) (zdal_p dlA_Reader_readOperand_121 (i := 1) rfl) ?_
            refine zk_callV hf_N29_.x (pc := 100) [.int (Int32.ofInt 2)] [] l_Reader_41 (u_Reader_refuseX l d_ N29_ (hf_N29_.w hW) 2 (by decide) (by decide)) rfl rfl ((hf_N29_.w hW).ka (o := 4) (by decide)) (by decide) (by decide) (Nat.le_of_ble_eq_true rfl) (zdal_p dlA_Reader_readOperand_121 (i := 2) rfl) ?_
            rintro _ N40_ ⟨v41_, rfl, ⟨hv41_a, hv41_b⟩, hsN40_, hp0_N40_⟩
            replace hp0_N40_ : (v41_ = 0 ∨ v41_ = 1) := hp0_N40_
            have hf_N40_ : zFc d_ [(1, 2), (1, 3), (1, 4), (1, 5), (4, 1), (4, 2), (4, 3)] [] [(33, 3)] [25] Mz N40_ := hf_N29_.tr hsN40_ (by decide) (by decide) (by decide) (by decide)
            show zW l m_Reader_readOperand (zn Mz + 0, zw Mz + 0) N40_ 103 [some (.ref 4), some (.ref (d_ + 0)), some (.ref (d_ + 33)), some (.int (Int32.ofInt v2_)), some (.int (Int32.ofInt v4_))] [.int (Int32.ofInt v41_)] _
            exact zk_iret (pc := 103) (ty := .boolean) rfl (z_narB (by (exact hp0_N40_))) ⟨by (exact hv41_a), by (exact hv41_b)⟩ hf_N40_ (show (v41_ = 0 ∨ v41_ = 1) by first | with_reducible assumption | assumption | omega) (zdal_p dlA_Reader_readOperand_121 (i := 3) rfl)
        · skip
          refine zw_aload_n (pc := 66) (n := 2) (x := (d_ + 33)) rfl (zdal_p dlA_Reader_readOperand_120 (i := 10) rfl) ?_
          refine zw_iload_n (pc := 67) (n := 3) (x := Int32.ofInt v2_) rfl (zdal_p dlA_Reader_readOperand_120 (i := 11) rfl) ?_
          refine zw_aload_n (pc := 68) (n := 0) (x := 4) rfl (zdal_p dlA_Reader_readOperand_120 (i := 12) rfl) ?_
          refine zw_getF (pc := 69) f_Reader_15 rfl ((hf_N27_.w hW).ka (o := 4) (by decide)) ((hf_N27_.w hW).la (o := 4) (s := 0) (r := 1) (by decide)) (zdal_p dlA_Reader_readOperand_120 (i := 13) rfl) ?_
          refine zk_getI (pc := 72) f_Reader_57 rfl ((hf_N27_.w hW).ka (o := 1) (by decide)) (zdal_p dlA_Reader_readOperand_120 (i := 14) rfl) ?_
          have hr42_ := ze_r N27_ 1 5
          refine zk_callV hf_N27_.x (pc := 75) [.int (Int32.ofInt v2_), .int (Int32.ofInt (ze N27_ 1 5))] [] l_Reader_172 (u_Calc_pushSingleX l d_ N27_ (hf_N27_.w hW) v2_ hv2_a hv2_b (ze N27_ 1 5) (ze_r N27_ 1 5).1 (ze_r N27_ 1 5).2) rfl rfl ((hf_N27_.w hW).kr (o := 33) (by decide)) (by decide) (by decide) (Nat.le_of_ble_eq_true rfl) (zdal_p dlA_Reader_readOperand_120 (i := 15) rfl) ?_
          rintro _ N43_ ⟨rfl, hsN43_, -⟩
          have hf_N43_ : zFc d_ [(1, 2), (1, 3), (1, 4), (1, 5), (4, 1), (4, 2), (4, 3)] [] [(33, 3)] [25] Mz N43_ := hf_N27_.tr hsN43_ (by decide) (by decide) (by decide) (by decide)
          show zW l m_Reader_readOperand (zn Mz + 0, zw Mz + 0) N43_ 78 [some (.ref 4), some (.ref (d_ + 0)), some (.ref (d_ + 33)), some (.int (Int32.ofInt v2_)), some (.int (Int32.ofInt v4_))] [] _
          refine zw_goto (pc := 78) (tgt := 133) (by decide) (zdal_p dlA_Reader_readOperand_120 (i := 16) rfl) ?_
          refine zw_aload_n (pc := 133) (n := 0) (x := 4) rfl d_Reader_readOperand_133 ?_
          refine zw_getF (pc := 134) f_Reader_15 rfl ((hf_N43_.w hW).ka (o := 4) (by decide)) ((hf_N43_.w hW).la (o := 4) (s := 0) (r := 1) (by decide)) d_Reader_readOperand_134 ?_
          refine zk_callV hf_N43_.x (pc := 137) [] [] l_Reader_44 (u_Tokens_stepX l d_ N43_ (hf_N43_.w hW) ) rfl rfl ((hf_N43_.w hW).ka (o := 1) (by decide)) (by decide) (by decide) (Nat.le_of_ble_eq_true rfl) d_Reader_readOperand_137 ?_
          rintro _ N45_ ⟨rfl, hsN45_, -⟩
          have hf_N45_ : zFc d_ [(1, 2), (1, 3), (1, 4), (1, 5), (4, 1), (4, 2), (4, 3)] [] [(33, 3)] [25] Mz N45_ := hf_N43_.tr hsN45_ (by decide) (by decide) (by decide) (by decide)
          show zW l m_Reader_readOperand (zn Mz + 0, zw Mz + 0) N45_ 140 [some (.ref 4), some (.ref (d_ + 0)), some (.ref (d_ + 33)), some (.int (Int32.ofInt v2_)), some (.int (Int32.ofInt v4_))] [] _
          refine zw_iconst (pc := 140) (v := Int32.ofInt 1) (by decide) d_Reader_readOperand_140 ?_
          exact zk_iret (pc := 141) (ty := .boolean) rfl (z_narB (by (decide))) ⟨by (decide), by (decide)⟩ hf_N45_ (show (((1 : Int)) = 0 ∨ ((1 : Int)) = 1) by first | with_reducible assumption | (decide) | assumption) d_Reader_readOperand_141
      · skip
        refine zw_iconst (pc := 59) (v := Int32.ofInt 0) (by decide) (zdal_p dlA_Reader_readOperand_120 (i := 6) rfl) ?_
        exact zk_iret (pc := 60) (ty := .boolean) rfl (z_narB (by (decide))) ⟨by (decide), by (decide)⟩ hf_N27_ (show (((0 : Int)) = 0 ∨ ((0 : Int)) = 1) by first | with_reducible assumption | (decide) | assumption) (zdal_p dlA_Reader_readOperand_120 (i := 7) rfl)
    · skip
      refine zw_aload_n (pc := 41) (n := 0) (x := 4) rfl (zdal_p dlA_Reader_readOperand_119 (i := 20) rfl) ?_
      refine zw_aload_n (pc := 42) (n := 1) (x := (d_ + 0)) rfl (zdal_p dlA_Reader_readOperand_119 (i := 21) rfl) ?_
      refine zk_callV hf.x (pc := 43) [.ref (d_ + 0)] [] l_Reader_169 (u_Reader_readNamedX l d_ Mz (hf.w hW) ) rfl rfl ((hf.w hW).ka (o := 4) (by decide)) (by decide) (by decide) (Nat.le_of_ble_eq_true rfl) (zdal_p dlA_Reader_readOperand_119 (i := 22) rfl) ?_
      rintro _ N47_ ⟨v48_, rfl, ⟨hv48_a, hv48_b⟩, hsN47_, hp0_N47_⟩
      replace hp0_N47_ : (v48_ = 0 ∨ v48_ = 1) := hp0_N47_
      have hf_N47_ : zFc d_ [(1, 2), (1, 3), (1, 4), (1, 5), (4, 1), (4, 2), (4, 3)] [] [(33, 3)] [25] Mz N47_ := hf.tr hsN47_ (by decide) (by decide) (by decide) (by decide)
      show zW l m_Reader_readOperand (zn Mz + 0, zw Mz + 0) N47_ 46 [some (.ref 4), some (.ref (d_ + 0)), some (.ref (d_ + 33)), some (.int (Int32.ofInt v2_)), some (.int (Int32.ofInt v4_))] [.int (Int32.ofInt v48_)] _
      refine zr_if_ne (pc := 46) (tgt := 133) ⟨hv48_a, hv48_b⟩ (by decide) (zdal_p dlA_Reader_readOperand_119 (i := 23) rfl) (fun hc_46 => ?_) (fun hc_46 => ?_)
      · skip
        refine zw_aload_n (pc := 133) (n := 0) (x := 4) rfl d_Reader_readOperand_133 ?_
        refine zw_getF (pc := 134) f_Reader_15 rfl ((hf_N47_.w hW).ka (o := 4) (by decide)) ((hf_N47_.w hW).la (o := 4) (s := 0) (r := 1) (by decide)) d_Reader_readOperand_134 ?_
        refine zk_callV hf_N47_.x (pc := 137) [] [] l_Reader_44 (u_Tokens_stepX l d_ N47_ (hf_N47_.w hW) ) rfl rfl ((hf_N47_.w hW).ka (o := 1) (by decide)) (by decide) (by decide) (Nat.le_of_ble_eq_true rfl) d_Reader_readOperand_137 ?_
        rintro _ N49_ ⟨rfl, hsN49_, -⟩
        have hf_N49_ : zFc d_ [(1, 2), (1, 3), (1, 4), (1, 5), (4, 1), (4, 2), (4, 3)] [] [(33, 3)] [25] Mz N49_ := hf_N47_.tr hsN49_ (by decide) (by decide) (by decide) (by decide)
        show zW l m_Reader_readOperand (zn Mz + 0, zw Mz + 0) N49_ 140 [some (.ref 4), some (.ref (d_ + 0)), some (.ref (d_ + 33)), some (.int (Int32.ofInt v2_)), some (.int (Int32.ofInt v4_))] [] _
        refine zw_iconst (pc := 140) (v := Int32.ofInt 1) (by decide) d_Reader_readOperand_140 ?_
        exact zk_iret (pc := 141) (ty := .boolean) rfl (z_narB (by (decide))) ⟨by (decide), by (decide)⟩ hf_N49_ (show (((1 : Int)) = 0 ∨ ((1 : Int)) = 1) by first | with_reducible assumption | (decide) | assumption) d_Reader_readOperand_141
      · skip
        refine zw_iconst (pc := 49) (v := Int32.ofInt 0) (by decide) (zdal_p dlA_Reader_readOperand_120 (i := 0) rfl) ?_
        exact zk_iret (pc := 50) (ty := .boolean) rfl (z_narB (by (decide))) ⟨by (decide), by (decide)⟩ hf_N47_ (show (((0 : Int)) = 0 ∨ ((0 : Int)) = 1) by first | with_reducible assumption | (decide) | assumption) (zdal_p dlA_Reader_readOperand_120 (i := 1) rfl)
set_option maxHeartbeats 4000000 in
theorem u_Sums_multiplyX (l : Launch) (d_ : Nat) (Mz : zMem) (hW : zKW d_ Mz) (a0_ : Int) (ha0_a : -2147483648 ≤ a0_) (ha0_b : a0_ < 2147483648) (a1_ : Int) (ha1_a : -2147483648 ≤ a1_) (ha1_b : a1_ < 2147483648) : zC l m_Sums_multiply 0 0 [.ref (d_ + 23), .int (Int32.ofInt a0_), .int (Int32.ofInt a1_)] Mz (zqcI d_ [] [] [] [25, 27] Mz (fun v N => ((v = 0 ∨ v = 1)))) := by
  refine zC_of (L0 := [some (.ref (d_ + 23)), some (.int (Int32.ofInt a0_)), some (.int (Int32.ofInt a1_)), none, none, none, none, none]) md_Sums_multiply (Nat.le_of_ble_eq_true rfl) rfl ?_ zQ0
  have hf : zFc d_ [] [] [] [25, 27] Mz Mz := zFc.rf
  refine zw_iconst (pc := 0) (v := Int32.ofInt 0) (by decide) (zdal_p dlA_Sums_multiply_136 (i := 0) rfl) ?_
  refine zw_istore_n (pc := 1) (i := 3) (L2 := [some (.ref (d_ + 23)), some (.int (Int32.ofInt a0_)), some (.int (Int32.ofInt a1_)), some (.int (Int32.ofInt 0)), none, none, none, none]) rfl (by decide) rfl (zdal_p dlA_Sums_multiply_136 (i := 1) rfl) ?_
  have lp_2 : ∀ (n : Nat) (u1_ : Int) (hu1_a : -2147483648 ≤ u1_) (hu1_b : u1_ < 2147483648) (N2_ : zMem) (hs3_ : zFc d_ [] [] [] [27] Mz N2_) (i4_ : 0 ≤ u1_), (ze Mz (d_ + 12) 7 - u1_).toNat < n → zW l m_Sums_multiply (zn Mz + 0, zw Mz + 0) N2_ 2 [some (.ref (d_ + 23)), some (.int (Int32.ofInt a0_)), some (.int (Int32.ofInt a1_)), some (.int (Int32.ofInt u1_)), none, none, none, none] [] (zqcI d_ [] [] [] [25, 27] Mz (fun v N => ((v = 0 ∨ v = 1)))) := by
    intro n
    induction n with
    | zero =>
      intro u1_ hu1_a hu1_b N2_ hs3_ i4_ h0
      exact absurd h0 (Nat.not_lt_zero _)
    | succ n ih_2 =>
      intro u1_ hu1_a hu1_b N2_ hs3_ i4_ hlt_2
      have hf_N2_ : zFc d_ [] [] [] [25, 27] Mz N2_ := hf.tr hs3_ (by decide) (by decide) (by decide) (by decide)
      refine zw_iload_n (pc := 2) (n := 3) (x := Int32.ofInt u1_) rfl (zdal_p dlA_Sums_multiply_136 (i := 2) rfl) ?_
      refine zw_aload_n (pc := 3) (n := 0) (x := (d_ + 23)) rfl (zdal_p dlA_Sums_multiply_136 (i := 3) rfl) ?_
      refine zw_getF (pc := 4) f_Sums_23 rfl ((hf_N2_.w hW).kr (o := 23) (by decide)) ((hf_N2_.w hW).lr (o := 23) (s := 0) (r := 12) (by decide)) (zdal_p dlA_Sums_multiply_136 (i := 4) rfl) ?_
      refine zk_getI (pc := 7) f_Sums_35 rfl ((hf_N2_.w hW).kr (o := 12) (by decide)) (zdal_p dlA_Sums_multiply_136 (i := 5) rfl) ?_
      rw [hf_N2_.e (by decide)]
      have hr5_ := ze_r Mz (d_ + 12) 7
      refine zr_icmp_ge (pc := 10) (tgt := 75) ⟨hu1_a, hu1_b⟩ ⟨(ze_r Mz (d_ + 12) 7).1, (ze_r Mz (d_ + 12) 7).2⟩ (by decide) (zdal_p dlA_Sums_multiply_136 (i := 6) rfl) (fun hc_10 => ?_) (fun hc_10 => ?_)
      · skip
        refine zw_aload_n (pc := 75) (n := 0) (x := (d_ + 23)) rfl (zdal_p dlA_Sums_multiply_137 (i := 16) rfl) ?_
        refine zw_iload_n (pc := 76) (n := 1) (x := Int32.ofInt a0_) rfl (zdal_p dlA_Sums_multiply_137 (i := 17) rfl) ?_
        refine zk_callV hf_N2_.x (pc := 77) [.int (Int32.ofInt a0_)] [] l_Sums_58 (u_Sums_solveX l d_ N2_ (hf_N2_.w hW) a0_ ha0_a ha0_b) rfl rfl ((hf_N2_.w hW).kr (o := 23) (by decide)) (by decide) (by decide) (Nat.le_of_ble_eq_true rfl) (zdal_p dlA_Sums_multiply_137 (i := 18) rfl) ?_
        rintro _ N6_ ⟨rfl, hsN6_, -⟩
        have hf_N6_ : zFc d_ [] [] [] [25, 27] Mz N6_ := hf_N2_.tr hsN6_ (by decide) (by decide) (by decide) (by decide)
        show zW l m_Sums_multiply (zn Mz + 0, zw Mz + 0) N6_ 80 [some (.ref (d_ + 23)), some (.int (Int32.ofInt a0_)), some (.int (Int32.ofInt a1_)), some (.int (Int32.ofInt u1_)), none, none, none, none] [] _
        refine zw_iconst (pc := 80) (v := Int32.ofInt 1) (by decide) (zdal_p dlA_Sums_multiply_137 (i := 19) rfl) ?_
        exact zk_iret (pc := 81) (ty := .boolean) rfl (z_narB (by (decide))) ⟨by (decide), by (decide)⟩ hf_N6_ (show (((1 : Int)) = 0 ∨ ((1 : Int)) = 1) by first | with_reducible assumption | (decide) | assumption) (zdal_p dlA_Sums_multiply_137 (i := 20) rfl)
      · skip
        refine zw_aload_n (pc := 13) (n := 0) (x := (d_ + 23)) rfl (zdal_p dlA_Sums_multiply_136 (i := 7) rfl) ?_
        refine zw_iload_n (pc := 14) (n := 1) (x := Int32.ofInt a0_) rfl (zdal_p dlA_Sums_multiply_136 (i := 8) rfl) ?_
        refine zw_iload_n (pc := 15) (n := 3) (x := Int32.ofInt u1_) rfl (zdal_p dlA_Sums_multiply_136 (i := 9) rfl) ?_
        refine zk_callV hf_N2_.x (pc := 16) [.int (Int32.ofInt a0_), .int (Int32.ofInt u1_)] [] l_Sums_50 (u_Sums_markOfX l d_ N2_ (hf_N2_.w hW) a0_ ha0_a ha0_b u1_ hu1_a hu1_b) rfl rfl ((hf_N2_.w hW).kr (o := 23) (by decide)) (by decide) (by decide) (Nat.le_of_ble_eq_true rfl) (zdal_p dlA_Sums_multiply_136 (i := 10) rfl) ?_
        rintro _ N8_ ⟨v9_, rfl, ⟨hv9_a, hv9_b⟩, hsN8_, -⟩
        obtain rfl := hsN8_.eq.symm
        show zW l m_Sums_multiply (zn Mz + 0, zw Mz + 0) N2_ 19 [some (.ref (d_ + 23)), some (.int (Int32.ofInt a0_)), some (.int (Int32.ofInt a1_)), some (.int (Int32.ofInt u1_)), none, none, none, none] [.long (Int64.ofInt v9_)] _
        refine zw_lstore (pc := 19) (i := 4) (L2 := [some (.ref (d_ + 23)), some (.int (Int32.ofInt a0_)), some (.int (Int32.ofInt a1_)), some (.int (Int32.ofInt u1_)), some (.long (Int64.ofInt v9_)), none, none, none]) (by decide) rfl (zdal_p dlA_Sums_multiply_136 (i := 11) rfl) ?_
        refine zw_aload_n (pc := 21) (n := 0) (x := (d_ + 23)) rfl (zdal_p dlA_Sums_multiply_136 (i := 12) rfl) ?_
        refine zw_iload_n (pc := 22) (n := 2) (x := Int32.ofInt a1_) rfl (zdal_p dlA_Sums_multiply_136 (i := 13) rfl) ?_
        refine zw_iload_n (pc := 23) (n := 3) (x := Int32.ofInt u1_) rfl (zdal_p dlA_Sums_multiply_136 (i := 14) rfl) ?_
        refine zk_callV hf_N2_.x (pc := 24) [.int (Int32.ofInt a1_), .int (Int32.ofInt u1_)] [] l_Sums_50 (u_Sums_markOfX l d_ N2_ (hf_N2_.w hW) a1_ ha1_a ha1_b u1_ hu1_a hu1_b) rfl rfl ((hf_N2_.w hW).kr (o := 23) (by decide)) (by decide) (by decide) (Nat.le_of_ble_eq_true rfl) (zdal_p dlA_Sums_multiply_136 (i := 15) rfl) ?_
        rintro _ N10_ ⟨v11_, rfl, ⟨hv11_a, hv11_b⟩, hsN10_, -⟩
        obtain rfl := hsN10_.eq.symm
        show zW l m_Sums_multiply (zn Mz + 0, zw Mz + 0) N2_ 27 [some (.ref (d_ + 23)), some (.int (Int32.ofInt a0_)), some (.int (Int32.ofInt a1_)), some (.int (Int32.ofInt u1_)), some (.long (Int64.ofInt v9_)), none, none, none] [.long (Int64.ofInt v11_)] _
        refine zw_lstore (pc := 27) (i := 6) (L2 := [some (.ref (d_ + 23)), some (.int (Int32.ofInt a0_)), some (.int (Int32.ofInt a1_)), some (.int (Int32.ofInt u1_)), some (.long (Int64.ofInt v9_)), none, some (.long (Int64.ofInt v11_)), none]) (by decide) rfl (zdal_p dlA_Sums_multiply_136 (i := 16) rfl) ?_
        refine zw_lload (pc := 29) (i := 4) (x := Int64.ofInt v9_) rfl (zdal_p dlA_Sums_multiply_136 (i := 17) rfl) ?_
        refine zw_lconst (pc := 31) (v := Int64.ofInt 0) (by decide) (zdal_p dlA_Sums_multiply_136 (i := 18) rfl) ?_
        refine zr_lcmp (pc := 32) ⟨hv9_a, hv9_b⟩ ⟨(by decide), (by decide)⟩ (zdal_p dlA_Sums_multiply_136 (i := 19) rfl) ?_
        have hr12_ := zcmp_s v9_ 0
        refine zr_if_eq (pc := 33) (tgt := 56) ⟨(by (exact zo_71 hr12_)), (by (exact zo_72 hr12_))⟩ (by decide) (zdal_p dlA_Sums_multiply_136 (i := 20) rfl) (fun hc_33 => ?_) (fun hc_33 => ?_)
        · skip
          refine zw_aload_n (pc := 56) (n := 0) (x := (d_ + 23)) rfl (zdal_p dlA_Sums_multiply_137 (i := 7) rfl) ?_
          refine zw_getF (pc := 57) f_Sums_20 rfl ((hf_N2_.w hW).kr (o := 23) (by decide)) ((hf_N2_.w hW).lr (o := 23) (s := 2) (r := 26) (by decide)) (zdal_p dlA_Sums_multiply_137 (i := 8) rfl) ?_
          refine zw_iload_n (pc := 60) (n := 3) (x := Int32.ofInt u1_) rfl (zdal_p dlA_Sums_multiply_137 (i := 9) rfl) ?_
          refine zw_lload (pc := 61) (i := 4) (x := Int64.ofInt v9_) rfl (zdal_p dlA_Sums_multiply_137 (i := 10) rfl) ?_
          refine zw_lload (pc := 63) (i := 6) (x := Int64.ofInt v11_) rfl (zdal_p dlA_Sums_multiply_137 (i := 11) rfl) ?_
          refine zr_lmul (pc := 65) (zdal_p dlA_Sums_multiply_137 (i := 12) rfl) ?_
          refine zr_nmJ (fun v13_ hv13_ => ?_)
          obtain ⟨hv13_a, hv13_b⟩ := hv13_
          refine zk_stGJ hf_N2_.x (pc := 66) (o := 27) (by decide) l_Sums_31 ((hf_N2_.w hW).kr (o := 26) (by decide)) ((hf_N2_.w hW).lr (o := 26) (s := 0) (r := 27) (by decide)) ((hf_N2_.w hW).rr (o := 27) (t := 2) (n := 27) (by decide)) (by decide) ⟨by (exact hu1_a), by (exact hu1_b)⟩ (by decide) (Nat.le_of_ble_eq_true rfl) (zdal_p dlA_Sums_multiply_137 (i := 13) rfl) (fun N14_ hsN14_ => ?_)
          have hf_N14_ : zFc d_ [] [] [] [25, 27] Mz N14_ := hf_N2_.tr hsN14_ (by decide) (by decide) (by decide) (by decide)
          have hb0_N14_ : zFc d_ [] [] [] [27] Mz N14_ := hs3_.tr hsN14_ (by decide) (by decide) (by decide) (by decide)
          refine zr_iinc (pc := 69) (i := 3) (a := u1_) (n := 1) (L2 := [some (.ref (d_ + 23)), some (.int (Int32.ofInt a0_)), some (.int (Int32.ofInt a1_)), some (.int (Int32.ofInt (u1_ + 1))), some (.long (Int64.ofInt v9_)), none, some (.long (Int64.ofInt v11_)), none]) rfl (by decide) rfl (zdal_p dlA_Sums_multiply_137 (i := 14) rfl) ?_
          obtain ⟨v15_, hv15_a, hv15_b, hv15_e, hv15_d⟩ := zk_gen (u1_ + 1)
          rw [hv15_e]
          refine zw_goto (pc := 72) (tgt := 2) (by decide) (zdal_p dlA_Sums_multiply_137 (i := 15) rfl) ?_
          refine zW_le [some (.ref (d_ + 23)), some (.int (Int32.ofInt a0_)), some (.int (Int32.ofInt a1_)), some (.int (Int32.ofInt v15_)), none, none, none, none] (⟨rfl, rfl, rfl, rfl, trivial⟩) ?_
          exact ih_2 v15_ hv15_a hv15_b N14_ hb0_N14_ (show 0 ≤ v15_ by first | with_reducible assumption | assumption | omega) (by omega)
        · skip
          refine zw_lload (pc := 36) (i := 6) (x := Int64.ofInt v11_) rfl (zdal_p dlA_Sums_multiply_136 (i := 21) rfl) ?_
          refine zk_absJ (pc := 38) x_Sums_74 (by decide) (Nat.le_of_ble_eq_true rfl) (zdal_p dlA_Sums_multiply_136 (i := 22) rfl) ⟨hv11_a, hv11_b⟩ (fun v16_ hv16_ => ?_)
          refine zr_nmJ (fun v17_ hv17_ => ?_)
          obtain ⟨hv17_a, hv17_b⟩ := hv17_
          refine zr_ldc2 (pc := 41) (n := 1000000000000) (by decide) k_Sums_80 (zdal_p dlA_Sums_multiply_136 (i := 23) rfl) ?_
          refine zw_lload (pc := 44) (i := 4) (x := Int64.ofInt v9_) rfl (zdal_p dlA_Sums_multiply_137 (i := 0) rfl) ?_
          refine zk_absJ (pc := 46) x_Sums_74 (by decide) (Nat.le_of_ble_eq_true rfl) (zdal_p dlA_Sums_multiply_137 (i := 1) rfl) ⟨hv9_a, hv9_b⟩ (fun v18_ hv18_ => ?_)
          refine zk_nmJ (fun v19_ hv19_ hv19_e => ?_)
          obtain ⟨hv19_a, hv19_b⟩ := hv19_
          have hnz_ := zk_nz hv19_e (by omega) (by omega)
          refine zr_ldiv (pc := 49) ⟨by (exact hv19_a), by (exact hv19_b)⟩ (by (exact hnz_)) (zdal_p dlA_Sums_multiply_137 (i := 2) rfl) ?_
          have hr20_ := zlquo_r 1000000000000 v19_
          refine zr_nmJ (fun v21_ hv21_ => ?_)
          obtain ⟨hv21_a, hv21_b⟩ := hv21_
          refine zr_lcmp (pc := 50) ⟨hv17_a, hv17_b⟩ ⟨hv21_a, hv21_b⟩ (zdal_p dlA_Sums_multiply_137 (i := 3) rfl) ?_
          have hr22_ := zcmp_s v17_ v21_
          refine zr_if_le (pc := 51) (tgt := 56) ⟨(by (exact zo_81 hr22_)), (by (exact zo_82 hr22_))⟩ (by decide) (zdal_p dlA_Sums_multiply_137 (i := 4) rfl) (fun hc_51 => ?_) (fun hc_51 => ?_)
          · skip
            refine zw_aload_n (pc := 56) (n := 0) (x := (d_ + 23)) rfl (zdal_p dlA_Sums_multiply_137 (i := 7) rfl) ?_
            refine zw_getF (pc := 57) f_Sums_20 rfl ((hf_N2_.w hW).kr (o := 23) (by decide)) ((hf_N2_.w hW).lr (o := 23) (s := 2) (r := 26) (by decide)) (zdal_p dlA_Sums_multiply_137 (i := 8) rfl) ?_
            refine zw_iload_n (pc := 60) (n := 3) (x := Int32.ofInt u1_) rfl (zdal_p dlA_Sums_multiply_137 (i := 9) rfl) ?_
            refine zw_lload (pc := 61) (i := 4) (x := Int64.ofInt v9_) rfl (zdal_p dlA_Sums_multiply_137 (i := 10) rfl) ?_
            refine zw_lload (pc := 63) (i := 6) (x := Int64.ofInt v11_) rfl (zdal_p dlA_Sums_multiply_137 (i := 11) rfl) ?_
            refine zr_lmul (pc := 65) (zdal_p dlA_Sums_multiply_137 (i := 12) rfl) ?_
            refine zr_nmJ (fun v23_ hv23_ => ?_)
            obtain ⟨hv23_a, hv23_b⟩ := hv23_
            refine zk_stGJ hf_N2_.x (pc := 66) (o := 27) (by decide) l_Sums_31 ((hf_N2_.w hW).kr (o := 26) (by decide)) ((hf_N2_.w hW).lr (o := 26) (s := 0) (r := 27) (by decide)) ((hf_N2_.w hW).rr (o := 27) (t := 2) (n := 27) (by decide)) (by decide) ⟨by (exact hu1_a), by (exact hu1_b)⟩ (by decide) (Nat.le_of_ble_eq_true rfl) (zdal_p dlA_Sums_multiply_137 (i := 13) rfl) (fun N24_ hsN24_ => ?_)
            have hf_N24_ : zFc d_ [] [] [] [25, 27] Mz N24_ := hf_N2_.tr hsN24_ (by decide) (by decide) (by decide) (by decide)
            have hb0_N24_ : zFc d_ [] [] [] [27] Mz N24_ := hs3_.tr hsN24_ (by decide) (by decide) (by decide) (by decide)
            refine zr_iinc (pc := 69) (i := 3) (a := u1_) (n := 1) (L2 := [some (.ref (d_ + 23)), some (.int (Int32.ofInt a0_)), some (.int (Int32.ofInt a1_)), some (.int (Int32.ofInt (u1_ + 1))), some (.long (Int64.ofInt v9_)), none, some (.long (Int64.ofInt v11_)), none]) rfl (by decide) rfl (zdal_p dlA_Sums_multiply_137 (i := 14) rfl) ?_
            obtain ⟨v25_, hv25_a, hv25_b, hv25_e, hv25_d⟩ := zk_gen (u1_ + 1)
            rw [hv25_e]
            refine zw_goto (pc := 72) (tgt := 2) (by decide) (zdal_p dlA_Sums_multiply_137 (i := 15) rfl) ?_
            refine zW_le [some (.ref (d_ + 23)), some (.int (Int32.ofInt a0_)), some (.int (Int32.ofInt a1_)), some (.int (Int32.ofInt v25_)), none, none, none, none] (⟨rfl, rfl, rfl, rfl, trivial⟩) ?_
            exact ih_2 v25_ hv25_a hv25_b N24_ hb0_N24_ (show 0 ≤ v25_ by first | with_reducible assumption | assumption | omega) (by omega)
          · skip
            refine zw_iconst (pc := 54) (v := Int32.ofInt 0) (by decide) (zdal_p dlA_Sums_multiply_137 (i := 5) rfl) ?_
            exact zk_iret (pc := 55) (ty := .boolean) rfl (z_narB (by (decide))) ⟨by (decide), by (decide)⟩ hf_N2_ (show (((0 : Int)) = 0 ∨ ((0 : Int)) = 1) by first | with_reducible assumption | (decide) | assumption) (zdal_p dlA_Sums_multiply_137 (i := 6) rfl)
  exact lp_2 _ 0 (by decide) (by decide) Mz zFc.rf (show 0 ≤ (0 : Int) by first | with_reducible assumption | (decide) | assumption) (Nat.lt_succ_self _)
set_option maxHeartbeats 4000000 in
theorem u_Calc_settleX (l : Launch) (d_ : Nat) (Mz : zMem) (hW : zKW d_ Mz) (a0_ : Int) (ha0_a : -2147483648 ≤ a0_) (ha0_b : a0_ < 2147483648) (ha0_z : a0_ = 0 ∨ a0_ = 1) : zC l m_Calc_settle 0 0 [.ref (d_ + 33), .int (Int32.ofInt a0_)] Mz (zqcV d_ [] [] [(33, 6)] [25] Mz (fun N => True)) := by
  refine zC_of (L0 := [some (.ref (d_ + 33)), some (.int (Int32.ofInt a0_))]) md_Calc_settle (Nat.le_of_ble_eq_true rfl) rfl ?_ zQ0
  have hf : zFc d_ [] [] [(33, 6)] [25] Mz Mz := zFc.rf
  refine zw_iload_n (pc := 0) (n := 1) (x := Int32.ofInt a0_) rfl (zdal_p dlA_Calc_settle_147 (i := 0) rfl) ?_
  refine zr_if_ne (pc := 1) (tgt := 22) ⟨ha0_a, ha0_b⟩ (by decide) (zdal_p dlA_Calc_settle_147 (i := 1) rfl) (fun hc_1 => ?_) (fun hc_1 => ?_)
  · skip
    exact zk_vret (pc := 22) rfl hf trivial (zdal_p dlA_Calc_settle_147 (i := 12) rfl)
  · skip
    refine zw_aload_n (pc := 4) (n := 0) (x := (d_ + 33)) rfl (zdal_p dlA_Calc_settle_147 (i := 2) rfl) ?_
    refine zw_iconst (pc := 5) (v := Int32.ofInt 1) (by decide) (zdal_p dlA_Calc_settle_147 (i := 3) rfl) ?_
    refine zk_putR (pc := 6) (o := 33) (by decide) f_Calc_37 rfl rfl ((hf.w hW).kr (o := 33) (by decide)) ⟨by (decide), by (decide)⟩ (z_narB (by (decide))) (z_fitB (by (decide))) (zdal_p dlA_Calc_settle_147 (i := 4) rfl) (fun N1_ hsN1_ hvN1_ => ?_)
    have hf_N1_ : zFc d_ [] [] [(33, 6)] [25] Mz N1_ := hf.tr hsN1_ (by decide) (by decide) (by decide) (by decide)
    refine zw_aload_n (pc := 9) (n := 0) (x := (d_ + 33)) rfl (zdal_p dlA_Calc_settle_147 (i := 5) rfl) ?_
    refine zw_getF (pc := 10) f_Calc_20 rfl ((hf_N1_.w hW).kr (o := 33) (by decide)) ((hf_N1_.w hW).lr (o := 33) (s := 0) (r := 23) (by decide)) (zdal_p dlA_Calc_settle_147 (i := 6) rfl) ?_
    refine zw_aload_n (pc := 13) (n := 0) (x := (d_ + 33)) rfl (zdal_p dlA_Calc_settle_147 (i := 7) rfl) ?_
    refine zk_callV hf_N1_.x (pc := 14) [] [.ref (d_ + 23)] l_Calc_43 (u_Calc_topShelfX l d_ N1_ (hf_N1_.w hW) ) rfl rfl ((hf_N1_.w hW).kr (o := 33) (by decide)) (by decide) (by decide) (Nat.le_of_ble_eq_true rfl) (zdal_p dlA_Calc_settle_147 (i := 8) rfl) ?_
    rintro _ N2_ ⟨v3_, rfl, ⟨hv3_a, hv3_b⟩, hsN2_, -⟩
    obtain rfl := hsN2_.eq.symm
    show zW l m_Calc_settle (zn Mz + 0, zw Mz + 0) N1_ 17 [some (.ref (d_ + 33)), some (.int (Int32.ofInt a0_))] [.int (Int32.ofInt v3_), .ref (d_ + 23)] _
    refine zw_iconst (pc := 17) (v := Int32.ofInt (-1)) (by decide) (zdal_p dlA_Calc_settle_147 (i := 9) rfl) ?_
    refine zw_lconst (pc := 18) (v := Int64.ofInt 0) (by decide) (zdal_p dlA_Calc_settle_147 (i := 10) rfl) ?_
    refine zk_callV hf_N1_.x (pc := 19) [.int (Int32.ofInt v3_), .int (Int32.ofInt ((-1))), .long (Int64.ofInt 0)] [] l_Calc_61 (u_Sums_putSingleX l d_ N1_ (hf_N1_.w hW) v3_ hv3_a hv3_b ((-1)) (by decide) (by decide) 0 (by decide) (by decide)) rfl rfl ((hf_N1_.w hW).kr (o := 23) (by decide)) (by decide) (by decide) (Nat.le_of_ble_eq_true rfl) (zdal_p dlA_Calc_settle_147 (i := 11) rfl) ?_
    rintro _ N4_ ⟨rfl, hsN4_, -⟩
    have hf_N4_ : zFc d_ [] [] [(33, 6)] [25] Mz N4_ := hf_N1_.tr hsN4_ (by decide) (by decide) (by decide) (by decide)
    show zW l m_Calc_settle (zn Mz + 0, zw Mz + 0) N4_ 22 [some (.ref (d_ + 33)), some (.int (Int32.ofInt a0_))] [] _
    exact zk_vret (pc := 22) rfl hf_N4_ trivial (zdal_p dlA_Calc_settle_147 (i := 12) rfl)
set_option maxHeartbeats 4000000 in
theorem u_Calc_raiseX (l : Launch) (d_ : Nat) (Mz : zMem) (hW : zKW d_ Mz) (a0_ : Int) (ha0_a : -2147483648 ≤ a0_) (ha0_b : a0_ < 2147483648) : zC l m_Calc_raise 0 0 [.ref (d_ + 33), .int (Int32.ofInt a0_)] Mz (zqcV d_ [] [] [(33, 6)] [25, 27] Mz (fun N => True)) := by
  refine zC_of (L0 := [some (.ref (d_ + 33)), some (.int (Int32.ofInt a0_)), none, none, none]) md_Calc_raise (Nat.le_of_ble_eq_true rfl) rfl ?_ zQ0
  have hf : zFc d_ [] [] [(33, 6)] [25, 27] Mz Mz := zFc.rf
  refine zw_aload_n (pc := 0) (n := 0) (x := (d_ + 33)) rfl (zdal_p dlA_Calc_raise_134 (i := 0) rfl) ?_
  refine zk_callV hf.x (pc := 1) [] [] l_Calc_43 (u_Calc_topShelfX l d_ Mz (hf.w hW) ) rfl rfl ((hf.w hW).kr (o := 33) (by decide)) (by decide) (by decide) (Nat.le_of_ble_eq_true rfl) (zdal_p dlA_Calc_raise_134 (i := 1) rfl) ?_
  rintro _ N1_ ⟨v2_, rfl, ⟨hv2_a, hv2_b⟩, hsN1_, -⟩
  obtain rfl := hsN1_.eq.symm
  show zW l m_Calc_raise (zn Mz + 0, zw Mz + 0) Mz 4 [some (.ref (d_ + 33)), some (.int (Int32.ofInt a0_)), none, none, none] [.int (Int32.ofInt v2_)] _
  refine zw_istore_n (pc := 4) (i := 2) (L2 := [some (.ref (d_ + 33)), some (.int (Int32.ofInt a0_)), some (.int (Int32.ofInt v2_)), none, none]) rfl (by decide) rfl (zdal_p dlA_Calc_raise_134 (i := 2) rfl) ?_
  refine zw_aload_n (pc := 5) (n := 0) (x := (d_ + 33)) rfl (zdal_p dlA_Calc_raise_134 (i := 3) rfl) ?_
  refine zw_getF (pc := 6) f_Calc_20 rfl ((hf.w hW).kr (o := 33) (by decide)) ((hf.w hW).lr (o := 33) (s := 0) (r := 23) (by decide)) (zdal_p dlA_Calc_raise_134 (i := 4) rfl) ?_
  refine zw_iload_n (pc := 9) (n := 2) (x := Int32.ofInt v2_) rfl (zdal_p dlA_Calc_raise_134 (i := 5) rfl) ?_
  refine zw_bipush (pc := 10) (v := Int32.ofInt 39) (by decide) (zdal_p dlA_Calc_raise_134 (i := 6) rfl) ?_
  refine zk_callV hf.x (pc := 12) [.int (Int32.ofInt v2_), .int (Int32.ofInt 39)] [] l_Calc_65 (u_Sums_copyX l d_ Mz (hf.w hW) v2_ hv2_a hv2_b 39 (by decide) (by decide)) rfl rfl ((hf.w hW).kr (o := 23) (by decide)) (by decide) (by decide) (Nat.le_of_ble_eq_true rfl) (zdal_p dlA_Calc_raise_134 (i := 7) rfl) ?_
  rintro _ N3_ ⟨rfl, hsN3_, -⟩
  have hf_N3_ : zFc d_ [] [] [(33, 6)] [25, 27] Mz N3_ := hf.tr hsN3_ (by decide) (by decide) (by decide) (by decide)
  show zW l m_Calc_raise (zn Mz + 0, zw Mz + 0) N3_ 15 [some (.ref (d_ + 33)), some (.int (Int32.ofInt a0_)), some (.int (Int32.ofInt v2_)), none, none] [] _
  refine zw_aload_n (pc := 15) (n := 0) (x := (d_ + 33)) rfl (zdal_p dlA_Calc_raise_134 (i := 8) rfl) ?_
  refine zw_getF (pc := 16) f_Calc_20 rfl ((hf_N3_.w hW).kr (o := 33) (by decide)) ((hf_N3_.w hW).lr (o := 33) (s := 0) (r := 23) (by decide)) (zdal_p dlA_Calc_raise_134 (i := 9) rfl) ?_
  refine zw_iload_n (pc := 19) (n := 2) (x := Int32.ofInt v2_) rfl (zdal_p dlA_Calc_raise_134 (i := 10) rfl) ?_
  refine zw_aload_n (pc := 20) (n := 0) (x := (d_ + 33)) rfl (zdal_p dlA_Calc_raise_134 (i := 11) rfl) ?_
  refine zw_getF (pc := 21) f_Calc_20 rfl ((hf_N3_.w hW).kr (o := 33) (by decide)) ((hf_N3_.w hW).lr (o := 33) (s := 0) (r := 23) (by decide)) (zdal_p dlA_Calc_raise_134 (i := 12) rfl) ?_
  refine zw_getF (pc := 24) f_Calc_68 rfl ((hf_N3_.w hW).kr (o := 23) (by decide)) ((hf_N3_.w hW).lr (o := 23) (s := 0) (r := 12) (by decide)) (zdal_p dlA_Calc_raise_134 (i := 13) rfl) ?_
  refine zk_getI (pc := 27) f_Calc_72 rfl ((hf_N3_.w hW).kr (o := 12) (by decide)) (zdal_p dlA_Calc_raise_134 (i := 14) rfl) ?_
  rw [hf_N3_.e (by decide)]
  have hr5_ := ze_r Mz (d_ + 12) 7
  refine zw_iconst (pc := 30) (v := Int32.ofInt 1) (by decide) (zdal_p dlA_Calc_raise_134 (i := 15) rfl) ?_
  refine zr_isub (pc := 31) (zdal_p dlA_Calc_raise_134 (i := 16) rfl) ?_
  refine zr_nmI (fun v6_ hv6_ => ?_)
  obtain ⟨hv6_a, hv6_b⟩ := hv6_
  refine zw_lconst (pc := 32) (v := Int64.ofInt 1) (by decide) (zdal_p dlA_Calc_raise_134 (i := 17) rfl) ?_
  refine zk_callV hf_N3_.x (pc := 33) [.int (Int32.ofInt v2_), .int (Int32.ofInt v6_), .long (Int64.ofInt 1)] [] l_Calc_61 (u_Sums_putSingleX l d_ N3_ (hf_N3_.w hW) v2_ hv2_a hv2_b v6_ hv6_a hv6_b 1 (by decide) (by decide)) rfl rfl ((hf_N3_.w hW).kr (o := 23) (by decide)) (by decide) (by decide) (Nat.le_of_ble_eq_true rfl) (zdal_p dlA_Calc_raise_134 (i := 18) rfl) ?_
  rintro _ N7_ ⟨rfl, hsN7_, -⟩
  have hf_N7_ : zFc d_ [] [] [(33, 6)] [25, 27] Mz N7_ := hf_N3_.tr hsN7_ (by decide) (by decide) (by decide) (by decide)
  show zW l m_Calc_raise (zn Mz + 0, zw Mz + 0) N7_ 36 [some (.ref (d_ + 33)), some (.int (Int32.ofInt a0_)), some (.int (Int32.ofInt v2_)), none, none] [] _
  refine zw_iconst (pc := 36) (v := Int32.ofInt 0) (by decide) (zdal_p dlA_Calc_raise_134 (i := 19) rfl) ?_
  refine zw_istore_n (pc := 37) (i := 3) (L2 := [some (.ref (d_ + 33)), some (.int (Int32.ofInt a0_)), some (.int (Int32.ofInt v2_)), some (.int (Int32.ofInt 0)), none]) rfl (by decide) rfl (zdal_p dlA_Calc_raise_134 (i := 20) rfl) ?_
  have lp_38 : ∀ (n : Nat) (u9_ : Int) (hu9_a : -2147483648 ≤ u9_) (hu9_b : u9_ < 2147483648) (N10_ : zMem) (hs11_ : zFc d_ [] [] [(33, 6)] [25, 27] N7_ N10_) (i12_ : 0 ≤ u9_), (a0_ - u9_).toNat < n → zW l m_Calc_raise (zn Mz + 0, zw Mz + 0) N10_ 38 [some (.ref (d_ + 33)), some (.int (Int32.ofInt a0_)), some (.int (Int32.ofInt v2_)), some (.int (Int32.ofInt u9_)), none] [] (zqcV d_ [] [] [(33, 6)] [25, 27] Mz (fun N => True)) := by
    intro n
    induction n with
    | zero =>
      intro u9_ hu9_a hu9_b N10_ hs11_ i12_ h0
      exact absurd h0 (Nat.not_lt_zero _)
    | succ n ih_38 =>
      intro u9_ hu9_a hu9_b N10_ hs11_ i12_ hlt_38
      have hf_N10_ : zFc d_ [] [] [(33, 6)] [25, 27] Mz N10_ := hf_N7_.tr hs11_ (by decide) (by decide) (by decide) (by decide)
      refine zw_iload_n (pc := 38) (n := 3) (x := Int32.ofInt u9_) rfl (zdal_p dlA_Calc_raise_134 (i := 21) rfl) ?_
      refine zw_iload_n (pc := 39) (n := 1) (x := Int32.ofInt a0_) rfl (zdal_p dlA_Calc_raise_134 (i := 22) rfl) ?_
      refine zr_icmp_ge (pc := 40) (tgt := 92) ⟨hu9_a, hu9_b⟩ ⟨ha0_a, ha0_b⟩ (by decide) (zdal_p dlA_Calc_raise_134 (i := 23) rfl) (fun hc_40 => ?_) (fun hc_40 => ?_)
      · skip
        exact zk_vret (pc := 92) rfl hf_N10_ trivial (zdal_p dlA_Calc_raise_135 (i := 23) rfl)
      · skip
        refine zw_iload_n (pc := 43) (n := 3) (x := Int32.ofInt u9_) rfl (zdal_p dlA_Calc_raise_135 (i := 0) rfl) ?_
        refine zw_bipush (pc := 44) (v := Int32.ofInt 9) (by decide) (zdal_p dlA_Calc_raise_135 (i := 1) rfl) ?_
        refine zr_icmp_ge (pc := 46) (tgt := 92) ⟨hu9_a, hu9_b⟩ ⟨(by decide), (by decide)⟩ (by decide) (zdal_p dlA_Calc_raise_135 (i := 2) rfl) (fun hc_46 => ?_) (fun hc_46 => ?_)
        · skip
          exact zk_vret (pc := 92) rfl hf_N10_ trivial (zdal_p dlA_Calc_raise_135 (i := 23) rfl)
        · skip
          refine zw_aload_n (pc := 49) (n := 0) (x := (d_ + 33)) rfl (zdal_p dlA_Calc_raise_135 (i := 3) rfl) ?_
          refine zw_getF (pc := 50) f_Calc_20 rfl ((hf_N10_.w hW).kr (o := 33) (by decide)) ((hf_N10_.w hW).lr (o := 33) (s := 0) (r := 23) (by decide)) (zdal_p dlA_Calc_raise_135 (i := 4) rfl) ?_
          refine zw_iload_n (pc := 53) (n := 2) (x := Int32.ofInt v2_) rfl (zdal_p dlA_Calc_raise_135 (i := 5) rfl) ?_
          refine zw_bipush (pc := 54) (v := Int32.ofInt 39) (by decide) (zdal_p dlA_Calc_raise_135 (i := 6) rfl) ?_
          refine zk_callV hf_N10_.x (pc := 56) [.int (Int32.ofInt v2_), .int (Int32.ofInt 39)] [] l_Calc_77 (u_Sums_multiplyX l d_ N10_ (hf_N10_.w hW) v2_ hv2_a hv2_b 39 (by decide) (by decide)) rfl rfl ((hf_N10_.w hW).kr (o := 23) (by decide)) (by decide) (by decide) (Nat.le_of_ble_eq_true rfl) (zdal_p dlA_Calc_raise_135 (i := 7) rfl) ?_
          rintro _ N13_ ⟨v14_, rfl, ⟨hv14_a, hv14_b⟩, hsN13_, hp0_N13_⟩
          replace hp0_N13_ : (v14_ = 0 ∨ v14_ = 1) := hp0_N13_
          have hf_N13_ : zFc d_ [] [] [(33, 6)] [25, 27] Mz N13_ := hf_N10_.tr hsN13_ (by decide) (by decide) (by decide) (by decide)
          have hb0_N13_ : zFc d_ [] [] [(33, 6)] [25, 27] N7_ N13_ := hs11_.tr hsN13_ (by decide) (by decide) (by decide) (by decide)
          show zW l m_Calc_raise (zn Mz + 0, zw Mz + 0) N13_ 59 [some (.ref (d_ + 33)), some (.int (Int32.ofInt a0_)), some (.int (Int32.ofInt v2_)), some (.int (Int32.ofInt u9_)), none] [.int (Int32.ofInt v14_)] _
          refine zw_istore (pc := 59) (i := 4) (L2 := [some (.ref (d_ + 33)), some (.int (Int32.ofInt a0_)), some (.int (Int32.ofInt v2_)), some (.int (Int32.ofInt u9_)), some (.int (Int32.ofInt v14_))]) (by decide) rfl (zdal_p dlA_Calc_raise_135 (i := 8) rfl) ?_
          refine zw_aload_n (pc := 61) (n := 0) (x := (d_ + 33)) rfl (zdal_p dlA_Calc_raise_135 (i := 9) rfl) ?_
          refine zw_iload (pc := 62) (i := 4) (x := Int32.ofInt v14_) rfl (zdal_p dlA_Calc_raise_135 (i := 10) rfl) ?_
          refine zr_if_eq (pc := 64) (tgt := 82) ⟨hv14_a, hv14_b⟩ (by decide) (zdal_p dlA_Calc_raise_135 (i := 11) rfl) (fun hc_64 => ?_) (fun hc_64 => ?_)
          · skip
            refine zw_iconst (pc := 82) (v := Int32.ofInt 0) (by decide) (zdal_p dlA_Calc_raise_135 (i := 19) rfl) ?_
            refine zk_callV hf_N13_.x (pc := 83) [.int (Int32.ofInt 0)] [] l_Calc_85 (u_Calc_settleX l d_ N13_ (hf_N13_.w hW) 0 (by decide) (by decide) (by (decide))) rfl rfl ((hf_N13_.w hW).kr (o := 33) (by decide)) (by decide) (by decide) (Nat.le_of_ble_eq_true rfl) d_Calc_raise_83 ?_
            rintro _ N15_ ⟨rfl, hsN15_, -⟩
            have hf_N15_ : zFc d_ [] [] [(33, 6)] [25, 27] Mz N15_ := hf_N13_.tr hsN15_ (by decide) (by decide) (by decide) (by decide)
            have hb0_N15_ : zFc d_ [] [] [(33, 6)] [25, 27] N7_ N15_ := hb0_N13_.tr hsN15_ (by decide) (by decide) (by decide) (by decide)
            show zW l m_Calc_raise (zn Mz + 0, zw Mz + 0) N15_ 86 [some (.ref (d_ + 33)), some (.int (Int32.ofInt a0_)), some (.int (Int32.ofInt v2_)), some (.int (Int32.ofInt u9_)), some (.int (Int32.ofInt v14_))] [] _
            refine zr_iinc (pc := 86) (i := 3) (a := u9_) (n := 1) (L2 := [some (.ref (d_ + 33)), some (.int (Int32.ofInt a0_)), some (.int (Int32.ofInt v2_)), some (.int (Int32.ofInt (u9_ + 1))), some (.int (Int32.ofInt v14_))]) rfl (by decide) rfl d_Calc_raise_86 ?_
            obtain ⟨v17_, hv17_a, hv17_b, hv17_e, hv17_d⟩ := zk_gen (u9_ + 1)
            rw [hv17_e]
            refine zw_goto (pc := 89) (tgt := 38) (by decide) d_Calc_raise_89 ?_
            refine zW_le [some (.ref (d_ + 33)), some (.int (Int32.ofInt a0_)), some (.int (Int32.ofInt v2_)), some (.int (Int32.ofInt v17_)), none] (⟨rfl, rfl, rfl, rfl, trivial⟩) ?_
            exact ih_38 v17_ hv17_a hv17_b N15_ hb0_N15_ (show 0 ≤ v17_ by first | with_reducible assumption | assumption | omega) (by omega)
          · skip
            refine zw_aload_n (pc := 67) (n := 0) (x := (d_ + 33)) rfl (zdal_p dlA_Calc_raise_135 (i := 12) rfl) ?_
            refine zw_getF (pc := 68) f_Calc_20 rfl ((hf_N13_.w hW).kr (o := 33) (by decide)) ((hf_N13_.w hW).lr (o := 33) (s := 0) (r := 23) (by decide)) (zdal_p dlA_Calc_raise_135 (i := 13) rfl) ?_
            refine zw_iload_n (pc := 71) (n := 2) (x := Int32.ofInt v2_) rfl (zdal_p dlA_Calc_raise_135 (i := 14) rfl) ?_
            refine zk_callV hf_N13_.x (pc := 72) [.int (Int32.ofInt v2_)] [.ref (d_ + 33)] l_Calc_81 (u_Sums_isInBoundsX l d_ N13_ (hf_N13_.w hW) v2_ hv2_a hv2_b) rfl rfl ((hf_N13_.w hW).kr (o := 23) (by decide)) (by decide) (by decide) (Nat.le_of_ble_eq_true rfl) (zdal_p dlA_Calc_raise_135 (i := 15) rfl) ?_
            rintro _ N18_ ⟨v19_, rfl, ⟨hv19_a, hv19_b⟩, hsN18_, hp0_N18_⟩
            obtain rfl := hsN18_.eq.symm
            replace hp0_N18_ : (v19_ = 0 ∨ v19_ = 1) := hp0_N18_
            show zW l m_Calc_raise (zn Mz + 0, zw Mz + 0) N13_ 75 [some (.ref (d_ + 33)), some (.int (Int32.ofInt a0_)), some (.int (Int32.ofInt v2_)), some (.int (Int32.ofInt u9_)), some (.int (Int32.ofInt v14_))] [.int (Int32.ofInt v19_), .ref (d_ + 33)] _
            refine zr_if_eq (pc := 75) (tgt := 82) ⟨hv19_a, hv19_b⟩ (by decide) (zdal_p dlA_Calc_raise_135 (i := 16) rfl) (fun hc_75 => ?_) (fun hc_75 => ?_)
            · skip
              refine zw_iconst (pc := 82) (v := Int32.ofInt 0) (by decide) (zdal_p dlA_Calc_raise_135 (i := 19) rfl) ?_
              refine zk_callV hf_N13_.x (pc := 83) [.int (Int32.ofInt 0)] [] l_Calc_85 (u_Calc_settleX l d_ N13_ (hf_N13_.w hW) 0 (by decide) (by decide) (by (decide))) rfl rfl ((hf_N13_.w hW).kr (o := 33) (by decide)) (by decide) (by decide) (Nat.le_of_ble_eq_true rfl) d_Calc_raise_83 ?_
              rintro _ N20_ ⟨rfl, hsN20_, -⟩
              have hf_N20_ : zFc d_ [] [] [(33, 6)] [25, 27] Mz N20_ := hf_N13_.tr hsN20_ (by decide) (by decide) (by decide) (by decide)
              have hb0_N20_ : zFc d_ [] [] [(33, 6)] [25, 27] N7_ N20_ := hb0_N13_.tr hsN20_ (by decide) (by decide) (by decide) (by decide)
              show zW l m_Calc_raise (zn Mz + 0, zw Mz + 0) N20_ 86 [some (.ref (d_ + 33)), some (.int (Int32.ofInt a0_)), some (.int (Int32.ofInt v2_)), some (.int (Int32.ofInt u9_)), some (.int (Int32.ofInt v14_))] [] _
              refine zr_iinc (pc := 86) (i := 3) (a := u9_) (n := 1) (L2 := [some (.ref (d_ + 33)), some (.int (Int32.ofInt a0_)), some (.int (Int32.ofInt v2_)), some (.int (Int32.ofInt (u9_ + 1))), some (.int (Int32.ofInt v14_))]) rfl (by decide) rfl d_Calc_raise_86 ?_
              obtain ⟨v22_, hv22_a, hv22_b, hv22_e, hv22_d⟩ := zk_gen (u9_ + 1)
              rw [hv22_e]
              refine zw_goto (pc := 89) (tgt := 38) (by decide) d_Calc_raise_89 ?_
              refine zW_le [some (.ref (d_ + 33)), some (.int (Int32.ofInt a0_)), some (.int (Int32.ofInt v2_)), some (.int (Int32.ofInt v22_)), none] (⟨rfl, rfl, rfl, rfl, trivial⟩) ?_
              exact ih_38 v22_ hv22_a hv22_b N20_ hb0_N20_ (show 0 ≤ v22_ by first | with_reducible assumption | assumption | omega) (by omega)
            · skip
              refine zw_iconst (pc := 78) (v := Int32.ofInt 1) (by decide) (zdal_p dlA_Calc_raise_135 (i := 17) rfl) ?_
              refine zw_goto (pc := 79) (tgt := 83) (by decide) (zdal_p dlA_Calc_raise_135 (i := 18) rfl) ?_
              refine zk_callV hf_N13_.x (pc := 83) [.int (Int32.ofInt 1)] [] l_Calc_85 (u_Calc_settleX l d_ N13_ (hf_N13_.w hW) 1 (by decide) (by decide) (by (decide))) rfl rfl ((hf_N13_.w hW).kr (o := 33) (by decide)) (by decide) (by decide) (Nat.le_of_ble_eq_true rfl) d_Calc_raise_83 ?_
              rintro _ N23_ ⟨rfl, hsN23_, -⟩
              have hf_N23_ : zFc d_ [] [] [(33, 6)] [25, 27] Mz N23_ := hf_N13_.tr hsN23_ (by decide) (by decide) (by decide) (by decide)
              have hb0_N23_ : zFc d_ [] [] [(33, 6)] [25, 27] N7_ N23_ := hb0_N13_.tr hsN23_ (by decide) (by decide) (by decide) (by decide)
              show zW l m_Calc_raise (zn Mz + 0, zw Mz + 0) N23_ 86 [some (.ref (d_ + 33)), some (.int (Int32.ofInt a0_)), some (.int (Int32.ofInt v2_)), some (.int (Int32.ofInt u9_)), some (.int (Int32.ofInt v14_))] [] _
              refine zr_iinc (pc := 86) (i := 3) (a := u9_) (n := 1) (L2 := [some (.ref (d_ + 33)), some (.int (Int32.ofInt a0_)), some (.int (Int32.ofInt v2_)), some (.int (Int32.ofInt (u9_ + 1))), some (.int (Int32.ofInt v14_))]) rfl (by decide) rfl d_Calc_raise_86 ?_
              obtain ⟨v25_, hv25_a, hv25_b, hv25_e, hv25_d⟩ := zk_gen (u9_ + 1)
              rw [hv25_e]
              refine zw_goto (pc := 89) (tgt := 38) (by decide) d_Calc_raise_89 ?_
              refine zW_le [some (.ref (d_ + 33)), some (.int (Int32.ofInt a0_)), some (.int (Int32.ofInt v2_)), some (.int (Int32.ofInt v25_)), none] (⟨rfl, rfl, rfl, rfl, trivial⟩) ?_
              exact ih_38 v25_ hv25_a hv25_b N23_ hb0_N23_ (show 0 ≤ v25_ by first | with_reducible assumption | assumption | omega) (by omega)
  exact lp_38 _ 0 (by decide) (by decide) N7_ zFc.rf (show 0 ≤ (0 : Int) by first | with_reducible assumption | (decide) | assumption) (Nat.lt_succ_self _)
set_option maxHeartbeats 4000000 in
theorem u_Calc_topSignX (l : Launch) (d_ : Nat) (Mz : zMem) (hW : zKW d_ Mz) : zC l m_Calc_topSign 0 0 [.ref (d_ + 33)] Mz (zqcI d_ [] [] [] [] Mz (fun v N => True)) := by
  refine zC_of (L0 := [some (.ref (d_ + 33))]) md_Calc_topSign (Nat.le_of_ble_eq_true rfl) rfl ?_ zQ0
  have hf : zFc d_ [] [] [] [] Mz Mz := zFc.rf
  refine zw_aload_n (pc := 0) (n := 0) (x := (d_ + 33)) rfl (zdal_p dlA_Calc_topSign_150 (i := 0) rfl) ?_
  refine zw_getF (pc := 1) f_Calc_14 rfl ((hf.w hW).kr (o := 33) (by decide)) ((hf.w hW).lr (o := 33) (s := 1) (r := 34) (by decide)) (zdal_p dlA_Calc_topSign_150 (i := 1) rfl) ?_
  refine zw_aload_n (pc := 4) (n := 0) (x := (d_ + 33)) rfl (zdal_p dlA_Calc_topSign_150 (i := 2) rfl) ?_
  refine zk_getI (pc := 5) f_Calc_24 rfl ((hf.w hW).kr (o := 33) (by decide)) (zdal_p dlA_Calc_topSign_150 (i := 3) rfl) ?_
  have hr1_ := ze_r Mz (d_ + 33) 2
  refine zw_iconst (pc := 8) (v := Int32.ofInt 1) (by decide) (zdal_p dlA_Calc_topSign_150 (i := 4) rfl) ?_
  refine zr_isub (pc := 9) (zdal_p dlA_Calc_topSign_150 (i := 5) rfl) ?_
  refine zr_nmI (fun v2_ hv2_ => ?_)
  obtain ⟨hv2_a, hv2_b⟩ := hv2_
  refine zk_atG hf.x (pc := 10) l_Calc_51 ((hf.w hW).kr (o := 34) (by decide)) ((hf.w hW).lr (o := 34) (s := 0) (r := 35) (by decide)) ((hf.w hW).rr (o := 35) (t := 1) (n := 24) (by decide)) (by decide) ⟨by (exact hv2_a), by (exact hv2_b)⟩ (by decide) (Nat.le_of_ble_eq_true rfl) (zdal_p dlA_Calc_topSign_150 (i := 6) rfl) (fun v3_ hv3_ hv3_a hv3_b => ?_)
  clear hv3_
  exact zk_iret (pc := 13) (ty := .int) rfl rfl ⟨by (exact hv3_a), by (exact hv3_b)⟩ hf trivial (zdal_p dlA_Calc_topSign_150 (i := 7) rfl)
set_option maxHeartbeats 4000000 in
theorem u_Sums_putNegativeX (l : Launch) (d_ : Nat) (Mz : zMem) (hW : zKW d_ Mz) (a0_ : Int) (ha0_a : -2147483648 ≤ a0_) (ha0_b : a0_ < 2147483648) : zC l m_Sums_putNegative 0 0 [.ref (d_ + 23), .int (Int32.ofInt a0_)] Mz (zqcV d_ [] [] [] [25] Mz (fun N => True)) := by
  refine zC_of (L0 := [some (.ref (d_ + 23)), some (.int (Int32.ofInt a0_)), none]) md_Sums_putNegative (Nat.le_of_ble_eq_true rfl) rfl ?_ zQ0
  have hf : zFc d_ [] [] [] [25] Mz Mz := zFc.rf
  refine zw_iconst (pc := 0) (v := Int32.ofInt 0) (by decide) (zdal_p dlA_Sums_putNegative_151 (i := 0) rfl) ?_
  refine zw_istore_n (pc := 1) (i := 2) (L2 := [some (.ref (d_ + 23)), some (.int (Int32.ofInt a0_)), some (.int (Int32.ofInt 0))]) rfl (by decide) rfl (zdal_p dlA_Sums_putNegative_151 (i := 1) rfl) ?_
  have lp_2 : ∀ (n : Nat) (u1_ : Int) (hu1_a : -2147483648 ≤ u1_) (hu1_b : u1_ < 2147483648) (N2_ : zMem) (hs3_ : zFc d_ [] [] [] [25] Mz N2_) (i4_ : 0 ≤ u1_), (ze Mz (d_ + 12) 7 - u1_).toNat < n → zW l m_Sums_putNegative (zn Mz + 0, zw Mz + 0) N2_ 2 [some (.ref (d_ + 23)), some (.int (Int32.ofInt a0_)), some (.int (Int32.ofInt u1_))] [] (zqcV d_ [] [] [] [25] Mz (fun N => True)) := by
    intro n
    induction n with
    | zero =>
      intro u1_ hu1_a hu1_b N2_ hs3_ i4_ h0
      exact absurd h0 (Nat.not_lt_zero _)
    | succ n ih_2 =>
      intro u1_ hu1_a hu1_b N2_ hs3_ i4_ hlt_2
      have hf_N2_ : zFc d_ [] [] [] [25] Mz N2_ := hf.tr hs3_ (by decide) (by decide) (by decide) (by decide)
      refine zw_iload_n (pc := 2) (n := 2) (x := Int32.ofInt u1_) rfl (zdal_p dlA_Sums_putNegative_151 (i := 2) rfl) ?_
      refine zw_aload_n (pc := 3) (n := 0) (x := (d_ + 23)) rfl (zdal_p dlA_Sums_putNegative_151 (i := 3) rfl) ?_
      refine zw_getF (pc := 4) f_Sums_23 rfl ((hf_N2_.w hW).kr (o := 23) (by decide)) ((hf_N2_.w hW).lr (o := 23) (s := 0) (r := 12) (by decide)) (zdal_p dlA_Sums_putNegative_151 (i := 4) rfl) ?_
      refine zk_getI (pc := 7) f_Sums_35 rfl ((hf_N2_.w hW).kr (o := 12) (by decide)) (zdal_p dlA_Sums_putNegative_151 (i := 5) rfl) ?_
      rw [hf_N2_.e (by decide)]
      have hr5_ := ze_r Mz (d_ + 12) 7
      refine zr_icmp_ge (pc := 10) (tgt := 32) ⟨hu1_a, hu1_b⟩ ⟨(ze_r Mz (d_ + 12) 7).1, (ze_r Mz (d_ + 12) 7).2⟩ (by decide) (zdal_p dlA_Sums_putNegative_151 (i := 6) rfl) (fun hc_10 => ?_) (fun hc_10 => ?_)
      · skip
        exact zk_vret (pc := 32) rfl hf_N2_ trivial (zdal_p dlA_Sums_putNegative_151 (i := 18) rfl)
      · skip
        refine zw_aload_n (pc := 13) (n := 0) (x := (d_ + 23)) rfl (zdal_p dlA_Sums_putNegative_151 (i := 7) rfl) ?_
        refine zw_iload_n (pc := 14) (n := 1) (x := Int32.ofInt a0_) rfl (zdal_p dlA_Sums_putNegative_151 (i := 8) rfl) ?_
        refine zw_iload_n (pc := 15) (n := 2) (x := Int32.ofInt u1_) rfl (zdal_p dlA_Sums_putNegative_151 (i := 9) rfl) ?_
        refine zw_aload_n (pc := 16) (n := 0) (x := (d_ + 23)) rfl (zdal_p dlA_Sums_putNegative_151 (i := 10) rfl) ?_
        refine zw_iload_n (pc := 17) (n := 1) (x := Int32.ofInt a0_) rfl (zdal_p dlA_Sums_putNegative_151 (i := 11) rfl) ?_
        refine zw_iload_n (pc := 18) (n := 2) (x := Int32.ofInt u1_) rfl (zdal_p dlA_Sums_putNegative_151 (i := 12) rfl) ?_
        refine zk_callV hf_N2_.x (pc := 19) [.int (Int32.ofInt a0_), .int (Int32.ofInt u1_)] [.int (Int32.ofInt u1_), .int (Int32.ofInt a0_), .ref (d_ + 23)] l_Sums_67 (u_Sums_numberAtX l d_ N2_ (hf_N2_.w hW) a0_ ha0_a ha0_b u1_ hu1_a hu1_b) rfl rfl ((hf_N2_.w hW).kr (o := 23) (by decide)) (by decide) (by decide) (Nat.le_of_ble_eq_true rfl) (zdal_p dlA_Sums_putNegative_151 (i := 13) rfl) ?_
        rintro _ N6_ ⟨v7_, rfl, ⟨hv7_a, hv7_b⟩, hsN6_, -⟩
        obtain rfl := hsN6_.eq.symm
        show zW l m_Sums_putNegative (zn Mz + 0, zw Mz + 0) N2_ 22 [some (.ref (d_ + 23)), some (.int (Int32.ofInt a0_)), some (.int (Int32.ofInt u1_))] [.long (Int64.ofInt v7_), .int (Int32.ofInt u1_), .int (Int32.ofInt a0_), .ref (d_ + 23)] _
        refine zr_lneg (pc := 22) (zdal_p dlA_Sums_putNegative_151 (i := 14) rfl) ?_
        refine zr_nmJ (fun v8_ hv8_ => ?_)
        obtain ⟨hv8_a, hv8_b⟩ := hv8_
        refine zk_callV hf_N2_.x (pc := 23) [.int (Int32.ofInt a0_), .int (Int32.ofInt u1_), .long (Int64.ofInt v8_)] [] l_Sums_70 (u_Sums_putNumberX l d_ N2_ (hf_N2_.w hW) a0_ ha0_a ha0_b u1_ hu1_a hu1_b v8_ hv8_a hv8_b) rfl rfl ((hf_N2_.w hW).kr (o := 23) (by decide)) (by decide) (by decide) (Nat.le_of_ble_eq_true rfl) (zdal_p dlA_Sums_putNegative_151 (i := 15) rfl) ?_
        rintro _ N9_ ⟨rfl, hsN9_, -⟩
        have hf_N9_ : zFc d_ [] [] [] [25] Mz N9_ := hf_N2_.tr hsN9_ (by decide) (by decide) (by decide) (by decide)
        have hb0_N9_ : zFc d_ [] [] [] [25] Mz N9_ := hs3_.tr hsN9_ (by decide) (by decide) (by decide) (by decide)
        show zW l m_Sums_putNegative (zn Mz + 0, zw Mz + 0) N9_ 26 [some (.ref (d_ + 23)), some (.int (Int32.ofInt a0_)), some (.int (Int32.ofInt u1_))] [] _
        refine zr_iinc (pc := 26) (i := 2) (a := u1_) (n := 1) (L2 := [some (.ref (d_ + 23)), some (.int (Int32.ofInt a0_)), some (.int (Int32.ofInt (u1_ + 1)))]) rfl (by decide) rfl (zdal_p dlA_Sums_putNegative_151 (i := 16) rfl) ?_
        obtain ⟨v11_, hv11_a, hv11_b, hv11_e, hv11_d⟩ := zk_gen (u1_ + 1)
        rw [hv11_e]
        refine zw_goto (pc := 29) (tgt := 2) (by decide) (zdal_p dlA_Sums_putNegative_151 (i := 17) rfl) ?_
        exact ih_2 v11_ hv11_a hv11_b N9_ hb0_N9_ (show 0 ≤ v11_ by first | with_reducible assumption | assumption | omega) (by omega)
  exact lp_2 _ 0 (by decide) (by decide) Mz zFc.rf (show 0 ≤ (0 : Int) by first | with_reducible assumption | (decide) | assumption) (Nat.lt_succ_self _)
set_option maxHeartbeats 4000000 in
theorem u_Calc_negateX (l : Launch) (d_ : Nat) (Mz : zMem) (hW : zKW d_ Mz) : zC l m_Calc_negate 0 0 [.ref (d_ + 33)] Mz (zqcV d_ [] [] [(33, 2), (33, 4)] [25] Mz (fun N => True)) := by
  refine zC_of (L0 := [some (.ref (d_ + 33))]) md_Calc_negate (Nat.le_of_ble_eq_true rfl) rfl ?_ zQ0
  have hf : zFc d_ [] [] [(33, 2), (33, 4)] [25] Mz Mz := zFc.rf
  have r_D33_2 := ze_r Mz (d_ + 33) 2
  have lp_0 : ∀ (n : Nat) (N1_ : zMem) (hs2_ : zFc d_ [] [] [(33, 2), (33, 4)] [25] Mz N1_), (ze N1_ (d_ + 33) 2).toNat < n → zW l m_Calc_negate (zn Mz + 0, zw Mz + 0) N1_ 0 [some (.ref (d_ + 33))] [] (zqcV d_ [] [] [(33, 2), (33, 4)] [25] Mz (fun N => True)) := by
    intro n
    induction n with
    | zero =>
      intro N1_ hs2_ h0
      exact absurd h0 (Nat.not_lt_zero _)
    | succ n ih_0 =>
      intro N1_ hs2_ hlt_0
      have hf_N1_ : zFc d_ [] [] [(33, 2), (33, 4)] [25] Mz N1_ := hf.tr hs2_ (by decide) (by decide) (by decide) (by decide)
      have rD33_2_N1_ := ze_r N1_ (d_ + 33) 2
      refine zw_aload_n (pc := 0) (n := 0) (x := (d_ + 33)) rfl (zdal_p dlA_Calc_negate_148 (i := 0) rfl) ?_
      refine zk_getI (pc := 1) f_Calc_24 rfl ((hf_N1_.w hW).kr (o := 33) (by decide)) (zdal_p dlA_Calc_negate_148 (i := 1) rfl) ?_
      have hr3_ := ze_r N1_ (d_ + 33) 2
      refine zr_if_le (pc := 4) (tgt := 50) ⟨(ze_r N1_ (d_ + 33) 2).1, (ze_r N1_ (d_ + 33) 2).2⟩ (by decide) (zdal_p dlA_Calc_negate_148 (i := 2) rfl) (fun hc_4 => ?_) (fun hc_4 => ?_)
      · skip
        exact zk_vret (pc := 50) rfl hf_N1_ trivial (zdal_p dlA_Calc_negate_149 (i := 1) rfl)
      · skip
        refine zw_aload_n (pc := 7) (n := 0) (x := (d_ + 33)) rfl (zdal_p dlA_Calc_negate_148 (i := 3) rfl) ?_
        refine zk_callV hf_N1_.x (pc := 8) [] [] l_Calc_89 (u_Calc_topSignX l d_ N1_ (hf_N1_.w hW) ) rfl rfl ((hf_N1_.w hW).kr (o := 33) (by decide)) (by decide) (by decide) (Nat.le_of_ble_eq_true rfl) (zdal_p dlA_Calc_negate_148 (i := 4) rfl) ?_
        rintro _ N4_ ⟨v5_, rfl, ⟨hv5_a, hv5_b⟩, hsN4_, -⟩
        obtain rfl := hsN4_.eq.symm
        show zW l m_Calc_negate (zn Mz + 0, zw Mz + 0) N1_ 11 [some (.ref (d_ + 33))] [.int (Int32.ofInt v5_)] _
        refine zw_bipush (pc := 11) (v := Int32.ofInt 126) (by decide) (zdal_p dlA_Calc_negate_148 (i := 5) rfl) ?_
        refine zr_icmp_ne (pc := 13) (tgt := 50) ⟨hv5_a, hv5_b⟩ ⟨(by decide), (by decide)⟩ (by decide) (zdal_p dlA_Calc_negate_148 (i := 6) rfl) (fun hc_13 => ?_) (fun hc_13 => ?_)
        · skip
          exact zk_vret (pc := 50) rfl hf_N1_ trivial (zdal_p dlA_Calc_negate_149 (i := 1) rfl)
        · skip
          refine zw_aload_n (pc := 16) (n := 0) (x := (d_ + 33)) rfl (zdal_p dlA_Calc_negate_148 (i := 7) rfl) ?_
          refine zw_dup (pc := 17) rfl (zdal_p dlA_Calc_negate_148 (i := 8) rfl) ?_
          refine zk_getI (pc := 18) f_Calc_24 rfl ((hf_N1_.w hW).kr (o := 33) (by decide)) (zdal_p dlA_Calc_negate_148 (i := 9) rfl) ?_
          refine zw_iconst (pc := 21) (v := Int32.ofInt 1) (by decide) (zdal_p dlA_Calc_negate_148 (i := 10) rfl) ?_
          refine zr_isub (pc := 22) (zdal_p dlA_Calc_negate_148 (i := 11) rfl) ?_
          refine zk_nmI (fun v6_ hv6_ hv6_e => ?_)
          obtain ⟨hv6_a, hv6_b⟩ := hv6_
          have hx_ := hv6_e ⟨by (exact zo_3 hc_4), by (exact zo_601 rD33_2_N1_.2)⟩
          refine zk_putR (pc := 23) (o := 33) (by decide) f_Calc_24 rfl rfl ((hf_N1_.w hW).kr (o := 33) (by decide)) ⟨by (exact hv6_a), by (exact hv6_b)⟩ rfl rfl (zdal_p dlA_Calc_negate_148 (i := 12) rfl) (fun N7_ hsN7_ hvN7_ => ?_)
          have hf_N7_ : zFc d_ [] [] [(33, 2), (33, 4)] [25] Mz N7_ := hf_N1_.tr hsN7_ (by decide) (by decide) (by decide) (by decide)
          have hb0_N7_ : zFc d_ [] [] [(33, 2), (33, 4)] [25] Mz N7_ := hs2_.tr hsN7_ (by decide) (by decide) (by decide) (by decide)
          have rD33_2_N7_ := ze_r N7_ (d_ + 33) 2
          refine zw_aload_n (pc := 26) (n := 0) (x := (d_ + 33)) rfl (zdal_p dlA_Calc_negate_148 (i := 13) rfl) ?_
          refine zw_dup (pc := 27) rfl (zdal_p dlA_Calc_negate_148 (i := 14) rfl) ?_
          refine zk_getI (pc := 28) f_Calc_31 rfl ((hf_N7_.w hW).kr (o := 33) (by decide)) (zdal_p dlA_Calc_negate_148 (i := 15) rfl) ?_
          have hr8_ := ze_r N7_ (d_ + 33) 4
          refine zw_iconst (pc := 31) (v := Int32.ofInt 1) (by decide) (zdal_p dlA_Calc_negate_148 (i := 16) rfl) ?_
          refine zr_isub (pc := 32) (zdal_p dlA_Calc_negate_148 (i := 17) rfl) ?_
          refine zr_nmI (fun v9_ hv9_ => ?_)
          obtain ⟨hv9_a, hv9_b⟩ := hv9_
          refine zk_putR (pc := 33) (o := 33) (by decide) f_Calc_31 rfl rfl ((hf_N7_.w hW).kr (o := 33) (by decide)) ⟨by (exact hv9_a), by (exact hv9_b)⟩ rfl rfl (zdal_p dlA_Calc_negate_148 (i := 18) rfl) (fun N10_ hsN10_ hvN10_ => ?_)
          have hf_N10_ : zFc d_ [] [] [(33, 2), (33, 4)] [25] Mz N10_ := hf_N7_.tr hsN10_ (by decide) (by decide) (by decide) (by decide)
          have hb0_N10_ : zFc d_ [] [] [(33, 2), (33, 4)] [25] Mz N10_ := hb0_N7_.tr hsN10_ (by decide) (by decide) (by decide) (by decide)
          have eD33_2_N10_ : ze N10_ (d_ + 33) 2 = ze N7_ (d_ + 33) 2 := hsN10_.e (by decide)
          refine zw_aload_n (pc := 36) (n := 0) (x := (d_ + 33)) rfl (zdal_p dlA_Calc_negate_148 (i := 19) rfl) ?_
          refine zw_getF (pc := 37) f_Calc_20 rfl ((hf_N10_.w hW).kr (o := 33) (by decide)) ((hf_N10_.w hW).lr (o := 33) (s := 0) (r := 23) (by decide)) (zdal_p dlA_Calc_negate_148 (i := 20) rfl) ?_
          refine zw_aload_n (pc := 40) (n := 0) (x := (d_ + 33)) rfl (zdal_p dlA_Calc_negate_148 (i := 21) rfl) ?_
          refine zk_callV hf_N10_.x (pc := 41) [] [.ref (d_ + 23)] l_Calc_43 (u_Calc_topShelfX l d_ N10_ (hf_N10_.w hW) ) rfl rfl ((hf_N10_.w hW).kr (o := 33) (by decide)) (by decide) (by decide) (Nat.le_of_ble_eq_true rfl) (zdal_p dlA_Calc_negate_148 (i := 22) rfl) ?_
          rintro _ N11_ ⟨v12_, rfl, ⟨hv12_a, hv12_b⟩, hsN11_, -⟩
          obtain rfl := hsN11_.eq.symm
          show zW l m_Calc_negate (zn Mz + 0, zw Mz + 0) N10_ 44 [some (.ref (d_ + 33))] [.int (Int32.ofInt v12_), .ref (d_ + 23)] _
          refine zk_callV hf_N10_.x (pc := 44) [.int (Int32.ofInt v12_)] [] l_Calc_92 (u_Sums_putNegativeX l d_ N10_ (hf_N10_.w hW) v12_ hv12_a hv12_b) rfl rfl ((hf_N10_.w hW).kr (o := 23) (by decide)) (by decide) (by decide) (Nat.le_of_ble_eq_true rfl) (zdal_p dlA_Calc_negate_148 (i := 23) rfl) ?_
          rintro _ N13_ ⟨rfl, hsN13_, -⟩
          have hf_N13_ : zFc d_ [] [] [(33, 2), (33, 4)] [25] Mz N13_ := hf_N10_.tr hsN13_ (by decide) (by decide) (by decide) (by decide)
          have hb0_N13_ : zFc d_ [] [] [(33, 2), (33, 4)] [25] Mz N13_ := hb0_N10_.tr hsN13_ (by decide) (by decide) (by decide) (by decide)
          have eD33_2_N13_ : ze N13_ (d_ + 33) 2 = ze N10_ (d_ + 33) 2 := hsN13_.e (by decide)
          show zW l m_Calc_negate (zn Mz + 0, zw Mz + 0) N13_ 47 [some (.ref (d_ + 33))] [] _
          refine zw_goto (pc := 47) (tgt := 0) (by decide) (zdal_p dlA_Calc_negate_149 (i := 0) rfl) ?_
          exact ih_0 N13_ hb0_N13_ (by omega)
  exact lp_0 _ Mz zFc.rf (Nat.lt_succ_self _)
set_option maxHeartbeats 4000000 in
theorem u_Sums_addX (l : Launch) (d_ : Nat) (Mz : zMem) (hW : zKW d_ Mz) (a0_ : Int) (ha0_a : -2147483648 ≤ a0_) (ha0_b : a0_ < 2147483648) (a1_ : Int) (ha1_a : -2147483648 ≤ a1_) (ha1_b : a1_ < 2147483648) (a2_ : Int) (ha2_a : -2147483648 ≤ a2_) (ha2_b : a2_ < 2147483648) : zC l m_Sums_add 0 0 [.ref (d_ + 23), .int (Int32.ofInt a0_), .int (Int32.ofInt a1_), .int (Int32.ofInt a2_)] Mz (zqcV d_ [] [] [] [25] Mz (fun N => True)) := by
  refine zC_of (L0 := [some (.ref (d_ + 23)), some (.int (Int32.ofInt a0_)), some (.int (Int32.ofInt a1_)), some (.int (Int32.ofInt a2_)), none]) md_Sums_add (Nat.le_of_ble_eq_true rfl) rfl ?_ zQ0
  have hf : zFc d_ [] [] [] [25] Mz Mz := zFc.rf
  refine zw_iconst (pc := 0) (v := Int32.ofInt 0) (by decide) (zdal_p dlA_Sums_add_157 (i := 0) rfl) ?_
  refine zw_istore (pc := 1) (i := 4) (L2 := [some (.ref (d_ + 23)), some (.int (Int32.ofInt a0_)), some (.int (Int32.ofInt a1_)), some (.int (Int32.ofInt a2_)), some (.int (Int32.ofInt 0))]) (by decide) rfl (zdal_p dlA_Sums_add_157 (i := 1) rfl) ?_
  have lp_3 : ∀ (n : Nat) (u1_ : Int) (hu1_a : -2147483648 ≤ u1_) (hu1_b : u1_ < 2147483648) (N2_ : zMem) (hs3_ : zFc d_ [] [] [] [25] Mz N2_) (i4_ : 0 ≤ u1_), (ze Mz (d_ + 12) 7 - u1_).toNat < n → zW l m_Sums_add (zn Mz + 0, zw Mz + 0) N2_ 3 [some (.ref (d_ + 23)), some (.int (Int32.ofInt a0_)), some (.int (Int32.ofInt a1_)), some (.int (Int32.ofInt a2_)), some (.int (Int32.ofInt u1_))] [] (zqcV d_ [] [] [] [25] Mz (fun N => True)) := by
    intro n
    induction n with
    | zero =>
      intro u1_ hu1_a hu1_b N2_ hs3_ i4_ h0
      exact absurd h0 (Nat.not_lt_zero _)
    | succ n ih_3 =>
      intro u1_ hu1_a hu1_b N2_ hs3_ i4_ hlt_3
      have hf_N2_ : zFc d_ [] [] [] [25] Mz N2_ := hf.tr hs3_ (by decide) (by decide) (by decide) (by decide)
      refine zw_iload (pc := 3) (i := 4) (x := Int32.ofInt u1_) rfl (zdal_p dlA_Sums_add_157 (i := 2) rfl) ?_
      refine zw_aload_n (pc := 5) (n := 0) (x := (d_ + 23)) rfl (zdal_p dlA_Sums_add_157 (i := 3) rfl) ?_
      refine zw_getF (pc := 6) f_Sums_23 rfl ((hf_N2_.w hW).kr (o := 23) (by decide)) ((hf_N2_.w hW).lr (o := 23) (s := 0) (r := 12) (by decide)) (zdal_p dlA_Sums_add_157 (i := 4) rfl) ?_
      refine zk_getI (pc := 9) f_Sums_35 rfl ((hf_N2_.w hW).kr (o := 12) (by decide)) (zdal_p dlA_Sums_add_157 (i := 5) rfl) ?_
      rw [hf_N2_.e (by decide)]
      have hr5_ := ze_r Mz (d_ + 12) 7
      refine zr_icmp_ge (pc := 12) (tgt := 46) ⟨hu1_a, hu1_b⟩ ⟨(ze_r Mz (d_ + 12) 7).1, (ze_r Mz (d_ + 12) 7).2⟩ (by decide) (zdal_p dlA_Sums_add_157 (i := 6) rfl) (fun hc_12 => ?_) (fun hc_12 => ?_)
      · skip
        exact zk_vret (pc := 46) rfl hf_N2_ trivial (zdal_p dlA_Sums_add_158 (i := 1) rfl)
      · skip
        refine zw_aload_n (pc := 15) (n := 0) (x := (d_ + 23)) rfl (zdal_p dlA_Sums_add_157 (i := 7) rfl) ?_
        refine zw_iload_n (pc := 16) (n := 1) (x := Int32.ofInt a0_) rfl (zdal_p dlA_Sums_add_157 (i := 8) rfl) ?_
        refine zw_iload (pc := 17) (i := 4) (x := Int32.ofInt u1_) rfl (zdal_p dlA_Sums_add_157 (i := 9) rfl) ?_
        refine zw_aload_n (pc := 19) (n := 0) (x := (d_ + 23)) rfl (zdal_p dlA_Sums_add_157 (i := 10) rfl) ?_
        refine zw_iload_n (pc := 20) (n := 1) (x := Int32.ofInt a0_) rfl (zdal_p dlA_Sums_add_157 (i := 11) rfl) ?_
        refine zw_iload (pc := 21) (i := 4) (x := Int32.ofInt u1_) rfl (zdal_p dlA_Sums_add_157 (i := 12) rfl) ?_
        refine zk_callV hf_N2_.x (pc := 23) [.int (Int32.ofInt a0_), .int (Int32.ofInt u1_)] [.int (Int32.ofInt u1_), .int (Int32.ofInt a0_), .ref (d_ + 23)] l_Sums_67 (u_Sums_numberAtX l d_ N2_ (hf_N2_.w hW) a0_ ha0_a ha0_b u1_ hu1_a hu1_b) rfl rfl ((hf_N2_.w hW).kr (o := 23) (by decide)) (by decide) (by decide) (Nat.le_of_ble_eq_true rfl) (zdal_p dlA_Sums_add_157 (i := 13) rfl) ?_
        rintro _ N6_ ⟨v7_, rfl, ⟨hv7_a, hv7_b⟩, hsN6_, -⟩
        obtain rfl := hsN6_.eq.symm
        show zW l m_Sums_add (zn Mz + 0, zw Mz + 0) N2_ 26 [some (.ref (d_ + 23)), some (.int (Int32.ofInt a0_)), some (.int (Int32.ofInt a1_)), some (.int (Int32.ofInt a2_)), some (.int (Int32.ofInt u1_))] [.long (Int64.ofInt v7_), .int (Int32.ofInt u1_), .int (Int32.ofInt a0_), .ref (d_ + 23)] _
        refine zw_iload_n (pc := 26) (n := 3) (x := Int32.ofInt a2_) rfl (zdal_p dlA_Sums_add_157 (i := 14) rfl) ?_
        refine zr_i2l (pc := 27) ⟨ha2_a, ha2_b⟩ (zdal_p dlA_Sums_add_157 (i := 15) rfl) ?_
        refine zw_aload_n (pc := 28) (n := 0) (x := (d_ + 23)) rfl (zdal_p dlA_Sums_add_157 (i := 16) rfl) ?_
        refine zw_iload_n (pc := 29) (n := 2) (x := Int32.ofInt a1_) rfl (zdal_p dlA_Sums_add_157 (i := 17) rfl) ?_
        refine zw_iload (pc := 30) (i := 4) (x := Int32.ofInt u1_) rfl (zdal_p dlA_Sums_add_157 (i := 18) rfl) ?_
        refine zk_callV hf_N2_.x (pc := 32) [.int (Int32.ofInt a1_), .int (Int32.ofInt u1_)] [.long (Int64.ofInt a2_), .long (Int64.ofInt v7_), .int (Int32.ofInt u1_), .int (Int32.ofInt a0_), .ref (d_ + 23)] l_Sums_67 (u_Sums_numberAtX l d_ N2_ (hf_N2_.w hW) a1_ ha1_a ha1_b u1_ hu1_a hu1_b) rfl rfl ((hf_N2_.w hW).kr (o := 23) (by decide)) (by decide) (by decide) (Nat.le_of_ble_eq_true rfl) (zdal_p dlA_Sums_add_157 (i := 19) rfl) ?_
        rintro _ N8_ ⟨v9_, rfl, ⟨hv9_a, hv9_b⟩, hsN8_, -⟩
        obtain rfl := hsN8_.eq.symm
        show zW l m_Sums_add (zn Mz + 0, zw Mz + 0) N2_ 35 [some (.ref (d_ + 23)), some (.int (Int32.ofInt a0_)), some (.int (Int32.ofInt a1_)), some (.int (Int32.ofInt a2_)), some (.int (Int32.ofInt u1_))] [.long (Int64.ofInt v9_), .long (Int64.ofInt a2_), .long (Int64.ofInt v7_), .int (Int32.ofInt u1_), .int (Int32.ofInt a0_), .ref (d_ + 23)] _
        refine zr_lmul (pc := 35) (zdal_p dlA_Sums_add_157 (i := 20) rfl) ?_
        refine zr_nmJ (fun v10_ hv10_ => ?_)
        obtain ⟨hv10_a, hv10_b⟩ := hv10_
        refine zr_ladd (pc := 36) (zdal_p dlA_Sums_add_157 (i := 21) rfl) ?_
        refine zr_nmJ (fun v11_ hv11_ => ?_)
        obtain ⟨hv11_a, hv11_b⟩ := hv11_
        refine zk_callV hf_N2_.x (pc := 37) [.int (Int32.ofInt a0_), .int (Int32.ofInt u1_), .long (Int64.ofInt v11_)] [] l_Sums_70 (u_Sums_putNumberX l d_ N2_ (hf_N2_.w hW) a0_ ha0_a ha0_b u1_ hu1_a hu1_b v11_ hv11_a hv11_b) rfl rfl ((hf_N2_.w hW).kr (o := 23) (by decide)) (by decide) (by decide) (Nat.le_of_ble_eq_true rfl) (zdal_p dlA_Sums_add_157 (i := 22) rfl) ?_
        rintro _ N12_ ⟨rfl, hsN12_, -⟩
        have hf_N12_ : zFc d_ [] [] [] [25] Mz N12_ := hf_N2_.tr hsN12_ (by decide) (by decide) (by decide) (by decide)
        have hb0_N12_ : zFc d_ [] [] [] [25] Mz N12_ := hs3_.tr hsN12_ (by decide) (by decide) (by decide) (by decide)
        show zW l m_Sums_add (zn Mz + 0, zw Mz + 0) N12_ 40 [some (.ref (d_ + 23)), some (.int (Int32.ofInt a0_)), some (.int (Int32.ofInt a1_)), some (.int (Int32.ofInt a2_)), some (.int (Int32.ofInt u1_))] [] _
        refine zr_iinc (pc := 40) (i := 4) (a := u1_) (n := 1) (L2 := [some (.ref (d_ + 23)), some (.int (Int32.ofInt a0_)), some (.int (Int32.ofInt a1_)), some (.int (Int32.ofInt a2_)), some (.int (Int32.ofInt (u1_ + 1)))]) rfl (by decide) rfl (zdal_p dlA_Sums_add_157 (i := 23) rfl) ?_
        obtain ⟨v14_, hv14_a, hv14_b, hv14_e, hv14_d⟩ := zk_gen (u1_ + 1)
        rw [hv14_e]
        refine zw_goto (pc := 43) (tgt := 3) (by decide) (zdal_p dlA_Sums_add_158 (i := 0) rfl) ?_
        exact ih_3 v14_ hv14_a hv14_b N12_ hb0_N12_ (show 0 ≤ v14_ by first | with_reducible assumption | assumption | omega) (by omega)
  exact lp_3 _ 0 (by decide) (by decide) Mz zFc.rf (show 0 ≤ (0 : Int) by first | with_reducible assumption | (decide) | assumption) (Nat.lt_succ_self _)
set_option maxHeartbeats 4000000 in
theorem u_Calc_reckonX (l : Launch) (d_ : Nat) (Mz : zMem) (hW : zKW d_ Mz) (a0_ : Int) (ha0_a : -2147483648 ≤ a0_) (ha0_b : a0_ < 2147483648) (ha0_z : a0_ = 0 ∨ a0_ = 1) : zC l m_Calc_reckon 0 0 [.ref (d_ + 33), .int (Int32.ofInt a0_)] Mz (zqcV d_ [] [] [(33, 2), (33, 3), (33, 6)] [25, 27] Mz (fun N => True)) := by
  refine zC_of (L0 := [some (.ref (d_ + 33)), some (.int (Int32.ofInt a0_)), none, none, none]) md_Calc_reckon (Nat.le_of_ble_eq_true rfl) rfl ?_ zQ0
  have hf : zFc d_ [] [] [(33, 2), (33, 3), (33, 6)] [25, 27] Mz Mz := zFc.rf
  have r_D33_2 := ze_r Mz (d_ + 33) 2
  have lp_0 : ∀ (n : Nat) (N1_ : zMem) (hs2_ : zFc d_ [] [] [(33, 2), (33, 3), (33, 6)] [25, 27] Mz N1_), (ze N1_ (d_ + 33) 2).toNat < n → zW l m_Calc_reckon (zn Mz + 0, zw Mz + 0) N1_ 0 [some (.ref (d_ + 33)), some (.int (Int32.ofInt a0_)), none, none, none] [] (zqcV d_ [] [] [(33, 2), (33, 3), (33, 6)] [25, 27] Mz (fun N => True)) := by
    intro n
    induction n with
    | zero =>
      intro N1_ hs2_ h0
      exact absurd h0 (Nat.not_lt_zero _)
    | succ n ih_0 =>
      intro N1_ hs2_ hlt_0
      have hf_N1_ : zFc d_ [] [] [(33, 2), (33, 3), (33, 6)] [25, 27] Mz N1_ := hf.tr hs2_ (by decide) (by decide) (by decide) (by decide)
      have rD33_2_N1_ := ze_r N1_ (d_ + 33) 2
      refine zw_aload_n (pc := 0) (n := 0) (x := (d_ + 33)) rfl (zdal_p dlA_Calc_reckon_153 (i := 0) rfl) ?_
      refine zk_getI (pc := 1) f_Calc_24 rfl ((hf_N1_.w hW).kr (o := 33) (by decide)) (zdal_p dlA_Calc_reckon_153 (i := 1) rfl) ?_
      have hr3_ := ze_r N1_ (d_ + 33) 2
      refine zr_if_le (pc := 4) (tgt := 147) ⟨(ze_r N1_ (d_ + 33) 2).1, (ze_r N1_ (d_ + 33) 2).2⟩ (by decide) (zdal_p dlA_Calc_reckon_153 (i := 2) rfl) (fun hc_4 => ?_) (fun hc_4 => ?_)
      · skip
        exact zk_vret (pc := 147) rfl hf_N1_ trivial d_Calc_reckon_147
      · skip
        refine zw_aload_n (pc := 7) (n := 0) (x := (d_ + 33)) rfl (zdal_p dlA_Calc_reckon_153 (i := 3) rfl) ?_
        refine zk_getI (pc := 8) f_Calc_28 rfl ((hf_N1_.w hW).kr (o := 33) (by decide)) (zdal_p dlA_Calc_reckon_153 (i := 4) rfl) ?_
        have hr4_ := ze_r N1_ (d_ + 33) 3
        refine zw_iconst (pc := 11) (v := Int32.ofInt 1) (by decide) (zdal_p dlA_Calc_reckon_153 (i := 5) rfl) ?_
        refine zr_icmp_le (pc := 12) (tgt := 147) ⟨(ze_r N1_ (d_ + 33) 3).1, (ze_r N1_ (d_ + 33) 3).2⟩ ⟨(by decide), (by decide)⟩ (by decide) (zdal_p dlA_Calc_reckon_153 (i := 6) rfl) (fun hc_12 => ?_) (fun hc_12 => ?_)
        · skip
          exact zk_vret (pc := 147) rfl hf_N1_ trivial d_Calc_reckon_147
        · skip
          refine zw_aload_n (pc := 15) (n := 0) (x := (d_ + 33)) rfl (zdal_p dlA_Calc_reckon_153 (i := 7) rfl) ?_
          refine zk_callV hf_N1_.x (pc := 16) [] [] l_Calc_89 (u_Calc_topSignX l d_ N1_ (hf_N1_.w hW) ) rfl rfl ((hf_N1_.w hW).kr (o := 33) (by decide)) (by decide) (by decide) (Nat.le_of_ble_eq_true rfl) (zdal_p dlA_Calc_reckon_153 (i := 8) rfl) ?_
          rintro _ N5_ ⟨v6_, rfl, ⟨hv6_a, hv6_b⟩, hsN5_, -⟩
          obtain rfl := hsN5_.eq.symm
          show zW l m_Calc_reckon (zn Mz + 0, zw Mz + 0) N1_ 19 [some (.ref (d_ + 33)), some (.int (Int32.ofInt a0_)), none, none, none] [.int (Int32.ofInt v6_)] _
          refine zw_bipush (pc := 19) (v := Int32.ofInt 40) (by decide) (zdal_p dlA_Calc_reckon_153 (i := 9) rfl) ?_
          refine zr_icmp_eq (pc := 21) (tgt := 147) ⟨hv6_a, hv6_b⟩ ⟨(by decide), (by decide)⟩ (by decide) (zdal_p dlA_Calc_reckon_153 (i := 10) rfl) (fun hc_21 => ?_) (fun hc_21 => ?_)
          · skip
            exact zk_vret (pc := 147) rfl hf_N1_ trivial d_Calc_reckon_147
          · skip
            refine zw_aload_n (pc := 24) (n := 0) (x := (d_ + 33)) rfl (zdal_p dlA_Calc_reckon_153 (i := 11) rfl) ?_
            refine zk_callV hf_N1_.x (pc := 25) [] [] l_Calc_89 (u_Calc_topSignX l d_ N1_ (hf_N1_.w hW) ) rfl rfl ((hf_N1_.w hW).kr (o := 33) (by decide)) (by decide) (by decide) (Nat.le_of_ble_eq_true rfl) (zdal_p dlA_Calc_reckon_153 (i := 12) rfl) ?_
            rintro _ N7_ ⟨v8_, rfl, ⟨hv8_a, hv8_b⟩, hsN7_, -⟩
            obtain rfl := hsN7_.eq.symm
            show zW l m_Calc_reckon (zn Mz + 0, zw Mz + 0) N1_ 28 [some (.ref (d_ + 33)), some (.int (Int32.ofInt a0_)), none, none, none] [.int (Int32.ofInt v8_)] _
            refine zw_bipush (pc := 28) (v := Int32.ofInt 42) (by decide) (zdal_p dlA_Calc_reckon_153 (i := 13) rfl) ?_
            refine zr_icmp_eq (pc := 30) (tgt := 37) ⟨hv8_a, hv8_b⟩ ⟨(by decide), (by decide)⟩ (by decide) (zdal_p dlA_Calc_reckon_153 (i := 14) rfl) (fun hc_30 => ?_) (fun hc_30 => ?_)
            · skip
              refine zw_aload_n (pc := 37) (n := 0) (x := (d_ + 33)) rfl (zdal_p dlA_Calc_reckon_153 (i := 17) rfl) ?_
              refine zk_callV hf_N1_.x (pc := 38) [] [] l_Calc_89 (u_Calc_topSignX l d_ N1_ (hf_N1_.w hW) ) rfl rfl ((hf_N1_.w hW).kr (o := 33) (by decide)) (by decide) (by decide) (Nat.le_of_ble_eq_true rfl) (zdal_p dlA_Calc_reckon_153 (i := 18) rfl) ?_
              rintro _ N9_ ⟨v10_, rfl, ⟨hv10_a, hv10_b⟩, hsN9_, -⟩
              obtain rfl := hsN9_.eq.symm
              show zW l m_Calc_reckon (zn Mz + 0, zw Mz + 0) N1_ 41 [some (.ref (d_ + 33)), some (.int (Int32.ofInt a0_)), none, none, none] [.int (Int32.ofInt v10_)] _
              refine zw_istore_n (pc := 41) (i := 2) (L2 := [some (.ref (d_ + 33)), some (.int (Int32.ofInt a0_)), some (.int (Int32.ofInt v10_)), none, none]) rfl (by decide) rfl (zdal_p dlA_Calc_reckon_153 (i := 19) rfl) ?_
              refine zw_aload_n (pc := 42) (n := 0) (x := (d_ + 33)) rfl (zdal_p dlA_Calc_reckon_153 (i := 20) rfl) ?_
              refine zk_callV hf_N1_.x (pc := 43) [] [] l_Calc_43 (u_Calc_topShelfX l d_ N1_ (hf_N1_.w hW) ) rfl rfl ((hf_N1_.w hW).kr (o := 33) (by decide)) (by decide) (by decide) (Nat.le_of_ble_eq_true rfl) (zdal_p dlA_Calc_reckon_153 (i := 21) rfl) ?_
              rintro _ N11_ ⟨v12_, rfl, ⟨hv12_a, hv12_b⟩, hsN11_, -⟩
              obtain rfl := hsN11_.eq.symm
              show zW l m_Calc_reckon (zn Mz + 0, zw Mz + 0) N1_ 46 [some (.ref (d_ + 33)), some (.int (Int32.ofInt a0_)), some (.int (Int32.ofInt v10_)), none, none] [.int (Int32.ofInt v12_)] _
              refine zw_istore_n (pc := 46) (i := 3) (L2 := [some (.ref (d_ + 33)), some (.int (Int32.ofInt a0_)), some (.int (Int32.ofInt v10_)), some (.int (Int32.ofInt v12_)), none]) rfl (by decide) rfl (zdal_p dlA_Calc_reckon_153 (i := 22) rfl) ?_
              refine zw_aload_n (pc := 47) (n := 0) (x := (d_ + 33)) rfl (zdal_p dlA_Calc_reckon_153 (i := 23) rfl) ?_
              refine zw_dup (pc := 48) rfl (zdal_p dlA_Calc_reckon_154 (i := 0) rfl) ?_
              refine zk_getI (pc := 49) f_Calc_24 rfl ((hf_N1_.w hW).kr (o := 33) (by decide)) (zdal_p dlA_Calc_reckon_154 (i := 1) rfl) ?_
              refine zw_iconst (pc := 52) (v := Int32.ofInt 1) (by decide) (zdal_p dlA_Calc_reckon_154 (i := 2) rfl) ?_
              refine zr_isub (pc := 53) (zdal_p dlA_Calc_reckon_154 (i := 3) rfl) ?_
              refine zk_nmI (fun v13_ hv13_ hv13_e => ?_)
              obtain ⟨hv13_a, hv13_b⟩ := hv13_
              have hx_ := hv13_e ⟨by (exact zo_3 hc_4), by (exact zo_601 rD33_2_N1_.2)⟩
              refine zk_putR (pc := 54) (o := 33) (by decide) f_Calc_24 rfl rfl ((hf_N1_.w hW).kr (o := 33) (by decide)) ⟨by (exact hv13_a), by (exact hv13_b)⟩ rfl rfl (zdal_p dlA_Calc_reckon_154 (i := 4) rfl) (fun N14_ hsN14_ hvN14_ => ?_)
              have hf_N14_ : zFc d_ [] [] [(33, 2), (33, 3), (33, 6)] [25, 27] Mz N14_ := hf_N1_.tr hsN14_ (by decide) (by decide) (by decide) (by decide)
              have hb0_N14_ : zFc d_ [] [] [(33, 2), (33, 3), (33, 6)] [25, 27] Mz N14_ := hs2_.tr hsN14_ (by decide) (by decide) (by decide) (by decide)
              have rD33_2_N14_ := ze_r N14_ (d_ + 33) 2
              refine zw_aload_n (pc := 57) (n := 0) (x := (d_ + 33)) rfl (zdal_p dlA_Calc_reckon_154 (i := 5) rfl) ?_
              refine zw_dup (pc := 58) rfl (zdal_p dlA_Calc_reckon_154 (i := 6) rfl) ?_
              refine zk_getI (pc := 59) f_Calc_28 rfl ((hf_N14_.w hW).kr (o := 33) (by decide)) (zdal_p dlA_Calc_reckon_154 (i := 7) rfl) ?_
              have hr15_ := ze_r N14_ (d_ + 33) 3
              refine zw_iconst (pc := 62) (v := Int32.ofInt 1) (by decide) (zdal_p dlA_Calc_reckon_154 (i := 8) rfl) ?_
              refine zr_isub (pc := 63) (zdal_p dlA_Calc_reckon_154 (i := 9) rfl) ?_
              refine zr_nmI (fun v16_ hv16_ => ?_)
              obtain ⟨hv16_a, hv16_b⟩ := hv16_
              refine zk_putR (pc := 64) (o := 33) (by decide) f_Calc_28 rfl rfl ((hf_N14_.w hW).kr (o := 33) (by decide)) ⟨by (exact hv16_a), by (exact hv16_b)⟩ rfl rfl (zdal_p dlA_Calc_reckon_154 (i := 10) rfl) (fun N17_ hsN17_ hvN17_ => ?_)
              have hf_N17_ : zFc d_ [] [] [(33, 2), (33, 3), (33, 6)] [25, 27] Mz N17_ := hf_N14_.tr hsN17_ (by decide) (by decide) (by decide) (by decide)
              have hb0_N17_ : zFc d_ [] [] [(33, 2), (33, 3), (33, 6)] [25, 27] Mz N17_ := hb0_N14_.tr hsN17_ (by decide) (by decide) (by decide) (by decide)
              have eD33_2_N17_ : ze N17_ (d_ + 33) 2 = ze N14_ (d_ + 33) 2 := hsN17_.e (by decide)
              refine zw_iconst (pc := 67) (v := Int32.ofInt 1) (by decide) (zdal_p dlA_Calc_reckon_154 (i := 11) rfl) ?_
              refine zw_istore (pc := 68) (i := 4) (L2 := [some (.ref (d_ + 33)), some (.int (Int32.ofInt a0_)), some (.int (Int32.ofInt v10_)), some (.int (Int32.ofInt v12_)), some (.int (Int32.ofInt 1))]) (by decide) rfl (zdal_p dlA_Calc_reckon_154 (i := 12) rfl) ?_
              refine zw_iload_n (pc := 70) (n := 2) (x := Int32.ofInt v10_) rfl (zdal_p dlA_Calc_reckon_154 (i := 13) rfl) ?_
              refine zw_bipush (pc := 71) (v := Int32.ofInt 42) (by decide) (zdal_p dlA_Calc_reckon_154 (i := 14) rfl) ?_
              refine zr_icmp_ne (pc := 73) (tgt := 93) ⟨hv10_a, hv10_b⟩ ⟨(by decide), (by decide)⟩ (by decide) (zdal_p dlA_Calc_reckon_154 (i := 15) rfl) (fun hc_73 => ?_) (fun hc_73 => ?_)
              · skip
                refine zw_aload_n (pc := 93) (n := 0) (x := (d_ + 33)) rfl (zdal_p dlA_Calc_reckon_155 (i := 0) rfl) ?_
                refine zw_getF (pc := 94) f_Calc_20 rfl ((hf_N17_.w hW).kr (o := 33) (by decide)) ((hf_N17_.w hW).lr (o := 33) (s := 0) (r := 23) (by decide)) (zdal_p dlA_Calc_reckon_155 (i := 1) rfl) ?_
                refine zw_aload_n (pc := 97) (n := 0) (x := (d_ + 33)) rfl (zdal_p dlA_Calc_reckon_155 (i := 2) rfl) ?_
                refine zk_callV hf_N17_.x (pc := 98) [] [.ref (d_ + 23)] l_Calc_43 (u_Calc_topShelfX l d_ N17_ (hf_N17_.w hW) ) rfl rfl ((hf_N17_.w hW).kr (o := 33) (by decide)) (by decide) (by decide) (Nat.le_of_ble_eq_true rfl) (zdal_p dlA_Calc_reckon_155 (i := 3) rfl) ?_
                rintro _ N18_ ⟨v19_, rfl, ⟨hv19_a, hv19_b⟩, hsN18_, -⟩
                obtain rfl := hsN18_.eq.symm
                show zW l m_Calc_reckon (zn Mz + 0, zw Mz + 0) N17_ 101 [some (.ref (d_ + 33)), some (.int (Int32.ofInt a0_)), some (.int (Int32.ofInt v10_)), some (.int (Int32.ofInt v12_)), some (.int (Int32.ofInt 1))] [.int (Int32.ofInt v19_), .ref (d_ + 23)] _
                refine zw_iload_n (pc := 101) (n := 3) (x := Int32.ofInt v12_) rfl (zdal_p dlA_Calc_reckon_155 (i := 4) rfl) ?_
                refine zw_iload_n (pc := 102) (n := 2) (x := Int32.ofInt v10_) rfl (zdal_p dlA_Calc_reckon_155 (i := 5) rfl) ?_
                refine zw_bipush (pc := 103) (v := Int32.ofInt 43) (by decide) (zdal_p dlA_Calc_reckon_155 (i := 6) rfl) ?_
                refine zr_icmp_ne (pc := 105) (tgt := 112) ⟨hv10_a, hv10_b⟩ ⟨(by decide), (by decide)⟩ (by decide) (zdal_p dlA_Calc_reckon_155 (i := 7) rfl) (fun hc_105 => ?_) (fun hc_105 => ?_)
                · skip
                  refine zw_iconst (pc := 112) (v := Int32.ofInt (-1)) (by decide) (zdal_p dlA_Calc_reckon_155 (i := 10) rfl) ?_
                  refine zk_callV hf_N17_.x (pc := 113) [.int (Int32.ofInt v19_), .int (Int32.ofInt v12_), .int (Int32.ofInt ((-1)))] [] l_Calc_98 (u_Sums_addX l d_ N17_ (hf_N17_.w hW) v19_ hv19_a hv19_b v12_ hv12_a hv12_b ((-1)) (by decide) (by decide)) rfl rfl ((hf_N17_.w hW).kr (o := 23) (by decide)) (by decide) (by decide) (Nat.le_of_ble_eq_true rfl) d_Calc_reckon_113 ?_
                  rintro _ N20_ ⟨rfl, hsN20_, -⟩
                  have hf_N20_ : zFc d_ [] [] [(33, 2), (33, 3), (33, 6)] [25, 27] Mz N20_ := hf_N17_.tr hsN20_ (by decide) (by decide) (by decide) (by decide)
                  have hb0_N20_ : zFc d_ [] [] [(33, 2), (33, 3), (33, 6)] [25, 27] Mz N20_ := hb0_N17_.tr hsN20_ (by decide) (by decide) (by decide) (by decide)
                  have eD33_2_N20_ : ze N20_ (d_ + 33) 2 = ze N17_ (d_ + 33) 2 := hsN20_.e (by decide)
                  show zW l m_Calc_reckon (zn Mz + 0, zw Mz + 0) N20_ 116 [some (.ref (d_ + 33)), some (.int (Int32.ofInt a0_)), some (.int (Int32.ofInt v10_)), some (.int (Int32.ofInt v12_)), some (.int (Int32.ofInt 1))] [] _
                  refine zw_aload_n (pc := 116) (n := 0) (x := (d_ + 33)) rfl d_Calc_reckon_116 ?_
                  refine zw_iload (pc := 117) (i := 4) (x := Int32.ofInt 1) rfl d_Calc_reckon_117 ?_
                  refine zr_if_eq (pc := 119) (tgt := 140) ⟨(by decide), (by decide)⟩ (by decide) d_Calc_reckon_119 (fun hc_119 => ?_) (fun hc_119 => ?_)
                  · skip
                    exact absurd hc_119 (by decide)
                  · skip
                    refine zw_aload_n (pc := 122) (n := 0) (x := (d_ + 33)) rfl d_Calc_reckon_122 ?_
                    refine zw_getF (pc := 123) f_Calc_20 rfl ((hf_N20_.w hW).kr (o := 33) (by decide)) ((hf_N20_.w hW).lr (o := 33) (s := 0) (r := 23) (by decide)) d_Calc_reckon_123 ?_
                    refine zw_aload_n (pc := 126) (n := 0) (x := (d_ + 33)) rfl d_Calc_reckon_126 ?_
                    refine zk_callV hf_N20_.x (pc := 127) [] [.ref (d_ + 23), .ref (d_ + 33)] l_Calc_43 (u_Calc_topShelfX l d_ N20_ (hf_N20_.w hW) ) rfl rfl ((hf_N20_.w hW).kr (o := 33) (by decide)) (by decide) (by decide) (Nat.le_of_ble_eq_true rfl) d_Calc_reckon_127 ?_
                    rintro _ N22_ ⟨v23_, rfl, ⟨hv23_a, hv23_b⟩, hsN22_, -⟩
                    obtain rfl := hsN22_.eq.symm
                    show zW l m_Calc_reckon (zn Mz + 0, zw Mz + 0) N20_ 130 [some (.ref (d_ + 33)), some (.int (Int32.ofInt a0_)), some (.int (Int32.ofInt v10_)), some (.int (Int32.ofInt v12_)), some (.int (Int32.ofInt 1))] [.int (Int32.ofInt v23_), .ref (d_ + 23), .ref (d_ + 33)] _
                    refine zk_callV hf_N20_.x (pc := 130) [.int (Int32.ofInt v23_)] [.ref (d_ + 33)] l_Calc_81 (u_Sums_isInBoundsX l d_ N20_ (hf_N20_.w hW) v23_ hv23_a hv23_b) rfl rfl ((hf_N20_.w hW).kr (o := 23) (by decide)) (by decide) (by decide) (Nat.le_of_ble_eq_true rfl) d_Calc_reckon_130 ?_
                    rintro _ N24_ ⟨v25_, rfl, ⟨hv25_a, hv25_b⟩, hsN24_, hp0_N24_⟩
                    obtain rfl := hsN24_.eq.symm
                    replace hp0_N24_ : (v25_ = 0 ∨ v25_ = 1) := hp0_N24_
                    show zW l m_Calc_reckon (zn Mz + 0, zw Mz + 0) N20_ 133 [some (.ref (d_ + 33)), some (.int (Int32.ofInt a0_)), some (.int (Int32.ofInt v10_)), some (.int (Int32.ofInt v12_)), some (.int (Int32.ofInt 1))] [.int (Int32.ofInt v25_), .ref (d_ + 33)] _
                    refine zr_if_eq (pc := 133) (tgt := 140) ⟨hv25_a, hv25_b⟩ (by decide) d_Calc_reckon_133 (fun hc_133 => ?_) (fun hc_133 => ?_)
                    · skip
                      refine zw_iconst (pc := 140) (v := Int32.ofInt 0) (by decide) d_Calc_reckon_140 ?_
                      refine zk_callV hf_N20_.x (pc := 141) [.int (Int32.ofInt 0)] [] l_Calc_85 (u_Calc_settleX l d_ N20_ (hf_N20_.w hW) 0 (by decide) (by decide) (by (decide))) rfl rfl ((hf_N20_.w hW).kr (o := 33) (by decide)) (by decide) (by decide) (Nat.le_of_ble_eq_true rfl) d_Calc_reckon_141 ?_
                      rintro _ N26_ ⟨rfl, hsN26_, -⟩
                      have hf_N26_ : zFc d_ [] [] [(33, 2), (33, 3), (33, 6)] [25, 27] Mz N26_ := hf_N20_.tr hsN26_ (by decide) (by decide) (by decide) (by decide)
                      have hb0_N26_ : zFc d_ [] [] [(33, 2), (33, 3), (33, 6)] [25, 27] Mz N26_ := hb0_N20_.tr hsN26_ (by decide) (by decide) (by decide) (by decide)
                      have eD33_2_N26_ : ze N26_ (d_ + 33) 2 = ze N20_ (d_ + 33) 2 := hsN26_.e (by decide)
                      show zW l m_Calc_reckon (zn Mz + 0, zw Mz + 0) N26_ 144 [some (.ref (d_ + 33)), some (.int (Int32.ofInt a0_)), some (.int (Int32.ofInt v10_)), some (.int (Int32.ofInt v12_)), some (.int (Int32.ofInt 1))] [] _
                      refine zw_goto (pc := 144) (tgt := 0) (by decide) d_Calc_reckon_144 ?_
                      refine zW_le [some (.ref (d_ + 33)), some (.int (Int32.ofInt a0_)), none, none, none] (⟨rfl, rfl, trivial⟩) ?_
                      exact ih_0 N26_ hb0_N26_ (by (exact zo_2718 eD33_2_N17_ eD33_2_N20_ eD33_2_N26_ hc_4 hlt_0 hvN14_ hx_ rD33_2_N14_.2))
                    · skip
                      refine zw_iconst (pc := 136) (v := Int32.ofInt 1) (by decide) d_Calc_reckon_136 ?_
                      refine zw_goto (pc := 137) (tgt := 141) (by decide) d_Calc_reckon_137 ?_
                      refine zk_callV hf_N20_.x (pc := 141) [.int (Int32.ofInt 1)] [] l_Calc_85 (u_Calc_settleX l d_ N20_ (hf_N20_.w hW) 1 (by decide) (by decide) (by (decide))) rfl rfl ((hf_N20_.w hW).kr (o := 33) (by decide)) (by decide) (by decide) (Nat.le_of_ble_eq_true rfl) d_Calc_reckon_141 ?_
                      rintro _ N28_ ⟨rfl, hsN28_, -⟩
                      have hf_N28_ : zFc d_ [] [] [(33, 2), (33, 3), (33, 6)] [25, 27] Mz N28_ := hf_N20_.tr hsN28_ (by decide) (by decide) (by decide) (by decide)
                      have hb0_N28_ : zFc d_ [] [] [(33, 2), (33, 3), (33, 6)] [25, 27] Mz N28_ := hb0_N20_.tr hsN28_ (by decide) (by decide) (by decide) (by decide)
                      have eD33_2_N28_ : ze N28_ (d_ + 33) 2 = ze N20_ (d_ + 33) 2 := hsN28_.e (by decide)
                      show zW l m_Calc_reckon (zn Mz + 0, zw Mz + 0) N28_ 144 [some (.ref (d_ + 33)), some (.int (Int32.ofInt a0_)), some (.int (Int32.ofInt v10_)), some (.int (Int32.ofInt v12_)), some (.int (Int32.ofInt 1))] [] _
                      refine zw_goto (pc := 144) (tgt := 0) (by decide) d_Calc_reckon_144 ?_
                      refine zW_le [some (.ref (d_ + 33)), some (.int (Int32.ofInt a0_)), none, none, none] (⟨rfl, rfl, trivial⟩) ?_
                      exact ih_0 N28_ hb0_N28_ (by (exact zo_2718 eD33_2_N17_ eD33_2_N20_ eD33_2_N28_ hc_4 hlt_0 hvN14_ hx_ rD33_2_N14_.2))
                · skip
                  refine zw_iconst (pc := 108) (v := Int32.ofInt 1) (by decide) (zdal_p dlA_Calc_reckon_155 (i := 8) rfl) ?_
                  refine zw_goto (pc := 109) (tgt := 113) (by decide) (zdal_p dlA_Calc_reckon_155 (i := 9) rfl) ?_
                  refine zk_callV hf_N17_.x (pc := 113) [.int (Int32.ofInt v19_), .int (Int32.ofInt v12_), .int (Int32.ofInt 1)] [] l_Calc_98 (u_Sums_addX l d_ N17_ (hf_N17_.w hW) v19_ hv19_a hv19_b v12_ hv12_a hv12_b 1 (by decide) (by decide)) rfl rfl ((hf_N17_.w hW).kr (o := 23) (by decide)) (by decide) (by decide) (Nat.le_of_ble_eq_true rfl) d_Calc_reckon_113 ?_
                  rintro _ N30_ ⟨rfl, hsN30_, -⟩
                  have hf_N30_ : zFc d_ [] [] [(33, 2), (33, 3), (33, 6)] [25, 27] Mz N30_ := hf_N17_.tr hsN30_ (by decide) (by decide) (by decide) (by decide)
                  have hb0_N30_ : zFc d_ [] [] [(33, 2), (33, 3), (33, 6)] [25, 27] Mz N30_ := hb0_N17_.tr hsN30_ (by decide) (by decide) (by decide) (by decide)
                  have eD33_2_N30_ : ze N30_ (d_ + 33) 2 = ze N17_ (d_ + 33) 2 := hsN30_.e (by decide)
                  show zW l m_Calc_reckon (zn Mz + 0, zw Mz + 0) N30_ 116 [some (.ref (d_ + 33)), some (.int (Int32.ofInt a0_)), some (.int (Int32.ofInt v10_)), some (.int (Int32.ofInt v12_)), some (.int (Int32.ofInt 1))] [] _
                  refine zw_aload_n (pc := 116) (n := 0) (x := (d_ + 33)) rfl d_Calc_reckon_116 ?_
                  refine zw_iload (pc := 117) (i := 4) (x := Int32.ofInt 1) rfl d_Calc_reckon_117 ?_
                  refine zr_if_eq (pc := 119) (tgt := 140) ⟨(by decide), (by decide)⟩ (by decide) d_Calc_reckon_119 (fun hc_119 => ?_) (fun hc_119 => ?_)
                  · skip
                    exact absurd hc_119 (by decide)
                  · skip
                    refine zw_aload_n (pc := 122) (n := 0) (x := (d_ + 33)) rfl d_Calc_reckon_122 ?_
                    refine zw_getF (pc := 123) f_Calc_20 rfl ((hf_N30_.w hW).kr (o := 33) (by decide)) ((hf_N30_.w hW).lr (o := 33) (s := 0) (r := 23) (by decide)) d_Calc_reckon_123 ?_
                    refine zw_aload_n (pc := 126) (n := 0) (x := (d_ + 33)) rfl d_Calc_reckon_126 ?_
                    refine zk_callV hf_N30_.x (pc := 127) [] [.ref (d_ + 23), .ref (d_ + 33)] l_Calc_43 (u_Calc_topShelfX l d_ N30_ (hf_N30_.w hW) ) rfl rfl ((hf_N30_.w hW).kr (o := 33) (by decide)) (by decide) (by decide) (Nat.le_of_ble_eq_true rfl) d_Calc_reckon_127 ?_
                    rintro _ N32_ ⟨v33_, rfl, ⟨hv33_a, hv33_b⟩, hsN32_, -⟩
                    obtain rfl := hsN32_.eq.symm
                    show zW l m_Calc_reckon (zn Mz + 0, zw Mz + 0) N30_ 130 [some (.ref (d_ + 33)), some (.int (Int32.ofInt a0_)), some (.int (Int32.ofInt v10_)), some (.int (Int32.ofInt v12_)), some (.int (Int32.ofInt 1))] [.int (Int32.ofInt v33_), .ref (d_ + 23), .ref (d_ + 33)] _
                    refine zk_callV hf_N30_.x (pc := 130) [.int (Int32.ofInt v33_)] [.ref (d_ + 33)] l_Calc_81 (u_Sums_isInBoundsX l d_ N30_ (hf_N30_.w hW) v33_ hv33_a hv33_b) rfl rfl ((hf_N30_.w hW).kr (o := 23) (by decide)) (by decide) (by decide) (Nat.le_of_ble_eq_true rfl) d_Calc_reckon_130 ?_
                    rintro _ N34_ ⟨v35_, rfl, ⟨hv35_a, hv35_b⟩, hsN34_, hp0_N34_⟩
                    obtain rfl := hsN34_.eq.symm
                    replace hp0_N34_ : (v35_ = 0 ∨ v35_ = 1) := hp0_N34_
                    show zW l m_Calc_reckon (zn Mz + 0, zw Mz + 0) N30_ 133 [some (.ref (d_ + 33)), some (.int (Int32.ofInt a0_)), some (.int (Int32.ofInt v10_)), some (.int (Int32.ofInt v12_)), some (.int (Int32.ofInt 1))] [.int (Int32.ofInt v35_), .ref (d_ + 33)] _
                    refine zr_if_eq (pc := 133) (tgt := 140) ⟨hv35_a, hv35_b⟩ (by decide) d_Calc_reckon_133 (fun hc_133 => ?_) (fun hc_133 => ?_)
                    · skip
                      refine zw_iconst (pc := 140) (v := Int32.ofInt 0) (by decide) d_Calc_reckon_140 ?_
                      refine zk_callV hf_N30_.x (pc := 141) [.int (Int32.ofInt 0)] [] l_Calc_85 (u_Calc_settleX l d_ N30_ (hf_N30_.w hW) 0 (by decide) (by decide) (by (decide))) rfl rfl ((hf_N30_.w hW).kr (o := 33) (by decide)) (by decide) (by decide) (Nat.le_of_ble_eq_true rfl) d_Calc_reckon_141 ?_
                      rintro _ N36_ ⟨rfl, hsN36_, -⟩
                      have hf_N36_ : zFc d_ [] [] [(33, 2), (33, 3), (33, 6)] [25, 27] Mz N36_ := hf_N30_.tr hsN36_ (by decide) (by decide) (by decide) (by decide)
                      have hb0_N36_ : zFc d_ [] [] [(33, 2), (33, 3), (33, 6)] [25, 27] Mz N36_ := hb0_N30_.tr hsN36_ (by decide) (by decide) (by decide) (by decide)
                      have eD33_2_N36_ : ze N36_ (d_ + 33) 2 = ze N30_ (d_ + 33) 2 := hsN36_.e (by decide)
                      show zW l m_Calc_reckon (zn Mz + 0, zw Mz + 0) N36_ 144 [some (.ref (d_ + 33)), some (.int (Int32.ofInt a0_)), some (.int (Int32.ofInt v10_)), some (.int (Int32.ofInt v12_)), some (.int (Int32.ofInt 1))] [] _
                      refine zw_goto (pc := 144) (tgt := 0) (by decide) d_Calc_reckon_144 ?_
                      refine zW_le [some (.ref (d_ + 33)), some (.int (Int32.ofInt a0_)), none, none, none] (⟨rfl, rfl, trivial⟩) ?_
                      exact ih_0 N36_ hb0_N36_ (by (exact zo_2718 eD33_2_N17_ eD33_2_N30_ eD33_2_N36_ hc_4 hlt_0 hvN14_ hx_ rD33_2_N14_.2))
                    · skip
                      refine zw_iconst (pc := 136) (v := Int32.ofInt 1) (by decide) d_Calc_reckon_136 ?_
                      refine zw_goto (pc := 137) (tgt := 141) (by decide) d_Calc_reckon_137 ?_
                      refine zk_callV hf_N30_.x (pc := 141) [.int (Int32.ofInt 1)] [] l_Calc_85 (u_Calc_settleX l d_ N30_ (hf_N30_.w hW) 1 (by decide) (by decide) (by (decide))) rfl rfl ((hf_N30_.w hW).kr (o := 33) (by decide)) (by decide) (by decide) (Nat.le_of_ble_eq_true rfl) d_Calc_reckon_141 ?_
                      rintro _ N38_ ⟨rfl, hsN38_, -⟩
                      have hf_N38_ : zFc d_ [] [] [(33, 2), (33, 3), (33, 6)] [25, 27] Mz N38_ := hf_N30_.tr hsN38_ (by decide) (by decide) (by decide) (by decide)
                      have hb0_N38_ : zFc d_ [] [] [(33, 2), (33, 3), (33, 6)] [25, 27] Mz N38_ := hb0_N30_.tr hsN38_ (by decide) (by decide) (by decide) (by decide)
                      have eD33_2_N38_ : ze N38_ (d_ + 33) 2 = ze N30_ (d_ + 33) 2 := hsN38_.e (by decide)
                      show zW l m_Calc_reckon (zn Mz + 0, zw Mz + 0) N38_ 144 [some (.ref (d_ + 33)), some (.int (Int32.ofInt a0_)), some (.int (Int32.ofInt v10_)), some (.int (Int32.ofInt v12_)), some (.int (Int32.ofInt 1))] [] _
                      refine zw_goto (pc := 144) (tgt := 0) (by decide) d_Calc_reckon_144 ?_
                      refine zW_le [some (.ref (d_ + 33)), some (.int (Int32.ofInt a0_)), none, none, none] (⟨rfl, rfl, trivial⟩) ?_
                      exact ih_0 N38_ hb0_N38_ (by (exact zo_2718 eD33_2_N17_ eD33_2_N30_ eD33_2_N38_ hc_4 hlt_0 hvN14_ hx_ rD33_2_N14_.2))
              · skip
                refine zw_aload_n (pc := 76) (n := 0) (x := (d_ + 33)) rfl (zdal_p dlA_Calc_reckon_154 (i := 16) rfl) ?_
                refine zw_getF (pc := 77) f_Calc_20 rfl ((hf_N17_.w hW).kr (o := 33) (by decide)) ((hf_N17_.w hW).lr (o := 33) (s := 0) (r := 23) (by decide)) (zdal_p dlA_Calc_reckon_154 (i := 17) rfl) ?_
                refine zw_aload_n (pc := 80) (n := 0) (x := (d_ + 33)) rfl (zdal_p dlA_Calc_reckon_154 (i := 18) rfl) ?_
                refine zk_callV hf_N17_.x (pc := 81) [] [.ref (d_ + 23)] l_Calc_43 (u_Calc_topShelfX l d_ N17_ (hf_N17_.w hW) ) rfl rfl ((hf_N17_.w hW).kr (o := 33) (by decide)) (by decide) (by decide) (Nat.le_of_ble_eq_true rfl) (zdal_p dlA_Calc_reckon_154 (i := 19) rfl) ?_
                rintro _ N40_ ⟨v41_, rfl, ⟨hv41_a, hv41_b⟩, hsN40_, -⟩
                obtain rfl := hsN40_.eq.symm
                show zW l m_Calc_reckon (zn Mz + 0, zw Mz + 0) N17_ 84 [some (.ref (d_ + 33)), some (.int (Int32.ofInt a0_)), some (.int (Int32.ofInt v10_)), some (.int (Int32.ofInt v12_)), some (.int (Int32.ofInt 1))] [.int (Int32.ofInt v41_), .ref (d_ + 23)] _
                refine zw_iload_n (pc := 84) (n := 3) (x := Int32.ofInt v12_) rfl (zdal_p dlA_Calc_reckon_154 (i := 20) rfl) ?_
                refine zk_callV hf_N17_.x (pc := 85) [.int (Int32.ofInt v41_), .int (Int32.ofInt v12_)] [] l_Calc_77 (u_Sums_multiplyX l d_ N17_ (hf_N17_.w hW) v41_ hv41_a hv41_b v12_ hv12_a hv12_b) rfl rfl ((hf_N17_.w hW).kr (o := 23) (by decide)) (by decide) (by decide) (Nat.le_of_ble_eq_true rfl) (zdal_p dlA_Calc_reckon_154 (i := 21) rfl) ?_
                rintro _ N42_ ⟨v43_, rfl, ⟨hv43_a, hv43_b⟩, hsN42_, hp0_N42_⟩
                replace hp0_N42_ : (v43_ = 0 ∨ v43_ = 1) := hp0_N42_
                have hf_N42_ : zFc d_ [] [] [(33, 2), (33, 3), (33, 6)] [25, 27] Mz N42_ := hf_N17_.tr hsN42_ (by decide) (by decide) (by decide) (by decide)
                have hb0_N42_ : zFc d_ [] [] [(33, 2), (33, 3), (33, 6)] [25, 27] Mz N42_ := hb0_N17_.tr hsN42_ (by decide) (by decide) (by decide) (by decide)
                have eD33_2_N42_ : ze N42_ (d_ + 33) 2 = ze N17_ (d_ + 33) 2 := hsN42_.e (by decide)
                show zW l m_Calc_reckon (zn Mz + 0, zw Mz + 0) N42_ 88 [some (.ref (d_ + 33)), some (.int (Int32.ofInt a0_)), some (.int (Int32.ofInt v10_)), some (.int (Int32.ofInt v12_)), some (.int (Int32.ofInt 1))] [.int (Int32.ofInt v43_)] _
                refine zw_istore (pc := 88) (i := 4) (L2 := [some (.ref (d_ + 33)), some (.int (Int32.ofInt a0_)), some (.int (Int32.ofInt v10_)), some (.int (Int32.ofInt v12_)), some (.int (Int32.ofInt v43_))]) (by decide) rfl (zdal_p dlA_Calc_reckon_154 (i := 22) rfl) ?_
                refine zw_goto (pc := 90) (tgt := 116) (by decide) (zdal_p dlA_Calc_reckon_154 (i := 23) rfl) ?_
                refine zw_aload_n (pc := 116) (n := 0) (x := (d_ + 33)) rfl d_Calc_reckon_116 ?_
                refine zw_iload (pc := 117) (i := 4) (x := Int32.ofInt v43_) rfl d_Calc_reckon_117 ?_
                refine zr_if_eq (pc := 119) (tgt := 140) ⟨hv43_a, hv43_b⟩ (by decide) d_Calc_reckon_119 (fun hc_119 => ?_) (fun hc_119 => ?_)
                · skip
                  refine zw_iconst (pc := 140) (v := Int32.ofInt 0) (by decide) d_Calc_reckon_140 ?_
                  refine zk_callV hf_N42_.x (pc := 141) [.int (Int32.ofInt 0)] [] l_Calc_85 (u_Calc_settleX l d_ N42_ (hf_N42_.w hW) 0 (by decide) (by decide) (by (decide))) rfl rfl ((hf_N42_.w hW).kr (o := 33) (by decide)) (by decide) (by decide) (Nat.le_of_ble_eq_true rfl) d_Calc_reckon_141 ?_
                  rintro _ N44_ ⟨rfl, hsN44_, -⟩
                  have hf_N44_ : zFc d_ [] [] [(33, 2), (33, 3), (33, 6)] [25, 27] Mz N44_ := hf_N42_.tr hsN44_ (by decide) (by decide) (by decide) (by decide)
                  have hb0_N44_ : zFc d_ [] [] [(33, 2), (33, 3), (33, 6)] [25, 27] Mz N44_ := hb0_N42_.tr hsN44_ (by decide) (by decide) (by decide) (by decide)
                  have eD33_2_N44_ : ze N44_ (d_ + 33) 2 = ze N42_ (d_ + 33) 2 := hsN44_.e (by decide)
                  show zW l m_Calc_reckon (zn Mz + 0, zw Mz + 0) N44_ 144 [some (.ref (d_ + 33)), some (.int (Int32.ofInt a0_)), some (.int (Int32.ofInt v10_)), some (.int (Int32.ofInt v12_)), some (.int (Int32.ofInt v43_))] [] _
                  refine zw_goto (pc := 144) (tgt := 0) (by decide) d_Calc_reckon_144 ?_
                  refine zW_le [some (.ref (d_ + 33)), some (.int (Int32.ofInt a0_)), none, none, none] (⟨rfl, rfl, trivial⟩) ?_
                  exact ih_0 N44_ hb0_N44_ (by (exact zo_2718 eD33_2_N17_ eD33_2_N42_ eD33_2_N44_ hc_4 hlt_0 hvN14_ hx_ rD33_2_N14_.2))
                · skip
                  refine zw_aload_n (pc := 122) (n := 0) (x := (d_ + 33)) rfl d_Calc_reckon_122 ?_
                  refine zw_getF (pc := 123) f_Calc_20 rfl ((hf_N42_.w hW).kr (o := 33) (by decide)) ((hf_N42_.w hW).lr (o := 33) (s := 0) (r := 23) (by decide)) d_Calc_reckon_123 ?_
                  refine zw_aload_n (pc := 126) (n := 0) (x := (d_ + 33)) rfl d_Calc_reckon_126 ?_
                  refine zk_callV hf_N42_.x (pc := 127) [] [.ref (d_ + 23), .ref (d_ + 33)] l_Calc_43 (u_Calc_topShelfX l d_ N42_ (hf_N42_.w hW) ) rfl rfl ((hf_N42_.w hW).kr (o := 33) (by decide)) (by decide) (by decide) (Nat.le_of_ble_eq_true rfl) d_Calc_reckon_127 ?_
                  rintro _ N46_ ⟨v47_, rfl, ⟨hv47_a, hv47_b⟩, hsN46_, -⟩
                  obtain rfl := hsN46_.eq.symm
                  show zW l m_Calc_reckon (zn Mz + 0, zw Mz + 0) N42_ 130 [some (.ref (d_ + 33)), some (.int (Int32.ofInt a0_)), some (.int (Int32.ofInt v10_)), some (.int (Int32.ofInt v12_)), some (.int (Int32.ofInt v43_))] [.int (Int32.ofInt v47_), .ref (d_ + 23), .ref (d_ + 33)] _
                  refine zk_callV hf_N42_.x (pc := 130) [.int (Int32.ofInt v47_)] [.ref (d_ + 33)] l_Calc_81 (u_Sums_isInBoundsX l d_ N42_ (hf_N42_.w hW) v47_ hv47_a hv47_b) rfl rfl ((hf_N42_.w hW).kr (o := 23) (by decide)) (by decide) (by decide) (Nat.le_of_ble_eq_true rfl) d_Calc_reckon_130 ?_
                  rintro _ N48_ ⟨v49_, rfl, ⟨hv49_a, hv49_b⟩, hsN48_, hp0_N48_⟩
                  obtain rfl := hsN48_.eq.symm
                  replace hp0_N48_ : (v49_ = 0 ∨ v49_ = 1) := hp0_N48_
                  show zW l m_Calc_reckon (zn Mz + 0, zw Mz + 0) N42_ 133 [some (.ref (d_ + 33)), some (.int (Int32.ofInt a0_)), some (.int (Int32.ofInt v10_)), some (.int (Int32.ofInt v12_)), some (.int (Int32.ofInt v43_))] [.int (Int32.ofInt v49_), .ref (d_ + 33)] _
                  refine zr_if_eq (pc := 133) (tgt := 140) ⟨hv49_a, hv49_b⟩ (by decide) d_Calc_reckon_133 (fun hc_133 => ?_) (fun hc_133 => ?_)
                  · skip
                    refine zw_iconst (pc := 140) (v := Int32.ofInt 0) (by decide) d_Calc_reckon_140 ?_
                    refine zk_callV hf_N42_.x (pc := 141) [.int (Int32.ofInt 0)] [] l_Calc_85 (u_Calc_settleX l d_ N42_ (hf_N42_.w hW) 0 (by decide) (by decide) (by (decide))) rfl rfl ((hf_N42_.w hW).kr (o := 33) (by decide)) (by decide) (by decide) (Nat.le_of_ble_eq_true rfl) d_Calc_reckon_141 ?_
                    rintro _ N50_ ⟨rfl, hsN50_, -⟩
                    have hf_N50_ : zFc d_ [] [] [(33, 2), (33, 3), (33, 6)] [25, 27] Mz N50_ := hf_N42_.tr hsN50_ (by decide) (by decide) (by decide) (by decide)
                    have hb0_N50_ : zFc d_ [] [] [(33, 2), (33, 3), (33, 6)] [25, 27] Mz N50_ := hb0_N42_.tr hsN50_ (by decide) (by decide) (by decide) (by decide)
                    have eD33_2_N50_ : ze N50_ (d_ + 33) 2 = ze N42_ (d_ + 33) 2 := hsN50_.e (by decide)
                    show zW l m_Calc_reckon (zn Mz + 0, zw Mz + 0) N50_ 144 [some (.ref (d_ + 33)), some (.int (Int32.ofInt a0_)), some (.int (Int32.ofInt v10_)), some (.int (Int32.ofInt v12_)), some (.int (Int32.ofInt v43_))] [] _
                    refine zw_goto (pc := 144) (tgt := 0) (by decide) d_Calc_reckon_144 ?_
                    refine zW_le [some (.ref (d_ + 33)), some (.int (Int32.ofInt a0_)), none, none, none] (⟨rfl, rfl, trivial⟩) ?_
                    exact ih_0 N50_ hb0_N50_ (by (exact zo_2718 eD33_2_N17_ eD33_2_N42_ eD33_2_N50_ hc_4 hlt_0 hvN14_ hx_ rD33_2_N14_.2))
                  · skip
                    refine zw_iconst (pc := 136) (v := Int32.ofInt 1) (by decide) d_Calc_reckon_136 ?_
                    refine zw_goto (pc := 137) (tgt := 141) (by decide) d_Calc_reckon_137 ?_
                    refine zk_callV hf_N42_.x (pc := 141) [.int (Int32.ofInt 1)] [] l_Calc_85 (u_Calc_settleX l d_ N42_ (hf_N42_.w hW) 1 (by decide) (by decide) (by (decide))) rfl rfl ((hf_N42_.w hW).kr (o := 33) (by decide)) (by decide) (by decide) (Nat.le_of_ble_eq_true rfl) d_Calc_reckon_141 ?_
                    rintro _ N52_ ⟨rfl, hsN52_, -⟩
                    have hf_N52_ : zFc d_ [] [] [(33, 2), (33, 3), (33, 6)] [25, 27] Mz N52_ := hf_N42_.tr hsN52_ (by decide) (by decide) (by decide) (by decide)
                    have hb0_N52_ : zFc d_ [] [] [(33, 2), (33, 3), (33, 6)] [25, 27] Mz N52_ := hb0_N42_.tr hsN52_ (by decide) (by decide) (by decide) (by decide)
                    have eD33_2_N52_ : ze N52_ (d_ + 33) 2 = ze N42_ (d_ + 33) 2 := hsN52_.e (by decide)
                    show zW l m_Calc_reckon (zn Mz + 0, zw Mz + 0) N52_ 144 [some (.ref (d_ + 33)), some (.int (Int32.ofInt a0_)), some (.int (Int32.ofInt v10_)), some (.int (Int32.ofInt v12_)), some (.int (Int32.ofInt v43_))] [] _
                    refine zw_goto (pc := 144) (tgt := 0) (by decide) d_Calc_reckon_144 ?_
                    refine zW_le [some (.ref (d_ + 33)), some (.int (Int32.ofInt a0_)), none, none, none] (⟨rfl, rfl, trivial⟩) ?_
                    exact ih_0 N52_ hb0_N52_ (by (exact zo_2718 eD33_2_N17_ eD33_2_N42_ eD33_2_N52_ hc_4 hlt_0 hvN14_ hx_ rD33_2_N14_.2))
            · skip
              refine zw_iload_n (pc := 33) (n := 1) (x := Int32.ofInt a0_) rfl (zdal_p dlA_Calc_reckon_153 (i := 15) rfl) ?_
              refine zr_if_ne (pc := 34) (tgt := 147) ⟨ha0_a, ha0_b⟩ (by decide) (zdal_p dlA_Calc_reckon_153 (i := 16) rfl) (fun hc_34 => ?_) (fun hc_34 => ?_)
              · skip
                exact zk_vret (pc := 147) rfl hf_N1_ trivial d_Calc_reckon_147
              · skip
                refine zw_aload_n (pc := 37) (n := 0) (x := (d_ + 33)) rfl (zdal_p dlA_Calc_reckon_153 (i := 17) rfl) ?_
                refine zk_callV hf_N1_.x (pc := 38) [] [] l_Calc_89 (u_Calc_topSignX l d_ N1_ (hf_N1_.w hW) ) rfl rfl ((hf_N1_.w hW).kr (o := 33) (by decide)) (by decide) (by decide) (Nat.le_of_ble_eq_true rfl) (zdal_p dlA_Calc_reckon_153 (i := 18) rfl) ?_
                rintro _ N54_ ⟨v55_, rfl, ⟨hv55_a, hv55_b⟩, hsN54_, -⟩
                obtain rfl := hsN54_.eq.symm
                show zW l m_Calc_reckon (zn Mz + 0, zw Mz + 0) N1_ 41 [some (.ref (d_ + 33)), some (.int (Int32.ofInt a0_)), none, none, none] [.int (Int32.ofInt v55_)] _
                refine zw_istore_n (pc := 41) (i := 2) (L2 := [some (.ref (d_ + 33)), some (.int (Int32.ofInt a0_)), some (.int (Int32.ofInt v55_)), none, none]) rfl (by decide) rfl (zdal_p dlA_Calc_reckon_153 (i := 19) rfl) ?_
                refine zw_aload_n (pc := 42) (n := 0) (x := (d_ + 33)) rfl (zdal_p dlA_Calc_reckon_153 (i := 20) rfl) ?_
                refine zk_callV hf_N1_.x (pc := 43) [] [] l_Calc_43 (u_Calc_topShelfX l d_ N1_ (hf_N1_.w hW) ) rfl rfl ((hf_N1_.w hW).kr (o := 33) (by decide)) (by decide) (by decide) (Nat.le_of_ble_eq_true rfl) (zdal_p dlA_Calc_reckon_153 (i := 21) rfl) ?_
                rintro _ N56_ ⟨v57_, rfl, ⟨hv57_a, hv57_b⟩, hsN56_, -⟩
                obtain rfl := hsN56_.eq.symm
                show zW l m_Calc_reckon (zn Mz + 0, zw Mz + 0) N1_ 46 [some (.ref (d_ + 33)), some (.int (Int32.ofInt a0_)), some (.int (Int32.ofInt v55_)), none, none] [.int (Int32.ofInt v57_)] _
                refine zw_istore_n (pc := 46) (i := 3) (L2 := [some (.ref (d_ + 33)), some (.int (Int32.ofInt a0_)), some (.int (Int32.ofInt v55_)), some (.int (Int32.ofInt v57_)), none]) rfl (by decide) rfl (zdal_p dlA_Calc_reckon_153 (i := 22) rfl) ?_
                refine zw_aload_n (pc := 47) (n := 0) (x := (d_ + 33)) rfl (zdal_p dlA_Calc_reckon_153 (i := 23) rfl) ?_
                refine zw_dup (pc := 48) rfl (zdal_p dlA_Calc_reckon_154 (i := 0) rfl) ?_
                refine zk_getI (pc := 49) f_Calc_24 rfl ((hf_N1_.w hW).kr (o := 33) (by decide)) (zdal_p dlA_Calc_reckon_154 (i := 1) rfl) ?_
                refine zw_iconst (pc := 52) (v := Int32.ofInt 1) (by decide) (zdal_p dlA_Calc_reckon_154 (i := 2) rfl) ?_
                refine zr_isub (pc := 53) (zdal_p dlA_Calc_reckon_154 (i := 3) rfl) ?_
                refine zk_nmI (fun v58_ hv58_ hv58_e => ?_)
                obtain ⟨hv58_a, hv58_b⟩ := hv58_
                have hx_ := hv58_e ⟨by (exact zo_3 hc_4), by (exact zo_601 rD33_2_N1_.2)⟩
                refine zk_putR (pc := 54) (o := 33) (by decide) f_Calc_24 rfl rfl ((hf_N1_.w hW).kr (o := 33) (by decide)) ⟨by (exact hv58_a), by (exact hv58_b)⟩ rfl rfl (zdal_p dlA_Calc_reckon_154 (i := 4) rfl) (fun N59_ hsN59_ hvN59_ => ?_)
                have hf_N59_ : zFc d_ [] [] [(33, 2), (33, 3), (33, 6)] [25, 27] Mz N59_ := hf_N1_.tr hsN59_ (by decide) (by decide) (by decide) (by decide)
                have hb0_N59_ : zFc d_ [] [] [(33, 2), (33, 3), (33, 6)] [25, 27] Mz N59_ := hs2_.tr hsN59_ (by decide) (by decide) (by decide) (by decide)
                have rD33_2_N59_ := ze_r N59_ (d_ + 33) 2
                refine zw_aload_n (pc := 57) (n := 0) (x := (d_ + 33)) rfl (zdal_p dlA_Calc_reckon_154 (i := 5) rfl) ?_
                refine zw_dup (pc := 58) rfl (zdal_p dlA_Calc_reckon_154 (i := 6) rfl) ?_
                refine zk_getI (pc := 59) f_Calc_28 rfl ((hf_N59_.w hW).kr (o := 33) (by decide)) (zdal_p dlA_Calc_reckon_154 (i := 7) rfl) ?_
                have hr60_ := ze_r N59_ (d_ + 33) 3
                refine zw_iconst (pc := 62) (v := Int32.ofInt 1) (by decide) (zdal_p dlA_Calc_reckon_154 (i := 8) rfl) ?_
                refine zr_isub (pc := 63) (zdal_p dlA_Calc_reckon_154 (i := 9) rfl) ?_
                refine zr_nmI (fun v61_ hv61_ => ?_)
                obtain ⟨hv61_a, hv61_b⟩ := hv61_
                refine zk_putR (pc := 64) (o := 33) (by decide) f_Calc_28 rfl rfl ((hf_N59_.w hW).kr (o := 33) (by decide)) ⟨by (exact hv61_a), by (exact hv61_b)⟩ rfl rfl (zdal_p dlA_Calc_reckon_154 (i := 10) rfl) (fun N62_ hsN62_ hvN62_ => ?_)
                have hf_N62_ : zFc d_ [] [] [(33, 2), (33, 3), (33, 6)] [25, 27] Mz N62_ := hf_N59_.tr hsN62_ (by decide) (by decide) (by decide) (by decide)
                have hb0_N62_ : zFc d_ [] [] [(33, 2), (33, 3), (33, 6)] [25, 27] Mz N62_ := hb0_N59_.tr hsN62_ (by decide) (by decide) (by decide) (by decide)
                have eD33_2_N62_ : ze N62_ (d_ + 33) 2 = ze N59_ (d_ + 33) 2 := hsN62_.e (by decide)
                refine zw_iconst (pc := 67) (v := Int32.ofInt 1) (by decide) (zdal_p dlA_Calc_reckon_154 (i := 11) rfl) ?_
                refine zw_istore (pc := 68) (i := 4) (L2 := [some (.ref (d_ + 33)), some (.int (Int32.ofInt a0_)), some (.int (Int32.ofInt v55_)), some (.int (Int32.ofInt v57_)), some (.int (Int32.ofInt 1))]) (by decide) rfl (zdal_p dlA_Calc_reckon_154 (i := 12) rfl) ?_
                refine zw_iload_n (pc := 70) (n := 2) (x := Int32.ofInt v55_) rfl (zdal_p dlA_Calc_reckon_154 (i := 13) rfl) ?_
                refine zw_bipush (pc := 71) (v := Int32.ofInt 42) (by decide) (zdal_p dlA_Calc_reckon_154 (i := 14) rfl) ?_
                refine zr_icmp_ne (pc := 73) (tgt := 93) ⟨hv55_a, hv55_b⟩ ⟨(by decide), (by decide)⟩ (by decide) (zdal_p dlA_Calc_reckon_154 (i := 15) rfl) (fun hc_73 => ?_) (fun hc_73 => ?_)
                · skip
                  refine zw_aload_n (pc := 93) (n := 0) (x := (d_ + 33)) rfl (zdal_p dlA_Calc_reckon_155 (i := 0) rfl) ?_
                  refine zw_getF (pc := 94) f_Calc_20 rfl ((hf_N62_.w hW).kr (o := 33) (by decide)) ((hf_N62_.w hW).lr (o := 33) (s := 0) (r := 23) (by decide)) (zdal_p dlA_Calc_reckon_155 (i := 1) rfl) ?_
                  refine zw_aload_n (pc := 97) (n := 0) (x := (d_ + 33)) rfl (zdal_p dlA_Calc_reckon_155 (i := 2) rfl) ?_
                  refine zk_callV hf_N62_.x (pc := 98) [] [.ref (d_ + 23)] l_Calc_43 (u_Calc_topShelfX l d_ N62_ (hf_N62_.w hW) ) rfl rfl ((hf_N62_.w hW).kr (o := 33) (by decide)) (by decide) (by decide) (Nat.le_of_ble_eq_true rfl) (zdal_p dlA_Calc_reckon_155 (i := 3) rfl) ?_
                  rintro _ N63_ ⟨v64_, rfl, ⟨hv64_a, hv64_b⟩, hsN63_, -⟩
                  obtain rfl := hsN63_.eq.symm
                  show zW l m_Calc_reckon (zn Mz + 0, zw Mz + 0) N62_ 101 [some (.ref (d_ + 33)), some (.int (Int32.ofInt a0_)), some (.int (Int32.ofInt v55_)), some (.int (Int32.ofInt v57_)), some (.int (Int32.ofInt 1))] [.int (Int32.ofInt v64_), .ref (d_ + 23)] _
                  refine zw_iload_n (pc := 101) (n := 3) (x := Int32.ofInt v57_) rfl (zdal_p dlA_Calc_reckon_155 (i := 4) rfl) ?_
                  refine zw_iload_n (pc := 102) (n := 2) (x := Int32.ofInt v55_) rfl (zdal_p dlA_Calc_reckon_155 (i := 5) rfl) ?_
                  refine zw_bipush (pc := 103) (v := Int32.ofInt 43) (by decide) (zdal_p dlA_Calc_reckon_155 (i := 6) rfl) ?_
                  refine zr_icmp_ne (pc := 105) (tgt := 112) ⟨hv55_a, hv55_b⟩ ⟨(by decide), (by decide)⟩ (by decide) (zdal_p dlA_Calc_reckon_155 (i := 7) rfl) (fun hc_105 => ?_) (fun hc_105 => ?_)
                  · skip
                    refine zw_iconst (pc := 112) (v := Int32.ofInt (-1)) (by decide) (zdal_p dlA_Calc_reckon_155 (i := 10) rfl) ?_
                    refine zk_callV hf_N62_.x (pc := 113) [.int (Int32.ofInt v64_), .int (Int32.ofInt v57_), .int (Int32.ofInt ((-1)))] [] l_Calc_98 (u_Sums_addX l d_ N62_ (hf_N62_.w hW) v64_ hv64_a hv64_b v57_ hv57_a hv57_b ((-1)) (by decide) (by decide)) rfl rfl ((hf_N62_.w hW).kr (o := 23) (by decide)) (by decide) (by decide) (Nat.le_of_ble_eq_true rfl) d_Calc_reckon_113 ?_
                    rintro _ N65_ ⟨rfl, hsN65_, -⟩
                    have hf_N65_ : zFc d_ [] [] [(33, 2), (33, 3), (33, 6)] [25, 27] Mz N65_ := hf_N62_.tr hsN65_ (by decide) (by decide) (by decide) (by decide)
                    have hb0_N65_ : zFc d_ [] [] [(33, 2), (33, 3), (33, 6)] [25, 27] Mz N65_ := hb0_N62_.tr hsN65_ (by decide) (by decide) (by decide) (by decide)
                    have eD33_2_N65_ : ze N65_ (d_ + 33) 2 = ze N62_ (d_ + 33) 2 := hsN65_.e (by decide)
                    show zW l m_Calc_reckon (zn Mz + 0, zw Mz + 0) N65_ 116 [some (.ref (d_ + 33)), some (.int (Int32.ofInt a0_)), some (.int (Int32.ofInt v55_)), some (.int (Int32.ofInt v57_)), some (.int (Int32.ofInt 1))] [] _
                    refine zw_aload_n (pc := 116) (n := 0) (x := (d_ + 33)) rfl d_Calc_reckon_116 ?_
                    refine zw_iload (pc := 117) (i := 4) (x := Int32.ofInt 1) rfl d_Calc_reckon_117 ?_
                    refine zr_if_eq (pc := 119) (tgt := 140) ⟨(by decide), (by decide)⟩ (by decide) d_Calc_reckon_119 (fun hc_119 => ?_) (fun hc_119 => ?_)
                    · skip
                      exact absurd hc_119 (by decide)
                    · skip
                      refine zw_aload_n (pc := 122) (n := 0) (x := (d_ + 33)) rfl d_Calc_reckon_122 ?_
                      refine zw_getF (pc := 123) f_Calc_20 rfl ((hf_N65_.w hW).kr (o := 33) (by decide)) ((hf_N65_.w hW).lr (o := 33) (s := 0) (r := 23) (by decide)) d_Calc_reckon_123 ?_
                      refine zw_aload_n (pc := 126) (n := 0) (x := (d_ + 33)) rfl d_Calc_reckon_126 ?_
                      refine zk_callV hf_N65_.x (pc := 127) [] [.ref (d_ + 23), .ref (d_ + 33)] l_Calc_43 (u_Calc_topShelfX l d_ N65_ (hf_N65_.w hW) ) rfl rfl ((hf_N65_.w hW).kr (o := 33) (by decide)) (by decide) (by decide) (Nat.le_of_ble_eq_true rfl) d_Calc_reckon_127 ?_
                      rintro _ N67_ ⟨v68_, rfl, ⟨hv68_a, hv68_b⟩, hsN67_, -⟩
                      obtain rfl := hsN67_.eq.symm
                      show zW l m_Calc_reckon (zn Mz + 0, zw Mz + 0) N65_ 130 [some (.ref (d_ + 33)), some (.int (Int32.ofInt a0_)), some (.int (Int32.ofInt v55_)), some (.int (Int32.ofInt v57_)), some (.int (Int32.ofInt 1))] [.int (Int32.ofInt v68_), .ref (d_ + 23), .ref (d_ + 33)] _
                      refine zk_callV hf_N65_.x (pc := 130) [.int (Int32.ofInt v68_)] [.ref (d_ + 33)] l_Calc_81 (u_Sums_isInBoundsX l d_ N65_ (hf_N65_.w hW) v68_ hv68_a hv68_b) rfl rfl ((hf_N65_.w hW).kr (o := 23) (by decide)) (by decide) (by decide) (Nat.le_of_ble_eq_true rfl) d_Calc_reckon_130 ?_
                      rintro _ N69_ ⟨v70_, rfl, ⟨hv70_a, hv70_b⟩, hsN69_, hp0_N69_⟩
                      obtain rfl := hsN69_.eq.symm
                      replace hp0_N69_ : (v70_ = 0 ∨ v70_ = 1) := hp0_N69_
                      show zW l m_Calc_reckon (zn Mz + 0, zw Mz + 0) N65_ 133 [some (.ref (d_ + 33)), some (.int (Int32.ofInt a0_)), some (.int (Int32.ofInt v55_)), some (.int (Int32.ofInt v57_)), some (.int (Int32.ofInt 1))] [.int (Int32.ofInt v70_), .ref (d_ + 33)] _
                      refine zr_if_eq (pc := 133) (tgt := 140) ⟨hv70_a, hv70_b⟩ (by decide) d_Calc_reckon_133 (fun hc_133 => ?_) (fun hc_133 => ?_)
                      · skip
                        refine zw_iconst (pc := 140) (v := Int32.ofInt 0) (by decide) d_Calc_reckon_140 ?_
                        refine zk_callV hf_N65_.x (pc := 141) [.int (Int32.ofInt 0)] [] l_Calc_85 (u_Calc_settleX l d_ N65_ (hf_N65_.w hW) 0 (by decide) (by decide) (by (decide))) rfl rfl ((hf_N65_.w hW).kr (o := 33) (by decide)) (by decide) (by decide) (Nat.le_of_ble_eq_true rfl) d_Calc_reckon_141 ?_
                        rintro _ N71_ ⟨rfl, hsN71_, -⟩
                        have hf_N71_ : zFc d_ [] [] [(33, 2), (33, 3), (33, 6)] [25, 27] Mz N71_ := hf_N65_.tr hsN71_ (by decide) (by decide) (by decide) (by decide)
                        have hb0_N71_ : zFc d_ [] [] [(33, 2), (33, 3), (33, 6)] [25, 27] Mz N71_ := hb0_N65_.tr hsN71_ (by decide) (by decide) (by decide) (by decide)
                        have eD33_2_N71_ : ze N71_ (d_ + 33) 2 = ze N65_ (d_ + 33) 2 := hsN71_.e (by decide)
                        show zW l m_Calc_reckon (zn Mz + 0, zw Mz + 0) N71_ 144 [some (.ref (d_ + 33)), some (.int (Int32.ofInt a0_)), some (.int (Int32.ofInt v55_)), some (.int (Int32.ofInt v57_)), some (.int (Int32.ofInt 1))] [] _
                        refine zw_goto (pc := 144) (tgt := 0) (by decide) d_Calc_reckon_144 ?_
                        refine zW_le [some (.ref (d_ + 33)), some (.int (Int32.ofInt a0_)), none, none, none] (⟨rfl, rfl, trivial⟩) ?_
                        exact ih_0 N71_ hb0_N71_ (by (exact zo_2718 eD33_2_N62_ eD33_2_N65_ eD33_2_N71_ hc_4 hlt_0 hvN59_ hx_ rD33_2_N59_.2))
                      · skip
                        refine zw_iconst (pc := 136) (v := Int32.ofInt 1) (by decide) d_Calc_reckon_136 ?_
                        refine zw_goto (pc := 137) (tgt := 141) (by decide) d_Calc_reckon_137 ?_
                        refine zk_callV hf_N65_.x (pc := 141) [.int (Int32.ofInt 1)] [] l_Calc_85 (u_Calc_settleX l d_ N65_ (hf_N65_.w hW) 1 (by decide) (by decide) (by (decide))) rfl rfl ((hf_N65_.w hW).kr (o := 33) (by decide)) (by decide) (by decide) (Nat.le_of_ble_eq_true rfl) d_Calc_reckon_141 ?_
                        rintro _ N73_ ⟨rfl, hsN73_, -⟩
                        have hf_N73_ : zFc d_ [] [] [(33, 2), (33, 3), (33, 6)] [25, 27] Mz N73_ := hf_N65_.tr hsN73_ (by decide) (by decide) (by decide) (by decide)
                        have hb0_N73_ : zFc d_ [] [] [(33, 2), (33, 3), (33, 6)] [25, 27] Mz N73_ := hb0_N65_.tr hsN73_ (by decide) (by decide) (by decide) (by decide)
                        have eD33_2_N73_ : ze N73_ (d_ + 33) 2 = ze N65_ (d_ + 33) 2 := hsN73_.e (by decide)
                        show zW l m_Calc_reckon (zn Mz + 0, zw Mz + 0) N73_ 144 [some (.ref (d_ + 33)), some (.int (Int32.ofInt a0_)), some (.int (Int32.ofInt v55_)), some (.int (Int32.ofInt v57_)), some (.int (Int32.ofInt 1))] [] _
                        refine zw_goto (pc := 144) (tgt := 0) (by decide) d_Calc_reckon_144 ?_
                        refine zW_le [some (.ref (d_ + 33)), some (.int (Int32.ofInt a0_)), none, none, none] (⟨rfl, rfl, trivial⟩) ?_
                        exact ih_0 N73_ hb0_N73_ (by (exact zo_2718 eD33_2_N62_ eD33_2_N65_ eD33_2_N73_ hc_4 hlt_0 hvN59_ hx_ rD33_2_N59_.2))
                  · skip
                    refine zw_iconst (pc := 108) (v := Int32.ofInt 1) (by decide) (zdal_p dlA_Calc_reckon_155 (i := 8) rfl) ?_
                    refine zw_goto (pc := 109) (tgt := 113) (by decide) (zdal_p dlA_Calc_reckon_155 (i := 9) rfl) ?_
                    refine zk_callV hf_N62_.x (pc := 113) [.int (Int32.ofInt v64_), .int (Int32.ofInt v57_), .int (Int32.ofInt 1)] [] l_Calc_98 (u_Sums_addX l d_ N62_ (hf_N62_.w hW) v64_ hv64_a hv64_b v57_ hv57_a hv57_b 1 (by decide) (by decide)) rfl rfl ((hf_N62_.w hW).kr (o := 23) (by decide)) (by decide) (by decide) (Nat.le_of_ble_eq_true rfl) d_Calc_reckon_113 ?_
                    rintro _ N75_ ⟨rfl, hsN75_, -⟩
                    have hf_N75_ : zFc d_ [] [] [(33, 2), (33, 3), (33, 6)] [25, 27] Mz N75_ := hf_N62_.tr hsN75_ (by decide) (by decide) (by decide) (by decide)
                    have hb0_N75_ : zFc d_ [] [] [(33, 2), (33, 3), (33, 6)] [25, 27] Mz N75_ := hb0_N62_.tr hsN75_ (by decide) (by decide) (by decide) (by decide)
                    have eD33_2_N75_ : ze N75_ (d_ + 33) 2 = ze N62_ (d_ + 33) 2 := hsN75_.e (by decide)
                    show zW l m_Calc_reckon (zn Mz + 0, zw Mz + 0) N75_ 116 [some (.ref (d_ + 33)), some (.int (Int32.ofInt a0_)), some (.int (Int32.ofInt v55_)), some (.int (Int32.ofInt v57_)), some (.int (Int32.ofInt 1))] [] _
                    refine zw_aload_n (pc := 116) (n := 0) (x := (d_ + 33)) rfl d_Calc_reckon_116 ?_
                    refine zw_iload (pc := 117) (i := 4) (x := Int32.ofInt 1) rfl d_Calc_reckon_117 ?_
                    refine zr_if_eq (pc := 119) (tgt := 140) ⟨(by decide), (by decide)⟩ (by decide) d_Calc_reckon_119 (fun hc_119 => ?_) (fun hc_119 => ?_)
                    · skip
                      exact absurd hc_119 (by decide)
                    · skip
                      refine zw_aload_n (pc := 122) (n := 0) (x := (d_ + 33)) rfl d_Calc_reckon_122 ?_
                      refine zw_getF (pc := 123) f_Calc_20 rfl ((hf_N75_.w hW).kr (o := 33) (by decide)) ((hf_N75_.w hW).lr (o := 33) (s := 0) (r := 23) (by decide)) d_Calc_reckon_123 ?_
                      refine zw_aload_n (pc := 126) (n := 0) (x := (d_ + 33)) rfl d_Calc_reckon_126 ?_
                      refine zk_callV hf_N75_.x (pc := 127) [] [.ref (d_ + 23), .ref (d_ + 33)] l_Calc_43 (u_Calc_topShelfX l d_ N75_ (hf_N75_.w hW) ) rfl rfl ((hf_N75_.w hW).kr (o := 33) (by decide)) (by decide) (by decide) (Nat.le_of_ble_eq_true rfl) d_Calc_reckon_127 ?_
                      rintro _ N77_ ⟨v78_, rfl, ⟨hv78_a, hv78_b⟩, hsN77_, -⟩
                      obtain rfl := hsN77_.eq.symm
                      show zW l m_Calc_reckon (zn Mz + 0, zw Mz + 0) N75_ 130 [some (.ref (d_ + 33)), some (.int (Int32.ofInt a0_)), some (.int (Int32.ofInt v55_)), some (.int (Int32.ofInt v57_)), some (.int (Int32.ofInt 1))] [.int (Int32.ofInt v78_), .ref (d_ + 23), .ref (d_ + 33)] _
                      refine zk_callV hf_N75_.x (pc := 130) [.int (Int32.ofInt v78_)] [.ref (d_ + 33)] l_Calc_81 (u_Sums_isInBoundsX l d_ N75_ (hf_N75_.w hW) v78_ hv78_a hv78_b) rfl rfl ((hf_N75_.w hW).kr (o := 23) (by decide)) (by decide) (by decide) (Nat.le_of_ble_eq_true rfl) d_Calc_reckon_130 ?_
                      rintro _ N79_ ⟨v80_, rfl, ⟨hv80_a, hv80_b⟩, hsN79_, hp0_N79_⟩
                      obtain rfl := hsN79_.eq.symm
                      replace hp0_N79_ : (v80_ = 0 ∨ v80_ = 1) := hp0_N79_
                      show zW l m_Calc_reckon (zn Mz + 0, zw Mz + 0) N75_ 133 [some (.ref (d_ + 33)), some (.int (Int32.ofInt a0_)), some (.int (Int32.ofInt v55_)), some (.int (Int32.ofInt v57_)), some (.int (Int32.ofInt 1))] [.int (Int32.ofInt v80_), .ref (d_ + 33)] _
                      refine zr_if_eq (pc := 133) (tgt := 140) ⟨hv80_a, hv80_b⟩ (by decide) d_Calc_reckon_133 (fun hc_133 => ?_) (fun hc_133 => ?_)
                      · skip
                        refine zw_iconst (pc := 140) (v := Int32.ofInt 0) (by decide) d_Calc_reckon_140 ?_
                        refine zk_callV hf_N75_.x (pc := 141) [.int (Int32.ofInt 0)] [] l_Calc_85 (u_Calc_settleX l d_ N75_ (hf_N75_.w hW) 0 (by decide) (by decide) (by (decide))) rfl rfl ((hf_N75_.w hW).kr (o := 33) (by decide)) (by decide) (by decide) (Nat.le_of_ble_eq_true rfl) d_Calc_reckon_141 ?_
                        rintro _ N81_ ⟨rfl, hsN81_, -⟩
                        have hf_N81_ : zFc d_ [] [] [(33, 2), (33, 3), (33, 6)] [25, 27] Mz N81_ := hf_N75_.tr hsN81_ (by decide) (by decide) (by decide) (by decide)
                        have hb0_N81_ : zFc d_ [] [] [(33, 2), (33, 3), (33, 6)] [25, 27] Mz N81_ := hb0_N75_.tr hsN81_ (by decide) (by decide) (by decide) (by decide)
                        have eD33_2_N81_ : ze N81_ (d_ + 33) 2 = ze N75_ (d_ + 33) 2 := hsN81_.e (by decide)
                        show zW l m_Calc_reckon (zn Mz + 0, zw Mz + 0) N81_ 144 [some (.ref (d_ + 33)), some (.int (Int32.ofInt a0_)), some (.int (Int32.ofInt v55_)), some (.int (Int32.ofInt v57_)), some (.int (Int32.ofInt 1))] [] _
                        refine zw_goto (pc := 144) (tgt := 0) (by decide) d_Calc_reckon_144 ?_
                        refine zW_le [some (.ref (d_ + 33)), some (.int (Int32.ofInt a0_)), none, none, none] (⟨rfl, rfl, trivial⟩) ?_
                        exact ih_0 N81_ hb0_N81_ (by (exact zo_2718 eD33_2_N62_ eD33_2_N75_ eD33_2_N81_ hc_4 hlt_0 hvN59_ hx_ rD33_2_N59_.2))
                      · skip
                        refine zw_iconst (pc := 136) (v := Int32.ofInt 1) (by decide) d_Calc_reckon_136 ?_
                        refine zw_goto (pc := 137) (tgt := 141) (by decide) d_Calc_reckon_137 ?_
                        refine zk_callV hf_N75_.x (pc := 141) [.int (Int32.ofInt 1)] [] l_Calc_85 (u_Calc_settleX l d_ N75_ (hf_N75_.w hW) 1 (by decide) (by decide) (by (decide))) rfl rfl ((hf_N75_.w hW).kr (o := 33) (by decide)) (by decide) (by decide) (Nat.le_of_ble_eq_true rfl) d_Calc_reckon_141 ?_
                        rintro _ N83_ ⟨rfl, hsN83_, -⟩
                        have hf_N83_ : zFc d_ [] [] [(33, 2), (33, 3), (33, 6)] [25, 27] Mz N83_ := hf_N75_.tr hsN83_ (by decide) (by decide) (by decide) (by decide)
                        have hb0_N83_ : zFc d_ [] [] [(33, 2), (33, 3), (33, 6)] [25, 27] Mz N83_ := hb0_N75_.tr hsN83_ (by decide) (by decide) (by decide) (by decide)
                        have eD33_2_N83_ : ze N83_ (d_ + 33) 2 = ze N75_ (d_ + 33) 2 := hsN83_.e (by decide)
                        show zW l m_Calc_reckon (zn Mz + 0, zw Mz + 0) N83_ 144 [some (.ref (d_ + 33)), some (.int (Int32.ofInt a0_)), some (.int (Int32.ofInt v55_)), some (.int (Int32.ofInt v57_)), some (.int (Int32.ofInt 1))] [] _
                        refine zw_goto (pc := 144) (tgt := 0) (by decide) d_Calc_reckon_144 ?_
                        refine zW_le [some (.ref (d_ + 33)), some (.int (Int32.ofInt a0_)), none, none, none] (⟨rfl, rfl, trivial⟩) ?_
                        exact ih_0 N83_ hb0_N83_ (by (exact zo_2718 eD33_2_N62_ eD33_2_N75_ eD33_2_N83_ hc_4 hlt_0 hvN59_ hx_ rD33_2_N59_.2))
                · skip
                  refine zw_aload_n (pc := 76) (n := 0) (x := (d_ + 33)) rfl (zdal_p dlA_Calc_reckon_154 (i := 16) rfl) ?_
                  refine zw_getF (pc := 77) f_Calc_20 rfl ((hf_N62_.w hW).kr (o := 33) (by decide)) ((hf_N62_.w hW).lr (o := 33) (s := 0) (r := 23) (by decide)) (zdal_p dlA_Calc_reckon_154 (i := 17) rfl) ?_
                  refine zw_aload_n (pc := 80) (n := 0) (x := (d_ + 33)) rfl (zdal_p dlA_Calc_reckon_154 (i := 18) rfl) ?_
                  refine zk_callV hf_N62_.x (pc := 81) [] [.ref (d_ + 23)] l_Calc_43 (u_Calc_topShelfX l d_ N62_ (hf_N62_.w hW) ) rfl rfl ((hf_N62_.w hW).kr (o := 33) (by decide)) (by decide) (by decide) (Nat.le_of_ble_eq_true rfl) (zdal_p dlA_Calc_reckon_154 (i := 19) rfl) ?_
                  rintro _ N85_ ⟨v86_, rfl, ⟨hv86_a, hv86_b⟩, hsN85_, -⟩
                  obtain rfl := hsN85_.eq.symm
                  show zW l m_Calc_reckon (zn Mz + 0, zw Mz + 0) N62_ 84 [some (.ref (d_ + 33)), some (.int (Int32.ofInt a0_)), some (.int (Int32.ofInt v55_)), some (.int (Int32.ofInt v57_)), some (.int (Int32.ofInt 1))] [.int (Int32.ofInt v86_), .ref (d_ + 23)] _
                  refine zw_iload_n (pc := 84) (n := 3) (x := Int32.ofInt v57_) rfl (zdal_p dlA_Calc_reckon_154 (i := 20) rfl) ?_
                  refine zk_callV hf_N62_.x (pc := 85) [.int (Int32.ofInt v86_), .int (Int32.ofInt v57_)] [] l_Calc_77 (u_Sums_multiplyX l d_ N62_ (hf_N62_.w hW) v86_ hv86_a hv86_b v57_ hv57_a hv57_b) rfl rfl ((hf_N62_.w hW).kr (o := 23) (by decide)) (by decide) (by decide) (Nat.le_of_ble_eq_true rfl) (zdal_p dlA_Calc_reckon_154 (i := 21) rfl) ?_
                  rintro _ N87_ ⟨v88_, rfl, ⟨hv88_a, hv88_b⟩, hsN87_, hp0_N87_⟩
                  replace hp0_N87_ : (v88_ = 0 ∨ v88_ = 1) := hp0_N87_
                  have hf_N87_ : zFc d_ [] [] [(33, 2), (33, 3), (33, 6)] [25, 27] Mz N87_ := hf_N62_.tr hsN87_ (by decide) (by decide) (by decide) (by decide)
                  have hb0_N87_ : zFc d_ [] [] [(33, 2), (33, 3), (33, 6)] [25, 27] Mz N87_ := hb0_N62_.tr hsN87_ (by decide) (by decide) (by decide) (by decide)
                  have eD33_2_N87_ : ze N87_ (d_ + 33) 2 = ze N62_ (d_ + 33) 2 := hsN87_.e (by decide)
                  show zW l m_Calc_reckon (zn Mz + 0, zw Mz + 0) N87_ 88 [some (.ref (d_ + 33)), some (.int (Int32.ofInt a0_)), some (.int (Int32.ofInt v55_)), some (.int (Int32.ofInt v57_)), some (.int (Int32.ofInt 1))] [.int (Int32.ofInt v88_)] _
                  refine zw_istore (pc := 88) (i := 4) (L2 := [some (.ref (d_ + 33)), some (.int (Int32.ofInt a0_)), some (.int (Int32.ofInt v55_)), some (.int (Int32.ofInt v57_)), some (.int (Int32.ofInt v88_))]) (by decide) rfl (zdal_p dlA_Calc_reckon_154 (i := 22) rfl) ?_
                  refine zw_goto (pc := 90) (tgt := 116) (by decide) (zdal_p dlA_Calc_reckon_154 (i := 23) rfl) ?_
                  refine zw_aload_n (pc := 116) (n := 0) (x := (d_ + 33)) rfl d_Calc_reckon_116 ?_
                  refine zw_iload (pc := 117) (i := 4) (x := Int32.ofInt v88_) rfl d_Calc_reckon_117 ?_
                  refine zr_if_eq (pc := 119) (tgt := 140) ⟨hv88_a, hv88_b⟩ (by decide) d_Calc_reckon_119 (fun hc_119 => ?_) (fun hc_119 => ?_)
                  · skip
                    refine zw_iconst (pc := 140) (v := Int32.ofInt 0) (by decide) d_Calc_reckon_140 ?_
                    refine zk_callV hf_N87_.x (pc := 141) [.int (Int32.ofInt 0)] [] l_Calc_85 (u_Calc_settleX l d_ N87_ (hf_N87_.w hW) 0 (by decide) (by decide) (by (decide))) rfl rfl ((hf_N87_.w hW).kr (o := 33) (by decide)) (by decide) (by decide) (Nat.le_of_ble_eq_true rfl) d_Calc_reckon_141 ?_
                    rintro _ N89_ ⟨rfl, hsN89_, -⟩
                    have hf_N89_ : zFc d_ [] [] [(33, 2), (33, 3), (33, 6)] [25, 27] Mz N89_ := hf_N87_.tr hsN89_ (by decide) (by decide) (by decide) (by decide)
                    have hb0_N89_ : zFc d_ [] [] [(33, 2), (33, 3), (33, 6)] [25, 27] Mz N89_ := hb0_N87_.tr hsN89_ (by decide) (by decide) (by decide) (by decide)
                    have eD33_2_N89_ : ze N89_ (d_ + 33) 2 = ze N87_ (d_ + 33) 2 := hsN89_.e (by decide)
                    show zW l m_Calc_reckon (zn Mz + 0, zw Mz + 0) N89_ 144 [some (.ref (d_ + 33)), some (.int (Int32.ofInt a0_)), some (.int (Int32.ofInt v55_)), some (.int (Int32.ofInt v57_)), some (.int (Int32.ofInt v88_))] [] _
                    refine zw_goto (pc := 144) (tgt := 0) (by decide) d_Calc_reckon_144 ?_
                    refine zW_le [some (.ref (d_ + 33)), some (.int (Int32.ofInt a0_)), none, none, none] (⟨rfl, rfl, trivial⟩) ?_
                    exact ih_0 N89_ hb0_N89_ (by (exact zo_2718 eD33_2_N62_ eD33_2_N87_ eD33_2_N89_ hc_4 hlt_0 hvN59_ hx_ rD33_2_N59_.2))
                  · skip
                    refine zw_aload_n (pc := 122) (n := 0) (x := (d_ + 33)) rfl d_Calc_reckon_122 ?_
                    refine zw_getF (pc := 123) f_Calc_20 rfl ((hf_N87_.w hW).kr (o := 33) (by decide)) ((hf_N87_.w hW).lr (o := 33) (s := 0) (r := 23) (by decide)) d_Calc_reckon_123 ?_
                    refine zw_aload_n (pc := 126) (n := 0) (x := (d_ + 33)) rfl d_Calc_reckon_126 ?_
                    refine zk_callV hf_N87_.x (pc := 127) [] [.ref (d_ + 23), .ref (d_ + 33)] l_Calc_43 (u_Calc_topShelfX l d_ N87_ (hf_N87_.w hW) ) rfl rfl ((hf_N87_.w hW).kr (o := 33) (by decide)) (by decide) (by decide) (Nat.le_of_ble_eq_true rfl) d_Calc_reckon_127 ?_
                    rintro _ N91_ ⟨v92_, rfl, ⟨hv92_a, hv92_b⟩, hsN91_, -⟩
                    obtain rfl := hsN91_.eq.symm
                    show zW l m_Calc_reckon (zn Mz + 0, zw Mz + 0) N87_ 130 [some (.ref (d_ + 33)), some (.int (Int32.ofInt a0_)), some (.int (Int32.ofInt v55_)), some (.int (Int32.ofInt v57_)), some (.int (Int32.ofInt v88_))] [.int (Int32.ofInt v92_), .ref (d_ + 23), .ref (d_ + 33)] _
                    refine zk_callV hf_N87_.x (pc := 130) [.int (Int32.ofInt v92_)] [.ref (d_ + 33)] l_Calc_81 (u_Sums_isInBoundsX l d_ N87_ (hf_N87_.w hW) v92_ hv92_a hv92_b) rfl rfl ((hf_N87_.w hW).kr (o := 23) (by decide)) (by decide) (by decide) (Nat.le_of_ble_eq_true rfl) d_Calc_reckon_130 ?_
                    rintro _ N93_ ⟨v94_, rfl, ⟨hv94_a, hv94_b⟩, hsN93_, hp0_N93_⟩
                    obtain rfl := hsN93_.eq.symm
                    replace hp0_N93_ : (v94_ = 0 ∨ v94_ = 1) := hp0_N93_
                    show zW l m_Calc_reckon (zn Mz + 0, zw Mz + 0) N87_ 133 [some (.ref (d_ + 33)), some (.int (Int32.ofInt a0_)), some (.int (Int32.ofInt v55_)), some (.int (Int32.ofInt v57_)), some (.int (Int32.ofInt v88_))] [.int (Int32.ofInt v94_), .ref (d_ + 33)] _
                    refine zr_if_eq (pc := 133) (tgt := 140) ⟨hv94_a, hv94_b⟩ (by decide) d_Calc_reckon_133 (fun hc_133 => ?_) (fun hc_133 => ?_)
                    · skip
                      refine zw_iconst (pc := 140) (v := Int32.ofInt 0) (by decide) d_Calc_reckon_140 ?_
                      refine zk_callV hf_N87_.x (pc := 141) [.int (Int32.ofInt 0)] [] l_Calc_85 (u_Calc_settleX l d_ N87_ (hf_N87_.w hW) 0 (by decide) (by decide) (by (decide))) rfl rfl ((hf_N87_.w hW).kr (o := 33) (by decide)) (by decide) (by decide) (Nat.le_of_ble_eq_true rfl) d_Calc_reckon_141 ?_
                      rintro _ N95_ ⟨rfl, hsN95_, -⟩
                      have hf_N95_ : zFc d_ [] [] [(33, 2), (33, 3), (33, 6)] [25, 27] Mz N95_ := hf_N87_.tr hsN95_ (by decide) (by decide) (by decide) (by decide)
                      have hb0_N95_ : zFc d_ [] [] [(33, 2), (33, 3), (33, 6)] [25, 27] Mz N95_ := hb0_N87_.tr hsN95_ (by decide) (by decide) (by decide) (by decide)
                      have eD33_2_N95_ : ze N95_ (d_ + 33) 2 = ze N87_ (d_ + 33) 2 := hsN95_.e (by decide)
                      show zW l m_Calc_reckon (zn Mz + 0, zw Mz + 0) N95_ 144 [some (.ref (d_ + 33)), some (.int (Int32.ofInt a0_)), some (.int (Int32.ofInt v55_)), some (.int (Int32.ofInt v57_)), some (.int (Int32.ofInt v88_))] [] _
                      refine zw_goto (pc := 144) (tgt := 0) (by decide) d_Calc_reckon_144 ?_
                      refine zW_le [some (.ref (d_ + 33)), some (.int (Int32.ofInt a0_)), none, none, none] (⟨rfl, rfl, trivial⟩) ?_
                      exact ih_0 N95_ hb0_N95_ (by (exact zo_2718 eD33_2_N62_ eD33_2_N87_ eD33_2_N95_ hc_4 hlt_0 hvN59_ hx_ rD33_2_N59_.2))
                    · skip
                      refine zw_iconst (pc := 136) (v := Int32.ofInt 1) (by decide) d_Calc_reckon_136 ?_
                      refine zw_goto (pc := 137) (tgt := 141) (by decide) d_Calc_reckon_137 ?_
                      refine zk_callV hf_N87_.x (pc := 141) [.int (Int32.ofInt 1)] [] l_Calc_85 (u_Calc_settleX l d_ N87_ (hf_N87_.w hW) 1 (by decide) (by decide) (by (decide))) rfl rfl ((hf_N87_.w hW).kr (o := 33) (by decide)) (by decide) (by decide) (Nat.le_of_ble_eq_true rfl) d_Calc_reckon_141 ?_
                      rintro _ N97_ ⟨rfl, hsN97_, -⟩
                      have hf_N97_ : zFc d_ [] [] [(33, 2), (33, 3), (33, 6)] [25, 27] Mz N97_ := hf_N87_.tr hsN97_ (by decide) (by decide) (by decide) (by decide)
                      have hb0_N97_ : zFc d_ [] [] [(33, 2), (33, 3), (33, 6)] [25, 27] Mz N97_ := hb0_N87_.tr hsN97_ (by decide) (by decide) (by decide) (by decide)
                      have eD33_2_N97_ : ze N97_ (d_ + 33) 2 = ze N87_ (d_ + 33) 2 := hsN97_.e (by decide)
                      show zW l m_Calc_reckon (zn Mz + 0, zw Mz + 0) N97_ 144 [some (.ref (d_ + 33)), some (.int (Int32.ofInt a0_)), some (.int (Int32.ofInt v55_)), some (.int (Int32.ofInt v57_)), some (.int (Int32.ofInt v88_))] [] _
                      refine zw_goto (pc := 144) (tgt := 0) (by decide) d_Calc_reckon_144 ?_
                      refine zW_le [some (.ref (d_ + 33)), some (.int (Int32.ofInt a0_)), none, none, none] (⟨rfl, rfl, trivial⟩) ?_
                      exact ih_0 N97_ hb0_N97_ (by (exact zo_2718 eD33_2_N62_ eD33_2_N87_ eD33_2_N97_ hc_4 hlt_0 hvN59_ hx_ rD33_2_N59_.2))
  exact lp_0 _ Mz zFc.rf (Nat.lt_succ_self _)
set_option maxHeartbeats 4000000 in
theorem u_Calc_closeX (l : Launch) (d_ : Nat) (Mz : zMem) (hW : zKW d_ Mz) : zC l m_Calc_close 0 0 [.ref (d_ + 33)] Mz (zqcV d_ [] [] [(33, 2), (33, 4), (33, 5)] [] Mz (fun N => True)) := by
  refine zC_of (L0 := [some (.ref (d_ + 33))]) md_Calc_close (Nat.le_of_ble_eq_true rfl) rfl ?_ zQ0
  have hf : zFc d_ [] [] [(33, 2), (33, 4), (33, 5)] [] Mz Mz := zFc.rf
  refine zw_aload_n (pc := 0) (n := 0) (x := (d_ + 33)) rfl (zdal_p dlA_Calc_close_159 (i := 0) rfl) ?_
  refine zk_getI (pc := 1) f_Calc_24 rfl ((hf.w hW).kr (o := 33) (by decide)) (zdal_p dlA_Calc_close_159 (i := 1) rfl) ?_
  have hr1_ := ze_r Mz (d_ + 33) 2
  refine zr_if_le (pc := 4) (tgt := 37) ⟨(ze_r Mz (d_ + 33) 2).1, (ze_r Mz (d_ + 33) 2).2⟩ (by decide) (zdal_p dlA_Calc_close_159 (i := 2) rfl) (fun hc_4 => ?_) (fun hc_4 => ?_)
  · skip
    exact zk_vret (pc := 37) rfl hf trivial (zdal_p dlA_Calc_close_159 (i := 21) rfl)
  · skip
    refine zw_aload_n (pc := 7) (n := 0) (x := (d_ + 33)) rfl (zdal_p dlA_Calc_close_159 (i := 3) rfl) ?_
    refine zw_dup (pc := 8) rfl (zdal_p dlA_Calc_close_159 (i := 4) rfl) ?_
    refine zk_getI (pc := 9) f_Calc_24 rfl ((hf.w hW).kr (o := 33) (by decide)) (zdal_p dlA_Calc_close_159 (i := 5) rfl) ?_
    refine zw_iconst (pc := 12) (v := Int32.ofInt 1) (by decide) (zdal_p dlA_Calc_close_159 (i := 6) rfl) ?_
    refine zr_isub (pc := 13) (zdal_p dlA_Calc_close_159 (i := 7) rfl) ?_
    refine zr_nmI (fun v2_ hv2_ => ?_)
    obtain ⟨hv2_a, hv2_b⟩ := hv2_
    refine zk_putR (pc := 14) (o := 33) (by decide) f_Calc_24 rfl rfl ((hf.w hW).kr (o := 33) (by decide)) ⟨by (exact hv2_a), by (exact hv2_b)⟩ rfl rfl (zdal_p dlA_Calc_close_159 (i := 8) rfl) (fun N3_ hsN3_ hvN3_ => ?_)
    have hf_N3_ : zFc d_ [] [] [(33, 2), (33, 4), (33, 5)] [] Mz N3_ := hf.tr hsN3_ (by decide) (by decide) (by decide) (by decide)
    refine zw_aload_n (pc := 17) (n := 0) (x := (d_ + 33)) rfl (zdal_p dlA_Calc_close_159 (i := 9) rfl) ?_
    refine zw_dup (pc := 18) rfl (zdal_p dlA_Calc_close_159 (i := 10) rfl) ?_
    refine zk_getI (pc := 19) f_Calc_31 rfl ((hf_N3_.w hW).kr (o := 33) (by decide)) (zdal_p dlA_Calc_close_159 (i := 11) rfl) ?_
    have hr4_ := ze_r N3_ (d_ + 33) 4
    refine zw_iconst (pc := 22) (v := Int32.ofInt 1) (by decide) (zdal_p dlA_Calc_close_159 (i := 12) rfl) ?_
    refine zr_isub (pc := 23) (zdal_p dlA_Calc_close_159 (i := 13) rfl) ?_
    refine zr_nmI (fun v5_ hv5_ => ?_)
    obtain ⟨hv5_a, hv5_b⟩ := hv5_
    refine zk_putR (pc := 24) (o := 33) (by decide) f_Calc_31 rfl rfl ((hf_N3_.w hW).kr (o := 33) (by decide)) ⟨by (exact hv5_a), by (exact hv5_b)⟩ rfl rfl (zdal_p dlA_Calc_close_159 (i := 14) rfl) (fun N6_ hsN6_ hvN6_ => ?_)
    have hf_N6_ : zFc d_ [] [] [(33, 2), (33, 4), (33, 5)] [] Mz N6_ := hf_N3_.tr hsN6_ (by decide) (by decide) (by decide) (by decide)
    refine zw_aload_n (pc := 27) (n := 0) (x := (d_ + 33)) rfl (zdal_p dlA_Calc_close_159 (i := 15) rfl) ?_
    refine zw_dup (pc := 28) rfl (zdal_p dlA_Calc_close_159 (i := 16) rfl) ?_
    refine zk_getI (pc := 29) f_Calc_34 rfl ((hf_N6_.w hW).kr (o := 33) (by decide)) (zdal_p dlA_Calc_close_159 (i := 17) rfl) ?_
    have hr7_ := ze_r N6_ (d_ + 33) 5
    refine zw_iconst (pc := 32) (v := Int32.ofInt 1) (by decide) (zdal_p dlA_Calc_close_159 (i := 18) rfl) ?_
    refine zr_isub (pc := 33) (zdal_p dlA_Calc_close_159 (i := 19) rfl) ?_
    refine zr_nmI (fun v8_ hv8_ => ?_)
    obtain ⟨hv8_a, hv8_b⟩ := hv8_
    refine zk_putR (pc := 34) (o := 33) (by decide) f_Calc_34 rfl rfl ((hf_N6_.w hW).kr (o := 33) (by decide)) ⟨by (exact hv8_a), by (exact hv8_b)⟩ rfl rfl (zdal_p dlA_Calc_close_159 (i := 20) rfl) (fun N9_ hsN9_ hvN9_ => ?_)
    have hf_N9_ : zFc d_ [] [] [(33, 2), (33, 4), (33, 5)] [] Mz N9_ := hf_N6_.tr hsN9_ (by decide) (by decide) (by decide) (by decide)
    exact zk_vret (pc := 37) rfl hf_N9_ trivial (zdal_p dlA_Calc_close_159 (i := 21) rfl)
