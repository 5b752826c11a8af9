set_option maxHeartbeats 4000000 in
theorem u_Group_commutingWithG (l : Launch) (d_ : Nat) (Mz : zMem) (hW : zKW d_ Mz) (a0_ : Int) (ha0_a : -2147483648 ≤ a0_) (ha0_b : a0_ < 2147483648) (a1_ : Int) (ha1_a : -2147483648 ≤ a1_) (ha1_b : a1_ < 2147483648) (T_ : zGT) (hT_ : T_ ∈ gTabs) (p0_ : zTt T_ d_ Mz) (p1_ : 0 ≤ a0_) (p2_ : a0_ < gN T_) (p3_ : 0 ≤ a1_) (p4_ : a1_ < 16777216) : zC l m_Group_commutingWith 0 0 [.ref (d_ + 1), .int (Int32.ofInt a0_), .int (Int32.ofInt a1_)] Mz (zqcI d_ [] [] [] [] Mz (fun v N => v = ((zbq (gCw T_ (a1_).toNat (a0_).toNat) (gN T_) : Nat) : Int) ∧ 0 ≤ v ∧ v < 16777216)) := by
  refine zC_of (L0 := [some (.ref (d_ + 1)), some (.int (Int32.ofInt a0_)), some (.int (Int32.ofInt a1_)), none, none]) md_Group_commutingWith (Nat.le_of_ble_eq_true rfl) rfl ?_ zQ0
  have hf : zFc d_ [] [] [] [] Mz Mz := zFc.rf
  have r_D1_7 := ze_r Mz (d_ + 1) 7
  have hO_ := gTabs_ok T_ hT_
  have hG_ := hO_.1
  have hn24_ := hG_.2.1
  have hn1_ := hG_.1
  have hsz_ := p0_.1
  refine zw_iconst (pc := 0) (v := Int32.ofInt 0) (by decide) (zdal_p dlB_Group_commutingWith_2 (i := 0) rfl) ?_
  refine zw_istore_n (pc := 1) (i := 3) (L2 := [some (.ref (d_ + 1)), some (.int (Int32.ofInt a0_)), some (.int (Int32.ofInt a1_)), some (.int (Int32.ofInt 0)), none]) rfl (by decide) rfl (zdal_p dlB_Group_commutingWith_2 (i := 1) rfl) ?_
  refine zw_iconst (pc := 2) (v := Int32.ofInt 0) (by decide) (zdal_p dlB_Group_commutingWith_2 (i := 2) rfl) ?_
  refine zw_istore (pc := 3) (i := 4) (L2 := [some (.ref (d_ + 1)), some (.int (Int32.ofInt a0_)), some (.int (Int32.ofInt a1_)), some (.int (Int32.ofInt 0)), some (.int (Int32.ofInt 0))]) (by decide) rfl (zdal_p dlB_Group_commutingWith_2 (i := 3) rfl) ?_
  have lp_5 : ∀ (n : Nat) (u1_ : Int) (hu1_a : -2147483648 ≤ u1_) (hu1_b : u1_ < 2147483648) (u2_ : Int) (hu2_a : -2147483648 ≤ u2_) (hu2_b : u2_ < 2147483648) (i3_ : 0 ≤ u2_) (i4_ : u2_ ≤ gN T_) (i5_ : u1_ = ((zbq (gCw T_ (a1_).toNat (a0_).toNat) (u2_).toNat : Nat) : Int)), (gN T_ - u2_).toNat < n → zW l m_Group_commutingWith (zn Mz + 0, zw Mz + 0) Mz 5 [some (.ref (d_ + 1)), some (.int (Int32.ofInt a0_)), some (.int (Int32.ofInt a1_)), some (.int (Int32.ofInt u1_)), some (.int (Int32.ofInt u2_))] [] (zqcI d_ [] [] [] [] Mz (fun v N => v = ((zbq (gCw T_ (a1_).toNat (a0_).toNat) (gN T_) : Nat) : Int) ∧ 0 ≤ v ∧ v < 16777216)) := by
    intro n
    induction n with
    | zero =>
      intro u1_ hu1_a hu1_b u2_ hu2_a hu2_b i3_ i4_ i5_ h0
      exact absurd h0 (Nat.not_lt_zero _)
    | succ n ih_5 =>
      intro u1_ hu1_a hu1_b u2_ hu2_a hu2_b i3_ i4_ i5_ hlt_5
      have hcw_ := (show u1_ = ((zbq (gCw T_ (a1_).toNat (a0_).toNat) (u2_).toNat : Nat) : Int) by first | with_reducible assumption | assumption)
      have hcr_ := zbq_r hn24_ (by omega) hcw_
      refine zw_iload (pc := 5) (i := 4) (x := Int32.ofInt u2_) rfl (zdal_p dlB_Group_commutingWith_2 (i := 4) rfl) ?_
      refine zw_aload_n (pc := 7) (n := 0) (x := (d_ + 1)) rfl (zdal_p dlB_Group_commutingWith_2 (i := 5) rfl) ?_
      refine zk_getI (pc := 8) f_Group_39 rfl ((hf.w hW).kr (o := 1) (by decide)) (zdal_p dlB_Group_commutingWith_2 (i := 6) rfl) ?_
      refine zr_icmp_ge (pc := 11) (tgt := 53) ⟨hu2_a, hu2_b⟩ ⟨(ze_r Mz (d_ + 1) 7).1, (ze_r Mz (d_ + 1) 7).2⟩ (by decide) (zdal_p dlB_Group_commutingWith_2 (i := 7) rfl) (fun hc_11 => ?_) (fun hc_11 => ?_)
      · skip
        refine zw_iload_n (pc := 53) (n := 3) (x := Int32.ofInt u1_) rfl (zdal_p dlB_Group_commutingWith_3 (i := 5) rfl) ?_
        exact zk_iret (pc := 54) (ty := .int) rfl rfl ⟨by omega, by omega⟩ hf ⟨(show u1_ = ((zbq (gCw T_ (a1_).toNat (a0_).toNat) (gN T_) : Nat) : Int) by rw [show gN T_ = (u2_).toNat by omega]; exact hcw_), (show 0 ≤ u1_ by first | with_reducible assumption | assumption | omega), (show u1_ < 16777216 by first | with_reducible assumption | assumption | omega)⟩ (zdal_p dlB_Group_commutingWith_3 (i := 6) rfl)
      · skip
        refine zw_iload_n (pc := 14) (n := 2) (x := Int32.ofInt a1_) rfl (zdal_p dlB_Group_commutingWith_2 (i := 8) rfl) ?_
        refine zw_iload (pc := 15) (i := 4) (x := Int32.ofInt u2_) rfl (zdal_p dlB_Group_commutingWith_2 (i := 9) rfl) ?_
        refine zr_callS hf.x (pc := 17) [.int (Int32.ofInt a1_), .int (Int32.ofInt u2_)] [] l_Group_73 (u_T_isIn l d_ Mz (hf.w hW) a1_ ha1_a ha1_b u2_ hu2_a hu2_b (show 0 ≤ a1_ by first | with_reducible assumption | assumption | omega) (show a1_ < 2147483648 by first | with_reducible assumption | assumption | omega) (show 0 ≤ u2_ by first | with_reducible assumption | assumption | omega) (show u2_ < 31 by first | with_reducible assumption | assumption | omega)) rfl rfl (by decide) (Nat.le_of_ble_eq_true rfl) (zdal_p dlB_Group_commutingWith_2 (i := 10) rfl) ?_
        rintro _ N6_ ⟨v7_, rfl, ⟨hv7_a, hv7_b⟩, hsN6_, hp0_N6_⟩
        obtain rfl := hsN6_.eq.symm
        replace hp0_N6_ : ((v7_ = 1 ∧ zbt a1_ u2_) ∨ (v7_ = 0 ∧ ¬ zbt a1_ u2_)) := hp0_N6_
        rcases hp0_N6_ with ⟨rfl, ha17_0_hp0_N6_⟩ | ⟨rfl, ha17_0_hp0_N6_⟩
        · skip
          have hin_ := ha17_0_hp0_N6_
          show zW l m_Group_commutingWith (zn Mz + 0, zw Mz + 0) Mz 20 [some (.ref (d_ + 1)), some (.int (Int32.ofInt a0_)), some (.int (Int32.ofInt a1_)), some (.int (Int32.ofInt u1_)), some (.int (Int32.ofInt u2_))] [.int (Int32.ofInt 1)] _
          refine zr_if_eq (pc := 20) (tgt := 47) ⟨(by decide), (by decide)⟩ (by decide) (zdal_p dlB_Group_commutingWith_2 (i := 11) rfl) (fun hc_20 => ?_) (fun hc_20 => ?_)
          · skip
            exact absurd hc_20 (by decide)
          · skip
            refine zw_aload_n (pc := 23) (n := 0) (x := (d_ + 1)) rfl (zdal_p dlB_Group_commutingWith_2 (i := 12) rfl) ?_
            refine zw_iload_n (pc := 24) (n := 1) (x := Int32.ofInt a0_) rfl (zdal_p dlB_Group_commutingWith_2 (i := 13) rfl) ?_
            refine zw_iload (pc := 25) (i := 4) (x := Int32.ofInt u2_) rfl (zdal_p dlB_Group_commutingWith_2 (i := 14) rfl) ?_
            refine zk_callV hf.x (pc := 27) [.int (Int32.ofInt a0_), .int (Int32.ofInt u2_)] [] l_Group_67 (u_Group_both l d_ Mz (hf.w hW) a0_ ha0_a ha0_b u2_ hu2_a hu2_b T_ hT_ p0_ (show 0 ≤ a0_ by first | with_reducible assumption | assumption | omega) (show a0_ < gN T_ by first | with_reducible assumption | assumption | omega) (show 0 ≤ u2_ by first | with_reducible assumption | assumption | omega) (show u2_ < gN T_ by first | with_reducible assumption | assumption | omega)) rfl rfl ((hf.w hW).kr (o := 1) (by decide)) (by decide) (by decide) (Nat.le_of_ble_eq_true rfl) (zdal_p dlB_Group_commutingWith_2 (i := 15) rfl) ?_
            rintro _ N8_ ⟨v9_, rfl, ⟨hv9_a, hv9_b⟩, hsN8_, ⟨hp0_N8_, hp1_N8_, hp2_N8_⟩⟩
            obtain rfl := hsN8_.eq.symm
            show zW l m_Group_commutingWith (zn Mz + 0, zw Mz + 0) Mz 30 [some (.ref (d_ + 1)), some (.int (Int32.ofInt a0_)), some (.int (Int32.ofInt a1_)), some (.int (Int32.ofInt u1_)), some (.int (Int32.ofInt u2_))] [.int (Int32.ofInt v9_)] _
            have hb1_ := hp0_N8_
            refine zw_aload_n (pc := 30) (n := 0) (x := (d_ + 1)) rfl (zdal_p dlB_Group_commutingWith_2 (i := 16) rfl) ?_
            refine zw_iload (pc := 31) (i := 4) (x := Int32.ofInt u2_) rfl (zdal_p dlB_Group_commutingWith_2 (i := 17) rfl) ?_
            refine zw_iload_n (pc := 33) (n := 1) (x := Int32.ofInt a0_) rfl (zdal_p dlB_Group_commutingWith_2 (i := 18) rfl) ?_
            refine zk_callV hf.x (pc := 34) [.int (Int32.ofInt u2_), .int (Int32.ofInt a0_)] [.int (Int32.ofInt v9_)] l_Group_67 (u_Group_both l d_ Mz (hf.w hW) u2_ hu2_a hu2_b a0_ ha0_a ha0_b T_ hT_ p0_ (show 0 ≤ u2_ by first | with_reducible assumption | assumption | omega) (show u2_ < gN T_ by first | with_reducible assumption | assumption | omega) (show 0 ≤ a0_ by first | with_reducible assumption | assumption | omega) (show a0_ < gN T_ by first | with_reducible assumption | assumption | omega)) rfl rfl ((hf.w hW).kr (o := 1) (by decide)) (by decide) (by decide) (Nat.le_of_ble_eq_true rfl) (zdal_p dlB_Group_commutingWith_2 (i := 19) rfl) ?_
            rintro _ N10_ ⟨v11_, rfl, ⟨hv11_a, hv11_b⟩, hsN10_, ⟨hp0_N10_, hp1_N10_, hp2_N10_⟩⟩
            obtain rfl := hsN10_.eq.symm
            show zW l m_Group_commutingWith (zn Mz + 0, zw Mz + 0) Mz 37 [some (.ref (d_ + 1)), some (.int (Int32.ofInt a0_)), some (.int (Int32.ofInt a1_)), some (.int (Int32.ofInt u1_)), some (.int (Int32.ofInt u2_))] [.int (Int32.ofInt v11_), .int (Int32.ofInt v9_)] _
            have hb2_ := hp0_N10_
            refine zr_icmp_ne (pc := 37) (tgt := 47) ⟨hv9_a, hv9_b⟩ ⟨hv11_a, hv11_b⟩ (by decide) (zdal_p dlB_Group_commutingWith_2 (i := 20) rfl) (fun hc_37 => ?_) (fun hc_37 => ?_)
            · skip
              refine zr_iinc (pc := 47) (i := 4) (a := u2_) (n := 1) (L2 := [some (.ref (d_ + 1)), some (.int (Int32.ofInt a0_)), some (.int (Int32.ofInt a1_)), some (.int (Int32.ofInt u1_)), some (.int (Int32.ofInt (u2_ + 1)))]) rfl (by decide) rfl d_Group_commutingWith_47 ?_
              refine zw_goto (pc := 50) (tgt := 5) (by decide) d_Group_commutingWith_50 ?_
              have hcx_ : u1_ = ((zbq (gCw T_ (a1_).toNat (a0_).toNat) ((u2_ + 1)).toNat : Nat) : Int) := by first | exact hcn_ | exact zbq_0 (p := gCw T_ (a1_).toNat (a0_).toNat) (by omega) hcw_ (fun q_ => by have q2_ := q_.2; omega)
              exact ih_5 u1_ hu1_a hu1_b (u2_ + 1) (by omega) (by omega) (show 0 ≤ (u2_ + 1) by first | with_reducible assumption | assumption | omega) (show (u2_ + 1) ≤ gN T_ by first | with_reducible assumption | assumption | omega) (show u1_ = ((zbq (gCw T_ (a1_).toNat (a0_).toNat) ((u2_ + 1)).toNat : Nat) : Int) by exact hcx_) (by omega)
            · skip
              refine zw_iload_n (pc := 40) (n := 3) (x := Int32.ofInt u1_) rfl (zdal_p dlB_Group_commutingWith_2 (i := 21) rfl) ?_
              refine zw_iconst (pc := 41) (v := Int32.ofInt 1) (by decide) (zdal_p dlB_Group_commutingWith_2 (i := 22) rfl) ?_
              refine zw_iload (pc := 42) (i := 4) (x := Int32.ofInt u2_) rfl (zdal_p dlB_Group_commutingWith_2 (i := 23) rfl) ?_
              refine zr_ishl (pc := 44) (zdal_p dlB_Group_commutingWith_3 (i := 0) rfl) ?_
              have hr12_ := zshl_r 1 u2_
              refine zr_ior (pc := 45) (zdal_p dlB_Group_commutingWith_3 (i := 1) rfl) ?_
              have hr13_ := zor_r u1_ (zshl 1 u2_)
              have hcn_ := zbq_1 (p := gCw T_ (a1_).toNat (a0_).toNat) (by omega) (by omega) hcw_ ⟨hin_, by omega⟩
              refine zw_istore_n (pc := 46) (i := 3) (L2 := [some (.ref (d_ + 1)), some (.int (Int32.ofInt a0_)), some (.int (Int32.ofInt a1_)), some (.int (Int32.ofInt (zor u1_ (zshl 1 u2_)))), some (.int (Int32.ofInt u2_))]) rfl (by decide) rfl (zdal_p dlB_Group_commutingWith_3 (i := 2) rfl) ?_
              refine zr_iinc (pc := 47) (i := 4) (a := u2_) (n := 1) (L2 := [some (.ref (d_ + 1)), some (.int (Int32.ofInt a0_)), some (.int (Int32.ofInt a1_)), some (.int (Int32.ofInt (zor u1_ (zshl 1 u2_)))), some (.int (Int32.ofInt (u2_ + 1)))]) rfl (by decide) rfl d_Group_commutingWith_47 ?_
              refine zw_goto (pc := 50) (tgt := 5) (by decide) d_Group_commutingWith_50 ?_
              have hcx_ : (zor u1_ (zshl 1 u2_)) = ((zbq (gCw T_ (a1_).toNat (a0_).toNat) ((u2_ + 1)).toNat : Nat) : Int) := by first | exact hcn_ | exact zbq_0 (p := gCw T_ (a1_).toNat (a0_).toNat) (by omega) hcw_ (fun q_ => by have q2_ := q_.2; omega)
              exact ih_5 (zor u1_ (zshl 1 u2_)) (by omega) (by omega) (u2_ + 1) (by omega) (by omega) (show 0 ≤ (u2_ + 1) by first | with_reducible assumption | assumption | omega) (show (u2_ + 1) ≤ gN T_ by first | with_reducible assumption | assumption | omega) (show (zor u1_ (zshl 1 u2_)) = ((zbq (gCw T_ (a1_).toNat (a0_).toNat) ((u2_ + 1)).toNat : Nat) : Int) by exact hcx_) (by omega)
        · skip
          have hcn_ := zbq_0 (p := gCw T_ (a1_).toNat (a0_).toNat) (by omega) hcw_ (fun q_ => ha17_0_hp0_N6_ q_.1)
          show zW l m_Group_commutingWith (zn Mz + 0, zw Mz + 0) Mz 20 [some (.ref (d_ + 1)), some (.int (Int32.ofInt a0_)), some (.int (Int32.ofInt a1_)), some (.int (Int32.ofInt u1_)), some (.int (Int32.ofInt u2_))] [.int (Int32.ofInt 0)] _
          refine zr_if_eq (pc := 20) (tgt := 47) ⟨(by decide), (by decide)⟩ (by decide) (zdal_p dlB_Group_commutingWith_2 (i := 11) rfl) (fun hc_20 => ?_) (fun hc_20 => ?_)
          · skip
            refine zr_iinc (pc := 47) (i := 4) (a := u2_) (n := 1) (L2 := [some (.ref (d_ + 1)), some (.int (Int32.ofInt a0_)), some (.int (Int32.ofInt a1_)), some (.int (Int32.ofInt u1_)), some (.int (Int32.ofInt (u2_ + 1)))]) rfl (by decide) rfl d_Group_commutingWith_47 ?_
            refine zw_goto (pc := 50) (tgt := 5) (by decide) d_Group_commutingWith_50 ?_
            have hcx_ : u1_ = ((zbq (gCw T_ (a1_).toNat (a0_).toNat) ((u2_ + 1)).toNat : Nat) : Int) := by first | exact hcn_ | exact zbq_0 (p := gCw T_ (a1_).toNat (a0_).toNat) (by omega) hcw_ (fun q_ => by have q2_ := q_.2; omega)
            exact ih_5 u1_ hu1_a hu1_b (u2_ + 1) (by omega) (by omega) (show 0 ≤ (u2_ + 1) by first | with_reducible assumption | assumption | omega) (show (u2_ + 1) ≤ gN T_ by first | with_reducible assumption | assumption | omega) (show u1_ = ((zbq (gCw T_ (a1_).toNat (a0_).toNat) ((u2_ + 1)).toNat : Nat) : Int) by exact hcx_) (by omega)
          · skip
            exact absurd hc_20 (by decide)
  exact lp_5 _ 0 (by decide) (by decide) 0 (by decide) (by decide) (show 0 ≤ (0 : Int) by first | with_reducible assumption | assumption | omega) (show (0 : Int) ≤ gN T_ by first | with_reducible assumption | assumption | omega) (show (0 : Int) = ((zbq (gCw T_ (a1_).toNat (a0_).toNat) ((0 : Int)).toNat : Nat) : Int) by rfl) (Nat.lt_succ_self _)
set_option maxHeartbeats 4000000 in
theorem u_Group_everyoneG (l : Launch) (d_ : Nat) (Mz : zMem) (hW : zKW d_ Mz) (T_ : zGT) (hT_ : T_ ∈ gTabs) (p0_ : zTt T_ d_ Mz) : zC l m_Group_everyone 0 0 [.ref (d_ + 1)] Mz (zqcI d_ [] [] [] [] Mz (fun v N => v = ((2 ^ gN T_ - 1 : Nat) : Int) ∧ 0 ≤ v ∧ v < 16777216)) := by
  refine zC_of (L0 := [some (.ref (d_ + 1))]) md_Group_everyone (Nat.le_of_ble_eq_true rfl) rfl ?_ zQ0
  have hf : zFc d_ [] [] [] [] Mz Mz := zFc.rf
  have r_D1_7 := ze_r Mz (d_ + 1) 7
  have hO_ := gTabs_ok T_ hT_
  have hG_ := hO_.1
  have hn24_ := hG_.2.1
  have hn1_ := hG_.1
  have hsz_ := p0_.1
  have hsh_ := zshl_b hG_ hsz_
  refine zw_iconst (pc := 0) (v := Int32.ofInt 1) (by decide) (zdal_p dlA_Group_everyone_167 (i := 0) rfl) ?_
  refine zw_aload_n (pc := 1) (n := 0) (x := (d_ + 1)) rfl (zdal_p dlA_Group_everyone_167 (i := 1) rfl) ?_
  refine zk_getI (pc := 2) f_Group_39 rfl ((hf.w hW).kr (o := 1) (by decide)) (zdal_p dlA_Group_everyone_167 (i := 2) rfl) ?_
  refine zr_ishl (pc := 5) (zdal_p dlA_Group_everyone_167 (i := 3) rfl) ?_
  have hr1_ := zshl_r 1 (ze Mz (d_ + 1) 7)
  refine zw_iconst (pc := 6) (v := Int32.ofInt 1) (by decide) (zdal_p dlA_Group_everyone_167 (i := 4) rfl) ?_
  refine zr_isub (pc := 7) (zdal_p dlA_Group_everyone_167 (i := 5) rfl) ?_
  exact zk_iret (pc := 8) (ty := .int) rfl rfl ⟨by omega, by omega⟩ hf ⟨(show ((zshl 1 (ze Mz (d_ + 1) 7)) - 1) = ((2 ^ gN T_ - 1 : Nat) : Int) by omega), (show 0 ≤ ((zshl 1 (ze Mz (d_ + 1) 7)) - 1) by first | with_reducible assumption | assumption | omega), (show ((zshl 1 (ze Mz (d_ + 1) 7)) - 1) < 16777216 by first | with_reducible assumption | assumption | omega)⟩ (zdal_p dlA_Group_everyone_167 (i := 6) rfl)
set_option maxHeartbeats 4000000 in
theorem u_Group_centreOfG (l : Launch) (d_ : Nat) (Mz : zMem) (hW : zKW d_ Mz) (a0_ : Int) (ha0_a : -2147483648 ≤ a0_) (ha0_b : a0_ < 2147483648) (T_ : zGT) (hT_ : T_ ∈ gTabs) (p0_ : zTt T_ d_ Mz) (p1_ : 0 ≤ a0_) (p2_ : (a0_).toNat < 2 ^ gN T_) : zC l m_Group_centreOf 0 0 [.ref (d_ + 1), .int (Int32.ofInt a0_)] Mz (zqcI d_ [] [] [] [] Mz (fun v N => v = ((zbq (gCe T_ (a0_).toNat (gN T_)) (gN T_) : Nat) : Int) ∧ 0 ≤ v ∧ v < 16777216)) := by
  refine zC_of (L0 := [some (.ref (d_ + 1)), some (.int (Int32.ofInt a0_)), none, none]) md_Group_centreOf (Nat.le_of_ble_eq_true rfl) rfl ?_ zQ0
  have hf : zFc d_ [] [] [] [] Mz Mz := zFc.rf
  have r_D1_7 := ze_r Mz (d_ + 1) 7
  have hO_ := gTabs_ok T_ hT_
  have hG_ := hO_.1
  have hn24_ := hG_.2.1
  have hn1_ := hG_.1
  have hsz_ := p0_.1
  have h24_ := g24 hn24_ p1_ p2_
  refine zw_iload_n (pc := 0) (n := 1) (x := Int32.ofInt a0_) rfl (zdal_p dlB_Group_centreOf_1 (i := 0) rfl) ?_
  refine zw_istore_n (pc := 1) (i := 2) (L2 := [some (.ref (d_ + 1)), some (.int (Int32.ofInt a0_)), some (.int (Int32.ofInt a0_)), none]) rfl (by decide) rfl (zdal_p dlB_Group_centreOf_1 (i := 1) rfl) ?_
  refine zw_iconst (pc := 2) (v := Int32.ofInt 0) (by decide) (zdal_p dlB_Group_centreOf_1 (i := 2) rfl) ?_
  refine zw_istore_n (pc := 3) (i := 3) (L2 := [some (.ref (d_ + 1)), some (.int (Int32.ofInt a0_)), some (.int (Int32.ofInt a0_)), some (.int (Int32.ofInt 0))]) rfl (by decide) rfl (zdal_p dlB_Group_centreOf_1 (i := 3) rfl) ?_
  have lp_4 : ∀ (n : Nat) (u1_ : Int) (hu1_a : -2147483648 ≤ u1_) (hu1_b : u1_ < 2147483648) (u2_ : Int) (hu2_a : -2147483648 ≤ u2_) (hu2_b : u2_ < 2147483648) (i3_ : 0 ≤ u2_) (i4_ : u2_ ≤ gN T_) (i5_ : u1_ = ((zbq (gCe T_ (a0_).toNat (u2_).toNat) (gN T_) : Nat) : Int)), (gN T_ - u2_).toNat < n → zW l m_Group_centreOf (zn Mz + 0, zw Mz + 0) Mz 4 [some (.ref (d_ + 1)), some (.int (Int32.ofInt a0_)), some (.int (Int32.ofInt u1_)), some (.int (Int32.ofInt u2_))] [] (zqcI d_ [] [] [] [] Mz (fun v N => v = ((zbq (gCe T_ (a0_).toNat (gN T_)) (gN T_) : Nat) : Int) ∧ 0 ≤ v ∧ v < 16777216)) := by
    intro n
    induction n with
    | zero =>
      intro u1_ hu1_a hu1_b u2_ hu2_a hu2_b i3_ i4_ i5_ h0
      exact absurd h0 (Nat.not_lt_zero _)
    | succ n ih_4 =>
      intro u1_ hu1_a hu1_b u2_ hu2_a hu2_b i3_ i4_ i5_ hlt_4
      have hce_ := (show u1_ = ((zbq (gCe T_ (a0_).toNat (u2_).toNat) (gN T_) : Nat) : Int) by first | with_reducible assumption | assumption)
      have hcl_ := zbq_lt (gCe T_ (a0_).toNat (u2_).toNat) (gN T_)
      have hp2_ : 2 ^ gN T_ ≤ 2 ^ 24 := Nat.pow_le_pow_right (by omega) hn24_
      refine zw_iload_n (pc := 4) (n := 3) (x := Int32.ofInt u2_) rfl (zdal_p dlB_Group_centreOf_1 (i := 4) rfl) ?_
      refine zw_aload_n (pc := 5) (n := 0) (x := (d_ + 1)) rfl (zdal_p dlB_Group_centreOf_1 (i := 5) rfl) ?_
      refine zk_getI (pc := 6) f_Group_39 rfl ((hf.w hW).kr (o := 1) (by decide)) (zdal_p dlB_Group_centreOf_1 (i := 6) rfl) ?_
      refine zr_icmp_ge (pc := 9) (tgt := 35) ⟨hu2_a, hu2_b⟩ ⟨(ze_r Mz (d_ + 1) 7).1, (ze_r Mz (d_ + 1) 7).2⟩ (by decide) (zdal_p dlB_Group_centreOf_1 (i := 7) rfl) (fun hc_9 => ?_) (fun hc_9 => ?_)
      · skip
        refine zw_iload_n (pc := 35) (n := 2) (x := Int32.ofInt u1_) rfl (zdal_p dlB_Group_centreOf_1 (i := 21) rfl) ?_
        exact zk_iret (pc := 36) (ty := .int) rfl rfl ⟨by omega, by omega⟩ hf ⟨(show u1_ = ((zbq (gCe T_ (a0_).toNat (gN T_)) (gN T_) : Nat) : Int) by rw [show (u2_).toNat = gN T_ by omega] at hce_; exact hce_), (show 0 ≤ u1_ by first | with_reducible assumption | assumption | omega), (show u1_ < 16777216 by first | with_reducible assumption | assumption | omega)⟩ (zdal_p dlB_Group_centreOf_1 (i := 22) rfl)
      · skip
        refine zw_iload_n (pc := 12) (n := 1) (x := Int32.ofInt a0_) rfl (zdal_p dlB_Group_centreOf_1 (i := 8) rfl) ?_
        refine zw_iload_n (pc := 13) (n := 3) (x := Int32.ofInt u2_) rfl (zdal_p dlB_Group_centreOf_1 (i := 9) rfl) ?_
        refine zr_callS hf.x (pc := 14) [.int (Int32.ofInt a0_), .int (Int32.ofInt u2_)] [] l_Group_73 (u_T_isIn l d_ Mz (hf.w hW) a0_ ha0_a ha0_b u2_ hu2_a hu2_b (show 0 ≤ a0_ by first | with_reducible assumption | assumption | omega) (show a0_ < 2147483648 by first | with_reducible assumption | assumption | omega) (show 0 ≤ u2_ by first | with_reducible assumption | assumption | omega) (show u2_ < 31 by first | with_reducible assumption | assumption | omega)) rfl rfl (by decide) (Nat.le_of_ble_eq_true rfl) (zdal_p dlB_Group_centreOf_1 (i := 10) rfl) ?_
        rintro _ N6_ ⟨v7_, rfl, ⟨hv7_a, hv7_b⟩, hsN6_, hp0_N6_⟩
        obtain rfl := hsN6_.eq.symm
        replace hp0_N6_ : ((v7_ = 1 ∧ zbt a0_ u2_) ∨ (v7_ = 0 ∧ ¬ zbt a0_ u2_)) := hp0_N6_
        rcases hp0_N6_ with ⟨rfl, ha14_0_hp0_N6_⟩ | ⟨rfl, ha14_0_hp0_N6_⟩
        · skip
          have hin_ := ha14_0_hp0_N6_
          show zW l m_Group_centreOf (zn Mz + 0, zw Mz + 0) Mz 17 [some (.ref (d_ + 1)), some (.int (Int32.ofInt a0_)), some (.int (Int32.ofInt u1_)), some (.int (Int32.ofInt u2_))] [.int (Int32.ofInt 1)] _
          refine zr_if_eq (pc := 17) (tgt := 29) ⟨(by decide), (by decide)⟩ (by decide) (zdal_p dlB_Group_centreOf_1 (i := 11) rfl) (fun hc_17 => ?_) (fun hc_17 => ?_)
          · skip
            exact absurd hc_17 (by decide)
          · skip
            refine zw_iload_n (pc := 20) (n := 2) (x := Int32.ofInt u1_) rfl (zdal_p dlB_Group_centreOf_1 (i := 12) rfl) ?_
            refine zw_aload_n (pc := 21) (n := 0) (x := (d_ + 1)) rfl (zdal_p dlB_Group_centreOf_1 (i := 13) rfl) ?_
            refine zw_iload_n (pc := 22) (n := 3) (x := Int32.ofInt u2_) rfl (zdal_p dlB_Group_centreOf_1 (i := 14) rfl) ?_
            refine zw_iload_n (pc := 23) (n := 1) (x := Int32.ofInt a0_) rfl (zdal_p dlB_Group_centreOf_1 (i := 15) rfl) ?_
            refine zk_callV hf.x (pc := 24) [.int (Int32.ofInt u2_), .int (Int32.ofInt a0_)] [.int (Int32.ofInt u1_)] l_Group_97 (u_Group_commutingWithG l d_ Mz (hf.w hW) u2_ hu2_a hu2_b a0_ ha0_a ha0_b T_ hT_ p0_ (show 0 ≤ u2_ by first | with_reducible assumption | assumption | omega) (show u2_ < gN T_ by first | with_reducible assumption | assumption | omega) (show 0 ≤ a0_ by first | with_reducible assumption | assumption | omega) (show a0_ < 16777216 by first | with_reducible assumption | assumption | omega)) rfl rfl ((hf.w hW).kr (o := 1) (by decide)) (by decide) (by decide) (Nat.le_of_ble_eq_true rfl) (zdal_p dlB_Group_centreOf_1 (i := 16) rfl) ?_
            rintro _ N8_ ⟨v9_, rfl, ⟨hv9_a, hv9_b⟩, hsN8_, ⟨hp0_N8_, hp1_N8_, hp2_N8_⟩⟩
            obtain rfl := hsN8_.eq.symm
            show zW l m_Group_centreOf (zn Mz + 0, zw Mz + 0) Mz 27 [some (.ref (d_ + 1)), some (.int (Int32.ofInt a0_)), some (.int (Int32.ofInt u1_)), some (.int (Int32.ofInt u2_))] [.int (Int32.ofInt v9_), .int (Int32.ofInt u1_)] _
            have hcn_ := gCe_s1 (by omega) hn24_ hin_ hce_ hp0_N8_
            refine zr_iand (pc := 27) (zdal_p dlB_Group_centreOf_1 (i := 17) rfl) ?_
            have hr10_ := zand_r u1_ v9_
            refine zw_istore_n (pc := 28) (i := 2) (L2 := [some (.ref (d_ + 1)), some (.int (Int32.ofInt a0_)), some (.int (Int32.ofInt (zand u1_ v9_))), some (.int (Int32.ofInt u2_))]) rfl (by decide) rfl (zdal_p dlB_Group_centreOf_1 (i := 18) rfl) ?_
            refine zr_iinc (pc := 29) (i := 3) (a := u2_) (n := 1) (L2 := [some (.ref (d_ + 1)), some (.int (Int32.ofInt a0_)), some (.int (Int32.ofInt (zand u1_ v9_))), some (.int (Int32.ofInt (u2_ + 1)))]) rfl (by decide) rfl (zdal_p dlB_Group_centreOf_1 (i := 19) rfl) ?_
            refine zw_goto (pc := 32) (tgt := 4) (by decide) (zdal_p dlB_Group_centreOf_1 (i := 20) rfl) ?_
            exact ih_4 (zand u1_ v9_) (by omega) (by omega) (u2_ + 1) (by omega) (by omega) (show 0 ≤ (u2_ + 1) by first | with_reducible assumption | assumption | omega) (show (u2_ + 1) ≤ gN T_ by first | with_reducible assumption | assumption | omega) (show (zand u1_ v9_) = ((zbq (gCe T_ (a0_).toNat ((u2_ + 1)).toNat) (gN T_) : Nat) : Int) by exact hcn_) (by omega)
        · skip
          have hcn_ := gCe_s0 (by omega) ha14_0_hp0_N6_ hce_
          show zW l m_Group_centreOf (zn Mz + 0, zw Mz + 0) Mz 17 [some (.ref (d_ + 1)), some (.int (Int32.ofInt a0_)), some (.int (Int32.ofInt u1_)), some (.int (Int32.ofInt u2_))] [.int (Int32.ofInt 0)] _
          refine zr_if_eq (pc := 17) (tgt := 29) ⟨(by decide), (by decide)⟩ (by decide) (zdal_p dlB_Group_centreOf_1 (i := 11) rfl) (fun hc_17 => ?_) (fun hc_17 => ?_)
          · skip
            refine zr_iinc (pc := 29) (i := 3) (a := u2_) (n := 1) (L2 := [some (.ref (d_ + 1)), some (.int (Int32.ofInt a0_)), some (.int (Int32.ofInt u1_)), some (.int (Int32.ofInt (u2_ + 1)))]) rfl (by decide) rfl (zdal_p dlB_Group_centreOf_1 (i := 19) rfl) ?_
            refine zw_goto (pc := 32) (tgt := 4) (by decide) (zdal_p dlB_Group_centreOf_1 (i := 20) rfl) ?_
            exact ih_4 u1_ hu1_a hu1_b (u2_ + 1) (by omega) (by omega) (show 0 ≤ (u2_ + 1) by first | with_reducible assumption | assumption | omega) (show (u2_ + 1) ≤ gN T_ by first | with_reducible assumption | assumption | omega) (show u1_ = ((zbq (gCe T_ (a0_).toNat ((u2_ + 1)).toNat) (gN T_) : Nat) : Int) by exact hcn_) (by omega)
          · skip
            exact absurd hc_17 (by decide)
  exact lp_4 _ a0_ ha0_a ha0_b 0 (by decide) (by decide) (show 0 ≤ (0 : Int) by first | with_reducible assumption | assumption | omega) (show (0 : Int) ≤ gN T_ by first | with_reducible assumption | assumption | omega) (show a0_ = ((zbq (gCe T_ (a0_).toNat ((0 : Int)).toNat) (gN T_) : Nat) : Int) by have hz_ := gCe_0 (T := T_) p2_; show a0_ = ((zbq (gCe T_ (a0_).toNat 0) (gN T_) : Nat) : Int); omega) (Nat.lt_succ_self _)
