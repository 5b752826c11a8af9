set_option maxHeartbeats 4000000 in
theorem u_Group_commutingWithG (l : Launch) (d_ : Nat) (Mz : zMem) (hW : zKW d_ Mz) (a0_ : Int) (ha0_a : -2147483648 ≤ a0_) (ha0_b : a0_ < 2147483648) (a1_ : Int) (ha1_a : -2147483648 ≤ a1_) (ha1_b : a1_ < 2147483648) (T_ : zGT) (hT_ : T_ ∈ gTabs) (p0_ : zTt T_ d_ Mz) (p1_ : 0 ≤ a0_) (p2_ : a0_ < gN T_) (p3_ : 0 ≤ a1_) (p4_ : a1_ < 16777216) : zC l m_Group_commutingWith 0 0 [.ref (d_ + 1), .int (Int32.ofInt a0_), .int (Int32.ofInt a1_)] Mz (zqcI d_ [] [] [] [] Mz (fun v N => v = ((zbq (gCw T_ (a1_).toNat (a0_).toNat) (gN T_) : Nat) : Int) ∧ 0 ≤ v ∧ v < 16777216)) := by
  refine zC_of (L0 := [some (.ref (d_ + 1)), some (.int (Int32.ofInt a0_)), some (.int (Int32.ofInt a1_)), none, none]) md_Group_commutingWith (Nat.le_of_ble_eq_true rfl) rfl ?_ zQ0
  have hf : zFc d_ [] [] [] [] Mz Mz := zFc.rf
  have r_D1_7 := ze_r Mz (d_ + 1) 7
  have hO_ := gTabs_ok T_ hT_
  have hG_ := hO_.1
  have hn24_ := hG_.2.1
  have hn1_ := hG_.1
  have hsz_ := p0_.1
  refine zw_iconst (pc := 0) (v := Int32.ofInt 0) (by decide) d_Group_commutingWith_0 ?_
  refine zw_istore_n (pc := 1) (i := 3) (L2 := [some (.ref (d_ + 1)), some (.int (Int32.ofInt a0_)), some (.int (Int32.ofInt a1_)), some (.int (Int32.ofInt 0)), none]) rfl (by decide) rfl d_Group_commutingWith_1 ?_
  refine zw_iconst (pc := 2) (v := Int32.ofInt 0) (by decide) d_Group_commutingWith_2 ?_
  refine zw_istore (pc := 3) (i := 4) (L2 := [some (.ref (d_ + 1)), some (.int (Int32.ofInt a0_)), some (.int (Int32.ofInt a1_)), some (.int (Int32.ofInt 0)), some (.int (Int32.ofInt 0))]) (by decide) rfl d_Group_commutingWith_3 ?_
  have lp_5 : ∀ (n : Nat) (u1_ : Int) (hu1_a : -2147483648 ≤ u1_) (hu1_b : u1_ < 2147483648) (u2_ : Int) (hu2_a : -2147483648 ≤ u2_) (hu2_b : u2_ < 2147483648) (i3_ : 0 ≤ u2_) (i4_ : u2_ ≤ gN T_) (i5_ : u1_ = ((zbq (gCw T_ (a1_).toNat (a0_).toNat) (u2_).toNat : Nat) : Int)), (gN T_ - u2_).toNat < n → zW l m_Group_commutingWith (zn Mz + 0, zw Mz + 0) Mz 5 [some (.ref (d_ + 1)), some (.int (Int32.ofInt a0_)), some (.int (Int32.ofInt a1_)), some (.int (Int32.ofInt u1_)), some (.int (Int32.ofInt u2_))] [] (zqcI d_ [] [] [] [] Mz (fun v N => v = ((zbq (gCw T_ (a1_).toNat (a0_).toNat) (gN T_) : Nat) : Int) ∧ 0 ≤ v ∧ v < 16777216)) := by
    intro n
    induction n with
    | zero =>
      intro u1_ hu1_a hu1_b u2_ hu2_a hu2_b i3_ i4_ i5_ h0
      exact absurd h0 (Nat.not_lt_zero _)
    | succ n ih_5 =>
      intro u1_ hu1_a hu1_b u2_ hu2_a hu2_b i3_ i4_ i5_ hlt_5
      have hcw_ := (show u1_ = ((zbq (gCw T_ (a1_).toNat (a0_).toNat) (u2_).toNat : Nat) : Int) by assumption)
      have hcr_ := zbq_r hn24_ (by omega) hcw_
      refine zw_iload (pc := 5) (i := 4) (x := Int32.ofInt u2_) rfl d_Group_commutingWith_5 ?_
      refine zw_aload_n (pc := 7) (n := 0) (x := (d_ + 1)) rfl d_Group_commutingWith_7 ?_
      refine zk_getI (pc := 8) f_Group_39 rfl ((hf.w hW).kr (o := 1) (by decide)) d_Group_commutingWith_8 ?_
      refine zr_icmp_ge (pc := 11) (tgt := 53) ⟨hu2_a, hu2_b⟩ ⟨(ze_r Mz (d_ + 1) 7).1, (ze_r Mz (d_ + 1) 7).2⟩ (by decide) d_Group_commutingWith_11 (fun hc_11 => ?_) (fun hc_11 => ?_)
      · skip
        refine zw_iload_n (pc := 53) (n := 3) (x := Int32.ofInt u1_) rfl d_Group_commutingWith_53 ?_
        exact zk_iret (pc := 54) (ty := .int) rfl rfl ⟨by omega, by omega⟩ hf ⟨(show u1_ = ((zbq (gCw T_ (a1_).toNat (a0_).toNat) (gN T_) : Nat) : Int) by rw [show gN T_ = (u2_).toNat by omega]; exact hcw_), (show 0 ≤ u1_ by first | assumption | omega), (show u1_ < 16777216 by first | assumption | omega)⟩ d_Group_commutingWith_54
      · skip
        refine zw_iload_n (pc := 14) (n := 2) (x := Int32.ofInt a1_) rfl d_Group_commutingWith_14 ?_
        refine zw_iload (pc := 15) (i := 4) (x := Int32.ofInt u2_) rfl d_Group_commutingWith_15 ?_
        refine zr_callS hf.x (pc := 17) [.int (Int32.ofInt a1_), .int (Int32.ofInt u2_)] [] l_Group_73 (u_T_isIn l d_ Mz (hf.w hW) a1_ ha1_a ha1_b u2_ hu2_a hu2_b (show 0 ≤ a1_ by first | assumption | omega) (show a1_ < 2147483648 by first | assumption | omega) (show 0 ≤ u2_ by first | assumption | omega) (show u2_ < 31 by first | assumption | omega)) rfl rfl (by decide) (Nat.le_of_ble_eq_true rfl) d_Group_commutingWith_17 ?_
        rintro _ N6_ ⟨v7_, rfl, ⟨hv7_a, hv7_b⟩, hsN6_, hp0_N6_⟩
        obtain rfl := hsN6_.eq.symm
        replace hp0_N6_ : ((v7_ = 1 ∧ zbt a1_ u2_) ∨ (v7_ = 0 ∧ ¬ zbt a1_ u2_)) := hp0_N6_
        rcases hp0_N6_ with ⟨rfl, ha17_0_hp0_N6_⟩ | ⟨rfl, ha17_0_hp0_N6_⟩
        · skip
          have hin_ := ha17_0_hp0_N6_
          show zW l m_Group_commutingWith (zn Mz + 0, zw Mz + 0) Mz 20 [some (.ref (d_ + 1)), some (.int (Int32.ofInt a0_)), some (.int (Int32.ofInt a1_)), some (.int (Int32.ofInt u1_)), some (.int (Int32.ofInt u2_))] [.int (Int32.ofInt 1)] (zqcI d_ [] [] [] [] Mz (fun v N => v = ((zbq (gCw T_ (a1_).toNat (a0_).toNat) (gN T_) : Nat) : Int) ∧ 0 ≤ v ∧ v < 16777216))
          refine zr_if_eq (pc := 20) (tgt := 47) ⟨(by decide), (by decide)⟩ (by decide) d_Group_commutingWith_20 (fun hc_20 => ?_) (fun hc_20 => ?_)
          · skip
            exact absurd hc_20 (by decide)
          · skip
            refine zw_aload_n (pc := 23) (n := 0) (x := (d_ + 1)) rfl d_Group_commutingWith_23 ?_
            refine zw_iload_n (pc := 24) (n := 1) (x := Int32.ofInt a0_) rfl d_Group_commutingWith_24 ?_
            refine zw_iload (pc := 25) (i := 4) (x := Int32.ofInt u2_) rfl d_Group_commutingWith_25 ?_
            refine zk_callV hf.x (pc := 27) [.int (Int32.ofInt a0_), .int (Int32.ofInt u2_)] [] l_Group_67 (u_Group_both l d_ Mz (hf.w hW) a0_ ha0_a ha0_b u2_ hu2_a hu2_b T_ hT_ p0_ (show 0 ≤ a0_ by first | assumption | omega) (show a0_ < gN T_ by first | assumption | omega) (show 0 ≤ u2_ by first | assumption | omega) (show u2_ < gN T_ by first | assumption | omega)) rfl rfl ((hf.w hW).kr (o := 1) (by decide)) (by decide) (by decide) (Nat.le_of_ble_eq_true rfl) d_Group_commutingWith_27 ?_
            rintro _ N8_ ⟨v9_, rfl, ⟨hv9_a, hv9_b⟩, hsN8_, ⟨hp0_N8_, hp1_N8_, hp2_N8_⟩⟩
            obtain rfl := hsN8_.eq.symm
            show zW l m_Group_commutingWith (zn Mz + 0, zw Mz + 0) Mz 30 [some (.ref (d_ + 1)), some (.int (Int32.ofInt a0_)), some (.int (Int32.ofInt a1_)), some (.int (Int32.ofInt u1_)), some (.int (Int32.ofInt u2_))] [.int (Int32.ofInt v9_)] (zqcI d_ [] [] [] [] Mz (fun v N => v = ((zbq (gCw T_ (a1_).toNat (a0_).toNat) (gN T_) : Nat) : Int) ∧ 0 ≤ v ∧ v < 16777216))
            have hb1_ := hp0_N8_
            refine zw_aload_n (pc := 30) (n := 0) (x := (d_ + 1)) rfl d_Group_commutingWith_30 ?_
            refine zw_iload (pc := 31) (i := 4) (x := Int32.ofInt u2_) rfl d_Group_commutingWith_31 ?_
            refine zw_iload_n (pc := 33) (n := 1) (x := Int32.ofInt a0_) rfl d_Group_commutingWith_33 ?_
            refine zk_callV hf.x (pc := 34) [.int (Int32.ofInt u2_), .int (Int32.ofInt a0_)] [.int (Int32.ofInt v9_)] l_Group_67 (u_Group_both l d_ Mz (hf.w hW) u2_ hu2_a hu2_b a0_ ha0_a ha0_b T_ hT_ p0_ (show 0 ≤ u2_ by first | assumption | omega) (show u2_ < gN T_ by first | assumption | omega) (show 0 ≤ a0_ by first | assumption | omega) (show a0_ < gN T_ by first | assumption | omega)) rfl rfl ((hf.w hW).kr (o := 1) (by decide)) (by decide) (by decide) (Nat.le_of_ble_eq_true rfl) d_Group_commutingWith_34 ?_
            rintro _ N10_ ⟨v11_, rfl, ⟨hv11_a, hv11_b⟩, hsN10_, ⟨hp0_N10_, hp1_N10_, hp2_N10_⟩⟩
            obtain rfl := hsN10_.eq.symm
            show zW l m_Group_commutingWith (zn Mz + 0, zw Mz + 0) Mz 37 [some (.ref (d_ + 1)), some (.int (Int32.ofInt a0_)), some (.int (Int32.ofInt a1_)), some (.int (Int32.ofInt u1_)), some (.int (Int32.ofInt u2_))] [.int (Int32.ofInt v11_), .int (Int32.ofInt v9_)] (zqcI d_ [] [] [] [] Mz (fun v N => v = ((zbq (gCw T_ (a1_).toNat (a0_).toNat) (gN T_) : Nat) : Int) ∧ 0 ≤ v ∧ v < 16777216))
            have hb2_ := hp0_N10_
            refine zr_icmp_ne (pc := 37) (tgt := 47) ⟨hv9_a, hv9_b⟩ ⟨hv11_a, hv11_b⟩ (by decide) d_Group_commutingWith_37 (fun hc_37 => ?_) (fun hc_37 => ?_)
            · skip
              refine zr_iinc (pc := 47) (i := 4) (a := u2_) (n := 1) (L2 := [some (.ref (d_ + 1)), some (.int (Int32.ofInt a0_)), some (.int (Int32.ofInt a1_)), some (.int (Int32.ofInt u1_)), some (.int (Int32.ofInt (u2_ + 1)))]) rfl (by decide) rfl d_Group_commutingWith_47 ?_
              refine zw_goto (pc := 50) (tgt := 5) (by decide) d_Group_commutingWith_50 ?_
              have hcx_ : u1_ = ((zbq (gCw T_ (a1_).toNat (a0_).toNat) ((u2_ + 1)).toNat : Nat) : Int) := by first | exact hcn_ | exact zbq_0 (p := gCw T_ (a1_).toNat (a0_).toNat) (by omega) hcw_ (fun q_ => by have q2_ := q_.2; omega)
              exact ih_5 u1_ hu1_a hu1_b (u2_ + 1) (by omega) (by omega) (show 0 ≤ (u2_ + 1) by first | assumption | omega) (show (u2_ + 1) ≤ gN T_ by first | assumption | omega) (show u1_ = ((zbq (gCw T_ (a1_).toNat (a0_).toNat) ((u2_ + 1)).toNat : Nat) : Int) by exact hcx_) (by omega)
            · skip
              refine zw_iload_n (pc := 40) (n := 3) (x := Int32.ofInt u1_) rfl d_Group_commutingWith_40 ?_
              refine zw_iconst (pc := 41) (v := Int32.ofInt 1) (by decide) d_Group_commutingWith_41 ?_
              refine zw_iload (pc := 42) (i := 4) (x := Int32.ofInt u2_) rfl d_Group_commutingWith_42 ?_
              refine zr_ishl (pc := 44) d_Group_commutingWith_44 ?_
              have hr12_ := zshl_r 1 u2_
              refine zr_ior (pc := 45) d_Group_commutingWith_45 ?_
              have hr13_ := zor_r u1_ (zshl 1 u2_)
              have hcn_ := zbq_1 (p := gCw T_ (a1_).toNat (a0_).toNat) (by omega) (by omega) hcw_ ⟨hin_, by omega⟩
              refine zw_istore_n (pc := 46) (i := 3) (L2 := [some (.ref (d_ + 1)), some (.int (Int32.ofInt a0_)), some (.int (Int32.ofInt a1_)), some (.int (Int32.ofInt (zor u1_ (zshl 1 u2_)))), some (.int (Int32.ofInt u2_))]) rfl (by decide) rfl d_Group_commutingWith_46 ?_
              refine zr_iinc (pc := 47) (i := 4) (a := u2_) (n := 1) (L2 := [some (.ref (d_ + 1)), some (.int (Int32.ofInt a0_)), some (.int (Int32.ofInt a1_)), some (.int (Int32.ofInt (zor u1_ (zshl 1 u2_)))), some (.int (Int32.ofInt (u2_ + 1)))]) rfl (by decide) rfl d_Group_commutingWith_47 ?_
              refine zw_goto (pc := 50) (tgt := 5) (by decide) d_Group_commutingWith_50 ?_
              have hcx_ : (zor u1_ (zshl 1 u2_)) = ((zbq (gCw T_ (a1_).toNat (a0_).toNat) ((u2_ + 1)).toNat : Nat) : Int) := by first | exact hcn_ | exact zbq_0 (p := gCw T_ (a1_).toNat (a0_).toNat) (by omega) hcw_ (fun q_ => by have q2_ := q_.2; omega)
              exact ih_5 (zor u1_ (zshl 1 u2_)) (by omega) (by omega) (u2_ + 1) (by omega) (by omega) (show 0 ≤ (u2_ + 1) by first | assumption | omega) (show (u2_ + 1) ≤ gN T_ by first | assumption | omega) (show (zor u1_ (zshl 1 u2_)) = ((zbq (gCw T_ (a1_).toNat (a0_).toNat) ((u2_ + 1)).toNat : Nat) : Int) by exact hcx_) (by omega)
        · skip
          have hcn_ := zbq_0 (p := gCw T_ (a1_).toNat (a0_).toNat) (by omega) hcw_ (fun q_ => ha17_0_hp0_N6_ q_.1)
          show zW l m_Group_commutingWith (zn Mz + 0, zw Mz + 0) Mz 20 [some (.ref (d_ + 1)), some (.int (Int32.ofInt a0_)), some (.int (Int32.ofInt a1_)), some (.int (Int32.ofInt u1_)), some (.int (Int32.ofInt u2_))] [.int (Int32.ofInt 0)] (zqcI d_ [] [] [] [] Mz (fun v N => v = ((zbq (gCw T_ (a1_).toNat (a0_).toNat) (gN T_) : Nat) : Int) ∧ 0 ≤ v ∧ v < 16777216))
          refine zr_if_eq (pc := 20) (tgt := 47) ⟨(by decide), (by decide)⟩ (by decide) d_Group_commutingWith_20 (fun hc_20 => ?_) (fun hc_20 => ?_)
          · skip
            refine zr_iinc (pc := 47) (i := 4) (a := u2_) (n := 1) (L2 := [some (.ref (d_ + 1)), some (.int (Int32.ofInt a0_)), some (.int (Int32.ofInt a1_)), some (.int (Int32.ofInt u1_)), some (.int (Int32.ofInt (u2_ + 1)))]) rfl (by decide) rfl d_Group_commutingWith_47 ?_
            refine zw_goto (pc := 50) (tgt := 5) (by decide) d_Group_commutingWith_50 ?_
            have hcx_ : u1_ = ((zbq (gCw T_ (a1_).toNat (a0_).toNat) ((u2_ + 1)).toNat : Nat) : Int) := by first | exact hcn_ | exact zbq_0 (p := gCw T_ (a1_).toNat (a0_).toNat) (by omega) hcw_ (fun q_ => by have q2_ := q_.2; omega)
            exact ih_5 u1_ hu1_a hu1_b (u2_ + 1) (by omega) (by omega) (show 0 ≤ (u2_ + 1) by first | assumption | omega) (show (u2_ + 1) ≤ gN T_ by first | assumption | omega) (show u1_ = ((zbq (gCw T_ (a1_).toNat (a0_).toNat) ((u2_ + 1)).toNat : Nat) : Int) by exact hcx_) (by omega)
          · skip
            exact absurd hc_20 (by decide)
  exact lp_5 _ 0 (by decide) (by decide) 0 (by decide) (by decide) (show 0 ≤ (0 : Int) by first | assumption | omega) (show (0 : Int) ≤ gN T_ by first | assumption | omega) (show (0 : Int) = ((zbq (gCw T_ (a1_).toNat (a0_).toNat) ((0 : Int)).toNat : Nat) : Int) by rfl) (Nat.lt_succ_self _)
set_option maxHeartbeats 4000000 in
theorem u_Group_everyoneG (l : Launch) (d_ : Nat) (Mz : zMem) (hW : zKW d_ Mz) (T_ : zGT) (hT_ : T_ ∈ gTabs) (p0_ : zTt T_ d_ Mz) : zC l m_Group_everyone 0 0 [.ref (d_ + 1)] Mz (zqcI d_ [] [] [] [] Mz (fun v N => v = ((2 ^ gN T_ - 1 : Nat) : Int) ∧ 0 ≤ v ∧ v < 16777216)) := by
  refine zC_of (L0 := [some (.ref (d_ + 1))]) md_Group_everyone (Nat.le_of_ble_eq_true rfl) rfl ?_ zQ0
  have hf : zFc d_ [] [] [] [] Mz Mz := zFc.rf
  have r_D1_7 := ze_r Mz (d_ + 1) 7
  have hO_ := gTabs_ok T_ hT_
  have hG_ := hO_.1
  have hn24_ := hG_.2.1
  have hn1_ := hG_.1
  have hsz_ := p0_.1
  have hsh_ := zshl_b hG_ hsz_
  refine zw_iconst (pc := 0) (v := Int32.ofInt 1) (by decide) d_Group_everyone_0 ?_
  refine zw_aload_n (pc := 1) (n := 0) (x := (d_ + 1)) rfl d_Group_everyone_1 ?_
  refine zk_getI (pc := 2) f_Group_39 rfl ((hf.w hW).kr (o := 1) (by decide)) d_Group_everyone_2 ?_
  refine zr_ishl (pc := 5) d_Group_everyone_5 ?_
  have hr1_ := zshl_r 1 (ze Mz (d_ + 1) 7)
  refine zw_iconst (pc := 6) (v := Int32.ofInt 1) (by decide) d_Group_everyone_6 ?_
  refine zr_isub (pc := 7) d_Group_everyone_7 ?_
  exact zk_iret (pc := 8) (ty := .int) rfl rfl ⟨by omega, by omega⟩ hf ⟨(show ((zshl 1 (ze Mz (d_ + 1) 7)) - 1) = ((2 ^ gN T_ - 1 : Nat) : Int) by omega), (show 0 ≤ ((zshl 1 (ze Mz (d_ + 1) 7)) - 1) by first | assumption | omega), (show ((zshl 1 (ze Mz (d_ + 1) 7)) - 1) < 16777216 by first | assumption | omega)⟩ d_Group_everyone_8
set_option maxHeartbeats 4000000 in
theorem u_Group_commutingPairsG (l : Launch) (d_ : Nat) (Mz : zMem) (hW : zKW d_ Mz) (T_ : zGT) (hT_ : T_ ∈ gTabs) (p0_ : zTt T_ d_ Mz) : zC l m_Group_commutingPairs 0 0 [.ref (d_ + 1)] Mz (zqcI d_ [] [] [] [] Mz (fun v N => v = ((gAlk T_ (gN T_) : Nat) : Int))) := by
  refine zC_of (L0 := [some (.ref (d_ + 1)), none, none]) md_Group_commutingPairs (Nat.le_of_ble_eq_true rfl) rfl ?_ zQ0
  have hf : zFc d_ [] [] [] [] Mz Mz := zFc.rf
  have r_D1_7 := ze_r Mz (d_ + 1) 7
  have hO_ := gTabs_ok T_ hT_
  have hG_ := hO_.1
  have hn24_ := hG_.2.1
  have hn1_ := hG_.1
  have hsz_ := p0_.1
  refine zw_iconst (pc := 0) (v := Int32.ofInt 0) (by decide) d_Group_commutingPairs_0 ?_
  refine zw_istore_n (pc := 1) (i := 1) (L2 := [some (.ref (d_ + 1)), some (.int (Int32.ofInt 0)), none]) rfl (by decide) rfl d_Group_commutingPairs_1 ?_
  refine zw_iconst (pc := 2) (v := Int32.ofInt 0) (by decide) d_Group_commutingPairs_2 ?_
  refine zw_istore_n (pc := 3) (i := 2) (L2 := [some (.ref (d_ + 1)), some (.int (Int32.ofInt 0)), some (.int (Int32.ofInt 0))]) rfl (by decide) rfl d_Group_commutingPairs_3 ?_
  have lp_4 : ∀ (n : Nat) (u1_ : Int) (hu1_a : -2147483648 ≤ u1_) (hu1_b : u1_ < 2147483648) (u2_ : Int) (hu2_a : -2147483648 ≤ u2_) (hu2_b : u2_ < 2147483648) (i3_ : 0 ≤ u2_) (i4_ : u2_ ≤ gN T_) (i5_ : u1_ = ((gAlk T_ (u2_).toNat : Nat) : Int)), (gN T_ - u2_).toNat < n → zW l m_Group_commutingPairs (zn Mz + 0, zw Mz + 0) Mz 4 [some (.ref (d_ + 1)), some (.int (Int32.ofInt u1_)), some (.int (Int32.ofInt u2_))] [] (zqcI d_ [] [] [] [] Mz (fun v N => v = ((gAlk T_ (gN T_) : Nat) : Int))) := by
    intro n
    induction n with
    | zero =>
      intro u1_ hu1_a hu1_b u2_ hu2_a hu2_b i3_ i4_ i5_ h0
      exact absurd h0 (Nat.not_lt_zero _)
    | succ n ih_4 =>
      intro u1_ hu1_a hu1_b u2_ hu2_a hu2_b i3_ i4_ i5_ hlt_4
      have hak_ := (show u1_ = ((gAlk T_ (u2_).toNat : Nat) : Int) by assumption)
      have hal_ := gAlk_l hG_ (by omega) hak_
      refine zw_iload_n (pc := 4) (n := 2) (x := Int32.ofInt u2_) rfl d_Group_commutingPairs_4 ?_
      refine zw_aload_n (pc := 5) (n := 0) (x := (d_ + 1)) rfl d_Group_commutingPairs_5 ?_
      refine zk_getI (pc := 6) f_Group_39 rfl ((hf.w hW).kr (o := 1) (by decide)) d_Group_commutingPairs_6 ?_
      refine zr_icmp_ge (pc := 9) (tgt := 33) ⟨hu2_a, hu2_b⟩ ⟨(ze_r Mz (d_ + 1) 7).1, (ze_r Mz (d_ + 1) 7).2⟩ (by decide) d_Group_commutingPairs_9 (fun hc_9 => ?_) (fun hc_9 => ?_)
      · skip
        refine zw_iload_n (pc := 33) (n := 1) (x := Int32.ofInt u1_) rfl d_Group_commutingPairs_33 ?_
        exact zk_iret (pc := 34) (ty := .int) rfl rfl ⟨by omega, by omega⟩ hf (show u1_ = ((gAlk T_ (gN T_) : Nat) : Int) by rw [show gN T_ = (u2_).toNat by omega]; exact hak_) d_Group_commutingPairs_34
      · skip
        refine zw_iload_n (pc := 12) (n := 1) (x := Int32.ofInt u1_) rfl d_Group_commutingPairs_12 ?_
        refine zw_aload_n (pc := 13) (n := 0) (x := (d_ + 1)) rfl d_Group_commutingPairs_13 ?_
        refine zw_iload_n (pc := 14) (n := 2) (x := Int32.ofInt u2_) rfl d_Group_commutingPairs_14 ?_
        refine zw_aload_n (pc := 15) (n := 0) (x := (d_ + 1)) rfl d_Group_commutingPairs_15 ?_
        refine zk_callV hf.x (pc := 16) [] [.int (Int32.ofInt u2_), .ref (d_ + 1), .int (Int32.ofInt u1_)] l_Group_93 (u_Group_everyoneG l d_ Mz (hf.w hW) T_ hT_ p0_) rfl rfl ((hf.w hW).kr (o := 1) (by decide)) (by decide) (by decide) (Nat.le_of_ble_eq_true rfl) d_Group_commutingPairs_16 ?_
        rintro _ N6_ ⟨v7_, rfl, ⟨hv7_a, hv7_b⟩, hsN6_, ⟨hp0_N6_, hp1_N6_, hp2_N6_⟩⟩
        obtain rfl := hsN6_.eq.symm
        show zW l m_Group_commutingPairs (zn Mz + 0, zw Mz + 0) Mz 19 [some (.ref (d_ + 1)), some (.int (Int32.ofInt u1_)), some (.int (Int32.ofInt u2_))] [.int (Int32.ofInt v7_), .int (Int32.ofInt u2_), .ref (d_ + 1), .int (Int32.ofInt u1_)] (zqcI d_ [] [] [] [] Mz (fun v N => v = ((gAlk T_ (gN T_) : Nat) : Int)))
        have hev_ := hp0_N6_
        refine zk_callV hf.x (pc := 19) [.int (Int32.ofInt u2_), .int (Int32.ofInt v7_)] [.int (Int32.ofInt u1_)] l_Group_97 (u_Group_commutingWithG l d_ Mz (hf.w hW) u2_ hu2_a hu2_b v7_ hv7_a hv7_b T_ hT_ p0_ (show 0 ≤ u2_ by first | assumption | omega) (show u2_ < gN T_ by first | assumption | omega) (show 0 ≤ v7_ by first | assumption | omega) (show v7_ < 16777216 by first | assumption | omega)) rfl rfl ((hf.w hW).kr (o := 1) (by decide)) (by decide) (by decide) (Nat.le_of_ble_eq_true rfl) d_Group_commutingPairs_19 ?_
        rintro _ N8_ ⟨v9_, rfl, ⟨hv9_a, hv9_b⟩, hsN8_, ⟨hp0_N8_, hp1_N8_, hp2_N8_⟩⟩
        obtain rfl := hsN8_.eq.symm
        show zW l m_Group_commutingPairs (zn Mz + 0, zw Mz + 0) Mz 22 [some (.ref (d_ + 1)), some (.int (Int32.ofInt u1_)), some (.int (Int32.ofInt u2_))] [.int (Int32.ofInt v9_), .int (Int32.ofInt u1_)] (zqcI d_ [] [] [] [] Mz (fun v N => v = ((gAlk T_ (gN T_) : Nat) : Int)))
        have hcw_ := hp0_N8_
        rw [hev_, Int.toNat_natCast] at hcw_
        refine zr_callS hf.x (pc := 22) [.int (Int32.ofInt v9_)] [.int (Int32.ofInt u1_)] l_Group_83 (u_Integer_bitCount l d_ Mz (hf.w hW) v9_ hv9_a hv9_b (show 0 ≤ v9_ by first | assumption | omega)) rfl rfl (by decide) (Nat.le_of_ble_eq_true rfl) d_Group_commutingPairs_22 ?_
        rintro _ N10_ ⟨v11_, rfl, ⟨hv11_a, hv11_b⟩, hsN10_, ⟨hp0_N10_, hp1_N10_, hp2_N10_⟩⟩
        obtain rfl := hsN10_.eq.symm
        show zW l m_Group_commutingPairs (zn Mz + 0, zw Mz + 0) Mz 25 [some (.ref (d_ + 1)), some (.int (Int32.ofInt u1_)), some (.int (Int32.ofInt u2_))] [.int (Int32.ofInt v11_), .int (Int32.ofInt u1_)] (zqcI d_ [] [] [] [] Mz (fun v N => v = ((gAlk T_ (gN T_) : Nat) : Int)))
        have hbc_ := hp0_N10_
        rw [kbc_g (by omega), hcw_, Int.toNat_natCast, gcb_z _ (by omega), zct_c (q := gcmm T_ (u2_).toNat) (fun i hi => by unfold gCw gcmm; rw [Nat.testBit_two_pow_sub_one, decide_eq_true_iff]; exact ⟨fun q_ => q_.2, fun q_ => ⟨hi, q_⟩⟩)] at hbc_
        have han_ := gAlk_s (by omega) hak_ hbc_
        refine zr_iadd (pc := 25) d_Group_commutingPairs_25 ?_
        refine zw_istore_n (pc := 26) (i := 1) (L2 := [some (.ref (d_ + 1)), some (.int (Int32.ofInt (u1_ + v11_))), some (.int (Int32.ofInt u2_))]) rfl (by decide) rfl d_Group_commutingPairs_26 ?_
        refine zr_iinc (pc := 27) (i := 2) (a := u2_) (n := 1) (L2 := [some (.ref (d_ + 1)), some (.int (Int32.ofInt (u1_ + v11_))), some (.int (Int32.ofInt (u2_ + 1)))]) rfl (by decide) rfl d_Group_commutingPairs_27 ?_
        refine zw_goto (pc := 30) (tgt := 4) (by decide) d_Group_commutingPairs_30 ?_
        exact ih_4 (u1_ + v11_) (by omega) (by omega) (u2_ + 1) (by omega) (by omega) (show 0 ≤ (u2_ + 1) by first | assumption | omega) (show (u2_ + 1) ≤ gN T_ by first | assumption | omega) (show (u1_ + v11_) = ((gAlk T_ ((u2_ + 1)).toNat : Nat) : Int) by exact han_) (by omega)
  exact lp_4 _ 0 (by decide) (by decide) 0 (by decide) (by decide) (show 0 ≤ (0 : Int) by first | assumption | omega) (show (0 : Int) ≤ gN T_ by first | assumption | omega) (show (0 : Int) = ((gAlk T_ ((0 : Int)).toNat : Nat) : Int) by rfl) (Nat.lt_succ_self _)
set_option maxHeartbeats 4000000 in
theorem u_T_alikeG (l : Launch) (d_ : Nat) (Mz : zMem) (hW : zKW d_ Mz) (hnow : zf Mz 0 2 = some (d_ + 0)) (T_ : zGT) (hT_ : T_ ∈ gTabs) (p0_ : zTt T_ d_ Mz) : zC l m_T_alike 0 0 [.ref 0] Mz (zqcI d_ [] [] [] [] Mz (fun v N => v = ((gAlk T_ (gN T_) : Nat) : Int))) := by
  refine zC_of (L0 := [some (.ref 0)]) md_T_alike (Nat.le_of_ble_eq_true rfl) rfl ?_ zQ0
  have hf : zFc d_ [] [] [] [] Mz Mz := zFc.rf
  refine zw_aload_n (pc := 0) (n := 0) (x := 0) rfl d_T_alike_0 ?_
  refine zw_getF (pc := 1) f_T_28 rfl ((hf.w hW).ka (o := 0) (by decide)) (hf.now hnow) d_T_alike_1 ?_
  refine zw_getF (pc := 4) f_T_61 rfl ((hf.w hW).kr (o := 0) (by decide)) ((hf.w hW).lr (o := 0) (s := 0) (r := 1) (by decide)) d_T_alike_4 ?_
  refine zk_callV hf.x (pc := 7) [] [] l_T_214 (u_Group_commutingPairsG l d_ Mz (hf.w hW) T_ hT_ p0_) rfl rfl ((hf.w hW).kr (o := 1) (by decide)) (by decide) (by decide) (Nat.le_of_ble_eq_true rfl) d_T_alike_7 ?_
  rintro _ N1_ ⟨v2_, rfl, ⟨hv2_a, hv2_b⟩, hsN1_, hp0_N1_⟩
  obtain rfl := hsN1_.eq.symm
  replace hp0_N1_ : v2_ = ((gAlk T_ (gN T_) : Nat) : Int) := hp0_N1_
  show zW l m_T_alike (zn Mz + 0, zw Mz + 0) Mz 10 [some (.ref 0)] [.int (Int32.ofInt v2_)] (zqcI d_ [] [] [] [] Mz (fun v N => v = ((gAlk T_ (gN T_) : Nat) : Int)))
  exact zk_iret (pc := 10) (ty := .int) rfl rfl ⟨by omega, by omega⟩ hf (show v2_ = ((gAlk T_ (gN T_) : Nat) : Int) by first | assumption | omega) d_T_alike_10
