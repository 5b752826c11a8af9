set_option maxHeartbeats 4000000 in
theorem u_Reader_readRowS (l : Launch) (d_ : Nat) (Mz : zMem) (hW : zKW d_ Mz) (a1_ : Int) (ha1_a : -2147483648 ≤ a1_) (ha1_b : a1_ < 2147483648) (b_ : Nat → Int) (n_ : Nat) (p0_ : zYb b_ n_ Mz) (p1_ : 0 ≤ a1_) (p2_ : a1_ ≤ 27) : zC l m_Reader_readRow 0 0 [.ref 4, .ref (d_ + 26), .int (Int32.ofInt a1_)] Mz (zqcI d_ [] [] [] [27] Mz (fun v N => (((v = 1 ∧ zRown b_ n_ (a1_).toNat (fun j_ => zg N (d_ + 27) j_) ∧ (∀ j : Nat, (j : Int) < a1_ → -999999 ≤ zg N (d_ + 27) j ∧ zg N (d_ + 27) j ≤ 999999)) ∨ (v = 0 ∧ ¬ ∃ f_ : Nat → Int, zRown b_ n_ (a1_).toNat f_))))) := by
  refine zC_of (L0 := [some (.ref 4), some (.ref (d_ + 26)), some (.int (Int32.ofInt a1_)), none, none, none, none, none, none, none]) md_Reader_readRow (Nat.le_of_ble_eq_true rfl) rfl ?_ zQ0
  have hf : zFc d_ [] [] [] [27] Mz Mz := zFc.rf
  have r_A1_1 := ze_r Mz 1 1
  obtain ⟨hn_, hn7_, hB_, hb_⟩ := id p0_
  have hz0_ := zru_le (P := zpB) (b := b_) (n := n_) (p := 0) (by omega)
  have hz0b_ : zru zpB b_ n_ (0 : Int).toNat = zru zpB b_ n_ 0 := rfl
  refine zw_aload_n (pc := 0) (n := 0) (x := 4) rfl (zdal_p dlB_Reader_readRow_137 (i := 0) rfl) ?_
  refine zw_getF (pc := 1) f_Reader_15 rfl ((hf.w hW).ka (o := 4) (by decide)) ((hf.w hW).la (o := 4) (s := 0) (r := 1) (by decide)) (zdal_p dlB_Reader_readRow_137 (i := 1) rfl) ?_
  refine zw_iconst (pc := 4) (v := Int32.ofInt 0) (by decide) (zdal_p dlB_Reader_readRow_137 (i := 2) rfl) ?_
  refine zk_callV hf.x (pc := 5) [.int (Int32.ofInt 0)] [] l_Reader_188 (u_Tokens_pastBlanks l d_ Mz (hf.w hW) 0 (by decide) (by decide) b_ n_ p0_ (show 0 ≤ (0 : Int) by first | with_reducible assumption | assumption | omega) (show (0 : Int) ≤ n_ by first | with_reducible assumption | assumption | omega)) rfl rfl ((hf.w hW).ka (o := 1) (by decide)) (by decide) (by decide) (Nat.le_of_ble_eq_true rfl) (zdal_p dlB_Reader_readRow_137 (i := 3) rfl) ?_
  rintro _ N1_ ⟨v2_, rfl, ⟨hv2_a, hv2_b⟩, hsN1_, hp0_N1_⟩
  obtain rfl := hsN1_.eq.symm
  replace hp0_N1_ : v2_ = (zru zpB b_ n_ ((0 : Int)).toNat : Nat) := hp0_N1_
  show zW l m_Reader_readRow (zn Mz + 0, zw Mz + 0) Mz 8 [some (.ref 4), some (.ref (d_ + 26)), some (.int (Int32.ofInt a1_)), none, none, none, none, none, none, none] [.int (Int32.ofInt v2_)] _
  refine zw_istore_n (pc := 8) (i := 3) (L2 := [some (.ref 4), some (.ref (d_ + 26)), some (.int (Int32.ofInt a1_)), some (.int (Int32.ofInt v2_)), none, none, none, none, none, none]) rfl (by decide) rfl (zdal_p dlB_Reader_readRow_137 (i := 4) rfl) ?_
  refine zw_iconst (pc := 9) (v := Int32.ofInt 0) (by decide) (zdal_p dlB_Reader_readRow_137 (i := 5) rfl) ?_
  refine zw_istore (pc := 10) (i := 4) (L2 := [some (.ref 4), some (.ref (d_ + 26)), some (.int (Int32.ofInt a1_)), some (.int (Int32.ofInt v2_)), some (.int (Int32.ofInt 0)), none, none, none, none, none]) (by decide) rfl (zdal_p dlB_Reader_readRow_137 (i := 6) rfl) ?_
  have lp_12 : ∀ (n : Nat) (u3_ : Int) (hu3_a : -2147483648 ≤ u3_) (hu3_b : u3_ < 2147483648) (u4_ : Int) (hu4_a : -2147483648 ≤ u4_) (hu4_b : u4_ < 2147483648) (N5_ : zMem) (hs6_ : zFc d_ [] [] [] [27] Mz N5_) (i7_ : 0 ≤ u4_) (i8_ : u4_ ≤ a1_) (i9_ : 0 ≤ u3_) (i10_ : u3_ ≤ n_) (i11_ : zRwn b_ n_ (zru zpB b_ n_ 0) (fun j_ => zg N5_ (d_ + 27) j_) (u4_).toNat (u3_).toNat) (i12_ : (∀ j : Nat, (j : Int) < u4_ → -999999 ≤ zg N5_ (d_ + 27) j ∧ zg N5_ (d_ + 27) j ≤ 999999)), (a1_ - u4_).toNat < n → zW l m_Reader_readRow (zn Mz + 0, zw Mz + 0) N5_ 12 [some (.ref 4), some (.ref (d_ + 26)), some (.int (Int32.ofInt a1_)), some (.int (Int32.ofInt u3_)), some (.int (Int32.ofInt u4_)), none, none, none, none, none] [] (zqcI d_ [] [] [] [27] Mz (fun v N => (((v = 1 ∧ zRown b_ n_ (a1_).toNat (fun j_ => zg N (d_ + 27) j_) ∧ (∀ j : Nat, (j : Int) < a1_ → -999999 ≤ zg N (d_ + 27) j ∧ zg N (d_ + 27) j ≤ 999999)) ∨ (v = 0 ∧ ¬ ∃ f_ : Nat → Int, zRown b_ n_ (a1_).toNat f_))))) := by
    intro n
    induction n with
    | zero =>
      intro u3_ hu3_a hu3_b u4_ hu4_a hu4_b N5_ hs6_ i7_ i8_ i9_ i10_ i11_ i12_ h0
      exact absurd h0 (Nat.not_lt_zero _)
    | succ n ih_12 =>
      intro u3_ hu3_a hu3_b u4_ hu4_a hu4_b N5_ hs6_ i7_ i8_ i9_ i10_ i11_ i12_ hlt_12
      have hf_N5_ : zFc d_ [] [] [] [27] Mz N5_ := hf.tr hs6_ (by decide) (by decide) (by decide) (by decide)
      have eA1_1_N5_ : ze N5_ 1 1 = ze Mz 1 1 := hs6_.ea (hf.w hW) (by decide)
      have c13_ : zYb b_ n_ N5_ := zYb.fr (hf.w hW) hs6_ p0_ (by decide)
      have hrw_ := (show zRwn b_ n_ (zru zpB b_ n_ 0) (fun j_ => zg N5_ (d_ + 27) j_) (u4_).toNat (u3_).toNat by first | with_reducible assumption | assumption)
      have hbi_ := (show (∀ j : Nat, (j : Int) < u4_ → -999999 ≤ zg N5_ (d_ + 27) j ∧ zg N5_ (d_ + 27) j ≤ 999999) by first | with_reducible assumption | assumption)
      refine zw_iload (pc := 12) (i := 4) (x := Int32.ofInt u4_) rfl (zdal_p dlB_Reader_readRow_137 (i := 7) rfl) ?_
      refine zw_iload_n (pc := 14) (n := 2) (x := Int32.ofInt a1_) rfl (zdal_p dlB_Reader_readRow_137 (i := 8) rfl) ?_
      refine zr_icmp_ge (pc := 15) (tgt := 179) ⟨hu4_a, hu4_b⟩ ⟨ha1_a, ha1_b⟩ (by decide) (zdal_p dlB_Reader_readRow_137 (i := 9) rfl) (fun hc_15 => ?_) (fun hc_15 => ?_)
      · skip
        refine zw_iload_n (pc := 179) (n := 3) (x := Int32.ofInt u3_) rfl (zdal_p dlB_Reader_readRow_140 (i := 15) rfl) ?_
        refine zw_aload_n (pc := 180) (n := 0) (x := 4) rfl (zdal_p dlB_Reader_readRow_140 (i := 16) rfl) ?_
        refine zw_getF (pc := 181) f_Reader_15 rfl ((hf_N5_.w hW).ka (o := 4) (by decide)) ((hf_N5_.w hW).la (o := 4) (s := 0) (r := 1) (by decide)) (zdal_p dlB_Reader_readRow_140 (i := 17) rfl) ?_
        refine zk_getI (pc := 184) f_Reader_191 rfl ((hf_N5_.w hW).ka (o := 1) (by decide)) (zdal_p dlB_Reader_readRow_140 (i := 18) rfl) ?_
        rw [hf_N5_.ea hW (by decide)]
        refine zr_icmp_lt (pc := 187) (tgt := 194) ⟨hu3_a, hu3_b⟩ ⟨(ze_r Mz 1 1).1, (ze_r Mz 1 1).2⟩ (by decide) (zdal_p dlB_Reader_readRow_140 (i := 19) rfl) (fun hc_187 => ?_) (fun hc_187 => ?_)
        · skip
          refine zw_iconst (pc := 194) (v := Int32.ofInt 0) (by decide) (zdal_p dlB_Reader_readRow_140 (i := 22) rfl) ?_
          exact zk_iret (pc := 195) (ty := .boolean) rfl (z_narB (by omega)) ⟨by omega, by omega⟩ hf_N5_ (show ((0 = 1 ∧ zRown b_ n_ (a1_).toNat (fun j_ => zg N5_ (d_ + 27) j_) ∧ (∀ j : Nat, (j : Int) < a1_ → -999999 ≤ zg N5_ (d_ + 27) j ∧ zg N5_ (d_ + 27) j ≤ 999999)) ∨ (0 = 0 ∧ ¬ ∃ f_ : Nat → Int, zRown b_ n_ (a1_).toNat f_)) from Or.inr (⟨(show 0 = 0 by first | rfl | exact hno_ | exact zRown_e (by have h_ := hrw_; rw [show (u4_).toNat = (a1_).toNat by omega] at h_; exact h_) (by omega)), (show ¬ ∃ f_ : Nat → Int, zRown b_ n_ (a1_).toNat f_ by first | rfl | exact hno_ | exact zRown_e (by have h_ := hrw_; rw [show (u4_).toNat = (a1_).toNat by omega] at h_; exact h_) (by omega))⟩)) (zdal_p dlB_Reader_readRow_140 (i := 23) rfl)
        · skip
          refine zw_iconst (pc := 190) (v := Int32.ofInt 1) (by decide) (zdal_p dlB_Reader_readRow_140 (i := 20) rfl) ?_
          refine zw_goto (pc := 191) (tgt := 195) (by decide) (zdal_p dlB_Reader_readRow_140 (i := 21) rfl) ?_
          exact zk_iret (pc := 195) (ty := .boolean) rfl (z_narB (by omega)) ⟨by omega, by omega⟩ hf_N5_ (show ((1 = 1 ∧ zRown b_ n_ (a1_).toNat (fun j_ => zg N5_ (d_ + 27) j_) ∧ (∀ j : Nat, (j : Int) < a1_ → -999999 ≤ zg N5_ (d_ + 27) j ∧ zg N5_ (d_ + 27) j ≤ 999999)) ∨ (1 = 0 ∧ ¬ ∃ f_ : Nat → Int, zRown b_ n_ (a1_).toNat f_)) from Or.inl (⟨(show 1 = 1 by first | rfl | exact ⟨_, by have h_ := hrw_; rw [show (u4_).toNat = (a1_).toNat by omega] at h_; exact h_, by omega⟩ | exact fun j_ hj_ => hbi_ j_ (by omega)), (show zRown b_ n_ (a1_).toNat (fun j_ => zg N5_ (d_ + 27) j_) by first | rfl | exact ⟨_, by have h_ := hrw_; rw [show (u4_).toNat = (a1_).toNat by omega] at h_; exact h_, by omega⟩ | exact fun j_ hj_ => hbi_ j_ (by omega)), (show (∀ j : Nat, (j : Int) < a1_ → -999999 ≤ zg N5_ (d_ + 27) j ∧ zg N5_ (d_ + 27) j ≤ 999999) by first | rfl | exact ⟨_, by have h_ := hrw_; rw [show (u4_).toNat = (a1_).toNat by omega] at h_; exact h_, by omega⟩ | exact fun j_ hj_ => hbi_ j_ (by omega))⟩)) (zdal_p dlB_Reader_readRow_140 (i := 23) rfl)
      · skip
        refine zw_iload_n (pc := 18) (n := 3) (x := Int32.ofInt u3_) rfl (zdal_p dlB_Reader_readRow_137 (i := 10) rfl) ?_
        refine zw_aload_n (pc := 19) (n := 0) (x := 4) rfl (zdal_p dlB_Reader_readRow_137 (i := 11) rfl) ?_
        refine zw_getF (pc := 20) f_Reader_15 rfl ((hf_N5_.w hW).ka (o := 4) (by decide)) ((hf_N5_.w hW).la (o := 4) (s := 0) (r := 1) (by decide)) (zdal_p dlB_Reader_readRow_137 (i := 12) rfl) ?_
        refine zk_getI (pc := 23) f_Reader_191 rfl ((hf_N5_.w hW).ka (o := 1) (by decide)) (zdal_p dlB_Reader_readRow_137 (i := 13) rfl) ?_
        rw [hf_N5_.ea hW (by decide)]
        have j_50 : ∀ (u14_ : Int) (hu14_a : -2147483648 ≤ u14_) (hu14_b : u14_ < 2147483648) (hu14_z : u14_ = 0 ∨ u14_ = 1) (i15_ : (((u14_ : Int) = 1 ∧ u3_ < n_ ∧ b_ (u3_).toNat = 45) ∨ ((u14_ : Int) = 0 ∧ ¬ (u3_ < n_ ∧ b_ (u3_).toNat = 45)))), zW l m_Reader_readRow (zn Mz + 0, zw Mz + 0) N5_ 50 [some (.ref 4), some (.ref (d_ + 26)), some (.int (Int32.ofInt a1_)), some (.int (Int32.ofInt u3_)), some (.int (Int32.ofInt u4_)), none, none, none, none, none] [.int (Int32.ofInt u14_)] (zqcI d_ [] [] [] [27] Mz (fun v N => (((v = 1 ∧ zRown b_ n_ (a1_).toNat (fun j_ => zg N (d_ + 27) j_) ∧ (∀ j : Nat, (j : Int) < a1_ → -999999 ≤ zg N (d_ + 27) j ∧ zg N (d_ + 27) j ≤ 999999)) ∨ (v = 0 ∧ ¬ ∃ f_ : Nat → Int, zRown b_ n_ (a1_).toNat f_))))) := by
          intro u14_ hu14_a hu14_b hu14_z i15_
          refine zw_istore (pc := 50) (i := 5) (L2 := [some (.ref 4), some (.ref (d_ + 26)), some (.int (Int32.ofInt a1_)), some (.int (Int32.ofInt u3_)), some (.int (Int32.ofInt u4_)), some (.int (Int32.ofInt u14_)), none, none, none, none]) (by decide) rfl (zdal_p dlB_Reader_readRow_138 (i := 1) rfl) ?_
          refine zw_iload (pc := 52) (i := 5) (x := Int32.ofInt u14_) rfl (zdal_p dlB_Reader_readRow_138 (i := 2) rfl) ?_
          have j_64 : ∀ (u16_ : Int) (hu16_a : -2147483648 ≤ u16_) (hu16_b : u16_ < 2147483648) (i17_ : ((u14_ = 1 ∧ (u16_ : Int) = u3_ + 1 ∧ u3_ < n_ ∧ b_ (u3_).toNat = 45) ∨ (u14_ = 0 ∧ (u16_ : Int) = u3_ ∧ ¬ (u3_ < n_ ∧ b_ (u3_).toNat = 45)))), zW l m_Reader_readRow (zn Mz + 0, zw Mz + 0) N5_ 64 [some (.ref 4), some (.ref (d_ + 26)), some (.int (Int32.ofInt a1_)), some (.int (Int32.ofInt u3_)), some (.int (Int32.ofInt u4_)), some (.int (Int32.ofInt u14_)), none, none, none, none] [.int (Int32.ofInt u16_)] (zqcI d_ [] [] [] [27] Mz (fun v N => (((v = 1 ∧ zRown b_ n_ (a1_).toNat (fun j_ => zg N (d_ + 27) j_) ∧ (∀ j : Nat, (j : Int) < a1_ → -999999 ≤ zg N (d_ + 27) j ∧ zg N (d_ + 27) j ≤ 999999)) ∨ (v = 0 ∧ ¬ ∃ f_ : Nat → Int, zRown b_ n_ (a1_).toNat f_))))) := by
            intro u16_ hu16_a hu16_b i17_
            refine zw_istore (pc := 64) (i := 6) (L2 := [some (.ref 4), some (.ref (d_ + 26)), some (.int (Int32.ofInt a1_)), some (.int (Int32.ofInt u3_)), some (.int (Int32.ofInt u4_)), some (.int (Int32.ofInt u14_)), some (.int (Int32.ofInt u16_)), none, none, none]) (by decide) rfl (zdal_p dlB_Reader_readRow_138 (i := 9) rfl) ?_
            refine zw_aload_n (pc := 66) (n := 0) (x := 4) rfl (zdal_p dlB_Reader_readRow_138 (i := 10) rfl) ?_
            refine zw_getF (pc := 67) f_Reader_15 rfl ((hf_N5_.w hW).ka (o := 4) (by decide)) ((hf_N5_.w hW).la (o := 4) (s := 0) (r := 1) (by decide)) (zdal_p dlB_Reader_readRow_138 (i := 11) rfl) ?_
            refine zw_iload (pc := 70) (i := 6) (x := Int32.ofInt u16_) rfl (zdal_p dlB_Reader_readRow_138 (i := 12) rfl) ?_
            refine zk_callV hf_N5_.x (pc := 72) [.int (Int32.ofInt u16_)] [] l_Reader_203 (u_Tokens_pastDigits l d_ N5_ (hf_N5_.w hW) u16_ hu16_a hu16_b b_ n_ c13_ (show 0 ≤ u16_ by first | with_reducible assumption | assumption | omega) (show u16_ ≤ n_ by first | with_reducible assumption | assumption | omega)) rfl rfl ((hf_N5_.w hW).ka (o := 1) (by decide)) (by decide) (by decide) (Nat.le_of_ble_eq_true rfl) (zdal_p dlB_Reader_readRow_138 (i := 13) rfl) ?_
            rintro _ N18_ ⟨v19_, rfl, ⟨hv19_a, hv19_b⟩, hsN18_, hp0_N18_⟩
            obtain rfl := hsN18_.eq.symm
            replace hp0_N18_ : v19_ = (zru zpD b_ n_ (u16_).toNat : Nat) := hp0_N18_
            show zW l m_Reader_readRow (zn Mz + 0, zw Mz + 0) N5_ 75 [some (.ref 4), some (.ref (d_ + 26)), some (.int (Int32.ofInt a1_)), some (.int (Int32.ofInt u3_)), some (.int (Int32.ofInt u4_)), some (.int (Int32.ofInt u14_)), some (.int (Int32.ofInt u16_)), none, none, none] [.int (Int32.ofInt v19_)] _
            have hpd_ := hp0_N18_
            have hs_ : (((u3_).toNat < n_ ∧ b_ (u3_).toNat = 45 ∧ (u16_).toNat = (u3_).toNat + 1) ∨ (¬ ((u3_).toNat < n_ ∧ b_ (u3_).toNat = 45) ∧ (u16_).toNat = (u3_).toNat)) := by rcases (show ((u14_ = 1 ∧ u16_ = u3_ + 1 ∧ u3_ < n_ ∧ b_ (u3_).toNat = 45) ∨ (u14_ = 0 ∧ u16_ = u3_ ∧ ¬ (u3_ < n_ ∧ b_ (u3_).toNat = 45))) by first | with_reducible assumption | assumption) with q_ | q_; exact Or.inl ⟨by omega, q_.2.2.2, by omega⟩; exact Or.inr ⟨fun z_ => q_.2.2 ⟨by omega, z_.2⟩, by omega⟩
            have hto_ : (v19_).toNat = zru zpD b_ n_ (u16_).toNat := by omega
            have hge_ := zru_ge (P := zpD) (b := b_) (n := n_) (p := (u16_).toNat)
            have hle_ := zru_le (P := zpD) (b := b_) (n := n_) (p := (u16_).toNat) (by omega)
            refine zw_istore (pc := 75) (i := 7) (L2 := [some (.ref 4), some (.ref (d_ + 26)), some (.int (Int32.ofInt a1_)), some (.int (Int32.ofInt u3_)), some (.int (Int32.ofInt u4_)), some (.int (Int32.ofInt u14_)), some (.int (Int32.ofInt u16_)), some (.int (Int32.ofInt v19_)), none, none]) (by decide) rfl (zdal_p dlB_Reader_readRow_138 (i := 14) rfl) ?_
            refine zw_iload (pc := 77) (i := 7) (x := Int32.ofInt v19_) rfl (zdal_p dlB_Reader_readRow_138 (i := 15) rfl) ?_
            refine zw_iload (pc := 79) (i := 6) (x := Int32.ofInt u16_) rfl (zdal_p dlB_Reader_readRow_138 (i := 16) rfl) ?_
            refine zr_isub (pc := 81) (zdal_p dlB_Reader_readRow_138 (i := 17) rfl) ?_
            refine zw_istore (pc := 82) (i := 8) (L2 := [some (.ref 4), some (.ref (d_ + 26)), some (.int (Int32.ofInt a1_)), some (.int (Int32.ofInt u3_)), some (.int (Int32.ofInt u4_)), some (.int (Int32.ofInt u14_)), some (.int (Int32.ofInt u16_)), some (.int (Int32.ofInt v19_)), some (.int (Int32.ofInt (v19_ - u16_))), none]) (by decide) rfl (zdal_p dlB_Reader_readRow_138 (i := 18) rfl) ?_
            refine zw_iload (pc := 84) (i := 8) (x := Int32.ofInt (v19_ - u16_)) rfl (zdal_p dlB_Reader_readRow_138 (i := 19) rfl) ?_
            refine zw_iconst (pc := 86) (v := Int32.ofInt 1) (by decide) (zdal_p dlB_Reader_readRow_138 (i := 20) rfl) ?_
            refine zr_icmp_lt (pc := 87) (tgt := 127) ⟨(by omega), (by omega)⟩ ⟨(by decide), (by decide)⟩ (by decide) (zdal_p dlB_Reader_readRow_138 (i := 21) rfl) (fun hc_87 => ?_) (fun hc_87 => ?_)
            · skip
              have hno_ : ¬ ∃ f_ : Nat → Int, zRown b_ n_ (a1_).toNat f_ := zRown_n hrw_ (by omega) (zNb_no hs_ hto_ (by first | exact Or.inl (by omega) | exact Or.inr ⟨by omega, hnb_⟩))
              refine zw_iconst (pc := 127) (v := Int32.ofInt 0) (by decide) (zdal_p dlB_Reader_readRow_139 (i := 13) rfl) ?_
              exact zk_iret (pc := 128) (ty := .boolean) rfl (z_narB (by omega)) ⟨by omega, by omega⟩ hf_N5_ (show ((0 = 1 ∧ zRown b_ n_ (a1_).toNat (fun j_ => zg N5_ (d_ + 27) j_) ∧ (∀ j : Nat, (j : Int) < a1_ → -999999 ≤ zg N5_ (d_ + 27) j ∧ zg N5_ (d_ + 27) j ≤ 999999)) ∨ (0 = 0 ∧ ¬ ∃ f_ : Nat → Int, zRown b_ n_ (a1_).toNat f_)) from Or.inr (⟨(show 0 = 0 by first | rfl | exact hno_ | exact zRown_e (by have h_ := hrw_; rw [show (u4_).toNat = (a1_).toNat by omega] at h_; exact h_) (by omega)), (show ¬ ∃ f_ : Nat → Int, zRown b_ n_ (a1_).toNat f_ by first | rfl | exact hno_ | exact zRown_e (by have h_ := hrw_; rw [show (u4_).toNat = (a1_).toNat by omega] at h_; exact h_) (by omega))⟩)) (zdal_p dlB_Reader_readRow_139 (i := 14) rfl)
            · skip
              refine zw_iload (pc := 90) (i := 8) (x := Int32.ofInt (v19_ - u16_)) rfl (zdal_p dlB_Reader_readRow_138 (i := 22) rfl) ?_
              refine zw_bipush (pc := 92) (v := Int32.ofInt 6) (by decide) (zdal_p dlB_Reader_readRow_138 (i := 23) rfl) ?_
              refine zr_icmp_gt (pc := 94) (tgt := 127) ⟨(by omega), (by omega)⟩ ⟨(by decide), (by decide)⟩ (by decide) (zdal_p dlB_Reader_readRow_139 (i := 0) rfl) (fun hc_94 => ?_) (fun hc_94 => ?_)
              · skip
                have hno_ : ¬ ∃ f_ : Nat → Int, zRown b_ n_ (a1_).toNat f_ := zRown_n hrw_ (by omega) (zNb_no hs_ hto_ (by first | exact Or.inl (by omega) | exact Or.inr ⟨by omega, hnb_⟩))
                refine zw_iconst (pc := 127) (v := Int32.ofInt 0) (by decide) (zdal_p dlB_Reader_readRow_139 (i := 13) rfl) ?_
                exact zk_iret (pc := 128) (ty := .boolean) rfl (z_narB (by omega)) ⟨by omega, by omega⟩ hf_N5_ (show ((0 = 1 ∧ zRown b_ n_ (a1_).toNat (fun j_ => zg N5_ (d_ + 27) j_) ∧ (∀ j : Nat, (j : Int) < a1_ → -999999 ≤ zg N5_ (d_ + 27) j ∧ zg N5_ (d_ + 27) j ≤ 999999)) ∨ (0 = 0 ∧ ¬ ∃ f_ : Nat → Int, zRown b_ n_ (a1_).toNat f_)) from Or.inr (⟨(show 0 = 0 by first | rfl | exact hno_ | exact zRown_e (by have h_ := hrw_; rw [show (u4_).toNat = (a1_).toNat by omega] at h_; exact h_) (by omega)), (show ¬ ∃ f_ : Nat → Int, zRown b_ n_ (a1_).toNat f_ by first | rfl | exact hno_ | exact zRown_e (by have h_ := hrw_; rw [show (u4_).toNat = (a1_).toNat by omega] at h_; exact h_) (by omega))⟩)) (zdal_p dlB_Reader_readRow_139 (i := 14) rfl)
              · skip
                refine zw_iload (pc := 97) (i := 7) (x := Int32.ofInt v19_) rfl (zdal_p dlB_Reader_readRow_139 (i := 1) rfl) ?_
                refine zw_aload_n (pc := 99) (n := 0) (x := 4) rfl (zdal_p dlB_Reader_readRow_139 (i := 2) rfl) ?_
                refine zw_getF (pc := 100) f_Reader_15 rfl ((hf_N5_.w hW).ka (o := 4) (by decide)) ((hf_N5_.w hW).la (o := 4) (s := 0) (r := 1) (by decide)) (zdal_p dlB_Reader_readRow_139 (i := 3) rfl) ?_
                refine zk_getI (pc := 103) f_Reader_191 rfl ((hf_N5_.w hW).ka (o := 1) (by decide)) (zdal_p dlB_Reader_readRow_139 (i := 4) rfl) ?_
                rw [hf_N5_.ea hW (by decide)]
                have j_129 : ∀ (i20_ : (v19_ < n_ → zpB (b_ (v19_).toNat) = true)), zW l m_Reader_readRow (zn Mz + 0, zw Mz + 0) N5_ 129 [some (.ref 4), some (.ref (d_ + 26)), some (.int (Int32.ofInt a1_)), some (.int (Int32.ofInt u3_)), some (.int (Int32.ofInt u4_)), some (.int (Int32.ofInt u14_)), some (.int (Int32.ofInt u16_)), some (.int (Int32.ofInt v19_)), some (.int (Int32.ofInt (v19_ - u16_))), none] [] (zqcI d_ [] [] [] [27] Mz (fun v N => (((v = 1 ∧ zRown b_ n_ (a1_).toNat (fun j_ => zg N (d_ + 27) j_) ∧ (∀ j : Nat, (j : Int) < a1_ → -999999 ≤ zg N (d_ + 27) j ∧ zg N (d_ + 27) j ≤ 999999)) ∨ (v = 0 ∧ ¬ ∃ f_ : Nat → Int, zRown b_ n_ (a1_).toNat f_))))) := by
                  intro i20_
                  have htr_ := (show (v19_ < n_ → zpB (b_ (v19_).toNat) = true) by first | with_reducible assumption | assumption)
                  refine zw_aload_n (pc := 129) (n := 0) (x := 4) rfl (zdal_p dlB_Reader_readRow_139 (i := 15) rfl) ?_
                  refine zw_getF (pc := 130) f_Reader_15 rfl ((hf_N5_.w hW).ka (o := 4) (by decide)) ((hf_N5_.w hW).la (o := 4) (s := 0) (r := 1) (by decide)) (zdal_p dlB_Reader_readRow_139 (i := 16) rfl) ?_
                  refine zw_iload (pc := 133) (i := 6) (x := Int32.ofInt u16_) rfl (zdal_p dlB_Reader_readRow_139 (i := 17) rfl) ?_
                  refine zw_iload (pc := 135) (i := 7) (x := Int32.ofInt v19_) rfl (zdal_p dlB_Reader_readRow_139 (i := 18) rfl) ?_
                  refine zk_callV hf_N5_.x (pc := 137) [.int (Int32.ofInt u16_), .int (Int32.ofInt v19_)] [] l_Reader_209 (u_Tokens_numberFrom l d_ N5_ (hf_N5_.w hW) u16_ hu16_a hu16_b v19_ hv19_a hv19_b b_ n_ c13_ (show 0 ≤ u16_ by first | with_reducible assumption | assumption | omega) (show u16_ ≤ v19_ by first | with_reducible assumption | assumption | omega) (show v19_ ≤ n_ by first | with_reducible assumption | assumption | omega)) rfl rfl ((hf_N5_.w hW).ka (o := 1) (by decide)) (by decide) (by decide) (Nat.le_of_ble_eq_true rfl) (zdal_p dlB_Reader_readRow_139 (i := 19) rfl) ?_
                  rintro _ N21_ ⟨v22_, rfl, ⟨hv22_a, hv22_b⟩, hsN21_, hp0_N21_⟩
                  obtain rfl := hsN21_.eq.symm
                  replace hp0_N21_ : (v19_ - u16_ ≤ 6 → v22_ = zvl b_ (u16_).toNat (v19_ - u16_).toNat) := hp0_N21_
                  show zW l m_Reader_readRow (zn Mz + 0, zw Mz + 0) N5_ 140 [some (.ref 4), some (.ref (d_ + 26)), some (.int (Int32.ofInt a1_)), some (.int (Int32.ofInt u3_)), some (.int (Int32.ofInt u4_)), some (.int (Int32.ofInt u14_)), some (.int (Int32.ofInt u16_)), some (.int (Int32.ofInt v19_)), some (.int (Int32.ofInt (v19_ - u16_))), none] [.int (Int32.ofInt v22_)] _
                  have hnv_ := hp0_N21_ (by omega)
                  have h6_ := zvl_6 (b := b_) (n := n_) hto_ (by omega) (by omega)
                  rw [show (v19_ - u16_).toNat = (v19_).toNat - (u16_).toNat by omega] at hnv_
                  rw [← hnv_] at h6_
                  refine zw_istore (pc := 140) (i := 9) (L2 := [some (.ref 4), some (.ref (d_ + 26)), some (.int (Int32.ofInt a1_)), some (.int (Int32.ofInt u3_)), some (.int (Int32.ofInt u4_)), some (.int (Int32.ofInt u14_)), some (.int (Int32.ofInt u16_)), some (.int (Int32.ofInt v19_)), some (.int (Int32.ofInt (v19_ - u16_))), some (.int (Int32.ofInt v22_))]) (by decide) rfl (zdal_p dlB_Reader_readRow_139 (i := 20) rfl) ?_
                  refine zw_aload_n (pc := 142) (n := 1) (x := (d_ + 26)) rfl (zdal_p dlB_Reader_readRow_139 (i := 21) rfl) ?_
                  refine zw_iload (pc := 143) (i := 4) (x := Int32.ofInt u4_) rfl (zdal_p dlB_Reader_readRow_139 (i := 22) rfl) ?_
                  refine zw_iload (pc := 145) (i := 5) (x := Int32.ofInt u14_) rfl (zdal_p dlB_Reader_readRow_139 (i := 23) rfl) ?_
                  refine zr_if_eq (pc := 147) (tgt := 157) ⟨hu14_a, hu14_b⟩ (by decide) (zdal_p dlB_Reader_readRow_140 (i := 0) rfl) (fun hc_147 => ?_) (fun hc_147 => ?_)
                  · skip
                    refine zw_iload (pc := 157) (i := 9) (x := Int32.ofInt v22_) rfl (zdal_p dlB_Reader_readRow_140 (i := 5) rfl) ?_
                    refine zr_i2l (pc := 159) ⟨hv22_a, hv22_b⟩ (zdal_p dlB_Reader_readRow_140 (i := 6) rfl) ?_
                    refine zk_stJ hf_N5_.x (pc := 160) (o := 27) (by decide) l_Reader_212 ((hf_N5_.w hW).kr (o := 26) (by decide)) ((hf_N5_.w hW).lr (o := 26) (s := 0) (r := 27) (by decide)) ((hf_N5_.w hW).rr (o := 27) (t := 2) (n := 27) (by decide)) (by decide) (by omega) (by omega) (by decide) (Nat.le_of_ble_eq_true rfl) (zdal_p dlB_Reader_readRow_140 (i := 7) rfl) (fun N23_ hN23_ hsN23_ => ?_)
                    have hf_N23_ : zFc d_ [] [] [] [27] Mz N23_ := hf_N5_.tr hsN23_ (by decide) (by decide) (by decide) (by decide)
                    have hb0_N23_ : zFc d_ [] [] [] [27] Mz N23_ := hs6_.tr hsN23_ (by decide) (by decide) (by decide) (by decide)
                    have eA1_1_N23_ : ze N23_ 1 1 = ze N5_ 1 1 := hsN23_.ea (hf_N5_.w hW) (by decide)
                    have c24_ : zYb b_ n_ N23_ := zYb.fr (hf_N5_.w hW) hsN23_ c13_ (by decide)
                    have hgt_ := zs_getJ hN23_ ⟨by omega, by omega⟩
                    have hot_ := fun (j_ : Nat) (hj_ : (j_ : Int) ≠ u4_) => zs_othJ hN23_ (j := j_) (by omega)
                    have hnb2_ : zNb b_ n_ (u3_).toNat (zg N23_ (d_ + 27) (u4_).toNat) (zru zpB b_ n_ (v19_).toNat) := ⟨(u16_).toNat, (v19_).toNat, hs_, hto_, by omega, fun h_ => htr_ (by omega), by first | exact Or.inl ⟨by omega, by omega, by rw [hgt_, hnv_]⟩ | exact Or.inr ⟨by omega, by rw [hgt_, hnv_]⟩, rfl⟩
                    have hrn_ : zRwn b_ n_ (zru zpB b_ n_ 0) (fun j_ => zg N23_ (d_ + 27) j_) (u4_ + 1).toNat (zru zpB b_ n_ (v19_).toNat) := by rw [show (u4_ + 1).toNat = (u4_).toNat + 1 by omega]; exact zRwn_s hrw_ hnb2_ (fun i_ hi_ => hot_ i_ (by omega)) rfl
                    have hbn_ : (∀ j : Nat, (j : Int) < u4_ + 1 → -999999 ≤ zg N23_ (d_ + 27) j ∧ zg N23_ (d_ + 27) j ≤ 999999) := fun j_ hj_ => by by_cases g_ : (j_ : Int) = u4_; (rw [show j_ = (u4_).toNat by omega, hgt_]; omega); (rw [hot_ j_ g_]; exact hbi_ j_ (by omega))
                    have hzl_ := zru_le (P := zpB) (b := b_) (n := n_) (p := (v19_).toNat) (by omega)
                    refine zw_aload_n (pc := 163) (n := 0) (x := 4) rfl (zdal_p dlB_Reader_readRow_140 (i := 8) rfl) ?_
                    refine zw_getF (pc := 164) f_Reader_15 rfl ((hf_N23_.w hW).ka (o := 4) (by decide)) ((hf_N23_.w hW).la (o := 4) (s := 0) (r := 1) (by decide)) (zdal_p dlB_Reader_readRow_140 (i := 9) rfl) ?_
                    refine zw_iload (pc := 167) (i := 7) (x := Int32.ofInt v19_) rfl (zdal_p dlB_Reader_readRow_140 (i := 10) rfl) ?_
                    refine zk_callV hf_N23_.x (pc := 169) [.int (Int32.ofInt v19_)] [] l_Reader_188 (u_Tokens_pastBlanks l d_ N23_ (hf_N23_.w hW) v19_ hv19_a hv19_b b_ n_ c24_ (show 0 ≤ (v19_ : Int) by first | with_reducible assumption | assumption | omega) (show (v19_ : Int) ≤ n_ by first | with_reducible assumption | assumption | omega)) rfl rfl ((hf_N23_.w hW).ka (o := 1) (by decide)) (by decide) (by decide) (Nat.le_of_ble_eq_true rfl) (zdal_p dlB_Reader_readRow_140 (i := 11) rfl) ?_
                    rintro _ N25_ ⟨v26_, rfl, ⟨hv26_a, hv26_b⟩, hsN25_, hp0_N25_⟩
                    obtain rfl := hsN25_.eq.symm
                    replace hp0_N25_ : v26_ = (zru zpB b_ n_ ((v19_ : Int)).toNat : Nat) := hp0_N25_
                    show zW l m_Reader_readRow (zn Mz + 0, zw Mz + 0) N23_ 172 [some (.ref 4), some (.ref (d_ + 26)), some (.int (Int32.ofInt a1_)), some (.int (Int32.ofInt u3_)), some (.int (Int32.ofInt u4_)), some (.int (Int32.ofInt u14_)), some (.int (Int32.ofInt u16_)), some (.int (Int32.ofInt v19_)), some (.int (Int32.ofInt (v19_ - u16_))), some (.int (Int32.ofInt v22_))] [.int (Int32.ofInt v26_)] _
                    have hnx_ := hp0_N25_
                    refine zw_istore_n (pc := 172) (i := 3) (L2 := [some (.ref 4), some (.ref (d_ + 26)), some (.int (Int32.ofInt a1_)), some (.int (Int32.ofInt v26_)), some (.int (Int32.ofInt u4_)), some (.int (Int32.ofInt u14_)), some (.int (Int32.ofInt u16_)), some (.int (Int32.ofInt v19_)), some (.int (Int32.ofInt (v19_ - u16_))), some (.int (Int32.ofInt v22_))]) rfl (by decide) rfl (zdal_p dlB_Reader_readRow_140 (i := 12) rfl) ?_
                    refine zr_iinc (pc := 173) (i := 4) (a := u4_) (n := 1) (L2 := [some (.ref 4), some (.ref (d_ + 26)), some (.int (Int32.ofInt a1_)), some (.int (Int32.ofInt v26_)), some (.int (Int32.ofInt (u4_ + 1))), some (.int (Int32.ofInt u14_)), some (.int (Int32.ofInt u16_)), some (.int (Int32.ofInt v19_)), some (.int (Int32.ofInt (v19_ - u16_))), some (.int (Int32.ofInt v22_))]) rfl (by decide) rfl (zdal_p dlB_Reader_readRow_140 (i := 13) rfl) ?_
                    refine zw_goto (pc := 176) (tgt := 12) (by decide) (zdal_p dlB_Reader_readRow_140 (i := 14) rfl) ?_
                    refine zW_le [some (.ref 4), some (.ref (d_ + 26)), some (.int (Int32.ofInt a1_)), some (.int (Int32.ofInt v26_)), some (.int (Int32.ofInt (u4_ + 1))), none, none, none, none, none] (⟨rfl, rfl, rfl, rfl, rfl, trivial⟩) ?_
                    exact ih_12 v26_ hv26_a hv26_b (u4_ + 1) (by omega) (by omega) N23_ hb0_N23_ (show 0 ≤ (u4_ + 1) by first | with_reducible assumption | assumption | omega) (show (u4_ + 1) ≤ a1_ by first | with_reducible assumption | assumption | omega) (show 0 ≤ v26_ by first | with_reducible assumption | assumption | omega) (show v26_ ≤ n_ by first | with_reducible assumption | assumption | omega) (show zRwn b_ n_ (zru zpB b_ n_ 0) (fun j_ => zg N23_ (d_ + 27) j_) ((u4_ + 1)).toNat (v26_).toNat by rw [show (v26_).toNat = zru zpB b_ n_ (v19_).toNat by omega]; exact hrn_) (show (∀ j : Nat, (j : Int) < (u4_ + 1) → -999999 ≤ zg N23_ (d_ + 27) j ∧ zg N23_ (d_ + 27) j ≤ 999999) by exact hbn_) (by omega)
                  · skip
                    refine zw_iload (pc := 150) (i := 9) (x := Int32.ofInt v22_) rfl (zdal_p dlB_Reader_readRow_140 (i := 1) rfl) ?_
                    refine zr_ineg (pc := 152) (zdal_p dlB_Reader_readRow_140 (i := 2) rfl) ?_
                    refine zr_i2l (pc := 153) ⟨(by omega), (by omega)⟩ (zdal_p dlB_Reader_readRow_140 (i := 3) rfl) ?_
                    refine zw_goto (pc := 154) (tgt := 160) (by decide) (zdal_p dlB_Reader_readRow_140 (i := 4) rfl) ?_
                    refine zk_stJ hf_N5_.x (pc := 160) (o := 27) (by decide) l_Reader_212 ((hf_N5_.w hW).kr (o := 26) (by decide)) ((hf_N5_.w hW).lr (o := 26) (s := 0) (r := 27) (by decide)) ((hf_N5_.w hW).rr (o := 27) (t := 2) (n := 27) (by decide)) (by decide) (by omega) (by omega) (by decide) (Nat.le_of_ble_eq_true rfl) (zdal_p dlB_Reader_readRow_140 (i := 7) rfl) (fun N27_ hN27_ hsN27_ => ?_)
                    have hf_N27_ : zFc d_ [] [] [] [27] Mz N27_ := hf_N5_.tr hsN27_ (by decide) (by decide) (by decide) (by decide)
                    have hb0_N27_ : zFc d_ [] [] [] [27] Mz N27_ := hs6_.tr hsN27_ (by decide) (by decide) (by decide) (by decide)
                    have eA1_1_N27_ : ze N27_ 1 1 = ze N5_ 1 1 := hsN27_.ea (hf_N5_.w hW) (by decide)
                    have c28_ : zYb b_ n_ N27_ := zYb.fr (hf_N5_.w hW) hsN27_ c13_ (by decide)
                    have hgt_ := zs_getJ hN27_ ⟨by omega, by omega⟩
                    have hot_ := fun (j_ : Nat) (hj_ : (j_ : Int) ≠ u4_) => zs_othJ hN27_ (j := j_) (by omega)
                    have hnb2_ : zNb b_ n_ (u3_).toNat (zg N27_ (d_ + 27) (u4_).toNat) (zru zpB b_ n_ (v19_).toNat) := ⟨(u16_).toNat, (v19_).toNat, hs_, hto_, by omega, fun h_ => htr_ (by omega), by first | exact Or.inl ⟨by omega, by omega, by rw [hgt_, hnv_]⟩ | exact Or.inr ⟨by omega, by rw [hgt_, hnv_]⟩, rfl⟩
                    have hrn_ : zRwn b_ n_ (zru zpB b_ n_ 0) (fun j_ => zg N27_ (d_ + 27) j_) (u4_ + 1).toNat (zru zpB b_ n_ (v19_).toNat) := by rw [show (u4_ + 1).toNat = (u4_).toNat + 1 by omega]; exact zRwn_s hrw_ hnb2_ (fun i_ hi_ => hot_ i_ (by omega)) rfl
                    have hbn_ : (∀ j : Nat, (j : Int) < u4_ + 1 → -999999 ≤ zg N27_ (d_ + 27) j ∧ zg N27_ (d_ + 27) j ≤ 999999) := fun j_ hj_ => by by_cases g_ : (j_ : Int) = u4_; (rw [show j_ = (u4_).toNat by omega, hgt_]; omega); (rw [hot_ j_ g_]; exact hbi_ j_ (by omega))
                    have hzl_ := zru_le (P := zpB) (b := b_) (n := n_) (p := (v19_).toNat) (by omega)
                    refine zw_aload_n (pc := 163) (n := 0) (x := 4) rfl (zdal_p dlB_Reader_readRow_140 (i := 8) rfl) ?_
                    refine zw_getF (pc := 164) f_Reader_15 rfl ((hf_N27_.w hW).ka (o := 4) (by decide)) ((hf_N27_.w hW).la (o := 4) (s := 0) (r := 1) (by decide)) (zdal_p dlB_Reader_readRow_140 (i := 9) rfl) ?_
                    refine zw_iload (pc := 167) (i := 7) (x := Int32.ofInt v19_) rfl (zdal_p dlB_Reader_readRow_140 (i := 10) rfl) ?_
                    refine zk_callV hf_N27_.x (pc := 169) [.int (Int32.ofInt v19_)] [] l_Reader_188 (u_Tokens_pastBlanks l d_ N27_ (hf_N27_.w hW) v19_ hv19_a hv19_b b_ n_ c28_ (show 0 ≤ (v19_ : Int) by first | with_reducible assumption | assumption | omega) (show (v19_ : Int) ≤ n_ by first | with_reducible assumption | assumption | omega)) rfl rfl ((hf_N27_.w hW).ka (o := 1) (by decide)) (by decide) (by decide) (Nat.le_of_ble_eq_true rfl) (zdal_p dlB_Reader_readRow_140 (i := 11) rfl) ?_
                    rintro _ N29_ ⟨v30_, rfl, ⟨hv30_a, hv30_b⟩, hsN29_, hp0_N29_⟩
                    obtain rfl := hsN29_.eq.symm
                    replace hp0_N29_ : v30_ = (zru zpB b_ n_ ((v19_ : Int)).toNat : Nat) := hp0_N29_
                    show zW l m_Reader_readRow (zn Mz + 0, zw Mz + 0) N27_ 172 [some (.ref 4), some (.ref (d_ + 26)), some (.int (Int32.ofInt a1_)), some (.int (Int32.ofInt u3_)), some (.int (Int32.ofInt u4_)), some (.int (Int32.ofInt u14_)), some (.int (Int32.ofInt u16_)), some (.int (Int32.ofInt v19_)), some (.int (Int32.ofInt (v19_ - u16_))), some (.int (Int32.ofInt v22_))] [.int (Int32.ofInt v30_)] _
                    have hnx_ := hp0_N29_
                    refine zw_istore_n (pc := 172) (i := 3) (L2 := [some (.ref 4), some (.ref (d_ + 26)), some (.int (Int32.ofInt a1_)), some (.int (Int32.ofInt v30_)), some (.int (Int32.ofInt u4_)), some (.int (Int32.ofInt u14_)), some (.int (Int32.ofInt u16_)), some (.int (Int32.ofInt v19_)), some (.int (Int32.ofInt (v19_ - u16_))), some (.int (Int32.ofInt v22_))]) rfl (by decide) rfl (zdal_p dlB_Reader_readRow_140 (i := 12) rfl) ?_
                    refine zr_iinc (pc := 173) (i := 4) (a := u4_) (n := 1) (L2 := [some (.ref 4), some (.ref (d_ + 26)), some (.int (Int32.ofInt a1_)), some (.int (Int32.ofInt v30_)), some (.int (Int32.ofInt (u4_ + 1))), some (.int (Int32.ofInt u14_)), some (.int (Int32.ofInt u16_)), some (.int (Int32.ofInt v19_)), some (.int (Int32.ofInt (v19_ - u16_))), some (.int (Int32.ofInt v22_))]) rfl (by decide) rfl (zdal_p dlB_Reader_readRow_140 (i := 13) rfl) ?_
                    refine zw_goto (pc := 176) (tgt := 12) (by decide) (zdal_p dlB_Reader_readRow_140 (i := 14) rfl) ?_
                    refine zW_le [some (.ref 4), some (.ref (d_ + 26)), some (.int (Int32.ofInt a1_)), some (.int (Int32.ofInt v30_)), some (.int (Int32.ofInt (u4_ + 1))), none, none, none, none, none] (⟨rfl, rfl, rfl, rfl, rfl, trivial⟩) ?_
                    exact ih_12 v30_ hv30_a hv30_b (u4_ + 1) (by omega) (by omega) N27_ hb0_N27_ (show 0 ≤ (u4_ + 1) by first | with_reducible assumption | assumption | omega) (show (u4_ + 1) ≤ a1_ by first | with_reducible assumption | assumption | omega) (show 0 ≤ v30_ by first | with_reducible assumption | assumption | omega) (show v30_ ≤ n_ by first | with_reducible assumption | assumption | omega) (show zRwn b_ n_ (zru zpB b_ n_ 0) (fun j_ => zg N27_ (d_ + 27) j_) ((u4_ + 1)).toNat (v30_).toNat by rw [show (v30_).toNat = zru zpB b_ n_ (v19_).toNat by omega]; exact hrn_) (show (∀ j : Nat, (j : Int) < (u4_ + 1) → -999999 ≤ zg N27_ (d_ + 27) j ∧ zg N27_ (d_ + 27) j ≤ 999999) by exact hbn_) (by omega)
                refine zr_icmp_ge (pc := 106) (tgt := 129) ⟨hv19_a, hv19_b⟩ ⟨(ze_r Mz 1 1).1, (ze_r Mz 1 1).2⟩ (by decide) (zdal_p dlB_Reader_readRow_139 (i := 5) rfl) (fun hc_106 => ?_) (fun hc_106 => ?_)
                · skip
                  exact j_129 (show (v19_ < n_ → zpB (b_ (v19_).toNat) = true) by first | exact fun _ => hbl_ | (intro h_; exfalso; omega))
                · skip
                  refine zw_aload_n (pc := 109) (n := 0) (x := 4) rfl (zdal_p dlB_Reader_readRow_139 (i := 6) rfl) ?_
                  refine zw_getF (pc := 110) f_Reader_15 rfl ((hf_N5_.w hW).ka (o := 4) (by decide)) ((hf_N5_.w hW).la (o := 4) (s := 0) (r := 1) (by decide)) (zdal_p dlB_Reader_readRow_139 (i := 7) rfl) ?_
                  refine zw_getF (pc := 113) f_Reader_194 rfl ((hf_N5_.w hW).ka (o := 1) (by decide)) ((hf_N5_.w hW).la (o := 1) (s := 0) (r := 2) (by decide)) (zdal_p dlB_Reader_readRow_139 (i := 8) rfl) ?_
                  refine zw_iload (pc := 116) (i := 7) (x := Int32.ofInt v19_) rfl (zdal_p dlB_Reader_readRow_139 (i := 9) rfl) ?_
                  refine zk_at hf_N5_.x (pc := 118) l_Reader_198 ((hf_N5_.w hW).ka (o := 2) (by decide)) ((hf_N5_.w hW).la (o := 2) (s := 0) (r := 3) (by decide)) ((hf_N5_.w hW).ra (o := 3) (t := 1) (n := 700) (by decide)) (by decide) (by omega) (by omega) (by decide) (Nat.le_of_ble_eq_true rfl) (zdal_p dlB_Reader_readRow_139 (i := 10) rfl) (fun v31_ hv31_ hv31_a hv31_b => ?_)
                  rw [hf_N5_.ra hW (by decide)] at hv31_
                  have hy_ := hv31_.trans (hb_ _ (by omega))
                  refine zr_callS hf_N5_.x (pc := 121) [.int (Int32.ofInt v31_)] [] l_Reader_206 (u_Tokens_isBlank l d_ N5_ (hf_N5_.w hW) v31_ hv31_a hv31_b) rfl rfl (by decide) (Nat.le_of_ble_eq_true rfl) (zdal_p dlB_Reader_readRow_139 (i := 11) rfl) ?_
                  rintro _ N32_ ⟨v33_, rfl, ⟨hv33_a, hv33_b⟩, hsN32_, hp0_N32_⟩
                  obtain rfl := hsN32_.eq.symm
                  replace hp0_N32_ : ((v33_ = 1 ∧ zpB v31_ = true) ∨ (v33_ = 0 ∧ zpB v31_ = false)) := hp0_N32_
                  rcases hp0_N32_ with ⟨rfl, ha121_0_hp0_N32_⟩ | ⟨rfl, ha121_0_hp0_N32_⟩
                  · skip
                    have hbl_ := ha121_0_hp0_N32_
                    rw [hy_] at hbl_
                    show zW l m_Reader_readRow (zn Mz + 0, zw Mz + 0) N5_ 124 [some (.ref 4), some (.ref (d_ + 26)), some (.int (Int32.ofInt a1_)), some (.int (Int32.ofInt u3_)), some (.int (Int32.ofInt u4_)), some (.int (Int32.ofInt u14_)), some (.int (Int32.ofInt u16_)), some (.int (Int32.ofInt v19_)), some (.int (Int32.ofInt (v19_ - u16_))), none] [.int (Int32.ofInt 1)] _
                    refine zr_if_ne (pc := 124) (tgt := 129) ⟨(by decide), (by decide)⟩ (by decide) (zdal_p dlB_Reader_readRow_139 (i := 12) rfl) (fun hc_124 => ?_) (fun hc_124 => ?_)
                    · skip
                      exact j_129 (show (v19_ < n_ → zpB (b_ (v19_).toNat) = true) by first | exact fun _ => hbl_ | (intro h_; exfalso; omega))
                    · skip
                      exact absurd hc_124 (by decide)
                  · skip
                    have hnb_ := ha121_0_hp0_N32_
                    rw [hy_] at hnb_
                    show zW l m_Reader_readRow (zn Mz + 0, zw Mz + 0) N5_ 124 [some (.ref 4), some (.ref (d_ + 26)), some (.int (Int32.ofInt a1_)), some (.int (Int32.ofInt u3_)), some (.int (Int32.ofInt u4_)), some (.int (Int32.ofInt u14_)), some (.int (Int32.ofInt u16_)), some (.int (Int32.ofInt v19_)), some (.int (Int32.ofInt (v19_ - u16_))), none] [.int (Int32.ofInt 0)] _
                    refine zr_if_ne (pc := 124) (tgt := 129) ⟨(by decide), (by decide)⟩ (by decide) (zdal_p dlB_Reader_readRow_139 (i := 12) rfl) (fun hc_124 => ?_) (fun hc_124 => ?_)
                    · skip
                      exact absurd hc_124 (by decide)
                    · skip
                      have hno_ : ¬ ∃ f_ : Nat → Int, zRown b_ n_ (a1_).toNat f_ := zRown_n hrw_ (by omega) (zNb_no hs_ hto_ (by first | exact Or.inl (by omega) | exact Or.inr ⟨by omega, hnb_⟩))
                      refine zw_iconst (pc := 127) (v := Int32.ofInt 0) (by decide) (zdal_p dlB_Reader_readRow_139 (i := 13) rfl) ?_
                      exact zk_iret (pc := 128) (ty := .boolean) rfl (z_narB (by omega)) ⟨by omega, by omega⟩ hf_N5_ (show ((0 = 1 ∧ zRown b_ n_ (a1_).toNat (fun j_ => zg N5_ (d_ + 27) j_) ∧ (∀ j : Nat, (j : Int) < a1_ → -999999 ≤ zg N5_ (d_ + 27) j ∧ zg N5_ (d_ + 27) j ≤ 999999)) ∨ (0 = 0 ∧ ¬ ∃ f_ : Nat → Int, zRown b_ n_ (a1_).toNat f_)) from Or.inr (⟨(show 0 = 0 by first | rfl | exact hno_ | exact zRown_e (by have h_ := hrw_; rw [show (u4_).toNat = (a1_).toNat by omega] at h_; exact h_) (by omega)), (show ¬ ∃ f_ : Nat → Int, zRown b_ n_ (a1_).toNat f_ by first | rfl | exact hno_ | exact zRown_e (by have h_ := hrw_; rw [show (u4_).toNat = (a1_).toNat by omega] at h_; exact h_) (by omega))⟩)) (zdal_p dlB_Reader_readRow_139 (i := 14) rfl)
          refine zr_if_eq (pc := 54) (tgt := 63) ⟨hu14_a, hu14_b⟩ (by decide) (zdal_p dlB_Reader_readRow_138 (i := 3) rfl) (fun hc_54 => ?_) (fun hc_54 => ?_)
          · skip
            refine zw_iload_n (pc := 63) (n := 3) (x := Int32.ofInt u3_) rfl (zdal_p dlB_Reader_readRow_138 (i := 8) rfl) ?_
            exact j_64 u3_ hu3_a hu3_b (show ((u14_ = 1 ∧ (u3_ : Int) = u3_ + 1 ∧ u3_ < n_ ∧ b_ (u3_).toNat = 45) ∨ (u14_ = 0 ∧ (u3_ : Int) = u3_ ∧ ¬ (u3_ < n_ ∧ b_ (u3_).toNat = 45))) by first | with_reducible assumption | assumption | omega)
          · skip
            refine zw_iload_n (pc := 57) (n := 3) (x := Int32.ofInt u3_) rfl (zdal_p dlB_Reader_readRow_138 (i := 4) rfl) ?_
            refine zw_iconst (pc := 58) (v := Int32.ofInt 1) (by decide) (zdal_p dlB_Reader_readRow_138 (i := 5) rfl) ?_
            refine zr_iadd (pc := 59) (zdal_p dlB_Reader_readRow_138 (i := 6) rfl) ?_
            refine zw_goto (pc := 60) (tgt := 64) (by decide) (zdal_p dlB_Reader_readRow_138 (i := 7) rfl) ?_
            exact j_64 (u3_ + 1) (by omega) (by omega) (show ((u14_ = 1 ∧ ((u3_ + 1) : Int) = u3_ + 1 ∧ u3_ < n_ ∧ b_ (u3_).toNat = 45) ∨ (u14_ = 0 ∧ ((u3_ + 1) : Int) = u3_ ∧ ¬ (u3_ < n_ ∧ b_ (u3_).toNat = 45))) by first | with_reducible assumption | assumption | omega)
        refine zr_icmp_ge (pc := 26) (tgt := 49) ⟨hu3_a, hu3_b⟩ ⟨(ze_r Mz 1 1).1, (ze_r Mz 1 1).2⟩ (by decide) (zdal_p dlB_Reader_readRow_137 (i := 14) rfl) (fun hc_26 => ?_) (fun hc_26 => ?_)
        · skip
          refine zw_iconst (pc := 49) (v := Int32.ofInt 0) (by decide) (zdal_p dlB_Reader_readRow_138 (i := 0) rfl) ?_
          exact j_50 0 (by decide) (by decide) (by omega) (show (((0 : Int) = 1 ∧ u3_ < n_ ∧ b_ (u3_).toNat = 45) ∨ ((0 : Int) = 0 ∧ ¬ (u3_ < n_ ∧ b_ (u3_).toNat = 45))) by first | with_reducible assumption | assumption | omega)
        · skip
          refine zw_aload_n (pc := 29) (n := 0) (x := 4) rfl (zdal_p dlB_Reader_readRow_137 (i := 15) rfl) ?_
          refine zw_getF (pc := 30) f_Reader_15 rfl ((hf_N5_.w hW).ka (o := 4) (by decide)) ((hf_N5_.w hW).la (o := 4) (s := 0) (r := 1) (by decide)) (zdal_p dlB_Reader_readRow_137 (i := 16) rfl) ?_
          refine zw_getF (pc := 33) f_Reader_194 rfl ((hf_N5_.w hW).ka (o := 1) (by decide)) ((hf_N5_.w hW).la (o := 1) (s := 0) (r := 2) (by decide)) (zdal_p dlB_Reader_readRow_137 (i := 17) rfl) ?_
          refine zw_iload_n (pc := 36) (n := 3) (x := Int32.ofInt u3_) rfl (zdal_p dlB_Reader_readRow_137 (i := 18) rfl) ?_
          refine zk_at hf_N5_.x (pc := 37) l_Reader_198 ((hf_N5_.w hW).ka (o := 2) (by decide)) ((hf_N5_.w hW).la (o := 2) (s := 0) (r := 3) (by decide)) ((hf_N5_.w hW).ra (o := 3) (t := 1) (n := 700) (by decide)) (by decide) (by omega) (by omega) (by decide) (Nat.le_of_ble_eq_true rfl) (zdal_p dlB_Reader_readRow_137 (i := 19) rfl) (fun v34_ hv34_ hv34_a hv34_b => ?_)
          rw [hf_N5_.ra hW (by decide)] at hv34_
          have hx_ := hv34_.trans (hb_ _ (by omega))
          refine zw_bipush (pc := 40) (v := Int32.ofInt 45) (by decide) (zdal_p dlB_Reader_readRow_137 (i := 20) rfl) ?_
          refine zr_icmp_ne (pc := 42) (tgt := 49) ⟨hv34_a, hv34_b⟩ ⟨(by decide), (by decide)⟩ (by decide) (zdal_p dlB_Reader_readRow_137 (i := 21) rfl) (fun hc_42 => ?_) (fun hc_42 => ?_)
          · skip
            refine zw_iconst (pc := 49) (v := Int32.ofInt 0) (by decide) (zdal_p dlB_Reader_readRow_138 (i := 0) rfl) ?_
            exact j_50 0 (by decide) (by decide) (by omega) (show (((0 : Int) = 1 ∧ u3_ < n_ ∧ b_ (u3_).toNat = 45) ∨ ((0 : Int) = 0 ∧ ¬ (u3_ < n_ ∧ b_ (u3_).toNat = 45))) by first | with_reducible assumption | assumption | omega)
          · skip
            refine zw_iconst (pc := 45) (v := Int32.ofInt 1) (by decide) (zdal_p dlB_Reader_readRow_137 (i := 22) rfl) ?_
            refine zw_goto (pc := 46) (tgt := 50) (by decide) (zdal_p dlB_Reader_readRow_137 (i := 23) rfl) ?_
            exact j_50 1 (by decide) (by decide) (by omega) (show (((1 : Int) = 1 ∧ u3_ < n_ ∧ b_ (u3_).toNat = 45) ∨ ((1 : Int) = 0 ∧ ¬ (u3_ < n_ ∧ b_ (u3_).toNat = 45))) by first | with_reducible assumption | assumption | omega)
  exact lp_12 _ v2_ hv2_a hv2_b 0 (by decide) (by decide) Mz zFc.rf (show 0 ≤ (0 : Int) by first | with_reducible assumption | assumption | omega) (show (0 : Int) ≤ a1_ by first | with_reducible assumption | assumption | omega) (show 0 ≤ v2_ by first | with_reducible assumption | assumption | omega) (show v2_ ≤ n_ by first | with_reducible assumption | assumption | omega) (show zRwn b_ n_ (zru zpB b_ n_ 0) (fun j_ => zg Mz (d_ + 27) j_) ((0 : Int)).toNat (v2_).toNat by show (v2_).toNat = (zru zpB b_ n_ 0); omega) (show (∀ j : Nat, (j : Int) < (0 : Int) → -999999 ≤ zg Mz (d_ + 27) j ∧ zg Mz (d_ + 27) j ≤ 999999) by exact fun j_ hj_ => absurd hj_ (by omega)) (Nat.lt_succ_self _)
set_option maxHeartbeats 4000000 in
theorem u_Sorts_normSizeS (l : Launch) (d_ : Nat) (Mz : zMem) (hW : zKW d_ Mz) (a0_ : Int) (ha0_a : -2147483648 ≤ a0_) (ha0_b : a0_ < 2147483648) (T_ : zGT) (hT_ : T_ ∈ gTabs) (p0_ : zTt T_ d_ Mz) (p1_ : zFir T_ d_ Mz) (p2_ : 0 ≤ a0_) (p3_ : a0_ < ((gF T_).length : Int)) : zC l m_Sorts_normSize 0 0 [.ref (d_ + 12), .int (Int32.ofInt a0_)] Mz (zqcI d_ [] [] [] [] Mz (fun v N => v = (((zct (fun g_ => gtr T_ (gFn T_ (a0_).toNat) g_ = (gFn T_ (a0_).toNat)) (gN T_)) : Nat) : Int))) := by
  refine zC_of (L0 := [some (.ref (d_ + 12)), some (.int (Int32.ofInt a0_))]) md_Sorts_normSize (Nat.le_of_ble_eq_true rfl) rfl ?_ zQ0
  have hf : zFc d_ [] [] [] [] Mz Mz := zFc.rf
  have hO_ := gTabs_ok T_ hT_
  have hG_ := hO_.1
  have hn24_ := hG_.2.1
  have hn1_ := hG_.1
  have hfl_ := p1_.1
  obtain ⟨⟨hF1_, hF27_⟩, hAr_⟩ := id (gT_zTA hT_)
  refine zw_aload_n (pc := 0) (n := 0) (x := (d_ + 12)) rfl (zdal_p dlB_Sorts_normSize_112 (i := 0) rfl) ?_
  refine zw_getF (pc := 1) f_Sorts_32 rfl ((hf.w hW).kr (o := 12) (by decide)) ((hf.w hW).lr (o := 12) (s := 0) (r := 1) (by decide)) (zdal_p dlB_Sorts_normSize_112 (i := 1) rfl) ?_
  refine zw_aload_n (pc := 4) (n := 0) (x := (d_ + 12)) rfl (zdal_p dlB_Sorts_normSize_112 (i := 2) rfl) ?_
  refine zw_getF (pc := 5) f_Sorts_26 rfl ((hf.w hW).kr (o := 12) (by decide)) ((hf.w hW).lr (o := 12) (s := 4) (r := 19) (by decide)) (zdal_p dlB_Sorts_normSize_112 (i := 3) rfl) ?_
  refine zw_iload_n (pc := 8) (n := 1) (x := Int32.ofInt a0_) rfl (zdal_p dlB_Sorts_normSize_112 (i := 4) rfl) ?_
  refine zk_at hf.x (pc := 9) l_Sorts_49 ((hf.w hW).kr (o := 19) (by decide)) ((hf.w hW).lr (o := 19) (s := 0) (r := 20) (by decide)) ((hf.w hW).rr (o := 20) (t := 1) (n := 27) (by decide)) (by decide) (by omega) (by omega) (by decide) (Nat.le_of_ble_eq_true rfl) (zdal_p dlB_Sorts_normSize_112 (i := 5) rfl) (fun v1_ hv1_ hv1_a hv1_b => ?_)
  have hfv_ := hv1_
  have hfw_ : v1_ = (((gFn T_ (a0_).toNat) : Nat) : Int) := hfv_.trans (p1_.2 _ (by omega))
  have hft_ : (v1_).toNat = (gFn T_ (a0_).toNat) := by omega
  have hfm0_ := gFn_m (T := T_) (i := (a0_).toNat) (by omega)
  have hfma_ := (hO_.2.2.1.2.1 _ hfm0_).1
  have hfb_ := gS_b hO_ hfma_
  refine zk_callV hf.x (pc := 12) [.int (Int32.ofInt v1_)] [] l_Sorts_102 (u_Group_normOfG l d_ Mz (hf.w hW) v1_ hv1_a hv1_b T_ hT_ p0_ (show 0 ≤ v1_ by first | with_reducible assumption | assumption | omega) (show (v1_).toNat < 2 ^ gN T_ by rw [hft_]; exact hfb_.1)) rfl rfl ((hf.w hW).kr (o := 1) (by decide)) (by decide) (by decide) (Nat.le_of_ble_eq_true rfl) (zdal_p dlB_Sorts_normSize_112 (i := 6) rfl) ?_
  rintro _ N2_ ⟨v3_, rfl, ⟨hv3_a, hv3_b⟩, hsN2_, ⟨hp0_N2_, hp1_N2_, hp2_N2_⟩⟩
  obtain rfl := hsN2_.eq.symm
  show zW l m_Sorts_normSize (zn Mz + 0, zw Mz + 0) Mz 15 [some (.ref (d_ + 12)), some (.int (Int32.ofInt a0_))] [.int (Int32.ofInt v3_)] _
  have hnm_ := hp0_N2_
  rw [hft_] at hnm_
  refine zr_callS hf.x (pc := 15) [.int (Int32.ofInt v3_)] [] l_Sorts_78 (u_Integer_bitCount l d_ Mz (hf.w hW) v3_ hv3_a hv3_b (show 0 ≤ v3_ by first | with_reducible assumption | assumption | omega)) rfl rfl (by decide) (Nat.le_of_ble_eq_true rfl) (zdal_p dlB_Sorts_normSize_112 (i := 7) rfl) ?_
  rintro _ N4_ ⟨v5_, rfl, ⟨hv5_a, hv5_b⟩, hsN4_, ⟨hp0_N4_, hp1_N4_, hp2_N4_⟩⟩
  obtain rfl := hsN4_.eq.symm
  show zW l m_Sorts_normSize (zn Mz + 0, zw Mz + 0) Mz 18 [some (.ref (d_ + 12)), some (.int (Int32.ofInt a0_))] [.int (Int32.ofInt v5_)] _
  have hb_ := hp0_N4_
  rw [hnm_, Int.toNat_natCast, kbc_g (Nat.lt_of_lt_of_le (zbq_lt _ _) (Nat.pow_le_pow_right (n := 2) (by decide) hn24_)), gcb_z _ (by omega)] at hb_
  exact zk_iret (pc := 18) (ty := .int) rfl rfl ⟨by omega, by omega⟩ hf (show v5_ = (((zct (fun g_ => gtr T_ (gFn T_ (a0_).toNat) g_ = (gFn T_ (a0_).toNat)) (gN T_)) : Nat) : Int) by exact hb_) (zdal_p dlB_Sorts_normSize_112 (i := 8) rfl)
set_option maxHeartbeats 4000000 in
theorem u_Sorts_sumOverNormS (l : Launch) (d_ : Nat) (Mz : zMem) (hW : zKW d_ Mz) (a0_ : Int) (ha0_a : -2147483648 ≤ a0_) (ha0_b : a0_ < 2147483648) (T_ : zGT) (hT_ : T_ ∈ gTabs) (hAs_ : gAs T_) (hGr_ : gGr T_) (p0_ : zTt T_ d_ Mz) (p1_ : zFir T_ d_ Mz) (p2_ : zSbK T_ d_ Mz) (p3_ : 0 ≤ a0_) (p4_ : a0_ < ((gF T_).length : Int)) : zC l m_Sorts_sumOverNorm 0 0 [.ref (d_ + 12), .int (Int32.ofInt a0_), .ref (d_ + 26)] Mz (zqcJ d_ [] [] [] [11] Mz (fun v N => Int64.ofInt v = Int64.ofInt (zsm (zni T_ (gFn T_ (a0_).toNat) (zcgF T_ (gFn T_ (a0_).toNat) (fun j_ => zg Mz (d_ + 27) j_))) (gN T_)))) := by
  refine zC_of (L0 := [some (.ref (d_ + 12)), some (.int (Int32.ofInt a0_)), some (.ref (d_ + 26)), none, none, none, none, none]) md_Sorts_sumOverNorm (Nat.le_of_ble_eq_true rfl) rfl ?_ zQ0
  have hf : zFc d_ [] [] [] [11] Mz Mz := zFc.rf
  have r_D1_7 := ze_r Mz (d_ + 1) 7
  have hO_ := gTabs_ok T_ hT_
  have hG_ := hO_.1
  have hn24_ := hG_.2.1
  have hn1_ := hG_.1
  have hsz_ := p0_.1
  have hfl_ := p1_.1
  obtain ⟨⟨hF1_, hF27_⟩, hAr_⟩ := id (gT_zTA hT_)
  refine zw_aload_n (pc := 0) (n := 0) (x := (d_ + 12)) rfl (zdal_p dlB_Sorts_sumOverNorm_113 (i := 0) rfl) ?_
  refine zw_getF (pc := 1) f_Sorts_26 rfl ((hf.w hW).kr (o := 12) (by decide)) ((hf.w hW).lr (o := 12) (s := 4) (r := 19) (by decide)) (zdal_p dlB_Sorts_sumOverNorm_113 (i := 1) rfl) ?_
  refine zw_iload_n (pc := 4) (n := 1) (x := Int32.ofInt a0_) rfl (zdal_p dlB_Sorts_sumOverNorm_113 (i := 2) rfl) ?_
  refine zk_at hf.x (pc := 5) l_Sorts_49 ((hf.w hW).kr (o := 19) (by decide)) ((hf.w hW).lr (o := 19) (s := 0) (r := 20) (by decide)) ((hf.w hW).rr (o := 20) (t := 1) (n := 27) (by decide)) (by decide) (by omega) (by omega) (by decide) (Nat.le_of_ble_eq_true rfl) (zdal_p dlB_Sorts_sumOverNorm_113 (i := 3) rfl) (fun v1_ hv1_ hv1_a hv1_b => ?_)
  have hfv_ := hv1_
  have hfw_ : v1_ = (((gFn T_ (a0_).toNat) : Nat) : Int) := hfv_.trans (p1_.2 _ (by omega))
  have hft_ : (v1_).toNat = (gFn T_ (a0_).toNat) := by omega
  have hfm0_ := gFn_m (T := T_) (i := (a0_).toNat) (by omega)
  have hfma_ := (hO_.2.2.1.2.1 _ hfm0_).1
  have hfb_ := gS_b hO_ hfma_
  refine zw_istore_n (pc := 8) (i := 3) (L2 := [some (.ref (d_ + 12)), some (.int (Int32.ofInt a0_)), some (.ref (d_ + 26)), some (.int (Int32.ofInt v1_)), none, none, none, none]) rfl (by decide) rfl (zdal_p dlB_Sorts_sumOverNorm_113 (i := 4) rfl) ?_
  refine zw_aload_n (pc := 9) (n := 0) (x := (d_ + 12)) rfl (zdal_p dlB_Sorts_sumOverNorm_113 (i := 5) rfl) ?_
  refine zw_getF (pc := 10) f_Sorts_32 rfl ((hf.w hW).kr (o := 12) (by decide)) ((hf.w hW).lr (o := 12) (s := 0) (r := 1) (by decide)) (zdal_p dlB_Sorts_sumOverNorm_113 (i := 6) rfl) ?_
  refine zw_iload_n (pc := 13) (n := 3) (x := Int32.ofInt v1_) rfl (zdal_p dlB_Sorts_sumOverNorm_113 (i := 7) rfl) ?_
  refine zk_callV hf.x (pc := 14) [.int (Int32.ofInt v1_)] [] l_Sorts_102 (u_Group_normOfG l d_ Mz (hf.w hW) v1_ hv1_a hv1_b T_ hT_ p0_ (show 0 ≤ v1_ by first | with_reducible assumption | assumption | omega) (show (v1_).toNat < 2 ^ gN T_ by rw [hft_]; exact hfb_.1)) rfl rfl ((hf.w hW).kr (o := 1) (by decide)) (by decide) (by decide) (Nat.le_of_ble_eq_true rfl) (zdal_p dlB_Sorts_sumOverNorm_113 (i := 8) rfl) ?_
  rintro _ N2_ ⟨v3_, rfl, ⟨hv3_a, hv3_b⟩, hsN2_, ⟨hp0_N2_, hp1_N2_, hp2_N2_⟩⟩
  obtain rfl := hsN2_.eq.symm
  show zW l m_Sorts_sumOverNorm (zn Mz + 0, zw Mz + 0) Mz 17 [some (.ref (d_ + 12)), some (.int (Int32.ofInt a0_)), some (.ref (d_ + 26)), some (.int (Int32.ofInt v1_)), none, none, none, none] [.int (Int32.ofInt v3_)] _
  have hnm_ := hp0_N2_
  rw [hft_] at hnm_
  refine zw_istore (pc := 17) (i := 4) (L2 := [some (.ref (d_ + 12)), some (.int (Int32.ofInt a0_)), some (.ref (d_ + 26)), some (.int (Int32.ofInt v1_)), some (.int (Int32.ofInt v3_)), none, none, none]) (by decide) rfl (zdal_p dlB_Sorts_sumOverNorm_113 (i := 9) rfl) ?_
  refine zw_lconst (pc := 19) (v := Int64.ofInt 0) (by decide) (zdal_p dlB_Sorts_sumOverNorm_113 (i := 10) rfl) ?_
  refine zw_lstore (pc := 20) (i := 5) (L2 := [some (.ref (d_ + 12)), some (.int (Int32.ofInt a0_)), some (.ref (d_ + 26)), some (.int (Int32.ofInt v1_)), some (.int (Int32.ofInt v3_)), some (.long (Int64.ofInt 0)), none, none]) (by decide) rfl (zdal_p dlB_Sorts_sumOverNorm_113 (i := 11) rfl) ?_
  refine zw_iconst (pc := 22) (v := Int32.ofInt 0) (by decide) (zdal_p dlB_Sorts_sumOverNorm_113 (i := 12) rfl) ?_
  refine zw_istore (pc := 23) (i := 7) (L2 := [some (.ref (d_ + 12)), some (.int (Int32.ofInt a0_)), some (.ref (d_ + 26)), some (.int (Int32.ofInt v1_)), some (.int (Int32.ofInt v3_)), some (.long (Int64.ofInt 0)), none, some (.int (Int32.ofInt 0))]) (by decide) rfl (zdal_p dlB_Sorts_sumOverNorm_113 (i := 13) rfl) ?_
  have lp_25 : ∀ (n : Nat) (u4_ : Int) (hu4_a : -9223372036854775808 ≤ u4_) (hu4_b : u4_ < 9223372036854775808) (u5_ : Int) (hu5_a : -2147483648 ≤ u5_) (hu5_b : u5_ < 2147483648) (N6_ : zMem) (hs7_ : zFc d_ [] [] [] [11] Mz N6_) (i8_ : 0 ≤ u5_) (i9_ : u5_ ≤ gN T_) (i10_ : Int64.ofInt u4_ = Int64.ofInt (zsm (zni T_ (gFn T_ (a0_).toNat) (zcgF T_ (gFn T_ (a0_).toNat) (fun j_ => zg Mz (d_ + 27) j_))) (u5_).toNat)), (gN T_ - u5_).toNat < n → zW l m_Sorts_sumOverNorm (zn Mz + 0, zw Mz + 0) N6_ 25 [some (.ref (d_ + 12)), some (.int (Int32.ofInt a0_)), some (.ref (d_ + 26)), some (.int (Int32.ofInt v1_)), some (.int (Int32.ofInt v3_)), some (.long (Int64.ofInt u4_)), none, some (.int (Int32.ofInt u5_))] [] (zqcJ d_ [] [] [] [11] Mz (fun v N => Int64.ofInt v = Int64.ofInt (zsm (zni T_ (gFn T_ (a0_).toNat) (zcgF T_ (gFn T_ (a0_).toNat) (fun j_ => zg Mz (d_ + 27) j_))) (gN T_)))) := by
    intro n
    induction n with
    | zero =>
      intro u4_ hu4_a hu4_b u5_ hu5_a hu5_b N6_ hs7_ i8_ i9_ i10_ h0
      exact absurd h0 (Nat.not_lt_zero _)
    | succ n ih_25 =>
      intro u4_ hu4_a hu4_b u5_ hu5_a hu5_b N6_ hs7_ i8_ i9_ i10_ hlt_25
      have hf_N6_ : zFc d_ [] [] [] [11] Mz N6_ := hf.tr hs7_ (by decide) (by decide) (by decide) (by decide)
      have eD1_7_N6_ : ze N6_ (d_ + 1) 7 = ze Mz (d_ + 1) 7 := hs7_.e (by decide)
      have c11_ : zTt T_ d_ N6_ := zTt.fr (hf.w hW) hs7_ p0_ (by decide)
      have c12_ : zFir T_ d_ N6_ := zFir.fr (hf.w hW) hs7_ p1_ (by decide)
      have c13_ : zSbK T_ d_ N6_ := zSbK.fr (hf.w hW) hs7_ p2_ (by decide)
      have hsi_ := (show Int64.ofInt u4_ = Int64.ofInt (zsm (zni T_ (gFn T_ (a0_).toNat) (zcgF T_ (gFn T_ (a0_).toNat) (fun j_ => zg Mz (d_ + 27) j_))) (u5_).toNat) by first | with_reducible assumption | assumption)
      refine zw_iload (pc := 25) (i := 7) (x := Int32.ofInt u5_) rfl (zdal_p dlB_Sorts_sumOverNorm_113 (i := 14) rfl) ?_
      refine zw_aload_n (pc := 27) (n := 0) (x := (d_ + 12)) rfl (zdal_p dlB_Sorts_sumOverNorm_113 (i := 15) rfl) ?_
      refine zw_getF (pc := 28) f_Sorts_32 rfl ((hf_N6_.w hW).kr (o := 12) (by decide)) ((hf_N6_.w hW).lr (o := 12) (s := 0) (r := 1) (by decide)) (zdal_p dlB_Sorts_sumOverNorm_113 (i := 16) rfl) ?_
      refine zk_getI (pc := 31) f_Sorts_44 rfl ((hf_N6_.w hW).kr (o := 1) (by decide)) (zdal_p dlB_Sorts_sumOverNorm_113 (i := 17) rfl) ?_
      rw [hf_N6_.e (by decide)]
      refine zr_icmp_ge (pc := 34) (tgt := 72) ⟨hu5_a, hu5_b⟩ ⟨(ze_r Mz (d_ + 1) 7).1, (ze_r Mz (d_ + 1) 7).2⟩ (by decide) (zdal_p dlB_Sorts_sumOverNorm_113 (i := 18) rfl) (fun hc_34 => ?_) (fun hc_34 => ?_)
      · skip
        refine zw_lload (pc := 72) (i := 5) (x := Int64.ofInt u4_) rfl (zdal_p dlB_Sorts_sumOverNorm_114 (i := 13) rfl) ?_
        exact zk_lret (pc := 74) rfl ⟨by omega, by omega⟩ hf_N6_ (show Int64.ofInt u4_ = Int64.ofInt (zsm (zni T_ (gFn T_ (a0_).toNat) (zcgF T_ (gFn T_ (a0_).toNat) (fun j_ => zg Mz (d_ + 27) j_))) (gN T_)) by have h_ := hsi_; rw [show (u5_).toNat = gN T_ by omega] at h_; exact h_) (zdal_p dlB_Sorts_sumOverNorm_114 (i := 14) rfl)
      · skip
        refine zw_iload (pc := 37) (i := 4) (x := Int32.ofInt v3_) rfl (zdal_p dlB_Sorts_sumOverNorm_113 (i := 19) rfl) ?_
        refine zw_iload (pc := 39) (i := 7) (x := Int32.ofInt u5_) rfl (zdal_p dlB_Sorts_sumOverNorm_113 (i := 20) rfl) ?_
        refine zr_callS hf_N6_.x (pc := 41) [.int (Int32.ofInt v3_), .int (Int32.ofInt u5_)] [] l_Sorts_53 (u_T_isIn l d_ N6_ (hf_N6_.w hW) v3_ hv3_a hv3_b u5_ hu5_a hu5_b (show 0 ≤ v3_ by first | with_reducible assumption | assumption | omega) (show v3_ < 2147483648 by first | with_reducible assumption | assumption | omega) (show 0 ≤ u5_ by first | with_reducible assumption | assumption | omega) (show u5_ < 31 by first | with_reducible assumption | assumption | omega)) rfl rfl (by decide) (Nat.le_of_ble_eq_true rfl) (zdal_p dlB_Sorts_sumOverNorm_113 (i := 21) rfl) ?_
        rintro _ N14_ ⟨v15_, rfl, ⟨hv15_a, hv15_b⟩, hsN14_, hp0_N14_⟩
        obtain rfl := hsN14_.eq.symm
        replace hp0_N14_ : ((v15_ = 1 ∧ zbt v3_ u5_) ∨ (v15_ = 0 ∧ ¬ zbt v3_ u5_)) := hp0_N14_
        rcases hp0_N14_ with ⟨rfl, ha41_0_hp0_N14_⟩ | ⟨rfl, ha41_0_hp0_N14_⟩
        · skip
          have hin_ := ha41_0_hp0_N14_
          have hgn_ : gtr T_ (gFn T_ (a0_).toNat) (u5_).toNat = (gFn T_ (a0_).toNat) := (norm_in hnm_ (by omega)).mp hin_
          show zW l m_Sorts_sumOverNorm (zn Mz + 0, zw Mz + 0) N6_ 44 [some (.ref (d_ + 12)), some (.int (Int32.ofInt a0_)), some (.ref (d_ + 26)), some (.int (Int32.ofInt v1_)), some (.int (Int32.ofInt v3_)), some (.long (Int64.ofInt u4_)), none, some (.int (Int32.ofInt u5_))] [.int (Int32.ofInt 1)] _
          refine zr_if_eq (pc := 44) (tgt := 66) ⟨(by decide), (by decide)⟩ (by decide) (zdal_p dlB_Sorts_sumOverNorm_113 (i := 22) rfl) (fun hc_44 => ?_) (fun hc_44 => ?_)
          · skip
            exact absurd hc_44 (by decide)
          · skip
            refine zw_lload (pc := 47) (i := 5) (x := Int64.ofInt u4_) rfl (zdal_p dlB_Sorts_sumOverNorm_113 (i := 23) rfl) ?_
            refine zw_aload_n (pc := 49) (n := 2) (x := (d_ + 26)) rfl (zdal_p dlB_Sorts_sumOverNorm_114 (i := 0) rfl) ?_
            refine zw_aload_n (pc := 50) (n := 0) (x := (d_ + 12)) rfl (zdal_p dlB_Sorts_sumOverNorm_114 (i := 1) rfl) ?_
            refine zw_iload_n (pc := 51) (n := 3) (x := Int32.ofInt v1_) rfl (zdal_p dlB_Sorts_sumOverNorm_114 (i := 2) rfl) ?_
            refine zw_iconst (pc := 52) (v := Int32.ofInt 1) (by decide) (zdal_p dlB_Sorts_sumOverNorm_114 (i := 3) rfl) ?_
            refine zw_iload (pc := 53) (i := 7) (x := Int32.ofInt u5_) rfl (zdal_p dlB_Sorts_sumOverNorm_114 (i := 4) rfl) ?_
            refine zr_ishl (pc := 55) (zdal_p dlB_Sorts_sumOverNorm_114 (i := 5) rfl) ?_
            have hr16_ := zshl_r 1 u5_
            refine zr_ior (pc := 56) (zdal_p dlB_Sorts_sumOverNorm_114 (i := 6) rfl) ?_
            have hr17_ := zor_r v1_ (zshl 1 u5_)
            have hor_ := norm_or (T := T_) (H := (gFn T_ (a0_).toNat)) (g := u5_) hfw_ hfb_.2.1 (by omega) (by omega)
            refine zk_callV hf_N6_.x (pc := 57) [.int (Int32.ofInt (zor v1_ (zshl 1 u5_)))] [.ref (d_ + 26), .long (Int64.ofInt u4_)] l_Sorts_112 (u_Sorts_spannedSortG l d_ N6_ (hf_N6_.w hW) (zor v1_ (zshl 1 u5_)) (by omega) (by omega) T_ hT_ hAs_ c11_ c13_ (show 0 ≤ (zor v1_ (zshl 1 u5_)) by exact zor_p (by omega) (by omega) (zsh_0 (by omega) (by omega)) (zshl_r 1 u5_).2) (show ((zor v1_ (zshl 1 u5_))).toNat < 2 ^ gN T_ by rw [hor_]; exact Nat.or_lt_two_pow hfb_.1 (Nat.pow_lt_pow_right (by decide) (by omega)))) rfl rfl ((hf_N6_.w hW).kr (o := 12) (by decide)) (by decide) (by decide) (Nat.le_of_ble_eq_true rfl) (zdal_p dlB_Sorts_sumOverNorm_114 (i := 7) rfl) ?_
            rintro _ N18_ ⟨v19_, rfl, ⟨hv19_a, hv19_b⟩, hsN18_, hp0_N18_⟩
            replace hp0_N18_ : (∃ R_ : Nat, gLC T_ ((zor v1_ (zshl 1 u5_))).toNat R_ ∧ zSrt T_ R_ v19_) := hp0_N18_
            have hf_N18_ : zFc d_ [] [] [] [11] Mz N18_ := hf_N6_.tr hsN18_ (by decide) (by decide) (by decide) (by decide)
            have hb0_N18_ : zFc d_ [] [] [] [11] Mz N18_ := hs7_.tr hsN18_ (by decide) (by decide) (by decide) (by decide)
            have eD1_7_N18_ : ze N18_ (d_ + 1) 7 = ze N6_ (d_ + 1) 7 := hsN18_.e (by decide)
            have c20_ : zTt T_ d_ N18_ := zTt.fr (hf_N6_.w hW) hsN18_ c11_ (by decide)
            have c21_ : zFir T_ d_ N18_ := zFir.fr (hf_N6_.w hW) hsN18_ c12_ (by decide)
            have c22_ : zSbK T_ d_ N18_ := zSbK.fr (hf_N6_.w hW) hsN18_ c13_ (by decide)
            show zW l m_Sorts_sumOverNorm (zn Mz + 0, zw Mz + 0) N18_ 60 [some (.ref (d_ + 12)), some (.int (Int32.ofInt a0_)), some (.ref (d_ + 26)), some (.int (Int32.ofInt v1_)), some (.int (Int32.ofInt v3_)), some (.long (Int64.ofInt u4_)), none, some (.int (Int32.ofInt u5_))] [.int (Int32.ofInt v19_), .ref (d_ + 26), .long (Int64.ofInt u4_)] _
            obtain ⟨R_, hlc_, hso_⟩ := hp0_N18_
            rw [hor_] at hlc_
            have hgs_ := gsr_u hO_ hlc_ hso_
            have hgl_ := gsr_lt hT_ ((gFn T_ (a0_).toNat) ||| 2 ^ (u5_).toNat)
            refine zk_atJ hf_N18_.x (pc := 60) l_Sorts_115 ((hf_N18_.w hW).kr (o := 26) (by decide)) ((hf_N18_.w hW).lr (o := 26) (s := 0) (r := 27) (by decide)) ((hf_N18_.w hW).rr (o := 27) (t := 2) (n := 27) (by decide)) (by decide) (by omega) (by omega) (by decide) (Nat.le_of_ble_eq_true rfl) (zdal_p dlB_Sorts_sumOverNorm_114 (i := 8) rfl) (fun v23_ hv23_ hv23_a hv23_b => ?_)
            rw [hf_N18_.rg (by decide)] at hv23_
            have hx_ := hv23_
            rw [hgs_, Int.toNat_natCast] at hx_
            refine zr_ladd (pc := 63) (zdal_p dlB_Sorts_sumOverNorm_114 (i := 9) rfl) ?_
            refine zk_nmJ (fun v24_ hv24_ hv24_e => ?_)
            obtain ⟨hv24_a, hv24_b⟩ := hv24_
            have hsn_ := zsm_s64 (f := zni T_ (gFn T_ (a0_).toNat) (zcgF T_ (gFn T_ (a0_).toNat) (fun j_ => zg Mz (d_ + 27) j_))) hsi_ hv24_e (hx_.trans (zif_t hgn_).symm) (by omega)
            refine zw_lstore (pc := 64) (i := 5) (L2 := [some (.ref (d_ + 12)), some (.int (Int32.ofInt a0_)), some (.ref (d_ + 26)), some (.int (Int32.ofInt v1_)), some (.int (Int32.ofInt v3_)), some (.long (Int64.ofInt v24_)), none, some (.int (Int32.ofInt u5_))]) (by decide) rfl (zdal_p dlB_Sorts_sumOverNorm_114 (i := 10) rfl) ?_
            refine zr_iinc (pc := 66) (i := 7) (a := u5_) (n := 1) (L2 := [some (.ref (d_ + 12)), some (.int (Int32.ofInt a0_)), some (.ref (d_ + 26)), some (.int (Int32.ofInt v1_)), some (.int (Int32.ofInt v3_)), some (.long (Int64.ofInt v24_)), none, some (.int (Int32.ofInt (u5_ + 1)))]) rfl (by decide) rfl (zdal_p dlB_Sorts_sumOverNorm_114 (i := 11) rfl) ?_
            refine zw_goto (pc := 69) (tgt := 25) (by decide) (zdal_p dlB_Sorts_sumOverNorm_114 (i := 12) rfl) ?_
            have hsb_ : Int64.ofInt v24_ = Int64.ofInt (zsm (zni T_ (gFn T_ (a0_).toNat) (zcgF T_ (gFn T_ (a0_).toNat) (fun j_ => zg Mz (d_ + 27) j_))) ((u5_ + 1)).toNat) := by first | exact hsn_ | exact zsm_n64 hsi_ (zif_f hng_) (by omega)
            exact ih_25 v24_ hv24_a hv24_b (u5_ + 1) (by omega) (by omega) N18_ hb0_N18_ (show 0 ≤ (u5_ + 1) by first | with_reducible assumption | assumption | omega) (show (u5_ + 1) ≤ gN T_ by first | with_reducible assumption | assumption | omega) (show Int64.ofInt v24_ = Int64.ofInt (zsm (zni T_ (gFn T_ (a0_).toNat) (zcgF T_ (gFn T_ (a0_).toNat) (fun j_ => zg Mz (d_ + 27) j_))) ((u5_ + 1)).toNat) by exact hsb_) (by omega)
        · skip
          have hng_ : ¬ gtr T_ (gFn T_ (a0_).toNat) (u5_).toNat = (gFn T_ (a0_).toNat) := fun q_ => ha41_0_hp0_N14_ ((norm_in hnm_ (by omega)).mpr q_)
          show zW l m_Sorts_sumOverNorm (zn Mz + 0, zw Mz + 0) N6_ 44 [some (.ref (d_ + 12)), some (.int (Int32.ofInt a0_)), some (.ref (d_ + 26)), some (.int (Int32.ofInt v1_)), some (.int (Int32.ofInt v3_)), some (.long (Int64.ofInt u4_)), none, some (.int (Int32.ofInt u5_))] [.int (Int32.ofInt 0)] _
          refine zr_if_eq (pc := 44) (tgt := 66) ⟨(by decide), (by decide)⟩ (by decide) (zdal_p dlB_Sorts_sumOverNorm_113 (i := 22) rfl) (fun hc_44 => ?_) (fun hc_44 => ?_)
          · skip
            refine zr_iinc (pc := 66) (i := 7) (a := u5_) (n := 1) (L2 := [some (.ref (d_ + 12)), some (.int (Int32.ofInt a0_)), some (.ref (d_ + 26)), some (.int (Int32.ofInt v1_)), some (.int (Int32.ofInt v3_)), some (.long (Int64.ofInt u4_)), none, some (.int (Int32.ofInt (u5_ + 1)))]) rfl (by decide) rfl (zdal_p dlB_Sorts_sumOverNorm_114 (i := 11) rfl) ?_
            refine zw_goto (pc := 69) (tgt := 25) (by decide) (zdal_p dlB_Sorts_sumOverNorm_114 (i := 12) rfl) ?_
            have hsb_ : Int64.ofInt u4_ = Int64.ofInt (zsm (zni T_ (gFn T_ (a0_).toNat) (zcgF T_ (gFn T_ (a0_).toNat) (fun j_ => zg Mz (d_ + 27) j_))) ((u5_ + 1)).toNat) := by first | exact hsn_ | exact zsm_n64 hsi_ (zif_f hng_) (by omega)
            exact ih_25 u4_ hu4_a hu4_b (u5_ + 1) (by omega) (by omega) N6_ hs7_ (show 0 ≤ (u5_ + 1) by first | with_reducible assumption | assumption | omega) (show (u5_ + 1) ≤ gN T_ by first | with_reducible assumption | assumption | omega) (show Int64.ofInt u4_ = Int64.ofInt (zsm (zni T_ (gFn T_ (a0_).toNat) (zcgF T_ (gFn T_ (a0_).toNat) (fun j_ => zg Mz (d_ + 27) j_))) ((u5_ + 1)).toNat) by exact hsb_) (by omega)
          · skip
            exact absurd hc_44 (by decide)
  exact lp_25 _ 0 (by decide) (by decide) 0 (by decide) (by decide) Mz zFc.rf (show 0 ≤ (0 : Int) by first | with_reducible assumption | assumption | omega) (show (0 : Int) ≤ gN T_ by first | with_reducible assumption | assumption | omega) (show Int64.ofInt (0 : Int) = Int64.ofInt (zsm (zni T_ (gFn T_ (a0_).toNat) (zcgF T_ (gFn T_ (a0_).toNat) (fun j_ => zg Mz (d_ + 27) j_))) ((0 : Int)).toNat) by rfl) (Nat.lt_succ_self _)
set_option maxHeartbeats 4000000 in
theorem u_Sorts_firstIncongruentS (l : Launch) (d_ : Nat) (Mz : zMem) (hW : zKW d_ Mz) (T_ : zGT) (hT_ : T_ ∈ gTabs) (hAs_ : gAs T_) (hGr_ : gGr T_) (p0_ : zTt T_ d_ Mz) (p1_ : zFir T_ d_ Mz) (p2_ : zSbK T_ d_ Mz) (p3_ : (∀ j : Nat, j < (gF T_).length → -1000000 ≤ zg Mz (d_ + 27) j ∧ zg Mz (d_ + 27) j ≤ 1000000)) : zC l m_Sorts_firstIncongruent 0 0 [.ref (d_ + 12), .ref (d_ + 26)] Mz (zqcI d_ [] [] [] [11] Mz (fun v N => zMkO T_ (fun j_ => zg Mz (d_ + 27) j_) (v + 1) ∧ -1 ≤ v ∧ v < 1000)) := by
  refine zC_of (L0 := [some (.ref (d_ + 12)), some (.ref (d_ + 26)), none, none]) md_Sorts_firstIncongruent (Nat.le_of_ble_eq_true rfl) rfl ?_ zQ0
  have hf : zFc d_ [] [] [] [11] Mz Mz := zFc.rf
  have r_D12_7 := ze_r Mz (d_ + 12) 7
  have hO_ := gTabs_ok T_ hT_
  have hG_ := hO_.1
  have hn24_ := hG_.2.1
  have hn1_ := hG_.1
  have hfl_ := p1_.1
  obtain ⟨⟨hF1_, hF27_⟩, hAr_⟩ := id (gT_zTA hT_)
  have hab_ : ∀ j_ : Nat, j_ < (gF T_).length → (zg Mz (d_ + 27) j_).natAbs ≤ 1000000 := fun j_ hj_ => by have h_ := p3_ j_ hj_; omega
  refine zw_iconst (pc := 0) (v := Int32.ofInt 0) (by decide) (zdal_p dlB_Sorts_firstIncongruent_141 (i := 0) rfl) ?_
  refine zw_istore_n (pc := 1) (i := 2) (L2 := [some (.ref (d_ + 12)), some (.ref (d_ + 26)), some (.int (Int32.ofInt 0)), none]) rfl (by decide) rfl (zdal_p dlB_Sorts_firstIncongruent_141 (i := 1) rfl) ?_
  have lp_2 : ∀ (n : Nat) (u1_ : Int) (hu1_a : -2147483648 ≤ u1_) (hu1_b : u1_ < 2147483648) (N2_ : zMem) (hs3_ : zFc d_ [] [] [] [11] Mz N2_) (i4_ : 0 ≤ u1_) (i5_ : u1_ ≤ ((gF T_).length : Int)) (i6_ : (∀ i : Nat, (i : Int) < u1_ → zCgr T_ (gFn T_ i) (fun j_ => zg Mz (d_ + 27) j_))), (((gF T_).length : Int) - u1_).toNat < n → zW l m_Sorts_firstIncongruent (zn Mz + 0, zw Mz + 0) N2_ 2 [some (.ref (d_ + 12)), some (.ref (d_ + 26)), some (.int (Int32.ofInt u1_)), none] [] (zqcI d_ [] [] [] [11] Mz (fun v N => zMkO T_ (fun j_ => zg Mz (d_ + 27) j_) (v + 1) ∧ -1 ≤ v ∧ v < 1000)) := by
    intro n
    induction n with
    | zero =>
      intro u1_ hu1_a hu1_b N2_ hs3_ i4_ i5_ i6_ h0
      exact absurd h0 (Nat.not_lt_zero _)
    | succ n ih_2 =>
      intro u1_ hu1_a hu1_b N2_ hs3_ i4_ i5_ i6_ hlt_2
      have hf_N2_ : zFc d_ [] [] [] [11] Mz N2_ := hf.tr hs3_ (by decide) (by decide) (by decide) (by decide)
      have eD12_7_N2_ : ze N2_ (d_ + 12) 7 = ze Mz (d_ + 12) 7 := hs3_.e (by decide)
      have c7_ : zTt T_ d_ N2_ := zTt.fr (hf.w hW) hs3_ p0_ (by decide)
      have c8_ : zFir T_ d_ N2_ := zFir.fr (hf.w hW) hs3_ p1_ (by decide)
      have c9_ : zSbK T_ d_ N2_ := zSbK.fr (hf.w hW) hs3_ p2_ (by decide)
      have hcj_ := (show (∀ i : Nat, (i : Int) < u1_ → zCgr T_ (gFn T_ i) (fun j_ => zg Mz (d_ + 27) j_)) by first | with_reducible assumption | assumption)
      refine zw_iload_n (pc := 2) (n := 2) (x := Int32.ofInt u1_) rfl (zdal_p dlB_Sorts_firstIncongruent_141 (i := 2) rfl) ?_
      refine zw_aload_n (pc := 3) (n := 0) (x := (d_ + 12)) rfl (zdal_p dlB_Sorts_firstIncongruent_141 (i := 3) rfl) ?_
      refine zk_getI (pc := 4) f_Sorts_83 rfl ((hf_N2_.w hW).kr (o := 12) (by decide)) (zdal_p dlB_Sorts_firstIncongruent_141 (i := 4) rfl) ?_
      rw [hf_N2_.e (by decide)]
      refine zr_icmp_ge (pc := 7) (tgt := 42) ⟨hu1_a, hu1_b⟩ ⟨(ze_r Mz (d_ + 12) 7).1, (ze_r Mz (d_ + 12) 7).2⟩ (by decide) (zdal_p dlB_Sorts_firstIncongruent_141 (i := 5) rfl) (fun hc_7 => ?_) (fun hc_7 => ?_)
      · skip
        refine zw_iconst (pc := 42) (v := Int32.ofInt (-1)) (by decide) (zdal_p dlB_Sorts_firstIncongruent_142 (i := 2) rfl) ?_
        exact zk_iret (pc := 43) (ty := .int) rfl rfl ⟨by omega, by omega⟩ hf_N2_ ⟨(show zMkO T_ (fun j_ => zg Mz (d_ + 27) j_) (((-1)) + 1) by exact Or.inl ⟨rfl, fun i_ hi_ => hcj_ i_ (by omega)⟩), (show -1 ≤ ((-1)) by first | with_reducible assumption | assumption | omega), (show ((-1)) < 1000 by first | with_reducible assumption | assumption | omega)⟩ (zdal_p dlB_Sorts_firstIncongruent_142 (i := 3) rfl)
      · skip
        refine zw_aload_n (pc := 10) (n := 0) (x := (d_ + 12)) rfl (zdal_p dlB_Sorts_firstIncongruent_141 (i := 6) rfl) ?_
        refine zw_iload_n (pc := 11) (n := 2) (x := Int32.ofInt u1_) rfl (zdal_p dlB_Sorts_firstIncongruent_141 (i := 7) rfl) ?_
        refine zk_callV hf_N2_.x (pc := 12) [.int (Int32.ofInt u1_)] [] l_Sorts_120 (u_Sorts_normSizeS l d_ N2_ (hf_N2_.w hW) u1_ hu1_a hu1_b T_ hT_ c7_ c8_ (show 0 ≤ u1_ by first | with_reducible assumption | assumption | omega) (show u1_ < ((gF T_).length : Int) by first | with_reducible assumption | assumption | omega)) rfl rfl ((hf_N2_.w hW).kr (o := 12) (by decide)) (by decide) (by decide) (Nat.le_of_ble_eq_true rfl) (zdal_p dlB_Sorts_firstIncongruent_141 (i := 8) rfl) ?_
        rintro _ N10_ ⟨v11_, rfl, ⟨hv11_a, hv11_b⟩, hsN10_, hp0_N10_⟩
        obtain rfl := hsN10_.eq.symm
        replace hp0_N10_ : v11_ = (((zct (fun g_ => gtr T_ (gFn T_ (u1_).toNat) g_ = (gFn T_ (u1_).toNat)) (gN T_)) : Nat) : Int) := hp0_N10_
        show zW l m_Sorts_firstIncongruent (zn Mz + 0, zw Mz + 0) N2_ 15 [some (.ref (d_ + 12)), some (.ref (d_ + 26)), some (.int (Int32.ofInt u1_)), none] [.int (Int32.ofInt v11_)] _
        have hns_ := hp0_N10_
        have hfm_ := gFn_m (T := T_) (i := (u1_).toNat) (by omega)
        have hnp_ := nrm_p hT_ hfm_
        have hnb_ := zct_b (fun g_ => gtr T_ (gFn T_ (u1_).toNat) g_ = (gFn T_ (u1_).toNat)) (gN T_)
        refine zw_istore_n (pc := 15) (i := 3) (L2 := [some (.ref (d_ + 12)), some (.ref (d_ + 26)), some (.int (Int32.ofInt u1_)), some (.int (Int32.ofInt v11_))]) rfl (by decide) rfl (zdal_p dlB_Sorts_firstIncongruent_141 (i := 9) rfl) ?_
        refine zw_iload_n (pc := 16) (n := 3) (x := Int32.ofInt v11_) rfl (zdal_p dlB_Sorts_firstIncongruent_141 (i := 10) rfl) ?_
        refine zr_if_le (pc := 17) (tgt := 36) ⟨hv11_a, hv11_b⟩ (by decide) (zdal_p dlB_Sorts_firstIncongruent_141 (i := 11) rfl) (fun hc_17 => ?_) (fun hc_17 => ?_)
        · skip
          refine zr_iinc (pc := 36) (i := 2) (a := u1_) (n := 1) (L2 := [some (.ref (d_ + 12)), some (.ref (d_ + 26)), some (.int (Int32.ofInt (u1_ + 1))), some (.int (Int32.ofInt v11_))]) rfl (by decide) rfl (zdal_p dlB_Sorts_firstIncongruent_142 (i := 0) rfl) ?_
          refine zw_goto (pc := 39) (tgt := 2) (by decide) (zdal_p dlB_Sorts_firstIncongruent_142 (i := 1) rfl) ?_
          refine zW_le [some (.ref (d_ + 12)), some (.ref (d_ + 26)), some (.int (Int32.ofInt (u1_ + 1))), none] (⟨rfl, rfl, rfl, trivial⟩) ?_
          exact ih_2 (u1_ + 1) (by omega) (by omega) N2_ hs3_ (show 0 ≤ (u1_ + 1) by first | with_reducible assumption | assumption | omega) (show (u1_ + 1) ≤ ((gF T_).length : Int) by first | with_reducible assumption | assumption | omega) (show (∀ i : Nat, (i : Int) < (u1_ + 1) → zCgr T_ (gFn T_ i) (fun j_ => zg Mz (d_ + 27) j_)) by first | exact hcn_ (by omega) | (exfalso; omega)) (by omega)
        · skip
          refine zw_aload_n (pc := 20) (n := 0) (x := (d_ + 12)) rfl (zdal_p dlB_Sorts_firstIncongruent_141 (i := 12) rfl) ?_
          refine zw_iload_n (pc := 21) (n := 2) (x := Int32.ofInt u1_) rfl (zdal_p dlB_Sorts_firstIncongruent_141 (i := 13) rfl) ?_
          refine zw_aload_n (pc := 22) (n := 1) (x := (d_ + 26)) rfl (zdal_p dlB_Sorts_firstIncongruent_141 (i := 14) rfl) ?_
          have hfr27_ : ∀ j_ : Nat, zg N2_ (d_ + 27) j_ = zg Mz (d_ + 27) j_ := fun j_ => hf_N2_.rg (by decide) j_
          refine zk_callV hf_N2_.x (pc := 23) [.int (Int32.ofInt u1_), .ref (d_ + 26)] [] l_Sorts_123 (u_Sorts_sumOverNormS l d_ N2_ (hf_N2_.w hW) u1_ hu1_a hu1_b T_ hT_ hAs_ hGr_ c7_ c8_ c9_ (show 0 ≤ u1_ by first | with_reducible assumption | assumption | omega) (show u1_ < ((gF T_).length : Int) by first | with_reducible assumption | assumption | omega)) rfl rfl ((hf_N2_.w hW).kr (o := 12) (by decide)) (by decide) (by decide) (Nat.le_of_ble_eq_true rfl) (zdal_p dlB_Sorts_firstIncongruent_141 (i := 15) rfl) ?_
          rintro _ N12_ ⟨v13_, rfl, ⟨hv13_a, hv13_b⟩, hsN12_, hp0_N12_⟩
          replace hp0_N12_ : Int64.ofInt v13_ = Int64.ofInt (zsm (zni T_ (gFn T_ (u1_).toNat) (zcgF T_ (gFn T_ (u1_).toNat) (fun j_ => zg N2_ (d_ + 27) j_))) (gN T_)) := hp0_N12_
          have hf_N12_ : zFc d_ [] [] [] [11] Mz N12_ := hf_N2_.tr hsN12_ (by decide) (by decide) (by decide) (by decide)
          have hb0_N12_ : zFc d_ [] [] [] [11] Mz N12_ := hs3_.tr hsN12_ (by decide) (by decide) (by decide) (by decide)
          have eD12_7_N12_ : ze N12_ (d_ + 12) 7 = ze N2_ (d_ + 12) 7 := hsN12_.e (by decide)
          have c14_ : zTt T_ d_ N12_ := zTt.fr (hf_N2_.w hW) hsN12_ c7_ (by decide)
          have c15_ : zFir T_ d_ N12_ := zFir.fr (hf_N2_.w hW) hsN12_ c8_ (by decide)
          have c16_ : zSbK T_ d_ N12_ := zSbK.fr (hf_N2_.w hW) hsN12_ c9_ (by decide)
          show zW l m_Sorts_firstIncongruent (zn Mz + 0, zw Mz + 0) N12_ 26 [some (.ref (d_ + 12)), some (.ref (d_ + 26)), some (.int (Int32.ofInt u1_)), some (.int (Int32.ofInt v11_))] [.long (Int64.ofInt v13_)] _
          have hps_ := hp0_N12_
          simp only [hfr27_] at hps_
          have hsb_ := zni_sb hT_ (H := (gFn T_ (u1_).toNat)) (f := (fun j_ => zg Mz (d_ + 27) j_)) (n := gN T_) hn24_ hab_
          have hve_ := z64q ⟨by omega, by omega⟩ ⟨by omega, by omega⟩ hps_
          have hcd_ := zcg_d (f := (fun j_ => zg Mz (d_ + 27) j_)) hT_ hGr_ hfm_
          have hlr_ := zlrem_d (a := v13_) (b := v11_) (by omega) (by omega) (by omega) (by omega)
          rw [hve_, hns_] at hlr_
          have hlq_ := hlr_.trans hcd_
          rw [← hve_, ← hns_] at hlq_
          have hcn_ : zlrem v13_ v11_ = 0 → ∀ i : Nat, (i : Int) < u1_ + 1 → zCgr T_ (gFn T_ i) (fun j_ => zg Mz (d_ + 27) j_) := fun z_ i_ hi_ => by by_cases g_ : (i_ : Int) < u1_; exact hcj_ i_ g_; (rw [show i_ = (u1_).toNat by omega]; exact hlq_.mp z_)
          have hno2_ : zlrem v13_ v11_ ≠ 0 → zMkO T_ (fun j_ => zg Mz (d_ + 27) j_) (u1_ + 1) := fun z_ => Or.inr ⟨(u1_).toNat, by omega, by omega, fun q_ => z_ (hlq_.mpr q_), fun i_ hi_ => hcj_ i_ (by omega)⟩
          refine zw_iload_n (pc := 26) (n := 3) (x := Int32.ofInt v11_) rfl (zdal_p dlB_Sorts_firstIncongruent_141 (i := 16) rfl) ?_
          refine zr_i2l (pc := 27) ⟨hv11_a, hv11_b⟩ (zdal_p dlB_Sorts_firstIncongruent_141 (i := 17) rfl) ?_
          refine zr_lrem (pc := 28) ⟨by omega, by omega⟩ (by omega) (zdal_p dlB_Sorts_firstIncongruent_141 (i := 18) rfl) ?_
          have hr17_ := zlrem_r v13_ v11_
          refine zw_lconst (pc := 29) (v := Int64.ofInt 0) (by decide) (zdal_p dlB_Sorts_firstIncongruent_141 (i := 19) rfl) ?_
          refine zr_lcmp (pc := 30) ⟨(by omega), (by omega)⟩ ⟨(by decide), (by decide)⟩ (zdal_p dlB_Sorts_firstIncongruent_141 (i := 20) rfl) ?_
          have hr18_ := zcmp_s (zlrem v13_ v11_) 0
          refine zr_if_eq (pc := 31) (tgt := 36) ⟨(by omega), (by omega)⟩ (by decide) (zdal_p dlB_Sorts_firstIncongruent_141 (i := 21) rfl) (fun hc_31 => ?_) (fun hc_31 => ?_)
          · skip
            refine zr_iinc (pc := 36) (i := 2) (a := u1_) (n := 1) (L2 := [some (.ref (d_ + 12)), some (.ref (d_ + 26)), some (.int (Int32.ofInt (u1_ + 1))), some (.int (Int32.ofInt v11_))]) rfl (by decide) rfl (zdal_p dlB_Sorts_firstIncongruent_142 (i := 0) rfl) ?_
            refine zw_goto (pc := 39) (tgt := 2) (by decide) (zdal_p dlB_Sorts_firstIncongruent_142 (i := 1) rfl) ?_
            refine zW_le [some (.ref (d_ + 12)), some (.ref (d_ + 26)), some (.int (Int32.ofInt (u1_ + 1))), none] (⟨rfl, rfl, rfl, trivial⟩) ?_
            exact ih_2 (u1_ + 1) (by omega) (by omega) N12_ hb0_N12_ (show 0 ≤ (u1_ + 1) by first | with_reducible assumption | assumption | omega) (show (u1_ + 1) ≤ ((gF T_).length : Int) by first | with_reducible assumption | assumption | omega) (show (∀ i : Nat, (i : Int) < (u1_ + 1) → zCgr T_ (gFn T_ i) (fun j_ => zg Mz (d_ + 27) j_)) by first | exact hcn_ (by omega) | (exfalso; omega)) (by omega)
          · skip
            refine zw_iload_n (pc := 34) (n := 2) (x := Int32.ofInt u1_) rfl (zdal_p dlB_Sorts_firstIncongruent_141 (i := 22) rfl) ?_
            exact zk_iret (pc := 35) (ty := .int) rfl rfl ⟨by omega, by omega⟩ hf_N12_ ⟨(show zMkO T_ (fun j_ => zg Mz (d_ + 27) j_) (u1_ + 1) by exact hno2_ (by omega)), (show -1 ≤ u1_ by first | with_reducible assumption | assumption | omega), (show u1_ < 1000 by first | with_reducible assumption | assumption | omega)⟩ (zdal_p dlB_Sorts_firstIncongruent_141 (i := 23) rfl)
  exact lp_2 _ 0 (by decide) (by decide) Mz zFc.rf (show 0 ≤ (0 : Int) by first | with_reducible assumption | assumption | omega) (show (0 : Int) ≤ ((gF T_).length : Int) by first | with_reducible assumption | assumption | omega) (show (∀ i : Nat, (i : Int) < (0 : Int) → zCgr T_ (gFn T_ i) (fun j_ => zg Mz (d_ + 27) j_)) by exact fun i_ hi_ => absurd hi_ (by omega)) (Nat.lt_succ_self _)
set_option maxHeartbeats 4000000 in
theorem u_T_marksS (l : Launch) (d_ : Nat) (Mz : zMem) (hW : zKW d_ Mz) (hnow : zf Mz 0 2 = some (d_ + 0)) (b_ : Nat → Int) (n_ : Nat) (T_ : zGT) (hT_ : T_ ∈ gTabs) (hAs_ : gAs T_) (hGr_ : gGr T_) (s_ : zSg) (nm_ : List (Int × (Nat → Int))) (p0_ : zYb b_ n_ Mz) (p1_ : zTt T_ d_ Mz) (p2_ : zFir T_ d_ Mz) (p3_ : zSbK T_ d_ Mz) (p4_ : zKm (gF T_).length (gmkI T_) d_ Mz) (p5_ : zSK (gF T_).length s_ d_ Mz) (p6_ : zNm nm_ (gF T_).length (gmkI T_) d_ Mz) : zC l m_T_marks 0 0 [.ref 0] Mz (zqcI d_ [(1, 1)] [] [(0, 7), (0, 8)] [11, 25, 27] Mz (fun v N => ze N 1 1 = 0 ∧ (((v = -2 ∧ (¬ ∃ f_ : Nat → Int, zRown b_ n_ (gF T_).length f_) ∧ zSK (gF T_).length s_ d_ N) ∨ ∃ f_ : Nat → Int, zRown b_ n_ (gF T_).length f_ ∧ (∀ j : Nat, j < (gF T_).length → -1000000 ≤ f_ j ∧ f_ j ≤ 1000000) ∧ zMkO T_ f_ v ∧ ((v = 0 ∧ zSK (gF T_).length (zpush s_ (zsq (gF T_).length (gmkI T_) f_)) d_ N) ∨ (v ≠ 0 ∧ zSK (gF T_).length s_ d_ N)))) ∧ zNm nm_ (gF T_).length (gmkI T_) d_ N)) := by
  refine zC_of (L0 := [some (.ref 0), none, none]) md_T_marks (Nat.le_of_ble_eq_true rfl) rfl ?_ zQ0
  have hf : zFc d_ [(1, 1)] [] [(0, 7), (0, 8)] [11, 25, 27] Mz Mz := zFc.rf
  have r_A1_1 := ze_r Mz 1 1
  have r_D12_7 := ze_r Mz (d_ + 12) 7
  have hO_ := gTabs_ok T_ hT_
  have hG_ := hO_.1
  have hn24_ := hG_.2.1
  have hn1_ := hG_.1
  have hfl_ := p2_.1
  have hTA_ := gT_zTA hT_
  obtain ⟨⟨hF1_, hF27_⟩, hAr_⟩ := id hTA_
  obtain ⟨hFc_, hKt_⟩ := id p4_
  obtain ⟨⟨hs1_, hs2_⟩, ⟨hs3_, hs4_⟩, hs5_, hs6_⟩ := id p5_
  refine zw_aload_n (pc := 0) (n := 0) (x := 0) rfl (zdal_p dlB_T_marks_135 (i := 0) rfl) ?_
  refine zw_getF (pc := 1) f_T_21 rfl ((hf.w hW).ka (o := 0) (by decide)) ((hf.w hW).la (o := 0) (s := 1) (r := 4) (by decide)) (zdal_p dlB_T_marks_135 (i := 1) rfl) ?_
  refine zw_aload_n (pc := 4) (n := 0) (x := 0) rfl (zdal_p dlB_T_marks_135 (i := 2) rfl) ?_
  refine zw_getF (pc := 5) f_T_28 rfl ((hf.w hW).ka (o := 0) (by decide)) (hf.now hnow) (zdal_p dlB_T_marks_135 (i := 3) rfl) ?_
  refine zw_getF (pc := 8) f_T_169 rfl ((hf.w hW).kr (o := 0) (by decide)) ((hf.w hW).lr (o := 0) (s := 2) (r := 23) (by decide)) (zdal_p dlB_T_marks_135 (i := 4) rfl) ?_
  refine zw_getF (pc := 11) f_T_262 rfl ((hf.w hW).kr (o := 23) (by decide)) ((hf.w hW).lr (o := 23) (s := 2) (r := 26) (by decide)) (zdal_p dlB_T_marks_135 (i := 5) rfl) ?_
  refine zw_aload_n (pc := 14) (n := 0) (x := 0) rfl (zdal_p dlB_T_marks_135 (i := 6) rfl) ?_
  refine zw_getF (pc := 15) f_T_28 rfl ((hf.w hW).ka (o := 0) (by decide)) (hf.now hnow) (zdal_p dlB_T_marks_135 (i := 7) rfl) ?_
  refine zw_getF (pc := 18) f_T_85 rfl ((hf.w hW).kr (o := 0) (by decide)) ((hf.w hW).lr (o := 0) (s := 1) (r := 12) (by decide)) (zdal_p dlB_T_marks_135 (i := 8) rfl) ?_
  refine zk_getI (pc := 21) f_T_94 rfl ((hf.w hW).kr (o := 12) (by decide)) (zdal_p dlB_T_marks_135 (i := 9) rfl) ?_
  refine zk_callV hf.x (pc := 24) [.ref (d_ + 26), .int (Int32.ofInt (ze Mz (d_ + 12) 7))] [] l_T_299 (u_Reader_readRowS l d_ Mz (hf.w hW) (ze Mz (d_ + 12) 7) (ze_r Mz (d_ + 12) 7).1 (ze_r Mz (d_ + 12) 7).2 b_ n_ p0_ (show 0 ≤ (ze Mz (d_ + 12) 7) by first | with_reducible assumption | assumption | omega) (show (ze Mz (d_ + 12) 7) ≤ 27 by first | with_reducible assumption | assumption | omega)) rfl rfl ((hf.w hW).ka (o := 4) (by decide)) (by decide) (by decide) (Nat.le_of_ble_eq_true rfl) (zdal_p dlB_T_marks_135 (i := 10) rfl) ?_
  rintro _ N1_ ⟨v2_, rfl, ⟨hv2_a, hv2_b⟩, hsN1_, hp0_N1_⟩
  replace hp0_N1_ : ((v2_ = 1 ∧ zRown b_ n_ ((ze Mz (d_ + 12) 7)).toNat (fun j_ => zg N1_ (d_ + 27) j_) ∧ (∀ j : Nat, (j : Int) < (ze Mz (d_ + 12) 7) → -999999 ≤ zg N1_ (d_ + 27) j ∧ zg N1_ (d_ + 27) j ≤ 999999)) ∨ (v2_ = 0 ∧ ¬ ∃ f_ : Nat → Int, zRown b_ n_ ((ze Mz (d_ + 12) 7)).toNat f_)) := hp0_N1_
  have hf_N1_ : zFc d_ [(1, 1)] [] [(0, 7), (0, 8)] [11, 25, 27] Mz N1_ := hf.tr hsN1_ (by decide) (by decide) (by decide) (by decide)
  have eA1_1_N1_ : ze N1_ 1 1 = ze Mz 1 1 := hsN1_.ea (hf.w hW) (by decide)
  have eD12_7_N1_ : ze N1_ (d_ + 12) 7 = ze Mz (d_ + 12) 7 := hsN1_.e (by decide)
  have c3_ : zYb b_ n_ N1_ := zYb.fr (hf.w hW) hsN1_ p0_ (by decide)
  have c4_ : zTt T_ d_ N1_ := zTt.fr (hf.w hW) hsN1_ p1_ (by decide)
  have c5_ : zFir T_ d_ N1_ := zFir.fr (hf.w hW) hsN1_ p2_ (by decide)
  have c6_ : zSbK T_ d_ N1_ := zSbK.fr (hf.w hW) hsN1_ p3_ (by decide)
  have c7_ : zKm (gF T_).length (gmkI T_) d_ N1_ := zKm.fr (hf.w hW) hsN1_ p4_ (by decide)
  have c8_ : zSK (gF T_).length s_ d_ N1_ := zSKc.fr (hf.w hW) hsN1_ p5_ (by decide)
  have c9_ : zNm nm_ (gF T_).length (gmkI T_) d_ N1_ := zNm.fr (hf.w hW) hsN1_ p6_ (by decide)
  rcases hp0_N1_ with ⟨rfl, ha24_0_hp0_N1_, ha24_1_hp0_N1_⟩ | ⟨rfl, ha24_0_hp0_N1_⟩
  · skip
    have hrow_ := ha24_0_hp0_N1_
    have hbd0_ := ha24_1_hp0_N1_
    rw [show (ze Mz (d_ + 12) 7).toNat = (gF T_).length by omega] at hrow_
    obtain ⟨f_, hf27_⟩ : ∃ f : Nat → Int, ∀ j : Nat, zg N1_ (d_ + 27) j = f j := ⟨_, fun _ => rfl⟩
    rw [show (fun j_ => zg N1_ (d_ + 27) j_) = f_ from funext hf27_] at hrow_
    have hbd_ : ∀ j_ : Nat, j_ < (gF T_).length → -1000000 ≤ f_ j_ ∧ f_ j_ ≤ 1000000 := fun j_ hj_ => by have h_ := hbd0_ j_ (by omega); rw [hf27_] at h_; omega
    show zW l m_T_marks (zn Mz + 0, zw Mz + 0) N1_ 27 [some (.ref 0), none, none] [.int (Int32.ofInt 1)] _
    refine zw_istore_n (pc := 27) (i := 1) (L2 := [some (.ref 0), some (.int (Int32.ofInt 1)), none]) rfl (by decide) rfl (zdal_p dlB_T_marks_135 (i := 11) rfl) ?_
    refine zw_aload_n (pc := 28) (n := 0) (x := 0) rfl (zdal_p dlB_T_marks_135 (i := 12) rfl) ?_
    refine zw_getF (pc := 29) f_T_10 rfl ((hf_N1_.w hW).ka (o := 0) (by decide)) ((hf_N1_.w hW).la (o := 0) (s := 0) (r := 1) (by decide)) (zdal_p dlB_T_marks_135 (i := 13) rfl) ?_
    refine zw_iconst (pc := 32) (v := Int32.ofInt 0) (by decide) (zdal_p dlB_T_marks_135 (i := 14) rfl) ?_
    refine zk_putA (pc := 33) (hf_N1_.w hW) (by decide) f_T_42 rfl rfl ((hf_N1_.w hW).ka (o := 1) (by decide)) ⟨by omega, by omega⟩ rfl rfl (zdal_p dlB_T_marks_135 (i := 15) rfl) (fun N10_ hsN10_ hvN10_ => ?_)
    have hf_N10_ : zFc d_ [(1, 1)] [] [(0, 7), (0, 8)] [11, 25, 27] Mz N10_ := hf_N1_.tr hsN10_ (by decide) (by decide) (by decide) (by decide)
    have rA1_1_N10_ := ze_r N10_ 1 1
    have eD12_7_N10_ : ze N10_ (d_ + 12) 7 = ze N1_ (d_ + 12) 7 := hsN10_.e (by decide)
    have c11_ : zTt T_ d_ N10_ := zTt.fr (hf_N1_.w hW) hsN10_ c4_ (by decide)
    have c12_ : zFir T_ d_ N10_ := zFir.fr (hf_N1_.w hW) hsN10_ c5_ (by decide)
    have c13_ : zSbK T_ d_ N10_ := zSbK.fr (hf_N1_.w hW) hsN10_ c6_ (by decide)
    have c14_ : zKm (gF T_).length (gmkI T_) d_ N10_ := zKm.fr (hf_N1_.w hW) hsN10_ c7_ (by decide)
    have c15_ : zSK (gF T_).length s_ d_ N10_ := zSKc.fr (hf_N1_.w hW) hsN10_ c8_ (by decide)
    have c16_ : zNm nm_ (gF T_).length (gmkI T_) d_ N10_ := zNm.fr (hf_N1_.w hW) hsN10_ c9_ (by decide)
    refine zw_iload_n (pc := 36) (n := 1) (x := Int32.ofInt 1) rfl (zdal_p dlB_T_marks_135 (i := 16) rfl) ?_
    refine zr_if_ne (pc := 37) (tgt := 43) ⟨(by decide), (by decide)⟩ (by decide) (zdal_p dlB_T_marks_135 (i := 17) rfl) (fun hc_37 => ?_) (fun hc_37 => ?_)
    · skip
      refine zw_aload_n (pc := 43) (n := 0) (x := 0) rfl (zdal_p dlB_T_marks_135 (i := 20) rfl) ?_
      refine zw_getF (pc := 44) f_T_28 rfl ((hf_N10_.w hW).ka (o := 0) (by decide)) (hf_N10_.now hnow) (zdal_p dlB_T_marks_135 (i := 21) rfl) ?_
      refine zw_getF (pc := 47) f_T_85 rfl ((hf_N10_.w hW).kr (o := 0) (by decide)) ((hf_N10_.w hW).lr (o := 0) (s := 1) (r := 12) (by decide)) (zdal_p dlB_T_marks_135 (i := 22) rfl) ?_
      refine zw_aload_n (pc := 50) (n := 0) (x := 0) rfl (zdal_p dlB_T_marks_135 (i := 23) rfl) ?_
      refine zw_getF (pc := 51) f_T_28 rfl ((hf_N10_.w hW).ka (o := 0) (by decide)) (hf_N10_.now hnow) (zdal_p dlB_T_marks_136 (i := 0) rfl) ?_
      refine zw_getF (pc := 54) f_T_169 rfl ((hf_N10_.w hW).kr (o := 0) (by decide)) ((hf_N10_.w hW).lr (o := 0) (s := 2) (r := 23) (by decide)) (zdal_p dlB_T_marks_136 (i := 1) rfl) ?_
      refine zw_getF (pc := 57) f_T_262 rfl ((hf_N10_.w hW).kr (o := 23) (by decide)) ((hf_N10_.w hW).lr (o := 23) (s := 2) (r := 26) (by decide)) (zdal_p dlB_T_marks_136 (i := 2) rfl) ?_
      have hfj_ : (∀ j : Nat, zg N10_ (d_ + 27) j = f_ j) := fun j_ => (hsN10_.rg (by decide) j_).trans (hf27_ j_)
      have hfe_ : (fun j_ => zg N10_ (d_ + 27) j_) = f_ := funext hfj_
      refine zk_callV hf_N10_.x (pc := 60) [.ref (d_ + 26)] [] l_T_303 (u_Sorts_firstIncongruentS l d_ N10_ (hf_N10_.w hW) T_ hT_ hAs_ hGr_ c11_ c12_ c13_ (show (∀ j : Nat, j < (gF T_).length → -1000000 ≤ zg N10_ (d_ + 27) j ∧ zg N10_ (d_ + 27) j ≤ 1000000) by exact fun j_ hj_ => by rw [hfj_]; exact hbd_ j_ hj_)) rfl rfl ((hf_N10_.w hW).kr (o := 12) (by decide)) (by decide) (by decide) (Nat.le_of_ble_eq_true rfl) (zdal_p dlB_T_marks_136 (i := 3) rfl) ?_
      rintro _ N17_ ⟨v18_, rfl, ⟨hv18_a, hv18_b⟩, hsN17_, ⟨hp0_N17_, hp1_N17_, hp2_N17_⟩⟩
      have hf_N17_ : zFc d_ [(1, 1)] [] [(0, 7), (0, 8)] [11, 25, 27] Mz N17_ := hf_N10_.tr hsN17_ (by decide) (by decide) (by decide) (by decide)
      have eA1_1_N17_ : ze N17_ 1 1 = ze N10_ 1 1 := hsN17_.ea (hf_N10_.w hW) (by decide)
      have eD12_7_N17_ : ze N17_ (d_ + 12) 7 = ze N10_ (d_ + 12) 7 := hsN17_.e (by decide)
      have c19_ : zTt T_ d_ N17_ := zTt.fr (hf_N10_.w hW) hsN17_ c11_ (by decide)
      have c20_ : zFir T_ d_ N17_ := zFir.fr (hf_N10_.w hW) hsN17_ c12_ (by decide)
      have c21_ : zSbK T_ d_ N17_ := zSbK.fr (hf_N10_.w hW) hsN17_ c13_ (by decide)
      have c22_ : zKm (gF T_).length (gmkI T_) d_ N17_ := zKm.fr (hf_N10_.w hW) hsN17_ c14_ (by decide)
      have c23_ : zSK (gF T_).length s_ d_ N17_ := zSKc.fr (hf_N10_.w hW) hsN17_ c15_ (by decide)
      have c24_ : zNm nm_ (gF T_).length (gmkI T_) d_ N17_ := zNm.fr (hf_N10_.w hW) hsN17_ c16_ (by decide)
      show zW l m_T_marks (zn Mz + 0, zw Mz + 0) N17_ 63 [some (.ref 0), some (.int (Int32.ofInt 1)), none] [.int (Int32.ofInt v18_)] _
      have hmo_ := hp0_N17_
      rw [hfe_] at hmo_
      have hvr_ := hp1_N17_
      have hvs_ := hp2_N17_
      refine zw_istore_n (pc := 63) (i := 2) (L2 := [some (.ref 0), some (.int (Int32.ofInt 1)), some (.int (Int32.ofInt v18_))]) rfl (by decide) rfl (zdal_p dlB_T_marks_136 (i := 4) rfl) ?_
      refine zw_iload_n (pc := 64) (n := 2) (x := Int32.ofInt v18_) rfl (zdal_p dlB_T_marks_136 (i := 5) rfl) ?_
      refine zw_iconst (pc := 65) (v := Int32.ofInt (-1)) (by decide) (zdal_p dlB_T_marks_136 (i := 6) rfl) ?_
      refine zr_icmp_eq (pc := 66) (tgt := 73) ⟨hv18_a, hv18_b⟩ ⟨(by decide), (by decide)⟩ (by decide) (zdal_p dlB_T_marks_136 (i := 7) rfl) (fun hc_66 => ?_) (fun hc_66 => ?_)
      · skip
        refine zw_aload_n (pc := 73) (n := 0) (x := 0) rfl (zdal_p dlB_T_marks_136 (i := 12) rfl) ?_
        refine zw_getF (pc := 74) f_T_28 rfl ((hf_N17_.w hW).ka (o := 0) (by decide)) (hf_N17_.now hnow) (zdal_p dlB_T_marks_136 (i := 13) rfl) ?_
        refine zw_getF (pc := 77) f_T_169 rfl ((hf_N17_.w hW).kr (o := 0) (by decide)) ((hf_N17_.w hW).lr (o := 0) (s := 2) (r := 23) (by decide)) (zdal_p dlB_T_marks_136 (i := 14) rfl) ?_
        refine zw_bipush (pc := 80) (v := Int32.ofInt 39) (by decide) (zdal_p dlB_T_marks_136 (i := 15) rfl) ?_
        have hfj2_ : ∀ j_ : Nat, zg N17_ (d_ + 27) j_ = f_ j_ := fun j_ => (hsN17_.rg (by decide) j_).trans (hfj_ j_)
        have hska_ := c23_
        have hnma_ := c24_
        refine zk_callV hf_N17_.x (pc := 82) [.int (Int32.ofInt 39)] [] l_T_296 (u_Sums_solveS l d_ N17_ (hf_N17_.w hW) 39 (by decide) (by decide) (gF T_).length (gmkI T_) hTA_ c22_ (show 0 ≤ 39 by first | with_reducible assumption | assumption | omega) (show 39 ≤ 39 by first | with_reducible assumption | assumption | omega) (show (∀ j : Nat, j < (gF T_).length → -1000000 ≤ zg N17_ (d_ + 27) j ∧ zg N17_ (d_ + 27) j ≤ 1000000) by exact fun j_ hj_ => by rw [hfj2_]; exact hbd_ j_ hj_)) rfl rfl ((hf_N17_.w hW).kr (o := 23) (by decide)) (by decide) (by decide) (Nat.le_of_ble_eq_true rfl) (zdal_p dlB_T_marks_136 (i := 16) rfl) ?_
        rintro _ N25_ ⟨rfl, hsN25_, hp0_N25_⟩
        replace hp0_N25_ : zSh (gF T_).length d_ N17_ N25_ 39 (zsq (gF T_).length (gmkI T_) (fun j_ => zg N17_ (d_ + 27) j_)) := hp0_N25_
        have hf_N25_ : zFc d_ [(1, 1)] [] [(0, 7), (0, 8)] [11, 25, 27] Mz N25_ := hf_N17_.tr hsN25_ (by decide) (by decide) (by decide) (by decide)
        have eA1_1_N25_ : ze N25_ 1 1 = ze N17_ 1 1 := hsN25_.ea (hf_N17_.w hW) (by decide)
        have eD12_7_N25_ : ze N25_ (d_ + 12) 7 = ze N17_ (d_ + 12) 7 := hsN25_.e (by decide)
        have c27_ : zTt T_ d_ N25_ := zTt.fr (hf_N17_.w hW) hsN25_ c19_ (by decide)
        have c28_ : zFir T_ d_ N25_ := zFir.fr (hf_N17_.w hW) hsN25_ c20_ (by decide)
        have c29_ : zSbK T_ d_ N25_ := zSbK.fr (hf_N17_.w hW) hsN25_ c21_ (by decide)
        have c30_ : zKm (gF T_).length (gmkI T_) d_ N25_ := zKm.fr (hf_N17_.w hW) hsN25_ c22_ (by decide)
        show zW l m_T_marks (zn Mz + 0, zw Mz + 0) N25_ 85 [some (.ref 0), some (.int (Int32.ofInt 1)), some (.int (Int32.ofInt v18_))] [] _
        have hsh_ := hp0_N25_
        have hlw_ : zLow d_ N17_ N25_ := zLow.sh hsh_ (by omega)
        have hsk1_ := zSK.fr hsN25_ hlw_ hF27_ hska_ (by decide)
        have hnm1_ := hnma_.l hsN25_ hlw_ hF27_ (by decide)
        have hn39_ := zSh_n (F := (gF T_).length) (by omega) hsh_
        have hpc_ : ∀ k_ : Nat, k_ < (gF T_).length → zvc (gF T_).length d_ N25_ 39 k_ = zsq (gF T_).length (gmkI T_) f_ k_ := fun k_ hk_ => by rw [hn39_]; show (if k_ < (gF T_).length then _ else _) = _; rw [if_pos hk_]; exact zsq_cc (fun j_ _ => hfj2_ j_) k_ hk_
        refine zw_aload_n (pc := 85) (n := 0) (x := 0) rfl (zdal_p dlB_T_marks_136 (i := 17) rfl) ?_
        refine zw_getF (pc := 86) f_T_28 rfl ((hf_N25_.w hW).ka (o := 0) (by decide)) (hf_N25_.now hnow) (zdal_p dlB_T_marks_136 (i := 18) rfl) ?_
        refine zw_bipush (pc := 89) (v := Int32.ofInt 39) (by decide) (zdal_p dlB_T_marks_136 (i := 19) rfl) ?_
        refine zk_callV hf_N25_.x (pc := 91) [.int (Int32.ofInt 39)] [] l_T_284 (u_Troupe_becomeS l d_ N25_ (hf_N25_.w hW) 39 (by decide) (by decide) (gF T_).length (gmkI T_) hTA_ s_ c30_ hsk1_ (show ((1 ≤ 39 ∧ 39 ≤ 8) ∨ (21 ≤ 39 ∧ 39 ≤ 39)) by first | with_reducible assumption | assumption | omega)) rfl rfl ((hf_N25_.w hW).kr (o := 0) (by decide)) (by decide) (by decide) (Nat.le_of_ble_eq_true rfl) (zdal_p dlB_T_marks_136 (i := 20) rfl) ?_
        rintro _ N31_ ⟨rfl, hsN31_, ⟨hp0_N31_, hp1_N31_⟩⟩
        have hf_N31_ : zFc d_ [(1, 1)] [] [(0, 7), (0, 8)] [11, 25, 27] Mz N31_ := hf_N25_.tr hsN31_ (by decide) (by decide) (by decide) (by decide)
        have eA1_1_N31_ : ze N31_ 1 1 = ze N25_ 1 1 := hsN31_.ea (hf_N25_.w hW) (by decide)
        have eD12_7_N31_ : ze N31_ (d_ + 12) 7 = ze N25_ (d_ + 12) 7 := hsN31_.e (by decide)
        have c33_ : zTt T_ d_ N31_ := zTt.fr (hf_N25_.w hW) hsN31_ c27_ (by decide)
        have c34_ : zFir T_ d_ N31_ := zFir.fr (hf_N25_.w hW) hsN31_ c28_ (by decide)
        have c35_ : zSbK T_ d_ N31_ := zSbK.fr (hf_N25_.w hW) hsN31_ c29_ (by decide)
        have c36_ : zKm (gF T_).length (gmkI T_) d_ N31_ := zKm.fr (hf_N25_.w hW) hsN31_ c30_ (by decide)
        show zW l m_T_marks (zn Mz + 0, zw Mz + 0) N31_ 94 [some (.ref 0), some (.int (Int32.ofInt 1)), some (.int (Int32.ofInt v18_))] [] _
        have hsk2_ := (hp0_N31_).pc hpc_
        have hnm2_ := zNm.md hsN31_ hp1_N31_ hF27_ hnm1_ (by decide)
        refine zw_iconst (pc := 94) (v := Int32.ofInt 0) (by decide) (zdal_p dlB_T_marks_136 (i := 21) rfl) ?_
        exact zk_iret (pc := 95) (ty := .int) rfl rfl ⟨by omega, by omega⟩ hf_N31_ ⟨(show ze N31_ 1 1 = 0 by first | with_reducible assumption | assumption | omega), (show ((0 = -2 ∧ (¬ ∃ f_ : Nat → Int, zRown b_ n_ (gF T_).length f_) ∧ zSK (gF T_).length s_ d_ N31_) ∨ ∃ f_ : Nat → Int, zRown b_ n_ (gF T_).length f_ ∧ (∀ j : Nat, j < (gF T_).length → -1000000 ≤ f_ j ∧ f_ j ≤ 1000000) ∧ zMkO T_ f_ 0 ∧ ((0 = 0 ∧ zSK (gF T_).length (zpush s_ (zsq (gF T_).length (gmkI T_) f_)) d_ N31_) ∨ (0 ≠ 0 ∧ zSK (gF T_).length s_ d_ N31_))) by exact Or.inr ⟨f_, hrow_, hbd_, (by rw [show v18_ + 1 = 0 by omega] at hmo_; exact hmo_), Or.inl ⟨rfl, hsk2_⟩⟩), hnm2_⟩ (zdal_p dlB_T_marks_136 (i := 22) rfl)
      · skip
        refine zw_iload_n (pc := 69) (n := 2) (x := Int32.ofInt v18_) rfl (zdal_p dlB_T_marks_136 (i := 8) rfl) ?_
        refine zw_iconst (pc := 70) (v := Int32.ofInt 1) (by decide) (zdal_p dlB_T_marks_136 (i := 9) rfl) ?_
        refine zr_iadd (pc := 71) (zdal_p dlB_T_marks_136 (i := 10) rfl) ?_
        exact zk_iret (pc := 72) (ty := .int) rfl rfl ⟨by omega, by omega⟩ hf_N17_ ⟨(show ze N17_ 1 1 = 0 by first | with_reducible assumption | assumption | omega), (show (((v18_ + 1) = -2 ∧ (¬ ∃ f_ : Nat → Int, zRown b_ n_ (gF T_).length f_) ∧ zSK (gF T_).length s_ d_ N17_) ∨ ∃ f_ : Nat → Int, zRown b_ n_ (gF T_).length f_ ∧ (∀ j : Nat, j < (gF T_).length → -1000000 ≤ f_ j ∧ f_ j ≤ 1000000) ∧ zMkO T_ f_ (v18_ + 1) ∧ (((v18_ + 1) = 0 ∧ zSK (gF T_).length (zpush s_ (zsq (gF T_).length (gmkI T_) f_)) d_ N17_) ∨ ((v18_ + 1) ≠ 0 ∧ zSK (gF T_).length s_ d_ N17_))) by exact Or.inr ⟨f_, hrow_, hbd_, hmo_, Or.inr ⟨by omega, c23_⟩⟩), c24_⟩ (zdal_p dlB_T_marks_136 (i := 11) rfl)
    · skip
      exact absurd hc_37 (by decide)
  · skip
    have hno_ := ha24_0_hp0_N1_
    rw [show (ze Mz (d_ + 12) 7).toNat = (gF T_).length by omega] at hno_
    show zW l m_T_marks (zn Mz + 0, zw Mz + 0) N1_ 27 [some (.ref 0), none, none] [.int (Int32.ofInt 0)] _
    refine zw_istore_n (pc := 27) (i := 1) (L2 := [some (.ref 0), some (.int (Int32.ofInt 0)), none]) rfl (by decide) rfl (zdal_p dlB_T_marks_135 (i := 11) rfl) ?_
    refine zw_aload_n (pc := 28) (n := 0) (x := 0) rfl (zdal_p dlB_T_marks_135 (i := 12) rfl) ?_
    refine zw_getF (pc := 29) f_T_10 rfl ((hf_N1_.w hW).ka (o := 0) (by decide)) ((hf_N1_.w hW).la (o := 0) (s := 0) (r := 1) (by decide)) (zdal_p dlB_T_marks_135 (i := 13) rfl) ?_
    refine zw_iconst (pc := 32) (v := Int32.ofInt 0) (by decide) (zdal_p dlB_T_marks_135 (i := 14) rfl) ?_
    refine zk_putA (pc := 33) (hf_N1_.w hW) (by decide) f_T_42 rfl rfl ((hf_N1_.w hW).ka (o := 1) (by decide)) ⟨by omega, by omega⟩ rfl rfl (zdal_p dlB_T_marks_135 (i := 15) rfl) (fun N37_ hsN37_ hvN37_ => ?_)
    have hf_N37_ : zFc d_ [(1, 1)] [] [(0, 7), (0, 8)] [11, 25, 27] Mz N37_ := hf_N1_.tr hsN37_ (by decide) (by decide) (by decide) (by decide)
    have rA1_1_N37_ := ze_r N37_ 1 1
    have eD12_7_N37_ : ze N37_ (d_ + 12) 7 = ze N1_ (d_ + 12) 7 := hsN37_.e (by decide)
    have c38_ : zTt T_ d_ N37_ := zTt.fr (hf_N1_.w hW) hsN37_ c4_ (by decide)
    have c39_ : zFir T_ d_ N37_ := zFir.fr (hf_N1_.w hW) hsN37_ c5_ (by decide)
    have c40_ : zSbK T_ d_ N37_ := zSbK.fr (hf_N1_.w hW) hsN37_ c6_ (by decide)
    have c41_ : zKm (gF T_).length (gmkI T_) d_ N37_ := zKm.fr (hf_N1_.w hW) hsN37_ c7_ (by decide)
    have c42_ : zSK (gF T_).length s_ d_ N37_ := zSKc.fr (hf_N1_.w hW) hsN37_ c8_ (by decide)
    have c43_ : zNm nm_ (gF T_).length (gmkI T_) d_ N37_ := zNm.fr (hf_N1_.w hW) hsN37_ c9_ (by decide)
    refine zw_iload_n (pc := 36) (n := 1) (x := Int32.ofInt 0) rfl (zdal_p dlB_T_marks_135 (i := 16) rfl) ?_
    refine zr_if_ne (pc := 37) (tgt := 43) ⟨(by decide), (by decide)⟩ (by decide) (zdal_p dlB_T_marks_135 (i := 17) rfl) (fun hc_37 => ?_) (fun hc_37 => ?_)
    · skip
      exact absurd hc_37 (by decide)
    · skip
      refine zw_bipush (pc := 40) (v := Int32.ofInt (-2)) (by decide) (zdal_p dlB_T_marks_135 (i := 18) rfl) ?_
      exact zk_iret (pc := 42) (ty := .int) rfl rfl ⟨by omega, by omega⟩ hf_N37_ ⟨(show ze N37_ 1 1 = 0 by first | with_reducible assumption | assumption | omega), (show ((((-2)) = -2 ∧ (¬ ∃ f_ : Nat → Int, zRown b_ n_ (gF T_).length f_) ∧ zSK (gF T_).length s_ d_ N37_) ∨ ∃ f_ : Nat → Int, zRown b_ n_ (gF T_).length f_ ∧ (∀ j : Nat, j < (gF T_).length → -1000000 ≤ f_ j ∧ f_ j ≤ 1000000) ∧ zMkO T_ f_ ((-2)) ∧ ((((-2)) = 0 ∧ zSK (gF T_).length (zpush s_ (zsq (gF T_).length (gmkI T_) f_)) d_ N37_) ∨ (((-2)) ≠ 0 ∧ zSK (gF T_).length s_ d_ N37_))) by exact Or.inl ⟨rfl, hno_, c42_⟩), c43_⟩ (zdal_p dlB_T_marks_135 (i := 19) rfl)
set_option maxHeartbeats 4000000 in
theorem u_Reader_readWholeS (l : Launch) (d_ : Nat) (Mz : zMem) (hW : zKW d_ Mz) (b_ : Nat → Int) (n_ : Nat) (F_ : Nat) (K_ : Nat → Nat → Int) (hA_ : zTA F_ K_) (nm_ : List (Int × (Nat → Int))) (p0_ : zYb b_ n_ Mz) (p1_ : zYt b_ n_ Mz) (p2_ : zKm F_ K_ d_ Mz) (p3_ : zNm nm_ F_ K_ d_ Mz) : zC l m_Reader_readWhole 0 0 [.ref 4, .ref (d_ + 0)] Mz (zqcI d_ [(1, 2), (1, 3), (1, 4), (1, 5), (4, 1), (4, 2), (4, 3)] [] [(33, 2), (33, 3), (33, 4), (33, 5), (33, 6)] [25, 27, 35] Mz (fun v N => (((v = 1 ∧ (∃ q un : Nat, (zfe (zfs b_ n_ F_ K_ nm_) (0, (ze Mz 1 2).toNat, [], [], 0, false)) = (3, q, [], [zvc F_ d_ N 21], un, false) ∧ zkd b_ n_ q = 0) ∧ zfit F_ K_ (zvc F_ d_ N 21) ∧ zLow d_ Mz N) ∨ (v = 0 ∧ (¬ ∃ v_ : Nat → Int, ∃ q un : Nat, (zfe (zfs b_ n_ F_ K_ nm_) (0, (ze Mz 1 2).toNat, [], [], 0, false)) = (3, q, [], [v_], un, false) ∧ zkd b_ n_ q = 0) ∧ zLow d_ Mz N))))) := by
  refine zC_of (L0 := [some (.ref 4), some (.ref (d_ + 0))]) md_Reader_readWhole (Nat.le_of_ble_eq_true rfl) rfl ?_ zQ0
  have hf : zFc d_ [(1, 2), (1, 3), (1, 4), (1, 5), (4, 1), (4, 2), (4, 3)] [] [(33, 2), (33, 3), (33, 4), (33, 5), (33, 6)] [25, 27, 35] Mz Mz := zFc.rf
  have r_A1_2 := ze_r Mz 1 2
  have r_A1_4 := ze_r Mz 1 4
  have r_D33_2 := ze_r Mz (d_ + 33) 2
  have r_D33_3 := ze_r Mz (d_ + 33) 3
  have r_D33_4 := ze_r Mz (d_ + 33) 4
  have r_D33_5 := ze_r Mz (d_ + 33) 5
  have r_D33_6 := ze_r Mz (d_ + 33) 6
  obtain ⟨⟨hF1_, hF27_⟩, hAr_⟩ := id hA_
  refine zw_aload_n (pc := 0) (n := 0) (x := 4) rfl (zdal_p dlB_Reader_readWhole_123 (i := 0) rfl) ?_
  refine zw_aload_n (pc := 1) (n := 1) (x := (d_ + 0)) rfl (zdal_p dlB_Reader_readWhole_123 (i := 1) rfl) ?_
  refine zk_callV hf.x (pc := 2) [.ref (d_ + 0)] [] l_Reader_107 (u_Reader_readSum l d_ Mz (hf.w hW) b_ n_ F_ K_ hA_ nm_ p0_ p1_ p2_ p3_) rfl rfl ((hf.w hW).ka (o := 4) (by decide)) (by decide) (by decide) (Nat.le_of_ble_eq_true rfl) (zdal_p dlB_Reader_readWhole_123 (i := 2) rfl) ?_
  rintro _ N1_ ⟨v2_, rfl, ⟨hv2_a, hv2_b⟩, hsN1_, ⟨hp0_N1_, hp1_N1_⟩⟩
  have hf_N1_ : zFc d_ [(1, 2), (1, 3), (1, 4), (1, 5), (4, 1), (4, 2), (4, 3)] [] [(33, 2), (33, 3), (33, 4), (33, 5), (33, 6)] [25, 27, 35] Mz N1_ := hf.tr hsN1_ (by decide) (by decide) (by decide) (by decide)
  have rA1_2_N1_ := ze_r N1_ 1 2
  have rA1_4_N1_ := ze_r N1_ 1 4
  have rD33_2_N1_ := ze_r N1_ (d_ + 33) 2
  have rD33_3_N1_ := ze_r N1_ (d_ + 33) 3
  have rD33_4_N1_ := ze_r N1_ (d_ + 33) 4
  have rD33_5_N1_ := ze_r N1_ (d_ + 33) 5
  have rD33_6_N1_ := ze_r N1_ (d_ + 33) 6
  have c3_ : zYb b_ n_ N1_ := zYb.fr (hf.w hW) hsN1_ p0_ (by decide)
  have c4_ : zKm F_ K_ d_ N1_ := zKm.fr (hf.w hW) hsN1_ p2_ (by decide)
  rcases hp1_N1_ with ⟨rfl, ha2_0_hp1_N1_, ha2_1_hp1_N1_, ha2_2_hp1_N1_, ha2_3_hp1_N1_⟩ | ⟨rfl, ha2_0_hp1_N1_, ha2_1_hp1_N1_⟩
  · skip
    have hre_ := ha2_0_hp1_N1_
    have hci_ := ha2_1_hp1_N1_
    have hlw_ := ha2_2_hp1_N1_
    have hse_ := ha2_3_hp1_N1_
    have hzs_ : (zfe (zfs b_ n_ F_ K_ nm_) (0, (ze Mz 1 2).toNat, [], [], 0, false)) = zKst 3 F_ d_ N1_ := zfe_s hre_ (by unfold zKst; exact zfs_d)
    obtain ⟨j1_, j2_, j3_⟩ := zKst_3 hse_ hci_
    obtain ⟨t1_, t2_, t3_, t4_, t5_, t6_⟩ := id hp0_N1_
    show zW l m_Reader_readWhole (zn Mz + 0, zw Mz + 0) N1_ 5 [some (.ref 4), some (.ref (d_ + 0))] [.int (Int32.ofInt 1)] _
    refine zr_if_ne (pc := 5) (tgt := 10) ⟨(by decide), (by decide)⟩ (by decide) (zdal_p dlB_Reader_readWhole_123 (i := 3) rfl) (fun hc_5 => ?_) (fun hc_5 => ?_)
    · skip
      refine zw_aload_n (pc := 10) (n := 0) (x := 4) rfl (zdal_p dlB_Reader_readWhole_123 (i := 6) rfl) ?_
      refine zw_getF (pc := 11) f_Reader_15 rfl ((hf_N1_.w hW).ka (o := 4) (by decide)) ((hf_N1_.w hW).la (o := 4) (s := 0) (r := 1) (by decide)) (zdal_p dlB_Reader_readWhole_123 (i := 7) rfl) ?_
      refine zk_getI (pc := 14) f_Reader_27 rfl ((hf_N1_.w hW).ka (o := 1) (by decide)) (zdal_p dlB_Reader_readWhole_123 (i := 8) rfl) ?_
      refine zr_if_eq (pc := 17) (tgt := 26) ⟨(ze_r N1_ 1 4).1, (ze_r N1_ 1 4).2⟩ (by decide) (zdal_p dlB_Reader_readWhole_123 (i := 9) rfl) (fun hc_17 => ?_) (fun hc_17 => ?_)
      · skip
        refine zw_aload_n (pc := 26) (n := 1) (x := (d_ + 0)) rfl (zdal_p dlB_Reader_readWhole_123 (i := 14) rfl) ?_
        refine zw_getF (pc := 27) f_Reader_111 rfl ((hf_N1_.w hW).kr (o := 0) (by decide)) ((hf_N1_.w hW).lr (o := 0) (s := 4) (r := 33) (by decide)) (zdal_p dlB_Reader_readWhole_123 (i := 15) rfl) ?_
        refine zk_getI (pc := 30) f_Reader_115 rfl ((hf_N1_.w hW).kr (o := 33) (by decide)) (zdal_p dlB_Reader_readWhole_123 (i := 16) rfl) ?_
        refine zr_if_eq (pc := 33) (tgt := 46) ⟨(ze_r N1_ (d_ + 33) 6).1, (ze_r N1_ (d_ + 33) 6).2⟩ (by decide) (zdal_p dlB_Reader_readWhole_123 (i := 17) rfl) (fun hc_33 => ?_) (fun hc_33 => ?_)
        · skip
          have hok_ : (∃ q un : Nat, (zfe (zfs b_ n_ F_ K_ nm_) (0, (ze Mz 1 2).toNat, [], [], 0, false)) = (3, q, [], [zvc F_ d_ N1_ 21], un, false) ∧ zkd b_ n_ q = 0) := by rcases j3_ with ⟨g_, e2_⟩ | ⟨g_, e2_⟩; exact ⟨_, _, hzs_.trans e2_, by omega⟩; exfalso; omega
          refine zw_iconst (pc := 46) (v := Int32.ofInt 1) (by decide) (zdal_p dlB_Reader_readWhole_123 (i := 23) rfl) ?_
          refine zw_goto (pc := 47) (tgt := 51) (by decide) (zdal_p dlB_Reader_readWhole_124 (i := 0) rfl) ?_
          exact zk_iret (pc := 51) (ty := .boolean) rfl (z_narB (by omega)) ⟨by omega, by omega⟩ hf_N1_ (show ((1 = 1 ∧ (∃ q un : Nat, (zfe (zfs b_ n_ F_ K_ nm_) (0, (ze Mz 1 2).toNat, [], [], 0, false)) = (3, q, [], [zvc F_ d_ N1_ 21], un, false) ∧ zkd b_ n_ q = 0) ∧ zfit F_ K_ (zvc F_ d_ N1_ 21) ∧ zLow d_ Mz N1_) ∨ (1 = 0 ∧ (¬ ∃ v_ : Nat → Int, ∃ q un : Nat, (zfe (zfs b_ n_ F_ K_ nm_) (0, (ze Mz 1 2).toNat, [], [], 0, false)) = (3, q, [], [v_], un, false) ∧ zkd b_ n_ q = 0) ∧ zLow d_ Mz N1_)) from Or.inl (⟨(show 1 = 1 by first | rfl | exact hok_ | exact j2_ | exact hlw_), (show (∃ q un : Nat, (zfe (zfs b_ n_ F_ K_ nm_) (0, (ze Mz 1 2).toNat, [], [], 0, false)) = (3, q, [], [zvc F_ d_ N1_ 21], un, false) ∧ zkd b_ n_ q = 0) by first | rfl | exact hok_ | exact j2_ | exact hlw_), (show zfit F_ K_ (zvc F_ d_ N1_ 21) by first | rfl | exact hok_ | exact j2_ | exact hlw_), (show zLow d_ Mz N1_ by first | rfl | exact hok_ | exact j2_ | exact hlw_)⟩)) (zdal_p dlB_Reader_readWhole_124 (i := 2) rfl)
        · skip
          have hno_ : (¬ ∃ v_ : Nat → Int, ∃ q un : Nat, (zfe (zfs b_ n_ F_ K_ nm_) (0, (ze Mz 1 2).toNat, [], [], 0, false)) = (3, q, [], [v_], un, false) ∧ zkd b_ n_ q = 0) := by rintro ⟨v_, q_, un_, e_, z_⟩; rw [hzs_] at e_; rcases j3_ with ⟨g_, e2_⟩ | ⟨g_, e2_⟩; exfalso; omega; rw [e2_] at e_; have e5_ : true = false := congrArg (fun x_ : zFst => x_.2.2.2.2.2) e_; cases e5_
          refine zw_aload_n (pc := 36) (n := 0) (x := 4) rfl (zdal_p dlB_Reader_readWhole_123 (i := 18) rfl) ?_
          refine zw_bipush (pc := 37) (v := Int32.ofInt 6) (by decide) (zdal_p dlB_Reader_readWhole_123 (i := 19) rfl) ?_
          refine zw_iconst (pc := 39) (v := Int32.ofInt 0) (by decide) (zdal_p dlB_Reader_readWhole_123 (i := 20) rfl) ?_
          refine zk_callV hf_N1_.x (pc := 40) [.int (Int32.ofInt 6), .int (Int32.ofInt 0)] [] l_Reader_33 (u_Reader_refuseAt l d_ N1_ (hf_N1_.w hW) 6 (by decide) (by decide) 0 (by decide) (by decide)) rfl rfl ((hf_N1_.w hW).ka (o := 4) (by decide)) (by decide) (by decide) (Nat.le_of_ble_eq_true rfl) (zdal_p dlB_Reader_readWhole_123 (i := 21) rfl) ?_
          rintro _ N5_ ⟨v6_, rfl, ⟨hv6_a, hv6_b⟩, hsN5_, hp0_N5_⟩
          replace hp0_N5_ : ((v6_ = 0)) := hp0_N5_
          have hf_N5_ : zFc d_ [(1, 2), (1, 3), (1, 4), (1, 5), (4, 1), (4, 2), (4, 3)] [] [(33, 2), (33, 3), (33, 4), (33, 5), (33, 6)] [25, 27, 35] Mz N5_ := hf_N1_.tr hsN5_ (by decide) (by decide) (by decide) (by decide)
          have eA1_2_N5_ : ze N5_ 1 2 = ze N1_ 1 2 := hsN5_.ea (hf_N1_.w hW) (by decide)
          have eA1_4_N5_ : ze N5_ 1 4 = ze N1_ 1 4 := hsN5_.ea (hf_N1_.w hW) (by decide)
          have eD33_2_N5_ : ze N5_ (d_ + 33) 2 = ze N1_ (d_ + 33) 2 := hsN5_.e (by decide)
          have eD33_3_N5_ : ze N5_ (d_ + 33) 3 = ze N1_ (d_ + 33) 3 := hsN5_.e (by decide)
          have eD33_4_N5_ : ze N5_ (d_ + 33) 4 = ze N1_ (d_ + 33) 4 := hsN5_.e (by decide)
          have eD33_5_N5_ : ze N5_ (d_ + 33) 5 = ze N1_ (d_ + 33) 5 := hsN5_.e (by decide)
          have eD33_6_N5_ : ze N5_ (d_ + 33) 6 = ze N1_ (d_ + 33) 6 := hsN5_.e (by decide)
          have c7_ : zYb b_ n_ N5_ := zYb.fr (hf_N1_.w hW) hsN5_ c3_ (by decide)
          have c8_ : zKm F_ K_ d_ N5_ := zKm.fr (hf_N1_.w hW) hsN5_ c4_ (by decide)
          have c9_ : zYt b_ n_ N5_ := zYt.fr (hf_N1_.w hW) hsN5_ hp0_N1_ (by decide)
          have c10_ : zLow d_ Mz N5_ := zLow.fr (hf_N1_.w hW) hsN5_ hlw_ (by decide)
          rcases hp0_N5_ with rfl
          · skip
            show zW l m_Reader_readWhole (zn Mz + 0, zw Mz + 0) N5_ 43 [some (.ref 4), some (.ref (d_ + 0))] [.int (Int32.ofInt 0)] _
            refine zr_if_eq (pc := 43) (tgt := 50) ⟨(by decide), (by decide)⟩ (by decide) (zdal_p dlB_Reader_readWhole_123 (i := 22) rfl) (fun hc_43 => ?_) (fun hc_43 => ?_)
            · skip
              refine zw_iconst (pc := 50) (v := Int32.ofInt 0) (by decide) (zdal_p dlB_Reader_readWhole_124 (i := 1) rfl) ?_
              exact zk_iret (pc := 51) (ty := .boolean) rfl (z_narB (by omega)) ⟨by omega, by omega⟩ hf_N5_ (show ((0 = 1 ∧ (∃ q un : Nat, (zfe (zfs b_ n_ F_ K_ nm_) (0, (ze Mz 1 2).toNat, [], [], 0, false)) = (3, q, [], [zvc F_ d_ N5_ 21], un, false) ∧ zkd b_ n_ q = 0) ∧ zfit F_ K_ (zvc F_ d_ N5_ 21) ∧ zLow d_ Mz N5_) ∨ (0 = 0 ∧ (¬ ∃ v_ : Nat → Int, ∃ q un : Nat, (zfe (zfs b_ n_ F_ K_ nm_) (0, (ze Mz 1 2).toNat, [], [], 0, false)) = (3, q, [], [v_], un, false) ∧ zkd b_ n_ q = 0) ∧ zLow d_ Mz N5_)) from Or.inr (⟨(show 0 = 0 by first | rfl | exact hno_ | exact c10_), (show (¬ ∃ v_ : Nat → Int, ∃ q un : Nat, (zfe (zfs b_ n_ F_ K_ nm_) (0, (ze Mz 1 2).toNat, [], [], 0, false)) = (3, q, [], [v_], un, false) ∧ zkd b_ n_ q = 0) by first | rfl | exact hno_ | exact c10_), (show zLow d_ Mz N5_ by first | rfl | exact hno_ | exact c10_)⟩)) (zdal_p dlB_Reader_readWhole_124 (i := 2) rfl)
            · skip
              exact absurd hc_43 (by decide)
      · skip
        have hno_ : (¬ ∃ v_ : Nat → Int, ∃ q un : Nat, (zfe (zfs b_ n_ F_ K_ nm_) (0, (ze Mz 1 2).toNat, [], [], 0, false)) = (3, q, [], [v_], un, false) ∧ zkd b_ n_ q = 0) := by rintro ⟨v_, q_, un_, e_, z_⟩; rw [hzs_] at e_; have e4_ : (ze N1_ 1 2).toNat = q_ := congrArg (fun x_ : zFst => x_.2.1) e_; rw [← e4_] at z_; omega
        refine zw_aload_n (pc := 20) (n := 0) (x := 4) rfl (zdal_p dlB_Reader_readWhole_123 (i := 10) rfl) ?_
        refine zw_iconst (pc := 21) (v := Int32.ofInt 2) (by decide) (zdal_p dlB_Reader_readWhole_123 (i := 11) rfl) ?_
        refine zk_callV hf_N1_.x (pc := 22) [.int (Int32.ofInt 2)] [] l_Reader_41 (u_Reader_refuse l d_ N1_ (hf_N1_.w hW) 2 (by decide) (by decide)) rfl rfl ((hf_N1_.w hW).ka (o := 4) (by decide)) (by decide) (by decide) (Nat.le_of_ble_eq_true rfl) (zdal_p dlB_Reader_readWhole_123 (i := 12) rfl) ?_
        rintro _ N11_ ⟨v12_, rfl, ⟨hv12_a, hv12_b⟩, hsN11_, hp0_N11_⟩
        replace hp0_N11_ : ((v12_ = 0)) := hp0_N11_
        have hf_N11_ : zFc d_ [(1, 2), (1, 3), (1, 4), (1, 5), (4, 1), (4, 2), (4, 3)] [] [(33, 2), (33, 3), (33, 4), (33, 5), (33, 6)] [25, 27, 35] Mz N11_ := hf_N1_.tr hsN11_ (by decide) (by decide) (by decide) (by decide)
        have eA1_2_N11_ : ze N11_ 1 2 = ze N1_ 1 2 := hsN11_.ea (hf_N1_.w hW) (by decide)
        have eA1_4_N11_ : ze N11_ 1 4 = ze N1_ 1 4 := hsN11_.ea (hf_N1_.w hW) (by decide)
        have eD33_2_N11_ : ze N11_ (d_ + 33) 2 = ze N1_ (d_ + 33) 2 := hsN11_.e (by decide)
        have eD33_3_N11_ : ze N11_ (d_ + 33) 3 = ze N1_ (d_ + 33) 3 := hsN11_.e (by decide)
        have eD33_4_N11_ : ze N11_ (d_ + 33) 4 = ze N1_ (d_ + 33) 4 := hsN11_.e (by decide)
        have eD33_5_N11_ : ze N11_ (d_ + 33) 5 = ze N1_ (d_ + 33) 5 := hsN11_.e (by decide)
        have eD33_6_N11_ : ze N11_ (d_ + 33) 6 = ze N1_ (d_ + 33) 6 := hsN11_.e (by decide)
        have c13_ : zYb b_ n_ N11_ := zYb.fr (hf_N1_.w hW) hsN11_ c3_ (by decide)
        have c14_ : zKm F_ K_ d_ N11_ := zKm.fr (hf_N1_.w hW) hsN11_ c4_ (by decide)
        have c15_ : zYt b_ n_ N11_ := zYt.fr (hf_N1_.w hW) hsN11_ hp0_N1_ (by decide)
        have c16_ : zLow d_ Mz N11_ := zLow.fr (hf_N1_.w hW) hsN11_ hlw_ (by decide)
        rcases hp0_N11_ with rfl
        · skip
          show zW l m_Reader_readWhole (zn Mz + 0, zw Mz + 0) N11_ 25 [some (.ref 4), some (.ref (d_ + 0))] [.int (Int32.ofInt 0)] _
          exact zk_iret (pc := 25) (ty := .boolean) rfl (z_narB (by omega)) ⟨by omega, by omega⟩ hf_N11_ (show ((0 = 1 ∧ (∃ q un : Nat, (zfe (zfs b_ n_ F_ K_ nm_) (0, (ze Mz 1 2).toNat, [], [], 0, false)) = (3, q, [], [zvc F_ d_ N11_ 21], un, false) ∧ zkd b_ n_ q = 0) ∧ zfit F_ K_ (zvc F_ d_ N11_ 21) ∧ zLow d_ Mz N11_) ∨ (0 = 0 ∧ (¬ ∃ v_ : Nat → Int, ∃ q un : Nat, (zfe (zfs b_ n_ F_ K_ nm_) (0, (ze Mz 1 2).toNat, [], [], 0, false)) = (3, q, [], [v_], un, false) ∧ zkd b_ n_ q = 0) ∧ zLow d_ Mz N11_)) from Or.inr (⟨(show 0 = 0 by first | rfl | exact hno_ | exact c16_), (show (¬ ∃ v_ : Nat → Int, ∃ q un : Nat, (zfe (zfs b_ n_ F_ K_ nm_) (0, (ze Mz 1 2).toNat, [], [], 0, false)) = (3, q, [], [v_], un, false) ∧ zkd b_ n_ q = 0) by first | rfl | exact hno_ | exact c16_), (show zLow d_ Mz N11_ by first | rfl | exact hno_ | exact c16_)⟩)) (zdal_p dlB_Reader_readWhole_123 (i := 13) rfl)
    · skip
      exact absurd hc_5 (by decide)
  · skip
    have hlw_ := ha2_1_hp1_N1_
    have hno_ : (¬ ∃ v_ : Nat → Int, ∃ q un : Nat, (zfe (zfs b_ n_ F_ K_ nm_) (0, (ze Mz 1 2).toNat, [], [], 0, false)) = (3, q, [], [v_], un, false) ∧ zkd b_ n_ q = 0) := by rintro ⟨v_, q_, un_, e_, -⟩; rw [zfe_s ha2_0_hp1_N1_ zfs_F] at e_; cases e_
    show zW l m_Reader_readWhole (zn Mz + 0, zw Mz + 0) N1_ 5 [some (.ref 4), some (.ref (d_ + 0))] [.int (Int32.ofInt 0)] _
    refine zr_if_ne (pc := 5) (tgt := 10) ⟨(by decide), (by decide)⟩ (by decide) (zdal_p dlB_Reader_readWhole_123 (i := 3) rfl) (fun hc_5 => ?_) (fun hc_5 => ?_)
    · skip
      exact absurd hc_5 (by decide)
    · skip
      refine zw_iconst (pc := 8) (v := Int32.ofInt 0) (by decide) (zdal_p dlB_Reader_readWhole_123 (i := 4) rfl) ?_
      exact zk_iret (pc := 9) (ty := .boolean) rfl (z_narB (by omega)) ⟨by omega, by omega⟩ hf_N1_ (show ((0 = 1 ∧ (∃ q un : Nat, (zfe (zfs b_ n_ F_ K_ nm_) (0, (ze Mz 1 2).toNat, [], [], 0, false)) = (3, q, [], [zvc F_ d_ N1_ 21], un, false) ∧ zkd b_ n_ q = 0) ∧ zfit F_ K_ (zvc F_ d_ N1_ 21) ∧ zLow d_ Mz N1_) ∨ (0 = 0 ∧ (¬ ∃ v_ : Nat → Int, ∃ q un : Nat, (zfe (zfs b_ n_ F_ K_ nm_) (0, (ze Mz 1 2).toNat, [], [], 0, false)) = (3, q, [], [v_], un, false) ∧ zkd b_ n_ q = 0) ∧ zLow d_ Mz N1_)) from Or.inr (⟨(show 0 = 0 by first | rfl | exact hno_ | exact hlw_), (show (¬ ∃ v_ : Nat → Int, ∃ q un : Nat, (zfe (zfs b_ n_ F_ K_ nm_) (0, (ze Mz 1 2).toNat, [], [], 0, false)) = (3, q, [], [v_], un, false) ∧ zkd b_ n_ q = 0) by first | rfl | exact hno_ | exact hlw_), (show zLow d_ Mz N1_ by first | rfl | exact hno_ | exact hlw_)⟩)) (zdal_p dlB_Reader_readWhole_123 (i := 5) rfl)
set_option maxHeartbeats 4000000 in
theorem u_T_makesS (l : Launch) (d_ : Nat) (Mz : zMem) (hW : zKW d_ Mz) (hnow : zf Mz 0 2 = some (d_ + 0)) (b_ : Nat → Int) (n_ : Nat) (T_ : zGT) (hT_ : T_ ∈ gTabs) (s_ : zSg) (nm_ : List (Int × (Nat → Int))) (p0_ : zYb b_ n_ Mz) (p1_ : zKm (gF T_).length (gmkI T_) d_ Mz) (p2_ : zSK (gF T_).length s_ d_ Mz) (p3_ : zNm nm_ (gF T_).length (gmkI T_) d_ Mz) : zC l m_T_makes 0 0 [.ref 0] Mz (zqcI d_ [(1, 1), (1, 2), (1, 3), (1, 4), (1, 5), (4, 1), (4, 2), (4, 3)] [] [(0, 7), (0, 8), (33, 2), (33, 3), (33, 4), (33, 5), (33, 6)] [25, 27, 35] Mz (fun v N => ze N 1 1 = 0 ∧ ((((¬ ∃ w_ : Nat → Int, zMkR b_ n_ (gF T_).length (gmkI T_) nm_ w_) ∧ v = -1 ∧ zSK (gF T_).length s_ d_ N) ∨ ∃ w_ : Nat → Int, zMkR b_ n_ (gF T_).length (gmkI T_) nm_ w_ ∧ zfit (gF T_).length (gmkI T_) w_ ∧ v = ((znzc w_ (gF T_).length : Nat) : Int) ∧ zSK (gF T_).length (zpush s_ w_) d_ N)) ∧ zNm nm_ (gF T_).length (gmkI T_) d_ N)) := by
  refine zC_of (L0 := [some (.ref 0), none]) md_T_makes (Nat.le_of_ble_eq_true rfl) rfl ?_ zQ0
  have hf : zFc d_ [(1, 1), (1, 2), (1, 3), (1, 4), (1, 5), (4, 1), (4, 2), (4, 3)] [] [(0, 7), (0, 8), (33, 2), (33, 3), (33, 4), (33, 5), (33, 6)] [25, 27, 35] Mz Mz := zFc.rf
  have r_A1_1 := ze_r Mz 1 1
  have r_A1_2 := ze_r Mz 1 2
  have hO_ := gTabs_ok T_ hT_
  have hG_ := hO_.1
  have hn24_ := hG_.2.1
  have hn1_ := hG_.1
  have hTA_ := gT_zTA hT_
  obtain ⟨⟨hF1_, hF27_⟩, hAr_⟩ := id hTA_
  obtain ⟨hFc_, hKt_⟩ := id p1_
  obtain ⟨⟨hs1_, hs2_⟩, ⟨hs3_, hs4_⟩, hs5_, hs6_⟩ := id p2_
  refine zw_aload_n (pc := 0) (n := 0) (x := 0) rfl (zdal_p dlB_T_makes_121 (i := 0) rfl) ?_
  refine zw_getF (pc := 1) f_T_21 rfl ((hf.w hW).ka (o := 0) (by decide)) ((hf.w hW).la (o := 0) (s := 1) (r := 4) (by decide)) (zdal_p dlB_T_makes_121 (i := 1) rfl) ?_
  refine zk_callV hf.x (pc := 4) [] [] l_T_49 (u_Reader_begin l d_ Mz (hf.w hW) b_ n_ p0_) rfl rfl ((hf.w hW).ka (o := 4) (by decide)) (by decide) (by decide) (Nat.le_of_ble_eq_true rfl) (zdal_p dlB_T_makes_121 (i := 2) rfl) ?_
  rintro _ N1_ ⟨rfl, hsN1_, ⟨hp0_N1_, hp1_N1_⟩⟩
  have hf_N1_ : zFc d_ [(1, 1), (1, 2), (1, 3), (1, 4), (1, 5), (4, 1), (4, 2), (4, 3)] [] [(0, 7), (0, 8), (33, 2), (33, 3), (33, 4), (33, 5), (33, 6)] [25, 27, 35] Mz N1_ := hf.tr hsN1_ (by decide) (by decide) (by decide) (by decide)
  have eA1_1_N1_ : ze N1_ 1 1 = ze Mz 1 1 := hsN1_.ea (hf.w hW) (by decide)
  have rA1_2_N1_ := ze_r N1_ 1 2
  have c3_ : zYb b_ n_ N1_ := zYb.fr (hf.w hW) hsN1_ p0_ (by decide)
  have c4_ : zKm (gF T_).length (gmkI T_) d_ N1_ := zKm.fr (hf.w hW) hsN1_ p1_ (by decide)
  have c5_ : zSK (gF T_).length s_ d_ N1_ := zSKc.fr (hf.w hW) hsN1_ p2_ (by decide)
  have c6_ : zNm nm_ (gF T_).length (gmkI T_) d_ N1_ := zNm.fr (hf.w hW) hsN1_ p3_ (by decide)
  show zW l m_T_makes (zn Mz + 0, zw Mz + 0) N1_ 7 [some (.ref 0), none] [] _
  have hbg_ := hp0_N1_
  refine zw_aload_n (pc := 7) (n := 0) (x := 0) rfl (zdal_p dlB_T_makes_121 (i := 3) rfl) ?_
  refine zw_getF (pc := 8) f_T_21 rfl ((hf_N1_.w hW).ka (o := 0) (by decide)) ((hf_N1_.w hW).la (o := 0) (s := 1) (r := 4) (by decide)) (zdal_p dlB_T_makes_121 (i := 4) rfl) ?_
  refine zw_aload_n (pc := 11) (n := 0) (x := 0) rfl (zdal_p dlB_T_makes_121 (i := 5) rfl) ?_
  refine zw_getF (pc := 12) f_T_28 rfl ((hf_N1_.w hW).ka (o := 0) (by decide)) (hf_N1_.now hnow) (zdal_p dlB_T_makes_121 (i := 6) rfl) ?_
  have hska_ := c5_
  have hnma_ := c6_
  have hs0_ : (ze N1_ 1 2).toNat = (zru zpB b_ n_ 0) := by have h0_ := hbg_; omega
  refine zk_callV hf_N1_.x (pc := 15) [.ref (d_ + 0)] [] l_T_281 (u_Reader_readWholeS l d_ N1_ (hf_N1_.w hW) b_ n_ (gF T_).length (gmkI T_) hTA_ nm_ c3_ hp1_N1_ c4_ c6_) rfl rfl ((hf_N1_.w hW).ka (o := 4) (by decide)) (by decide) (by decide) (Nat.le_of_ble_eq_true rfl) (zdal_p dlB_T_makes_121 (i := 7) rfl) ?_
  rintro _ N7_ ⟨v8_, rfl, ⟨hv8_a, hv8_b⟩, hsN7_, hp0_N7_⟩
  replace hp0_N7_ : ((v8_ = 1 ∧ (∃ q un : Nat, (zfe (zfs b_ n_ (gF T_).length (gmkI T_) nm_) (0, (ze N1_ 1 2).toNat, [], [], 0, false)) = (3, q, [], [zvc (gF T_).length d_ N7_ 21], un, false) ∧ zkd b_ n_ q = 0) ∧ zfit (gF T_).length (gmkI T_) (zvc (gF T_).length d_ N7_ 21) ∧ zLow d_ N1_ N7_) ∨ (v8_ = 0 ∧ (¬ ∃ v_ : Nat → Int, ∃ q un : Nat, (zfe (zfs b_ n_ (gF T_).length (gmkI T_) nm_) (0, (ze N1_ 1 2).toNat, [], [], 0, false)) = (3, q, [], [v_], un, false) ∧ zkd b_ n_ q = 0) ∧ zLow d_ N1_ N7_)) := hp0_N7_
  have hf_N7_ : zFc d_ [(1, 1), (1, 2), (1, 3), (1, 4), (1, 5), (4, 1), (4, 2), (4, 3)] [] [(0, 7), (0, 8), (33, 2), (33, 3), (33, 4), (33, 5), (33, 6)] [25, 27, 35] Mz N7_ := hf_N1_.tr hsN7_ (by decide) (by decide) (by decide) (by decide)
  have eA1_1_N7_ : ze N7_ 1 1 = ze N1_ 1 1 := hsN7_.ea (hf_N1_.w hW) (by decide)
  have rA1_2_N7_ := ze_r N7_ 1 2
  have c9_ : zYb b_ n_ N7_ := zYb.fr (hf_N1_.w hW) hsN7_ c3_ (by decide)
  have c10_ : zKm (gF T_).length (gmkI T_) d_ N7_ := zKm.fr (hf_N1_.w hW) hsN7_ c4_ (by decide)
  rcases hp0_N7_ with ⟨rfl, ha15_0_hp0_N7_, ha15_1_hp0_N7_, ha15_2_hp0_N7_⟩ | ⟨rfl, ha15_0_hp0_N7_, ha15_1_hp0_N7_⟩
  · skip
    have hfi_ := ha15_1_hp0_N7_
    have hlw_ := ha15_2_hp0_N7_
    have hz_ := ha15_0_hp0_N7_
    rw [hs0_] at hz_
    have hmk_ : zMkR b_ n_ (gF T_).length (gmkI T_) nm_ (zvc (gF T_).length d_ N7_ 21) := hz_
    have hsk1_ := zSK.fr hsN7_ hlw_ hF27_ hska_ (by decide)
    have hnm1_ := hnma_.l hsN7_ hlw_ hF27_ (by decide)
    show zW l m_T_makes (zn Mz + 0, zw Mz + 0) N7_ 18 [some (.ref 0), none] [.int (Int32.ofInt 1)] _
    refine zw_istore_n (pc := 18) (i := 1) (L2 := [some (.ref 0), some (.int (Int32.ofInt 1))]) rfl (by decide) rfl (zdal_p dlB_T_makes_121 (i := 8) rfl) ?_
    refine zw_aload_n (pc := 19) (n := 0) (x := 0) rfl (zdal_p dlB_T_makes_121 (i := 9) rfl) ?_
    refine zw_getF (pc := 20) f_T_10 rfl ((hf_N7_.w hW).ka (o := 0) (by decide)) ((hf_N7_.w hW).la (o := 0) (s := 0) (r := 1) (by decide)) (zdal_p dlB_T_makes_121 (i := 10) rfl) ?_
    refine zw_iconst (pc := 23) (v := Int32.ofInt 0) (by decide) (zdal_p dlB_T_makes_121 (i := 11) rfl) ?_
    refine zk_putA (pc := 24) (hf_N7_.w hW) (by decide) f_T_42 rfl rfl ((hf_N7_.w hW).ka (o := 1) (by decide)) ⟨by omega, by omega⟩ rfl rfl (zdal_p dlB_T_makes_121 (i := 12) rfl) (fun N11_ hsN11_ hvN11_ => ?_)
    have hf_N11_ : zFc d_ [(1, 1), (1, 2), (1, 3), (1, 4), (1, 5), (4, 1), (4, 2), (4, 3)] [] [(0, 7), (0, 8), (33, 2), (33, 3), (33, 4), (33, 5), (33, 6)] [25, 27, 35] Mz N11_ := hf_N7_.tr hsN11_ (by decide) (by decide) (by decide) (by decide)
    have rA1_1_N11_ := ze_r N11_ 1 1
    have eA1_2_N11_ : ze N11_ 1 2 = ze N7_ 1 2 := hsN11_.ea (hf_N7_.w hW) (by decide)
    have c12_ : zKm (gF T_).length (gmkI T_) d_ N11_ := zKm.fr (hf_N7_.w hW) hsN11_ c10_ (by decide)
    have c13_ : zSK (gF T_).length s_ d_ N11_ := zSKc.fr (hf_N7_.w hW) hsN11_ hsk1_ (by decide)
    have c14_ : zNm nm_ (gF T_).length (gmkI T_) d_ N11_ := zNm.fr (hf_N7_.w hW) hsN11_ hnm1_ (by decide)
    refine zw_iload_n (pc := 27) (n := 1) (x := Int32.ofInt 1) rfl (zdal_p dlB_T_makes_121 (i := 13) rfl) ?_
    refine zr_if_ne (pc := 28) (tgt := 33) ⟨(by decide), (by decide)⟩ (by decide) (zdal_p dlB_T_makes_121 (i := 14) rfl) (fun hc_28 => ?_) (fun hc_28 => ?_)
    · skip
      refine zw_aload_n (pc := 33) (n := 0) (x := 0) rfl (zdal_p dlB_T_makes_121 (i := 17) rfl) ?_
      refine zw_getF (pc := 34) f_T_28 rfl ((hf_N11_.w hW).ka (o := 0) (by decide)) (hf_N11_.now hnow) (zdal_p dlB_T_makes_121 (i := 18) rfl) ?_
      refine zw_bipush (pc := 37) (v := Int32.ofInt 21) (by decide) (zdal_p dlB_T_makes_121 (i := 19) rfl) ?_
      have hnmb_ := c14_
      refine zk_callV hf_N11_.x (pc := 39) [.int (Int32.ofInt 21)] [] l_T_284 (u_Troupe_becomeS l d_ N11_ (hf_N11_.w hW) 21 (by decide) (by decide) (gF T_).length (gmkI T_) hTA_ s_ c12_ c13_ (show ((1 ≤ 21 ∧ 21 ≤ 8) ∨ (21 ≤ 21 ∧ 21 ≤ 39)) by first | with_reducible assumption | assumption | omega)) rfl rfl ((hf_N11_.w hW).kr (o := 0) (by decide)) (by decide) (by decide) (Nat.le_of_ble_eq_true rfl) (zdal_p dlB_T_makes_121 (i := 20) rfl) ?_
      rintro _ N15_ ⟨rfl, hsN15_, ⟨hp0_N15_, hp1_N15_⟩⟩
      have hf_N15_ : zFc d_ [(1, 1), (1, 2), (1, 3), (1, 4), (1, 5), (4, 1), (4, 2), (4, 3)] [] [(0, 7), (0, 8), (33, 2), (33, 3), (33, 4), (33, 5), (33, 6)] [25, 27, 35] Mz N15_ := hf_N11_.tr hsN15_ (by decide) (by decide) (by decide) (by decide)
      have eA1_1_N15_ : ze N15_ 1 1 = ze N11_ 1 1 := hsN15_.ea (hf_N11_.w hW) (by decide)
      have eA1_2_N15_ : ze N15_ 1 2 = ze N11_ 1 2 := hsN15_.ea (hf_N11_.w hW) (by decide)
      have c17_ : zKm (gF T_).length (gmkI T_) d_ N15_ := zKm.fr (hf_N11_.w hW) hsN15_ c12_ (by decide)
      show zW l m_T_makes (zn Mz + 0, zw Mz + 0) N15_ 42 [some (.ref 0), some (.int (Int32.ofInt 1))] [] _
      have hq21_ := zvc_f (F := (gF T_).length) hsN11_ (by decide) 21
      have hsk2_ := hp0_N15_
      rw [hq21_] at hsk2_
      have hnm2_ := zNm.md hsN15_ hp1_N15_ hF27_ hnmb_ (by decide)
      have hcv_ := hsk2_.v
      refine zw_aload_n (pc := 42) (n := 0) (x := 0) rfl (zdal_p dlB_T_makes_121 (i := 21) rfl) ?_
      refine zw_getF (pc := 43) f_T_28 rfl ((hf_N15_.w hW).ka (o := 0) (by decide)) (hf_N15_.now hnow) (zdal_p dlB_T_makes_121 (i := 22) rfl) ?_
      refine zw_getF (pc := 46) f_T_169 rfl ((hf_N15_.w hW).kr (o := 0) (by decide)) ((hf_N15_.w hW).lr (o := 0) (s := 2) (r := 23) (by decide)) (zdal_p dlB_T_makes_121 (i := 23) rfl) ?_
      refine zw_iconst (pc := 49) (v := Int32.ofInt 0) (by decide) (zdal_p dlB_T_makes_122 (i := 0) rfl) ?_
      refine zk_callV hf_N15_.x (pc := 50) [.int (Int32.ofInt 0)] [] l_T_253 (u_Sums_partsOfS l d_ N15_ (hf_N15_.w hW) 0 (by decide) (by decide) (gF T_).length (gmkI T_) hTA_ c17_ (show 0 ≤ 0 by first | with_reducible assumption | assumption | omega) (show 0 ≤ 39 by first | with_reducible assumption | assumption | omega)) rfl rfl ((hf_N15_.w hW).kr (o := 23) (by decide)) (by decide) (by decide) (Nat.le_of_ble_eq_true rfl) (zdal_p dlB_T_makes_122 (i := 1) rfl) ?_
      rintro _ N18_ ⟨v19_, rfl, ⟨hv19_a, hv19_b⟩, hsN18_, hp0_N18_⟩
      obtain rfl := hsN18_.eq.symm
      replace hp0_N18_ : v19_ = ((znzc (zvc (gF T_).length d_ N15_ 0) (gF T_).length : Nat) : Int) := hp0_N18_
      show zW l m_T_makes (zn Mz + 0, zw Mz + 0) N15_ 53 [some (.ref 0), some (.int (Int32.ofInt 1))] [.int (Int32.ofInt v19_)] _
      have hv_ := hp0_N18_
      have hw_ := hv_.trans (congrArg (fun n_ : Nat => (n_ : Int)) (znzc_c (gF T_).length hcv_))
      exact zk_iret (pc := 53) (ty := .int) rfl rfl ⟨by omega, by omega⟩ hf_N15_ ⟨(show ze N15_ 1 1 = 0 by first | with_reducible assumption | assumption | omega), (show (((¬ ∃ w_ : Nat → Int, zMkR b_ n_ (gF T_).length (gmkI T_) nm_ w_) ∧ v19_ = -1 ∧ zSK (gF T_).length s_ d_ N15_) ∨ ∃ w_ : Nat → Int, zMkR b_ n_ (gF T_).length (gmkI T_) nm_ w_ ∧ zfit (gF T_).length (gmkI T_) w_ ∧ v19_ = ((znzc w_ (gF T_).length : Nat) : Int) ∧ zSK (gF T_).length (zpush s_ w_) d_ N15_) by exact Or.inr ⟨_, hmk_, hfi_, hw_, hsk2_⟩), hnm2_⟩ (zdal_p dlB_T_makes_122 (i := 2) rfl)
    · skip
      exact absurd hc_28 (by decide)
  · skip
    have hlw_ := ha15_1_hp0_N7_
    have hz_ := ha15_0_hp0_N7_
    rw [hs0_] at hz_
    have hno_ : (¬ ∃ w_ : Nat → Int, zMkR b_ n_ (gF T_).length (gmkI T_) nm_ w_) := hz_
    have hsk1_ := zSK.fr hsN7_ hlw_ hF27_ hska_ (by decide)
    have hnm1_ := hnma_.l hsN7_ hlw_ hF27_ (by decide)
    show zW l m_T_makes (zn Mz + 0, zw Mz + 0) N7_ 18 [some (.ref 0), none] [.int (Int32.ofInt 0)] _
    refine zw_istore_n (pc := 18) (i := 1) (L2 := [some (.ref 0), some (.int (Int32.ofInt 0))]) rfl (by decide) rfl (zdal_p dlB_T_makes_121 (i := 8) rfl) ?_
    refine zw_aload_n (pc := 19) (n := 0) (x := 0) rfl (zdal_p dlB_T_makes_121 (i := 9) rfl) ?_
    refine zw_getF (pc := 20) f_T_10 rfl ((hf_N7_.w hW).ka (o := 0) (by decide)) ((hf_N7_.w hW).la (o := 0) (s := 0) (r := 1) (by decide)) (zdal_p dlB_T_makes_121 (i := 10) rfl) ?_
    refine zw_iconst (pc := 23) (v := Int32.ofInt 0) (by decide) (zdal_p dlB_T_makes_121 (i := 11) rfl) ?_
    refine zk_putA (pc := 24) (hf_N7_.w hW) (by decide) f_T_42 rfl rfl ((hf_N7_.w hW).ka (o := 1) (by decide)) ⟨by omega, by omega⟩ rfl rfl (zdal_p dlB_T_makes_121 (i := 12) rfl) (fun N20_ hsN20_ hvN20_ => ?_)
    have hf_N20_ : zFc d_ [(1, 1), (1, 2), (1, 3), (1, 4), (1, 5), (4, 1), (4, 2), (4, 3)] [] [(0, 7), (0, 8), (33, 2), (33, 3), (33, 4), (33, 5), (33, 6)] [25, 27, 35] Mz N20_ := hf_N7_.tr hsN20_ (by decide) (by decide) (by decide) (by decide)
    have rA1_1_N20_ := ze_r N20_ 1 1
    have eA1_2_N20_ : ze N20_ 1 2 = ze N7_ 1 2 := hsN20_.ea (hf_N7_.w hW) (by decide)
    have c21_ : zKm (gF T_).length (gmkI T_) d_ N20_ := zKm.fr (hf_N7_.w hW) hsN20_ c10_ (by decide)
    have c22_ : zSK (gF T_).length s_ d_ N20_ := zSKc.fr (hf_N7_.w hW) hsN20_ hsk1_ (by decide)
    have c23_ : zNm nm_ (gF T_).length (gmkI T_) d_ N20_ := zNm.fr (hf_N7_.w hW) hsN20_ hnm1_ (by decide)
    refine zw_iload_n (pc := 27) (n := 1) (x := Int32.ofInt 0) rfl (zdal_p dlB_T_makes_121 (i := 13) rfl) ?_
    refine zr_if_ne (pc := 28) (tgt := 33) ⟨(by decide), (by decide)⟩ (by decide) (zdal_p dlB_T_makes_121 (i := 14) rfl) (fun hc_28 => ?_) (fun hc_28 => ?_)
    · skip
      exact absurd hc_28 (by decide)
    · skip
      refine zw_iconst (pc := 31) (v := Int32.ofInt (-1)) (by decide) (zdal_p dlB_T_makes_121 (i := 15) rfl) ?_
      exact zk_iret (pc := 32) (ty := .int) rfl rfl ⟨by omega, by omega⟩ hf_N20_ ⟨(show ze N20_ 1 1 = 0 by first | with_reducible assumption | assumption | omega), (show (((¬ ∃ w_ : Nat → Int, zMkR b_ n_ (gF T_).length (gmkI T_) nm_ w_) ∧ ((-1)) = -1 ∧ zSK (gF T_).length s_ d_ N20_) ∨ ∃ w_ : Nat → Int, zMkR b_ n_ (gF T_).length (gmkI T_) nm_ w_ ∧ zfit (gF T_).length (gmkI T_) w_ ∧ ((-1)) = ((znzc w_ (gF T_).length : Nat) : Int) ∧ zSK (gF T_).length (zpush s_ w_) d_ N20_) by exact Or.inl ⟨hno_, rfl, c22_⟩), c23_⟩ (zdal_p dlB_T_makes_121 (i := 16) rfl)
def zS00 : zSg := (fun _ => 0, 0, fun _ _ => 0)
def zqTrN (d d2 : Nat) (b : Nat → Int) (n : Nat) (M : zMem) : Option Value → zMem → Prop := fun r N => ∃ v : Int, r = some (.int (Int32.ofInt v)) ∧ zn32 v ∧ ze N 1 1 = 0 ∧ zSwp d d2 M N ∧ ((v = -1 ∧ zTrB b n (zru zpB b n 0) ∧ zf N = zf M ∧ ∀ q, d2 ≤ q → q < d2 + 38 → zi N q = zi M q ∧ zj N q = zj M q) ∨ ∃ P : Nat, ∃ mv : List Nat, ∃ T : zGT, ∃ nm : List (Int × (Nat → Int)), zTrN b n (zru zpB b n 0) P mv T nm ∧ v = (gN T : Int) ∧ (zf N 0 2 = some (d + 0) ∧ zf N 0 3 = some (d2 + 0)) ∧ zKS P mv T d N ∧ zNm nm (gF T).length (gmkI T) d N ∧ zSK (gF T).length zS00 d N)
theorem zFc.ot2 {d d2 : Nat} {FA : List (Nat × Nat)} {CA : List Nat} {FR : List (Nat × Nat)} {CR : List Nat} {M N : zMem} (hf : zFc d FA CA FR CR M N) (hd : (d = 5 ∧ d2 = 43) ∨ (d = 43 ∧ d2 = 5)) (hc : (∀ x ∈ FA, x.1 < 5) ∧ ∀ x ∈ CA, x < 5) : ∀ q, d2 ≤ q → q < d2 + 38 → zi N q = zi M q ∧ zj N q = zj M q := fun q h1 h2 =>
  hf.o (by omega) ⟨fun z => by have := hc.2 q z; omega, fun x hx e => by have := hc.1 x hx; omega⟩
theorem zk_swapN {l : Launch} {d d2 P : Nat} {mv : List Nat} {T : zGT} {nm : List (Int × (Nat → Int))} {b : Nat → Int} {n : Nat} {X : Nat × Nat} {M N : zMem} {x : Int} {FA : List (Nat × Nat)} {CA : List Nat} {FR : List (Nat × Nat)} {CR : List Nat} (hf : zFc d FA CA FR CR M N) (hW : zKW d M) (hnow : zf M 0 2 = some (d2 + 0)) (hc : (∀ x ∈ FA, x.1 < 81) ∧ ∀ x ∈ CA, x < 81) (hl : ze N 1 1 = 0) (hp : zTrN b n (zru zpB b n 0) P mv T nm) (hs : zKS P mv T d N) (hnm : zNm nm (gF T).length (gmkI T) d N) (hsk : zSK (gF T).length zS00 d N) : zW l m_T_troupe X N 71 [some (.ref 0), some (.ref (d + 0)), some (.int (Int32.ofInt x))] [] (zqTrN d d2 b n M) := by
  have hWN := hf.w hW
  have hd := hW.2.1
  have hn2 := hf.sp hnow
  refine zw_aload_n (pc := 71) (n := 0) (x := 0) rfl (zdal_p dlA_T_troupe_68 (i := 13) rfl) ?_
  refine zw_aload_n (pc := 72) (n := 0) (x := 0) rfl (zdal_p dlA_T_troupe_68 (i := 14) rfl) ?_
  refine zw_getF (pc := 73) f_T_28 rfl (hWN.ka (o := 0) (by decide)) hn2 (zdal_p dlA_T_troupe_68 (i := 15) rfl) ?_
  refine zw_putR (pc := 76) (x := d2 + 0) (Or.inl ⟨f_T_32, rfl⟩) rfl (hWN.ka (o := 0) (by decide)) (fun _ => rfl) (fun _ => rfl) (zdal_p dlA_T_troupe_68 (i := 16) rfl) ?_
  refine zw_aload_n (pc := 79) (n := 0) (x := 0) rfl (zdal_p dlA_T_troupe_68 (i := 17) rfl) ?_
  refine zw_aload_n (pc := 80) (n := 1) (x := d + 0) rfl (zdal_p dlA_T_troupe_68 (i := 18) rfl) ?_
  refine zw_putR (pc := 81) (x := d + 0) (Or.inl ⟨f_T_28, rfl⟩) rfl (hWN.ka (o := 0) (by decide)) (fun _ => rfl) (fun _ => rfl) (zdal_p dlA_T_troupe_68 (i := 19) rfl) ?_
  refine zw_aload_n (pc := 84) (n := 0) (x := 0) rfl (zdal_p dlA_T_troupe_68 (i := 20) rfl) ?_
  refine zw_getF (pc := 85) (r := d + 0) f_T_28 rfl (hWN.ka (o := 0) (by decide)) (show zup2 (zup2 (zf N) 0 3 (some (d2 + 0))) 0 2 (some (d + 0)) 0 2 = some (d + 0) from zup2_s) (zdal_p dlA_T_troupe_68 (i := 21) rfl) ?_
  have hg : zf (zsF (zsF N 0 3 (some (d2 + 0))) 0 2 (some (d + 0))) (d + 0) 0 = some (d + 1) := by
    show zup2 (zup2 (zf N) 0 3 _) 0 2 _ (d + 0) 0 = _
    rw [zup2_q (by omega), zup2_q (by omega)]
    exact hWN.lr (o := 0) (s := 0) (r := 1) (by decide)
  refine zw_getF (pc := 88) f_T_61 rfl (hWN.kr (o := 0) (by decide)) hg (zdal_p dlA_T_troupe_68 (i := 22) rfl) ?_
  refine zw_getI (pc := 91) f_T_65 rfl (hWN.kr (o := 1) (by decide)) (zdal_p dlA_T_troupe_68 (i := 23) rfl) ?_
  have hu1 : zup2 (zup2 (zf N) 0 3 (some (d2 + 0))) 0 2 (some (d + 0)) 0 2 = some (d + 0) := zup2_s
  have hu2 : zup2 (zup2 (zf N) 0 3 (some (d2 + 0))) 0 2 (some (d + 0)) 0 3 = some (d2 + 0) := by
    rw [zup2_n (fun z => absurd z.2 (by decide))]
    exact zup2_s
  have hsz := hs.2.1.2.1
  refine zw_iret (S := []) (pc := 94) (ty := .int) rfl rfl (zdal_p dlA_T_troupe_69 (i := 0) rfl) ⟨ze N (d + 1) 7, ?_, ze_r N (d + 1) 7, hl, ?_, Or.inr ⟨P, mv, T, nm, hp, hsz, ⟨hu1, hu2⟩, hs, hnm, hsk⟩⟩
  · show some (Value.int (zi N (d + 1) 7)) = _
    rw [ze_of]
  · have h0 := zSwp_0 (d2 := d2) hf hW hc
    obtain ⟨a1, a2, a3, a4⟩ := h0
    have hfN : ∀ q j, ¬ (q = 0 ∧ (j = 2 ∨ j = 3)) → zf (zsF (zsF N 0 3 (some (d2 + 0))) 0 2 (some (d + 0))) q j = zf M q j := fun q j hqj => by
      show zup2 (zup2 (zf N) 0 3 _) 0 2 _ q j = _
      rw [zup2_n (fun z => hqj ⟨z.1, Or.inl z.2⟩), zup2_n (fun z => hqj ⟨z.1, Or.inr z.2⟩), hf.2.2.1]
    exact ⟨a1, a2, fun q hq => ⟨(a3 q hq).1, (a3 q hq).2.1, funext fun j => hfN q j (fun z => by omega)⟩, Or.inr ⟨hu1, hu2, hfN⟩⟩
set_option maxHeartbeats 4000000 in
theorem u_Troupe_beginN (l : Launch) (d_ : Nat) (Mz : zMem) (hW : zKW d_ Mz) (a0_ : Int) (ha0_a : -2147483648 ≤ a0_) (ha0_b : a0_ < 2147483648) (P_ : Nat) (p0_ : a0_ = P_) (p1_ : 1 ≤ P_) (p2_ : P_ ≤ 6) : zC l m_Troupe_begin 0 0 [.ref (d_ + 0), .int (Int32.ofInt a0_)] Mz (zqcV d_ [] [] [(0, 6), (0, 7), (0, 8), (1, 5), (1, 6), (1, 7)] [5] Mz (fun N => zMvK [] P_ d_ N ∧ zGg [] P_ d_ N ∧ ze N (d_ + 0) 6 = 0 ∧ ze N (d_ + 0) 7 = 0 ∧ ze N (d_ + 0) 8 = 0)) := by
  refine zC_of (L0 := [some (.ref (d_ + 0)), some (.int (Int32.ofInt a0_))]) md_Troupe_begin (Nat.le_of_ble_eq_true rfl) rfl ?_ zQ0
  have hf : zFc d_ [] [] [(0, 6), (0, 7), (0, 8), (1, 5), (1, 6), (1, 7)] [5] Mz Mz := zFc.rf
  have r_D0_6 := ze_r Mz (d_ + 0) 6
  have r_D0_7 := ze_r Mz (d_ + 0) 7
  have r_D0_8 := ze_r Mz (d_ + 0) 8
  refine zw_aload_n (pc := 0) (n := 0) (x := (d_ + 0)) rfl (zdal_p dlA_Troupe_begin_15 (i := 0) rfl) ?_
  refine zw_getF (pc := 1) f_Troupe_12 rfl ((hf.w hW).kr (o := 0) (by decide)) ((hf.w hW).lr (o := 0) (s := 0) (r := 1) (by decide)) (zdal_p dlA_Troupe_begin_15 (i := 1) rfl) ?_
  refine zw_iload_n (pc := 4) (n := 1) (x := Int32.ofInt a0_) rfl (zdal_p dlA_Troupe_begin_15 (i := 2) rfl) ?_
  refine zk_callV hf.x (pc := 5) [.int (Int32.ofInt a0_)] [] l_Troupe_61 (u_Group_begin l d_ Mz (hf.w hW) a0_ ha0_a ha0_b P_ (show a0_ = P_ by first | with_reducible assumption | assumption | omega) (show 1 ≤ P_ by first | with_reducible assumption | assumption | omega) (show P_ ≤ 6 by first | with_reducible assumption | assumption | omega)) rfl rfl ((hf.w hW).kr (o := 1) (by decide)) (by decide) (by decide) (Nat.le_of_ble_eq_true rfl) (zdal_p dlA_Troupe_begin_15 (i := 3) rfl) ?_
  rintro _ N1_ ⟨rfl, hsN1_, ⟨hp0_N1_, hp1_N1_⟩⟩
  have hf_N1_ : zFc d_ [] [] [(0, 6), (0, 7), (0, 8), (1, 5), (1, 6), (1, 7)] [5] Mz N1_ := hf.tr hsN1_ (by decide) (by decide) (by decide) (by decide)
  have eD0_6_N1_ : ze N1_ (d_ + 0) 6 = ze Mz (d_ + 0) 6 := hsN1_.e (by decide)
  have eD0_7_N1_ : ze N1_ (d_ + 0) 7 = ze Mz (d_ + 0) 7 := hsN1_.e (by decide)
  have eD0_8_N1_ : ze N1_ (d_ + 0) 8 = ze Mz (d_ + 0) 8 := hsN1_.e (by decide)
  show zW l m_Troupe_begin (zn Mz + 0, zw Mz + 0) N1_ 8 [some (.ref (d_ + 0)), some (.int (Int32.ofInt a0_))] [] _
  refine zw_aload_n (pc := 8) (n := 0) (x := (d_ + 0)) rfl (zdal_p dlA_Troupe_begin_15 (i := 4) rfl) ?_
  refine zw_iconst (pc := 9) (v := Int32.ofInt 0) (by decide) (zdal_p dlA_Troupe_begin_15 (i := 5) rfl) ?_
  refine zk_putR (pc := 10) (o := 0) (by decide) f_Troupe_64 rfl rfl ((hf_N1_.w hW).kr (o := 0) (by decide)) ⟨by omega, by omega⟩ rfl rfl (zdal_p dlA_Troupe_begin_15 (i := 6) rfl) (fun N3_ hsN3_ hvN3_ => ?_)
  have hf_N3_ : zFc d_ [] [] [(0, 6), (0, 7), (0, 8), (1, 5), (1, 6), (1, 7)] [5] Mz N3_ := hf_N1_.tr hsN3_ (by decide) (by decide) (by decide) (by decide)
  have rD0_6_N3_ := ze_r N3_ (d_ + 0) 6
  have eD0_7_N3_ : ze N3_ (d_ + 0) 7 = ze N1_ (d_ + 0) 7 := hsN3_.e (by decide)
  have eD0_8_N3_ : ze N3_ (d_ + 0) 8 = ze N1_ (d_ + 0) 8 := hsN3_.e (by decide)
  have c4_ : zMvK [] P_ d_ N3_ := zMvK.fr (hf_N1_.w hW) hsN3_ hp0_N1_ (by decide)
  have c5_ : zGg [] P_ d_ N3_ := zGg.fr (hf_N1_.w hW) hsN3_ hp1_N1_ (by decide)
  refine zw_aload_n (pc := 13) (n := 0) (x := (d_ + 0)) rfl (zdal_p dlA_Troupe_begin_15 (i := 7) rfl) ?_
  refine zw_iconst (pc := 14) (v := Int32.ofInt 0) (by decide) (zdal_p dlA_Troupe_begin_15 (i := 8) rfl) ?_
  refine zk_putR (pc := 15) (o := 0) (by decide) f_Troupe_68 rfl rfl ((hf_N3_.w hW).kr (o := 0) (by decide)) ⟨by omega, by omega⟩ rfl rfl (zdal_p dlA_Troupe_begin_15 (i := 9) rfl) (fun N6_ hsN6_ hvN6_ => ?_)
  have hf_N6_ : zFc d_ [] [] [(0, 6), (0, 7), (0, 8), (1, 5), (1, 6), (1, 7)] [5] Mz N6_ := hf_N3_.tr hsN6_ (by decide) (by decide) (by decide) (by decide)
  have eD0_6_N6_ : ze N6_ (d_ + 0) 6 = ze N3_ (d_ + 0) 6 := hsN6_.e (by decide)
  have rD0_7_N6_ := ze_r N6_ (d_ + 0) 7
  have eD0_8_N6_ : ze N6_ (d_ + 0) 8 = ze N3_ (d_ + 0) 8 := hsN6_.e (by decide)
  have c7_ : zMvK [] P_ d_ N6_ := zMvK.fr (hf_N3_.w hW) hsN6_ c4_ (by decide)
  have c8_ : zGg [] P_ d_ N6_ := zGg.fr (hf_N3_.w hW) hsN6_ c5_ (by decide)
  refine zw_aload_n (pc := 18) (n := 0) (x := (d_ + 0)) rfl (zdal_p dlA_Troupe_begin_15 (i := 10) rfl) ?_
  refine zw_iconst (pc := 19) (v := Int32.ofInt 0) (by decide) (zdal_p dlA_Troupe_begin_15 (i := 11) rfl) ?_
  refine zk_putR (pc := 20) (o := 0) (by decide) f_Troupe_71 rfl rfl ((hf_N6_.w hW).kr (o := 0) (by decide)) ⟨by omega, by omega⟩ rfl rfl (zdal_p dlA_Troupe_begin_15 (i := 12) rfl) (fun N9_ hsN9_ hvN9_ => ?_)
  have hf_N9_ : zFc d_ [] [] [(0, 6), (0, 7), (0, 8), (1, 5), (1, 6), (1, 7)] [5] Mz N9_ := hf_N6_.tr hsN9_ (by decide) (by decide) (by decide) (by decide)
  have eD0_6_N9_ : ze N9_ (d_ + 0) 6 = ze N6_ (d_ + 0) 6 := hsN9_.e (by decide)
  have eD0_7_N9_ : ze N9_ (d_ + 0) 7 = ze N6_ (d_ + 0) 7 := hsN9_.e (by decide)
  have rD0_8_N9_ := ze_r N9_ (d_ + 0) 8
  have c10_ : zMvK [] P_ d_ N9_ := zMvK.fr (hf_N6_.w hW) hsN9_ c7_ (by decide)
  have c11_ : zGg [] P_ d_ N9_ := zGg.fr (hf_N6_.w hW) hsN9_ c8_ (by decide)
  exact zk_vret (pc := 23) rfl hf_N9_ ⟨c10_, c11_, (show ze N9_ (d_ + 0) 6 = 0 by first | with_reducible assumption | assumption | omega), (show ze N9_ (d_ + 0) 7 = 0 by first | with_reducible assumption | assumption | omega), (show ze N9_ (d_ + 0) 8 = 0 by first | with_reducible assumption | assumption | omega)⟩ (zdal_p dlA_Troupe_begin_15 (i := 13) rfl)
set_option maxHeartbeats 4000000 in
theorem u_Reader_readPlacesN (l : Launch) (d_ : Nat) (Mz : zMem) (hW : zKW d_ Mz) (b_ : Nat → Int) (n_ : Nat) (p0_ : zYb b_ n_ Mz) (p1_ : zYt b_ n_ Mz) : zC l m_Reader_readPlaces 0 0 [.ref 4, .ref (d_ + 0)] Mz (zqcI d_ [(1, 2), (1, 3), (1, 4), (1, 5), (4, 2), (4, 3)] [] [(0, 6), (0, 7), (0, 8), (1, 5), (1, 6), (1, 7)] [5] Mz (fun v N => zYt b_ n_ N ∧ (((v = 1 ∧ (∃ P : Nat, zHd b_ n_ (ze Mz 1 2).toNat P (ze N 1 2).toNat ∧ zMvK [] P d_ N ∧ zGg [] P d_ N) ∧ ze N (d_ + 0) 6 = 0 ∧ ze N (d_ + 0) 7 = 0 ∧ ze N (d_ + 0) 8 = 0) ∨ (v = 0 ∧ ¬ ∃ P q, zHd b_ n_ (ze Mz 1 2).toNat P q))))) := by
  refine zC_of (L0 := [some (.ref 4), some (.ref (d_ + 0))]) md_Reader_readPlaces (Nat.le_of_ble_eq_true rfl) rfl ?_ zQ0
  have hf : zFc d_ [(1, 2), (1, 3), (1, 4), (1, 5), (4, 2), (4, 3)] [] [(0, 6), (0, 7), (0, 8), (1, 5), (1, 6), (1, 7)] [5] Mz Mz := zFc.rf
  have r_A1_2 := ze_r Mz 1 2
  have r_A1_3 := ze_r Mz 1 3
  have r_A1_5 := ze_r Mz 1 5
  have r_D0_6 := ze_r Mz (d_ + 0) 6
  have r_D0_7 := ze_r Mz (d_ + 0) 7
  have r_D0_8 := ze_r Mz (d_ + 0) 8
  refine zw_aload_n (pc := 0) (n := 0) (x := 4) rfl (zdal_p dlA_Reader_readPlaces_87 (i := 0) rfl) ?_
  refine zw_getF (pc := 1) f_Reader_15 rfl ((hf.w hW).ka (o := 4) (by decide)) ((hf.w hW).la (o := 4) (s := 0) (r := 1) (by decide)) (zdal_p dlA_Reader_readPlaces_87 (i := 1) rfl) ?_
  refine zw_ldcs (pc := 4) (i := 0) (List.mem_of_getElem? (i := 0) rfl) (zdal_p dlA_Reader_readPlaces_87 (i := 2) rfl) ?_
  refine zk_callV hf.x (pc := 6) [.ref (zK 0)] [] l_Reader_49 (u_Tokens_isWord l d_ Mz (hf.w hW) 0 (by decide) b_ n_ p0_ p1_) rfl rfl ((hf.w hW).ka (o := 1) (by decide)) (by decide) (by decide) (Nat.le_of_ble_eq_true rfl) (zdal_p dlA_Reader_readPlaces_87 (i := 3) rfl) ?_
  rintro _ N1_ ⟨v2_, rfl, ⟨hv2_a, hv2_b⟩, hsN1_, hp0_N1_⟩
  obtain rfl := hsN1_.eq.symm
  replace hp0_N1_ : ((v2_ = 1 ∧ zkd b_ n_ (ze Mz 1 2).toNat = 1 ∧ zkey b_ n_ (ze Mz 1 2).toNat = zkw 0) ∨ (v2_ = 0 ∧ ¬ (zkd b_ n_ (ze Mz 1 2).toNat = 1 ∧ zkey b_ n_ (ze Mz 1 2).toNat = zkw 0))) := hp0_N1_
  rcases hp0_N1_ with ⟨rfl, ha6_0_hp0_N1_, ha6_1_hp0_N1_⟩ | ⟨rfl, ha6_0_hp0_N1_⟩
  · skip
    have hl0_ := And.intro ha6_0_hp0_N1_ ha6_1_hp0_N1_
    show zW l m_Reader_readPlaces (zn Mz + 0, zw Mz + 0) Mz 9 [some (.ref 4), some (.ref (d_ + 0))] [.int (Int32.ofInt 1)] _
    refine zr_if_ne (pc := 9) (tgt := 18) ⟨(by decide), (by decide)⟩ (by decide) (zdal_p dlA_Reader_readPlaces_87 (i := 4) rfl) (fun hc_9 => ?_) (fun hc_9 => ?_)
    · skip
      have hyt_ := p1_
      have hyx_ := hyt_.x
      refine zw_aload_n (pc := 18) (n := 0) (x := 4) rfl (zdal_p dlA_Reader_readPlaces_87 (i := 9) rfl) ?_
      refine zw_getF (pc := 19) f_Reader_15 rfl ((hf.w hW).ka (o := 4) (by decide)) ((hf.w hW).la (o := 4) (s := 0) (r := 1) (by decide)) (zdal_p dlA_Reader_readPlaces_87 (i := 10) rfl) ?_
      refine zk_callV hf.x (pc := 22) [] [] l_Reader_44 (u_Tokens_step l d_ Mz (hf.w hW) b_ n_ p0_ (show 0 ≤ ze Mz 1 3 by first | with_reducible assumption | assumption | omega) (show ze Mz 1 3 ≤ n_ by first | with_reducible assumption | assumption | omega)) rfl rfl ((hf.w hW).ka (o := 1) (by decide)) (by decide) (by decide) (Nat.le_of_ble_eq_true rfl) (zdal_p dlA_Reader_readPlaces_87 (i := 11) rfl) ?_
      rintro _ N3_ ⟨rfl, hsN3_, ⟨hp0_N3_, hp1_N3_⟩⟩
      have hf_N3_ : zFc d_ [(1, 2), (1, 3), (1, 4), (1, 5), (4, 2), (4, 3)] [] [(0, 6), (0, 7), (0, 8), (1, 5), (1, 6), (1, 7)] [5] Mz N3_ := hf.tr hsN3_ (by decide) (by decide) (by decide) (by decide)
      have rA1_2_N3_ := ze_r N3_ 1 2
      have rA1_3_N3_ := ze_r N3_ 1 3
      have rA1_5_N3_ := ze_r N3_ 1 5
      have eD0_6_N3_ : ze N3_ (d_ + 0) 6 = ze Mz (d_ + 0) 6 := hsN3_.e (by decide)
      have eD0_7_N3_ : ze N3_ (d_ + 0) 7 = ze Mz (d_ + 0) 7 := hsN3_.e (by decide)
      have eD0_8_N3_ : ze N3_ (d_ + 0) 8 = ze Mz (d_ + 0) 8 := hsN3_.e (by decide)
      have c5_ : zYb b_ n_ N3_ := zYb.fr (hf.w hW) hsN3_ p0_ (by decide)
      show zW l m_Reader_readPlaces (zn Mz + 0, zw Mz + 0) N3_ 25 [some (.ref 4), some (.ref (d_ + 0))] [] _
      have hnn_ := hyt_.n hp0_N3_
      have hx1_ : (ze N3_ 1 2).toNat = znx b_ n_ (ze Mz 1 2).toNat := hnn_.2
      refine zw_aload_n (pc := 25) (n := 0) (x := 4) rfl (zdal_p dlA_Reader_readPlaces_87 (i := 12) rfl) ?_
      refine zw_getF (pc := 26) f_Reader_15 rfl ((hf_N3_.w hW).ka (o := 4) (by decide)) ((hf_N3_.w hW).la (o := 4) (s := 0) (r := 1) (by decide)) (zdal_p dlA_Reader_readPlaces_87 (i := 13) rfl) ?_
      refine zk_callV hf_N3_.x (pc := 29) [] [] l_Reader_53 (u_Tokens_isNumber l d_ N3_ (hf_N3_.w hW) b_ n_ hp1_N3_) rfl rfl ((hf_N3_.w hW).ka (o := 1) (by decide)) (by decide) (by decide) (Nat.le_of_ble_eq_true rfl) (zdal_p dlA_Reader_readPlaces_87 (i := 14) rfl) ?_
      rintro _ N6_ ⟨v7_, rfl, ⟨hv7_a, hv7_b⟩, hsN6_, hp0_N6_⟩
      obtain rfl := hsN6_.eq.symm
      replace hp0_N6_ : ((v7_ = 1 ∧ zkd b_ n_ (ze N3_ 1 2).toNat = 2) ∨ (v7_ = 0 ∧ zkd b_ n_ (ze N3_ 1 2).toNat ≠ 2)) := hp0_N6_
      rcases hp0_N6_ with ⟨rfl, ha29_0_hp0_N6_⟩ | ⟨rfl, ha29_0_hp0_N6_⟩
      · skip
        have hk2_ := ha29_0_hp0_N6_
        have hv2_ := hp1_N3_.v2 hk2_
        rw [hx1_] at hk2_ hv2_
        show zW l m_Reader_readPlaces (zn Mz + 0, zw Mz + 0) N3_ 32 [some (.ref 4), some (.ref (d_ + 0))] [.int (Int32.ofInt 1)] _
        refine zr_if_ne (pc := 32) (tgt := 41) ⟨(by decide), (by decide)⟩ (by decide) (zdal_p dlA_Reader_readPlaces_87 (i := 15) rfl) (fun hc_32 => ?_) (fun hc_32 => ?_)
        · skip
          refine zw_aload_n (pc := 41) (n := 0) (x := 4) rfl (zdal_p dlA_Reader_readPlaces_87 (i := 20) rfl) ?_
          refine zw_getF (pc := 42) f_Reader_15 rfl ((hf_N3_.w hW).ka (o := 4) (by decide)) ((hf_N3_.w hW).la (o := 4) (s := 0) (r := 1) (by decide)) (zdal_p dlA_Reader_readPlaces_87 (i := 21) rfl) ?_
          refine zk_getI (pc := 45) f_Reader_57 rfl ((hf_N3_.w hW).ka (o := 1) (by decide)) (zdal_p dlA_Reader_readPlaces_87 (i := 22) rfl) ?_
          refine zw_iconst (pc := 48) (v := Int32.ofInt 1) (by decide) (zdal_p dlA_Reader_readPlaces_87 (i := 23) rfl) ?_
          refine zr_icmp_lt (pc := 49) (tgt := 64) ⟨(ze_r N3_ 1 5).1, (ze_r N3_ 1 5).2⟩ ⟨(by decide), (by decide)⟩ (by decide) (zdal_p dlA_Reader_readPlaces_88 (i := 0) rfl) (fun hc_49 => ?_) (fun hc_49 => ?_)
          · skip
            refine zw_aload_n (pc := 64) (n := 0) (x := 4) rfl (zdal_p dlA_Reader_readPlaces_88 (i := 6) rfl) ?_
            refine zw_iconst (pc := 65) (v := Int32.ofInt 4) (by decide) (zdal_p dlA_Reader_readPlaces_88 (i := 7) rfl) ?_
            refine zk_callV hf_N3_.x (pc := 66) [.int (Int32.ofInt 4)] [] l_Reader_41 (u_Reader_refuse l d_ N3_ (hf_N3_.w hW) 4 (by decide) (by decide)) rfl rfl ((hf_N3_.w hW).ka (o := 4) (by decide)) (by decide) (by decide) (Nat.le_of_ble_eq_true rfl) (zdal_p dlA_Reader_readPlaces_88 (i := 8) rfl) ?_
            rintro _ N8_ ⟨v9_, rfl, ⟨hv9_a, hv9_b⟩, hsN8_, hp0_N8_⟩
            replace hp0_N8_ : ((v9_ = 0)) := hp0_N8_
            have hf_N8_ : zFc d_ [(1, 2), (1, 3), (1, 4), (1, 5), (4, 2), (4, 3)] [] [(0, 6), (0, 7), (0, 8), (1, 5), (1, 6), (1, 7)] [5] Mz N8_ := hf_N3_.tr hsN8_ (by decide) (by decide) (by decide) (by decide)
            have eA1_2_N8_ : ze N8_ 1 2 = ze N3_ 1 2 := hsN8_.ea (hf_N3_.w hW) (by decide)
            have eA1_3_N8_ : ze N8_ 1 3 = ze N3_ 1 3 := hsN8_.ea (hf_N3_.w hW) (by decide)
            have eA1_5_N8_ : ze N8_ 1 5 = ze N3_ 1 5 := hsN8_.ea (hf_N3_.w hW) (by decide)
            have eD0_6_N8_ : ze N8_ (d_ + 0) 6 = ze N3_ (d_ + 0) 6 := hsN8_.e (by decide)
            have eD0_7_N8_ : ze N8_ (d_ + 0) 7 = ze N3_ (d_ + 0) 7 := hsN8_.e (by decide)
            have eD0_8_N8_ : ze N8_ (d_ + 0) 8 = ze N3_ (d_ + 0) 8 := hsN8_.e (by decide)
            have c10_ : zYb b_ n_ N8_ := zYb.fr (hf_N3_.w hW) hsN8_ c5_ (by decide)
            have c11_ : zYt b_ n_ N8_ := zYt.fr (hf_N3_.w hW) hsN8_ hp1_N3_ (by decide)
            rcases hp0_N8_ with rfl
            · skip
              show zW l m_Reader_readPlaces (zn Mz + 0, zw Mz + 0) N8_ 69 [some (.ref 4), some (.ref (d_ + 0))] [.int (Int32.ofInt 0)] _
              exact zk_iret (pc := 69) (ty := .boolean) rfl (z_narB (by omega)) ⟨by omega, by omega⟩ hf_N8_ ⟨c11_, (show ((0 = 1 ∧ (∃ P : Nat, zHd b_ n_ (ze Mz 1 2).toNat P (ze N8_ 1 2).toNat ∧ zMvK [] P d_ N8_ ∧ zGg [] P d_ N8_) ∧ ze N8_ (d_ + 0) 6 = 0 ∧ ze N8_ (d_ + 0) 7 = 0 ∧ ze N8_ (d_ + 0) 8 = 0) ∨ (0 = 0 ∧ ¬ ∃ P q, zHd b_ n_ (ze Mz 1 2).toNat P q)) from Or.inr (⟨(show 0 = 0 by first | rfl | exact hrt_ | (rintro ⟨P, q, h⟩; have h2_ := h.2.1; omega)), (show ¬ ∃ P q, zHd b_ n_ (ze Mz 1 2).toNat P q by first | rfl | exact hrt_ | (rintro ⟨P, q, h⟩; have h2_ := h.2.1; omega))⟩))⟩ (zdal_p dlA_Reader_readPlaces_88 (i := 9) rfl)
          · skip
            refine zw_aload_n (pc := 52) (n := 0) (x := 4) rfl (zdal_p dlA_Reader_readPlaces_88 (i := 1) rfl) ?_
            refine zw_getF (pc := 53) f_Reader_15 rfl ((hf_N3_.w hW).ka (o := 4) (by decide)) ((hf_N3_.w hW).la (o := 4) (s := 0) (r := 1) (by decide)) (zdal_p dlA_Reader_readPlaces_88 (i := 2) rfl) ?_
            refine zk_getI (pc := 56) f_Reader_57 rfl ((hf_N3_.w hW).ka (o := 1) (by decide)) (zdal_p dlA_Reader_readPlaces_88 (i := 3) rfl) ?_
            refine zw_bipush (pc := 59) (v := Int32.ofInt 6) (by decide) (zdal_p dlA_Reader_readPlaces_88 (i := 4) rfl) ?_
            refine zr_icmp_le (pc := 61) (tgt := 70) ⟨(ze_r N3_ 1 5).1, (ze_r N3_ 1 5).2⟩ ⟨(by decide), (by decide)⟩ (by decide) (zdal_p dlA_Reader_readPlaces_88 (i := 5) rfl) (fun hc_61 => ?_) (fun hc_61 => ?_)
            · skip
              refine zw_aload_n (pc := 70) (n := 1) (x := (d_ + 0)) rfl (zdal_p dlA_Reader_readPlaces_88 (i := 10) rfl) ?_
              refine zw_aload_n (pc := 71) (n := 0) (x := 4) rfl (zdal_p dlA_Reader_readPlaces_88 (i := 11) rfl) ?_
              refine zw_getF (pc := 72) f_Reader_15 rfl ((hf_N3_.w hW).ka (o := 4) (by decide)) ((hf_N3_.w hW).la (o := 4) (s := 0) (r := 1) (by decide)) (zdal_p dlA_Reader_readPlaces_88 (i := 12) rfl) ?_
              refine zk_getI (pc := 75) f_Reader_57 rfl ((hf_N3_.w hW).ka (o := 1) (by decide)) (zdal_p dlA_Reader_readPlaces_88 (i := 13) rfl) ?_
              refine zk_callV hf_N3_.x (pc := 78) [.int (Int32.ofInt (ze N3_ 1 5))] [] l_Reader_60 (u_Troupe_beginN l d_ N3_ (hf_N3_.w hW) (ze N3_ 1 5) (ze_r N3_ 1 5).1 (ze_r N3_ 1 5).2 (ze N3_ 1 5).toNat (show (ze N3_ 1 5) = (ze N3_ 1 5).toNat by omega) (show 1 ≤ (ze N3_ 1 5).toNat by omega) (show (ze N3_ 1 5).toNat ≤ 6 by omega)) rfl rfl ((hf_N3_.w hW).kr (o := 0) (by decide)) (by decide) (by decide) (Nat.le_of_ble_eq_true rfl) (zdal_p dlA_Reader_readPlaces_88 (i := 14) rfl) ?_
              rintro _ N12_ ⟨rfl, hsN12_, ⟨hp0_N12_, hp1_N12_, hp2_N12_, hp3_N12_, hp4_N12_⟩⟩
              have hf_N12_ : zFc d_ [(1, 2), (1, 3), (1, 4), (1, 5), (4, 2), (4, 3)] [] [(0, 6), (0, 7), (0, 8), (1, 5), (1, 6), (1, 7)] [5] Mz N12_ := hf_N3_.tr hsN12_ (by decide) (by decide) (by decide) (by decide)
              have eA1_2_N12_ : ze N12_ 1 2 = ze N3_ 1 2 := hsN12_.ea (hf_N3_.w hW) (by decide)
              have eA1_3_N12_ : ze N12_ 1 3 = ze N3_ 1 3 := hsN12_.ea (hf_N3_.w hW) (by decide)
              have eA1_5_N12_ : ze N12_ 1 5 = ze N3_ 1 5 := hsN12_.ea (hf_N3_.w hW) (by decide)
              have rD0_6_N12_ := ze_r N12_ (d_ + 0) 6
              have rD0_7_N12_ := ze_r N12_ (d_ + 0) 7
              have rD0_8_N12_ := ze_r N12_ (d_ + 0) 8
              have c14_ : zYb b_ n_ N12_ := zYb.fr (hf_N3_.w hW) hsN12_ c5_ (by decide)
              have c15_ : zYt b_ n_ N12_ := zYt.fr (hf_N3_.w hW) hsN12_ hp1_N3_ (by decide)
              show zW l m_Reader_readPlaces (zn Mz + 0, zw Mz + 0) N12_ 81 [some (.ref 4), some (.ref (d_ + 0))] [] _
              have hb0_ := hp0_N12_
              have hb1_ := hp1_N12_
              have hb2_ := hp2_N12_
              obtain ⟨P_, hP_⟩ : ∃ P_ : Nat, P_ = (ze N3_ 1 5).toNat := ⟨_, rfl⟩
              rw [← hP_] at hb0_ hb1_
              have hyt_ := c15_
              have hyx_ := hyt_.x
              refine zw_aload_n (pc := 81) (n := 0) (x := 4) rfl (zdal_p dlA_Reader_readPlaces_88 (i := 15) rfl) ?_
              refine zw_getF (pc := 82) f_Reader_15 rfl ((hf_N12_.w hW).ka (o := 4) (by decide)) ((hf_N12_.w hW).la (o := 4) (s := 0) (r := 1) (by decide)) (zdal_p dlA_Reader_readPlaces_88 (i := 16) rfl) ?_
              refine zk_callV hf_N12_.x (pc := 85) [] [] l_Reader_44 (u_Tokens_step l d_ N12_ (hf_N12_.w hW) b_ n_ c14_ (show 0 ≤ ze N12_ 1 3 by first | with_reducible assumption | assumption | omega) (show ze N12_ 1 3 ≤ n_ by first | with_reducible assumption | assumption | omega)) rfl rfl ((hf_N12_.w hW).ka (o := 1) (by decide)) (by decide) (by decide) (Nat.le_of_ble_eq_true rfl) (zdal_p dlA_Reader_readPlaces_88 (i := 17) rfl) ?_
              rintro _ N16_ ⟨rfl, hsN16_, ⟨hp0_N16_, hp1_N16_⟩⟩
              have hf_N16_ : zFc d_ [(1, 2), (1, 3), (1, 4), (1, 5), (4, 2), (4, 3)] [] [(0, 6), (0, 7), (0, 8), (1, 5), (1, 6), (1, 7)] [5] Mz N16_ := hf_N12_.tr hsN16_ (by decide) (by decide) (by decide) (by decide)
              have rA1_2_N16_ := ze_r N16_ 1 2
              have rA1_3_N16_ := ze_r N16_ 1 3
              have rA1_5_N16_ := ze_r N16_ 1 5
              have eD0_6_N16_ : ze N16_ (d_ + 0) 6 = ze N12_ (d_ + 0) 6 := hsN16_.e (by decide)
              have eD0_7_N16_ : ze N16_ (d_ + 0) 7 = ze N12_ (d_ + 0) 7 := hsN16_.e (by decide)
              have eD0_8_N16_ : ze N16_ (d_ + 0) 8 = ze N12_ (d_ + 0) 8 := hsN16_.e (by decide)
              have c18_ : zYb b_ n_ N16_ := zYb.fr (hf_N12_.w hW) hsN16_ c14_ (by decide)
              have c19_ : zMvK [] (ze N3_ 1 5).toNat d_ N16_ := zMvK.fr (hf_N12_.w hW) hsN16_ hp0_N12_ (by decide)
              have c20_ : zGg [] (ze N3_ 1 5).toNat d_ N16_ := zGg.fr (hf_N12_.w hW) hsN16_ hp1_N12_ (by decide)
              show zW l m_Reader_readPlaces (zn Mz + 0, zw Mz + 0) N16_ 88 [some (.ref 4), some (.ref (d_ + 0))] [] _
              have hnn_ := hyt_.n hp0_N16_
              have hx2_ : (ze N16_ 1 2).toNat = znx b_ n_ (znx b_ n_ (ze Mz 1 2).toNat) := hnn_.2.trans (by rw [show ze N12_ 1 2 = ze N3_ 1 2 by omega, hx1_])
              have hb3_ : zMvK [] P_ d_ N16_ := by rw [hP_]; assumption
              have hb4_ : zGg [] P_ d_ N16_ := by rw [hP_]; assumption
              refine zw_aload_n (pc := 88) (n := 0) (x := 4) rfl (zdal_p dlA_Reader_readPlaces_88 (i := 18) rfl) ?_
              refine zw_bipush (pc := 89) (v := Int32.ofInt 59) (by decide) (zdal_p dlA_Reader_readPlaces_88 (i := 19) rfl) ?_
              refine zk_callV hf_N16_.x (pc := 91) [.int (Int32.ofInt 59)] [] l_Reader_66 (u_Reader_passSign l d_ N16_ (hf_N16_.w hW) 59 (by decide) (by decide) b_ n_ c18_ hp1_N16_) rfl rfl ((hf_N16_.w hW).ka (o := 4) (by decide)) (by decide) (by decide) (Nat.le_of_ble_eq_true rfl) (zdal_p dlA_Reader_readPlaces_88 (i := 20) rfl) ?_
              rintro _ N21_ ⟨v22_, rfl, ⟨hv22_a, hv22_b⟩, hsN21_, ⟨hp0_N21_, hp1_N21_⟩⟩
              have hf_N21_ : zFc d_ [(1, 2), (1, 3), (1, 4), (1, 5), (4, 2), (4, 3)] [] [(0, 6), (0, 7), (0, 8), (1, 5), (1, 6), (1, 7)] [5] Mz N21_ := hf_N16_.tr hsN21_ (by decide) (by decide) (by decide) (by decide)
              have rA1_2_N21_ := ze_r N21_ 1 2
              have rA1_3_N21_ := ze_r N21_ 1 3
              have rA1_5_N21_ := ze_r N21_ 1 5
              have eD0_6_N21_ : ze N21_ (d_ + 0) 6 = ze N16_ (d_ + 0) 6 := hsN21_.e (by decide)
              have eD0_7_N21_ : ze N21_ (d_ + 0) 7 = ze N16_ (d_ + 0) 7 := hsN21_.e (by decide)
              have eD0_8_N21_ : ze N21_ (d_ + 0) 8 = ze N16_ (d_ + 0) 8 := hsN21_.e (by decide)
              have c23_ : zYb b_ n_ N21_ := zYb.fr (hf_N16_.w hW) hsN21_ c18_ (by decide)
              have c24_ : zMvK [] (ze N3_ 1 5).toNat d_ N21_ := zMvK.fr (hf_N16_.w hW) hsN21_ c19_ (by decide)
              have c25_ : zGg [] (ze N3_ 1 5).toNat d_ N21_ := zGg.fr (hf_N16_.w hW) hsN21_ c20_ (by decide)
              rcases hp1_N21_ with ⟨rfl, ha91_0_hp1_N21_, ha91_1_hp1_N21_⟩ | ⟨rfl, ha91_0_hp1_N21_⟩
              · skip
                have hs1_ := ha91_0_hp1_N21_
                have hs2_ := ha91_1_hp1_N21_
                rw [hx2_] at hs1_ hs2_
                have hb5_ : zMvK [] P_ d_ N21_ := by rw [hP_]; assumption
                have hb6_ : zGg [] P_ d_ N21_ := by rw [hP_]; assumption
                show zW l m_Reader_readPlaces (zn Mz + 0, zw Mz + 0) N21_ 94 [some (.ref 4), some (.ref (d_ + 0))] [.int (Int32.ofInt 1)] _
                exact zk_iret (pc := 94) (ty := .boolean) rfl (z_narB (by omega)) ⟨by omega, by omega⟩ hf_N21_ ⟨hp0_N21_, (show ((1 = 1 ∧ (∃ P : Nat, zHd b_ n_ (ze Mz 1 2).toNat P (ze N21_ 1 2).toNat ∧ zMvK [] P d_ N21_ ∧ zGg [] P d_ N21_) ∧ ze N21_ (d_ + 0) 6 = 0 ∧ ze N21_ (d_ + 0) 7 = 0 ∧ ze N21_ (d_ + 0) 8 = 0) ∨ (1 = 0 ∧ ¬ ∃ P q, zHd b_ n_ (ze Mz 1 2).toNat P q)) from Or.inl (⟨(show 1 = 1 by first | rfl | omega | exact ⟨P_, ⟨hl0_, ⟨hk2_, by omega, by omega, by omega⟩, hs1_, hs2_⟩, hb5_, hb6_⟩), (show (∃ P : Nat, zHd b_ n_ (ze Mz 1 2).toNat P (ze N21_ 1 2).toNat ∧ zMvK [] P d_ N21_ ∧ zGg [] P d_ N21_) by first | rfl | omega | exact ⟨P_, ⟨hl0_, ⟨hk2_, by omega, by omega, by omega⟩, hs1_, hs2_⟩, hb5_, hb6_⟩), (show ze N21_ (d_ + 0) 6 = 0 by first | rfl | omega | exact ⟨P_, ⟨hl0_, ⟨hk2_, by omega, by omega, by omega⟩, hs1_, hs2_⟩, hb5_, hb6_⟩), (show ze N21_ (d_ + 0) 7 = 0 by first | rfl | omega | exact ⟨P_, ⟨hl0_, ⟨hk2_, by omega, by omega, by omega⟩, hs1_, hs2_⟩, hb5_, hb6_⟩), (show ze N21_ (d_ + 0) 8 = 0 by first | rfl | omega | exact ⟨P_, ⟨hl0_, ⟨hk2_, by omega, by omega, by omega⟩, hs1_, hs2_⟩, hb5_, hb6_⟩)⟩))⟩ (zdal_p dlA_Reader_readPlaces_88 (i := 21) rfl)
              · skip
                have hs1_ := ha91_0_hp1_N21_
                rw [hx2_] at hs1_
                have hrt_ : ¬ ∃ P q, zHd b_ n_ (ze Mz 1 2).toNat P q := fun ⟨P, q, h⟩ => hs1_ h.2.2.1
                show zW l m_Reader_readPlaces (zn Mz + 0, zw Mz + 0) N21_ 94 [some (.ref 4), some (.ref (d_ + 0))] [.int (Int32.ofInt 0)] _
                exact zk_iret (pc := 94) (ty := .boolean) rfl (z_narB (by omega)) ⟨by omega, by omega⟩ hf_N21_ ⟨hp0_N21_, (show ((0 = 1 ∧ (∃ P : Nat, zHd b_ n_ (ze Mz 1 2).toNat P (ze N21_ 1 2).toNat ∧ zMvK [] P d_ N21_ ∧ zGg [] P d_ N21_) ∧ ze N21_ (d_ + 0) 6 = 0 ∧ ze N21_ (d_ + 0) 7 = 0 ∧ ze N21_ (d_ + 0) 8 = 0) ∨ (0 = 0 ∧ ¬ ∃ P q, zHd b_ n_ (ze Mz 1 2).toNat P q)) from Or.inr (⟨(show 0 = 0 by first | rfl | exact hrt_ | (rintro ⟨P, q, h⟩; have h2_ := h.2.1; omega)), (show ¬ ∃ P q, zHd b_ n_ (ze Mz 1 2).toNat P q by first | rfl | exact hrt_ | (rintro ⟨P, q, h⟩; have h2_ := h.2.1; omega))⟩))⟩ (zdal_p dlA_Reader_readPlaces_88 (i := 21) rfl)
            · skip
              refine zw_aload_n (pc := 64) (n := 0) (x := 4) rfl (zdal_p dlA_Reader_readPlaces_88 (i := 6) rfl) ?_
              refine zw_iconst (pc := 65) (v := Int32.ofInt 4) (by decide) (zdal_p dlA_Reader_readPlaces_88 (i := 7) rfl) ?_
              refine zk_callV hf_N3_.x (pc := 66) [.int (Int32.ofInt 4)] [] l_Reader_41 (u_Reader_refuse l d_ N3_ (hf_N3_.w hW) 4 (by decide) (by decide)) rfl rfl ((hf_N3_.w hW).ka (o := 4) (by decide)) (by decide) (by decide) (Nat.le_of_ble_eq_true rfl) (zdal_p dlA_Reader_readPlaces_88 (i := 8) rfl) ?_
              rintro _ N26_ ⟨v27_, rfl, ⟨hv27_a, hv27_b⟩, hsN26_, hp0_N26_⟩
              replace hp0_N26_ : ((v27_ = 0)) := hp0_N26_
              have hf_N26_ : zFc d_ [(1, 2), (1, 3), (1, 4), (1, 5), (4, 2), (4, 3)] [] [(0, 6), (0, 7), (0, 8), (1, 5), (1, 6), (1, 7)] [5] Mz N26_ := hf_N3_.tr hsN26_ (by decide) (by decide) (by decide) (by decide)
              have eA1_2_N26_ : ze N26_ 1 2 = ze N3_ 1 2 := hsN26_.ea (hf_N3_.w hW) (by decide)
              have eA1_3_N26_ : ze N26_ 1 3 = ze N3_ 1 3 := hsN26_.ea (hf_N3_.w hW) (by decide)
              have eA1_5_N26_ : ze N26_ 1 5 = ze N3_ 1 5 := hsN26_.ea (hf_N3_.w hW) (by decide)
              have eD0_6_N26_ : ze N26_ (d_ + 0) 6 = ze N3_ (d_ + 0) 6 := hsN26_.e (by decide)
              have eD0_7_N26_ : ze N26_ (d_ + 0) 7 = ze N3_ (d_ + 0) 7 := hsN26_.e (by decide)
              have eD0_8_N26_ : ze N26_ (d_ + 0) 8 = ze N3_ (d_ + 0) 8 := hsN26_.e (by decide)
              have c28_ : zYb b_ n_ N26_ := zYb.fr (hf_N3_.w hW) hsN26_ c5_ (by decide)
              have c29_ : zYt b_ n_ N26_ := zYt.fr (hf_N3_.w hW) hsN26_ hp1_N3_ (by decide)
              rcases hp0_N26_ with rfl
              · skip
                show zW l m_Reader_readPlaces (zn Mz + 0, zw Mz + 0) N26_ 69 [some (.ref 4), some (.ref (d_ + 0))] [.int (Int32.ofInt 0)] _
                exact zk_iret (pc := 69) (ty := .boolean) rfl (z_narB (by omega)) ⟨by omega, by omega⟩ hf_N26_ ⟨c29_, (show ((0 = 1 ∧ (∃ P : Nat, zHd b_ n_ (ze Mz 1 2).toNat P (ze N26_ 1 2).toNat ∧ zMvK [] P d_ N26_ ∧ zGg [] P d_ N26_) ∧ ze N26_ (d_ + 0) 6 = 0 ∧ ze N26_ (d_ + 0) 7 = 0 ∧ ze N26_ (d_ + 0) 8 = 0) ∨ (0 = 0 ∧ ¬ ∃ P q, zHd b_ n_ (ze Mz 1 2).toNat P q)) from Or.inr (⟨(show 0 = 0 by first | rfl | exact hrt_ | (rintro ⟨P, q, h⟩; have h2_ := h.2.1; omega)), (show ¬ ∃ P q, zHd b_ n_ (ze Mz 1 2).toNat P q by first | rfl | exact hrt_ | (rintro ⟨P, q, h⟩; have h2_ := h.2.1; omega))⟩))⟩ (zdal_p dlA_Reader_readPlaces_88 (i := 9) rfl)
        · skip
          exact absurd hc_32 (by decide)
      · skip
        have hk2_ := ha29_0_hp0_N6_
        rw [hx1_] at hk2_
        have hrt_ : ¬ ∃ P q, zHd b_ n_ (ze Mz 1 2).toNat P q := fun ⟨P, q, h⟩ => hk2_ h.2.1.1
        show zW l m_Reader_readPlaces (zn Mz + 0, zw Mz + 0) N3_ 32 [some (.ref 4), some (.ref (d_ + 0))] [.int (Int32.ofInt 0)] _
        refine zr_if_ne (pc := 32) (tgt := 41) ⟨(by decide), (by decide)⟩ (by decide) (zdal_p dlA_Reader_readPlaces_87 (i := 15) rfl) (fun hc_32 => ?_) (fun hc_32 => ?_)
        · skip
          exact absurd hc_32 (by decide)
        · skip
          refine zw_aload_n (pc := 35) (n := 0) (x := 4) rfl (zdal_p dlA_Reader_readPlaces_87 (i := 16) rfl) ?_
          refine zw_iconst (pc := 36) (v := Int32.ofInt 2) (by decide) (zdal_p dlA_Reader_readPlaces_87 (i := 17) rfl) ?_
          refine zk_callV hf_N3_.x (pc := 37) [.int (Int32.ofInt 2)] [] l_Reader_41 (u_Reader_refuse l d_ N3_ (hf_N3_.w hW) 2 (by decide) (by decide)) rfl rfl ((hf_N3_.w hW).ka (o := 4) (by decide)) (by decide) (by decide) (Nat.le_of_ble_eq_true rfl) (zdal_p dlA_Reader_readPlaces_87 (i := 18) rfl) ?_
          rintro _ N30_ ⟨v31_, rfl, ⟨hv31_a, hv31_b⟩, hsN30_, hp0_N30_⟩
          replace hp0_N30_ : ((v31_ = 0)) := hp0_N30_
          have hf_N30_ : zFc d_ [(1, 2), (1, 3), (1, 4), (1, 5), (4, 2), (4, 3)] [] [(0, 6), (0, 7), (0, 8), (1, 5), (1, 6), (1, 7)] [5] Mz N30_ := hf_N3_.tr hsN30_ (by decide) (by decide) (by decide) (by decide)
          have eA1_2_N30_ : ze N30_ 1 2 = ze N3_ 1 2 := hsN30_.ea (hf_N3_.w hW) (by decide)
          have eA1_3_N30_ : ze N30_ 1 3 = ze N3_ 1 3 := hsN30_.ea (hf_N3_.w hW) (by decide)
          have eA1_5_N30_ : ze N30_ 1 5 = ze N3_ 1 5 := hsN30_.ea (hf_N3_.w hW) (by decide)
          have eD0_6_N30_ : ze N30_ (d_ + 0) 6 = ze N3_ (d_ + 0) 6 := hsN30_.e (by decide)
          have eD0_7_N30_ : ze N30_ (d_ + 0) 7 = ze N3_ (d_ + 0) 7 := hsN30_.e (by decide)
          have eD0_8_N30_ : ze N30_ (d_ + 0) 8 = ze N3_ (d_ + 0) 8 := hsN30_.e (by decide)
          have c32_ : zYb b_ n_ N30_ := zYb.fr (hf_N3_.w hW) hsN30_ c5_ (by decide)
          have c33_ : zYt b_ n_ N30_ := zYt.fr (hf_N3_.w hW) hsN30_ hp1_N3_ (by decide)
          rcases hp0_N30_ with rfl
          · skip
            show zW l m_Reader_readPlaces (zn Mz + 0, zw Mz + 0) N30_ 40 [some (.ref 4), some (.ref (d_ + 0))] [.int (Int32.ofInt 0)] _
            exact zk_iret (pc := 40) (ty := .boolean) rfl (z_narB (by omega)) ⟨by omega, by omega⟩ hf_N30_ ⟨c33_, (show ((0 = 1 ∧ (∃ P : Nat, zHd b_ n_ (ze Mz 1 2).toNat P (ze N30_ 1 2).toNat ∧ zMvK [] P d_ N30_ ∧ zGg [] P d_ N30_) ∧ ze N30_ (d_ + 0) 6 = 0 ∧ ze N30_ (d_ + 0) 7 = 0 ∧ ze N30_ (d_ + 0) 8 = 0) ∨ (0 = 0 ∧ ¬ ∃ P q, zHd b_ n_ (ze Mz 1 2).toNat P q)) from Or.inr (⟨(show 0 = 0 by first | rfl | exact hrt_ | (rintro ⟨P, q, h⟩; have h2_ := h.2.1; omega)), (show ¬ ∃ P q, zHd b_ n_ (ze Mz 1 2).toNat P q by first | rfl | exact hrt_ | (rintro ⟨P, q, h⟩; have h2_ := h.2.1; omega))⟩))⟩ (zdal_p dlA_Reader_readPlaces_87 (i := 19) rfl)
    · skip
      exact absurd hc_9 (by decide)
  · skip
    have hrt_ : ¬ ∃ P q, zHd b_ n_ (ze Mz 1 2).toNat P q := fun ⟨P, q, h⟩ => ha6_0_hp0_N1_ h.1
    show zW l m_Reader_readPlaces (zn Mz + 0, zw Mz + 0) Mz 9 [some (.ref 4), some (.ref (d_ + 0))] [.int (Int32.ofInt 0)] _
    refine zr_if_ne (pc := 9) (tgt := 18) ⟨(by decide), (by decide)⟩ (by decide) (zdal_p dlA_Reader_readPlaces_87 (i := 4) rfl) (fun hc_9 => ?_) (fun hc_9 => ?_)
    · skip
      exact absurd hc_9 (by decide)
    · skip
      refine zw_aload_n (pc := 12) (n := 0) (x := 4) rfl (zdal_p dlA_Reader_readPlaces_87 (i := 5) rfl) ?_
      refine zw_iconst (pc := 13) (v := Int32.ofInt 2) (by decide) (zdal_p dlA_Reader_readPlaces_87 (i := 6) rfl) ?_
      refine zk_callV hf.x (pc := 14) [.int (Int32.ofInt 2)] [] l_Reader_41 (u_Reader_refuse l d_ Mz (hf.w hW) 2 (by decide) (by decide)) rfl rfl ((hf.w hW).ka (o := 4) (by decide)) (by decide) (by decide) (Nat.le_of_ble_eq_true rfl) (zdal_p dlA_Reader_readPlaces_87 (i := 7) rfl) ?_
      rintro _ N34_ ⟨v35_, rfl, ⟨hv35_a, hv35_b⟩, hsN34_, hp0_N34_⟩
      replace hp0_N34_ : ((v35_ = 0)) := hp0_N34_
      have hf_N34_ : zFc d_ [(1, 2), (1, 3), (1, 4), (1, 5), (4, 2), (4, 3)] [] [(0, 6), (0, 7), (0, 8), (1, 5), (1, 6), (1, 7)] [5] Mz N34_ := hf.tr hsN34_ (by decide) (by decide) (by decide) (by decide)
      have eA1_2_N34_ : ze N34_ 1 2 = ze Mz 1 2 := hsN34_.ea (hf.w hW) (by decide)
      have eA1_3_N34_ : ze N34_ 1 3 = ze Mz 1 3 := hsN34_.ea (hf.w hW) (by decide)
      have eA1_5_N34_ : ze N34_ 1 5 = ze Mz 1 5 := hsN34_.ea (hf.w hW) (by decide)
      have eD0_6_N34_ : ze N34_ (d_ + 0) 6 = ze Mz (d_ + 0) 6 := hsN34_.e (by decide)
      have eD0_7_N34_ : ze N34_ (d_ + 0) 7 = ze Mz (d_ + 0) 7 := hsN34_.e (by decide)
      have eD0_8_N34_ : ze N34_ (d_ + 0) 8 = ze Mz (d_ + 0) 8 := hsN34_.e (by decide)
      have c36_ : zYb b_ n_ N34_ := zYb.fr (hf.w hW) hsN34_ p0_ (by decide)
      have c37_ : zYt b_ n_ N34_ := zYt.fr (hf.w hW) hsN34_ p1_ (by decide)
      rcases hp0_N34_ with rfl
      · skip
        show zW l m_Reader_readPlaces (zn Mz + 0, zw Mz + 0) N34_ 17 [some (.ref 4), some (.ref (d_ + 0))] [.int (Int32.ofInt 0)] _
        exact zk_iret (pc := 17) (ty := .boolean) rfl (z_narB (by omega)) ⟨by omega, by omega⟩ hf_N34_ ⟨c37_, (show ((0 = 1 ∧ (∃ P : Nat, zHd b_ n_ (ze Mz 1 2).toNat P (ze N34_ 1 2).toNat ∧ zMvK [] P d_ N34_ ∧ zGg [] P d_ N34_) ∧ ze N34_ (d_ + 0) 6 = 0 ∧ ze N34_ (d_ + 0) 7 = 0 ∧ ze N34_ (d_ + 0) 8 = 0) ∨ (0 = 0 ∧ ¬ ∃ P q, zHd b_ n_ (ze Mz 1 2).toNat P q)) from Or.inr (⟨(show 0 = 0 by first | rfl | exact hrt_ | (rintro ⟨P, q, h⟩; have h2_ := h.2.1; omega)), (show ¬ ∃ P q, zHd b_ n_ (ze Mz 1 2).toNat P q by first | rfl | exact hrt_ | (rintro ⟨P, q, h⟩; have h2_ := h.2.1; omega))⟩))⟩ (zdal_p dlA_Reader_readPlaces_87 (i := 8) rfl)
set_option maxHeartbeats 4000000 in
theorem u_Troupe_settleN (l : Launch) (d_ : Nat) (Mz : zMem) (hW : zKW d_ Mz) (P_ : Nat) (mv_ : List Nat) (hpm_ : ∀ g ∈ mv_, gpm g) (p0_ : zMvK mv_ P_ d_ Mz) (p1_ : zGg mv_ P_ d_ Mz) : zC l m_Troupe_settle 0 0 [.ref (d_ + 0)] Mz (zqcV d_ [] [] [(12, 6), (12, 7), (28, 4)] [5, 7, 9, 11, 14, 16, 20, 22, 25] Mz (fun N => (∃ T : zGT, T ∈ gTabs ∧ zTm mv_ T ∧ zKm (gF T).length (gmkI T) d_ N ∧ ze N (d_ + 1) 7 = gN T ∧ zTt T d_ N ∧ zGc mv_ P_ T d_ N ∧ zFir T d_ N ∧ zSbK T d_ N ∧ ∀ k : Nat, k < (gF T).length → zg N (d_ + 25) k = 0) ∧ ze N (d_ + 0) 6 = ze Mz (d_ + 0) 6)) := by
  refine zC_of (L0 := [some (.ref (d_ + 0))]) md_Troupe_settle (Nat.le_of_ble_eq_true rfl) rfl ?_ zQ0
  have hf : zFc d_ [] [] [(12, 6), (12, 7), (28, 4)] [5, 7, 9, 11, 14, 16, 20, 22, 25] Mz Mz := zFc.rf
  have r_D0_6 := ze_r Mz (d_ + 0) 6
  have r_D1_7 := ze_r Mz (d_ + 1) 7
  refine zw_aload_n (pc := 0) (n := 0) (x := (d_ + 0)) rfl (zdal_p dlA_Troupe_settle_27 (i := 0) rfl) ?_
  refine zw_getF (pc := 1) f_Troupe_12 rfl ((hf.w hW).kr (o := 0) (by decide)) ((hf.w hW).lr (o := 0) (s := 0) (r := 1) (by decide)) (zdal_p dlA_Troupe_settle_27 (i := 1) rfl) ?_
  refine zk_callV hf.x (pc := 4) [] [] l_Troupe_74 (u_Group_settleG l d_ Mz (hf.w hW) P_ mv_ hpm_ p0_ p1_) rfl rfl ((hf.w hW).kr (o := 1) (by decide)) (by decide) (by decide) (Nat.le_of_ble_eq_true rfl) (zdal_p dlA_Troupe_settle_27 (i := 2) rfl) ?_
  rintro _ N1_ ⟨rfl, hsN1_, hp0_N1_⟩
  replace hp0_N1_ : (∃ T : zGT, zTm mv_ T ∧ zTt T d_ N1_ ∧ zGc mv_ P_ T d_ N1_) := hp0_N1_
  have hf_N1_ : zFc d_ [] [] [(12, 6), (12, 7), (28, 4)] [5, 7, 9, 11, 14, 16, 20, 22, 25] Mz N1_ := hf.tr hsN1_ (by decide) (by decide) (by decide) (by decide)
  have eD0_6_N1_ : ze N1_ (d_ + 0) 6 = ze Mz (d_ + 0) 6 := hsN1_.e (by decide)
  have eD1_7_N1_ : ze N1_ (d_ + 1) 7 = ze Mz (d_ + 1) 7 := hsN1_.e (by decide)
  have c3_ : zMvK mv_ P_ d_ N1_ := zMvK.fr (hf.w hW) hsN1_ p0_ (by decide)
  show zW l m_Troupe_settle (zn Mz + 0, zw Mz + 0) N1_ 7 [some (.ref (d_ + 0))] [] _
  obtain ⟨T_, hm_, htt_, hgc_⟩ := hp0_N1_
  have hT_ : T_ ∈ gTabs := by obtain ⟨c_, hc_⟩ := hm_; exact hc_.1
  obtain ⟨l_, Kp_, hol_⟩ := gTabs_ol T_ hT_
  refine zw_aload_n (pc := 7) (n := 0) (x := (d_ + 0)) rfl (zdal_p dlA_Troupe_settle_27 (i := 3) rfl) ?_
  refine zw_getF (pc := 8) f_Troupe_23 rfl ((hf_N1_.w hW).kr (o := 0) (by decide)) ((hf_N1_.w hW).lr (o := 0) (s := 1) (r := 12) (by decide)) (zdal_p dlA_Troupe_settle_27 (i := 4) rfl) ?_
  refine zk_callV hf_N1_.x (pc := 11) [] [] l_Troupe_77 (u_Sorts_settleG l d_ N1_ (hf_N1_.w hW) T_ hT_ l_ Kp_ hol_ (hm_.as hpm_) (hm_.gr hpm_) htt_) rfl rfl ((hf_N1_.w hW).kr (o := 12) (by decide)) (by decide) (by decide) (Nat.le_of_ble_eq_true rfl) (zdal_p dlA_Troupe_settle_27 (i := 5) rfl) ?_
  rintro _ N4_ ⟨rfl, hsN4_, ⟨hp0_N4_, hp1_N4_, hp2_N4_, hp3_N4_⟩⟩
  have hf_N4_ : zFc d_ [] [] [(12, 6), (12, 7), (28, 4)] [5, 7, 9, 11, 14, 16, 20, 22, 25] Mz N4_ := hf_N1_.tr hsN4_ (by decide) (by decide) (by decide) (by decide)
  have eD0_6_N4_ : ze N4_ (d_ + 0) 6 = ze N1_ (d_ + 0) 6 := hsN4_.e (by decide)
  have eD1_7_N4_ : ze N4_ (d_ + 1) 7 = ze N1_ (d_ + 1) 7 := hsN4_.e (by decide)
  have c6_ : zMvK mv_ P_ d_ N4_ := zMvK.fr (hf_N1_.w hW) hsN4_ c3_ (by decide)
  have c7_ : zTt T_ d_ N4_ := zTt.fr (hf_N1_.w hW) hsN4_ htt_ (by decide)
  have c8_ : zGc mv_ P_ T_ d_ N4_ := zGc.fr (hf_N1_.w hW) hsN4_ hgc_ (by decide)
  show zW l m_Troupe_settle (zn Mz + 0, zw Mz + 0) N4_ 14 [some (.ref (d_ + 0))] [] _
  have hkm_ := hp0_N4_
  have hfi_ := hp2_N4_
  have hsb_ := hp3_N4_
  refine zw_aload_n (pc := 14) (n := 0) (x := (d_ + 0)) rfl (zdal_p dlA_Troupe_settle_27 (i := 6) rfl) ?_
  refine zw_getF (pc := 15) f_Troupe_39 rfl ((hf_N4_.w hW).kr (o := 0) (by decide)) ((hf_N4_.w hW).lr (o := 0) (s := 3) (r := 28) (by decide)) (zdal_p dlA_Troupe_settle_27 (i := 7) rfl) ?_
  refine zk_callV hf_N4_.x (pc := 18) [] [] l_Troupe_78 (u_Units_forget l d_ N4_ (hf_N4_.w hW) ) rfl rfl ((hf_N4_.w hW).kr (o := 28) (by decide)) (by decide) (by decide) (Nat.le_of_ble_eq_true rfl) (zdal_p dlA_Troupe_settle_27 (i := 8) rfl) ?_
  rintro _ N9_ ⟨rfl, hsN9_, -⟩
  have hf_N9_ : zFc d_ [] [] [(12, 6), (12, 7), (28, 4)] [5, 7, 9, 11, 14, 16, 20, 22, 25] Mz N9_ := hf_N4_.tr hsN9_ (by decide) (by decide) (by decide) (by decide)
  have eD0_6_N9_ : ze N9_ (d_ + 0) 6 = ze N4_ (d_ + 0) 6 := hsN9_.e (by decide)
  have eD1_7_N9_ : ze N9_ (d_ + 1) 7 = ze N4_ (d_ + 1) 7 := hsN9_.e (by decide)
  have c11_ : zMvK mv_ P_ d_ N9_ := zMvK.fr (hf_N4_.w hW) hsN9_ c6_ (by decide)
  have c12_ : zTt T_ d_ N9_ := zTt.fr (hf_N4_.w hW) hsN9_ hp1_N4_ (by decide)
  have c13_ : zGc mv_ P_ T_ d_ N9_ := zGc.fr (hf_N4_.w hW) hsN9_ c8_ (by decide)
  have c14_ : zFir T_ d_ N9_ := zFir.fr (hf_N4_.w hW) hsN9_ hfi_ (by decide)
  have c15_ : zSbK T_ d_ N9_ := zSbK.fr (hf_N4_.w hW) hsN9_ hsb_ (by decide)
  have c16_ : zKm (gF T_).length (gmkI T_) d_ N9_ := zKm.fr (hf_N4_.w hW) hsN9_ hkm_ (by decide)
  show zW l m_Troupe_settle (zn Mz + 0, zw Mz + 0) N9_ 21 [some (.ref (d_ + 0))] [] _
  refine zw_aload_n (pc := 21) (n := 0) (x := (d_ + 0)) rfl (zdal_p dlA_Troupe_settle_27 (i := 9) rfl) ?_
  refine zw_getF (pc := 22) f_Troupe_32 rfl ((hf_N9_.w hW).kr (o := 0) (by decide)) ((hf_N9_.w hW).lr (o := 0) (s := 2) (r := 23) (by decide)) (zdal_p dlA_Troupe_settle_27 (i := 10) rfl) ?_
  refine zw_iconst (pc := 25) (v := Int32.ofInt 0) (by decide) (zdal_p dlA_Troupe_settle_27 (i := 11) rfl) ?_
  refine zw_iconst (pc := 26) (v := Int32.ofInt (-1)) (by decide) (zdal_p dlA_Troupe_settle_27 (i := 12) rfl) ?_
  refine zw_lconst (pc := 27) (v := Int64.ofInt 0) (by decide) (zdal_p dlA_Troupe_settle_27 (i := 13) rfl) ?_
  refine zk_callV hf_N9_.x (pc := 28) [.int (Int32.ofInt 0), .int (Int32.ofInt ((-1))), .long (Int64.ofInt 0)] [] l_Troupe_81 (u_Sums_putSingle l d_ N9_ (hf_N9_.w hW) 0 (by decide) (by decide) ((-1)) (by decide) (by decide) 0 (by decide) (by decide) (gF T_).length (gmkI T_) (gT_zTA hT_) c16_ (show 0 ≤ 0 by first | with_reducible assumption | assumption | omega) (show 0 ≤ 39 by first | with_reducible assumption | assumption | omega)) rfl rfl ((hf_N9_.w hW).kr (o := 23) (by decide)) (by decide) (by decide) (Nat.le_of_ble_eq_true rfl) (zdal_p dlA_Troupe_settle_27 (i := 14) rfl) ?_
  rintro _ N17_ ⟨rfl, hsN17_, hp0_N17_⟩
  replace hp0_N17_ : zSh (gF T_).length d_ N9_ N17_ 0 (zone ((-1)) 0) := hp0_N17_
  have hf_N17_ : zFc d_ [] [] [(12, 6), (12, 7), (28, 4)] [5, 7, 9, 11, 14, 16, 20, 22, 25] Mz N17_ := hf_N9_.tr hsN17_ (by decide) (by decide) (by decide) (by decide)
  have eD0_6_N17_ : ze N17_ (d_ + 0) 6 = ze N9_ (d_ + 0) 6 := hsN17_.e (by decide)
  have eD1_7_N17_ : ze N17_ (d_ + 1) 7 = ze N9_ (d_ + 1) 7 := hsN17_.e (by decide)
  have c19_ : zMvK mv_ P_ d_ N17_ := zMvK.fr (hf_N9_.w hW) hsN17_ c11_ (by decide)
  have c20_ : zTt T_ d_ N17_ := zTt.fr (hf_N9_.w hW) hsN17_ c12_ (by decide)
  have c21_ : zGc mv_ P_ T_ d_ N17_ := zGc.fr (hf_N9_.w hW) hsN17_ c13_ (by decide)
  have c22_ : zFir T_ d_ N17_ := zFir.fr (hf_N9_.w hW) hsN17_ c14_ (by decide)
  have c23_ : zSbK T_ d_ N17_ := zSbK.fr (hf_N9_.w hW) hsN17_ c15_ (by decide)
  have c24_ : zKm (gF T_).length (gmkI T_) d_ N17_ := zKm.fr (hf_N9_.w hW) hsN17_ c16_ (by decide)
  show zW l m_Troupe_settle (zn Mz + 0, zw Mz + 0) N17_ 31 [some (.ref (d_ + 0))] [] _
  have hz0_ := hp0_N17_
  exact zk_vret (pc := 31) rfl hf_N17_ ⟨(show (∃ T : zGT, T ∈ gTabs ∧ zTm mv_ T ∧ zKm (gF T).length (gmkI T) d_ N17_ ∧ ze N17_ (d_ + 1) 7 = gN T ∧ zTt T d_ N17_ ∧ zGc mv_ P_ T d_ N17_ ∧ zFir T d_ N17_ ∧ zSbK T d_ N17_ ∧ ∀ k : Nat, k < (gF T).length → zg N17_ (d_ + 25) k = 0) by exact ⟨T_, hT_, hm_, c24_, c20_.1, c20_, c21_, c22_, c23_, fun k_ hk_ => (hz0_ k_).trans (by rw [if_pos (by omega)]; unfold zone; rw [if_neg (by omega)])⟩), (show ze N17_ (d_ + 0) 6 = ze Mz (d_ + 0) 6 by first | with_reducible assumption | assumption | omega)⟩ (zdal_p dlA_Troupe_settle_27 (i := 15) rfl)
set_option maxHeartbeats 4000000 in
theorem u_T_troupeN (l : Launch) (d_ : Nat) (Mz : zMem) (hW : zKW d_ Mz) (d2_ : Nat) (hdd_ : (d_ = 5 ∧ d2_ = 43) ∨ (d_ = 43 ∧ d2_ = 5)) (hnow : zf Mz 0 2 = some (d2_ + 0)) (hsp : zf Mz 0 3 = some (d_ + 0)) (b_ : Nat → Int) (n_ : Nat) (p0_ : zYb b_ n_ Mz) : zC l m_T_troupe 0 0 [.ref 0] Mz (zqTrN d_ d2_ b_ n_ Mz) := by
  refine zC_of (L0 := [some (.ref 0), none, none]) md_T_troupe (Nat.le_of_ble_eq_true rfl) rfl ?_ zQ0
  have hf : zFc d_ [(0, 2), (0, 3), (1, 1), (1, 2), (1, 3), (1, 4), (1, 5), (4, 1), (4, 2), (4, 3)] [] [(0, 6), (0, 7), (0, 8), (1, 5), (1, 6), (1, 7), (12, 6), (12, 7), (28, 4), (33, 2), (33, 3), (33, 4), (33, 5), (33, 6)] [3, 5, 7, 9, 11, 14, 16, 20, 22, 25, 27, 35, 37] Mz Mz := zFc.rf
  have r_A1_1 := ze_r Mz 1 1
  have r_A1_2 := ze_r Mz 1 2
  have r_D0_6 := ze_r Mz (d_ + 0) 6
  have r_D0_7 := ze_r Mz (d_ + 0) 7
  have r_D0_8 := ze_r Mz (d_ + 0) 8
  have r_D1_7 := ze_r Mz (d_ + 1) 7
  refine zw_aload_n (pc := 0) (n := 0) (x := 0) rfl (zdal_p dlA_T_troupe_67 (i := 0) rfl) ?_
  refine zw_getF (pc := 1) f_T_32 rfl ((hf.w hW).ka (o := 0) (by decide)) (hf.sp hsp) (zdal_p dlA_T_troupe_67 (i := 1) rfl) ?_
  refine zw_astore_n (pc := 4) (i := 1) (L2 := [some (.ref 0), some (.ref (d_ + 0)), none]) rfl (by decide) rfl (zdal_p dlA_T_troupe_67 (i := 2) rfl) ?_
  refine zw_aload_n (pc := 5) (n := 0) (x := 0) rfl (zdal_p dlA_T_troupe_67 (i := 3) rfl) ?_
  refine zw_getF (pc := 6) f_T_21 rfl ((hf.w hW).ka (o := 0) (by decide)) ((hf.w hW).la (o := 0) (s := 1) (r := 4) (by decide)) (zdal_p dlA_T_troupe_67 (i := 4) rfl) ?_
  refine zk_callV hf.x (pc := 9) [] [] l_T_49 (u_Reader_begin l d_ Mz (hf.w hW) b_ n_ p0_) rfl rfl ((hf.w hW).ka (o := 4) (by decide)) (by decide) (by decide) (Nat.le_of_ble_eq_true rfl) (zdal_p dlA_T_troupe_67 (i := 5) rfl) ?_
  rintro _ N1_ ⟨rfl, hsN1_, ⟨hp0_N1_, hp1_N1_⟩⟩
  have hf_N1_ : zFc d_ [(0, 2), (0, 3), (1, 1), (1, 2), (1, 3), (1, 4), (1, 5), (4, 1), (4, 2), (4, 3)] [] [(0, 6), (0, 7), (0, 8), (1, 5), (1, 6), (1, 7), (12, 6), (12, 7), (28, 4), (33, 2), (33, 3), (33, 4), (33, 5), (33, 6)] [3, 5, 7, 9, 11, 14, 16, 20, 22, 25, 27, 35, 37] Mz N1_ := hf.tr hsN1_ (by decide) (by decide) (by decide) (by decide)
  have eA1_1_N1_ : ze N1_ 1 1 = ze Mz 1 1 := hsN1_.ea (hf.w hW) (by decide)
  have rA1_2_N1_ := ze_r N1_ 1 2
  have eD0_6_N1_ : ze N1_ (d_ + 0) 6 = ze Mz (d_ + 0) 6 := hsN1_.e (by decide)
  have eD0_7_N1_ : ze N1_ (d_ + 0) 7 = ze Mz (d_ + 0) 7 := hsN1_.e (by decide)
  have eD0_8_N1_ : ze N1_ (d_ + 0) 8 = ze Mz (d_ + 0) 8 := hsN1_.e (by decide)
  have eD1_7_N1_ : ze N1_ (d_ + 1) 7 = ze Mz (d_ + 1) 7 := hsN1_.e (by decide)
  have c3_ : zYb b_ n_ N1_ := zYb.fr (hf.w hW) hsN1_ p0_ (by decide)
  show zW l m_T_troupe (zn Mz + 0, zw Mz + 0) N1_ 12 [some (.ref 0), some (.ref (d_ + 0)), none] [] (zqTrN d_ d2_ b_ n_ Mz)
  have hs0_ : (ze N1_ 1 2).toNat = (zru zpB b_ n_ 0) := by have h0_ := hp0_N1_; omega
  refine zw_aload_n (pc := 12) (n := 0) (x := 0) rfl (zdal_p dlA_T_troupe_67 (i := 6) rfl) ?_
  refine zw_getF (pc := 13) f_T_21 rfl ((hf_N1_.w hW).ka (o := 0) (by decide)) ((hf_N1_.w hW).la (o := 0) (s := 1) (r := 4) (by decide)) (zdal_p dlA_T_troupe_67 (i := 7) rfl) ?_
  refine zw_aload_n (pc := 16) (n := 1) (x := (d_ + 0)) rfl (zdal_p dlA_T_troupe_67 (i := 8) rfl) ?_
  refine zk_callV hf_N1_.x (pc := 17) [.ref (d_ + 0)] [] l_T_51 (u_Reader_readPlacesN l d_ N1_ (hf_N1_.w hW) b_ n_ c3_ hp1_N1_) rfl rfl ((hf_N1_.w hW).ka (o := 4) (by decide)) (by decide) (by decide) (Nat.le_of_ble_eq_true rfl) (zdal_p dlA_T_troupe_67 (i := 9) rfl) ?_
  rintro _ N4_ ⟨v5_, rfl, ⟨hv5_a, hv5_b⟩, hsN4_, ⟨hp0_N4_, hp1_N4_⟩⟩
  have hf_N4_ : zFc d_ [(0, 2), (0, 3), (1, 1), (1, 2), (1, 3), (1, 4), (1, 5), (4, 1), (4, 2), (4, 3)] [] [(0, 6), (0, 7), (0, 8), (1, 5), (1, 6), (1, 7), (12, 6), (12, 7), (28, 4), (33, 2), (33, 3), (33, 4), (33, 5), (33, 6)] [3, 5, 7, 9, 11, 14, 16, 20, 22, 25, 27, 35, 37] Mz N4_ := hf_N1_.tr hsN4_ (by decide) (by decide) (by decide) (by decide)
  have eA1_1_N4_ : ze N4_ 1 1 = ze N1_ 1 1 := hsN4_.ea (hf_N1_.w hW) (by decide)
  have rA1_2_N4_ := ze_r N4_ 1 2
  have rD0_6_N4_ := ze_r N4_ (d_ + 0) 6
  have rD0_7_N4_ := ze_r N4_ (d_ + 0) 7
  have rD0_8_N4_ := ze_r N4_ (d_ + 0) 8
  have rD1_7_N4_ := ze_r N4_ (d_ + 1) 7
  have c6_ : zYb b_ n_ N4_ := zYb.fr (hf_N1_.w hW) hsN4_ c3_ (by decide)
  rcases hp1_N4_ with ⟨rfl, ha17_0_hp1_N4_, ha17_1_hp1_N4_, ha17_2_hp1_N4_, ha17_3_hp1_N4_⟩ | ⟨rfl, ha17_0_hp1_N4_⟩
  · skip
    obtain ⟨P_, hHd_, hmv0_, hgg0_⟩ := id ha17_0_hp1_N4_
    have h60_ := ha17_1_hp1_N4_
    rw [hs0_] at hHd_
    have h70_ := ha17_2_hp1_N4_
    have h80_ := ha17_3_hp1_N4_
    show zW l m_T_troupe (zn Mz + 0, zw Mz + 0) N4_ 20 [some (.ref 0), some (.ref (d_ + 0)), none] [.int (Int32.ofInt 1)] (zqTrN d_ d2_ b_ n_ Mz)
    refine zr_if_eq (pc := 20) (tgt := 38) ⟨(by decide), (by decide)⟩ (by decide) (zdal_p dlA_T_troupe_67 (i := 10) rfl) (fun hc_20 => ?_) (fun hc_20 => ?_)
    · skip
      exact absurd hc_20 (by decide)
    · skip
      refine zw_aload_n (pc := 23) (n := 0) (x := 0) rfl (zdal_p dlA_T_troupe_67 (i := 11) rfl) ?_
      refine zw_getF (pc := 24) f_T_21 rfl ((hf_N4_.w hW).ka (o := 0) (by decide)) ((hf_N4_.w hW).la (o := 0) (s := 1) (r := 4) (by decide)) (zdal_p dlA_T_troupe_67 (i := 12) rfl) ?_
      refine zw_aload_n (pc := 27) (n := 1) (x := (d_ + 0)) rfl (zdal_p dlA_T_troupe_67 (i := 13) rfl) ?_
      refine zk_callV hf_N4_.x (pc := 28) [.ref (d_ + 0)] [] l_T_55 (u_Reader_readMoves l d_ N4_ (hf_N4_.w hW) b_ n_ P_ c6_ hp0_N4_ hmv0_ hgg0_) rfl rfl ((hf_N4_.w hW).ka (o := 4) (by decide)) (by decide) (by decide) (Nat.le_of_ble_eq_true rfl) (zdal_p dlA_T_troupe_67 (i := 14) rfl) ?_
      rintro _ N7_ ⟨v8_, rfl, ⟨hv8_a, hv8_b⟩, hsN7_, ⟨hp0_N7_, hp1_N7_⟩⟩
      have hf_N7_ : zFc d_ [(0, 2), (0, 3), (1, 1), (1, 2), (1, 3), (1, 4), (1, 5), (4, 1), (4, 2), (4, 3)] [] [(0, 6), (0, 7), (0, 8), (1, 5), (1, 6), (1, 7), (12, 6), (12, 7), (28, 4), (33, 2), (33, 3), (33, 4), (33, 5), (33, 6)] [3, 5, 7, 9, 11, 14, 16, 20, 22, 25, 27, 35, 37] Mz N7_ := hf_N4_.tr hsN7_ (by decide) (by decide) (by decide) (by decide)
      have eA1_1_N7_ : ze N7_ 1 1 = ze N4_ 1 1 := hsN7_.ea (hf_N4_.w hW) (by decide)
      have rA1_2_N7_ := ze_r N7_ 1 2
      have eD0_6_N7_ : ze N7_ (d_ + 0) 6 = ze N4_ (d_ + 0) 6 := hsN7_.e (by decide)
      have eD0_7_N7_ : ze N7_ (d_ + 0) 7 = ze N4_ (d_ + 0) 7 := hsN7_.e (by decide)
      have eD0_8_N7_ : ze N7_ (d_ + 0) 8 = ze N4_ (d_ + 0) 8 := hsN7_.e (by decide)
      have rD1_7_N7_ := ze_r N7_ (d_ + 1) 7
      have c9_ : zYb b_ n_ N7_ := zYb.fr (hf_N4_.w hW) hsN7_ c6_ (by decide)
      rcases hp1_N7_ with ⟨rfl, ha28_0_hp1_N7_⟩ | ⟨rfl, ha28_0_hp1_N7_⟩
      · skip
        obtain ⟨mv_, hrb_, hmv_, hgg_, hpm_⟩ := id ha28_0_hp1_N7_
        show zW l m_T_troupe (zn Mz + 0, zw Mz + 0) N7_ 31 [some (.ref 0), some (.ref (d_ + 0)), none] [.int (Int32.ofInt 1)] (zqTrN d_ d2_ b_ n_ Mz)
        refine zr_if_eq (pc := 31) (tgt := 38) ⟨(by decide), (by decide)⟩ (by decide) (zdal_p dlA_T_troupe_67 (i := 15) rfl) (fun hc_31 => ?_) (fun hc_31 => ?_)
        · skip
          exact absurd hc_31 (by decide)
        · skip
          refine zw_iconst (pc := 34) (v := Int32.ofInt 1) (by decide) (zdal_p dlA_T_troupe_67 (i := 16) rfl) ?_
          refine zw_goto (pc := 35) (tgt := 39) (by decide) (zdal_p dlA_T_troupe_67 (i := 17) rfl) ?_
          refine zw_istore_n (pc := 39) (i := 2) (L2 := [some (.ref 0), some (.ref (d_ + 0)), some (.int (Int32.ofInt 1))]) rfl (by decide) rfl (zdal_p dlA_T_troupe_67 (i := 19) rfl) ?_
          refine zw_iload_n (pc := 40) (n := 2) (x := Int32.ofInt 1) rfl (zdal_p dlA_T_troupe_67 (i := 20) rfl) ?_
          refine zr_if_eq (pc := 41) (tgt := 57) ⟨(by decide), (by decide)⟩ (by decide) (zdal_p dlA_T_troupe_67 (i := 21) rfl) (fun hc_41 => ?_) (fun hc_41 => ?_)
          · skip
            exact absurd hc_41 (by decide)
          · skip
            refine zw_aload_n (pc := 44) (n := 1) (x := (d_ + 0)) rfl (zdal_p dlA_T_troupe_67 (i := 22) rfl) ?_
            refine zk_callV hf_N7_.x (pc := 45) [] [] l_T_39 (u_Troupe_settleN l d_ N7_ (hf_N7_.w hW) P_ mv_ hpm_ hmv_ hgg_) rfl rfl ((hf_N7_.w hW).kr (o := 0) (by decide)) (by decide) (by decide) (Nat.le_of_ble_eq_true rfl) (zdal_p dlA_T_troupe_67 (i := 23) rfl) ?_
            rintro _ N10_ ⟨rfl, hsN10_, ⟨hp0_N10_, hp1_N10_⟩⟩
            have hf_N10_ : zFc d_ [(0, 2), (0, 3), (1, 1), (1, 2), (1, 3), (1, 4), (1, 5), (4, 1), (4, 2), (4, 3)] [] [(0, 6), (0, 7), (0, 8), (1, 5), (1, 6), (1, 7), (12, 6), (12, 7), (28, 4), (33, 2), (33, 3), (33, 4), (33, 5), (33, 6)] [3, 5, 7, 9, 11, 14, 16, 20, 22, 25, 27, 35, 37] Mz N10_ := hf_N7_.tr hsN10_ (by decide) (by decide) (by decide) (by decide)
            have eA1_1_N10_ : ze N10_ 1 1 = ze N7_ 1 1 := hsN10_.ea (hf_N7_.w hW) (by decide)
            have eA1_2_N10_ : ze N10_ 1 2 = ze N7_ 1 2 := hsN10_.ea (hf_N7_.w hW) (by decide)
            have eD0_6_N10_ : ze N10_ (d_ + 0) 6 = ze N7_ (d_ + 0) 6 := hsN10_.e (by decide)
            have eD0_7_N10_ : ze N10_ (d_ + 0) 7 = ze N7_ (d_ + 0) 7 := hsN10_.e (by decide)
            have eD0_8_N10_ : ze N10_ (d_ + 0) 8 = ze N7_ (d_ + 0) 8 := hsN10_.e (by decide)
            have eD1_7_N10_ : ze N10_ (d_ + 1) 7 = ze N7_ (d_ + 1) 7 := hsN10_.e (by decide)
            have c12_ : zYb b_ n_ N10_ := zYb.fr (hf_N7_.w hW) hsN10_ c9_ (by decide)
            have c13_ : zYt b_ n_ N10_ := zYt.fr (hf_N7_.w hW) hsN10_ hp0_N7_ (by decide)
            have c14_ : zMvK mv_ P_ d_ N10_ := zMvK.fr (hf_N7_.w hW) hsN10_ hmv_ (by decide)
            show zW l m_T_troupe (zn Mz + 0, zw Mz + 0) N10_ 48 [some (.ref 0), some (.ref (d_ + 0)), some (.int (Int32.ofInt 1))] [] (zqTrN d_ d2_ b_ n_ Mz)
            obtain ⟨T_, hT_, hTm_, hKm_, h7_, htt_, hgc_, hfi_, hsb_, hz00_⟩ := id hp0_N10_
            have h61_ := hp1_N10_
            have hnm0_ : zNm [] (gF T_).length (gmkI T_) d_ N10_ := zNm_z (by omega)
            refine zw_aload_n (pc := 48) (n := 0) (x := 0) rfl (zdal_p dlA_T_troupe_68 (i := 0) rfl) ?_
            refine zw_getF (pc := 49) f_T_21 rfl ((hf_N10_.w hW).ka (o := 0) (by decide)) ((hf_N10_.w hW).la (o := 0) (s := 1) (r := 4) (by decide)) (zdal_p dlA_T_troupe_68 (i := 1) rfl) ?_
            refine zw_aload_n (pc := 52) (n := 1) (x := (d_ + 0)) rfl (zdal_p dlA_T_troupe_68 (i := 2) rfl) ?_
            refine zk_callV hf_N10_.x (pc := 53) [.ref (d_ + 0)] [] l_T_58 (u_Reader_readLets l d_ N10_ (hf_N10_.w hW) b_ n_ (gF T_).length (gmkI T_) (gT_zTA hT_) [] c12_ c13_ hKm_ hnm0_) rfl rfl ((hf_N10_.w hW).ka (o := 4) (by decide)) (by decide) (by decide) (Nat.le_of_ble_eq_true rfl) (zdal_p dlA_T_troupe_68 (i := 3) rfl) ?_
            rintro _ N15_ ⟨v16_, rfl, ⟨hv16_a, hv16_b⟩, hsN15_, hp0_N15_⟩
            replace hp0_N15_ : ((v16_ = 1 ∧ (∃ q nm, zRg (zls b_ n_ (gF T_).length (gmkI T_)) (0, (ze N10_ 1 2).toNat, []) (1, q, nm) ∧ zNm nm (gF T_).length (gmkI T_) d_ N15_) ∧ zS0 d_ N10_ N15_) ∨ (v16_ = 0 ∧ zRg (zls b_ n_ (gF T_).length (gmkI T_)) (0, (ze N10_ 1 2).toNat, []) zLf)) := hp0_N15_
            have hf_N15_ : zFc d_ [(0, 2), (0, 3), (1, 1), (1, 2), (1, 3), (1, 4), (1, 5), (4, 1), (4, 2), (4, 3)] [] [(0, 6), (0, 7), (0, 8), (1, 5), (1, 6), (1, 7), (12, 6), (12, 7), (28, 4), (33, 2), (33, 3), (33, 4), (33, 5), (33, 6)] [3, 5, 7, 9, 11, 14, 16, 20, 22, 25, 27, 35, 37] Mz N15_ := hf_N10_.tr hsN15_ (by decide) (by decide) (by decide) (by decide)
            have eA1_1_N15_ : ze N15_ 1 1 = ze N10_ 1 1 := hsN15_.ea (hf_N10_.w hW) (by decide)
            have rA1_2_N15_ := ze_r N15_ 1 2
            have rD0_6_N15_ := ze_r N15_ (d_ + 0) 6
            have eD0_7_N15_ : ze N15_ (d_ + 0) 7 = ze N10_ (d_ + 0) 7 := hsN15_.e (by decide)
            have eD0_8_N15_ : ze N15_ (d_ + 0) 8 = ze N10_ (d_ + 0) 8 := hsN15_.e (by decide)
            have eD1_7_N15_ : ze N15_ (d_ + 1) 7 = ze N10_ (d_ + 1) 7 := hsN15_.e (by decide)
            have c17_ : zYb b_ n_ N15_ := zYb.fr (hf_N10_.w hW) hsN15_ c12_ (by decide)
            have c18_ : zMvK mv_ P_ d_ N15_ := zMvK.fr (hf_N10_.w hW) hsN15_ c14_ (by decide)
            have c19_ : zSbK T_ d_ N15_ := zSbK.fr (hf_N10_.w hW) hsN15_ hsb_ (by decide)
            have c20_ : zTt T_ d_ N15_ := zTt.fr (hf_N10_.w hW) hsN15_ htt_ (by decide)
            have c21_ : zGc mv_ P_ T_ d_ N15_ := zGc.fr (hf_N10_.w hW) hsN15_ hgc_ (by decide)
            have c22_ : zFir T_ d_ N15_ := zFir.fr (hf_N10_.w hW) hsN15_ hfi_ (by decide)
            have c23_ : zKm (gF T_).length (gmkI T_) d_ N15_ := zKm.fr (hf_N10_.w hW) hsN15_ hKm_ (by decide)
            rcases hp0_N15_ with ⟨rfl, ha53_0_hp0_N15_, ha53_1_hp0_N15_⟩ | ⟨rfl, ha53_0_hp0_N15_⟩
            · skip
              obtain ⟨q3_, nm3_, hrl_, hnm3_⟩ := id ha53_0_hp0_N15_
              have hs00_ := ha53_1_hp0_N15_
              rw [show ze N10_ 1 2 = ze N7_ 1 2 by omega] at hrl_
              have hG_ : zTrN b_ n_ (zru zpB b_ n_ 0) P_ mv_ T_ nm3_ := ⟨_, _, q3_, hHd_, hrb_, hT_, hTm_, hrl_⟩
              have hsk00_ : zSK (gF T_).length zS00 d_ N15_ := zSK_00 (by have h_ := (gT_zTA hT_).1.2; omega) (by omega) (by omega) (fun k_ hk_ => (hs00_ k_ (by have h_ := (gT_zTA hT_).1.2; omega)).trans (hz00_ k_ hk_))
              show zW l m_T_troupe (zn Mz + 0, zw Mz + 0) N15_ 56 [some (.ref 0), some (.ref (d_ + 0)), some (.int (Int32.ofInt 1))] [.int (Int32.ofInt 1)] (zqTrN d_ d2_ b_ n_ Mz)
              refine zw_istore_n (pc := 56) (i := 2) (L2 := [some (.ref 0), some (.ref (d_ + 0)), some (.int (Int32.ofInt 1))]) rfl (by decide) rfl (zdal_p dlA_T_troupe_68 (i := 4) rfl) ?_
              refine zw_aload_n (pc := 57) (n := 0) (x := 0) rfl (zdal_p dlA_T_troupe_68 (i := 5) rfl) ?_
              refine zw_getF (pc := 58) f_T_10 rfl ((hf_N15_.w hW).ka (o := 0) (by decide)) ((hf_N15_.w hW).la (o := 0) (s := 0) (r := 1) (by decide)) (zdal_p dlA_T_troupe_68 (i := 6) rfl) ?_
              refine zw_iconst (pc := 61) (v := Int32.ofInt 0) (by decide) (zdal_p dlA_T_troupe_68 (i := 7) rfl) ?_
              refine zk_putA (pc := 62) (hf_N15_.w hW) (by decide) f_T_42 rfl rfl ((hf_N15_.w hW).ka (o := 1) (by decide)) ⟨by omega, by omega⟩ rfl rfl (zdal_p dlA_T_troupe_68 (i := 8) rfl) (fun N24_ hsN24_ hvN24_ => ?_)
              have hf_N24_ : zFc d_ [(0, 2), (0, 3), (1, 1), (1, 2), (1, 3), (1, 4), (1, 5), (4, 1), (4, 2), (4, 3)] [] [(0, 6), (0, 7), (0, 8), (1, 5), (1, 6), (1, 7), (12, 6), (12, 7), (28, 4), (33, 2), (33, 3), (33, 4), (33, 5), (33, 6)] [3, 5, 7, 9, 11, 14, 16, 20, 22, 25, 27, 35, 37] Mz N24_ := hf_N15_.tr hsN24_ (by decide) (by decide) (by decide) (by decide)
              have rA1_1_N24_ := ze_r N24_ 1 1
              have eA1_2_N24_ : ze N24_ 1 2 = ze N15_ 1 2 := hsN24_.ea (hf_N15_.w hW) (by decide)
              have eD0_6_N24_ : ze N24_ (d_ + 0) 6 = ze N15_ (d_ + 0) 6 := hsN24_.e (by decide)
              have eD0_7_N24_ : ze N24_ (d_ + 0) 7 = ze N15_ (d_ + 0) 7 := hsN24_.e (by decide)
              have eD0_8_N24_ : ze N24_ (d_ + 0) 8 = ze N15_ (d_ + 0) 8 := hsN24_.e (by decide)
              have eD1_7_N24_ : ze N24_ (d_ + 1) 7 = ze N15_ (d_ + 1) 7 := hsN24_.e (by decide)
              have c25_ : zMvK mv_ P_ d_ N24_ := zMvK.fr (hf_N15_.w hW) hsN24_ c18_ (by decide)
              have c26_ : zSbK T_ d_ N24_ := zSbK.fr (hf_N15_.w hW) hsN24_ c19_ (by decide)
              have c27_ : zTt T_ d_ N24_ := zTt.fr (hf_N15_.w hW) hsN24_ c20_ (by decide)
              have c28_ : zGc mv_ P_ T_ d_ N24_ := zGc.fr (hf_N15_.w hW) hsN24_ c21_ (by decide)
              have c29_ : zFir T_ d_ N24_ := zFir.fr (hf_N15_.w hW) hsN24_ c22_ (by decide)
              have c30_ : zKm (gF T_).length (gmkI T_) d_ N24_ := zKm.fr (hf_N15_.w hW) hsN24_ c23_ (by decide)
              have c31_ : zNm nm3_ (gF T_).length (gmkI T_) d_ N24_ := zNm.fr (hf_N15_.w hW) hsN24_ hnm3_ (by decide)
              have c32_ : zSK (gF T_).length zS00 d_ N24_ := zSKc.fr (hf_N15_.w hW) hsN24_ hsk00_ (by decide)
              refine zw_iload_n (pc := 65) (n := 2) (x := Int32.ofInt 1) rfl (zdal_p dlA_T_troupe_68 (i := 9) rfl) ?_
              refine zr_if_ne (pc := 66) (tgt := 71) ⟨(by decide), (by decide)⟩ (by decide) (zdal_p dlA_T_troupe_68 (i := 10) rfl) (fun hc_66 => ?_) (fun hc_66 => ?_)
              · skip
                have h10_ : ze N24_ 1 1 = 0 := by omega
                have hks_ : zKS P_ mv_ T_ d_ N24_ := ⟨c25_, c28_, c27_, c29_, c30_, c26_⟩
                exact zk_swapN hf_N24_ hW hnow (by decide) h10_ hG_ hks_ c31_ c32_
              · skip
                exact absurd hc_66 (by decide)
            · skip
              have hrl_ := ha53_0_hp0_N15_
              rw [show ze N10_ 1 2 = ze N7_ 1 2 by omega] at hrl_
              have hB_ : zTrB b_ n_ (zru zpB b_ n_ 0) := Or.inr (Or.inr ⟨P_, _, _, mv_, T_, hHd_, hrb_, hT_, hTm_, hrl_⟩)
              show zW l m_T_troupe (zn Mz + 0, zw Mz + 0) N15_ 56 [some (.ref 0), some (.ref (d_ + 0)), some (.int (Int32.ofInt 1))] [.int (Int32.ofInt 0)] (zqTrN d_ d2_ b_ n_ Mz)
              refine zw_istore_n (pc := 56) (i := 2) (L2 := [some (.ref 0), some (.ref (d_ + 0)), some (.int (Int32.ofInt 0))]) rfl (by decide) rfl (zdal_p dlA_T_troupe_68 (i := 4) rfl) ?_
              refine zw_aload_n (pc := 57) (n := 0) (x := 0) rfl (zdal_p dlA_T_troupe_68 (i := 5) rfl) ?_
              refine zw_getF (pc := 58) f_T_10 rfl ((hf_N15_.w hW).ka (o := 0) (by decide)) ((hf_N15_.w hW).la (o := 0) (s := 0) (r := 1) (by decide)) (zdal_p dlA_T_troupe_68 (i := 6) rfl) ?_
              refine zw_iconst (pc := 61) (v := Int32.ofInt 0) (by decide) (zdal_p dlA_T_troupe_68 (i := 7) rfl) ?_
              refine zk_putA (pc := 62) (hf_N15_.w hW) (by decide) f_T_42 rfl rfl ((hf_N15_.w hW).ka (o := 1) (by decide)) ⟨by omega, by omega⟩ rfl rfl (zdal_p dlA_T_troupe_68 (i := 8) rfl) (fun N33_ hsN33_ hvN33_ => ?_)
              have hf_N33_ : zFc d_ [(0, 2), (0, 3), (1, 1), (1, 2), (1, 3), (1, 4), (1, 5), (4, 1), (4, 2), (4, 3)] [] [(0, 6), (0, 7), (0, 8), (1, 5), (1, 6), (1, 7), (12, 6), (12, 7), (28, 4), (33, 2), (33, 3), (33, 4), (33, 5), (33, 6)] [3, 5, 7, 9, 11, 14, 16, 20, 22, 25, 27, 35, 37] Mz N33_ := hf_N15_.tr hsN33_ (by decide) (by decide) (by decide) (by decide)
              have rA1_1_N33_ := ze_r N33_ 1 1
              have eA1_2_N33_ : ze N33_ 1 2 = ze N15_ 1 2 := hsN33_.ea (hf_N15_.w hW) (by decide)
              have eD0_6_N33_ : ze N33_ (d_ + 0) 6 = ze N15_ (d_ + 0) 6 := hsN33_.e (by decide)
              have eD0_7_N33_ : ze N33_ (d_ + 0) 7 = ze N15_ (d_ + 0) 7 := hsN33_.e (by decide)
              have eD0_8_N33_ : ze N33_ (d_ + 0) 8 = ze N15_ (d_ + 0) 8 := hsN33_.e (by decide)
              have eD1_7_N33_ : ze N33_ (d_ + 1) 7 = ze N15_ (d_ + 1) 7 := hsN33_.e (by decide)
              have c34_ : zMvK mv_ P_ d_ N33_ := zMvK.fr (hf_N15_.w hW) hsN33_ c18_ (by decide)
              have c35_ : zSbK T_ d_ N33_ := zSbK.fr (hf_N15_.w hW) hsN33_ c19_ (by decide)
              have c36_ : zTt T_ d_ N33_ := zTt.fr (hf_N15_.w hW) hsN33_ c20_ (by decide)
              have c37_ : zGc mv_ P_ T_ d_ N33_ := zGc.fr (hf_N15_.w hW) hsN33_ c21_ (by decide)
              have c38_ : zFir T_ d_ N33_ := zFir.fr (hf_N15_.w hW) hsN33_ c22_ (by decide)
              have c39_ : zKm (gF T_).length (gmkI T_) d_ N33_ := zKm.fr (hf_N15_.w hW) hsN33_ c23_ (by decide)
              refine zw_iload_n (pc := 65) (n := 2) (x := Int32.ofInt 0) rfl (zdal_p dlA_T_troupe_68 (i := 9) rfl) ?_
              refine zr_if_ne (pc := 66) (tgt := 71) ⟨(by decide), (by decide)⟩ (by decide) (zdal_p dlA_T_troupe_68 (i := 10) rfl) (fun hc_66 => ?_) (fun hc_66 => ?_)
              · skip
                exact absurd hc_66 (by decide)
              · skip
                have h10_ : ze N33_ 1 1 = 0 := by omega
                refine zw_iconst (pc := 69) (v := Int32.ofInt (-1)) (by decide) (zdal_p dlA_T_troupe_68 (i := 11) rfl) ?_
                exact zw_iret (S := []) (pc := 70) (ty := .int) rfl rfl (zdal_p dlA_T_troupe_68 (i := 12) rfl) ⟨-1, rfl, ⟨by decide, by decide⟩, h10_, zSwp_0 hf_N33_ hW (by decide), Or.inl ⟨rfl, hB_, hf_N33_.2.2.1, hf_N33_.ot2 hdd_ (by decide)⟩⟩
      · skip
        have hB_ : zTrB b_ n_ (zru zpB b_ n_ 0) := Or.inr (Or.inl ⟨P_, _, hHd_, ha28_0_hp1_N7_⟩)
        show zW l m_T_troupe (zn Mz + 0, zw Mz + 0) N7_ 31 [some (.ref 0), some (.ref (d_ + 0)), none] [.int (Int32.ofInt 0)] (zqTrN d_ d2_ b_ n_ Mz)
        refine zr_if_eq (pc := 31) (tgt := 38) ⟨(by decide), (by decide)⟩ (by decide) (zdal_p dlA_T_troupe_67 (i := 15) rfl) (fun hc_31 => ?_) (fun hc_31 => ?_)
        · skip
          refine zw_iconst (pc := 38) (v := Int32.ofInt 0) (by decide) (zdal_p dlA_T_troupe_67 (i := 18) rfl) ?_
          refine zw_istore_n (pc := 39) (i := 2) (L2 := [some (.ref 0), some (.ref (d_ + 0)), some (.int (Int32.ofInt 0))]) rfl (by decide) rfl (zdal_p dlA_T_troupe_67 (i := 19) rfl) ?_
          refine zw_iload_n (pc := 40) (n := 2) (x := Int32.ofInt 0) rfl (zdal_p dlA_T_troupe_67 (i := 20) rfl) ?_
          refine zr_if_eq (pc := 41) (tgt := 57) ⟨(by decide), (by decide)⟩ (by decide) (zdal_p dlA_T_troupe_67 (i := 21) rfl) (fun hc_41 => ?_) (fun hc_41 => ?_)
          · skip
            refine zw_aload_n (pc := 57) (n := 0) (x := 0) rfl (zdal_p dlA_T_troupe_68 (i := 5) rfl) ?_
            refine zw_getF (pc := 58) f_T_10 rfl ((hf_N7_.w hW).ka (o := 0) (by decide)) ((hf_N7_.w hW).la (o := 0) (s := 0) (r := 1) (by decide)) (zdal_p dlA_T_troupe_68 (i := 6) rfl) ?_
            refine zw_iconst (pc := 61) (v := Int32.ofInt 0) (by decide) (zdal_p dlA_T_troupe_68 (i := 7) rfl) ?_
            refine zk_putA (pc := 62) (hf_N7_.w hW) (by decide) f_T_42 rfl rfl ((hf_N7_.w hW).ka (o := 1) (by decide)) ⟨by omega, by omega⟩ rfl rfl (zdal_p dlA_T_troupe_68 (i := 8) rfl) (fun N40_ hsN40_ hvN40_ => ?_)
            have hf_N40_ : zFc d_ [(0, 2), (0, 3), (1, 1), (1, 2), (1, 3), (1, 4), (1, 5), (4, 1), (4, 2), (4, 3)] [] [(0, 6), (0, 7), (0, 8), (1, 5), (1, 6), (1, 7), (12, 6), (12, 7), (28, 4), (33, 2), (33, 3), (33, 4), (33, 5), (33, 6)] [3, 5, 7, 9, 11, 14, 16, 20, 22, 25, 27, 35, 37] Mz N40_ := hf_N7_.tr hsN40_ (by decide) (by decide) (by decide) (by decide)
            have rA1_1_N40_ := ze_r N40_ 1 1
            have eA1_2_N40_ : ze N40_ 1 2 = ze N7_ 1 2 := hsN40_.ea (hf_N7_.w hW) (by decide)
            have eD0_6_N40_ : ze N40_ (d_ + 0) 6 = ze N7_ (d_ + 0) 6 := hsN40_.e (by decide)
            have eD0_7_N40_ : ze N40_ (d_ + 0) 7 = ze N7_ (d_ + 0) 7 := hsN40_.e (by decide)
            have eD0_8_N40_ : ze N40_ (d_ + 0) 8 = ze N7_ (d_ + 0) 8 := hsN40_.e (by decide)
            have eD1_7_N40_ : ze N40_ (d_ + 1) 7 = ze N7_ (d_ + 1) 7 := hsN40_.e (by decide)
            have c41_ : zYt b_ n_ N40_ := zYt.fr (hf_N7_.w hW) hsN40_ hp0_N7_ (by decide)
            refine zw_iload_n (pc := 65) (n := 2) (x := Int32.ofInt 0) rfl (zdal_p dlA_T_troupe_68 (i := 9) rfl) ?_
            refine zr_if_ne (pc := 66) (tgt := 71) ⟨(by decide), (by decide)⟩ (by decide) (zdal_p dlA_T_troupe_68 (i := 10) rfl) (fun hc_66 => ?_) (fun hc_66 => ?_)
            · skip
              exact absurd hc_66 (by decide)
            · skip
              have h10_ : ze N40_ 1 1 = 0 := by omega
              refine zw_iconst (pc := 69) (v := Int32.ofInt (-1)) (by decide) (zdal_p dlA_T_troupe_68 (i := 11) rfl) ?_
              exact zw_iret (S := []) (pc := 70) (ty := .int) rfl rfl (zdal_p dlA_T_troupe_68 (i := 12) rfl) ⟨-1, rfl, ⟨by decide, by decide⟩, h10_, zSwp_0 hf_N40_ hW (by decide), Or.inl ⟨rfl, hB_, hf_N40_.2.2.1, hf_N40_.ot2 hdd_ (by decide)⟩⟩
          · skip
            exact absurd hc_41 (by decide)
        · skip
          exact absurd hc_31 (by decide)
  · skip
    have hB_ : zTrB b_ n_ (zru zpB b_ n_ 0) := by have h1_ := ha17_0_hp1_N4_; rw [hs0_] at h1_; exact Or.inl h1_
    show zW l m_T_troupe (zn Mz + 0, zw Mz + 0) N4_ 20 [some (.ref 0), some (.ref (d_ + 0)), none] [.int (Int32.ofInt 0)] (zqTrN d_ d2_ b_ n_ Mz)
    refine zr_if_eq (pc := 20) (tgt := 38) ⟨(by decide), (by decide)⟩ (by decide) (zdal_p dlA_T_troupe_67 (i := 10) rfl) (fun hc_20 => ?_) (fun hc_20 => ?_)
    · skip
      refine zw_iconst (pc := 38) (v := Int32.ofInt 0) (by decide) (zdal_p dlA_T_troupe_67 (i := 18) rfl) ?_
      refine zw_istore_n (pc := 39) (i := 2) (L2 := [some (.ref 0), some (.ref (d_ + 0)), some (.int (Int32.ofInt 0))]) rfl (by decide) rfl (zdal_p dlA_T_troupe_67 (i := 19) rfl) ?_
      refine zw_iload_n (pc := 40) (n := 2) (x := Int32.ofInt 0) rfl (zdal_p dlA_T_troupe_67 (i := 20) rfl) ?_
      refine zr_if_eq (pc := 41) (tgt := 57) ⟨(by decide), (by decide)⟩ (by decide) (zdal_p dlA_T_troupe_67 (i := 21) rfl) (fun hc_41 => ?_) (fun hc_41 => ?_)
      · skip
        refine zw_aload_n (pc := 57) (n := 0) (x := 0) rfl (zdal_p dlA_T_troupe_68 (i := 5) rfl) ?_
        refine zw_getF (pc := 58) f_T_10 rfl ((hf_N4_.w hW).ka (o := 0) (by decide)) ((hf_N4_.w hW).la (o := 0) (s := 0) (r := 1) (by decide)) (zdal_p dlA_T_troupe_68 (i := 6) rfl) ?_
        refine zw_iconst (pc := 61) (v := Int32.ofInt 0) (by decide) (zdal_p dlA_T_troupe_68 (i := 7) rfl) ?_
        refine zk_putA (pc := 62) (hf_N4_.w hW) (by decide) f_T_42 rfl rfl ((hf_N4_.w hW).ka (o := 1) (by decide)) ⟨by omega, by omega⟩ rfl rfl (zdal_p dlA_T_troupe_68 (i := 8) rfl) (fun N42_ hsN42_ hvN42_ => ?_)
        have hf_N42_ : zFc d_ [(0, 2), (0, 3), (1, 1), (1, 2), (1, 3), (1, 4), (1, 5), (4, 1), (4, 2), (4, 3)] [] [(0, 6), (0, 7), (0, 8), (1, 5), (1, 6), (1, 7), (12, 6), (12, 7), (28, 4), (33, 2), (33, 3), (33, 4), (33, 5), (33, 6)] [3, 5, 7, 9, 11, 14, 16, 20, 22, 25, 27, 35, 37] Mz N42_ := hf_N4_.tr hsN42_ (by decide) (by decide) (by decide) (by decide)
        have rA1_1_N42_ := ze_r N42_ 1 1
        have eA1_2_N42_ : ze N42_ 1 2 = ze N4_ 1 2 := hsN42_.ea (hf_N4_.w hW) (by decide)
        have eD0_6_N42_ : ze N42_ (d_ + 0) 6 = ze N4_ (d_ + 0) 6 := hsN42_.e (by decide)
        have eD0_7_N42_ : ze N42_ (d_ + 0) 7 = ze N4_ (d_ + 0) 7 := hsN42_.e (by decide)
        have eD0_8_N42_ : ze N42_ (d_ + 0) 8 = ze N4_ (d_ + 0) 8 := hsN42_.e (by decide)
        have eD1_7_N42_ : ze N42_ (d_ + 1) 7 = ze N4_ (d_ + 1) 7 := hsN42_.e (by decide)
        have c43_ : zYt b_ n_ N42_ := zYt.fr (hf_N4_.w hW) hsN42_ hp0_N4_ (by decide)
        refine zw_iload_n (pc := 65) (n := 2) (x := Int32.ofInt 0) rfl (zdal_p dlA_T_troupe_68 (i := 9) rfl) ?_
        refine zr_if_ne (pc := 66) (tgt := 71) ⟨(by decide), (by decide)⟩ (by decide) (zdal_p dlA_T_troupe_68 (i := 10) rfl) (fun hc_66 => ?_) (fun hc_66 => ?_)
        · skip
          exact absurd hc_66 (by decide)
        · skip
          have h10_ : ze N42_ 1 1 = 0 := by omega
          refine zw_iconst (pc := 69) (v := Int32.ofInt (-1)) (by decide) (zdal_p dlA_T_troupe_68 (i := 11) rfl) ?_
          exact zw_iret (S := []) (pc := 70) (ty := .int) rfl rfl (zdal_p dlA_T_troupe_68 (i := 12) rfl) ⟨-1, rfl, ⟨by decide, by decide⟩, h10_, zSwp_0 hf_N42_ hW (by decide), Or.inl ⟨rfl, hB_, hf_N42_.2.2.1, hf_N42_.ot2 hdd_ (by decide)⟩⟩
      · skip
        exact absurd hc_41 (by decide)
    · skip
      exact absurd hc_20 (by decide)
theorem zct_all : ∀ m : Nat, zct (fun _ => True) m = m
  | 0 => rfl
  | m + 1 => by
    rw [zct_t (p := fun _ => True) trivial, zct_all m]
theorem zEn_n {T : zGT} {f f' : Nat → Nat} {m m' : Nat} (h : zEn T f m) (h' : zEn T f' m') : m = m' := by
  have e := zct_en (fun _ => True) h h'
  rw [zct_all, zct_all] at e
  exact e
def zfAb (P : Nat) (mv : List Nat) (T : zGT) (nm : List (Int × (Nat → Int))) (s : zSg) (ta a v : Int) : Prop := ((a = 0 → v = (P : Int)) ∧ (a = 1 → v = (mv.length : Int)) ∧ (a = 2 → v = (nm.length : Int)) ∧ (a = 3 → v = (gN T : Int))) ∧ (a = 4 → ∃ f m, zEn T f m ∧ v = ((m : Nat) : Int)) ∧ (a = 5 → v = ((gF T).length : Int)) ∧ (a = 6 → (v = 1 ∧ gAb T (2 ^ gN T - 1)) ∨ (v = 0 ∧ ¬ gAb T (2 ^ gN T - 1))) ∧ (a = 7 → v = (s.2.1 : Int)) ∧ (a = 8 → v = ta) ∧ (a < 0 ∨ 8 < a → v = -1)
theorem zfAb_u {P : Nat} {mv : List Nat} {T : zGT} {nm : List (Int × (Nat → Int))} {s : zSg} {ta a v w : Int} (h : zfAb P mv T nm s ta a v) (h' : zfAb P mv T nm s ta a w) : v = w := by
  obtain ⟨⟨a0, a1, a2, a3⟩, a4, a5, a6, a7, a8, a9⟩ := h
  obtain ⟨⟨b0, b1, b2, b3⟩, b4, b5, b6, b7, b8, b9⟩ := h'
  by_cases g0 : a = 0
  · rw [a0 g0, b0 g0]
  clear a0 b0
  by_cases g1 : a = 1
  · rw [a1 g1, b1 g1]
  clear a1 b1
  by_cases g2 : a = 2
  · rw [a2 g2, b2 g2]
  clear a2 b2
  by_cases g3 : a = 3
  · rw [a3 g3, b3 g3]
  clear a3 b3
  by_cases g5 : a = 5
  · rw [a5 g5, b5 g5]
  clear a5 b5
  by_cases g7 : a = 7
  · rw [a7 g7, b7 g7]
  clear a7 b7
  by_cases g8 : a = 8
  · rw [a8 g8, b8 g8]
  clear a8 b8
  by_cases g4 : a = 4
  · obtain ⟨f, m, q1, q2⟩ := a4 g4
    obtain ⟨f', m', r1, r2⟩ := b4 g4
    rw [q2, r2, zEn_n q1 r1]
  clear a4 b4
  by_cases g6 : a = 6
  · rcases a6 g6 with ⟨q1, q2⟩ | ⟨q1, q2⟩
    · rcases b6 g6 with ⟨r1, r2⟩ | ⟨r1, r2⟩
      · rw [q1, r1]
      · exact absurd q2 r2
    · rcases b6 g6 with ⟨r1, r2⟩ | ⟨r1, r2⟩
      · exact absurd r2 q2
      · rw [q1, r1]
  clear a6 b6
  have g9 : a < 0 ∨ 8 < a := by
    clear a9 b9
    omega
  rw [a9 g9, b9 g9]
theorem zfAb_0 {P : Nat} {mv : List Nat} {T : zGT} {nm : List (Int × (Nat → Int))} {s : zSg} {ta a v : Int} (h : a = 0) (hv : v = (P : Int)) : zfAb P mv T nm s ta a v := by
  refine ⟨⟨fun z => ?_, fun z => ?_, fun z => ?_, fun z => ?_⟩, fun z => ?_, fun z => ?_, fun z => ?_, fun z => ?_, fun z => ?_, fun z => ?_⟩ <;> first | exact absurd z (by omega) | exact hv
theorem zfAb_1 {P : Nat} {mv : List Nat} {T : zGT} {nm : List (Int × (Nat → Int))} {s : zSg} {ta a v : Int} (h : a = 1) (hv : v = (mv.length : Int)) : zfAb P mv T nm s ta a v := by
  refine ⟨⟨fun z => ?_, fun z => ?_, fun z => ?_, fun z => ?_⟩, fun z => ?_, fun z => ?_, fun z => ?_, fun z => ?_, fun z => ?_, fun z => ?_⟩ <;> first | exact absurd z (by omega) | exact hv
theorem zfAb_2 {P : Nat} {mv : List Nat} {T : zGT} {nm : List (Int × (Nat → Int))} {s : zSg} {ta a v : Int} (h : a = 2) (hv : v = (nm.length : Int)) : zfAb P mv T nm s ta a v := by
  refine ⟨⟨fun z => ?_, fun z => ?_, fun z => ?_, fun z => ?_⟩, fun z => ?_, fun z => ?_, fun z => ?_, fun z => ?_, fun z => ?_, fun z => ?_⟩ <;> first | exact absurd z (by omega) | exact hv
theorem zfAb_3 {P : Nat} {mv : List Nat} {T : zGT} {nm : List (Int × (Nat → Int))} {s : zSg} {ta a v : Int} (h : a = 3) (hv : v = (gN T : Int)) : zfAb P mv T nm s ta a v := by
  refine ⟨⟨fun z => ?_, fun z => ?_, fun z => ?_, fun z => ?_⟩, fun z => ?_, fun z => ?_, fun z => ?_, fun z => ?_, fun z => ?_, fun z => ?_⟩ <;> first | exact absurd z (by omega) | exact hv
theorem zfAb_4 {P : Nat} {mv : List Nat} {T : zGT} {nm : List (Int × (Nat → Int))} {s : zSg} {ta a v : Int} (h : a = 4) (hv : ∃ f m, zEn T f m ∧ v = ((m : Nat) : Int)) : zfAb P mv T nm s ta a v := by
  refine ⟨⟨fun z => ?_, fun z => ?_, fun z => ?_, fun z => ?_⟩, fun z => ?_, fun z => ?_, fun z => ?_, fun z => ?_, fun z => ?_, fun z => ?_⟩ <;> first | exact absurd z (by omega) | exact hv
theorem zfAb_5 {P : Nat} {mv : List Nat} {T : zGT} {nm : List (Int × (Nat → Int))} {s : zSg} {ta a v : Int} (h : a = 5) (hv : v = ((gF T).length : Int)) : zfAb P mv T nm s ta a v := by
  refine ⟨⟨fun z => ?_, fun z => ?_, fun z => ?_, fun z => ?_⟩, fun z => ?_, fun z => ?_, fun z => ?_, fun z => ?_, fun z => ?_, fun z => ?_⟩ <;> first | exact absurd z (by omega) | exact hv
theorem zfAb_6 {P : Nat} {mv : List Nat} {T : zGT} {nm : List (Int × (Nat → Int))} {s : zSg} {ta a v : Int} (h : a = 6) (hv : (v = 1 ∧ gAb T (2 ^ gN T - 1)) ∨ (v = 0 ∧ ¬ gAb T (2 ^ gN T - 1))) : zfAb P mv T nm s ta a v := by
  refine ⟨⟨fun z => ?_, fun z => ?_, fun z => ?_, fun z => ?_⟩, fun z => ?_, fun z => ?_, fun z => ?_, fun z => ?_, fun z => ?_, fun z => ?_⟩ <;> first | exact absurd z (by omega) | exact hv
theorem zfAb_7 {P : Nat} {mv : List Nat} {T : zGT} {nm : List (Int × (Nat → Int))} {s : zSg} {ta a v : Int} (h : a = 7) (hv : v = (s.2.1 : Int)) : zfAb P mv T nm s ta a v := by
  refine ⟨⟨fun z => ?_, fun z => ?_, fun z => ?_, fun z => ?_⟩, fun z => ?_, fun z => ?_, fun z => ?_, fun z => ?_, fun z => ?_, fun z => ?_⟩ <;> first | exact absurd z (by omega) | exact hv
theorem zfAb_8 {P : Nat} {mv : List Nat} {T : zGT} {nm : List (Int × (Nat → Int))} {s : zSg} {ta a v : Int} (h : a = 8) (hv : v = ta) : zfAb P mv T nm s ta a v := by
  refine ⟨⟨fun z => ?_, fun z => ?_, fun z => ?_, fun z => ?_⟩, fun z => ?_, fun z => ?_, fun z => ?_, fun z => ?_, fun z => ?_, fun z => ?_⟩ <;> first | exact absurd z (by omega) | exact hv
theorem zfAb_9 {P : Nat} {mv : List Nat} {T : zGT} {nm : List (Int × (Nat → Int))} {s : zSg} {ta a v : Int} (h : a < 0 ∨ 8 < a) (hv : v = -1) : zfAb P mv T nm s ta a v := by
  refine ⟨⟨fun z => ?_, fun z => ?_, fun z => ?_, fun z => ?_⟩, fun z => ?_, fun z => ?_, fun z => ?_, fun z => ?_, fun z => ?_, fun z => ?_⟩ <;> first | exact absurd z (by omega) | exact hv
set_option maxHeartbeats 4000000 in
theorem u_T_aboutS (l : Launch) (d_ : Nat) (Mz : zMem) (hW : zKW d_ Mz) (hnow : zf Mz 0 2 = some (d_ + 0)) (a0_ : Int) (ha0_a : -2147483648 ≤ a0_) (ha0_b : a0_ < 2147483648) (T_ : zGT) (hT_ : T_ ∈ gTabs) (P_ : Nat) (mv_ : List Nat) (s_ : zSg) (nm_ : List (Int × (Nat → Int))) (p0_ : zMvK mv_ P_ d_ Mz) (p1_ : zTt T_ d_ Mz) (p2_ : zFir T_ d_ Mz) (p3_ : zSbK T_ d_ Mz) (p4_ : zSK (gF T_).length s_ d_ Mz) (p5_ : zNm nm_ (gF T_).length (gmkI T_) d_ Mz) : zC l m_T_about 0 0 [.ref 0, .int (Int32.ofInt a0_)] Mz (zqcI d_ [] [] [] [] Mz (fun v N => zfAb P_ mv_ T_ nm_ s_ (ze Mz 1 1) a0_ v)) := by
  refine zC_of (L0 := [some (.ref 0), some (.int (Int32.ofInt a0_))]) md_T_about (Nat.le_of_ble_eq_true rfl) rfl ?_ zQ0
  have hf : zFc d_ [] [] [] [] Mz Mz := zFc.rf
  have r_A1_1 := ze_r Mz 1 1
  have r_D0_6 := ze_r Mz (d_ + 0) 6
  have r_D0_7 := ze_r Mz (d_ + 0) 7
  have r_D1_5 := ze_r Mz (d_ + 1) 5
  have r_D1_6 := ze_r Mz (d_ + 1) 6
  have r_D1_7 := ze_r Mz (d_ + 1) 7
  have r_D12_6 := ze_r Mz (d_ + 12) 6
  have r_D12_7 := ze_r Mz (d_ + 12) 7
  have hO_ := gTabs_ok T_ hT_
  have hG_ := hO_.1
  have hn24_ := hG_.2.1
  have hn1_ := hG_.1
  have hsz_ := p1_.1
  have hfl_ := p2_.1
  have hnl_ := p5_.n
  have hml_ := p0_.2.1
  have hpl_ := p0_.1.1
  obtain ⟨⟨hs1_, hs2_⟩, -⟩ := id p4_
  have hen_ := zLs.en p3_.1
  have hlk_ := p3_.1.1
  refine zw_iload_n (pc := 0) (n := 1) (x := Int32.ofInt a0_) rfl (zdal_p dlA_T_about_164 (i := 0) rfl) ?_
  by_cases hs_1_0 : a0_ = 0
  · refine zr_tabIn (c := 0) (off := 51) (tgt := 52) ⟨by decide, by decide⟩ hs_1_0 (by decide) (by decide) rfl (by decide) d_T_about_1 ?_
    refine zw_aload_n (pc := 52) (n := 0) (x := 0) rfl (zdal_p dlA_T_about_164 (i := 2) rfl) ?_
    refine zw_getF (pc := 53) f_T_28 rfl ((hf.w hW).ka (o := 0) (by decide)) (hf.now hnow) (zdal_p dlA_T_about_164 (i := 3) rfl) ?_
    refine zw_getF (pc := 56) f_T_61 rfl ((hf.w hW).kr (o := 0) (by decide)) ((hf.w hW).lr (o := 0) (s := 0) (r := 1) (by decide)) (zdal_p dlA_T_about_164 (i := 4) rfl) ?_
    refine zk_getI (pc := 59) f_T_76 rfl ((hf.w hW).kr (o := 1) (by decide)) (zdal_p dlA_T_about_164 (i := 5) rfl) ?_
    exact zk_iret (pc := 62) (ty := .int) rfl rfl ⟨by omega, by omega⟩ hf (show zfAb P_ mv_ T_ nm_ s_ (ze Mz 1 1) a0_ (ze Mz (d_ + 1) 5) by exact zfAb_0 (by omega) (by omega)) (zdal_p dlA_T_about_164 (i := 6) rfl)
  by_cases hs_1_1 : a0_ = 1
  · refine zr_tabIn (c := 1) (off := 62) (tgt := 63) ⟨by decide, by decide⟩ hs_1_1 (by decide) (by decide) rfl (by decide) d_T_about_1 ?_
    refine zw_aload_n (pc := 63) (n := 0) (x := 0) rfl (zdal_p dlA_T_about_164 (i := 7) rfl) ?_
    refine zw_getF (pc := 64) f_T_28 rfl ((hf.w hW).ka (o := 0) (by decide)) (hf.now hnow) (zdal_p dlA_T_about_164 (i := 8) rfl) ?_
    refine zw_getF (pc := 67) f_T_61 rfl ((hf.w hW).kr (o := 0) (by decide)) ((hf.w hW).lr (o := 0) (s := 0) (r := 1) (by decide)) (zdal_p dlA_T_about_164 (i := 9) rfl) ?_
    refine zk_getI (pc := 70) f_T_79 rfl ((hf.w hW).kr (o := 1) (by decide)) (zdal_p dlA_T_about_164 (i := 10) rfl) ?_
    exact zk_iret (pc := 73) (ty := .int) rfl rfl ⟨by omega, by omega⟩ hf (show zfAb P_ mv_ T_ nm_ s_ (ze Mz 1 1) a0_ (ze Mz (d_ + 1) 6) by exact zfAb_1 (by omega) (by omega)) (zdal_p dlA_T_about_164 (i := 11) rfl)
  by_cases hs_1_2 : a0_ = 2
  · refine zr_tabIn (c := 2) (off := 73) (tgt := 74) ⟨by decide, by decide⟩ hs_1_2 (by decide) (by decide) rfl (by decide) d_T_about_1 ?_
    refine zw_aload_n (pc := 74) (n := 0) (x := 0) rfl (zdal_p dlA_T_about_164 (i := 12) rfl) ?_
    refine zw_getF (pc := 75) f_T_28 rfl ((hf.w hW).ka (o := 0) (by decide)) (hf.now hnow) (zdal_p dlA_T_about_164 (i := 13) rfl) ?_
    refine zk_getI (pc := 78) f_T_82 rfl ((hf.w hW).kr (o := 0) (by decide)) (zdal_p dlA_T_about_164 (i := 14) rfl) ?_
    exact zk_iret (pc := 81) (ty := .int) rfl rfl ⟨by omega, by omega⟩ hf (show zfAb P_ mv_ T_ nm_ s_ (ze Mz 1 1) a0_ (ze Mz (d_ + 0) 6) by exact zfAb_2 (by omega) (by omega)) (zdal_p dlA_T_about_164 (i := 15) rfl)
  by_cases hs_1_3 : a0_ = 3
  · refine zr_tabIn (c := 3) (off := 81) (tgt := 82) ⟨by decide, by decide⟩ hs_1_3 (by decide) (by decide) rfl (by decide) d_T_about_1 ?_
    refine zw_aload_n (pc := 82) (n := 0) (x := 0) rfl (zdal_p dlA_T_about_164 (i := 16) rfl) ?_
    refine zw_getF (pc := 83) f_T_28 rfl ((hf.w hW).ka (o := 0) (by decide)) (hf.now hnow) (zdal_p dlA_T_about_164 (i := 17) rfl) ?_
    refine zw_getF (pc := 86) f_T_61 rfl ((hf.w hW).kr (o := 0) (by decide)) ((hf.w hW).lr (o := 0) (s := 0) (r := 1) (by decide)) (zdal_p dlA_T_about_164 (i := 18) rfl) ?_
    refine zk_getI (pc := 89) f_T_65 rfl ((hf.w hW).kr (o := 1) (by decide)) (zdal_p dlA_T_about_164 (i := 19) rfl) ?_
    exact zk_iret (pc := 92) (ty := .int) rfl rfl ⟨by omega, by omega⟩ hf (show zfAb P_ mv_ T_ nm_ s_ (ze Mz 1 1) a0_ (ze Mz (d_ + 1) 7) by exact zfAb_3 (by omega) (by omega)) (zdal_p dlA_T_about_164 (i := 20) rfl)
  by_cases hs_1_4 : a0_ = 4
  · refine zr_tabIn (c := 4) (off := 92) (tgt := 93) ⟨by decide, by decide⟩ hs_1_4 (by decide) (by decide) rfl (by decide) d_T_about_1 ?_
    refine zw_aload_n (pc := 93) (n := 0) (x := 0) rfl (zdal_p dlA_T_about_164 (i := 21) rfl) ?_
    refine zw_getF (pc := 94) f_T_28 rfl ((hf.w hW).ka (o := 0) (by decide)) (hf.now hnow) (zdal_p dlA_T_about_164 (i := 22) rfl) ?_
    refine zw_getF (pc := 97) f_T_85 rfl ((hf.w hW).kr (o := 0) (by decide)) ((hf.w hW).lr (o := 0) (s := 1) (r := 12) (by decide)) (zdal_p dlA_T_about_164 (i := 23) rfl) ?_
    refine zk_getI (pc := 100) f_T_89 rfl ((hf.w hW).kr (o := 12) (by decide)) (zdal_p dlA_T_about_165 (i := 0) rfl) ?_
    exact zk_iret (pc := 103) (ty := .int) rfl rfl ⟨by omega, by omega⟩ hf (show zfAb P_ mv_ T_ nm_ s_ (ze Mz 1 1) a0_ (ze Mz (d_ + 12) 6) by exact zfAb_4 (by omega) ⟨_, _, hen_, by omega⟩) (zdal_p dlA_T_about_165 (i := 1) rfl)
  by_cases hs_1_5 : a0_ = 5
  · refine zr_tabIn (c := 5) (off := 103) (tgt := 104) ⟨by decide, by decide⟩ hs_1_5 (by decide) (by decide) rfl (by decide) d_T_about_1 ?_
    refine zw_aload_n (pc := 104) (n := 0) (x := 0) rfl (zdal_p dlA_T_about_165 (i := 2) rfl) ?_
    refine zw_getF (pc := 105) f_T_28 rfl ((hf.w hW).ka (o := 0) (by decide)) (hf.now hnow) (zdal_p dlA_T_about_165 (i := 3) rfl) ?_
    refine zw_getF (pc := 108) f_T_85 rfl ((hf.w hW).kr (o := 0) (by decide)) ((hf.w hW).lr (o := 0) (s := 1) (r := 12) (by decide)) (zdal_p dlA_T_about_165 (i := 4) rfl) ?_
    refine zk_getI (pc := 111) f_T_94 rfl ((hf.w hW).kr (o := 12) (by decide)) (zdal_p dlA_T_about_165 (i := 5) rfl) ?_
    exact zk_iret (pc := 114) (ty := .int) rfl rfl ⟨by omega, by omega⟩ hf (show zfAb P_ mv_ T_ nm_ s_ (ze Mz 1 1) a0_ (ze Mz (d_ + 12) 7) by exact zfAb_5 (by omega) (by omega)) (zdal_p dlA_T_about_165 (i := 6) rfl)
  by_cases hs_1_6 : a0_ = 6
  · refine zr_tabIn (c := 6) (off := 114) (tgt := 115) ⟨by decide, by decide⟩ hs_1_6 (by decide) (by decide) rfl (by decide) d_T_about_1 ?_
    refine zw_aload_n (pc := 115) (n := 0) (x := 0) rfl (zdal_p dlA_T_about_165 (i := 7) rfl) ?_
    refine zw_getF (pc := 116) f_T_28 rfl ((hf.w hW).ka (o := 0) (by decide)) (hf.now hnow) (zdal_p dlA_T_about_165 (i := 8) rfl) ?_
    refine zw_getF (pc := 119) f_T_61 rfl ((hf.w hW).kr (o := 0) (by decide)) ((hf.w hW).lr (o := 0) (s := 0) (r := 1) (by decide)) (zdal_p dlA_T_about_165 (i := 9) rfl) ?_
    refine zw_aload_n (pc := 122) (n := 0) (x := 0) rfl (zdal_p dlA_T_about_165 (i := 10) rfl) ?_
    refine zw_getF (pc := 123) f_T_28 rfl ((hf.w hW).ka (o := 0) (by decide)) (hf.now hnow) (zdal_p dlA_T_about_165 (i := 11) rfl) ?_
    refine zw_getF (pc := 126) f_T_61 rfl ((hf.w hW).kr (o := 0) (by decide)) ((hf.w hW).lr (o := 0) (s := 0) (r := 1) (by decide)) (zdal_p dlA_T_about_165 (i := 12) rfl) ?_
    refine zk_callV hf.x (pc := 129) [] [.ref (d_ + 1)] l_T_97 (u_Group_everyoneG l d_ Mz (hf.w hW) T_ hT_ p1_) rfl rfl ((hf.w hW).kr (o := 1) (by decide)) (by decide) (by decide) (Nat.le_of_ble_eq_true rfl) (zdal_p dlA_T_about_165 (i := 13) rfl) ?_
    rintro _ N1_ ⟨v2_, rfl, ⟨hv2_a, hv2_b⟩, hsN1_, ⟨hp0_N1_, hp1_N1_, hp2_N1_⟩⟩
    obtain rfl := hsN1_.eq.symm
    show zW l m_T_about (zn Mz + 0, zw Mz + 0) Mz 132 [some (.ref 0), some (.int (Int32.ofInt a0_))] [.int (Int32.ofInt v2_), .ref (d_ + 1)] _
    have hev_ := hp0_N1_
    have hp2_ : 1 ≤ 2 ^ gN T_ := Nat.one_le_two_pow
    have het_ : (v2_).toNat = 2 ^ gN T_ - 1 := by omega
    refine zk_callV hf.x (pc := 132) [.int (Int32.ofInt v2_)] [] l_T_101 (u_Group_isCommutingG l d_ Mz (hf.w hW) v2_ hv2_a hv2_b T_ hT_ p1_ (show 0 ≤ v2_ by first | with_reducible assumption | assumption | omega) (show (v2_).toNat < 2 ^ gN T_ by rw [het_]; omega)) rfl rfl ((hf.w hW).kr (o := 1) (by decide)) (by decide) (by decide) (Nat.le_of_ble_eq_true rfl) (zdal_p dlA_T_about_165 (i := 14) rfl) ?_
    rintro _ N3_ ⟨v4_, rfl, ⟨hv4_a, hv4_b⟩, hsN3_, hp0_N3_⟩
    obtain rfl := hsN3_.eq.symm
    replace hp0_N3_ : ((v4_ = 1 ∧ gAb T_ (v2_).toNat) ∨ (v4_ = 0 ∧ ¬ gAb T_ (v2_).toNat)) := hp0_N3_
    rcases hp0_N3_ with ⟨rfl, ha132_0_hp0_N3_⟩ | ⟨rfl, ha132_0_hp0_N3_⟩
    · skip
      have hb_ := ha132_0_hp0_N3_
      rw [het_] at hb_
      show zW l m_T_about (zn Mz + 0, zw Mz + 0) Mz 135 [some (.ref 0), some (.int (Int32.ofInt a0_))] [.int (Int32.ofInt 1)] _
      have j_143 : ∀ (u5_ : Int) (hu5_a : -2147483648 ≤ u5_) (hu5_b : u5_ < 2147483648) (hu5_z : u5_ = 0 ∨ u5_ = 1) (i6_ : (((u5_ : Int) = 1 ∧ gAb T_ (2 ^ gN T_ - 1)) ∨ ((u5_ : Int) = 0 ∧ ¬ gAb T_ (2 ^ gN T_ - 1)))), zW l m_T_about (zn Mz + 0, zw Mz + 0) Mz 143 [some (.ref 0), some (.int (Int32.ofInt a0_))] [.int (Int32.ofInt u5_)] (zqcI d_ [] [] [] [] Mz (fun v N => zfAb P_ mv_ T_ nm_ s_ (ze Mz 1 1) a0_ v)) := by
        intro u5_ hu5_a hu5_b hu5_z i6_
        have hab_ := (show (((u5_ : Int) = 1 ∧ gAb T_ (2 ^ gN T_ - 1)) ∨ ((u5_ : Int) = 0 ∧ ¬ gAb T_ (2 ^ gN T_ - 1))) by first | with_reducible assumption | assumption)
        exact zk_iret (pc := 143) (ty := .int) rfl rfl ⟨by omega, by omega⟩ hf (show zfAb P_ mv_ T_ nm_ s_ (ze Mz 1 1) a0_ u5_ by exact zfAb_6 (by omega) (by first | exact hab_ | exact Or.inl ⟨by omega, hb_⟩ | exact Or.inr ⟨by omega, hb_⟩)) (zdal_p dlA_T_about_165 (i := 19) rfl)
      refine zr_if_eq (pc := 135) (tgt := 142) ⟨(by decide), (by decide)⟩ (by decide) (zdal_p dlA_T_about_165 (i := 15) rfl) (fun hc_135 => ?_) (fun hc_135 => ?_)
      · skip
        exact absurd hc_135 (by decide)
      · skip
        refine zw_iconst (pc := 138) (v := Int32.ofInt 1) (by decide) (zdal_p dlA_T_about_165 (i := 16) rfl) ?_
        refine zw_goto (pc := 139) (tgt := 143) (by decide) (zdal_p dlA_T_about_165 (i := 17) rfl) ?_
        exact j_143 1 (by decide) (by decide) (by omega) (show (((1 : Int) = 1 ∧ gAb T_ (2 ^ gN T_ - 1)) ∨ ((1 : Int) = 0 ∧ ¬ gAb T_ (2 ^ gN T_ - 1))) by first | exact Or.inl ⟨rfl, hb_⟩ | exact Or.inr ⟨rfl, hb_⟩)
    · skip
      have hb_ := ha132_0_hp0_N3_
      rw [het_] at hb_
      show zW l m_T_about (zn Mz + 0, zw Mz + 0) Mz 135 [some (.ref 0), some (.int (Int32.ofInt a0_))] [.int (Int32.ofInt 0)] _
      have j_143 : ∀ (u7_ : Int) (hu7_a : -2147483648 ≤ u7_) (hu7_b : u7_ < 2147483648) (hu7_z : u7_ = 0 ∨ u7_ = 1) (i8_ : (((u7_ : Int) = 1 ∧ gAb T_ (2 ^ gN T_ - 1)) ∨ ((u7_ : Int) = 0 ∧ ¬ gAb T_ (2 ^ gN T_ - 1)))), zW l m_T_about (zn Mz + 0, zw Mz + 0) Mz 143 [some (.ref 0), some (.int (Int32.ofInt a0_))] [.int (Int32.ofInt u7_)] (zqcI d_ [] [] [] [] Mz (fun v N => zfAb P_ mv_ T_ nm_ s_ (ze Mz 1 1) a0_ v)) := by
        intro u7_ hu7_a hu7_b hu7_z i8_
        have hab_ := (show (((u7_ : Int) = 1 ∧ gAb T_ (2 ^ gN T_ - 1)) ∨ ((u7_ : Int) = 0 ∧ ¬ gAb T_ (2 ^ gN T_ - 1))) by first | with_reducible assumption | assumption)
        exact zk_iret (pc := 143) (ty := .int) rfl rfl ⟨by omega, by omega⟩ hf (show zfAb P_ mv_ T_ nm_ s_ (ze Mz 1 1) a0_ u7_ by exact zfAb_6 (by omega) (by first | exact hab_ | exact Or.inl ⟨by omega, hb_⟩ | exact Or.inr ⟨by omega, hb_⟩)) (zdal_p dlA_T_about_165 (i := 19) rfl)
      refine zr_if_eq (pc := 135) (tgt := 142) ⟨(by decide), (by decide)⟩ (by decide) (zdal_p dlA_T_about_165 (i := 15) rfl) (fun hc_135 => ?_) (fun hc_135 => ?_)
      · skip
        refine zw_iconst (pc := 142) (v := Int32.ofInt 0) (by decide) (zdal_p dlA_T_about_165 (i := 18) rfl) ?_
        exact j_143 0 (by decide) (by decide) (by omega) (show (((0 : Int) = 1 ∧ gAb T_ (2 ^ gN T_ - 1)) ∨ ((0 : Int) = 0 ∧ ¬ gAb T_ (2 ^ gN T_ - 1))) by first | exact Or.inl ⟨rfl, hb_⟩ | exact Or.inr ⟨rfl, hb_⟩)
      · skip
        exact absurd hc_135 (by decide)
  by_cases hs_1_7 : a0_ = 7
  · refine zr_tabIn (c := 7) (off := 143) (tgt := 144) ⟨by decide, by decide⟩ hs_1_7 (by decide) (by decide) rfl (by decide) d_T_about_1 ?_
    refine zw_aload_n (pc := 144) (n := 0) (x := 0) rfl (zdal_p dlA_T_about_165 (i := 20) rfl) ?_
    refine zw_getF (pc := 145) f_T_28 rfl ((hf.w hW).ka (o := 0) (by decide)) (hf.now hnow) (zdal_p dlA_T_about_165 (i := 21) rfl) ?_
    refine zk_getI (pc := 148) f_T_105 rfl ((hf.w hW).kr (o := 0) (by decide)) (zdal_p dlA_T_about_165 (i := 22) rfl) ?_
    exact zk_iret (pc := 151) (ty := .int) rfl rfl ⟨by omega, by omega⟩ hf (show zfAb P_ mv_ T_ nm_ s_ (ze Mz 1 1) a0_ (ze Mz (d_ + 0) 7) by exact zfAb_7 (by omega) (by omega)) (zdal_p dlA_T_about_165 (i := 23) rfl)
  by_cases hs_1_8 : a0_ = 8
  · refine zr_tabIn (c := 8) (off := 151) (tgt := 152) ⟨by decide, by decide⟩ hs_1_8 (by decide) (by decide) rfl (by decide) d_T_about_1 ?_
    refine zw_aload_n (pc := 152) (n := 0) (x := 0) rfl (zdal_p dlA_T_about_166 (i := 0) rfl) ?_
    refine zw_getF (pc := 153) f_T_10 rfl ((hf.w hW).ka (o := 0) (by decide)) ((hf.w hW).la (o := 0) (s := 0) (r := 1) (by decide)) (zdal_p dlA_T_about_166 (i := 1) rfl) ?_
    refine zk_getI (pc := 156) f_T_42 rfl ((hf.w hW).ka (o := 1) (by decide)) (zdal_p dlA_T_about_166 (i := 2) rfl) ?_
    exact zk_iret (pc := 159) (ty := .int) rfl rfl ⟨by omega, by omega⟩ hf (show zfAb P_ mv_ T_ nm_ s_ (ze Mz 1 1) a0_ (ze Mz 1 1) by exact zfAb_8 (by omega) (by omega)) (zdal_p dlA_T_about_166 (i := 3) rfl)
  refine zr_tabOut (tgt := 160) ⟨ha0_a, ha0_b⟩ (by omega) (by decide) d_T_about_1 ?_
  refine zw_iconst (pc := 160) (v := Int32.ofInt (-1)) (by decide) (zdal_p dlA_T_about_166 (i := 4) rfl) ?_
  exact zk_iret (pc := 161) (ty := .int) rfl rfl ⟨by omega, by omega⟩ hf (show zfAb P_ mv_ T_ nm_ s_ (ze Mz 1 1) a0_ ((-1)) by exact zfAb_9 (by omega) (by omega)) (zdal_p dlA_T_about_166 (i := 5) rfl)
set_option maxHeartbeats 4000000 in
theorem c_M_aboutS (l : Launch) (Mz : zMem) (hW : zMt Mz) (a0_ : Int) (ha0_a : -2147483648 ≤ a0_) (ha0_b : a0_ < 2147483648) (T : zGT) (hO : gOK T) (P_ : Nat) (mv_ : List Nat) (s_ : zSg) (nm_ : List (Int × (Nat → Int))) (p0_ : zGB T Mz) (p1_ : ze Mz 81 16 = (P_ : Int)) (p2_ : 0 ≤ ze Mz 81 17) (p3_ : zMvq mv_ Mz) (p4_ : zRNi nm_ (gF T).length (gmkI T) Mz) (p5_ : zSR (gF T).length s_ Mz) : zC l m_M_about 0 0 [.ref 81, .int (Int32.ofInt a0_)] Mz (zpI [] [] Mz (fun v N => zfAb P_ mv_ T nm_ s_ (ze Mz 81 1) a0_ v)) := by
  refine zC_of (L0 := [some (.ref 81), some (.int (Int32.ofInt a0_))]) md_M_about (Nat.le_of_ble_eq_true rfl) rfl ?_ zQ0
  have hf : zFr [] [] Mz Mz := zFr.rf
  have r_1 := ze_r Mz 81 1
  have r_16 := ze_r Mz 81 16
  have r_17 := ze_r Mz 81 17
  have r_18 := ze_r Mz 81 18
  have r_20 := ze_r Mz 81 20
  have r_25 := ze_r Mz 81 25
  have r_26 := ze_r Mz 81 26
  have r_60 := ze_r Mz 81 60
  have hG := hO.1
  have g24 := hG.2.1
  have g1 := hG.1
  have dv0 : zTab T Mz := p0_.1
  have dv1 : zB 85 144 0 5 Mz := p0_.2.1
  have dv2 : zJX T Mz := p0_.2.2.1
  have dv3 : zFirs T Mz := p0_.2.2.2.1
  have dv4 : zSSm T Mz := p0_.2.2.2.2.1
  have dv5 : zGD Mz := zGB.d hO p0_
  have gb := dv5.1
  have gn := dv0.1
  have hsz_ := dv0.1
  have hfl_ := dv3.1
  have hsz_ := dv0.1
  have hfl_ := dv3.1
  have hnl_ := p4_.n
  obtain ⟨⟨hs1_, hs2_⟩, -⟩ := id p5_
  have hen_ := zJX.en hO dv2
  have hj1_ := dv2.1.1
  have hml_ : (mv_.length : Int) = ze Mz 81 17 := by have e_ : zMvF Mz = mv_ := p3_; rw [← e_]; unfold zMvF; rw [List.length_map, List.length_range]; omega
  refine zw_iload_n (pc := 0) (n := 1) (x := Int32.ofInt a0_) rfl (zdal_p dlC_M_about_146 (i := 0) rfl) ?_
  by_cases hs_1_0 : a0_ = 0
  · refine zr_tabIn (c := 0) (off := 51) (tgt := 52) ⟨by decide, by decide⟩ hs_1_0 (by decide) (by decide) rfl (by decide) d_M_about_1 ?_
    refine zw_aload_n (pc := 52) (n := 0) (x := 81) rfl (zdal_p dlC_M_about_146 (i := 2) rfl) ?_
    refine zr_getI0 hf hW (pc := 53) (by decide) f_M_382 rfl (zdal_p dlC_M_about_146 (i := 3) rfl) ?_
    exact zr_iret (pc := 56) (ty := .int) rfl rfl ⟨by omega, by omega⟩ hf (show zfAb P_ mv_ T nm_ s_ (ze Mz 81 1) a0_ (ze Mz 81 16) by exact zfAb_0 (by omega) (by omega)) (zdal_p dlC_M_about_146 (i := 4) rfl)
  by_cases hs_1_1 : a0_ = 1
  · refine zr_tabIn (c := 1) (off := 56) (tgt := 57) ⟨by decide, by decide⟩ hs_1_1 (by decide) (by decide) rfl (by decide) d_M_about_1 ?_
    refine zw_aload_n (pc := 57) (n := 0) (x := 81) rfl (zdal_p dlC_M_about_146 (i := 5) rfl) ?_
    refine zr_getI0 hf hW (pc := 58) (by decide) f_M_385 rfl (zdal_p dlC_M_about_146 (i := 6) rfl) ?_
    exact zr_iret (pc := 61) (ty := .int) rfl rfl ⟨by omega, by omega⟩ hf (show zfAb P_ mv_ T nm_ s_ (ze Mz 81 1) a0_ (ze Mz 81 17) by exact zfAb_1 (by omega) (by omega)) (zdal_p dlC_M_about_146 (i := 7) rfl)
  by_cases hs_1_2 : a0_ = 2
  · refine zr_tabIn (c := 2) (off := 61) (tgt := 62) ⟨by decide, by decide⟩ hs_1_2 (by decide) (by decide) rfl (by decide) d_M_about_1 ?_
    refine zw_aload_n (pc := 62) (n := 0) (x := 81) rfl (zdal_p dlC_M_about_146 (i := 8) rfl) ?_
    refine zr_getI0 hf hW (pc := 63) (by decide) f_M_388 rfl (zdal_p dlC_M_about_146 (i := 9) rfl) ?_
    exact zr_iret (pc := 66) (ty := .int) rfl rfl ⟨by omega, by omega⟩ hf (show zfAb P_ mv_ T nm_ s_ (ze Mz 81 1) a0_ (ze Mz 81 18) by exact zfAb_2 (by omega) (by omega)) (zdal_p dlC_M_about_146 (i := 10) rfl)
  by_cases hs_1_3 : a0_ = 3
  · refine zr_tabIn (c := 3) (off := 66) (tgt := 67) ⟨by decide, by decide⟩ hs_1_3 (by decide) (by decide) rfl (by decide) d_M_about_1 ?_
    refine zw_aload_n (pc := 67) (n := 0) (x := 81) rfl (zdal_p dlC_M_about_146 (i := 11) rfl) ?_
    refine zr_getI0 hf hW (pc := 68) (by decide) f_M_196 rfl (zdal_p dlC_M_about_146 (i := 12) rfl) ?_
    exact zr_iret (pc := 71) (ty := .int) rfl rfl ⟨by omega, by omega⟩ hf (show zfAb P_ mv_ T nm_ s_ (ze Mz 81 1) a0_ (ze Mz 81 20) by exact zfAb_3 (by omega) (by omega)) (zdal_p dlC_M_about_146 (i := 13) rfl)
  by_cases hs_1_4 : a0_ = 4
  · refine zr_tabIn (c := 4) (off := 71) (tgt := 72) ⟨by decide, by decide⟩ hs_1_4 (by decide) (by decide) rfl (by decide) d_M_about_1 ?_
    refine zw_aload_n (pc := 72) (n := 0) (x := 81) rfl (zdal_p dlC_M_about_146 (i := 14) rfl) ?_
    refine zr_getI0 hf hW (pc := 73) (by decide) f_M_220 rfl (zdal_p dlC_M_about_146 (i := 15) rfl) ?_
    exact zr_iret (pc := 76) (ty := .int) rfl rfl ⟨by omega, by omega⟩ hf (show zfAb P_ mv_ T nm_ s_ (ze Mz 81 1) a0_ (ze Mz 81 25) by exact zfAb_4 (by omega) ⟨_, _, hen_, by omega⟩) (zdal_p dlC_M_about_146 (i := 16) rfl)
  by_cases hs_1_5 : a0_ = 5
  · refine zr_tabIn (c := 5) (off := 76) (tgt := 77) ⟨by decide, by decide⟩ hs_1_5 (by decide) (by decide) rfl (by decide) d_M_about_1 ?_
    refine zw_aload_n (pc := 77) (n := 0) (x := 81) rfl (zdal_p dlC_M_about_146 (i := 17) rfl) ?_
    refine zr_getI0 hf hW (pc := 78) (by decide) f_M_235 rfl (zdal_p dlC_M_about_146 (i := 18) rfl) ?_
    exact zr_iret (pc := 81) (ty := .int) rfl rfl ⟨by omega, by omega⟩ hf (show zfAb P_ mv_ T nm_ s_ (ze Mz 81 1) a0_ (ze Mz 81 26) by exact zfAb_5 (by omega) (by omega)) (zdal_p dlC_M_about_146 (i := 19) rfl)
  by_cases hs_1_6 : a0_ = 6
  · refine zr_tabIn (c := 6) (off := 81) (tgt := 82) ⟨by decide, by decide⟩ hs_1_6 (by decide) (by decide) rfl (by decide) d_M_about_1 ?_
    refine zw_aload_n (pc := 82) (n := 0) (x := 81) rfl (zdal_p dlC_M_about_146 (i := 20) rfl) ?_
    refine zw_iconst (pc := 83) (v := Int32.ofInt 1) (by decide) (zdal_p dlC_M_about_146 (i := 21) rfl) ?_
    refine zw_aload_n (pc := 84) (n := 0) (x := 81) rfl (zdal_p dlC_M_about_146 (i := 22) rfl) ?_
    refine zr_getI0 hf hW (pc := 85) (by decide) f_M_196 rfl (zdal_p dlC_M_about_146 (i := 23) rfl) ?_
    refine zr_ishl (pc := 88) (zdal_p dlC_M_about_147 (i := 0) rfl) ?_
    have hr1_ := zshl_r 1 (ze Mz 81 20)
    have hsh := zshl_b hG gn
    have hpw_ := zsh_2 (k := ze Mz 81 20) (by omega) (by omega)
    rw [show (ze Mz 81 20).toNat = gN T by omega] at hpw_
    have hp2_ : 1 ≤ 2 ^ gN T := Nat.one_le_two_pow
    have het_ : (zshl 1 (ze Mz 81 20) - 1).toNat = 2 ^ gN T - 1 := by omega
    refine zw_iconst (pc := 89) (v := Int32.ofInt 1) (by decide) (zdal_p dlC_M_about_147 (i := 1) rfl) ?_
    refine zr_isub (pc := 90) (zdal_p dlC_M_about_147 (i := 2) rfl) ?_
    refine zr_callV (hf.w hW) hf.x (pc := 91) [.int (Int32.ofInt ((zshl 1 (ze Mz 81 20)) - 1))] [] l_M_397 (c_M_areAlikeG l Mz (hf.w hW) ((zshl 1 (ze Mz 81 20)) - 1) (by omega) (by omega) T hO p0_ (show 0 ≤ ((zshl 1 (ze Mz 81 20)) - 1) by first | with_reducible assumption | assumption | omega) (show ((zshl 1 (ze Mz 81 20)) - 1) < 16777216 by first | with_reducible assumption | assumption | omega)) rfl rfl rfl (by decide) (Nat.le_of_ble_eq_true rfl) (zdal_p dlC_M_about_147 (i := 3) rfl) ?_
    rintro _ N2_ ⟨v3_, rfl, ⟨hv3_a, hv3_b⟩, hsN2_, hp0_N2_⟩
    obtain rfl := hsN2_.eq.symm
    replace hp0_N2_ : ((v3_ = 1 ∧ gAb T (((zshl 1 (ze Mz 81 20)) - 1)).toNat) ∨ (v3_ = 0 ∧ ¬ gAb T (((zshl 1 (ze Mz 81 20)) - 1)).toNat)) := hp0_N2_
    rcases hp0_N2_ with ⟨rfl, ha91_0_hp0_N2_⟩ | ⟨rfl, ha91_0_hp0_N2_⟩
    · skip
      have hb_ := ha91_0_hp0_N2_
      rw [het_] at hb_
      show zW l m_M_about (zn Mz + 0, zw Mz + 0) Mz 94 [some (.ref 81), some (.int (Int32.ofInt a0_))] [.int (Int32.ofInt 1)] _
      refine zr_callS hf.x (pc := 94) [.int (Int32.ofInt 1)] [] l_M_256 (c_M_truth l Mz (hf.w hW) 1 (by decide) (by decide) (by omega)) rfl rfl (by decide) (Nat.le_of_ble_eq_true rfl) (zdal_p dlC_M_about_147 (i := 4) rfl) ?_
      rintro _ N4_ ⟨v5_, rfl, ⟨hv5_a, hv5_b⟩, hsN4_, hp0_N4_⟩
      obtain rfl := hsN4_.eq.symm
      replace hp0_N4_ : v5_ = 1 := hp0_N4_
      show zW l m_M_about (zn Mz + 0, zw Mz + 0) Mz 97 [some (.ref 81), some (.int (Int32.ofInt a0_))] [.int (Int32.ofInt v5_)] _
      exact zr_iret (pc := 97) (ty := .int) rfl rfl ⟨by omega, by omega⟩ hf (show zfAb P_ mv_ T nm_ s_ (ze Mz 81 1) a0_ v5_ by exact zfAb_6 (by omega) (by first | exact hab_ | exact Or.inl ⟨by omega, hb_⟩ | exact Or.inr ⟨by omega, hb_⟩)) (zdal_p dlC_M_about_147 (i := 5) rfl)
    · skip
      have hb_ := ha91_0_hp0_N2_
      rw [het_] at hb_
      show zW l m_M_about (zn Mz + 0, zw Mz + 0) Mz 94 [some (.ref 81), some (.int (Int32.ofInt a0_))] [.int (Int32.ofInt 0)] _
      refine zr_callS hf.x (pc := 94) [.int (Int32.ofInt 0)] [] l_M_256 (c_M_truth l Mz (hf.w hW) 0 (by decide) (by decide) (by omega)) rfl rfl (by decide) (Nat.le_of_ble_eq_true rfl) (zdal_p dlC_M_about_147 (i := 4) rfl) ?_
      rintro _ N6_ ⟨v7_, rfl, ⟨hv7_a, hv7_b⟩, hsN6_, hp0_N6_⟩
      obtain rfl := hsN6_.eq.symm
      replace hp0_N6_ : v7_ = 0 := hp0_N6_
      show zW l m_M_about (zn Mz + 0, zw Mz + 0) Mz 97 [some (.ref 81), some (.int (Int32.ofInt a0_))] [.int (Int32.ofInt v7_)] _
      exact zr_iret (pc := 97) (ty := .int) rfl rfl ⟨by omega, by omega⟩ hf (show zfAb P_ mv_ T nm_ s_ (ze Mz 81 1) a0_ v7_ by exact zfAb_6 (by omega) (by first | exact hab_ | exact Or.inl ⟨by omega, hb_⟩ | exact Or.inr ⟨by omega, hb_⟩)) (zdal_p dlC_M_about_147 (i := 5) rfl)
  by_cases hs_1_7 : a0_ = 7
  · refine zr_tabIn (c := 7) (off := 97) (tgt := 98) ⟨by decide, by decide⟩ hs_1_7 (by decide) (by decide) rfl (by decide) d_M_about_1 ?_
    refine zw_aload_n (pc := 98) (n := 0) (x := 81) rfl (zdal_p dlC_M_about_147 (i := 6) rfl) ?_
    refine zr_getI0 hf hW (pc := 99) (by decide) f_M_391 rfl (zdal_p dlC_M_about_147 (i := 7) rfl) ?_
    exact zr_iret (pc := 102) (ty := .int) rfl rfl ⟨by omega, by omega⟩ hf (show zfAb P_ mv_ T nm_ s_ (ze Mz 81 1) a0_ (ze Mz 81 60) by exact zfAb_7 (by omega) (by omega)) (zdal_p dlC_M_about_147 (i := 8) rfl)
  by_cases hs_1_8 : a0_ = 8
  · refine zr_tabIn (c := 8) (off := 102) (tgt := 103) ⟨by decide, by decide⟩ hs_1_8 (by decide) (by decide) rfl (by decide) d_M_about_1 ?_
    refine zw_aload_n (pc := 103) (n := 0) (x := 81) rfl (zdal_p dlC_M_about_147 (i := 9) rfl) ?_
    refine zr_getI0 hf hW (pc := 104) (by decide) f_M_124 rfl (zdal_p dlC_M_about_147 (i := 10) rfl) ?_
    exact zr_iret (pc := 107) (ty := .int) rfl rfl ⟨by omega, by omega⟩ hf (show zfAb P_ mv_ T nm_ s_ (ze Mz 81 1) a0_ (ze Mz 81 1) by exact zfAb_8 (by omega) (by omega)) (zdal_p dlC_M_about_147 (i := 11) rfl)
  refine zr_tabOut (tgt := 108) ⟨ha0_a, ha0_b⟩ (by omega) (by decide) d_M_about_1 ?_
  refine zw_iconst (pc := 108) (v := Int32.ofInt (-1)) (by decide) (zdal_p dlC_M_about_147 (i := 12) rfl) ?_
  exact zr_iret (pc := 109) (ty := .int) rfl rfl ⟨by omega, by omega⟩ hf (show zfAb P_ mv_ T nm_ s_ (ze Mz 81 1) a0_ ((-1)) by exact zfAb_9 (by omega) (by omega)) (zdal_p dlC_M_about_147 (i := 13) rfl)
