set_option maxHeartbeats 4000000 in
theorem u_Reader_readRowS (l : Launch) (d_ : Nat) (Mz : zMem) (hW : zKW d_ Mz) (a1_ : Int) (ha1_a : -2147483648 ≤ a1_) (ha1_b : a1_ < 2147483648) (b_ : Nat → Int) (n_ : Nat) (p0_ : zYb b_ n_ Mz) (p1_ : 0 ≤ a1_) (p2_ : a1_ ≤ 27) : zC l m_Reader_readRow 0 0 [.ref 4, .ref (d_ + 26), .int (Int32.ofInt a1_)] Mz (zqcI d_ [] [] [] [27] Mz (fun v N => (((v = 1 ∧ zRown b_ n_ (a1_).toNat (fun j_ => zg N (d_ + 27) j_) ∧ (∀ j : Nat, (j : Int) < a1_ → -999999 ≤ zg N (d_ + 27) j ∧ zg N (d_ + 27) j ≤ 999999)) ∨ (v = 0 ∧ ¬ ∃ f_ : Nat → Int, zRown b_ n_ (a1_).toNat f_))))) := by
  refine zC_of (L0 := [some (.ref 4), some (.ref (d_ + 26)), some (.int (Int32.ofInt a1_)), none, none, none, none, none, none, none]) md_Reader_readRow (Nat.le_of_ble_eq_true rfl) rfl ?_ zQ0
  have hf : zFc d_ [] [] [] [27] Mz Mz := zFc.rf
  have r_A1_1 := ze_r Mz 1 1
  obtain ⟨hn_, hn7_, hB_, hb_⟩ := id p0_
  have hz0_ := zru_le (P := zpB) (b := b_) (n := n_) (p := 0) (by omega)
  have hz0b_ : zru zpB b_ n_ (0 : Int).toNat = zru zpB b_ n_ 0 := rfl
  refine zw_aload_n (pc := 0) (n := 0) (x := 4) rfl d_Reader_readRow_0 ?_
  refine zw_getF (pc := 1) f_Reader_15 rfl ((hf.w hW).ka (o := 4) (by decide)) ((hf.w hW).la (o := 4) (s := 0) (r := 1) (by decide)) d_Reader_readRow_1 ?_
  refine zw_iconst (pc := 4) (v := Int32.ofInt 0) (by decide) d_Reader_readRow_4 ?_
  refine zk_callV hf.x (pc := 5) [.int (Int32.ofInt 0)] [] l_Reader_188 (u_Tokens_pastBlanks l d_ Mz (hf.w hW) 0 (by decide) (by decide) b_ n_ p0_ (show 0 ≤ (0 : Int) by first | assumption | omega) (show (0 : Int) ≤ n_ by first | assumption | omega)) rfl rfl ((hf.w hW).ka (o := 1) (by decide)) (by decide) (by decide) (Nat.le_of_ble_eq_true rfl) d_Reader_readRow_5 ?_
  rintro _ N1_ ⟨v2_, rfl, ⟨hv2_a, hv2_b⟩, hsN1_, hp0_N1_⟩
  obtain rfl := hsN1_.eq.symm
  replace hp0_N1_ : v2_ = (zru zpB b_ n_ ((0 : Int)).toNat : Nat) := hp0_N1_
  show zW l m_Reader_readRow (zn Mz + 0, zw Mz + 0) Mz 8 [some (.ref 4), some (.ref (d_ + 26)), some (.int (Int32.ofInt a1_)), none, none, none, none, none, none, none] [.int (Int32.ofInt v2_)] (zqcI d_ [] [] [] [27] Mz (fun v N => (((v = 1 ∧ zRown b_ n_ (a1_).toNat (fun j_ => zg N (d_ + 27) j_) ∧ (∀ j : Nat, (j : Int) < a1_ → -999999 ≤ zg N (d_ + 27) j ∧ zg N (d_ + 27) j ≤ 999999)) ∨ (v = 0 ∧ ¬ ∃ f_ : Nat → Int, zRown b_ n_ (a1_).toNat f_)))))
  refine zw_istore_n (pc := 8) (i := 3) (L2 := [some (.ref 4), some (.ref (d_ + 26)), some (.int (Int32.ofInt a1_)), some (.int (Int32.ofInt v2_)), none, none, none, none, none, none]) rfl (by decide) rfl d_Reader_readRow_8 ?_
  refine zw_iconst (pc := 9) (v := Int32.ofInt 0) (by decide) d_Reader_readRow_9 ?_
  refine zw_istore (pc := 10) (i := 4) (L2 := [some (.ref 4), some (.ref (d_ + 26)), some (.int (Int32.ofInt a1_)), some (.int (Int32.ofInt v2_)), some (.int (Int32.ofInt 0)), none, none, none, none, none]) (by decide) rfl d_Reader_readRow_10 ?_
  have lp_12 : ∀ (n : Nat) (u3_ : Int) (hu3_a : -2147483648 ≤ u3_) (hu3_b : u3_ < 2147483648) (u4_ : Int) (hu4_a : -2147483648 ≤ u4_) (hu4_b : u4_ < 2147483648) (N5_ : zMem) (hs6_ : zFc d_ [] [] [] [27] Mz N5_) (i7_ : 0 ≤ u4_) (i8_ : u4_ ≤ a1_) (i9_ : 0 ≤ u3_) (i10_ : u3_ ≤ n_) (i11_ : zRwn b_ n_ (zru zpB b_ n_ 0) (fun j_ => zg N5_ (d_ + 27) j_) (u4_).toNat (u3_).toNat) (i12_ : (∀ j : Nat, (j : Int) < u4_ → -999999 ≤ zg N5_ (d_ + 27) j ∧ zg N5_ (d_ + 27) j ≤ 999999)), (a1_ - u4_).toNat < n → zW l m_Reader_readRow (zn Mz + 0, zw Mz + 0) N5_ 12 [some (.ref 4), some (.ref (d_ + 26)), some (.int (Int32.ofInt a1_)), some (.int (Int32.ofInt u3_)), some (.int (Int32.ofInt u4_)), none, none, none, none, none] [] (zqcI d_ [] [] [] [27] Mz (fun v N => (((v = 1 ∧ zRown b_ n_ (a1_).toNat (fun j_ => zg N (d_ + 27) j_) ∧ (∀ j : Nat, (j : Int) < a1_ → -999999 ≤ zg N (d_ + 27) j ∧ zg N (d_ + 27) j ≤ 999999)) ∨ (v = 0 ∧ ¬ ∃ f_ : Nat → Int, zRown b_ n_ (a1_).toNat f_))))) := by
    intro n
    induction n with
    | zero =>
      intro u3_ hu3_a hu3_b u4_ hu4_a hu4_b N5_ hs6_ i7_ i8_ i9_ i10_ i11_ i12_ h0
      exact absurd h0 (Nat.not_lt_zero _)
    | succ n ih_12 =>
      intro u3_ hu3_a hu3_b u4_ hu4_a hu4_b N5_ hs6_ i7_ i8_ i9_ i10_ i11_ i12_ hlt_12
      have hf_N5_ : zFc d_ [] [] [] [27] Mz N5_ := hf.tr hs6_ (by decide) (by decide) (by decide) (by decide)
      have eA1_1_N5_ : ze N5_ 1 1 = ze Mz 1 1 := hs6_.ea (hf.w hW) (by decide)
      have c13_ : zYb b_ n_ N5_ := zYb.fr (hf.w hW) hs6_ p0_ (by decide)
      have hrw_ := (show zRwn b_ n_ (zru zpB b_ n_ 0) (fun j_ => zg N5_ (d_ + 27) j_) (u4_).toNat (u3_).toNat by assumption)
      have hbi_ := (show (∀ j : Nat, (j : Int) < u4_ → -999999 ≤ zg N5_ (d_ + 27) j ∧ zg N5_ (d_ + 27) j ≤ 999999) by assumption)
      refine zw_iload (pc := 12) (i := 4) (x := Int32.ofInt u4_) rfl d_Reader_readRow_12 ?_
      refine zw_iload_n (pc := 14) (n := 2) (x := Int32.ofInt a1_) rfl d_Reader_readRow_14 ?_
      refine zr_icmp_ge (pc := 15) (tgt := 179) ⟨hu4_a, hu4_b⟩ ⟨ha1_a, ha1_b⟩ (by decide) d_Reader_readRow_15 (fun hc_15 => ?_) (fun hc_15 => ?_)
      · skip
        refine zw_iload_n (pc := 179) (n := 3) (x := Int32.ofInt u3_) rfl d_Reader_readRow_179 ?_
        refine zw_aload_n (pc := 180) (n := 0) (x := 4) rfl d_Reader_readRow_180 ?_
        refine zw_getF (pc := 181) f_Reader_15 rfl ((hf_N5_.w hW).ka (o := 4) (by decide)) ((hf_N5_.w hW).la (o := 4) (s := 0) (r := 1) (by decide)) d_Reader_readRow_181 ?_
        refine zk_getI (pc := 184) f_Reader_191 rfl ((hf_N5_.w hW).ka (o := 1) (by decide)) d_Reader_readRow_184 ?_
        rw [hf_N5_.ea hW (by decide)]
        refine zr_icmp_lt (pc := 187) (tgt := 194) ⟨hu3_a, hu3_b⟩ ⟨(ze_r Mz 1 1).1, (ze_r Mz 1 1).2⟩ (by decide) d_Reader_readRow_187 (fun hc_187 => ?_) (fun hc_187 => ?_)
        · skip
          refine zw_iconst (pc := 194) (v := Int32.ofInt 0) (by decide) d_Reader_readRow_194 ?_
          exact zk_iret (pc := 195) (ty := .boolean) rfl (z_narB (by omega)) ⟨by omega, by omega⟩ hf_N5_ (show ((0 = 1 ∧ zRown b_ n_ (a1_).toNat (fun j_ => zg N5_ (d_ + 27) j_) ∧ (∀ j : Nat, (j : Int) < a1_ → -999999 ≤ zg N5_ (d_ + 27) j ∧ zg N5_ (d_ + 27) j ≤ 999999)) ∨ (0 = 0 ∧ ¬ ∃ f_ : Nat → Int, zRown b_ n_ (a1_).toNat f_)) from Or.inr (⟨(show 0 = 0 by first | rfl | exact hno_ | exact zRown_e (by have h_ := hrw_; rw [show (u4_).toNat = (a1_).toNat by omega] at h_; exact h_) (by omega)), (show ¬ ∃ f_ : Nat → Int, zRown b_ n_ (a1_).toNat f_ by first | rfl | exact hno_ | exact zRown_e (by have h_ := hrw_; rw [show (u4_).toNat = (a1_).toNat by omega] at h_; exact h_) (by omega))⟩)) d_Reader_readRow_195
        · skip
          refine zw_iconst (pc := 190) (v := Int32.ofInt 1) (by decide) d_Reader_readRow_190 ?_
          refine zw_goto (pc := 191) (tgt := 195) (by decide) d_Reader_readRow_191 ?_
          exact zk_iret (pc := 195) (ty := .boolean) rfl (z_narB (by omega)) ⟨by omega, by omega⟩ hf_N5_ (show ((1 = 1 ∧ zRown b_ n_ (a1_).toNat (fun j_ => zg N5_ (d_ + 27) j_) ∧ (∀ j : Nat, (j : Int) < a1_ → -999999 ≤ zg N5_ (d_ + 27) j ∧ zg N5_ (d_ + 27) j ≤ 999999)) ∨ (1 = 0 ∧ ¬ ∃ f_ : Nat → Int, zRown b_ n_ (a1_).toNat f_)) from Or.inl (⟨(show 1 = 1 by first | rfl | exact ⟨_, by have h_ := hrw_; rw [show (u4_).toNat = (a1_).toNat by omega] at h_; exact h_, by omega⟩ | exact fun j_ hj_ => hbi_ j_ (by omega)), (show zRown b_ n_ (a1_).toNat (fun j_ => zg N5_ (d_ + 27) j_) by first | rfl | exact ⟨_, by have h_ := hrw_; rw [show (u4_).toNat = (a1_).toNat by omega] at h_; exact h_, by omega⟩ | exact fun j_ hj_ => hbi_ j_ (by omega)), (show (∀ j : Nat, (j : Int) < a1_ → -999999 ≤ zg N5_ (d_ + 27) j ∧ zg N5_ (d_ + 27) j ≤ 999999) by first | rfl | exact ⟨_, by have h_ := hrw_; rw [show (u4_).toNat = (a1_).toNat by omega] at h_; exact h_, by omega⟩ | exact fun j_ hj_ => hbi_ j_ (by omega))⟩)) d_Reader_readRow_195
      · skip
        refine zw_iload_n (pc := 18) (n := 3) (x := Int32.ofInt u3_) rfl d_Reader_readRow_18 ?_
        refine zw_aload_n (pc := 19) (n := 0) (x := 4) rfl d_Reader_readRow_19 ?_
        refine zw_getF (pc := 20) f_Reader_15 rfl ((hf_N5_.w hW).ka (o := 4) (by decide)) ((hf_N5_.w hW).la (o := 4) (s := 0) (r := 1) (by decide)) d_Reader_readRow_20 ?_
        refine zk_getI (pc := 23) f_Reader_191 rfl ((hf_N5_.w hW).ka (o := 1) (by decide)) d_Reader_readRow_23 ?_
        rw [hf_N5_.ea hW (by decide)]
        have j_50 : ∀ (u14_ : Int) (hu14_a : -2147483648 ≤ u14_) (hu14_b : u14_ < 2147483648) (hu14_z : u14_ = 0 ∨ u14_ = 1) (i15_ : (((u14_ : Int) = 1 ∧ u3_ < n_ ∧ b_ (u3_).toNat = 45) ∨ ((u14_ : Int) = 0 ∧ ¬ (u3_ < n_ ∧ b_ (u3_).toNat = 45)))), zW l m_Reader_readRow (zn Mz + 0, zw Mz + 0) N5_ 50 [some (.ref 4), some (.ref (d_ + 26)), some (.int (Int32.ofInt a1_)), some (.int (Int32.ofInt u3_)), some (.int (Int32.ofInt u4_)), none, none, none, none, none] [.int (Int32.ofInt u14_)] (zqcI d_ [] [] [] [27] Mz (fun v N => (((v = 1 ∧ zRown b_ n_ (a1_).toNat (fun j_ => zg N (d_ + 27) j_) ∧ (∀ j : Nat, (j : Int) < a1_ → -999999 ≤ zg N (d_ + 27) j ∧ zg N (d_ + 27) j ≤ 999999)) ∨ (v = 0 ∧ ¬ ∃ f_ : Nat → Int, zRown b_ n_ (a1_).toNat f_))))) := by
          intro u14_ hu14_a hu14_b hu14_z i15_
          refine zw_istore (pc := 50) (i := 5) (L2 := [some (.ref 4), some (.ref (d_ + 26)), some (.int (Int32.ofInt a1_)), some (.int (Int32.ofInt u3_)), some (.int (Int32.ofInt u4_)), some (.int (Int32.ofInt u14_)), none, none, none, none]) (by decide) rfl d_Reader_readRow_50 ?_
          refine zw_iload (pc := 52) (i := 5) (x := Int32.ofInt u14_) rfl d_Reader_readRow_52 ?_
          have j_64 : ∀ (u16_ : Int) (hu16_a : -2147483648 ≤ u16_) (hu16_b : u16_ < 2147483648) (i17_ : ((u14_ = 1 ∧ (u16_ : Int) = u3_ + 1 ∧ u3_ < n_ ∧ b_ (u3_).toNat = 45) ∨ (u14_ = 0 ∧ (u16_ : Int) = u3_ ∧ ¬ (u3_ < n_ ∧ b_ (u3_).toNat = 45)))), zW l m_Reader_readRow (zn Mz + 0, zw Mz + 0) N5_ 64 [some (.ref 4), some (.ref (d_ + 26)), some (.int (Int32.ofInt a1_)), some (.int (Int32.ofInt u3_)), some (.int (Int32.ofInt u4_)), some (.int (Int32.ofInt u14_)), none, none, none, none] [.int (Int32.ofInt u16_)] (zqcI d_ [] [] [] [27] Mz (fun v N => (((v = 1 ∧ zRown b_ n_ (a1_).toNat (fun j_ => zg N (d_ + 27) j_) ∧ (∀ j : Nat, (j : Int) < a1_ → -999999 ≤ zg N (d_ + 27) j ∧ zg N (d_ + 27) j ≤ 999999)) ∨ (v = 0 ∧ ¬ ∃ f_ : Nat → Int, zRown b_ n_ (a1_).toNat f_))))) := by
            intro u16_ hu16_a hu16_b i17_
            refine zw_istore (pc := 64) (i := 6) (L2 := [some (.ref 4), some (.ref (d_ + 26)), some (.int (Int32.ofInt a1_)), some (.int (Int32.ofInt u3_)), some (.int (Int32.ofInt u4_)), some (.int (Int32.ofInt u14_)), some (.int (Int32.ofInt u16_)), none, none, none]) (by decide) rfl d_Reader_readRow_64 ?_
            refine zw_aload_n (pc := 66) (n := 0) (x := 4) rfl d_Reader_readRow_66 ?_
            refine zw_getF (pc := 67) f_Reader_15 rfl ((hf_N5_.w hW).ka (o := 4) (by decide)) ((hf_N5_.w hW).la (o := 4) (s := 0) (r := 1) (by decide)) d_Reader_readRow_67 ?_
            refine zw_iload (pc := 70) (i := 6) (x := Int32.ofInt u16_) rfl d_Reader_readRow_70 ?_
            refine zk_callV hf_N5_.x (pc := 72) [.int (Int32.ofInt u16_)] [] l_Reader_203 (u_Tokens_pastDigits l d_ N5_ (hf_N5_.w hW) u16_ hu16_a hu16_b b_ n_ c13_ (show 0 ≤ u16_ by first | assumption | omega) (show u16_ ≤ n_ by first | assumption | omega)) rfl rfl ((hf_N5_.w hW).ka (o := 1) (by decide)) (by decide) (by decide) (Nat.le_of_ble_eq_true rfl) d_Reader_readRow_72 ?_
            rintro _ N18_ ⟨v19_, rfl, ⟨hv19_a, hv19_b⟩, hsN18_, hp0_N18_⟩
            obtain rfl := hsN18_.eq.symm
            replace hp0_N18_ : v19_ = (zru zpD b_ n_ (u16_).toNat : Nat) := hp0_N18_
            show zW l m_Reader_readRow (zn Mz + 0, zw Mz + 0) N5_ 75 [some (.ref 4), some (.ref (d_ + 26)), some (.int (Int32.ofInt a1_)), some (.int (Int32.ofInt u3_)), some (.int (Int32.ofInt u4_)), some (.int (Int32.ofInt u14_)), some (.int (Int32.ofInt u16_)), none, none, none] [.int (Int32.ofInt v19_)] (zqcI d_ [] [] [] [27] Mz (fun v N => (((v = 1 ∧ zRown b_ n_ (a1_).toNat (fun j_ => zg N (d_ + 27) j_) ∧ (∀ j : Nat, (j : Int) < a1_ → -999999 ≤ zg N (d_ + 27) j ∧ zg N (d_ + 27) j ≤ 999999)) ∨ (v = 0 ∧ ¬ ∃ f_ : Nat → Int, zRown b_ n_ (a1_).toNat f_)))))
            have hpd_ := hp0_N18_
            have hs_ : (((u3_).toNat < n_ ∧ b_ (u3_).toNat = 45 ∧ (u16_).toNat = (u3_).toNat + 1) ∨ (¬ ((u3_).toNat < n_ ∧ b_ (u3_).toNat = 45) ∧ (u16_).toNat = (u3_).toNat)) := by rcases (show ((u14_ = 1 ∧ u16_ = u3_ + 1 ∧ u3_ < n_ ∧ b_ (u3_).toNat = 45) ∨ (u14_ = 0 ∧ u16_ = u3_ ∧ ¬ (u3_ < n_ ∧ b_ (u3_).toNat = 45))) by assumption) with q_ | q_; exact Or.inl ⟨by omega, q_.2.2.2, by omega⟩; exact Or.inr ⟨fun z_ => q_.2.2 ⟨by omega, z_.2⟩, by omega⟩
            have hto_ : (v19_).toNat = zru zpD b_ n_ (u16_).toNat := by omega
            have hge_ := zru_ge (P := zpD) (b := b_) (n := n_) (p := (u16_).toNat)
            have hle_ := zru_le (P := zpD) (b := b_) (n := n_) (p := (u16_).toNat) (by omega)
            refine zw_istore (pc := 75) (i := 7) (L2 := [some (.ref 4), some (.ref (d_ + 26)), some (.int (Int32.ofInt a1_)), some (.int (Int32.ofInt u3_)), some (.int (Int32.ofInt u4_)), some (.int (Int32.ofInt u14_)), some (.int (Int32.ofInt u16_)), some (.int (Int32.ofInt v19_)), none, none]) (by decide) rfl d_Reader_readRow_75 ?_
            refine zw_iload (pc := 77) (i := 7) (x := Int32.ofInt v19_) rfl d_Reader_readRow_77 ?_
            refine zw_iload (pc := 79) (i := 6) (x := Int32.ofInt u16_) rfl d_Reader_readRow_79 ?_
            refine zr_isub (pc := 81) d_Reader_readRow_81 ?_
            refine zw_istore (pc := 82) (i := 8) (L2 := [some (.ref 4), some (.ref (d_ + 26)), some (.int (Int32.ofInt a1_)), some (.int (Int32.ofInt u3_)), some (.int (Int32.ofInt u4_)), some (.int (Int32.ofInt u14_)), some (.int (Int32.ofInt u16_)), some (.int (Int32.ofInt v19_)), some (.int (Int32.ofInt (v19_ - u16_))), none]) (by decide) rfl d_Reader_readRow_82 ?_
            refine zw_iload (pc := 84) (i := 8) (x := Int32.ofInt (v19_ - u16_)) rfl d_Reader_readRow_84 ?_
            refine zw_iconst (pc := 86) (v := Int32.ofInt 1) (by decide) d_Reader_readRow_86 ?_
            refine zr_icmp_lt (pc := 87) (tgt := 127) ⟨(by omega), (by omega)⟩ ⟨(by decide), (by decide)⟩ (by decide) d_Reader_readRow_87 (fun hc_87 => ?_) (fun hc_87 => ?_)
            · skip
              have hno_ : ¬ ∃ f_ : Nat → Int, zRown b_ n_ (a1_).toNat f_ := zRown_n hrw_ (by omega) (zNb_no hs_ hto_ (by first | exact Or.inl (by omega) | exact Or.inr ⟨by omega, hnb_⟩))
              refine zw_iconst (pc := 127) (v := Int32.ofInt 0) (by decide) d_Reader_readRow_127 ?_
              exact zk_iret (pc := 128) (ty := .boolean) rfl (z_narB (by omega)) ⟨by omega, by omega⟩ hf_N5_ (show ((0 = 1 ∧ zRown b_ n_ (a1_).toNat (fun j_ => zg N5_ (d_ + 27) j_) ∧ (∀ j : Nat, (j : Int) < a1_ → -999999 ≤ zg N5_ (d_ + 27) j ∧ zg N5_ (d_ + 27) j ≤ 999999)) ∨ (0 = 0 ∧ ¬ ∃ f_ : Nat → Int, zRown b_ n_ (a1_).toNat f_)) from Or.inr (⟨(show 0 = 0 by first | rfl | exact hno_ | exact zRown_e (by have h_ := hrw_; rw [show (u4_).toNat = (a1_).toNat by omega] at h_; exact h_) (by omega)), (show ¬ ∃ f_ : Nat → Int, zRown b_ n_ (a1_).toNat f_ by first | rfl | exact hno_ | exact zRown_e (by have h_ := hrw_; rw [show (u4_).toNat = (a1_).toNat by omega] at h_; exact h_) (by omega))⟩)) d_Reader_readRow_128
            · skip
              refine zw_iload (pc := 90) (i := 8) (x := Int32.ofInt (v19_ - u16_)) rfl d_Reader_readRow_90 ?_
              refine zw_bipush (pc := 92) (v := Int32.ofInt 6) (by decide) d_Reader_readRow_92 ?_
              refine zr_icmp_gt (pc := 94) (tgt := 127) ⟨(by omega), (by omega)⟩ ⟨(by decide), (by decide)⟩ (by decide) d_Reader_readRow_94 (fun hc_94 => ?_) (fun hc_94 => ?_)
              · skip
                have hno_ : ¬ ∃ f_ : Nat → Int, zRown b_ n_ (a1_).toNat f_ := zRown_n hrw_ (by omega) (zNb_no hs_ hto_ (by first | exact Or.inl (by omega) | exact Or.inr ⟨by omega, hnb_⟩))
                refine zw_iconst (pc := 127) (v := Int32.ofInt 0) (by decide) d_Reader_readRow_127 ?_
                exact zk_iret (pc := 128) (ty := .boolean) rfl (z_narB (by omega)) ⟨by omega, by omega⟩ hf_N5_ (show ((0 = 1 ∧ zRown b_ n_ (a1_).toNat (fun j_ => zg N5_ (d_ + 27) j_) ∧ (∀ j : Nat, (j : Int) < a1_ → -999999 ≤ zg N5_ (d_ + 27) j ∧ zg N5_ (d_ + 27) j ≤ 999999)) ∨ (0 = 0 ∧ ¬ ∃ f_ : Nat → Int, zRown b_ n_ (a1_).toNat f_)) from Or.inr (⟨(show 0 = 0 by first | rfl | exact hno_ | exact zRown_e (by have h_ := hrw_; rw [show (u4_).toNat = (a1_).toNat by omega] at h_; exact h_) (by omega)), (show ¬ ∃ f_ : Nat → Int, zRown b_ n_ (a1_).toNat f_ by first | rfl | exact hno_ | exact zRown_e (by have h_ := hrw_; rw [show (u4_).toNat = (a1_).toNat by omega] at h_; exact h_) (by omega))⟩)) d_Reader_readRow_128
              · skip
                refine zw_iload (pc := 97) (i := 7) (x := Int32.ofInt v19_) rfl d_Reader_readRow_97 ?_
                refine zw_aload_n (pc := 99) (n := 0) (x := 4) rfl d_Reader_readRow_99 ?_
                refine zw_getF (pc := 100) f_Reader_15 rfl ((hf_N5_.w hW).ka (o := 4) (by decide)) ((hf_N5_.w hW).la (o := 4) (s := 0) (r := 1) (by decide)) d_Reader_readRow_100 ?_
                refine zk_getI (pc := 103) f_Reader_191 rfl ((hf_N5_.w hW).ka (o := 1) (by decide)) d_Reader_readRow_103 ?_
                rw [hf_N5_.ea hW (by decide)]
                have j_129 : ∀ (i20_ : (v19_ < n_ → zpB (b_ (v19_).toNat) = true)), zW l m_Reader_readRow (zn Mz + 0, zw Mz + 0) N5_ 129 [some (.ref 4), some (.ref (d_ + 26)), some (.int (Int32.ofInt a1_)), some (.int (Int32.ofInt u3_)), some (.int (Int32.ofInt u4_)), some (.int (Int32.ofInt u14_)), some (.int (Int32.ofInt u16_)), some (.int (Int32.ofInt v19_)), some (.int (Int32.ofInt (v19_ - u16_))), none] [] (zqcI d_ [] [] [] [27] Mz (fun v N => (((v = 1 ∧ zRown b_ n_ (a1_).toNat (fun j_ => zg N (d_ + 27) j_) ∧ (∀ j : Nat, (j : Int) < a1_ → -999999 ≤ zg N (d_ + 27) j ∧ zg N (d_ + 27) j ≤ 999999)) ∨ (v = 0 ∧ ¬ ∃ f_ : Nat → Int, zRown b_ n_ (a1_).toNat f_))))) := by
                  intro i20_
                  have htr_ := (show (v19_ < n_ → zpB (b_ (v19_).toNat) = true) by assumption)
                  refine zw_aload_n (pc := 129) (n := 0) (x := 4) rfl d_Reader_readRow_129 ?_
                  refine zw_getF (pc := 130) f_Reader_15 rfl ((hf_N5_.w hW).ka (o := 4) (by decide)) ((hf_N5_.w hW).la (o := 4) (s := 0) (r := 1) (by decide)) d_Reader_readRow_130 ?_
                  refine zw_iload (pc := 133) (i := 6) (x := Int32.ofInt u16_) rfl d_Reader_readRow_133 ?_
                  refine zw_iload (pc := 135) (i := 7) (x := Int32.ofInt v19_) rfl d_Reader_readRow_135 ?_
                  refine zk_callV hf_N5_.x (pc := 137) [.int (Int32.ofInt u16_), .int (Int32.ofInt v19_)] [] l_Reader_209 (u_Tokens_numberFrom l d_ N5_ (hf_N5_.w hW) u16_ hu16_a hu16_b v19_ hv19_a hv19_b b_ n_ c13_ (show 0 ≤ u16_ by first | assumption | omega) (show u16_ ≤ v19_ by first | assumption | omega) (show v19_ ≤ n_ by first | assumption | omega)) rfl rfl ((hf_N5_.w hW).ka (o := 1) (by decide)) (by decide) (by decide) (Nat.le_of_ble_eq_true rfl) d_Reader_readRow_137 ?_
                  rintro _ N21_ ⟨v22_, rfl, ⟨hv22_a, hv22_b⟩, hsN21_, hp0_N21_⟩
                  obtain rfl := hsN21_.eq.symm
                  replace hp0_N21_ : (v19_ - u16_ ≤ 6 → v22_ = zvl b_ (u16_).toNat (v19_ - u16_).toNat) := hp0_N21_
                  show zW l m_Reader_readRow (zn Mz + 0, zw Mz + 0) N5_ 140 [some (.ref 4), some (.ref (d_ + 26)), some (.int (Int32.ofInt a1_)), some (.int (Int32.ofInt u3_)), some (.int (Int32.ofInt u4_)), some (.int (Int32.ofInt u14_)), some (.int (Int32.ofInt u16_)), some (.int (Int32.ofInt v19_)), some (.int (Int32.ofInt (v19_ - u16_))), none] [.int (Int32.ofInt v22_)] (zqcI d_ [] [] [] [27] Mz (fun v N => (((v = 1 ∧ zRown b_ n_ (a1_).toNat (fun j_ => zg N (d_ + 27) j_) ∧ (∀ j : Nat, (j : Int) < a1_ → -999999 ≤ zg N (d_ + 27) j ∧ zg N (d_ + 27) j ≤ 999999)) ∨ (v = 0 ∧ ¬ ∃ f_ : Nat → Int, zRown b_ n_ (a1_).toNat f_)))))
                  have hnv_ := hp0_N21_ (by omega)
                  have h6_ := zvl_6 (b := b_) (n := n_) hto_ (by omega) (by omega)
                  rw [show (v19_ - u16_).toNat = (v19_).toNat - (u16_).toNat by omega] at hnv_
                  rw [← hnv_] at h6_
                  refine zw_istore (pc := 140) (i := 9) (L2 := [some (.ref 4), some (.ref (d_ + 26)), some (.int (Int32.ofInt a1_)), some (.int (Int32.ofInt u3_)), some (.int (Int32.ofInt u4_)), some (.int (Int32.ofInt u14_)), some (.int (Int32.ofInt u16_)), some (.int (Int32.ofInt v19_)), some (.int (Int32.ofInt (v19_ - u16_))), some (.int (Int32.ofInt v22_))]) (by decide) rfl d_Reader_readRow_140 ?_
                  refine zw_aload_n (pc := 142) (n := 1) (x := (d_ + 26)) rfl d_Reader_readRow_142 ?_
                  refine zw_iload (pc := 143) (i := 4) (x := Int32.ofInt u4_) rfl d_Reader_readRow_143 ?_
                  refine zw_iload (pc := 145) (i := 5) (x := Int32.ofInt u14_) rfl d_Reader_readRow_145 ?_
                  refine zr_if_eq (pc := 147) (tgt := 157) ⟨hu14_a, hu14_b⟩ (by decide) d_Reader_readRow_147 (fun hc_147 => ?_) (fun hc_147 => ?_)
                  · skip
                    refine zw_iload (pc := 157) (i := 9) (x := Int32.ofInt v22_) rfl d_Reader_readRow_157 ?_
                    refine zr_i2l (pc := 159) ⟨hv22_a, hv22_b⟩ d_Reader_readRow_159 ?_
                    refine zk_stJ hf_N5_.x (pc := 160) (o := 27) (by decide) l_Reader_212 ((hf_N5_.w hW).kr (o := 26) (by decide)) ((hf_N5_.w hW).lr (o := 26) (s := 0) (r := 27) (by decide)) ((hf_N5_.w hW).rr (o := 27) (t := 2) (n := 27) (by decide)) (by decide) (by omega) (by omega) (by decide) (Nat.le_of_ble_eq_true rfl) d_Reader_readRow_160 (fun N23_ hN23_ hsN23_ => ?_)
                    have hf_N23_ : zFc d_ [] [] [] [27] Mz N23_ := hf_N5_.tr hsN23_ (by decide) (by decide) (by decide) (by decide)
                    have hb0_N23_ : zFc d_ [] [] [] [27] Mz N23_ := hs6_.tr hsN23_ (by decide) (by decide) (by decide) (by decide)
                    have eA1_1_N23_ : ze N23_ 1 1 = ze N5_ 1 1 := hsN23_.ea (hf_N5_.w hW) (by decide)
                    have c24_ : zYb b_ n_ N23_ := zYb.fr (hf_N5_.w hW) hsN23_ c13_ (by decide)
                    have hgt_ := zs_getJ hN23_ ⟨by omega, by omega⟩
                    have hot_ := fun (j_ : Nat) (hj_ : (j_ : Int) ≠ u4_) => zs_othJ hN23_ (j := j_) (by omega)
                    have hnb2_ : zNb b_ n_ (u3_).toNat (zg N23_ (d_ + 27) (u4_).toNat) (zru zpB b_ n_ (v19_).toNat) := ⟨(u16_).toNat, (v19_).toNat, hs_, hto_, by omega, fun h_ => htr_ (by omega), by first | exact Or.inl ⟨by omega, by omega, by rw [hgt_, hnv_]⟩ | exact Or.inr ⟨by omega, by rw [hgt_, hnv_]⟩, rfl⟩
                    have hrn_ : zRwn b_ n_ (zru zpB b_ n_ 0) (fun j_ => zg N23_ (d_ + 27) j_) (u4_ + 1).toNat (zru zpB b_ n_ (v19_).toNat) := by rw [show (u4_ + 1).toNat = (u4_).toNat + 1 by omega]; exact zRwn_s hrw_ hnb2_ (fun i_ hi_ => hot_ i_ (by omega)) rfl
                    have hbn_ : (∀ j : Nat, (j : Int) < u4_ + 1 → -999999 ≤ zg N23_ (d_ + 27) j ∧ zg N23_ (d_ + 27) j ≤ 999999) := fun j_ hj_ => by by_cases g_ : (j_ : Int) = u4_; (rw [show j_ = (u4_).toNat by omega, hgt_]; omega); (rw [hot_ j_ g_]; exact hbi_ j_ (by omega))
                    have hzl_ := zru_le (P := zpB) (b := b_) (n := n_) (p := (v19_).toNat) (by omega)
                    refine zw_aload_n (pc := 163) (n := 0) (x := 4) rfl d_Reader_readRow_163 ?_
                    refine zw_getF (pc := 164) f_Reader_15 rfl ((hf_N23_.w hW).ka (o := 4) (by decide)) ((hf_N23_.w hW).la (o := 4) (s := 0) (r := 1) (by decide)) d_Reader_readRow_164 ?_
                    refine zw_iload (pc := 167) (i := 7) (x := Int32.ofInt v19_) rfl d_Reader_readRow_167 ?_
                    refine zk_callV hf_N23_.x (pc := 169) [.int (Int32.ofInt v19_)] [] l_Reader_188 (u_Tokens_pastBlanks l d_ N23_ (hf_N23_.w hW) v19_ hv19_a hv19_b b_ n_ c24_ (show 0 ≤ (v19_ : Int) by first | assumption | omega) (show (v19_ : Int) ≤ n_ by first | assumption | omega)) rfl rfl ((hf_N23_.w hW).ka (o := 1) (by decide)) (by decide) (by decide) (Nat.le_of_ble_eq_true rfl) d_Reader_readRow_169 ?_
                    rintro _ N25_ ⟨v26_, rfl, ⟨hv26_a, hv26_b⟩, hsN25_, hp0_N25_⟩
                    obtain rfl := hsN25_.eq.symm
                    replace hp0_N25_ : v26_ = (zru zpB b_ n_ ((v19_ : Int)).toNat : Nat) := hp0_N25_
                    show zW l m_Reader_readRow (zn Mz + 0, zw Mz + 0) N23_ 172 [some (.ref 4), some (.ref (d_ + 26)), some (.int (Int32.ofInt a1_)), some (.int (Int32.ofInt u3_)), some (.int (Int32.ofInt u4_)), some (.int (Int32.ofInt u14_)), some (.int (Int32.ofInt u16_)), some (.int (Int32.ofInt v19_)), some (.int (Int32.ofInt (v19_ - u16_))), some (.int (Int32.ofInt v22_))] [.int (Int32.ofInt v26_)] (zqcI d_ [] [] [] [27] Mz (fun v N => (((v = 1 ∧ zRown b_ n_ (a1_).toNat (fun j_ => zg N (d_ + 27) j_) ∧ (∀ j : Nat, (j : Int) < a1_ → -999999 ≤ zg N (d_ + 27) j ∧ zg N (d_ + 27) j ≤ 999999)) ∨ (v = 0 ∧ ¬ ∃ f_ : Nat → Int, zRown b_ n_ (a1_).toNat f_)))))
                    have hnx_ := hp0_N25_
                    refine zw_istore_n (pc := 172) (i := 3) (L2 := [some (.ref 4), some (.ref (d_ + 26)), some (.int (Int32.ofInt a1_)), some (.int (Int32.ofInt v26_)), some (.int (Int32.ofInt u4_)), some (.int (Int32.ofInt u14_)), some (.int (Int32.ofInt u16_)), some (.int (Int32.ofInt v19_)), some (.int (Int32.ofInt (v19_ - u16_))), some (.int (Int32.ofInt v22_))]) rfl (by decide) rfl d_Reader_readRow_172 ?_
                    refine zr_iinc (pc := 173) (i := 4) (a := u4_) (n := 1) (L2 := [some (.ref 4), some (.ref (d_ + 26)), some (.int (Int32.ofInt a1_)), some (.int (Int32.ofInt v26_)), some (.int (Int32.ofInt (u4_ + 1))), some (.int (Int32.ofInt u14_)), some (.int (Int32.ofInt u16_)), some (.int (Int32.ofInt v19_)), some (.int (Int32.ofInt (v19_ - u16_))), some (.int (Int32.ofInt v22_))]) rfl (by decide) rfl d_Reader_readRow_173 ?_
                    refine zw_goto (pc := 176) (tgt := 12) (by decide) d_Reader_readRow_176 ?_
                    refine zW_le [some (.ref 4), some (.ref (d_ + 26)), some (.int (Int32.ofInt a1_)), some (.int (Int32.ofInt v26_)), some (.int (Int32.ofInt (u4_ + 1))), none, none, none, none, none] (⟨rfl, rfl, rfl, rfl, rfl, trivial⟩) ?_
                    exact ih_12 v26_ hv26_a hv26_b (u4_ + 1) (by omega) (by omega) N23_ hb0_N23_ (show 0 ≤ (u4_ + 1) by first | assumption | omega) (show (u4_ + 1) ≤ a1_ by first | assumption | omega) (show 0 ≤ v26_ by first | assumption | omega) (show v26_ ≤ n_ by first | assumption | omega) (show zRwn b_ n_ (zru zpB b_ n_ 0) (fun j_ => zg N23_ (d_ + 27) j_) ((u4_ + 1)).toNat (v26_).toNat by rw [show (v26_).toNat = zru zpB b_ n_ (v19_).toNat by omega]; exact hrn_) (show (∀ j : Nat, (j : Int) < (u4_ + 1) → -999999 ≤ zg N23_ (d_ + 27) j ∧ zg N23_ (d_ + 27) j ≤ 999999) by exact hbn_) (by omega)
                  · skip
                    refine zw_iload (pc := 150) (i := 9) (x := Int32.ofInt v22_) rfl d_Reader_readRow_150 ?_
                    refine zr_ineg (pc := 152) d_Reader_readRow_152 ?_
                    refine zr_i2l (pc := 153) ⟨(by omega), (by omega)⟩ d_Reader_readRow_153 ?_
                    refine zw_goto (pc := 154) (tgt := 160) (by decide) d_Reader_readRow_154 ?_
                    refine zk_stJ hf_N5_.x (pc := 160) (o := 27) (by decide) l_Reader_212 ((hf_N5_.w hW).kr (o := 26) (by decide)) ((hf_N5_.w hW).lr (o := 26) (s := 0) (r := 27) (by decide)) ((hf_N5_.w hW).rr (o := 27) (t := 2) (n := 27) (by decide)) (by decide) (by omega) (by omega) (by decide) (Nat.le_of_ble_eq_true rfl) d_Reader_readRow_160 (fun N27_ hN27_ hsN27_ => ?_)
                    have hf_N27_ : zFc d_ [] [] [] [27] Mz N27_ := hf_N5_.tr hsN27_ (by decide) (by decide) (by decide) (by decide)
                    have hb0_N27_ : zFc d_ [] [] [] [27] Mz N27_ := hs6_.tr hsN27_ (by decide) (by decide) (by decide) (by decide)
                    have eA1_1_N27_ : ze N27_ 1 1 = ze N5_ 1 1 := hsN27_.ea (hf_N5_.w hW) (by decide)
                    have c28_ : zYb b_ n_ N27_ := zYb.fr (hf_N5_.w hW) hsN27_ c13_ (by decide)
                    have hgt_ := zs_getJ hN27_ ⟨by omega, by omega⟩
                    have hot_ := fun (j_ : Nat) (hj_ : (j_ : Int) ≠ u4_) => zs_othJ hN27_ (j := j_) (by omega)
                    have hnb2_ : zNb b_ n_ (u3_).toNat (zg N27_ (d_ + 27) (u4_).toNat) (zru zpB b_ n_ (v19_).toNat) := ⟨(u16_).toNat, (v19_).toNat, hs_, hto_, by omega, fun h_ => htr_ (by omega), by first | exact Or.inl ⟨by omega, by omega, by rw [hgt_, hnv_]⟩ | exact Or.inr ⟨by omega, by rw [hgt_, hnv_]⟩, rfl⟩
                    have hrn_ : zRwn b_ n_ (zru zpB b_ n_ 0) (fun j_ => zg N27_ (d_ + 27) j_) (u4_ + 1).toNat (zru zpB b_ n_ (v19_).toNat) := by rw [show (u4_ + 1).toNat = (u4_).toNat + 1 by omega]; exact zRwn_s hrw_ hnb2_ (fun i_ hi_ => hot_ i_ (by omega)) rfl
                    have hbn_ : (∀ j : Nat, (j : Int) < u4_ + 1 → -999999 ≤ zg N27_ (d_ + 27) j ∧ zg N27_ (d_ + 27) j ≤ 999999) := fun j_ hj_ => by by_cases g_ : (j_ : Int) = u4_; (rw [show j_ = (u4_).toNat by omega, hgt_]; omega); (rw [hot_ j_ g_]; exact hbi_ j_ (by omega))
                    have hzl_ := zru_le (P := zpB) (b := b_) (n := n_) (p := (v19_).toNat) (by omega)
                    refine zw_aload_n (pc := 163) (n := 0) (x := 4) rfl d_Reader_readRow_163 ?_
                    refine zw_getF (pc := 164) f_Reader_15 rfl ((hf_N27_.w hW).ka (o := 4) (by decide)) ((hf_N27_.w hW).la (o := 4) (s := 0) (r := 1) (by decide)) d_Reader_readRow_164 ?_
                    refine zw_iload (pc := 167) (i := 7) (x := Int32.ofInt v19_) rfl d_Reader_readRow_167 ?_
                    refine zk_callV hf_N27_.x (pc := 169) [.int (Int32.ofInt v19_)] [] l_Reader_188 (u_Tokens_pastBlanks l d_ N27_ (hf_N27_.w hW) v19_ hv19_a hv19_b b_ n_ c28_ (show 0 ≤ (v19_ : Int) by first | assumption | omega) (show (v19_ : Int) ≤ n_ by first | assumption | omega)) rfl rfl ((hf_N27_.w hW).ka (o := 1) (by decide)) (by decide) (by decide) (Nat.le_of_ble_eq_true rfl) d_Reader_readRow_169 ?_
                    rintro _ N29_ ⟨v30_, rfl, ⟨hv30_a, hv30_b⟩, hsN29_, hp0_N29_⟩
                    obtain rfl := hsN29_.eq.symm
                    replace hp0_N29_ : v30_ = (zru zpB b_ n_ ((v19_ : Int)).toNat : Nat) := hp0_N29_
                    show zW l m_Reader_readRow (zn Mz + 0, zw Mz + 0) N27_ 172 [some (.ref 4), some (.ref (d_ + 26)), some (.int (Int32.ofInt a1_)), some (.int (Int32.ofInt u3_)), some (.int (Int32.ofInt u4_)), some (.int (Int32.ofInt u14_)), some (.int (Int32.ofInt u16_)), some (.int (Int32.ofInt v19_)), some (.int (Int32.ofInt (v19_ - u16_))), some (.int (Int32.ofInt v22_))] [.int (Int32.ofInt v30_)] (zqcI d_ [] [] [] [27] Mz (fun v N => (((v = 1 ∧ zRown b_ n_ (a1_).toNat (fun j_ => zg N (d_ + 27) j_) ∧ (∀ j : Nat, (j : Int) < a1_ → -999999 ≤ zg N (d_ + 27) j ∧ zg N (d_ + 27) j ≤ 999999)) ∨ (v = 0 ∧ ¬ ∃ f_ : Nat → Int, zRown b_ n_ (a1_).toNat f_)))))
                    have hnx_ := hp0_N29_
                    refine zw_istore_n (pc := 172) (i := 3) (L2 := [some (.ref 4), some (.ref (d_ + 26)), some (.int (Int32.ofInt a1_)), some (.int (Int32.ofInt v30_)), some (.int (Int32.ofInt u4_)), some (.int (Int32.ofInt u14_)), some (.int (Int32.ofInt u16_)), some (.int (Int32.ofInt v19_)), some (.int (Int32.ofInt (v19_ - u16_))), some (.int (Int32.ofInt v22_))]) rfl (by decide) rfl d_Reader_readRow_172 ?_
                    refine zr_iinc (pc := 173) (i := 4) (a := u4_) (n := 1) (L2 := [some (.ref 4), some (.ref (d_ + 26)), some (.int (Int32.ofInt a1_)), some (.int (Int32.ofInt v30_)), some (.int (Int32.ofInt (u4_ + 1))), some (.int (Int32.ofInt u14_)), some (.int (Int32.ofInt u16_)), some (.int (Int32.ofInt v19_)), some (.int (Int32.ofInt (v19_ - u16_))), some (.int (Int32.ofInt v22_))]) rfl (by decide) rfl d_Reader_readRow_173 ?_
                    refine zw_goto (pc := 176) (tgt := 12) (by decide) d_Reader_readRow_176 ?_
                    refine zW_le [some (.ref 4), some (.ref (d_ + 26)), some (.int (Int32.ofInt a1_)), some (.int (Int32.ofInt v30_)), some (.int (Int32.ofInt (u4_ + 1))), none, none, none, none, none] (⟨rfl, rfl, rfl, rfl, rfl, trivial⟩) ?_
                    exact ih_12 v30_ hv30_a hv30_b (u4_ + 1) (by omega) (by omega) N27_ hb0_N27_ (show 0 ≤ (u4_ + 1) by first | assumption | omega) (show (u4_ + 1) ≤ a1_ by first | assumption | omega) (show 0 ≤ v30_ by first | assumption | omega) (show v30_ ≤ n_ by first | assumption | omega) (show zRwn b_ n_ (zru zpB b_ n_ 0) (fun j_ => zg N27_ (d_ + 27) j_) ((u4_ + 1)).toNat (v30_).toNat by rw [show (v30_).toNat = zru zpB b_ n_ (v19_).toNat by omega]; exact hrn_) (show (∀ j : Nat, (j : Int) < (u4_ + 1) → -999999 ≤ zg N27_ (d_ + 27) j ∧ zg N27_ (d_ + 27) j ≤ 999999) by exact hbn_) (by omega)
                refine zr_icmp_ge (pc := 106) (tgt := 129) ⟨hv19_a, hv19_b⟩ ⟨(ze_r Mz 1 1).1, (ze_r Mz 1 1).2⟩ (by decide) d_Reader_readRow_106 (fun hc_106 => ?_) (fun hc_106 => ?_)
                · skip
                  exact j_129 (show (v19_ < n_ → zpB (b_ (v19_).toNat) = true) by first | exact fun _ => hbl_ | (intro h_; exfalso; omega))
                · skip
                  refine zw_aload_n (pc := 109) (n := 0) (x := 4) rfl d_Reader_readRow_109 ?_
                  refine zw_getF (pc := 110) f_Reader_15 rfl ((hf_N5_.w hW).ka (o := 4) (by decide)) ((hf_N5_.w hW).la (o := 4) (s := 0) (r := 1) (by decide)) d_Reader_readRow_110 ?_
                  refine zw_getF (pc := 113) f_Reader_194 rfl ((hf_N5_.w hW).ka (o := 1) (by decide)) ((hf_N5_.w hW).la (o := 1) (s := 0) (r := 2) (by decide)) d_Reader_readRow_113 ?_
                  refine zw_iload (pc := 116) (i := 7) (x := Int32.ofInt v19_) rfl d_Reader_readRow_116 ?_
                  refine zk_at hf_N5_.x (pc := 118) l_Reader_198 ((hf_N5_.w hW).ka (o := 2) (by decide)) ((hf_N5_.w hW).la (o := 2) (s := 0) (r := 3) (by decide)) ((hf_N5_.w hW).ra (o := 3) (t := 1) (n := 700) (by decide)) (by decide) (by omega) (by omega) (by decide) (Nat.le_of_ble_eq_true rfl) d_Reader_readRow_118 (fun v31_ hv31_ hv31_a hv31_b => ?_)
                  rw [hf_N5_.ra hW (by decide)] at hv31_
                  have hy_ := hv31_.trans (hb_ _ (by omega))
                  refine zr_callS hf_N5_.x (pc := 121) [.int (Int32.ofInt v31_)] [] l_Reader_206 (u_Tokens_isBlank l d_ N5_ (hf_N5_.w hW) v31_ hv31_a hv31_b) rfl rfl (by decide) (Nat.le_of_ble_eq_true rfl) d_Reader_readRow_121 ?_
                  rintro _ N32_ ⟨v33_, rfl, ⟨hv33_a, hv33_b⟩, hsN32_, hp0_N32_⟩
                  obtain rfl := hsN32_.eq.symm
                  replace hp0_N32_ : ((v33_ = 1 ∧ zpB v31_ = true) ∨ (v33_ = 0 ∧ zpB v31_ = false)) := hp0_N32_
                  rcases hp0_N32_ with ⟨rfl, ha121_0_hp0_N32_⟩ | ⟨rfl, ha121_0_hp0_N32_⟩
                  · skip
                    have hbl_ := ha121_0_hp0_N32_
                    rw [hy_] at hbl_
                    show zW l m_Reader_readRow (zn Mz + 0, zw Mz + 0) N5_ 124 [some (.ref 4), some (.ref (d_ + 26)), some (.int (Int32.ofInt a1_)), some (.int (Int32.ofInt u3_)), some (.int (Int32.ofInt u4_)), some (.int (Int32.ofInt u14_)), some (.int (Int32.ofInt u16_)), some (.int (Int32.ofInt v19_)), some (.int (Int32.ofInt (v19_ - u16_))), none] [.int (Int32.ofInt 1)] (zqcI d_ [] [] [] [27] Mz (fun v N => (((v = 1 ∧ zRown b_ n_ (a1_).toNat (fun j_ => zg N (d_ + 27) j_) ∧ (∀ j : Nat, (j : Int) < a1_ → -999999 ≤ zg N (d_ + 27) j ∧ zg N (d_ + 27) j ≤ 999999)) ∨ (v = 0 ∧ ¬ ∃ f_ : Nat → Int, zRown b_ n_ (a1_).toNat f_)))))
                    refine zr_if_ne (pc := 124) (tgt := 129) ⟨(by decide), (by decide)⟩ (by decide) d_Reader_readRow_124 (fun hc_124 => ?_) (fun hc_124 => ?_)
                    · skip
                      exact j_129 (show (v19_ < n_ → zpB (b_ (v19_).toNat) = true) by first | exact fun _ => hbl_ | (intro h_; exfalso; omega))
                    · skip
                      exact absurd hc_124 (by decide)
                  · skip
                    have hnb_ := ha121_0_hp0_N32_
                    rw [hy_] at hnb_
                    show zW l m_Reader_readRow (zn Mz + 0, zw Mz + 0) N5_ 124 [some (.ref 4), some (.ref (d_ + 26)), some (.int (Int32.ofInt a1_)), some (.int (Int32.ofInt u3_)), some (.int (Int32.ofInt u4_)), some (.int (Int32.ofInt u14_)), some (.int (Int32.ofInt u16_)), some (.int (Int32.ofInt v19_)), some (.int (Int32.ofInt (v19_ - u16_))), none] [.int (Int32.ofInt 0)] (zqcI d_ [] [] [] [27] Mz (fun v N => (((v = 1 ∧ zRown b_ n_ (a1_).toNat (fun j_ => zg N (d_ + 27) j_) ∧ (∀ j : Nat, (j : Int) < a1_ → -999999 ≤ zg N (d_ + 27) j ∧ zg N (d_ + 27) j ≤ 999999)) ∨ (v = 0 ∧ ¬ ∃ f_ : Nat → Int, zRown b_ n_ (a1_).toNat f_)))))
                    refine zr_if_ne (pc := 124) (tgt := 129) ⟨(by decide), (by decide)⟩ (by decide) d_Reader_readRow_124 (fun hc_124 => ?_) (fun hc_124 => ?_)
                    · skip
                      exact absurd hc_124 (by decide)
                    · skip
                      have hno_ : ¬ ∃ f_ : Nat → Int, zRown b_ n_ (a1_).toNat f_ := zRown_n hrw_ (by omega) (zNb_no hs_ hto_ (by first | exact Or.inl (by omega) | exact Or.inr ⟨by omega, hnb_⟩))
                      refine zw_iconst (pc := 127) (v := Int32.ofInt 0) (by decide) d_Reader_readRow_127 ?_
                      exact zk_iret (pc := 128) (ty := .boolean) rfl (z_narB (by omega)) ⟨by omega, by omega⟩ hf_N5_ (show ((0 = 1 ∧ zRown b_ n_ (a1_).toNat (fun j_ => zg N5_ (d_ + 27) j_) ∧ (∀ j : Nat, (j : Int) < a1_ → -999999 ≤ zg N5_ (d_ + 27) j ∧ zg N5_ (d_ + 27) j ≤ 999999)) ∨ (0 = 0 ∧ ¬ ∃ f_ : Nat → Int, zRown b_ n_ (a1_).toNat f_)) from Or.inr (⟨(show 0 = 0 by first | rfl | exact hno_ | exact zRown_e (by have h_ := hrw_; rw [show (u4_).toNat = (a1_).toNat by omega] at h_; exact h_) (by omega)), (show ¬ ∃ f_ : Nat → Int, zRown b_ n_ (a1_).toNat f_ by first | rfl | exact hno_ | exact zRown_e (by have h_ := hrw_; rw [show (u4_).toNat = (a1_).toNat by omega] at h_; exact h_) (by omega))⟩)) d_Reader_readRow_128
          refine zr_if_eq (pc := 54) (tgt := 63) ⟨hu14_a, hu14_b⟩ (by decide) d_Reader_readRow_54 (fun hc_54 => ?_) (fun hc_54 => ?_)
          · skip
            refine zw_iload_n (pc := 63) (n := 3) (x := Int32.ofInt u3_) rfl d_Reader_readRow_63 ?_
            exact j_64 u3_ hu3_a hu3_b (show ((u14_ = 1 ∧ (u3_ : Int) = u3_ + 1 ∧ u3_ < n_ ∧ b_ (u3_).toNat = 45) ∨ (u14_ = 0 ∧ (u3_ : Int) = u3_ ∧ ¬ (u3_ < n_ ∧ b_ (u3_).toNat = 45))) by first | assumption | omega)
          · skip
            refine zw_iload_n (pc := 57) (n := 3) (x := Int32.ofInt u3_) rfl d_Reader_readRow_57 ?_
            refine zw_iconst (pc := 58) (v := Int32.ofInt 1) (by decide) d_Reader_readRow_58 ?_
            refine zr_iadd (pc := 59) d_Reader_readRow_59 ?_
            refine zw_goto (pc := 60) (tgt := 64) (by decide) d_Reader_readRow_60 ?_
            exact j_64 (u3_ + 1) (by omega) (by omega) (show ((u14_ = 1 ∧ ((u3_ + 1) : Int) = u3_ + 1 ∧ u3_ < n_ ∧ b_ (u3_).toNat = 45) ∨ (u14_ = 0 ∧ ((u3_ + 1) : Int) = u3_ ∧ ¬ (u3_ < n_ ∧ b_ (u3_).toNat = 45))) by first | assumption | omega)
        refine zr_icmp_ge (pc := 26) (tgt := 49) ⟨hu3_a, hu3_b⟩ ⟨(ze_r Mz 1 1).1, (ze_r Mz 1 1).2⟩ (by decide) d_Reader_readRow_26 (fun hc_26 => ?_) (fun hc_26 => ?_)
        · skip
          refine zw_iconst (pc := 49) (v := Int32.ofInt 0) (by decide) d_Reader_readRow_49 ?_
          exact j_50 0 (by decide) (by decide) (by omega) (show (((0 : Int) = 1 ∧ u3_ < n_ ∧ b_ (u3_).toNat = 45) ∨ ((0 : Int) = 0 ∧ ¬ (u3_ < n_ ∧ b_ (u3_).toNat = 45))) by first | assumption | omega)
        · skip
          refine zw_aload_n (pc := 29) (n := 0) (x := 4) rfl d_Reader_readRow_29 ?_
          refine zw_getF (pc := 30) f_Reader_15 rfl ((hf_N5_.w hW).ka (o := 4) (by decide)) ((hf_N5_.w hW).la (o := 4) (s := 0) (r := 1) (by decide)) d_Reader_readRow_30 ?_
          refine zw_getF (pc := 33) f_Reader_194 rfl ((hf_N5_.w hW).ka (o := 1) (by decide)) ((hf_N5_.w hW).la (o := 1) (s := 0) (r := 2) (by decide)) d_Reader_readRow_33 ?_
          refine zw_iload_n (pc := 36) (n := 3) (x := Int32.ofInt u3_) rfl d_Reader_readRow_36 ?_
          refine zk_at hf_N5_.x (pc := 37) l_Reader_198 ((hf_N5_.w hW).ka (o := 2) (by decide)) ((hf_N5_.w hW).la (o := 2) (s := 0) (r := 3) (by decide)) ((hf_N5_.w hW).ra (o := 3) (t := 1) (n := 700) (by decide)) (by decide) (by omega) (by omega) (by decide) (Nat.le_of_ble_eq_true rfl) d_Reader_readRow_37 (fun v34_ hv34_ hv34_a hv34_b => ?_)
          rw [hf_N5_.ra hW (by decide)] at hv34_
          have hx_ := hv34_.trans (hb_ _ (by omega))
          refine zw_bipush (pc := 40) (v := Int32.ofInt 45) (by decide) d_Reader_readRow_40 ?_
          refine zr_icmp_ne (pc := 42) (tgt := 49) ⟨hv34_a, hv34_b⟩ ⟨(by decide), (by decide)⟩ (by decide) d_Reader_readRow_42 (fun hc_42 => ?_) (fun hc_42 => ?_)
          · skip
            refine zw_iconst (pc := 49) (v := Int32.ofInt 0) (by decide) d_Reader_readRow_49 ?_
            exact j_50 0 (by decide) (by decide) (by omega) (show (((0 : Int) = 1 ∧ u3_ < n_ ∧ b_ (u3_).toNat = 45) ∨ ((0 : Int) = 0 ∧ ¬ (u3_ < n_ ∧ b_ (u3_).toNat = 45))) by first | assumption | omega)
          · skip
            refine zw_iconst (pc := 45) (v := Int32.ofInt 1) (by decide) d_Reader_readRow_45 ?_
            refine zw_goto (pc := 46) (tgt := 50) (by decide) d_Reader_readRow_46 ?_
            exact j_50 1 (by decide) (by decide) (by omega) (show (((1 : Int) = 1 ∧ u3_ < n_ ∧ b_ (u3_).toNat = 45) ∨ ((1 : Int) = 0 ∧ ¬ (u3_ < n_ ∧ b_ (u3_).toNat = 45))) by first | assumption | omega)
  exact lp_12 _ v2_ hv2_a hv2_b 0 (by decide) (by decide) Mz zFc.rf (show 0 ≤ (0 : Int) by first | assumption | omega) (show (0 : Int) ≤ a1_ by first | assumption | omega) (show 0 ≤ v2_ by first | assumption | omega) (show v2_ ≤ n_ by first | assumption | omega) (show zRwn b_ n_ (zru zpB b_ n_ 0) (fun j_ => zg Mz (d_ + 27) j_) ((0 : Int)).toNat (v2_).toNat by show (v2_).toNat = (zru zpB b_ n_ 0); omega) (show (∀ j : Nat, (j : Int) < (0 : Int) → -999999 ≤ zg Mz (d_ + 27) j ∧ zg Mz (d_ + 27) j ≤ 999999) by exact fun j_ hj_ => absurd hj_ (by omega)) (Nat.lt_succ_self _)
set_option maxHeartbeats 4000000 in
theorem u_Sorts_normSizeS (l : Launch) (d_ : Nat) (Mz : zMem) (hW : zKW d_ Mz) (a0_ : Int) (ha0_a : -2147483648 ≤ a0_) (ha0_b : a0_ < 2147483648) (T_ : zGT) (hT_ : T_ ∈ gTabs) (p0_ : zTt T_ d_ Mz) (p1_ : zFir T_ d_ Mz) (p2_ : 0 ≤ a0_) (p3_ : a0_ < ((gF T_).length : Int)) : zC l m_Sorts_normSize 0 0 [.ref (d_ + 12), .int (Int32.ofInt a0_)] Mz (zqcI d_ [] [] [] [] Mz (fun v N => v = (((zct (fun g_ => gtr T_ (gFn T_ (a0_).toNat) g_ = (gFn T_ (a0_).toNat)) (gN T_)) : Nat) : Int))) := by
  refine zC_of (L0 := [some (.ref (d_ + 12)), some (.int (Int32.ofInt a0_))]) md_Sorts_normSize (Nat.le_of_ble_eq_true rfl) rfl ?_ zQ0
  have hf : zFc d_ [] [] [] [] Mz Mz := zFc.rf
  have hO_ := gTabs_ok T_ hT_
  have hG_ := hO_.1
  have hn24_ := hG_.2.1
  have hn1_ := hG_.1
  have hfl_ := p1_.1
  obtain ⟨⟨hF1_, hF27_⟩, hAr_⟩ := id (gT_zTA hT_)
  refine zw_aload_n (pc := 0) (n := 0) (x := (d_ + 12)) rfl d_Sorts_normSize_0 ?_
  refine zw_getF (pc := 1) f_Sorts_32 rfl ((hf.w hW).kr (o := 12) (by decide)) ((hf.w hW).lr (o := 12) (s := 0) (r := 1) (by decide)) d_Sorts_normSize_1 ?_
  refine zw_aload_n (pc := 4) (n := 0) (x := (d_ + 12)) rfl d_Sorts_normSize_4 ?_
  refine zw_getF (pc := 5) f_Sorts_26 rfl ((hf.w hW).kr (o := 12) (by decide)) ((hf.w hW).lr (o := 12) (s := 4) (r := 19) (by decide)) d_Sorts_normSize_5 ?_
  refine zw_iload_n (pc := 8) (n := 1) (x := Int32.ofInt a0_) rfl d_Sorts_normSize_8 ?_
  refine zk_at hf.x (pc := 9) l_Sorts_49 ((hf.w hW).kr (o := 19) (by decide)) ((hf.w hW).lr (o := 19) (s := 0) (r := 20) (by decide)) ((hf.w hW).rr (o := 20) (t := 1) (n := 27) (by decide)) (by decide) (by omega) (by omega) (by decide) (Nat.le_of_ble_eq_true rfl) d_Sorts_normSize_9 (fun v1_ hv1_ hv1_a hv1_b => ?_)
  have hfv_ := hv1_
  have hfw_ : v1_ = (((gFn T_ (a0_).toNat) : Nat) : Int) := hfv_.trans (p1_.2 _ (by omega))
  have hft_ : (v1_).toNat = (gFn T_ (a0_).toNat) := by omega
  have hfm0_ := gFn_m (T := T_) (i := (a0_).toNat) (by omega)
  have hfma_ := (hO_.2.2.1.2.1 _ hfm0_).1
  have hfb_ := gS_b hO_ hfma_
  refine zk_callV hf.x (pc := 12) [.int (Int32.ofInt v1_)] [] l_Sorts_102 (u_Group_normOfG l d_ Mz (hf.w hW) v1_ hv1_a hv1_b T_ hT_ p0_ (show 0 ≤ v1_ by first | assumption | omega) (show (v1_).toNat < 2 ^ gN T_ by rw [hft_]; exact hfb_.1)) rfl rfl ((hf.w hW).kr (o := 1) (by decide)) (by decide) (by decide) (Nat.le_of_ble_eq_true rfl) d_Sorts_normSize_12 ?_
  rintro _ N2_ ⟨v3_, rfl, ⟨hv3_a, hv3_b⟩, hsN2_, ⟨hp0_N2_, hp1_N2_, hp2_N2_⟩⟩
  obtain rfl := hsN2_.eq.symm
  show zW l m_Sorts_normSize (zn Mz + 0, zw Mz + 0) Mz 15 [some (.ref (d_ + 12)), some (.int (Int32.ofInt a0_))] [.int (Int32.ofInt v3_)] (zqcI d_ [] [] [] [] Mz (fun v N => v = (((zct (fun g_ => gtr T_ (gFn T_ (a0_).toNat) g_ = (gFn T_ (a0_).toNat)) (gN T_)) : Nat) : Int)))
  have hnm_ := hp0_N2_
  rw [hft_] at hnm_
  refine zr_callS hf.x (pc := 15) [.int (Int32.ofInt v3_)] [] l_Sorts_78 (u_Integer_bitCount l d_ Mz (hf.w hW) v3_ hv3_a hv3_b (show 0 ≤ v3_ by first | assumption | omega)) rfl rfl (by decide) (Nat.le_of_ble_eq_true rfl) d_Sorts_normSize_15 ?_
  rintro _ N4_ ⟨v5_, rfl, ⟨hv5_a, hv5_b⟩, hsN4_, ⟨hp0_N4_, hp1_N4_, hp2_N4_⟩⟩
  obtain rfl := hsN4_.eq.symm
  show zW l m_Sorts_normSize (zn Mz + 0, zw Mz + 0) Mz 18 [some (.ref (d_ + 12)), some (.int (Int32.ofInt a0_))] [.int (Int32.ofInt v5_)] (zqcI d_ [] [] [] [] Mz (fun v N => v = (((zct (fun g_ => gtr T_ (gFn T_ (a0_).toNat) g_ = (gFn T_ (a0_).toNat)) (gN T_)) : Nat) : Int)))
  have hb_ := hp0_N4_
  rw [hnm_, Int.toNat_natCast, kbc_g (Nat.lt_of_lt_of_le (zbq_lt _ _) (Nat.pow_le_pow_right (n := 2) (by decide) hn24_)), gcb_z _ (by omega)] at hb_
  exact zk_iret (pc := 18) (ty := .int) rfl rfl ⟨by omega, by omega⟩ hf (show v5_ = (((zct (fun g_ => gtr T_ (gFn T_ (a0_).toNat) g_ = (gFn T_ (a0_).toNat)) (gN T_)) : Nat) : Int) by exact hb_) d_Sorts_normSize_18
set_option maxHeartbeats 4000000 in
theorem u_Sorts_sumOverNormS (l : Launch) (d_ : Nat) (Mz : zMem) (hW : zKW d_ Mz) (a0_ : Int) (ha0_a : -2147483648 ≤ a0_) (ha0_b : a0_ < 2147483648) (T_ : zGT) (hT_ : T_ ∈ gTabs) (hAs_ : gAs T_) (hGr_ : gGr T_) (p0_ : zTt T_ d_ Mz) (p1_ : zFir T_ d_ Mz) (p2_ : zSbK T_ d_ Mz) (p3_ : 0 ≤ a0_) (p4_ : a0_ < ((gF T_).length : Int)) : zC l m_Sorts_sumOverNorm 0 0 [.ref (d_ + 12), .int (Int32.ofInt a0_), .ref (d_ + 26)] Mz (zqcJ d_ [] [] [] [11] Mz (fun v N => Int64.ofInt v = Int64.ofInt (zsm (zni T_ (gFn T_ (a0_).toNat) (zcgF T_ (gFn T_ (a0_).toNat) (fun j_ => zg Mz (d_ + 27) j_))) (gN T_)))) := by
  refine zC_of (L0 := [some (.ref (d_ + 12)), some (.int (Int32.ofInt a0_)), some (.ref (d_ + 26)), none, none, none, none, none]) md_Sorts_sumOverNorm (Nat.le_of_ble_eq_true rfl) rfl ?_ zQ0
  have hf : zFc d_ [] [] [] [11] Mz Mz := zFc.rf
  have r_D1_7 := ze_r Mz (d_ + 1) 7
  have hO_ := gTabs_ok T_ hT_
  have hG_ := hO_.1
  have hn24_ := hG_.2.1
  have hn1_ := hG_.1
  have hsz_ := p0_.1
  have hfl_ := p1_.1
  obtain ⟨⟨hF1_, hF27_⟩, hAr_⟩ := id (gT_zTA hT_)
  refine zw_aload_n (pc := 0) (n := 0) (x := (d_ + 12)) rfl d_Sorts_sumOverNorm_0 ?_
  refine zw_getF (pc := 1) f_Sorts_26 rfl ((hf.w hW).kr (o := 12) (by decide)) ((hf.w hW).lr (o := 12) (s := 4) (r := 19) (by decide)) d_Sorts_sumOverNorm_1 ?_
  refine zw_iload_n (pc := 4) (n := 1) (x := Int32.ofInt a0_) rfl d_Sorts_sumOverNorm_4 ?_
  refine zk_at hf.x (pc := 5) l_Sorts_49 ((hf.w hW).kr (o := 19) (by decide)) ((hf.w hW).lr (o := 19) (s := 0) (r := 20) (by decide)) ((hf.w hW).rr (o := 20) (t := 1) (n := 27) (by decide)) (by decide) (by omega) (by omega) (by decide) (Nat.le_of_ble_eq_true rfl) d_Sorts_sumOverNorm_5 (fun v1_ hv1_ hv1_a hv1_b => ?_)
  have hfv_ := hv1_
  have hfw_ : v1_ = (((gFn T_ (a0_).toNat) : Nat) : Int) := hfv_.trans (p1_.2 _ (by omega))
  have hft_ : (v1_).toNat = (gFn T_ (a0_).toNat) := by omega
  have hfm0_ := gFn_m (T := T_) (i := (a0_).toNat) (by omega)
  have hfma_ := (hO_.2.2.1.2.1 _ hfm0_).1
  have hfb_ := gS_b hO_ hfma_
  refine zw_istore_n (pc := 8) (i := 3) (L2 := [some (.ref (d_ + 12)), some (.int (Int32.ofInt a0_)), some (.ref (d_ + 26)), some (.int (Int32.ofInt v1_)), none, none, none, none]) rfl (by decide) rfl d_Sorts_sumOverNorm_8 ?_
  refine zw_aload_n (pc := 9) (n := 0) (x := (d_ + 12)) rfl d_Sorts_sumOverNorm_9 ?_
  refine zw_getF (pc := 10) f_Sorts_32 rfl ((hf.w hW).kr (o := 12) (by decide)) ((hf.w hW).lr (o := 12) (s := 0) (r := 1) (by decide)) d_Sorts_sumOverNorm_10 ?_
  refine zw_iload_n (pc := 13) (n := 3) (x := Int32.ofInt v1_) rfl d_Sorts_sumOverNorm_13 ?_
  refine zk_callV hf.x (pc := 14) [.int (Int32.ofInt v1_)] [] l_Sorts_102 (u_Group_normOfG l d_ Mz (hf.w hW) v1_ hv1_a hv1_b T_ hT_ p0_ (show 0 ≤ v1_ by first | assumption | omega) (show (v1_).toNat < 2 ^ gN T_ by rw [hft_]; exact hfb_.1)) rfl rfl ((hf.w hW).kr (o := 1) (by decide)) (by decide) (by decide) (Nat.le_of_ble_eq_true rfl) d_Sorts_sumOverNorm_14 ?_
  rintro _ N2_ ⟨v3_, rfl, ⟨hv3_a, hv3_b⟩, hsN2_, ⟨hp0_N2_, hp1_N2_, hp2_N2_⟩⟩
  obtain rfl := hsN2_.eq.symm
  show zW l m_Sorts_sumOverNorm (zn Mz + 0, zw Mz + 0) Mz 17 [some (.ref (d_ + 12)), some (.int (Int32.ofInt a0_)), some (.ref (d_ + 26)), some (.int (Int32.ofInt v1_)), none, none, none, none] [.int (Int32.ofInt v3_)] (zqcJ d_ [] [] [] [11] Mz (fun v N => Int64.ofInt v = Int64.ofInt (zsm (zni T_ (gFn T_ (a0_).toNat) (zcgF T_ (gFn T_ (a0_).toNat) (fun j_ => zg Mz (d_ + 27) j_))) (gN T_))))
  have hnm_ := hp0_N2_
  rw [hft_] at hnm_
  refine zw_istore (pc := 17) (i := 4) (L2 := [some (.ref (d_ + 12)), some (.int (Int32.ofInt a0_)), some (.ref (d_ + 26)), some (.int (Int32.ofInt v1_)), some (.int (Int32.ofInt v3_)), none, none, none]) (by decide) rfl d_Sorts_sumOverNorm_17 ?_
  refine zw_lconst (pc := 19) (v := Int64.ofInt 0) (by decide) d_Sorts_sumOverNorm_19 ?_
  refine zw_lstore (pc := 20) (i := 5) (L2 := [some (.ref (d_ + 12)), some (.int (Int32.ofInt a0_)), some (.ref (d_ + 26)), some (.int (Int32.ofInt v1_)), some (.int (Int32.ofInt v3_)), some (.long (Int64.ofInt 0)), none, none]) (by decide) rfl d_Sorts_sumOverNorm_20 ?_
  refine zw_iconst (pc := 22) (v := Int32.ofInt 0) (by decide) d_Sorts_sumOverNorm_22 ?_
  refine zw_istore (pc := 23) (i := 7) (L2 := [some (.ref (d_ + 12)), some (.int (Int32.ofInt a0_)), some (.ref (d_ + 26)), some (.int (Int32.ofInt v1_)), some (.int (Int32.ofInt v3_)), some (.long (Int64.ofInt 0)), none, some (.int (Int32.ofInt 0))]) (by decide) rfl d_Sorts_sumOverNorm_23 ?_
  have lp_25 : ∀ (n : Nat) (u4_ : Int) (hu4_a : -9223372036854775808 ≤ u4_) (hu4_b : u4_ < 9223372036854775808) (u5_ : Int) (hu5_a : -2147483648 ≤ u5_) (hu5_b : u5_ < 2147483648) (N6_ : zMem) (hs7_ : zFc d_ [] [] [] [11] Mz N6_) (i8_ : 0 ≤ u5_) (i9_ : u5_ ≤ gN T_) (i10_ : Int64.ofInt u4_ = Int64.ofInt (zsm (zni T_ (gFn T_ (a0_).toNat) (zcgF T_ (gFn T_ (a0_).toNat) (fun j_ => zg Mz (d_ + 27) j_))) (u5_).toNat)), (gN T_ - u5_).toNat < n → zW l m_Sorts_sumOverNorm (zn Mz + 0, zw Mz + 0) N6_ 25 [some (.ref (d_ + 12)), some (.int (Int32.ofInt a0_)), some (.ref (d_ + 26)), some (.int (Int32.ofInt v1_)), some (.int (Int32.ofInt v3_)), some (.long (Int64.ofInt u4_)), none, some (.int (Int32.ofInt u5_))] [] (zqcJ d_ [] [] [] [11] Mz (fun v N => Int64.ofInt v = Int64.ofInt (zsm (zni T_ (gFn T_ (a0_).toNat) (zcgF T_ (gFn T_ (a0_).toNat) (fun j_ => zg Mz (d_ + 27) j_))) (gN T_)))) := by
    intro n
    induction n with
    | zero =>
      intro u4_ hu4_a hu4_b u5_ hu5_a hu5_b N6_ hs7_ i8_ i9_ i10_ h0
      exact absurd h0 (Nat.not_lt_zero _)
    | succ n ih_25 =>
      intro u4_ hu4_a hu4_b u5_ hu5_a hu5_b N6_ hs7_ i8_ i9_ i10_ hlt_25
      have hf_N6_ : zFc d_ [] [] [] [11] Mz N6_ := hf.tr hs7_ (by decide) (by decide) (by decide) (by decide)
      have eD1_7_N6_ : ze N6_ (d_ + 1) 7 = ze Mz (d_ + 1) 7 := hs7_.e (by decide)
      have c11_ : zTt T_ d_ N6_ := zTt.fr (hf.w hW) hs7_ p0_ (by decide)
      have c12_ : zFir T_ d_ N6_ := zFir.fr (hf.w hW) hs7_ p1_ (by decide)
      have c13_ : zSbK T_ d_ N6_ := zSbK.fr (hf.w hW) hs7_ p2_ (by decide)
      have hsi_ := (show Int64.ofInt u4_ = Int64.ofInt (zsm (zni T_ (gFn T_ (a0_).toNat) (zcgF T_ (gFn T_ (a0_).toNat) (fun j_ => zg Mz (d_ + 27) j_))) (u5_).toNat) by assumption)
      refine zw_iload (pc := 25) (i := 7) (x := Int32.ofInt u5_) rfl d_Sorts_sumOverNorm_25 ?_
      refine zw_aload_n (pc := 27) (n := 0) (x := (d_ + 12)) rfl d_Sorts_sumOverNorm_27 ?_
      refine zw_getF (pc := 28) f_Sorts_32 rfl ((hf_N6_.w hW).kr (o := 12) (by decide)) ((hf_N6_.w hW).lr (o := 12) (s := 0) (r := 1) (by decide)) d_Sorts_sumOverNorm_28 ?_
      refine zk_getI (pc := 31) f_Sorts_44 rfl ((hf_N6_.w hW).kr (o := 1) (by decide)) d_Sorts_sumOverNorm_31 ?_
      rw [hf_N6_.e (by decide)]
      refine zr_icmp_ge (pc := 34) (tgt := 72) ⟨hu5_a, hu5_b⟩ ⟨(ze_r Mz (d_ + 1) 7).1, (ze_r Mz (d_ + 1) 7).2⟩ (by decide) d_Sorts_sumOverNorm_34 (fun hc_34 => ?_) (fun hc_34 => ?_)
      · skip
        refine zw_lload (pc := 72) (i := 5) (x := Int64.ofInt u4_) rfl d_Sorts_sumOverNorm_72 ?_
        exact zk_lret (pc := 74) rfl ⟨by omega, by omega⟩ hf_N6_ (show Int64.ofInt u4_ = Int64.ofInt (zsm (zni T_ (gFn T_ (a0_).toNat) (zcgF T_ (gFn T_ (a0_).toNat) (fun j_ => zg Mz (d_ + 27) j_))) (gN T_)) by have h_ := hsi_; rw [show (u5_).toNat = gN T_ by omega] at h_; exact h_) d_Sorts_sumOverNorm_74
      · skip
        refine zw_iload (pc := 37) (i := 4) (x := Int32.ofInt v3_) rfl d_Sorts_sumOverNorm_37 ?_
        refine zw_iload (pc := 39) (i := 7) (x := Int32.ofInt u5_) rfl d_Sorts_sumOverNorm_39 ?_
        refine zr_callS hf_N6_.x (pc := 41) [.int (Int32.ofInt v3_), .int (Int32.ofInt u5_)] [] l_Sorts_53 (u_T_isIn l d_ N6_ (hf_N6_.w hW) v3_ hv3_a hv3_b u5_ hu5_a hu5_b (show 0 ≤ v3_ by first | assumption | omega) (show v3_ < 2147483648 by first | assumption | omega) (show 0 ≤ u5_ by first | assumption | omega) (show u5_ < 31 by first | assumption | omega)) rfl rfl (by decide) (Nat.le_of_ble_eq_true rfl) d_Sorts_sumOverNorm_41 ?_
        rintro _ N14_ ⟨v15_, rfl, ⟨hv15_a, hv15_b⟩, hsN14_, hp0_N14_⟩
        obtain rfl := hsN14_.eq.symm
        replace hp0_N14_ : ((v15_ = 1 ∧ zbt v3_ u5_) ∨ (v15_ = 0 ∧ ¬ zbt v3_ u5_)) := hp0_N14_
        rcases hp0_N14_ with ⟨rfl, ha41_0_hp0_N14_⟩ | ⟨rfl, ha41_0_hp0_N14_⟩
        · skip
          have hin_ := ha41_0_hp0_N14_
          have hgn_ : gtr T_ (gFn T_ (a0_).toNat) (u5_).toNat = (gFn T_ (a0_).toNat) := (norm_in hnm_ (by omega)).mp hin_
          show zW l m_Sorts_sumOverNorm (zn Mz + 0, zw Mz + 0) N6_ 44 [some (.ref (d_ + 12)), some (.int (Int32.ofInt a0_)), some (.ref (d_ + 26)), some (.int (Int32.ofInt v1_)), some (.int (Int32.ofInt v3_)), some (.long (Int64.ofInt u4_)), none, some (.int (Int32.ofInt u5_))] [.int (Int32.ofInt 1)] (zqcJ d_ [] [] [] [11] Mz (fun v N => Int64.ofInt v = Int64.ofInt (zsm (zni T_ (gFn T_ (a0_).toNat) (zcgF T_ (gFn T_ (a0_).toNat) (fun j_ => zg Mz (d_ + 27) j_))) (gN T_))))
          refine zr_if_eq (pc := 44) (tgt := 66) ⟨(by decide), (by decide)⟩ (by decide) d_Sorts_sumOverNorm_44 (fun hc_44 => ?_) (fun hc_44 => ?_)
          · skip
            exact absurd hc_44 (by decide)
          · skip
            refine zw_lload (pc := 47) (i := 5) (x := Int64.ofInt u4_) rfl d_Sorts_sumOverNorm_47 ?_
            refine zw_aload_n (pc := 49) (n := 2) (x := (d_ + 26)) rfl d_Sorts_sumOverNorm_49 ?_
            refine zw_aload_n (pc := 50) (n := 0) (x := (d_ + 12)) rfl d_Sorts_sumOverNorm_50 ?_
            refine zw_iload_n (pc := 51) (n := 3) (x := Int32.ofInt v1_) rfl d_Sorts_sumOverNorm_51 ?_
            refine zw_iconst (pc := 52) (v := Int32.ofInt 1) (by decide) d_Sorts_sumOverNorm_52 ?_
            refine zw_iload (pc := 53) (i := 7) (x := Int32.ofInt u5_) rfl d_Sorts_sumOverNorm_53 ?_
            refine zr_ishl (pc := 55) d_Sorts_sumOverNorm_55 ?_
            have hr16_ := zshl_r 1 u5_
            refine zr_ior (pc := 56) d_Sorts_sumOverNorm_56 ?_
            have hr17_ := zor_r v1_ (zshl 1 u5_)
            have hor_ := norm_or (T := T_) (H := (gFn T_ (a0_).toNat)) (g := u5_) hfw_ hfb_.2.1 (by omega) (by omega)
            refine zk_callV hf_N6_.x (pc := 57) [.int (Int32.ofInt (zor v1_ (zshl 1 u5_)))] [.ref (d_ + 26), .long (Int64.ofInt u4_)] l_Sorts_112 (u_Sorts_spannedSortG l d_ N6_ (hf_N6_.w hW) (zor v1_ (zshl 1 u5_)) (by omega) (by omega) T_ hT_ hAs_ c11_ c13_ (show 0 ≤ (zor v1_ (zshl 1 u5_)) by exact zor_p (by omega) (by omega) (zsh_0 (by omega) (by omega)) (zshl_r 1 u5_).2) (show ((zor v1_ (zshl 1 u5_))).toNat < 2 ^ gN T_ by rw [hor_]; exact Nat.or_lt_two_pow hfb_.1 (Nat.pow_lt_pow_right (by decide) (by omega)))) rfl rfl ((hf_N6_.w hW).kr (o := 12) (by decide)) (by decide) (by decide) (Nat.le_of_ble_eq_true rfl) d_Sorts_sumOverNorm_57 ?_
            rintro _ N18_ ⟨v19_, rfl, ⟨hv19_a, hv19_b⟩, hsN18_, hp0_N18_⟩
            replace hp0_N18_ : (∃ R_ : Nat, gLC T_ ((zor v1_ (zshl 1 u5_))).toNat R_ ∧ zSrt T_ R_ v19_) := hp0_N18_
            have hf_N18_ : zFc d_ [] [] [] [11] Mz N18_ := hf_N6_.tr hsN18_ (by decide) (by decide) (by decide) (by decide)
            have hb0_N18_ : zFc d_ [] [] [] [11] Mz N18_ := hs7_.tr hsN18_ (by decide) (by decide) (by decide) (by decide)
            have eD1_7_N18_ : ze N18_ (d_ + 1) 7 = ze N6_ (d_ + 1) 7 := hsN18_.e (by decide)
            have c20_ : zTt T_ d_ N18_ := zTt.fr (hf_N6_.w hW) hsN18_ c11_ (by decide)
            have c21_ : zFir T_ d_ N18_ := zFir.fr (hf_N6_.w hW) hsN18_ c12_ (by decide)
            have c22_ : zSbK T_ d_ N18_ := zSbK.fr (hf_N6_.w hW) hsN18_ c13_ (by decide)
            show zW l m_Sorts_sumOverNorm (zn Mz + 0, zw Mz + 0) N18_ 60 [some (.ref (d_ + 12)), some (.int (Int32.ofInt a0_)), some (.ref (d_ + 26)), some (.int (Int32.ofInt v1_)), some (.int (Int32.ofInt v3_)), some (.long (Int64.ofInt u4_)), none, some (.int (Int32.ofInt u5_))] [.int (Int32.ofInt v19_), .ref (d_ + 26), .long (Int64.ofInt u4_)] (zqcJ d_ [] [] [] [11] Mz (fun v N => Int64.ofInt v = Int64.ofInt (zsm (zni T_ (gFn T_ (a0_).toNat) (zcgF T_ (gFn T_ (a0_).toNat) (fun j_ => zg Mz (d_ + 27) j_))) (gN T_))))
            obtain ⟨R_, hlc_, hso_⟩ := hp0_N18_
            rw [hor_] at hlc_
            have hgs_ := gsr_u hO_ hlc_ hso_
            have hgl_ := gsr_lt hT_ ((gFn T_ (a0_).toNat) ||| 2 ^ (u5_).toNat)
            refine zk_atJ hf_N18_.x (pc := 60) l_Sorts_115 ((hf_N18_.w hW).kr (o := 26) (by decide)) ((hf_N18_.w hW).lr (o := 26) (s := 0) (r := 27) (by decide)) ((hf_N18_.w hW).rr (o := 27) (t := 2) (n := 27) (by decide)) (by decide) (by omega) (by omega) (by decide) (Nat.le_of_ble_eq_true rfl) d_Sorts_sumOverNorm_60 (fun v23_ hv23_ hv23_a hv23_b => ?_)
            rw [hf_N18_.rg (by decide)] at hv23_
            have hx_ := hv23_
            rw [hgs_, Int.toNat_natCast] at hx_
            refine zr_ladd (pc := 63) d_Sorts_sumOverNorm_63 ?_
            refine zk_nmJ (fun v24_ hv24_ hv24_e => ?_)
            obtain ⟨hv24_a, hv24_b⟩ := hv24_
            have hsn_ := zsm_s64 (f := zni T_ (gFn T_ (a0_).toNat) (zcgF T_ (gFn T_ (a0_).toNat) (fun j_ => zg Mz (d_ + 27) j_))) hsi_ hv24_e (hx_.trans (zif_t hgn_).symm) (by omega)
            refine zw_lstore (pc := 64) (i := 5) (L2 := [some (.ref (d_ + 12)), some (.int (Int32.ofInt a0_)), some (.ref (d_ + 26)), some (.int (Int32.ofInt v1_)), some (.int (Int32.ofInt v3_)), some (.long (Int64.ofInt v24_)), none, some (.int (Int32.ofInt u5_))]) (by decide) rfl d_Sorts_sumOverNorm_64 ?_
            refine zr_iinc (pc := 66) (i := 7) (a := u5_) (n := 1) (L2 := [some (.ref (d_ + 12)), some (.int (Int32.ofInt a0_)), some (.ref (d_ + 26)), some (.int (Int32.ofInt v1_)), some (.int (Int32.ofInt v3_)), some (.long (Int64.ofInt v24_)), none, some (.int (Int32.ofInt (u5_ + 1)))]) rfl (by decide) rfl d_Sorts_sumOverNorm_66 ?_
            refine zw_goto (pc := 69) (tgt := 25) (by decide) d_Sorts_sumOverNorm_69 ?_
            have hsb_ : Int64.ofInt v24_ = Int64.ofInt (zsm (zni T_ (gFn T_ (a0_).toNat) (zcgF T_ (gFn T_ (a0_).toNat) (fun j_ => zg Mz (d_ + 27) j_))) ((u5_ + 1)).toNat) := by first | exact hsn_ | exact zsm_n64 hsi_ (zif_f hng_) (by omega)
            exact ih_25 v24_ hv24_a hv24_b (u5_ + 1) (by omega) (by omega) N18_ hb0_N18_ (show 0 ≤ (u5_ + 1) by first | assumption | omega) (show (u5_ + 1) ≤ gN T_ by first | assumption | omega) (show Int64.ofInt v24_ = Int64.ofInt (zsm (zni T_ (gFn T_ (a0_).toNat) (zcgF T_ (gFn T_ (a0_).toNat) (fun j_ => zg Mz (d_ + 27) j_))) ((u5_ + 1)).toNat) by exact hsb_) (by omega)
        · skip
          have hng_ : ¬ gtr T_ (gFn T_ (a0_).toNat) (u5_).toNat = (gFn T_ (a0_).toNat) := fun q_ => ha41_0_hp0_N14_ ((norm_in hnm_ (by omega)).mpr q_)
          show zW l m_Sorts_sumOverNorm (zn Mz + 0, zw Mz + 0) N6_ 44 [some (.ref (d_ + 12)), some (.int (Int32.ofInt a0_)), some (.ref (d_ + 26)), some (.int (Int32.ofInt v1_)), some (.int (Int32.ofInt v3_)), some (.long (Int64.ofInt u4_)), none, some (.int (Int32.ofInt u5_))] [.int (Int32.ofInt 0)] (zqcJ d_ [] [] [] [11] Mz (fun v N => Int64.ofInt v = Int64.ofInt (zsm (zni T_ (gFn T_ (a0_).toNat) (zcgF T_ (gFn T_ (a0_).toNat) (fun j_ => zg Mz (d_ + 27) j_))) (gN T_))))
          refine zr_if_eq (pc := 44) (tgt := 66) ⟨(by decide), (by decide)⟩ (by decide) d_Sorts_sumOverNorm_44 (fun hc_44 => ?_) (fun hc_44 => ?_)
          · skip
            refine zr_iinc (pc := 66) (i := 7) (a := u5_) (n := 1) (L2 := [some (.ref (d_ + 12)), some (.int (Int32.ofInt a0_)), some (.ref (d_ + 26)), some (.int (Int32.ofInt v1_)), some (.int (Int32.ofInt v3_)), some (.long (Int64.ofInt u4_)), none, some (.int (Int32.ofInt (u5_ + 1)))]) rfl (by decide) rfl d_Sorts_sumOverNorm_66 ?_
            refine zw_goto (pc := 69) (tgt := 25) (by decide) d_Sorts_sumOverNorm_69 ?_
            have hsb_ : Int64.ofInt u4_ = Int64.ofInt (zsm (zni T_ (gFn T_ (a0_).toNat) (zcgF T_ (gFn T_ (a0_).toNat) (fun j_ => zg Mz (d_ + 27) j_))) ((u5_ + 1)).toNat) := by first | exact hsn_ | exact zsm_n64 hsi_ (zif_f hng_) (by omega)
            exact ih_25 u4_ hu4_a hu4_b (u5_ + 1) (by omega) (by omega) N6_ hs7_ (show 0 ≤ (u5_ + 1) by first | assumption | omega) (show (u5_ + 1) ≤ gN T_ by first | assumption | omega) (show Int64.ofInt u4_ = Int64.ofInt (zsm (zni T_ (gFn T_ (a0_).toNat) (zcgF T_ (gFn T_ (a0_).toNat) (fun j_ => zg Mz (d_ + 27) j_))) ((u5_ + 1)).toNat) by exact hsb_) (by omega)
          · skip
            exact absurd hc_44 (by decide)
  exact lp_25 _ 0 (by decide) (by decide) 0 (by decide) (by decide) Mz zFc.rf (show 0 ≤ (0 : Int) by first | assumption | omega) (show (0 : Int) ≤ gN T_ by first | assumption | omega) (show Int64.ofInt (0 : Int) = Int64.ofInt (zsm (zni T_ (gFn T_ (a0_).toNat) (zcgF T_ (gFn T_ (a0_).toNat) (fun j_ => zg Mz (d_ + 27) j_))) ((0 : Int)).toNat) by rfl) (Nat.lt_succ_self _)
set_option maxHeartbeats 4000000 in
theorem u_Sorts_firstIncongruentS (l : Launch) (d_ : Nat) (Mz : zMem) (hW : zKW d_ Mz) (T_ : zGT) (hT_ : T_ ∈ gTabs) (hAs_ : gAs T_) (hGr_ : gGr T_) (p0_ : zTt T_ d_ Mz) (p1_ : zFir T_ d_ Mz) (p2_ : zSbK T_ d_ Mz) (p3_ : (∀ j : Nat, j < (gF T_).length → -1000000 ≤ zg Mz (d_ + 27) j ∧ zg Mz (d_ + 27) j ≤ 1000000)) : zC l m_Sorts_firstIncongruent 0 0 [.ref (d_ + 12), .ref (d_ + 26)] Mz (zqcI d_ [] [] [] [11] Mz (fun v N => zMkO T_ (fun j_ => zg Mz (d_ + 27) j_) (v + 1) ∧ -1 ≤ v ∧ v < 1000)) := by
  refine zC_of (L0 := [some (.ref (d_ + 12)), some (.ref (d_ + 26)), none, none]) md_Sorts_firstIncongruent (Nat.le_of_ble_eq_true rfl) rfl ?_ zQ0
  have hf : zFc d_ [] [] [] [11] Mz Mz := zFc.rf
  have r_D12_7 := ze_r Mz (d_ + 12) 7
  have hO_ := gTabs_ok T_ hT_
  have hG_ := hO_.1
  have hn24_ := hG_.2.1
  have hn1_ := hG_.1
  have hfl_ := p1_.1
  obtain ⟨⟨hF1_, hF27_⟩, hAr_⟩ := id (gT_zTA hT_)
  have hab_ : ∀ j_ : Nat, j_ < (gF T_).length → (zg Mz (d_ + 27) j_).natAbs ≤ 1000000 := fun j_ hj_ => by have h_ := p3_ j_ hj_; omega
  refine zw_iconst (pc := 0) (v := Int32.ofInt 0) (by decide) d_Sorts_firstIncongruent_0 ?_
  refine zw_istore_n (pc := 1) (i := 2) (L2 := [some (.ref (d_ + 12)), some (.ref (d_ + 26)), some (.int (Int32.ofInt 0)), none]) rfl (by decide) rfl d_Sorts_firstIncongruent_1 ?_
  have lp_2 : ∀ (n : Nat) (u1_ : Int) (hu1_a : -2147483648 ≤ u1_) (hu1_b : u1_ < 2147483648) (N2_ : zMem) (hs3_ : zFc d_ [] [] [] [11] Mz N2_) (i4_ : 0 ≤ u1_) (i5_ : u1_ ≤ ((gF T_).length : Int)) (i6_ : (∀ i : Nat, (i : Int) < u1_ → zCgr T_ (gFn T_ i) (fun j_ => zg Mz (d_ + 27) j_))), (((gF T_).length : Int) - u1_).toNat < n → zW l m_Sorts_firstIncongruent (zn Mz + 0, zw Mz + 0) N2_ 2 [some (.ref (d_ + 12)), some (.ref (d_ + 26)), some (.int (Int32.ofInt u1_)), none] [] (zqcI d_ [] [] [] [11] Mz (fun v N => zMkO T_ (fun j_ => zg Mz (d_ + 27) j_) (v + 1) ∧ -1 ≤ v ∧ v < 1000)) := by
    intro n
    induction n with
    | zero =>
      intro u1_ hu1_a hu1_b N2_ hs3_ i4_ i5_ i6_ h0
      exact absurd h0 (Nat.not_lt_zero _)
    | succ n ih_2 =>
      intro u1_ hu1_a hu1_b N2_ hs3_ i4_ i5_ i6_ hlt_2
      have hf_N2_ : zFc d_ [] [] [] [11] Mz N2_ := hf.tr hs3_ (by decide) (by decide) (by decide) (by decide)
      have eD12_7_N2_ : ze N2_ (d_ + 12) 7 = ze Mz (d_ + 12) 7 := hs3_.e (by decide)
      have c7_ : zTt T_ d_ N2_ := zTt.fr (hf.w hW) hs3_ p0_ (by decide)
      have c8_ : zFir T_ d_ N2_ := zFir.fr (hf.w hW) hs3_ p1_ (by decide)
      have c9_ : zSbK T_ d_ N2_ := zSbK.fr (hf.w hW) hs3_ p2_ (by decide)
      have hcj_ := (show (∀ i : Nat, (i : Int) < u1_ → zCgr T_ (gFn T_ i) (fun j_ => zg Mz (d_ + 27) j_)) by assumption)
      refine zw_iload_n (pc := 2) (n := 2) (x := Int32.ofInt u1_) rfl d_Sorts_firstIncongruent_2 ?_
      refine zw_aload_n (pc := 3) (n := 0) (x := (d_ + 12)) rfl d_Sorts_firstIncongruent_3 ?_
      refine zk_getI (pc := 4) f_Sorts_83 rfl ((hf_N2_.w hW).kr (o := 12) (by decide)) d_Sorts_firstIncongruent_4 ?_
      rw [hf_N2_.e (by decide)]
      refine zr_icmp_ge (pc := 7) (tgt := 42) ⟨hu1_a, hu1_b⟩ ⟨(ze_r Mz (d_ + 12) 7).1, (ze_r Mz (d_ + 12) 7).2⟩ (by decide) d_Sorts_firstIncongruent_7 (fun hc_7 => ?_) (fun hc_7 => ?_)
      · skip
        refine zw_iconst (pc := 42) (v := Int32.ofInt (-1)) (by decide) d_Sorts_firstIncongruent_42 ?_
        exact zk_iret (pc := 43) (ty := .int) rfl rfl ⟨by omega, by omega⟩ hf_N2_ ⟨(show zMkO T_ (fun j_ => zg Mz (d_ + 27) j_) (((-1)) + 1) by exact Or.inl ⟨rfl, fun i_ hi_ => hcj_ i_ (by omega)⟩), (show -1 ≤ ((-1)) by first | assumption | omega), (show ((-1)) < 1000 by first | assumption | omega)⟩ d_Sorts_firstIncongruent_43
      · skip
        refine zw_aload_n (pc := 10) (n := 0) (x := (d_ + 12)) rfl d_Sorts_firstIncongruent_10 ?_
        refine zw_iload_n (pc := 11) (n := 2) (x := Int32.ofInt u1_) rfl d_Sorts_firstIncongruent_11 ?_
        refine zk_callV hf_N2_.x (pc := 12) [.int (Int32.ofInt u1_)] [] l_Sorts_120 (u_Sorts_normSizeS l d_ N2_ (hf_N2_.w hW) u1_ hu1_a hu1_b T_ hT_ c7_ c8_ (show 0 ≤ u1_ by first | assumption | omega) (show u1_ < ((gF T_).length : Int) by first | assumption | omega)) rfl rfl ((hf_N2_.w hW).kr (o := 12) (by decide)) (by decide) (by decide) (Nat.le_of_ble_eq_true rfl) d_Sorts_firstIncongruent_12 ?_
        rintro _ N10_ ⟨v11_, rfl, ⟨hv11_a, hv11_b⟩, hsN10_, hp0_N10_⟩
        obtain rfl := hsN10_.eq.symm
        replace hp0_N10_ : v11_ = (((zct (fun g_ => gtr T_ (gFn T_ (u1_).toNat) g_ = (gFn T_ (u1_).toNat)) (gN T_)) : Nat) : Int) := hp0_N10_
        show zW l m_Sorts_firstIncongruent (zn Mz + 0, zw Mz + 0) N2_ 15 [some (.ref (d_ + 12)), some (.ref (d_ + 26)), some (.int (Int32.ofInt u1_)), none] [.int (Int32.ofInt v11_)] (zqcI d_ [] [] [] [11] Mz (fun v N => zMkO T_ (fun j_ => zg Mz (d_ + 27) j_) (v + 1) ∧ -1 ≤ v ∧ v < 1000))
        have hns_ := hp0_N10_
        have hfm_ := gFn_m (T := T_) (i := (u1_).toNat) (by omega)
        have hnp_ := nrm_p hT_ hfm_
        have hnb_ := zct_b (fun g_ => gtr T_ (gFn T_ (u1_).toNat) g_ = (gFn T_ (u1_).toNat)) (gN T_)
        refine zw_istore_n (pc := 15) (i := 3) (L2 := [some (.ref (d_ + 12)), some (.ref (d_ + 26)), some (.int (Int32.ofInt u1_)), some (.int (Int32.ofInt v11_))]) rfl (by decide) rfl d_Sorts_firstIncongruent_15 ?_
        refine zw_iload_n (pc := 16) (n := 3) (x := Int32.ofInt v11_) rfl d_Sorts_firstIncongruent_16 ?_
        refine zr_if_le (pc := 17) (tgt := 36) ⟨hv11_a, hv11_b⟩ (by decide) d_Sorts_firstIncongruent_17 (fun hc_17 => ?_) (fun hc_17 => ?_)
        · skip
          refine zr_iinc (pc := 36) (i := 2) (a := u1_) (n := 1) (L2 := [some (.ref (d_ + 12)), some (.ref (d_ + 26)), some (.int (Int32.ofInt (u1_ + 1))), some (.int (Int32.ofInt v11_))]) rfl (by decide) rfl d_Sorts_firstIncongruent_36 ?_
          refine zw_goto (pc := 39) (tgt := 2) (by decide) d_Sorts_firstIncongruent_39 ?_
          refine zW_le [some (.ref (d_ + 12)), some (.ref (d_ + 26)), some (.int (Int32.ofInt (u1_ + 1))), none] (⟨rfl, rfl, rfl, trivial⟩) ?_
          exact ih_2 (u1_ + 1) (by omega) (by omega) N2_ hs3_ (show 0 ≤ (u1_ + 1) by first | assumption | omega) (show (u1_ + 1) ≤ ((gF T_).length : Int) by first | assumption | omega) (show (∀ i : Nat, (i : Int) < (u1_ + 1) → zCgr T_ (gFn T_ i) (fun j_ => zg Mz (d_ + 27) j_)) by first | exact hcn_ (by omega) | (exfalso; omega)) (by omega)
        · skip
          refine zw_aload_n (pc := 20) (n := 0) (x := (d_ + 12)) rfl d_Sorts_firstIncongruent_20 ?_
          refine zw_iload_n (pc := 21) (n := 2) (x := Int32.ofInt u1_) rfl d_Sorts_firstIncongruent_21 ?_
          refine zw_aload_n (pc := 22) (n := 1) (x := (d_ + 26)) rfl d_Sorts_firstIncongruent_22 ?_
          have hfr27_ : ∀ j_ : Nat, zg N2_ (d_ + 27) j_ = zg Mz (d_ + 27) j_ := fun j_ => hf_N2_.rg (by decide) j_
          refine zk_callV hf_N2_.x (pc := 23) [.int (Int32.ofInt u1_), .ref (d_ + 26)] [] l_Sorts_123 (u_Sorts_sumOverNormS l d_ N2_ (hf_N2_.w hW) u1_ hu1_a hu1_b T_ hT_ hAs_ hGr_ c7_ c8_ c9_ (show 0 ≤ u1_ by first | assumption | omega) (show u1_ < ((gF T_).length : Int) by first | assumption | omega)) rfl rfl ((hf_N2_.w hW).kr (o := 12) (by decide)) (by decide) (by decide) (Nat.le_of_ble_eq_true rfl) d_Sorts_firstIncongruent_23 ?_
          rintro _ N12_ ⟨v13_, rfl, ⟨hv13_a, hv13_b⟩, hsN12_, hp0_N12_⟩
          replace hp0_N12_ : Int64.ofInt v13_ = Int64.ofInt (zsm (zni T_ (gFn T_ (u1_).toNat) (zcgF T_ (gFn T_ (u1_).toNat) (fun j_ => zg N2_ (d_ + 27) j_))) (gN T_)) := hp0_N12_
          have hf_N12_ : zFc d_ [] [] [] [11] Mz N12_ := hf_N2_.tr hsN12_ (by decide) (by decide) (by decide) (by decide)
          have hb0_N12_ : zFc d_ [] [] [] [11] Mz N12_ := hs3_.tr hsN12_ (by decide) (by decide) (by decide) (by decide)
          have eD12_7_N12_ : ze N12_ (d_ + 12) 7 = ze N2_ (d_ + 12) 7 := hsN12_.e (by decide)
          have c14_ : zTt T_ d_ N12_ := zTt.fr (hf_N2_.w hW) hsN12_ c7_ (by decide)
          have c15_ : zFir T_ d_ N12_ := zFir.fr (hf_N2_.w hW) hsN12_ c8_ (by decide)
          have c16_ : zSbK T_ d_ N12_ := zSbK.fr (hf_N2_.w hW) hsN12_ c9_ (by decide)
          show zW l m_Sorts_firstIncongruent (zn Mz + 0, zw Mz + 0) N12_ 26 [some (.ref (d_ + 12)), some (.ref (d_ + 26)), some (.int (Int32.ofInt u1_)), some (.int (Int32.ofInt v11_))] [.long (Int64.ofInt v13_)] (zqcI d_ [] [] [] [11] Mz (fun v N => zMkO T_ (fun j_ => zg Mz (d_ + 27) j_) (v + 1) ∧ -1 ≤ v ∧ v < 1000))
          have hps_ := hp0_N12_
          simp only [hfr27_] at hps_
          have hsb_ := zni_sb hT_ (H := (gFn T_ (u1_).toNat)) (f := (fun j_ => zg Mz (d_ + 27) j_)) (n := gN T_) hn24_ hab_
          have hve_ := z64q ⟨by omega, by omega⟩ ⟨by omega, by omega⟩ hps_
          have hcd_ := zcg_d (f := (fun j_ => zg Mz (d_ + 27) j_)) hT_ hGr_ hfm_
          have hlr_ := zlrem_d (a := v13_) (b := v11_) (by omega) (by omega) (by omega) (by omega)
          rw [hve_, hns_] at hlr_
          have hlq_ := hlr_.trans hcd_
          rw [← hve_, ← hns_] at hlq_
          have hcn_ : zlrem v13_ v11_ = 0 → ∀ i : Nat, (i : Int) < u1_ + 1 → zCgr T_ (gFn T_ i) (fun j_ => zg Mz (d_ + 27) j_) := fun z_ i_ hi_ => by by_cases g_ : (i_ : Int) < u1_; exact hcj_ i_ g_; (rw [show i_ = (u1_).toNat by omega]; exact hlq_.mp z_)
          have hno2_ : zlrem v13_ v11_ ≠ 0 → zMkO T_ (fun j_ => zg Mz (d_ + 27) j_) (u1_ + 1) := fun z_ => Or.inr ⟨(u1_).toNat, by omega, by omega, fun q_ => z_ (hlq_.mpr q_), fun i_ hi_ => hcj_ i_ (by omega)⟩
          refine zw_iload_n (pc := 26) (n := 3) (x := Int32.ofInt v11_) rfl d_Sorts_firstIncongruent_26 ?_
          refine zr_i2l (pc := 27) ⟨hv11_a, hv11_b⟩ d_Sorts_firstIncongruent_27 ?_
          refine zr_lrem (pc := 28) ⟨by omega, by omega⟩ (by omega) d_Sorts_firstIncongruent_28 ?_
          have hr17_ := zlrem_r v13_ v11_
          refine zw_lconst (pc := 29) (v := Int64.ofInt 0) (by decide) d_Sorts_firstIncongruent_29 ?_
          refine zr_lcmp (pc := 30) ⟨(by omega), (by omega)⟩ ⟨(by decide), (by decide)⟩ d_Sorts_firstIncongruent_30 ?_
          have hr18_ := zcmp_s (zlrem v13_ v11_) 0
          refine zr_if_eq (pc := 31) (tgt := 36) ⟨(by omega), (by omega)⟩ (by decide) d_Sorts_firstIncongruent_31 (fun hc_31 => ?_) (fun hc_31 => ?_)
          · skip
            refine zr_iinc (pc := 36) (i := 2) (a := u1_) (n := 1) (L2 := [some (.ref (d_ + 12)), some (.ref (d_ + 26)), some (.int (Int32.ofInt (u1_ + 1))), some (.int (Int32.ofInt v11_))]) rfl (by decide) rfl d_Sorts_firstIncongruent_36 ?_
            refine zw_goto (pc := 39) (tgt := 2) (by decide) d_Sorts_firstIncongruent_39 ?_
            refine zW_le [some (.ref (d_ + 12)), some (.ref (d_ + 26)), some (.int (Int32.ofInt (u1_ + 1))), none] (⟨rfl, rfl, rfl, trivial⟩) ?_
            exact ih_2 (u1_ + 1) (by omega) (by omega) N12_ hb0_N12_ (show 0 ≤ (u1_ + 1) by first | assumption | omega) (show (u1_ + 1) ≤ ((gF T_).length : Int) by first | assumption | omega) (show (∀ i : Nat, (i : Int) < (u1_ + 1) → zCgr T_ (gFn T_ i) (fun j_ => zg Mz (d_ + 27) j_)) by first | exact hcn_ (by omega) | (exfalso; omega)) (by omega)
          · skip
            refine zw_iload_n (pc := 34) (n := 2) (x := Int32.ofInt u1_) rfl d_Sorts_firstIncongruent_34 ?_
            exact zk_iret (pc := 35) (ty := .int) rfl rfl ⟨by omega, by omega⟩ hf_N12_ ⟨(show zMkO T_ (fun j_ => zg Mz (d_ + 27) j_) (u1_ + 1) by exact hno2_ (by omega)), (show -1 ≤ u1_ by first | assumption | omega), (show u1_ < 1000 by first | assumption | omega)⟩ d_Sorts_firstIncongruent_35
  exact lp_2 _ 0 (by decide) (by decide) Mz zFc.rf (show 0 ≤ (0 : Int) by first | assumption | omega) (show (0 : Int) ≤ ((gF T_).length : Int) by first | assumption | omega) (show (∀ i : Nat, (i : Int) < (0 : Int) → zCgr T_ (gFn T_ i) (fun j_ => zg Mz (d_ + 27) j_)) by exact fun i_ hi_ => absurd hi_ (by omega)) (Nat.lt_succ_self _)
set_option maxHeartbeats 4000000 in
theorem u_T_marksS (l : Launch) (d_ : Nat) (Mz : zMem) (hW : zKW d_ Mz) (hnow : zf Mz 0 2 = some (d_ + 0)) (b_ : Nat → Int) (n_ : Nat) (T_ : zGT) (hT_ : T_ ∈ gTabs) (hAs_ : gAs T_) (hGr_ : gGr T_) (s_ : zSg) (nm_ : List (Int × (Nat → Int))) (p0_ : zYb b_ n_ Mz) (p1_ : zTt T_ d_ Mz) (p2_ : zFir T_ d_ Mz) (p3_ : zSbK T_ d_ Mz) (p4_ : zKm (gF T_).length (gmkI T_) d_ Mz) (p5_ : zSK (gF T_).length s_ d_ Mz) (p6_ : zNm nm_ (gF T_).length (gmkI T_) d_ Mz) : zC l m_T_marks 0 0 [.ref 0] Mz (zqcI d_ [(1, 1)] [] [(0, 7), (0, 8)] [11, 25, 27] Mz (fun v N => ze N 1 1 = 0 ∧ (((v = -2 ∧ (¬ ∃ f_ : Nat → Int, zRown b_ n_ (gF T_).length f_) ∧ zSK (gF T_).length s_ d_ N) ∨ ∃ f_ : Nat → Int, zRown b_ n_ (gF T_).length f_ ∧ (∀ j : Nat, j < (gF T_).length → -1000000 ≤ f_ j ∧ f_ j ≤ 1000000) ∧ zMkO T_ f_ v ∧ ((v = 0 ∧ zSK (gF T_).length (zpush s_ (zsq (gF T_).length (gmkI T_) f_)) d_ N) ∨ (v ≠ 0 ∧ zSK (gF T_).length s_ d_ N)))) ∧ zNm nm_ (gF T_).length (gmkI T_) d_ N)) := by
  refine zC_of (L0 := [some (.ref 0), none, none]) md_T_marks (Nat.le_of_ble_eq_true rfl) rfl ?_ zQ0
  have hf : zFc d_ [(1, 1)] [] [(0, 7), (0, 8)] [11, 25, 27] Mz Mz := zFc.rf
  have r_A1_1 := ze_r Mz 1 1
  have r_D12_7 := ze_r Mz (d_ + 12) 7
  have hO_ := gTabs_ok T_ hT_
  have hG_ := hO_.1
  have hn24_ := hG_.2.1
  have hn1_ := hG_.1
  have hfl_ := p2_.1
  have hTA_ := gT_zTA hT_
  obtain ⟨⟨hF1_, hF27_⟩, hAr_⟩ := id hTA_
  obtain ⟨hFc_, hKt_⟩ := id p4_
  obtain ⟨⟨hs1_, hs2_⟩, ⟨hs3_, hs4_⟩, hs5_, hs6_⟩ := id p5_
  refine zw_aload_n (pc := 0) (n := 0) (x := 0) rfl d_T_marks_0 ?_
  refine zw_getF (pc := 1) f_T_21 rfl ((hf.w hW).ka (o := 0) (by decide)) ((hf.w hW).la (o := 0) (s := 1) (r := 4) (by decide)) d_T_marks_1 ?_
  refine zw_aload_n (pc := 4) (n := 0) (x := 0) rfl d_T_marks_4 ?_
  refine zw_getF (pc := 5) f_T_28 rfl ((hf.w hW).ka (o := 0) (by decide)) (hf.now hnow) d_T_marks_5 ?_
  refine zw_getF (pc := 8) f_T_169 rfl ((hf.w hW).kr (o := 0) (by decide)) ((hf.w hW).lr (o := 0) (s := 2) (r := 23) (by decide)) d_T_marks_8 ?_
  refine zw_getF (pc := 11) f_T_262 rfl ((hf.w hW).kr (o := 23) (by decide)) ((hf.w hW).lr (o := 23) (s := 2) (r := 26) (by decide)) d_T_marks_11 ?_
  refine zw_aload_n (pc := 14) (n := 0) (x := 0) rfl d_T_marks_14 ?_
  refine zw_getF (pc := 15) f_T_28 rfl ((hf.w hW).ka (o := 0) (by decide)) (hf.now hnow) d_T_marks_15 ?_
  refine zw_getF (pc := 18) f_T_85 rfl ((hf.w hW).kr (o := 0) (by decide)) ((hf.w hW).lr (o := 0) (s := 1) (r := 12) (by decide)) d_T_marks_18 ?_
  refine zk_getI (pc := 21) f_T_94 rfl ((hf.w hW).kr (o := 12) (by decide)) d_T_marks_21 ?_
  refine zk_callV hf.x (pc := 24) [.ref (d_ + 26), .int (Int32.ofInt (ze Mz (d_ + 12) 7))] [] l_T_299 (u_Reader_readRowS l d_ Mz (hf.w hW) (ze Mz (d_ + 12) 7) (ze_r Mz (d_ + 12) 7).1 (ze_r Mz (d_ + 12) 7).2 b_ n_ p0_ (show 0 ≤ (ze Mz (d_ + 12) 7) by first | assumption | omega) (show (ze Mz (d_ + 12) 7) ≤ 27 by first | assumption | omega)) rfl rfl ((hf.w hW).ka (o := 4) (by decide)) (by decide) (by decide) (Nat.le_of_ble_eq_true rfl) d_T_marks_24 ?_
  rintro _ N1_ ⟨v2_, rfl, ⟨hv2_a, hv2_b⟩, hsN1_, hp0_N1_⟩
  replace hp0_N1_ : ((v2_ = 1 ∧ zRown b_ n_ ((ze Mz (d_ + 12) 7)).toNat (fun j_ => zg N1_ (d_ + 27) j_) ∧ (∀ j : Nat, (j : Int) < (ze Mz (d_ + 12) 7) → -999999 ≤ zg N1_ (d_ + 27) j ∧ zg N1_ (d_ + 27) j ≤ 999999)) ∨ (v2_ = 0 ∧ ¬ ∃ f_ : Nat → Int, zRown b_ n_ ((ze Mz (d_ + 12) 7)).toNat f_)) := hp0_N1_
  have hf_N1_ : zFc d_ [(1, 1)] [] [(0, 7), (0, 8)] [11, 25, 27] Mz N1_ := hf.tr hsN1_ (by decide) (by decide) (by decide) (by decide)
  have eA1_1_N1_ : ze N1_ 1 1 = ze Mz 1 1 := hsN1_.ea (hf.w hW) (by decide)
  have eD12_7_N1_ : ze N1_ (d_ + 12) 7 = ze Mz (d_ + 12) 7 := hsN1_.e (by decide)
  have c3_ : zYb b_ n_ N1_ := zYb.fr (hf.w hW) hsN1_ p0_ (by decide)
  have c4_ : zTt T_ d_ N1_ := zTt.fr (hf.w hW) hsN1_ p1_ (by decide)
  have c5_ : zFir T_ d_ N1_ := zFir.fr (hf.w hW) hsN1_ p2_ (by decide)
  have c6_ : zSbK T_ d_ N1_ := zSbK.fr (hf.w hW) hsN1_ p3_ (by decide)
  have c7_ : zKm (gF T_).length (gmkI T_) d_ N1_ := zKm.fr (hf.w hW) hsN1_ p4_ (by decide)
  have c8_ : zSK (gF T_).length s_ d_ N1_ := zSKc.fr (hf.w hW) hsN1_ p5_ (by decide)
  have c9_ : zNm nm_ (gF T_).length (gmkI T_) d_ N1_ := zNm.fr (hf.w hW) hsN1_ p6_ (by decide)
  rcases hp0_N1_ with ⟨rfl, ha24_0_hp0_N1_, ha24_1_hp0_N1_⟩ | ⟨rfl, ha24_0_hp0_N1_⟩
  · skip
    have hrow_ := ha24_0_hp0_N1_
    have hbd0_ := ha24_1_hp0_N1_
    rw [show (ze Mz (d_ + 12) 7).toNat = (gF T_).length by omega] at hrow_
    obtain ⟨f_, hf27_⟩ : ∃ f : Nat → Int, ∀ j : Nat, zg N1_ (d_ + 27) j = f j := ⟨_, fun _ => rfl⟩
    rw [show (fun j_ => zg N1_ (d_ + 27) j_) = f_ from funext hf27_] at hrow_
    have hbd_ : ∀ j_ : Nat, j_ < (gF T_).length → -1000000 ≤ f_ j_ ∧ f_ j_ ≤ 1000000 := fun j_ hj_ => by have h_ := hbd0_ j_ (by omega); rw [hf27_] at h_; omega
    show zW l m_T_marks (zn Mz + 0, zw Mz + 0) N1_ 27 [some (.ref 0), none, none] [.int (Int32.ofInt 1)] (zqcI d_ [(1, 1)] [] [(0, 7), (0, 8)] [11, 25, 27] Mz (fun v N => ze N 1 1 = 0 ∧ (((v = -2 ∧ (¬ ∃ f_ : Nat → Int, zRown b_ n_ (gF T_).length f_) ∧ zSK (gF T_).length s_ d_ N) ∨ ∃ f_ : Nat → Int, zRown b_ n_ (gF T_).length f_ ∧ (∀ j : Nat, j < (gF T_).length → -1000000 ≤ f_ j ∧ f_ j ≤ 1000000) ∧ zMkO T_ f_ v ∧ ((v = 0 ∧ zSK (gF T_).length (zpush s_ (zsq (gF T_).length (gmkI T_) f_)) d_ N) ∨ (v ≠ 0 ∧ zSK (gF T_).length s_ d_ N)))) ∧ zNm nm_ (gF T_).length (gmkI T_) d_ N))
    refine zw_istore_n (pc := 27) (i := 1) (L2 := [some (.ref 0), some (.int (Int32.ofInt 1)), none]) rfl (by decide) rfl d_T_marks_27 ?_
    refine zw_aload_n (pc := 28) (n := 0) (x := 0) rfl d_T_marks_28 ?_
    refine zw_getF (pc := 29) f_T_10 rfl ((hf_N1_.w hW).ka (o := 0) (by decide)) ((hf_N1_.w hW).la (o := 0) (s := 0) (r := 1) (by decide)) d_T_marks_29 ?_
    refine zw_iconst (pc := 32) (v := Int32.ofInt 0) (by decide) d_T_marks_32 ?_
    refine zk_putA (pc := 33) (hf_N1_.w hW) (by decide) f_T_42 rfl rfl ((hf_N1_.w hW).ka (o := 1) (by decide)) ⟨by omega, by omega⟩ rfl rfl d_T_marks_33 (fun N10_ hsN10_ hvN10_ => ?_)
    have hf_N10_ : zFc d_ [(1, 1)] [] [(0, 7), (0, 8)] [11, 25, 27] Mz N10_ := hf_N1_.tr hsN10_ (by decide) (by decide) (by decide) (by decide)
    have rA1_1_N10_ := ze_r N10_ 1 1
    have eD12_7_N10_ : ze N10_ (d_ + 12) 7 = ze N1_ (d_ + 12) 7 := hsN10_.e (by decide)
    have c11_ : zTt T_ d_ N10_ := zTt.fr (hf_N1_.w hW) hsN10_ c4_ (by decide)
    have c12_ : zFir T_ d_ N10_ := zFir.fr (hf_N1_.w hW) hsN10_ c5_ (by decide)
    have c13_ : zSbK T_ d_ N10_ := zSbK.fr (hf_N1_.w hW) hsN10_ c6_ (by decide)
    have c14_ : zKm (gF T_).length (gmkI T_) d_ N10_ := zKm.fr (hf_N1_.w hW) hsN10_ c7_ (by decide)
    have c15_ : zSK (gF T_).length s_ d_ N10_ := zSKc.fr (hf_N1_.w hW) hsN10_ c8_ (by decide)
    have c16_ : zNm nm_ (gF T_).length (gmkI T_) d_ N10_ := zNm.fr (hf_N1_.w hW) hsN10_ c9_ (by decide)
    refine zw_iload_n (pc := 36) (n := 1) (x := Int32.ofInt 1) rfl d_T_marks_36 ?_
    refine zr_if_ne (pc := 37) (tgt := 43) ⟨(by decide), (by decide)⟩ (by decide) d_T_marks_37 (fun hc_37 => ?_) (fun hc_37 => ?_)
    · skip
      refine zw_aload_n (pc := 43) (n := 0) (x := 0) rfl d_T_marks_43 ?_
      refine zw_getF (pc := 44) f_T_28 rfl ((hf_N10_.w hW).ka (o := 0) (by decide)) (hf_N10_.now hnow) d_T_marks_44 ?_
      refine zw_getF (pc := 47) f_T_85 rfl ((hf_N10_.w hW).kr (o := 0) (by decide)) ((hf_N10_.w hW).lr (o := 0) (s := 1) (r := 12) (by decide)) d_T_marks_47 ?_
      refine zw_aload_n (pc := 50) (n := 0) (x := 0) rfl d_T_marks_50 ?_
      refine zw_getF (pc := 51) f_T_28 rfl ((hf_N10_.w hW).ka (o := 0) (by decide)) (hf_N10_.now hnow) d_T_marks_51 ?_
      refine zw_getF (pc := 54) f_T_169 rfl ((hf_N10_.w hW).kr (o := 0) (by decide)) ((hf_N10_.w hW).lr (o := 0) (s := 2) (r := 23) (by decide)) d_T_marks_54 ?_
      refine zw_getF (pc := 57) f_T_262 rfl ((hf_N10_.w hW).kr (o := 23) (by decide)) ((hf_N10_.w hW).lr (o := 23) (s := 2) (r := 26) (by decide)) d_T_marks_57 ?_
      have hfj_ : (∀ j : Nat, zg N10_ (d_ + 27) j = f_ j) := fun j_ => (hsN10_.rg (by decide) j_).trans (hf27_ j_)
      have hfe_ : (fun j_ => zg N10_ (d_ + 27) j_) = f_ := funext hfj_
      refine zk_callV hf_N10_.x (pc := 60) [.ref (d_ + 26)] [] l_T_303 (u_Sorts_firstIncongruentS l d_ N10_ (hf_N10_.w hW) T_ hT_ hAs_ hGr_ c11_ c12_ c13_ (show (∀ j : Nat, j < (gF T_).length → -1000000 ≤ zg N10_ (d_ + 27) j ∧ zg N10_ (d_ + 27) j ≤ 1000000) by exact fun j_ hj_ => by rw [hfj_]; exact hbd_ j_ hj_)) rfl rfl ((hf_N10_.w hW).kr (o := 12) (by decide)) (by decide) (by decide) (Nat.le_of_ble_eq_true rfl) d_T_marks_60 ?_
      rintro _ N17_ ⟨v18_, rfl, ⟨hv18_a, hv18_b⟩, hsN17_, ⟨hp0_N17_, hp1_N17_, hp2_N17_⟩⟩
      have hf_N17_ : zFc d_ [(1, 1)] [] [(0, 7), (0, 8)] [11, 25, 27] Mz N17_ := hf_N10_.tr hsN17_ (by decide) (by decide) (by decide) (by decide)
      have eA1_1_N17_ : ze N17_ 1 1 = ze N10_ 1 1 := hsN17_.ea (hf_N10_.w hW) (by decide)
      have eD12_7_N17_ : ze N17_ (d_ + 12) 7 = ze N10_ (d_ + 12) 7 := hsN17_.e (by decide)
      have c19_ : zTt T_ d_ N17_ := zTt.fr (hf_N10_.w hW) hsN17_ c11_ (by decide)
      have c20_ : zFir T_ d_ N17_ := zFir.fr (hf_N10_.w hW) hsN17_ c12_ (by decide)
      have c21_ : zSbK T_ d_ N17_ := zSbK.fr (hf_N10_.w hW) hsN17_ c13_ (by decide)
      have c22_ : zKm (gF T_).length (gmkI T_) d_ N17_ := zKm.fr (hf_N10_.w hW) hsN17_ c14_ (by decide)
      have c23_ : zSK (gF T_).length s_ d_ N17_ := zSKc.fr (hf_N10_.w hW) hsN17_ c15_ (by decide)
      have c24_ : zNm nm_ (gF T_).length (gmkI T_) d_ N17_ := zNm.fr (hf_N10_.w hW) hsN17_ c16_ (by decide)
      show zW l m_T_marks (zn Mz + 0, zw Mz + 0) N17_ 63 [some (.ref 0), some (.int (Int32.ofInt 1)), none] [.int (Int32.ofInt v18_)] (zqcI d_ [(1, 1)] [] [(0, 7), (0, 8)] [11, 25, 27] Mz (fun v N => ze N 1 1 = 0 ∧ (((v = -2 ∧ (¬ ∃ f_ : Nat → Int, zRown b_ n_ (gF T_).length f_) ∧ zSK (gF T_).length s_ d_ N) ∨ ∃ f_ : Nat → Int, zRown b_ n_ (gF T_).length f_ ∧ (∀ j : Nat, j < (gF T_).length → -1000000 ≤ f_ j ∧ f_ j ≤ 1000000) ∧ zMkO T_ f_ v ∧ ((v = 0 ∧ zSK (gF T_).length (zpush s_ (zsq (gF T_).length (gmkI T_) f_)) d_ N) ∨ (v ≠ 0 ∧ zSK (gF T_).length s_ d_ N)))) ∧ zNm nm_ (gF T_).length (gmkI T_) d_ N))
      have hmo_ := hp0_N17_
      rw [hfe_] at hmo_
      have hvr_ := hp1_N17_
      have hvs_ := hp2_N17_
      refine zw_istore_n (pc := 63) (i := 2) (L2 := [some (.ref 0), some (.int (Int32.ofInt 1)), some (.int (Int32.ofInt v18_))]) rfl (by decide) rfl d_T_marks_63 ?_
      refine zw_iload_n (pc := 64) (n := 2) (x := Int32.ofInt v18_) rfl d_T_marks_64 ?_
      refine zw_iconst (pc := 65) (v := Int32.ofInt (-1)) (by decide) d_T_marks_65 ?_
      refine zr_icmp_eq (pc := 66) (tgt := 73) ⟨hv18_a, hv18_b⟩ ⟨(by decide), (by decide)⟩ (by decide) d_T_marks_66 (fun hc_66 => ?_) (fun hc_66 => ?_)
      · skip
        refine zw_aload_n (pc := 73) (n := 0) (x := 0) rfl d_T_marks_73 ?_
        refine zw_getF (pc := 74) f_T_28 rfl ((hf_N17_.w hW).ka (o := 0) (by decide)) (hf_N17_.now hnow) d_T_marks_74 ?_
        refine zw_getF (pc := 77) f_T_169 rfl ((hf_N17_.w hW).kr (o := 0) (by decide)) ((hf_N17_.w hW).lr (o := 0) (s := 2) (r := 23) (by decide)) d_T_marks_77 ?_
        refine zw_bipush (pc := 80) (v := Int32.ofInt 39) (by decide) d_T_marks_80 ?_
        have hfj2_ : ∀ j_ : Nat, zg N17_ (d_ + 27) j_ = f_ j_ := fun j_ => (hsN17_.rg (by decide) j_).trans (hfj_ j_)
        have hska_ := c23_
        have hnma_ := c24_
        refine zk_callV hf_N17_.x (pc := 82) [.int (Int32.ofInt 39)] [] l_T_296 (u_Sums_solveS l d_ N17_ (hf_N17_.w hW) 39 (by decide) (by decide) (gF T_).length (gmkI T_) hTA_ c22_ (show 0 ≤ 39 by first | assumption | omega) (show 39 ≤ 39 by first | assumption | omega) (show (∀ j : Nat, j < (gF T_).length → -1000000 ≤ zg N17_ (d_ + 27) j ∧ zg N17_ (d_ + 27) j ≤ 1000000) by exact fun j_ hj_ => by rw [hfj2_]; exact hbd_ j_ hj_)) rfl rfl ((hf_N17_.w hW).kr (o := 23) (by decide)) (by decide) (by decide) (Nat.le_of_ble_eq_true rfl) d_T_marks_82 ?_
        rintro _ N25_ ⟨rfl, hsN25_, hp0_N25_⟩
        replace hp0_N25_ : zSh (gF T_).length d_ N17_ N25_ 39 (zsq (gF T_).length (gmkI T_) (fun j_ => zg N17_ (d_ + 27) j_)) := hp0_N25_
        have hf_N25_ : zFc d_ [(1, 1)] [] [(0, 7), (0, 8)] [11, 25, 27] Mz N25_ := hf_N17_.tr hsN25_ (by decide) (by decide) (by decide) (by decide)
        have eA1_1_N25_ : ze N25_ 1 1 = ze N17_ 1 1 := hsN25_.ea (hf_N17_.w hW) (by decide)
        have eD12_7_N25_ : ze N25_ (d_ + 12) 7 = ze N17_ (d_ + 12) 7 := hsN25_.e (by decide)
        have c27_ : zTt T_ d_ N25_ := zTt.fr (hf_N17_.w hW) hsN25_ c19_ (by decide)
        have c28_ : zFir T_ d_ N25_ := zFir.fr (hf_N17_.w hW) hsN25_ c20_ (by decide)
        have c29_ : zSbK T_ d_ N25_ := zSbK.fr (hf_N17_.w hW) hsN25_ c21_ (by decide)
        have c30_ : zKm (gF T_).length (gmkI T_) d_ N25_ := zKm.fr (hf_N17_.w hW) hsN25_ c22_ (by decide)
        show zW l m_T_marks (zn Mz + 0, zw Mz + 0) N25_ 85 [some (.ref 0), some (.int (Int32.ofInt 1)), some (.int (Int32.ofInt v18_))] [] (zqcI d_ [(1, 1)] [] [(0, 7), (0, 8)] [11, 25, 27] Mz (fun v N => ze N 1 1 = 0 ∧ (((v = -2 ∧ (¬ ∃ f_ : Nat → Int, zRown b_ n_ (gF T_).length f_) ∧ zSK (gF T_).length s_ d_ N) ∨ ∃ f_ : Nat → Int, zRown b_ n_ (gF T_).length f_ ∧ (∀ j : Nat, j < (gF T_).length → -1000000 ≤ f_ j ∧ f_ j ≤ 1000000) ∧ zMkO T_ f_ v ∧ ((v = 0 ∧ zSK (gF T_).length (zpush s_ (zsq (gF T_).length (gmkI T_) f_)) d_ N) ∨ (v ≠ 0 ∧ zSK (gF T_).length s_ d_ N)))) ∧ zNm nm_ (gF T_).length (gmkI T_) d_ N))
        have hsh_ := hp0_N25_
        have hlw_ : zLow d_ N17_ N25_ := zLow.sh hsh_ (by omega)
        have hsk1_ := zSK.fr hsN25_ hlw_ hF27_ hska_ (by decide)
        have hnm1_ := hnma_.l hsN25_ hlw_ hF27_ (by decide)
        have hn39_ := zSh_n (F := (gF T_).length) (by omega) hsh_
        have hpc_ : ∀ k_ : Nat, k_ < (gF T_).length → zvc (gF T_).length d_ N25_ 39 k_ = zsq (gF T_).length (gmkI T_) f_ k_ := fun k_ hk_ => by rw [hn39_]; show (if k_ < (gF T_).length then _ else _) = _; rw [if_pos hk_]; exact zsq_cc (fun j_ _ => hfj2_ j_) k_ hk_
        refine zw_aload_n (pc := 85) (n := 0) (x := 0) rfl d_T_marks_85 ?_
        refine zw_getF (pc := 86) f_T_28 rfl ((hf_N25_.w hW).ka (o := 0) (by decide)) (hf_N25_.now hnow) d_T_marks_86 ?_
        refine zw_bipush (pc := 89) (v := Int32.ofInt 39) (by decide) d_T_marks_89 ?_
        refine zk_callV hf_N25_.x (pc := 91) [.int (Int32.ofInt 39)] [] l_T_284 (u_Troupe_becomeS l d_ N25_ (hf_N25_.w hW) 39 (by decide) (by decide) (gF T_).length (gmkI T_) hTA_ s_ c30_ hsk1_ (show ((1 ≤ 39 ∧ 39 ≤ 8) ∨ (21 ≤ 39 ∧ 39 ≤ 39)) by first | assumption | omega)) rfl rfl ((hf_N25_.w hW).kr (o := 0) (by decide)) (by decide) (by decide) (Nat.le_of_ble_eq_true rfl) d_T_marks_91 ?_
        rintro _ N31_ ⟨rfl, hsN31_, ⟨hp0_N31_, hp1_N31_⟩⟩
        have hf_N31_ : zFc d_ [(1, 1)] [] [(0, 7), (0, 8)] [11, 25, 27] Mz N31_ := hf_N25_.tr hsN31_ (by decide) (by decide) (by decide) (by decide)
        have eA1_1_N31_ : ze N31_ 1 1 = ze N25_ 1 1 := hsN31_.ea (hf_N25_.w hW) (by decide)
        have eD12_7_N31_ : ze N31_ (d_ + 12) 7 = ze N25_ (d_ + 12) 7 := hsN31_.e (by decide)
        have c33_ : zTt T_ d_ N31_ := zTt.fr (hf_N25_.w hW) hsN31_ c27_ (by decide)
        have c34_ : zFir T_ d_ N31_ := zFir.fr (hf_N25_.w hW) hsN31_ c28_ (by decide)
        have c35_ : zSbK T_ d_ N31_ := zSbK.fr (hf_N25_.w hW) hsN31_ c29_ (by decide)
        have c36_ : zKm (gF T_).length (gmkI T_) d_ N31_ := zKm.fr (hf_N25_.w hW) hsN31_ c30_ (by decide)
        show zW l m_T_marks (zn Mz + 0, zw Mz + 0) N31_ 94 [some (.ref 0), some (.int (Int32.ofInt 1)), some (.int (Int32.ofInt v18_))] [] (zqcI d_ [(1, 1)] [] [(0, 7), (0, 8)] [11, 25, 27] Mz (fun v N => ze N 1 1 = 0 ∧ (((v = -2 ∧ (¬ ∃ f_ : Nat → Int, zRown b_ n_ (gF T_).length f_) ∧ zSK (gF T_).length s_ d_ N) ∨ ∃ f_ : Nat → Int, zRown b_ n_ (gF T_).length f_ ∧ (∀ j : Nat, j < (gF T_).length → -1000000 ≤ f_ j ∧ f_ j ≤ 1000000) ∧ zMkO T_ f_ v ∧ ((v = 0 ∧ zSK (gF T_).length (zpush s_ (zsq (gF T_).length (gmkI T_) f_)) d_ N) ∨ (v ≠ 0 ∧ zSK (gF T_).length s_ d_ N)))) ∧ zNm nm_ (gF T_).length (gmkI T_) d_ N))
        have hsk2_ := (hp0_N31_).pc hpc_
        have hnm2_ := zNm.md hsN31_ hp1_N31_ hF27_ hnm1_ (by decide)
        refine zw_iconst (pc := 94) (v := Int32.ofInt 0) (by decide) d_T_marks_94 ?_
        exact zk_iret (pc := 95) (ty := .int) rfl rfl ⟨by omega, by omega⟩ hf_N31_ ⟨(show ze N31_ 1 1 = 0 by first | assumption | omega), (show ((0 = -2 ∧ (¬ ∃ f_ : Nat → Int, zRown b_ n_ (gF T_).length f_) ∧ zSK (gF T_).length s_ d_ N31_) ∨ ∃ f_ : Nat → Int, zRown b_ n_ (gF T_).length f_ ∧ (∀ j : Nat, j < (gF T_).length → -1000000 ≤ f_ j ∧ f_ j ≤ 1000000) ∧ zMkO T_ f_ 0 ∧ ((0 = 0 ∧ zSK (gF T_).length (zpush s_ (zsq (gF T_).length (gmkI T_) f_)) d_ N31_) ∨ (0 ≠ 0 ∧ zSK (gF T_).length s_ d_ N31_))) by exact Or.inr ⟨f_, hrow_, hbd_, (by rw [show v18_ + 1 = 0 by omega] at hmo_; exact hmo_), Or.inl ⟨rfl, hsk2_⟩⟩), hnm2_⟩ d_T_marks_95
      · skip
        refine zw_iload_n (pc := 69) (n := 2) (x := Int32.ofInt v18_) rfl d_T_marks_69 ?_
        refine zw_iconst (pc := 70) (v := Int32.ofInt 1) (by decide) d_T_marks_70 ?_
        refine zr_iadd (pc := 71) d_T_marks_71 ?_
        exact zk_iret (pc := 72) (ty := .int) rfl rfl ⟨by omega, by omega⟩ hf_N17_ ⟨(show ze N17_ 1 1 = 0 by first | assumption | omega), (show (((v18_ + 1) = -2 ∧ (¬ ∃ f_ : Nat → Int, zRown b_ n_ (gF T_).length f_) ∧ zSK (gF T_).length s_ d_ N17_) ∨ ∃ f_ : Nat → Int, zRown b_ n_ (gF T_).length f_ ∧ (∀ j : Nat, j < (gF T_).length → -1000000 ≤ f_ j ∧ f_ j ≤ 1000000) ∧ zMkO T_ f_ (v18_ + 1) ∧ (((v18_ + 1) = 0 ∧ zSK (gF T_).length (zpush s_ (zsq (gF T_).length (gmkI T_) f_)) d_ N17_) ∨ ((v18_ + 1) ≠ 0 ∧ zSK (gF T_).length s_ d_ N17_))) by exact Or.inr ⟨f_, hrow_, hbd_, hmo_, Or.inr ⟨by omega, c23_⟩⟩), c24_⟩ d_T_marks_72
    · skip
      exact absurd hc_37 (by decide)
  · skip
    have hno_ := ha24_0_hp0_N1_
    rw [show (ze Mz (d_ + 12) 7).toNat = (gF T_).length by omega] at hno_
    show zW l m_T_marks (zn Mz + 0, zw Mz + 0) N1_ 27 [some (.ref 0), none, none] [.int (Int32.ofInt 0)] (zqcI d_ [(1, 1)] [] [(0, 7), (0, 8)] [11, 25, 27] Mz (fun v N => ze N 1 1 = 0 ∧ (((v = -2 ∧ (¬ ∃ f_ : Nat → Int, zRown b_ n_ (gF T_).length f_) ∧ zSK (gF T_).length s_ d_ N) ∨ ∃ f_ : Nat → Int, zRown b_ n_ (gF T_).length f_ ∧ (∀ j : Nat, j < (gF T_).length → -1000000 ≤ f_ j ∧ f_ j ≤ 1000000) ∧ zMkO T_ f_ v ∧ ((v = 0 ∧ zSK (gF T_).length (zpush s_ (zsq (gF T_).length (gmkI T_) f_)) d_ N) ∨ (v ≠ 0 ∧ zSK (gF T_).length s_ d_ N)))) ∧ zNm nm_ (gF T_).length (gmkI T_) d_ N))
    refine zw_istore_n (pc := 27) (i := 1) (L2 := [some (.ref 0), some (.int (Int32.ofInt 0)), none]) rfl (by decide) rfl d_T_marks_27 ?_
    refine zw_aload_n (pc := 28) (n := 0) (x := 0) rfl d_T_marks_28 ?_
    refine zw_getF (pc := 29) f_T_10 rfl ((hf_N1_.w hW).ka (o := 0) (by decide)) ((hf_N1_.w hW).la (o := 0) (s := 0) (r := 1) (by decide)) d_T_marks_29 ?_
    refine zw_iconst (pc := 32) (v := Int32.ofInt 0) (by decide) d_T_marks_32 ?_
    refine zk_putA (pc := 33) (hf_N1_.w hW) (by decide) f_T_42 rfl rfl ((hf_N1_.w hW).ka (o := 1) (by decide)) ⟨by omega, by omega⟩ rfl rfl d_T_marks_33 (fun N37_ hsN37_ hvN37_ => ?_)
    have hf_N37_ : zFc d_ [(1, 1)] [] [(0, 7), (0, 8)] [11, 25, 27] Mz N37_ := hf_N1_.tr hsN37_ (by decide) (by decide) (by decide) (by decide)
    have rA1_1_N37_ := ze_r N37_ 1 1
    have eD12_7_N37_ : ze N37_ (d_ + 12) 7 = ze N1_ (d_ + 12) 7 := hsN37_.e (by decide)
    have c38_ : zTt T_ d_ N37_ := zTt.fr (hf_N1_.w hW) hsN37_ c4_ (by decide)
    have c39_ : zFir T_ d_ N37_ := zFir.fr (hf_N1_.w hW) hsN37_ c5_ (by decide)
    have c40_ : zSbK T_ d_ N37_ := zSbK.fr (hf_N1_.w hW) hsN37_ c6_ (by decide)
    have c41_ : zKm (gF T_).length (gmkI T_) d_ N37_ := zKm.fr (hf_N1_.w hW) hsN37_ c7_ (by decide)
    have c42_ : zSK (gF T_).length s_ d_ N37_ := zSKc.fr (hf_N1_.w hW) hsN37_ c8_ (by decide)
    have c43_ : zNm nm_ (gF T_).length (gmkI T_) d_ N37_ := zNm.fr (hf_N1_.w hW) hsN37_ c9_ (by decide)
    refine zw_iload_n (pc := 36) (n := 1) (x := Int32.ofInt 0) rfl d_T_marks_36 ?_
    refine zr_if_ne (pc := 37) (tgt := 43) ⟨(by decide), (by decide)⟩ (by decide) d_T_marks_37 (fun hc_37 => ?_) (fun hc_37 => ?_)
    · skip
      exact absurd hc_37 (by decide)
    · skip
      refine zw_bipush (pc := 40) (v := Int32.ofInt (-2)) (by decide) d_T_marks_40 ?_
      exact zk_iret (pc := 42) (ty := .int) rfl rfl ⟨by omega, by omega⟩ hf_N37_ ⟨(show ze N37_ 1 1 = 0 by first | assumption | omega), (show ((((-2)) = -2 ∧ (¬ ∃ f_ : Nat → Int, zRown b_ n_ (gF T_).length f_) ∧ zSK (gF T_).length s_ d_ N37_) ∨ ∃ f_ : Nat → Int, zRown b_ n_ (gF T_).length f_ ∧ (∀ j : Nat, j < (gF T_).length → -1000000 ≤ f_ j ∧ f_ j ≤ 1000000) ∧ zMkO T_ f_ ((-2)) ∧ ((((-2)) = 0 ∧ zSK (gF T_).length (zpush s_ (zsq (gF T_).length (gmkI T_) f_)) d_ N37_) ∨ (((-2)) ≠ 0 ∧ zSK (gF T_).length s_ d_ N37_))) by exact Or.inl ⟨rfl, hno_, c42_⟩), c43_⟩ d_T_marks_42
