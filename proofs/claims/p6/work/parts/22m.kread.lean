theorem zLow.fr {d : Nat} {Mz N1 N2 : zMem} {FA : List (Nat × Nat)} {CA : List Nat} {FR : List (Nat × Nat)} {CR : List Nat} (_ : zKW d N1) (hf : zFc d FA CA FR CR N1 N2) (h : zLow d Mz N1) (hd : 25 < 38 ∧ 25 ∉ CR ∧ ∀ x ∈ FR, x.1 ≠ 25) : zLow d Mz N2 := h.tr (zLow.f hf hd)
def zS0 (d : Nat) (Mz Nz : zMem) : Prop := ∀ t : Nat, t < 27 → zg Nz (d + 25) t = zg Mz (d + 25) t
theorem zS0.rf {d : Nat} {Mz : zMem} : zS0 d Mz Mz := fun _ _ => rfl
theorem zS0.tr {d : Nat} {Mz Nz Pz : zMem} (h : zS0 d Mz Nz) (h2 : zS0 d Nz Pz) : zS0 d Mz Pz := fun t ht => (h2 t ht).trans (h t ht)
theorem zS0.sh {d : Nat} {Mz Nz : zMem} {s m : Int} {f : Nat → Int} (h : zSh m d Mz Nz s f) (hs : 1 ≤ s) : zS0 d Mz Nz := fun t ht => by rw [h t, if_neg (by omega)]
theorem zLow.s0 {d : Nat} {Mz Nz : zMem} (h : zLow d Mz Nz) : zS0 d Mz Nz := fun t ht => h t (by omega)
theorem zS0.fr {d : Nat} {Mz N1 N2 : zMem} {FA : List (Nat × Nat)} {CA : List Nat} {FR : List (Nat × Nat)} {CR : List Nat} (_ : zKW d N1) (hf : zFc d FA CA FR CR N1 N2) (h : zS0 d Mz N1) (hd : 25 < 38 ∧ 25 ∉ CR ∧ ∀ x ∈ FR, x.1 ≠ 25) : zS0 d Mz N2 := fun t ht => (hf.rg hd t).trans (h t ht)
set_option maxHeartbeats 4000000 in
theorem u_Tokens_isWord (l : Launch) (d_ : Nat) (Mz : zMem) (hW : zKW d_ Mz) (a0_ : Nat) (ha0_ : a0_ < zsN) (b_ : Nat → Int) (n_ : Nat) (p0_ : zYb b_ n_ Mz) (p1_ : zYt b_ n_ Mz) : zC l m_Tokens_isWord 0 0 [.ref 1, .ref (zK a0_)] Mz (zqcI d_ [] [] [] [] Mz (fun v N => (((v = 1 ∧ zkd b_ n_ (ze Mz 1 2).toNat = 1 ∧ zkey b_ n_ (ze Mz 1 2).toNat = zkw a0_) ∨ (v = 0 ∧ ¬ (zkd b_ n_ (ze Mz 1 2).toNat = 1 ∧ zkey b_ n_ (ze Mz 1 2).toNat = zkw a0_)))))) := by
  refine zC_of (L0 := [some (.ref 1), some (.ref (zK a0_)), none]) md_Tokens_isWord (Nat.le_of_ble_eq_true rfl) rfl ?_ zQ0
  have hf : zFc d_ [] [] [] [] Mz Mz := zFc.rf
  have r_A1_2 := ze_r Mz 1 2
  have r_A1_3 := ze_r Mz 1 3
  have r_A1_4 := ze_r Mz 1 4
  obtain ⟨hn_, hn7_, hB_, hb_⟩ := id p0_
  obtain ⟨t1_, t2_, t3_, t4_, t5_, t6_⟩ := id p1_
  have hsl_ := zsl_6 ha0_
  refine zw_aload_n (pc := 0) (n := 0) (x := 1) rfl (zdal_p dlA_Tokens_isWord_89 (i := 0) rfl) ?_
  refine zk_getI (pc := 1) f_Tokens_44 rfl ((hf.w hW).ka (o := 1) (by decide)) (zdal_p dlA_Tokens_isWord_89 (i := 1) rfl) ?_
  refine zw_iconst (pc := 4) (v := Int32.ofInt 1) (by decide) (zdal_p dlA_Tokens_isWord_89 (i := 2) rfl) ?_
  refine zr_icmp_ne (pc := 5) (tgt := 24) ⟨(ze_r Mz 1 4).1, (ze_r Mz 1 4).2⟩ ⟨(by decide), (by decide)⟩ (by decide) (zdal_p dlA_Tokens_isWord_89 (i := 3) rfl) (fun hc_5 => ?_) (fun hc_5 => ?_)
  · skip
    refine zw_iconst (pc := 24) (v := Int32.ofInt 0) (by decide) (zdal_p dlA_Tokens_isWord_89 (i := 12) rfl) ?_
    exact zk_iret (pc := 25) (ty := .boolean) rfl (z_narB (by (decide))) ⟨by (decide), by (decide)⟩ hf (show ((0 = 1 ∧ zkd b_ n_ (ze Mz 1 2).toNat = 1 ∧ zkey b_ n_ (ze Mz 1 2).toNat = zkw a0_) ∨ (0 = 0 ∧ ¬ (zkd b_ n_ (ze Mz 1 2).toNat = 1 ∧ zkey b_ n_ (ze Mz 1 2).toNat = zkw a0_))) from Or.inr (⟨(show 0 = 0 by first | rfl | (rintro ⟨q1_, q2_⟩; have q3_ := (zkey_w ha0_ q1_).mp q2_; have q4_ := zkd_1 q1_; omega)), (show ¬ (zkd b_ n_ (ze Mz 1 2).toNat = 1 ∧ zkey b_ n_ (ze Mz 1 2).toNat = zkw a0_) by first | rfl | (rintro ⟨q1_, q2_⟩; have q3_ := (zkey_w ha0_ q1_).mp q2_; have q4_ := zkd_1 q1_; (exact zo_267 q1_ r_A1_4.1 r_A1_4.2 t3_ hc_5)))⟩)) (zdal_p dlA_Tokens_isWord_89 (i := 13) rfl)
  · skip
    refine zw_aload_n (pc := 8) (n := 1) (x := (zK a0_)) rfl (zdal_p dlA_Tokens_isWord_89 (i := 4) rfl) ?_
    refine zk_len (pc := 9) (i := a0_) ha0_ l_Tokens_76 (by decide) (Nat.le_of_ble_eq_true rfl) (zdal_p dlA_Tokens_isWord_89 (i := 5) rfl) ?_
    refine zw_aload_n (pc := 12) (n := 0) (x := 1) rfl (zdal_p dlA_Tokens_isWord_89 (i := 6) rfl) ?_
    refine zk_getI (pc := 13) f_Tokens_28 rfl ((hf.w hW).ka (o := 1) (by decide)) (zdal_p dlA_Tokens_isWord_89 (i := 7) rfl) ?_
    refine zw_aload_n (pc := 16) (n := 0) (x := 1) rfl (zdal_p dlA_Tokens_isWord_89 (i := 8) rfl) ?_
    refine zk_getI (pc := 17) f_Tokens_38 rfl ((hf.w hW).ka (o := 1) (by decide)) (zdal_p dlA_Tokens_isWord_89 (i := 9) rfl) ?_
    refine zr_isub (pc := 20) (zdal_p dlA_Tokens_isWord_89 (i := 10) rfl) ?_
    refine zr_icmp_eq (pc := 21) (tgt := 26) ⟨(by (exact zo_526)), (by (exact zo_2236 hsl_.2))⟩ ⟨(by (exact zo_2237 r_A1_2.2 r_A1_3.1 t2_)), (by (exact zo_2238 r_A1_3.2 t1_.1))⟩ (by decide) (zdal_p dlA_Tokens_isWord_89 (i := 11) rfl) (fun hc_21 => ?_) (fun hc_21 => ?_)
    · skip
      refine zw_iconst (pc := 26) (v := Int32.ofInt 0) (by decide) (zdal_p dlA_Tokens_isWord_89 (i := 14) rfl) ?_
      refine zw_istore_n (pc := 27) (i := 2) (L2 := [some (.ref 1), some (.ref (zK a0_)), some (.int (Int32.ofInt 0))]) rfl (by decide) rfl (zdal_p dlA_Tokens_isWord_89 (i := 15) rfl) ?_
      have hk1_ : zkd b_ n_ (ze Mz 1 2).toNat = 1 := by (exact zo_262 hc_5 t3_)
      have hzz_ := zkd_1 hk1_
      have hln_ : zen b_ n_ (ze Mz 1 2).toNat - (ze Mz 1 2).toNat = zsl a0_ := by (exact zo_2239 hc_21 hsl_.2 hzz_.2.1 hzz_.2.2.2.1 r_A1_2.2 t1_.1 t2_)
      have lp_28 : ∀ (n : Nat) (u1_ : Int) (hu1_a : -2147483648 ≤ u1_) (hu1_b : u1_ < 2147483648) (i2_ : 0 ≤ u1_) (i3_ : u1_ ≤ zsl a0_) (i4_ : ∀ j : Nat, (j : Int) < u1_ → b_ ((ze Mz 1 2).toNat + j) = zsb a0_ j), ((zsl a0_ : Nat) - u1_).toNat < n → zW l m_Tokens_isWord (zn Mz + 0, zw Mz + 0) Mz 28 [some (.ref 1), some (.ref (zK a0_)), some (.int (Int32.ofInt u1_))] [] (zqcI d_ [] [] [] [] Mz (fun v N => (((v = 1 ∧ zkd b_ n_ (ze Mz 1 2).toNat = 1 ∧ zkey b_ n_ (ze Mz 1 2).toNat = zkw a0_) ∨ (v = 0 ∧ ¬ (zkd b_ n_ (ze Mz 1 2).toNat = 1 ∧ zkey b_ n_ (ze Mz 1 2).toNat = zkw a0_)))))) := by
        intro n
        induction n with
        | zero =>
          intro u1_ hu1_a hu1_b i2_ i3_ i4_ h0
          exact absurd h0 (Nat.not_lt_zero _)
        | succ n ih_28 =>
          intro u1_ hu1_a hu1_b i2_ i3_ i4_ hlt_28
          refine zw_iload_n (pc := 28) (n := 2) (x := Int32.ofInt u1_) rfl (zdal_p dlA_Tokens_isWord_89 (i := 16) rfl) ?_
          refine zw_aload_n (pc := 29) (n := 1) (x := (zK a0_)) rfl (zdal_p dlA_Tokens_isWord_89 (i := 17) rfl) ?_
          refine zk_len (pc := 30) (i := a0_) ha0_ l_Tokens_76 (by decide) (Nat.le_of_ble_eq_true rfl) (zdal_p dlA_Tokens_isWord_89 (i := 18) rfl) ?_
          refine zr_icmp_ge (pc := 33) (tgt := 65) ⟨hu1_a, hu1_b⟩ ⟨(by (exact zo_526)), (by (exact zo_2236 hsl_.2))⟩ (by decide) (zdal_p dlA_Tokens_isWord_89 (i := 19) rfl) (fun hc_33 => ?_) (fun hc_33 => ?_)
          · skip
            have hall_ : zkey b_ n_ (ze Mz 1 2).toNat = zkw a0_ := (zkey_w ha0_ hk1_).mpr ⟨hln_, fun j hj => (by assumption : ∀ j : Nat, (j : Int) < u1_ → b_ ((ze Mz 1 2).toNat + j) = zsb a0_ j) j (by (exact zo_2240 hc_33 hj))⟩
            refine zw_iconst (pc := 65) (v := Int32.ofInt 1) (by decide) (zdal_p dlA_Tokens_isWord_90 (i := 11) rfl) ?_
            exact zk_iret (pc := 66) (ty := .boolean) rfl (z_narB (by (decide))) ⟨by (decide), by (decide)⟩ hf (show ((1 = 1 ∧ zkd b_ n_ (ze Mz 1 2).toNat = 1 ∧ zkey b_ n_ (ze Mz 1 2).toNat = zkw a0_) ∨ (1 = 0 ∧ ¬ (zkd b_ n_ (ze Mz 1 2).toNat = 1 ∧ zkey b_ n_ (ze Mz 1 2).toNat = zkw a0_))) from Or.inl (⟨(show 1 = 1 by first | rfl | exact hk1_ | exact hall_), (show zkd b_ n_ (ze Mz 1 2).toNat = 1 by first | rfl | exact hk1_ | exact hall_), (show zkey b_ n_ (ze Mz 1 2).toNat = zkw a0_ by first | rfl | exact hk1_ | exact hall_)⟩)) (zdal_p dlA_Tokens_isWord_90 (i := 12) rfl)
          · skip
            refine zw_aload_n (pc := 36) (n := 0) (x := 1) rfl (zdal_p dlA_Tokens_isWord_89 (i := 20) rfl) ?_
            refine zw_getF (pc := 37) f_Tokens_14 rfl ((hf.w hW).ka (o := 1) (by decide)) ((hf.w hW).la (o := 1) (s := 0) (r := 2) (by decide)) (zdal_p dlA_Tokens_isWord_89 (i := 21) rfl) ?_
            refine zw_aload_n (pc := 40) (n := 0) (x := 1) rfl (zdal_p dlA_Tokens_isWord_89 (i := 22) rfl) ?_
            refine zk_getI (pc := 41) f_Tokens_38 rfl ((hf.w hW).ka (o := 1) (by decide)) (zdal_p dlA_Tokens_isWord_89 (i := 23) rfl) ?_
            refine zw_iload_n (pc := 44) (n := 2) (x := Int32.ofInt u1_) rfl (zdal_p dlA_Tokens_isWord_90 (i := 0) rfl) ?_
            refine zr_iadd (pc := 45) (zdal_p dlA_Tokens_isWord_90 (i := 1) rfl) ?_
            refine zk_at hf.x (pc := 46) l_Tokens_47 ((hf.w hW).ka (o := 2) (by decide)) ((hf.w hW).la (o := 2) (s := 0) (r := 3) (by decide)) ((hf.w hW).ra (o := 3) (t := 1) (n := 700) (by decide)) (by decide) (by (exact zo_833 i2_ t1_.1)) (by (exact zo_2241 hc_33 hln_ hn7_ hu1_b hzz_.2.1 hzz_.2.2.1 r_A1_2.2 t1_.1)) (by decide) (Nat.le_of_ble_eq_true rfl) (zdal_p dlA_Tokens_isWord_90 (i := 2) rfl) (fun v5_ hv5_ hv5_a hv5_b => ?_)
            have hbv_ : v5_ = b_ ((ze Mz 1 2).toNat + (u1_).toNat) := (hv5_.trans (hb_ _ (by (exact zo_2242 hc_33 hln_ hu1_b hzz_.2.1 hzz_.2.2.1 i2_ r_A1_2.2 t1_.1)))).trans (by congr 1; (exact zo_2243 i2_ t1_.1))
            refine zw_aload_n (pc := 49) (n := 1) (x := (zK a0_)) rfl (zdal_p dlA_Tokens_isWord_90 (i := 3) rfl) ?_
            refine zw_iload_n (pc := 50) (n := 2) (x := Int32.ofInt u1_) rfl (zdal_p dlA_Tokens_isWord_90 (i := 4) rfl) ?_
            refine zk_chr (pc := 51) (i := a0_) ha0_ (by (exact i2_)) (by (exact hc_33)) l_Tokens_81 (by decide) (Nat.le_of_ble_eq_true rfl) (zdal_p dlA_Tokens_isWord_90 (i := 5) rfl) (fun v6_ hv6_ hv6_a hv6_b => ?_)
            have hcv_ := hv6_
            obtain ⟨k_, hk_⟩ : ∃ k : Nat, k = (u1_).toNat := ⟨_, rfl⟩
            rw [← hk_] at hbv_ hcv_
            refine zr_icmp_eq (pc := 54) (tgt := 59) ⟨hv5_a, hv5_b⟩ ⟨hv6_a, hv6_b⟩ (by decide) (zdal_p dlA_Tokens_isWord_90 (i := 6) rfl) (fun hc_54 => ?_) (fun hc_54 => ?_)
            · skip
              refine zr_iinc (pc := 59) (i := 2) (a := u1_) (n := 1) (L2 := [some (.ref 1), some (.ref (zK a0_)), some (.int (Int32.ofInt (u1_ + 1)))]) rfl (by decide) rfl (zdal_p dlA_Tokens_isWord_90 (i := 9) rfl) ?_
              refine zw_goto (pc := 62) (tgt := 28) (by decide) (zdal_p dlA_Tokens_isWord_90 (i := 10) rfl) ?_
              have hi2_ := (show ∀ j : Nat, (j : Int) < (u1_ + 1) - 1 → b_ ((ze Mz 1 2).toNat + j) = zsb a0_ j by intro j hj; exact (by assumption : ∀ j : Nat, _ → b_ ((ze Mz 1 2).toNat + j) = zsb a0_ j) j (by (exact zo_2244 hj)))
              exact ih_28 (u1_ + 1) (by (exact zo_74 i2_)) (by (exact zo_2245 hc_33 hsl_.2 hu1_b)) (show 0 ≤ (u1_ + 1) by first | with_reducible assumption | (exact zo_76 i2_) | assumption) (show (u1_ + 1) ≤ zsl a0_ by first | with_reducible assumption | assumption | omega) (show ∀ j : Nat, (j : Int) < (u1_ + 1) → b_ ((ze Mz 1 2).toNat + j) = zsb a0_ j by intro j hj; by_cases g_ : j = k_; rw [g_, ← hbv_, ← hcv_]; (exact hc_54); exact hi2_ j (by (exact zo_2246 hj hk_ i2_ g_))) (by (exact zo_2247 hc_33 hlt_28 hsl_.2 hu1_b i2_))
            · skip
              have hno_ : ¬ zkey b_ n_ (ze Mz 1 2).toNat = zkw a0_ := fun q_ => by have q2_ := ((zkey_w ha0_ hk1_).mp q_).2 k_ (by (exact zo_2248 hc_33 hk_ hu1_b i2_)); rw [← hbv_, ← hcv_] at q2_; (exact zo_2249 q2_ hc_54)
              refine zw_iconst (pc := 57) (v := Int32.ofInt 0) (by decide) (zdal_p dlA_Tokens_isWord_90 (i := 7) rfl) ?_
              exact zk_iret (pc := 58) (ty := .boolean) rfl (z_narB (by (decide))) ⟨by (decide), by (decide)⟩ hf (show ((0 = 1 ∧ zkd b_ n_ (ze Mz 1 2).toNat = 1 ∧ zkey b_ n_ (ze Mz 1 2).toNat = zkw a0_) ∨ (0 = 0 ∧ ¬ (zkd b_ n_ (ze Mz 1 2).toNat = 1 ∧ zkey b_ n_ (ze Mz 1 2).toNat = zkw a0_))) from Or.inr (⟨(show 0 = 0 by first | rfl | exact fun q_ => hno_ q_.2), (show ¬ (zkd b_ n_ (ze Mz 1 2).toNat = 1 ∧ zkey b_ n_ (ze Mz 1 2).toNat = zkw a0_) by first | rfl | exact fun q_ => hno_ q_.2)⟩)) (zdal_p dlA_Tokens_isWord_90 (i := 8) rfl)
      exact lp_28 _ 0 (by decide) (by decide) (show 0 ≤ (0 : Int) by first | with_reducible assumption | (decide) | assumption) (show (0 : Int) ≤ zsl a0_ by first | with_reducible assumption | (exact zo_85) | assumption) (show ∀ j : Nat, (j : Int) < (0 : Int) → b_ ((ze Mz 1 2).toNat + j) = zsb a0_ j by intro j hj; omega) (Nat.lt_succ_self _)
    · skip
      refine zw_iconst (pc := 24) (v := Int32.ofInt 0) (by decide) (zdal_p dlA_Tokens_isWord_89 (i := 12) rfl) ?_
      exact zk_iret (pc := 25) (ty := .boolean) rfl (z_narB (by (decide))) ⟨by (decide), by (decide)⟩ hf (show ((0 = 1 ∧ zkd b_ n_ (ze Mz 1 2).toNat = 1 ∧ zkey b_ n_ (ze Mz 1 2).toNat = zkw a0_) ∨ (0 = 0 ∧ ¬ (zkd b_ n_ (ze Mz 1 2).toNat = 1 ∧ zkey b_ n_ (ze Mz 1 2).toNat = zkw a0_))) from Or.inr (⟨(show 0 = 0 by first | rfl | (rintro ⟨q1_, q2_⟩; have q3_ := (zkey_w ha0_ q1_).mp q2_; have q4_ := zkd_1 q1_; omega)), (show ¬ (zkd b_ n_ (ze Mz 1 2).toNat = 1 ∧ zkey b_ n_ (ze Mz 1 2).toNat = zkw a0_) by first | rfl | (rintro ⟨q1_, q2_⟩; have q3_ := (zkey_w ha0_ q1_).mp q2_; have q4_ := zkd_1 q1_; (exact zo_2250 hsl_.2 q3_.1 q4_.2.1 r_A1_3.2 t1_.1 t2_ hc_21)))⟩)) (zdal_p dlA_Tokens_isWord_89 (i := 13) rfl)
set_option maxHeartbeats 4000000 in
theorem u_Tokens_isName (l : Launch) (d_ : Nat) (Mz : zMem) (hW : zKW d_ Mz) (b_ : Nat → Int) (n_ : Nat) (p0_ : zYb b_ n_ Mz) (p1_ : zYt b_ n_ Mz) : zC l m_Tokens_isName 0 0 [.ref 1] Mz (zqcI d_ [] [] [] [] Mz (fun v N => (((v = 1 ∧ zisn b_ n_ (ze Mz 1 2).toNat) ∨ (v = 0 ∧ ¬ zisn b_ n_ (ze Mz 1 2).toNat))))) := by
  refine zC_of (L0 := [some (.ref 1)]) md_Tokens_isName (Nat.le_of_ble_eq_true rfl) rfl ?_ zQ0
  have hf : zFc d_ [] [] [] [] Mz Mz := zFc.rf
  have r_A1_2 := ze_r Mz 1 2
  have r_A1_4 := ze_r Mz 1 4
  obtain ⟨t1_, t2_, t3_, t4_, t5_, t6_⟩ := id p1_
  refine zw_aload_n (pc := 0) (n := 0) (x := 1) rfl (zdal_p dlA_Tokens_isName_107 (i := 0) rfl) ?_
  refine zk_getI (pc := 1) f_Tokens_44 rfl ((hf.w hW).ka (o := 1) (by decide)) (zdal_p dlA_Tokens_isName_107 (i := 1) rfl) ?_
  refine zw_iconst (pc := 4) (v := Int32.ofInt 1) (by decide) (zdal_p dlA_Tokens_isName_107 (i := 2) rfl) ?_
  refine zr_icmp_ne (pc := 5) (tgt := 48) ⟨(ze_r Mz 1 4).1, (ze_r Mz 1 4).2⟩ ⟨(by decide), (by decide)⟩ (by decide) (zdal_p dlA_Tokens_isName_107 (i := 3) rfl) (fun hc_5 => ?_) (fun hc_5 => ?_)
  · skip
    refine zw_iconst (pc := 48) (v := Int32.ofInt 0) (by decide) d_Tokens_isName_48 ?_
    exact zk_iret (pc := 49) (ty := .boolean) rfl (z_narB (by (decide))) ⟨by (decide), by (decide)⟩ hf (show ((0 = 1 ∧ zisn b_ n_ (ze Mz 1 2).toNat) ∨ (0 = 0 ∧ ¬ zisn b_ n_ (ze Mz 1 2).toNat)) from Or.inr (⟨(show 0 = 0 by first | rfl | (rintro ⟨q0_, q1_, q2_, q3_, q4_⟩; first | omega | contradiction)), (show ¬ zisn b_ n_ (ze Mz 1 2).toNat by first | rfl | (rintro ⟨q0_, q1_, q2_, q3_, q4_⟩; first | (exact zo_267 q0_ r_A1_4.1 r_A1_4.2 t3_ hc_5) | contradiction))⟩)) d_Tokens_isName_49
  · skip
    refine zw_aload_n (pc := 8) (n := 0) (x := 1) rfl (zdal_p dlA_Tokens_isName_107 (i := 4) rfl) ?_
    refine zw_ldcs (pc := 9) (i := 0) (List.mem_of_getElem? (i := 3) rfl) (zdal_p dlA_Tokens_isName_107 (i := 5) rfl) ?_
    refine zk_callV hf.x (pc := 11) [.ref (zK 0)] [] l_Tokens_87 (u_Tokens_isWord l d_ Mz (hf.w hW) 0 (by decide) b_ n_ p0_ p1_) rfl rfl ((hf.w hW).ka (o := 1) (by decide)) (by decide) (by decide) (Nat.le_of_ble_eq_true rfl) (zdal_p dlA_Tokens_isName_107 (i := 6) rfl) ?_
    rintro _ N1_ ⟨v2_, rfl, ⟨hv2_a, hv2_b⟩, hsN1_, hp0_N1_⟩
    obtain rfl := hsN1_.eq.symm
    replace hp0_N1_ : ((v2_ = 1 ∧ zkd b_ n_ (ze Mz 1 2).toNat = 1 ∧ zkey b_ n_ (ze Mz 1 2).toNat = zkw 0) ∨ (v2_ = 0 ∧ ¬ (zkd b_ n_ (ze Mz 1 2).toNat = 1 ∧ zkey b_ n_ (ze Mz 1 2).toNat = zkw 0))) := hp0_N1_
    rcases hp0_N1_ with ⟨rfl, ha11_0_hp0_N1_, ha11_1_hp0_N1_⟩ | ⟨rfl, ha11_0_hp0_N1_⟩
    · skip
      show zW l m_Tokens_isName (zn Mz + 0, zw Mz + 0) Mz 14 [some (.ref 1)] [.int (Int32.ofInt 1)] _
      refine zr_if_ne (pc := 14) (tgt := 48) ⟨(by decide), (by decide)⟩ (by decide) (zdal_p dlA_Tokens_isName_107 (i := 7) rfl) (fun hc_14 => ?_) (fun hc_14 => ?_)
      · skip
        refine zw_iconst (pc := 48) (v := Int32.ofInt 0) (by decide) d_Tokens_isName_48 ?_
        exact zk_iret (pc := 49) (ty := .boolean) rfl (z_narB (by (decide))) ⟨by (decide), by (decide)⟩ hf (show ((0 = 1 ∧ zisn b_ n_ (ze Mz 1 2).toNat) ∨ (0 = 0 ∧ ¬ zisn b_ n_ (ze Mz 1 2).toNat)) from Or.inr (⟨(show 0 = 0 by first | rfl | (rintro ⟨q0_, q1_, q2_, q3_, q4_⟩; first | omega | contradiction)), (show ¬ zisn b_ n_ (ze Mz 1 2).toNat by first | rfl | (rintro ⟨q0_, q1_, q2_, q3_, q4_⟩; first | (exact zo_2249 ha11_1_hp0_N1_ q1_) | contradiction))⟩)) d_Tokens_isName_49
      · skip
        exact absurd hc_14 (by decide)
    · skip
      have hw0_ := ha11_0_hp0_N1_
      show zW l m_Tokens_isName (zn Mz + 0, zw Mz + 0) Mz 14 [some (.ref 1)] [.int (Int32.ofInt 0)] _
      refine zr_if_ne (pc := 14) (tgt := 48) ⟨(by decide), (by decide)⟩ (by decide) (zdal_p dlA_Tokens_isName_107 (i := 7) rfl) (fun hc_14 => ?_) (fun hc_14 => ?_)
      · skip
        exact absurd hc_14 (by decide)
      · skip
        refine zw_aload_n (pc := 17) (n := 0) (x := 1) rfl (zdal_p dlA_Tokens_isName_107 (i := 8) rfl) ?_
        refine zw_ldcs (pc := 18) (i := 1) (List.mem_of_getElem? (i := 4) rfl) (zdal_p dlA_Tokens_isName_107 (i := 9) rfl) ?_
        refine zk_callV hf.x (pc := 20) [.ref (zK 1)] [] l_Tokens_87 (u_Tokens_isWord l d_ Mz (hf.w hW) 1 (by decide) b_ n_ p0_ p1_) rfl rfl ((hf.w hW).ka (o := 1) (by decide)) (by decide) (by decide) (Nat.le_of_ble_eq_true rfl) (zdal_p dlA_Tokens_isName_107 (i := 10) rfl) ?_
        rintro _ N3_ ⟨v4_, rfl, ⟨hv4_a, hv4_b⟩, hsN3_, hp0_N3_⟩
        obtain rfl := hsN3_.eq.symm
        replace hp0_N3_ : ((v4_ = 1 ∧ zkd b_ n_ (ze Mz 1 2).toNat = 1 ∧ zkey b_ n_ (ze Mz 1 2).toNat = zkw 1) ∨ (v4_ = 0 ∧ ¬ (zkd b_ n_ (ze Mz 1 2).toNat = 1 ∧ zkey b_ n_ (ze Mz 1 2).toNat = zkw 1))) := hp0_N3_
        rcases hp0_N3_ with ⟨rfl, ha20_0_hp0_N3_, ha20_1_hp0_N3_⟩ | ⟨rfl, ha20_0_hp0_N3_⟩
        · skip
          show zW l m_Tokens_isName (zn Mz + 0, zw Mz + 0) Mz 23 [some (.ref 1)] [.int (Int32.ofInt 1)] _
          refine zr_if_ne (pc := 23) (tgt := 48) ⟨(by decide), (by decide)⟩ (by decide) (zdal_p dlA_Tokens_isName_107 (i := 11) rfl) (fun hc_23 => ?_) (fun hc_23 => ?_)
          · skip
            refine zw_iconst (pc := 48) (v := Int32.ofInt 0) (by decide) d_Tokens_isName_48 ?_
            exact zk_iret (pc := 49) (ty := .boolean) rfl (z_narB (by (decide))) ⟨by (exact hv2_a), by (exact hv2_b)⟩ hf (show ((0 = 1 ∧ zisn b_ n_ (ze Mz 1 2).toNat) ∨ (0 = 0 ∧ ¬ zisn b_ n_ (ze Mz 1 2).toNat)) from Or.inr (⟨(show 0 = 0 by first | rfl | (rintro ⟨q0_, q1_, q2_, q3_, q4_⟩; first | omega | contradiction)), (show ¬ zisn b_ n_ (ze Mz 1 2).toNat by first | rfl | (rintro ⟨q0_, q1_, q2_, q3_, q4_⟩; first | (exact zo_2249 ha20_1_hp0_N3_ q2_) | contradiction))⟩)) d_Tokens_isName_49
          · skip
            exact absurd hc_23 (by decide)
        · skip
          have hw1_ := ha20_0_hp0_N3_
          show zW l m_Tokens_isName (zn Mz + 0, zw Mz + 0) Mz 23 [some (.ref 1)] [.int (Int32.ofInt 0)] _
          refine zr_if_ne (pc := 23) (tgt := 48) ⟨(by decide), (by decide)⟩ (by decide) (zdal_p dlA_Tokens_isName_107 (i := 11) rfl) (fun hc_23 => ?_) (fun hc_23 => ?_)
          · skip
            exact absurd hc_23 (by decide)
          · skip
            refine zw_aload_n (pc := 26) (n := 0) (x := 1) rfl (zdal_p dlA_Tokens_isName_107 (i := 12) rfl) ?_
            refine zw_ldcs (pc := 27) (i := 2) (List.mem_of_getElem? (i := 5) rfl) (zdal_p dlA_Tokens_isName_107 (i := 13) rfl) ?_
            refine zk_callV hf.x (pc := 29) [.ref (zK 2)] [] l_Tokens_87 (u_Tokens_isWord l d_ Mz (hf.w hW) 2 (by decide) b_ n_ p0_ p1_) rfl rfl ((hf.w hW).ka (o := 1) (by decide)) (by decide) (by decide) (Nat.le_of_ble_eq_true rfl) (zdal_p dlA_Tokens_isName_107 (i := 14) rfl) ?_
            rintro _ N5_ ⟨v6_, rfl, ⟨hv6_a, hv6_b⟩, hsN5_, hp0_N5_⟩
            obtain rfl := hsN5_.eq.symm
            replace hp0_N5_ : ((v6_ = 1 ∧ zkd b_ n_ (ze Mz 1 2).toNat = 1 ∧ zkey b_ n_ (ze Mz 1 2).toNat = zkw 2) ∨ (v6_ = 0 ∧ ¬ (zkd b_ n_ (ze Mz 1 2).toNat = 1 ∧ zkey b_ n_ (ze Mz 1 2).toNat = zkw 2))) := hp0_N5_
            rcases hp0_N5_ with ⟨rfl, ha29_0_hp0_N5_, ha29_1_hp0_N5_⟩ | ⟨rfl, ha29_0_hp0_N5_⟩
            · skip
              show zW l m_Tokens_isName (zn Mz + 0, zw Mz + 0) Mz 32 [some (.ref 1)] [.int (Int32.ofInt 1)] _
              refine zr_if_ne (pc := 32) (tgt := 48) ⟨(by decide), (by decide)⟩ (by decide) (zdal_p dlA_Tokens_isName_107 (i := 15) rfl) (fun hc_32 => ?_) (fun hc_32 => ?_)
              · skip
                refine zw_iconst (pc := 48) (v := Int32.ofInt 0) (by decide) d_Tokens_isName_48 ?_
                exact zk_iret (pc := 49) (ty := .boolean) rfl (z_narB (by (decide))) ⟨by (exact hv2_a), by (exact hv2_b)⟩ hf (show ((0 = 1 ∧ zisn b_ n_ (ze Mz 1 2).toNat) ∨ (0 = 0 ∧ ¬ zisn b_ n_ (ze Mz 1 2).toNat)) from Or.inr (⟨(show 0 = 0 by first | rfl | (rintro ⟨q0_, q1_, q2_, q3_, q4_⟩; first | omega | contradiction)), (show ¬ zisn b_ n_ (ze Mz 1 2).toNat by first | rfl | (rintro ⟨q0_, q1_, q2_, q3_, q4_⟩; first | (exact zo_2249 ha29_1_hp0_N5_ q3_) | contradiction))⟩)) d_Tokens_isName_49
              · skip
                exact absurd hc_32 (by decide)
            · skip
              have hw2_ := ha29_0_hp0_N5_
              show zW l m_Tokens_isName (zn Mz + 0, zw Mz + 0) Mz 32 [some (.ref 1)] [.int (Int32.ofInt 0)] _
              refine zr_if_ne (pc := 32) (tgt := 48) ⟨(by decide), (by decide)⟩ (by decide) (zdal_p dlA_Tokens_isName_107 (i := 15) rfl) (fun hc_32 => ?_) (fun hc_32 => ?_)
              · skip
                exact absurd hc_32 (by decide)
              · skip
                refine zw_aload_n (pc := 35) (n := 0) (x := 1) rfl (zdal_p dlA_Tokens_isName_107 (i := 16) rfl) ?_
                refine zw_ldcs (pc := 36) (i := 3) (List.mem_of_getElem? (i := 6) rfl) (zdal_p dlA_Tokens_isName_107 (i := 17) rfl) ?_
                refine zk_callV hf.x (pc := 38) [.ref (zK 3)] [] l_Tokens_87 (u_Tokens_isWord l d_ Mz (hf.w hW) 3 (by decide) b_ n_ p0_ p1_) rfl rfl ((hf.w hW).ka (o := 1) (by decide)) (by decide) (by decide) (Nat.le_of_ble_eq_true rfl) (zdal_p dlA_Tokens_isName_107 (i := 18) rfl) ?_
                rintro _ N7_ ⟨v8_, rfl, ⟨hv8_a, hv8_b⟩, hsN7_, hp0_N7_⟩
                obtain rfl := hsN7_.eq.symm
                replace hp0_N7_ : ((v8_ = 1 ∧ zkd b_ n_ (ze Mz 1 2).toNat = 1 ∧ zkey b_ n_ (ze Mz 1 2).toNat = zkw 3) ∨ (v8_ = 0 ∧ ¬ (zkd b_ n_ (ze Mz 1 2).toNat = 1 ∧ zkey b_ n_ (ze Mz 1 2).toNat = zkw 3))) := hp0_N7_
                rcases hp0_N7_ with ⟨rfl, ha38_0_hp0_N7_, ha38_1_hp0_N7_⟩ | ⟨rfl, ha38_0_hp0_N7_⟩
                · skip
                  show zW l m_Tokens_isName (zn Mz + 0, zw Mz + 0) Mz 41 [some (.ref 1)] [.int (Int32.ofInt 1)] _
                  refine zr_if_ne (pc := 41) (tgt := 48) ⟨(by decide), (by decide)⟩ (by decide) (zdal_p dlA_Tokens_isName_107 (i := 19) rfl) (fun hc_41 => ?_) (fun hc_41 => ?_)
                  · skip
                    refine zw_iconst (pc := 48) (v := Int32.ofInt 0) (by decide) d_Tokens_isName_48 ?_
                    exact zk_iret (pc := 49) (ty := .boolean) rfl (z_narB (by (decide))) ⟨by (exact hv2_a), by (exact hv2_b)⟩ hf (show ((0 = 1 ∧ zisn b_ n_ (ze Mz 1 2).toNat) ∨ (0 = 0 ∧ ¬ zisn b_ n_ (ze Mz 1 2).toNat)) from Or.inr (⟨(show 0 = 0 by first | rfl | (rintro ⟨q0_, q1_, q2_, q3_, q4_⟩; first | omega | contradiction)), (show ¬ zisn b_ n_ (ze Mz 1 2).toNat by first | rfl | (rintro ⟨q0_, q1_, q2_, q3_, q4_⟩; first | (exact zo_2249 ha38_1_hp0_N7_ q4_) | contradiction))⟩)) d_Tokens_isName_49
                  · skip
                    exact absurd hc_41 (by decide)
                · skip
                  have hw3_ := ha38_0_hp0_N7_
                  show zW l m_Tokens_isName (zn Mz + 0, zw Mz + 0) Mz 41 [some (.ref 1)] [.int (Int32.ofInt 0)] _
                  refine zr_if_ne (pc := 41) (tgt := 48) ⟨(by decide), (by decide)⟩ (by decide) (zdal_p dlA_Tokens_isName_107 (i := 19) rfl) (fun hc_41 => ?_) (fun hc_41 => ?_)
                  · skip
                    exact absurd hc_41 (by decide)
                  · skip
                    refine zw_iconst (pc := 44) (v := Int32.ofInt 1) (by decide) (zdal_p dlA_Tokens_isName_107 (i := 20) rfl) ?_
                    refine zw_goto (pc := 45) (tgt := 49) (by decide) (zdal_p dlA_Tokens_isName_107 (i := 21) rfl) ?_
                    exact zk_iret (pc := 49) (ty := .boolean) rfl (z_narB (by (decide))) ⟨by (decide), by (decide)⟩ hf (show ((1 = 1 ∧ zisn b_ n_ (ze Mz 1 2).toNat) ∨ (1 = 0 ∧ ¬ zisn b_ n_ (ze Mz 1 2).toNat)) from Or.inl (⟨(show 1 = 1 by first | rfl | (have k_ : zkd b_ n_ (ze Mz 1 2).toNat = 1 := (by omega); exact ⟨k_, fun q_ => hw0_ ⟨k_, q_⟩, fun q_ => hw1_ ⟨k_, q_⟩, fun q_ => hw2_ ⟨k_, q_⟩, fun q_ => hw3_ ⟨k_, q_⟩⟩)), (show zisn b_ n_ (ze Mz 1 2).toNat by first | rfl | (have k_ : zkd b_ n_ (ze Mz 1 2).toNat = 1 := (by (exact zo_262 hc_5 t3_)); exact ⟨k_, fun q_ => hw0_ ⟨k_, q_⟩, fun q_ => hw1_ ⟨k_, q_⟩, fun q_ => hw2_ ⟨k_, q_⟩, fun q_ => hw3_ ⟨k_, q_⟩⟩))⟩)) d_Tokens_isName_49
set_option maxHeartbeats 4000000 in
theorem u_Reader_refuseAt (l : Launch) (d_ : Nat) (Mz : zMem) (hW : zKW d_ Mz) (a0_ : Int) (ha0_a : -2147483648 ≤ a0_) (ha0_b : a0_ < 2147483648) (a1_ : Int) (ha1_a : -2147483648 ≤ a1_) (ha1_b : a1_ < 2147483648) : zC l m_Reader_refuseAt 0 0 [.ref 4, .int (Int32.ofInt a0_), .int (Int32.ofInt a1_)] Mz (zqcI d_ [(4, 2), (4, 3)] [] [] [] Mz (fun v N => ((v = 0)))) := by
  refine zC_of (L0 := [some (.ref 4), some (.int (Int32.ofInt a0_)), some (.int (Int32.ofInt a1_))]) md_Reader_refuseAt (Nat.le_of_ble_eq_true rfl) rfl ?_ zQ0
  have hf : zFc d_ [(4, 2), (4, 3)] [] [] [] Mz Mz := zFc.rf
  have r_A4_2 := ze_r Mz 4 2
  have r_A4_3 := ze_r Mz 4 3
  refine zw_aload_n (pc := 0) (n := 0) (x := 4) rfl (zdal_p dlA_Reader_refuseAt_92 (i := 0) rfl) ?_
  refine zw_iload_n (pc := 1) (n := 1) (x := Int32.ofInt a0_) rfl (zdal_p dlA_Reader_refuseAt_92 (i := 1) rfl) ?_
  refine zk_putA (pc := 2) (hf.w hW) (by decide) f_Reader_19 rfl rfl ((hf.w hW).ka (o := 4) (by decide)) ⟨by (exact ha0_a), by (exact ha0_b)⟩ rfl rfl (zdal_p dlA_Reader_refuseAt_92 (i := 2) rfl) (fun N1_ hsN1_ hvN1_ => ?_)
  have hf_N1_ : zFc d_ [(4, 2), (4, 3)] [] [] [] Mz N1_ := hf.tr hsN1_ (by decide) (by decide) (by decide) (by decide)
  have rA4_2_N1_ := ze_r N1_ 4 2
  have eA4_3_N1_ : ze N1_ 4 3 = ze Mz 4 3 := hsN1_.ea (hf.w hW) (by decide)
  refine zw_aload_n (pc := 5) (n := 0) (x := 4) rfl (zdal_p dlA_Reader_refuseAt_92 (i := 3) rfl) ?_
  refine zw_iload_n (pc := 6) (n := 2) (x := Int32.ofInt a1_) rfl (zdal_p dlA_Reader_refuseAt_92 (i := 4) rfl) ?_
  refine zk_putA (pc := 7) (hf_N1_.w hW) (by decide) f_Reader_9 rfl rfl ((hf_N1_.w hW).ka (o := 4) (by decide)) ⟨by (exact ha1_a), by (exact ha1_b)⟩ rfl rfl (zdal_p dlA_Reader_refuseAt_92 (i := 5) rfl) (fun N2_ hsN2_ hvN2_ => ?_)
  have hf_N2_ : zFc d_ [(4, 2), (4, 3)] [] [] [] Mz N2_ := hf_N1_.tr hsN2_ (by decide) (by decide) (by decide) (by decide)
  have eA4_2_N2_ : ze N2_ 4 2 = ze N1_ 4 2 := hsN2_.ea (hf_N1_.w hW) (by decide)
  have rA4_3_N2_ := ze_r N2_ 4 3
  refine zw_iconst (pc := 10) (v := Int32.ofInt 0) (by decide) (zdal_p dlA_Reader_refuseAt_92 (i := 6) rfl) ?_
  exact zk_iret (pc := 11) (ty := .boolean) rfl (z_narB (by (decide))) ⟨by (decide), by (decide)⟩ hf_N2_ (show ((0 = 0)) from (show 0 = 0 by first | with_reducible assumption | (decide) | assumption)) (zdal_p dlA_Reader_refuseAt_92 (i := 7) rfl)
set_option maxHeartbeats 4000000 in
theorem u_Reader_refuse (l : Launch) (d_ : Nat) (Mz : zMem) (hW : zKW d_ Mz) (a0_ : Int) (ha0_a : -2147483648 ≤ a0_) (ha0_b : a0_ < 2147483648) : zC l m_Reader_refuse 0 0 [.ref 4, .int (Int32.ofInt a0_)] Mz (zqcI d_ [(4, 2), (4, 3)] [] [] [] Mz (fun v N => ((v = 0)))) := by
  refine zC_of (L0 := [some (.ref 4), some (.int (Int32.ofInt a0_))]) md_Reader_refuse (Nat.le_of_ble_eq_true rfl) rfl ?_ zQ0
  have hf : zFc d_ [(4, 2), (4, 3)] [] [] [] Mz Mz := zFc.rf
  have r_A1_2 := ze_r Mz 1 2
  have r_A1_4 := ze_r Mz 1 4
  refine zw_aload_n (pc := 0) (n := 0) (x := 4) rfl (zdal_p dlA_Reader_refuse_91 (i := 0) rfl) ?_
  refine zw_aload_n (pc := 1) (n := 0) (x := 4) rfl (zdal_p dlA_Reader_refuse_91 (i := 1) rfl) ?_
  refine zw_getF (pc := 2) f_Reader_15 rfl ((hf.w hW).ka (o := 4) (by decide)) ((hf.w hW).la (o := 4) (s := 0) (r := 1) (by decide)) (zdal_p dlA_Reader_refuse_91 (i := 2) rfl) ?_
  refine zk_getI (pc := 5) f_Reader_27 rfl ((hf.w hW).ka (o := 1) (by decide)) (zdal_p dlA_Reader_refuse_91 (i := 3) rfl) ?_
  refine zw_iconst (pc := 8) (v := Int32.ofInt 4) (by decide) (zdal_p dlA_Reader_refuse_91 (i := 4) rfl) ?_
  refine zr_icmp_ne (pc := 9) (tgt := 16) ⟨(ze_r Mz 1 4).1, (ze_r Mz 1 4).2⟩ ⟨(by decide), (by decide)⟩ (by decide) (zdal_p dlA_Reader_refuse_91 (i := 5) rfl) (fun hc_9 => ?_) (fun hc_9 => ?_)
  · skip
    refine zw_iload_n (pc := 16) (n := 1) (x := Int32.ofInt a0_) rfl (zdal_p dlA_Reader_refuse_91 (i := 8) rfl) ?_
    refine zw_aload_n (pc := 17) (n := 0) (x := 4) rfl (zdal_p dlA_Reader_refuse_91 (i := 9) rfl) ?_
    refine zw_getF (pc := 18) f_Reader_15 rfl ((hf.w hW).ka (o := 4) (by decide)) ((hf.w hW).la (o := 4) (s := 0) (r := 1) (by decide)) (zdal_p dlA_Reader_refuse_91 (i := 10) rfl) ?_
    refine zk_getI (pc := 21) f_Reader_30 rfl ((hf.w hW).ka (o := 1) (by decide)) (zdal_p dlA_Reader_refuse_91 (i := 11) rfl) ?_
    refine zk_callV hf.x (pc := 24) [.int (Int32.ofInt a0_), .int (Int32.ofInt (ze Mz 1 2))] [] l_Reader_33 (u_Reader_refuseAt l d_ Mz (hf.w hW) a0_ ha0_a ha0_b (ze Mz 1 2) (ze_r Mz 1 2).1 (ze_r Mz 1 2).2) rfl rfl ((hf.w hW).ka (o := 4) (by decide)) (by decide) (by decide) (Nat.le_of_ble_eq_true rfl) (zdal_p dlA_Reader_refuse_91 (i := 12) rfl) ?_
    rintro _ N1_ ⟨v2_, rfl, ⟨hv2_a, hv2_b⟩, hsN1_, hp0_N1_⟩
    replace hp0_N1_ : ((v2_ = 0)) := hp0_N1_
    have hf_N1_ : zFc d_ [(4, 2), (4, 3)] [] [] [] Mz N1_ := hf.tr hsN1_ (by decide) (by decide) (by decide) (by decide)
    have eA1_2_N1_ : ze N1_ 1 2 = ze Mz 1 2 := hsN1_.ea (hf.w hW) (by decide)
    have eA1_4_N1_ : ze N1_ 1 4 = ze Mz 1 4 := hsN1_.ea (hf.w hW) (by decide)
    rcases hp0_N1_ with rfl
    · skip
      show zW l m_Reader_refuse (zn Mz + 0, zw Mz + 0) N1_ 27 [some (.ref 4), some (.int (Int32.ofInt a0_))] [.int (Int32.ofInt 0)] _
      exact zk_iret (pc := 27) (ty := .boolean) rfl (z_narB (by (decide))) ⟨by (exact hv2_a), by (exact hv2_b)⟩ hf_N1_ (show ((0 = 0)) from (show 0 = 0 by first | with_reducible assumption | (decide) | assumption)) (zdal_p dlA_Reader_refuse_91 (i := 13) rfl)
  · skip
    refine zw_iconst (pc := 12) (v := Int32.ofInt 1) (by decide) (zdal_p dlA_Reader_refuse_91 (i := 6) rfl) ?_
    refine zw_goto (pc := 13) (tgt := 17) (by decide) (zdal_p dlA_Reader_refuse_91 (i := 7) rfl) ?_
    refine zw_aload_n (pc := 17) (n := 0) (x := 4) rfl (zdal_p dlA_Reader_refuse_91 (i := 9) rfl) ?_
    refine zw_getF (pc := 18) f_Reader_15 rfl ((hf.w hW).ka (o := 4) (by decide)) ((hf.w hW).la (o := 4) (s := 0) (r := 1) (by decide)) (zdal_p dlA_Reader_refuse_91 (i := 10) rfl) ?_
    refine zk_getI (pc := 21) f_Reader_30 rfl ((hf.w hW).ka (o := 1) (by decide)) (zdal_p dlA_Reader_refuse_91 (i := 11) rfl) ?_
    refine zk_callV hf.x (pc := 24) [.int (Int32.ofInt 1), .int (Int32.ofInt (ze Mz 1 2))] [] l_Reader_33 (u_Reader_refuseAt l d_ Mz (hf.w hW) 1 (by decide) (by decide) (ze Mz 1 2) (ze_r Mz 1 2).1 (ze_r Mz 1 2).2) rfl rfl ((hf.w hW).ka (o := 4) (by decide)) (by decide) (by decide) (Nat.le_of_ble_eq_true rfl) (zdal_p dlA_Reader_refuse_91 (i := 12) rfl) ?_
    rintro _ N3_ ⟨v4_, rfl, ⟨hv4_a, hv4_b⟩, hsN3_, hp0_N3_⟩
    replace hp0_N3_ : ((v4_ = 0)) := hp0_N3_
    have hf_N3_ : zFc d_ [(4, 2), (4, 3)] [] [] [] Mz N3_ := hf.tr hsN3_ (by decide) (by decide) (by decide) (by decide)
    have eA1_2_N3_ : ze N3_ 1 2 = ze Mz 1 2 := hsN3_.ea (hf.w hW) (by decide)
    have eA1_4_N3_ : ze N3_ 1 4 = ze Mz 1 4 := hsN3_.ea (hf.w hW) (by decide)
    rcases hp0_N3_ with rfl
    · skip
      show zW l m_Reader_refuse (zn Mz + 0, zw Mz + 0) N3_ 27 [some (.ref 4), some (.int (Int32.ofInt a0_))] [.int (Int32.ofInt 0)] _
      exact zk_iret (pc := 27) (ty := .boolean) rfl (z_narB (by (decide))) ⟨by (exact hv4_a), by (exact hv4_b)⟩ hf_N3_ (show ((0 = 0)) from (show 0 = 0 by first | with_reducible assumption | (decide) | assumption)) (zdal_p dlA_Reader_refuse_91 (i := 13) rfl)
set_option maxHeartbeats 4000000 in
theorem u_Reader_passSign (l : Launch) (d_ : Nat) (Mz : zMem) (hW : zKW d_ Mz) (a0_ : Int) (ha0_a : -2147483648 ≤ a0_) (ha0_b : a0_ < 2147483648) (b_ : Nat → Int) (n_ : Nat) (p0_ : zYb b_ n_ Mz) (p1_ : zYt b_ n_ Mz) : zC l m_Reader_passSign 0 0 [.ref 4, .int (Int32.ofInt a0_)] Mz (zqcI d_ [(1, 2), (1, 3), (1, 4), (1, 5), (4, 2), (4, 3)] [] [] [] Mz (fun v N => zYt b_ n_ N ∧ (((v = 1 ∧ zisg b_ n_ (ze Mz 1 2).toNat a0_ ∧ (ze N 1 2).toNat = znx b_ n_ (ze Mz 1 2).toNat) ∨ (v = 0 ∧ ¬ zisg b_ n_ (ze Mz 1 2).toNat a0_))))) := by
  refine zC_of (L0 := [some (.ref 4), some (.int (Int32.ofInt a0_))]) md_Reader_passSign (Nat.le_of_ble_eq_true rfl) rfl ?_ zQ0
  have hf : zFc d_ [(1, 2), (1, 3), (1, 4), (1, 5), (4, 2), (4, 3)] [] [] [] Mz Mz := zFc.rf
  have r_A1_2 := ze_r Mz 1 2
  have r_A1_3 := ze_r Mz 1 3
  refine zw_aload_n (pc := 0) (n := 0) (x := 4) rfl (zdal_p dlA_Reader_passSign_94 (i := 0) rfl) ?_
  refine zw_getF (pc := 1) f_Reader_15 rfl ((hf.w hW).ka (o := 4) (by decide)) ((hf.w hW).la (o := 4) (s := 0) (r := 1) (by decide)) (zdal_p dlA_Reader_passSign_94 (i := 1) rfl) ?_
  refine zw_iload_n (pc := 4) (n := 1) (x := Int32.ofInt a0_) rfl (zdal_p dlA_Reader_passSign_94 (i := 2) rfl) ?_
  refine zk_callV hf.x (pc := 5) [.int (Int32.ofInt a0_)] [] l_Reader_37 (u_Tokens_isSign l d_ Mz (hf.w hW) a0_ ha0_a ha0_b b_ n_ p1_) rfl rfl ((hf.w hW).ka (o := 1) (by decide)) (by decide) (by decide) (Nat.le_of_ble_eq_true rfl) (zdal_p dlA_Reader_passSign_94 (i := 3) rfl) ?_
  rintro _ N1_ ⟨v2_, rfl, ⟨hv2_a, hv2_b⟩, hsN1_, hp0_N1_⟩
  obtain rfl := hsN1_.eq.symm
  replace hp0_N1_ : ((v2_ = 1 ∧ zkd b_ n_ (ze Mz 1 2).toNat = 3 ∧ b_ (ze Mz 1 2).toNat = a0_) ∨ (v2_ = 0 ∧ ¬ (zkd b_ n_ (ze Mz 1 2).toNat = 3 ∧ b_ (ze Mz 1 2).toNat = a0_))) := hp0_N1_
  rcases hp0_N1_ with ⟨rfl, ha5_0_hp0_N1_, ha5_1_hp0_N1_⟩ | ⟨rfl, ha5_0_hp0_N1_⟩
  · skip
    have hsg_ : zisg b_ n_ (ze Mz 1 2).toNat a0_ := ⟨ha5_0_hp0_N1_, ha5_1_hp0_N1_⟩
    show zW l m_Reader_passSign (zn Mz + 0, zw Mz + 0) Mz 8 [some (.ref 4), some (.int (Int32.ofInt a0_))] [.int (Int32.ofInt 1)] _
    refine zr_if_ne (pc := 8) (tgt := 17) ⟨(by decide), (by decide)⟩ (by decide) (zdal_p dlA_Reader_passSign_94 (i := 4) rfl) (fun hc_8 => ?_) (fun hc_8 => ?_)
    · skip
      have hyt_ := p1_
      have hyx_ := hyt_.x
      refine zw_aload_n (pc := 17) (n := 0) (x := 4) rfl (zdal_p dlA_Reader_passSign_94 (i := 9) rfl) ?_
      refine zw_getF (pc := 18) f_Reader_15 rfl ((hf.w hW).ka (o := 4) (by decide)) ((hf.w hW).la (o := 4) (s := 0) (r := 1) (by decide)) (zdal_p dlA_Reader_passSign_94 (i := 10) rfl) ?_
      refine zk_callV hf.x (pc := 21) [] [] l_Reader_44 (u_Tokens_step l d_ Mz (hf.w hW) b_ n_ p0_ (show 0 ≤ ze Mz 1 3 by first | with_reducible assumption | (exact zo_57 hyx_.2.1) | assumption) (show ze Mz 1 3 ≤ n_ by first | with_reducible assumption | (exact zo_277 hyx_.2.2 r_A1_3.2) | assumption)) rfl rfl ((hf.w hW).ka (o := 1) (by decide)) (by decide) (by decide) (Nat.le_of_ble_eq_true rfl) (zdal_p dlA_Reader_passSign_94 (i := 11) rfl) ?_
      rintro _ N3_ ⟨rfl, hsN3_, ⟨hp0_N3_, hp1_N3_⟩⟩
      have hf_N3_ : zFc d_ [(1, 2), (1, 3), (1, 4), (1, 5), (4, 2), (4, 3)] [] [] [] Mz N3_ := hf.tr hsN3_ (by decide) (by decide) (by decide) (by decide)
      have rA1_2_N3_ := ze_r N3_ 1 2
      have rA1_3_N3_ := ze_r N3_ 1 3
      have c5_ : zYb b_ n_ N3_ := zYb.fr (hf.w hW) hsN3_ p0_ (by decide)
      show zW l m_Reader_passSign (zn Mz + 0, zw Mz + 0) N3_ 24 [some (.ref 4), some (.int (Int32.ofInt a0_))] [] _
      have hnn_ := hyt_.n hp0_N3_
      refine zw_iconst (pc := 24) (v := Int32.ofInt 1) (by decide) (zdal_p dlA_Reader_passSign_94 (i := 12) rfl) ?_
      exact zk_iret (pc := 25) (ty := .boolean) rfl (z_narB (by (decide))) ⟨by (exact hv2_a), by (exact hv2_b)⟩ hf_N3_ ⟨hp1_N3_, (show ((1 = 1 ∧ zisg b_ n_ (ze Mz 1 2).toNat a0_ ∧ (ze N3_ 1 2).toNat = znx b_ n_ (ze Mz 1 2).toNat) ∨ (1 = 0 ∧ ¬ zisg b_ n_ (ze Mz 1 2).toNat a0_)) from Or.inl (⟨(show 1 = 1 by first | rfl | exact hsg_ | exact hnn_.2), (show zisg b_ n_ (ze Mz 1 2).toNat a0_ by first | rfl | exact hsg_ | exact hnn_.2), (show (ze N3_ 1 2).toNat = znx b_ n_ (ze Mz 1 2).toNat by first | rfl | exact hsg_ | exact hnn_.2)⟩))⟩ (zdal_p dlA_Reader_passSign_94 (i := 13) rfl)
    · skip
      exact absurd hc_8 (by decide)
  · skip
    have hng_ := ha5_0_hp0_N1_
    show zW l m_Reader_passSign (zn Mz + 0, zw Mz + 0) Mz 8 [some (.ref 4), some (.int (Int32.ofInt a0_))] [.int (Int32.ofInt 0)] _
    refine zr_if_ne (pc := 8) (tgt := 17) ⟨(by decide), (by decide)⟩ (by decide) (zdal_p dlA_Reader_passSign_94 (i := 4) rfl) (fun hc_8 => ?_) (fun hc_8 => ?_)
    · skip
      exact absurd hc_8 (by decide)
    · skip
      refine zw_aload_n (pc := 11) (n := 0) (x := 4) rfl (zdal_p dlA_Reader_passSign_94 (i := 5) rfl) ?_
      refine zw_iconst (pc := 12) (v := Int32.ofInt 2) (by decide) (zdal_p dlA_Reader_passSign_94 (i := 6) rfl) ?_
      refine zk_callV hf.x (pc := 13) [.int (Int32.ofInt 2)] [] l_Reader_41 (u_Reader_refuse l d_ Mz (hf.w hW) 2 (by decide) (by decide)) rfl rfl ((hf.w hW).ka (o := 4) (by decide)) (by decide) (by decide) (Nat.le_of_ble_eq_true rfl) (zdal_p dlA_Reader_passSign_94 (i := 7) rfl) ?_
      rintro _ N6_ ⟨v7_, rfl, ⟨hv7_a, hv7_b⟩, hsN6_, hp0_N6_⟩
      replace hp0_N6_ : ((v7_ = 0)) := hp0_N6_
      have hf_N6_ : zFc d_ [(1, 2), (1, 3), (1, 4), (1, 5), (4, 2), (4, 3)] [] [] [] Mz N6_ := hf.tr hsN6_ (by decide) (by decide) (by decide) (by decide)
      have eA1_2_N6_ : ze N6_ 1 2 = ze Mz 1 2 := hsN6_.ea (hf.w hW) (by decide)
      have eA1_3_N6_ : ze N6_ 1 3 = ze Mz 1 3 := hsN6_.ea (hf.w hW) (by decide)
      have c8_ : zYb b_ n_ N6_ := zYb.fr (hf.w hW) hsN6_ p0_ (by decide)
      have c9_ : zYt b_ n_ N6_ := zYt.fr (hf.w hW) hsN6_ p1_ (by decide)
      rcases hp0_N6_ with rfl
      · skip
        show zW l m_Reader_passSign (zn Mz + 0, zw Mz + 0) N6_ 16 [some (.ref 4), some (.int (Int32.ofInt a0_))] [.int (Int32.ofInt 0)] _
        exact zk_iret (pc := 16) (ty := .boolean) rfl (z_narB (by (decide))) ⟨by (exact hv2_a), by (exact hv2_b)⟩ hf_N6_ ⟨c9_, (show ((0 = 1 ∧ zisg b_ n_ (ze Mz 1 2).toNat a0_ ∧ (ze N6_ 1 2).toNat = znx b_ n_ (ze Mz 1 2).toNat) ∨ (0 = 0 ∧ ¬ zisg b_ n_ (ze Mz 1 2).toNat a0_)) from Or.inr (⟨(show 0 = 0 by first | rfl | exact hng_), (show ¬ zisg b_ n_ (ze Mz 1 2).toNat a0_ by first | rfl | exact hng_)⟩))⟩ (zdal_p dlA_Reader_passSign_94 (i := 8) rfl)
set_option maxHeartbeats 4000000 in
theorem u_Reader_countUnit (l : Launch) (d_ : Nat) (Mz : zMem) (hW : zKW d_ Mz) (F_ : Nat) (K_ : Nat → Nat → Int) (hA_ : zTA F_ K_) (p0_ : zCI F_ K_ d_ 0 Mz) (p1_ : 0 ≤ ze Mz 4 1) (p2_ : ze Mz 4 1 ≤ 30) : zC l m_Reader_countUnit 0 0 [.ref 4, .ref (d_ + 33)] Mz (zqcI d_ [(4, 1), (4, 2), (4, 3)] [] [] [] Mz (fun v N => (((v = 1 ∧ zuo (zkS d_ Mz) (ze Mz 4 1).toNat ∧ ze N 4 1 = ze Mz 4 1 + 1 ∧ ze Mz 4 1 ≤ 29) ∨ (v = 0 ∧ ¬ zuo (zkS d_ Mz) (ze Mz 4 1).toNat))))) := by
  refine zC_of (L0 := [some (.ref 4), some (.ref (d_ + 33))]) md_Reader_countUnit (Nat.le_of_ble_eq_true rfl) rfl ?_ zQ0
  have hf : zFc d_ [(4, 1), (4, 2), (4, 3)] [] [] [] Mz Mz := zFc.rf
  have r_A4_1 := ze_r Mz 4 1
  have r_D33_4 := ze_r Mz (d_ + 33) 4
  obtain ⟨q1_, q2_, q3_, q4_, q5_, q6_, q7_, q8_, q9_⟩ := id p0_
  refine zw_aload_n (pc := 0) (n := 0) (x := 4) rfl (zdal_p dlA_Reader_countUnit_116 (i := 0) rfl) ?_
  refine zk_getI (pc := 1) f_Reader_126 rfl ((hf.w hW).ka (o := 4) (by decide)) (zdal_p dlA_Reader_countUnit_116 (i := 1) rfl) ?_
  refine zw_bipush (pc := 4) (v := Int32.ofInt 30) (by decide) (zdal_p dlA_Reader_countUnit_116 (i := 2) rfl) ?_
  refine zr_icmp_ge (pc := 6) (tgt := 18) ⟨(ze_r Mz 4 1).1, (ze_r Mz 4 1).2⟩ ⟨(by decide), (by decide)⟩ (by decide) (zdal_p dlA_Reader_countUnit_116 (i := 3) rfl) (fun hc_6 => ?_) (fun hc_6 => ?_)
  · skip
    refine zw_aload_n (pc := 18) (n := 0) (x := 4) rfl (zdal_p dlA_Reader_countUnit_116 (i := 8) rfl) ?_
    refine zw_iconst (pc := 19) (v := Int32.ofInt 5) (by decide) (zdal_p dlA_Reader_countUnit_116 (i := 9) rfl) ?_
    refine zk_callV hf.x (pc := 20) [.int (Int32.ofInt 5)] [] l_Reader_41 (u_Reader_refuse l d_ Mz (hf.w hW) 5 (by decide) (by decide)) rfl rfl ((hf.w hW).ka (o := 4) (by decide)) (by decide) (by decide) (Nat.le_of_ble_eq_true rfl) (zdal_p dlA_Reader_countUnit_116 (i := 10) rfl) ?_
    rintro _ N1_ ⟨v2_, rfl, ⟨hv2_a, hv2_b⟩, hsN1_, hp0_N1_⟩
    replace hp0_N1_ : ((v2_ = 0)) := hp0_N1_
    have hf_N1_ : zFc d_ [(4, 1), (4, 2), (4, 3)] [] [] [] Mz N1_ := hf.tr hsN1_ (by decide) (by decide) (by decide) (by decide)
    have eA4_1_N1_ : ze N1_ 4 1 = ze Mz 4 1 := hsN1_.ea (hf.w hW) (by decide)
    have eD33_4_N1_ : ze N1_ (d_ + 33) 4 = ze Mz (d_ + 33) 4 := hsN1_.e (by decide)
    have c3_ : zCI F_ K_ d_ 0 N1_ := zCI.fr (hf.w hW) hsN1_ p0_ (by decide)
    rcases hp0_N1_ with rfl
    · skip
      show zW l m_Reader_countUnit (zn Mz + 0, zw Mz + 0) N1_ 23 [some (.ref 4), some (.ref (d_ + 33))] [.int (Int32.ofInt 0)] _
      exact zk_iret (pc := 23) (ty := .boolean) rfl (z_narB (by (decide))) ⟨by (exact hv2_a), by (exact hv2_b)⟩ hf_N1_ (show ((0 = 1 ∧ zuo (zkS d_ Mz) (ze Mz 4 1).toNat ∧ ze N1_ 4 1 = ze Mz 4 1 + 1 ∧ ze Mz 4 1 ≤ 29) ∨ (0 = 0 ∧ ¬ zuo (zkS d_ Mz) (ze Mz 4 1).toNat)) from Or.inr (⟨(show 0 = 0 by first | rfl | (rintro ⟨h1_, h2_⟩; omega)), (show ¬ zuo (zkS d_ Mz) (ze Mz 4 1).toNat by first | rfl | (rintro ⟨h1_, h2_⟩; (exact zo_2251 h1_ hc_6)))⟩)) (zdal_p dlA_Reader_countUnit_116 (i := 11) rfl)
  · skip
    refine zw_aload_n (pc := 9) (n := 1) (x := (d_ + 33)) rfl (zdal_p dlA_Reader_countUnit_116 (i := 4) rfl) ?_
    refine zk_getI (pc := 10) f_Reader_149 rfl ((hf.w hW).kr (o := 33) (by decide)) (zdal_p dlA_Reader_countUnit_116 (i := 5) rfl) ?_
    refine zw_bipush (pc := 13) (v := Int32.ofInt 6) (by decide) (zdal_p dlA_Reader_countUnit_116 (i := 6) rfl) ?_
    refine zr_icmp_le (pc := 15) (tgt := 24) ⟨(ze_r Mz (d_ + 33) 4).1, (ze_r Mz (d_ + 33) 4).2⟩ ⟨(by decide), (by decide)⟩ (by decide) (zdal_p dlA_Reader_countUnit_116 (i := 7) rfl) (fun hc_15 => ?_) (fun hc_15 => ?_)
    · skip
      refine zw_aload_n (pc := 24) (n := 0) (x := 4) rfl (zdal_p dlA_Reader_countUnit_116 (i := 12) rfl) ?_
      refine zw_dup (pc := 25) rfl (zdal_p dlA_Reader_countUnit_116 (i := 13) rfl) ?_
      refine zk_getI (pc := 26) f_Reader_126 rfl ((hf.w hW).ka (o := 4) (by decide)) (zdal_p dlA_Reader_countUnit_116 (i := 14) rfl) ?_
      refine zw_iconst (pc := 29) (v := Int32.ofInt 1) (by decide) (zdal_p dlA_Reader_countUnit_116 (i := 15) rfl) ?_
      refine zr_iadd (pc := 30) (zdal_p dlA_Reader_countUnit_116 (i := 16) rfl) ?_
      refine zk_putA (pc := 31) (hf.w hW) (by decide) f_Reader_126 rfl rfl ((hf.w hW).ka (o := 4) (by decide)) ⟨by (exact zo_74 p1_), by (exact zo_1055 p2_)⟩ rfl rfl (zdal_p dlA_Reader_countUnit_116 (i := 17) rfl) (fun N4_ hsN4_ hvN4_ => ?_)
      have hf_N4_ : zFc d_ [(4, 1), (4, 2), (4, 3)] [] [] [] Mz N4_ := hf.tr hsN4_ (by decide) (by decide) (by decide) (by decide)
      have rA4_1_N4_ := ze_r N4_ 4 1
      have eD33_4_N4_ : ze N4_ (d_ + 33) 4 = ze Mz (d_ + 33) 4 := hsN4_.e (by decide)
      have c5_ : zCI F_ K_ d_ 0 N4_ := zCI.fr (hf.w hW) hsN4_ p0_ (by decide)
      refine zw_iconst (pc := 34) (v := Int32.ofInt 1) (by decide) (zdal_p dlA_Reader_countUnit_116 (i := 18) rfl) ?_
      exact zk_iret (pc := 35) (ty := .boolean) rfl (z_narB (by (decide))) ⟨by (decide), by (decide)⟩ hf_N4_ (show ((1 = 1 ∧ zuo (zkS d_ Mz) (ze Mz 4 1).toNat ∧ ze N4_ 4 1 = ze Mz 4 1 + 1 ∧ ze Mz 4 1 ≤ 29) ∨ (1 = 0 ∧ ¬ zuo (zkS d_ Mz) (ze Mz 4 1).toNat)) from Or.inl (⟨(show 1 = 1 by first | rfl | exact ⟨by omega, by omega⟩ | omega), (show zuo (zkS d_ Mz) (ze Mz 4 1).toNat by first | rfl | exact ⟨by (exact zo_2252 hc_6 p1_), by (exact zo_2253 hc_15 q3_ q8_)⟩ | omega), (show ze N4_ 4 1 = ze Mz 4 1 + 1 by first | rfl | exact ⟨by omega, by omega⟩ | (exact hvN4_)), (show ze Mz 4 1 ≤ 29 by first | rfl | exact ⟨by omega, by omega⟩ | (exact zo_2254 hc_6 p2_))⟩)) (zdal_p dlA_Reader_countUnit_116 (i := 19) rfl)
    · skip
      refine zw_aload_n (pc := 18) (n := 0) (x := 4) rfl (zdal_p dlA_Reader_countUnit_116 (i := 8) rfl) ?_
      refine zw_iconst (pc := 19) (v := Int32.ofInt 5) (by decide) (zdal_p dlA_Reader_countUnit_116 (i := 9) rfl) ?_
      refine zk_callV hf.x (pc := 20) [.int (Int32.ofInt 5)] [] l_Reader_41 (u_Reader_refuse l d_ Mz (hf.w hW) 5 (by decide) (by decide)) rfl rfl ((hf.w hW).ka (o := 4) (by decide)) (by decide) (by decide) (Nat.le_of_ble_eq_true rfl) (zdal_p dlA_Reader_countUnit_116 (i := 10) rfl) ?_
      rintro _ N6_ ⟨v7_, rfl, ⟨hv7_a, hv7_b⟩, hsN6_, hp0_N6_⟩
      replace hp0_N6_ : ((v7_ = 0)) := hp0_N6_
      have hf_N6_ : zFc d_ [(4, 1), (4, 2), (4, 3)] [] [] [] Mz N6_ := hf.tr hsN6_ (by decide) (by decide) (by decide) (by decide)
      have eA4_1_N6_ : ze N6_ 4 1 = ze Mz 4 1 := hsN6_.ea (hf.w hW) (by decide)
      have eD33_4_N6_ : ze N6_ (d_ + 33) 4 = ze Mz (d_ + 33) 4 := hsN6_.e (by decide)
      have c8_ : zCI F_ K_ d_ 0 N6_ := zCI.fr (hf.w hW) hsN6_ p0_ (by decide)
      rcases hp0_N6_ with rfl
      · skip
        show zW l m_Reader_countUnit (zn Mz + 0, zw Mz + 0) N6_ 23 [some (.ref 4), some (.ref (d_ + 33))] [.int (Int32.ofInt 0)] _
        exact zk_iret (pc := 23) (ty := .boolean) rfl (z_narB (by (decide))) ⟨by (exact hv7_a), by (exact hv7_b)⟩ hf_N6_ (show ((0 = 1 ∧ zuo (zkS d_ Mz) (ze Mz 4 1).toNat ∧ ze N6_ 4 1 = ze Mz 4 1 + 1 ∧ ze Mz 4 1 ≤ 29) ∨ (0 = 0 ∧ ¬ zuo (zkS d_ Mz) (ze Mz 4 1).toNat)) from Or.inr (⟨(show 0 = 0 by first | rfl | (rintro ⟨h1_, h2_⟩; omega)), (show ¬ zuo (zkS d_ Mz) (ze Mz 4 1).toNat by first | rfl | (rintro ⟨h1_, h2_⟩; (exact zo_2255 h2_ hc_15 q3_)))⟩)) (zdal_p dlA_Reader_countUnit_116 (i := 11) rfl)
set_option maxHeartbeats 4000000 in
theorem u_Reader_readAhead (l : Launch) (d_ : Nat) (Mz : zMem) (hW : zKW d_ Mz) (b_ : Nat → Int) (n_ : Nat) (F_ : Nat) (K_ : Nat → Nat → Int) (hA_ : zTA F_ K_) (nm_ : List (Int × (Nat → Int))) (p0_ : zYb b_ n_ Mz) (p1_ : zYt b_ n_ Mz) (p2_ : zCI F_ K_ d_ 0 Mz) (p3_ : 0 ≤ ze Mz 4 1) (p4_ : ze Mz 4 1 ≤ 30) : zC l m_Reader_readAhead 0 0 [.ref 4, .ref (d_ + 33)] Mz (zqcI d_ [(1, 2), (1, 3), (1, 4), (1, 5), (4, 1), (4, 2), (4, 3)] [] [(33, 2), (33, 4), (33, 5)] [35] Mz (fun v N => zYt b_ n_ N ∧ (((v = 1 ∧ zRea (zfs b_ n_ F_ K_ nm_) (zKst 0 F_ d_ Mz) (zKst 0 F_ d_ N) ∧ zCI F_ K_ d_ 0 N ∧ ¬ (zisg b_ n_ (ze N 1 2).toNat 45 ∨ zisg b_ n_ (ze N 1 2).toNat 40) ∧ ze Mz 4 1 ≤ ze N 4 1 ∧ ze N 4 1 ≤ 30) ∨ (v = 0 ∧ zRea (zfs b_ n_ F_ K_ nm_) (zKst 0 F_ d_ Mz) zFt))))) := by
  refine zC_of (L0 := [some (.ref 4), some (.ref (d_ + 33)), none, none]) md_Reader_readAhead (Nat.le_of_ble_eq_true rfl) rfl ?_ zQ0
  have hf : zFc d_ [(1, 2), (1, 3), (1, 4), (1, 5), (4, 1), (4, 2), (4, 3)] [] [(33, 2), (33, 4), (33, 5)] [35] Mz Mz := zFc.rf
  have r_A1_2 := ze_r Mz 1 2
  have r_A1_3 := ze_r Mz 1 3
  have r_A4_1 := ze_r Mz 4 1
  have r_D33_2 := ze_r Mz (d_ + 33) 2
  have r_D33_3 := ze_r Mz (d_ + 33) 3
  have r_D33_4 := ze_r Mz (d_ + 33) 4
  have r_D33_5 := ze_r Mz (d_ + 33) 5
  have r_D33_6 := ze_r Mz (d_ + 33) 6
  refine zw_iconst (pc := 0) (v := Int32.ofInt 0) (by decide) (zdal_p dlA_Reader_readAhead_114 (i := 0) rfl) ?_
  refine zw_istore_n (pc := 1) (i := 2) (L2 := [some (.ref 4), some (.ref (d_ + 33)), some (.int (Int32.ofInt 0)), none]) rfl (by decide) rfl (zdal_p dlA_Reader_readAhead_114 (i := 1) rfl) ?_
  have lp_2 : ∀ (n : Nat) (u1_ : Int) (hu1_a : -2147483648 ≤ u1_) (hu1_b : u1_ < 2147483648) (N2_ : zMem) (hs3_ : zFc d_ [(1, 2), (1, 3), (1, 4), (1, 5), (4, 1), (4, 2), (4, 3)] [] [(33, 2), (33, 4), (33, 5)] [35] Mz N2_) (i4_ : 0 ≤ u1_) (i5_ : ze Mz 4 1 + u1_ ≤ ze N2_ 4 1) (i6_ : ze N2_ 4 1 ≤ 30) (i7_ : zRea (zfs b_ n_ F_ K_ nm_) (zKst 0 F_ d_ Mz) (zKst 0 F_ d_ N2_)) (i8_ : zYt b_ n_ N2_) (i9_ : zCI F_ K_ d_ 0 N2_), (31 - u1_).toNat < n → zW l m_Reader_readAhead (zn Mz + 0, zw Mz + 0) N2_ 2 [some (.ref 4), some (.ref (d_ + 33)), some (.int (Int32.ofInt u1_)), none] [] (zqcI d_ [(1, 2), (1, 3), (1, 4), (1, 5), (4, 1), (4, 2), (4, 3)] [] [(33, 2), (33, 4), (33, 5)] [35] Mz (fun v N => zYt b_ n_ N ∧ (((v = 1 ∧ zRea (zfs b_ n_ F_ K_ nm_) (zKst 0 F_ d_ Mz) (zKst 0 F_ d_ N) ∧ zCI F_ K_ d_ 0 N ∧ ¬ (zisg b_ n_ (ze N 1 2).toNat 45 ∨ zisg b_ n_ (ze N 1 2).toNat 40) ∧ ze Mz 4 1 ≤ ze N 4 1 ∧ ze N 4 1 ≤ 30) ∨ (v = 0 ∧ zRea (zfs b_ n_ F_ K_ nm_) (zKst 0 F_ d_ Mz) zFt))))) := by
    intro n
    induction n with
    | zero =>
      intro u1_ hu1_a hu1_b N2_ hs3_ i4_ i5_ i6_ i7_ i8_ i9_ h0
      exact absurd h0 (Nat.not_lt_zero _)
    | succ n ih_2 =>
      intro u1_ hu1_a hu1_b N2_ hs3_ i4_ i5_ i6_ i7_ i8_ i9_ hlt_2
      have hf_N2_ : zFc d_ [(1, 2), (1, 3), (1, 4), (1, 5), (4, 1), (4, 2), (4, 3)] [] [(33, 2), (33, 4), (33, 5)] [35] Mz N2_ := hf.tr hs3_ (by decide) (by decide) (by decide) (by decide)
      have rA1_2_N2_ := ze_r N2_ 1 2
      have rA1_3_N2_ := ze_r N2_ 1 3
      have rA4_1_N2_ := ze_r N2_ 4 1
      have rD33_2_N2_ := ze_r N2_ (d_ + 33) 2
      have eD33_3_N2_ : ze N2_ (d_ + 33) 3 = ze Mz (d_ + 33) 3 := hs3_.e (by decide)
      have rD33_4_N2_ := ze_r N2_ (d_ + 33) 4
      have rD33_5_N2_ := ze_r N2_ (d_ + 33) 5
      have eD33_6_N2_ : ze N2_ (d_ + 33) 6 = ze Mz (d_ + 33) 6 := hs3_.e (by decide)
      have qzkG_N2_ : zkG d_ N2_ = zkG d_ Mz := zkG_q hs3_ (by decide)
      have qzkW_N2_ : zkW F_ d_ N2_ = zkW F_ d_ Mz := zkW_q hs3_ (by decide)
      have c10_ : zYb b_ n_ N2_ := zYb.fr (hf.w hW) hs3_ p0_ (by decide)
      have hrea_ := (show zRea (zfs b_ n_ F_ K_ nm_) (zKst 0 F_ d_ Mz) (zKst 0 F_ d_ N2_) by first | with_reducible assumption | assumption)
      have hci_ := i9_
      have hb_ := hci_.b
      have hz0_ := zop0_le (zkS d_ N2_)
      refine zw_iload_n (pc := 2) (n := 2) (x := Int32.ofInt u1_) rfl (zdal_p dlA_Reader_readAhead_114 (i := 2) rfl) ?_
      refine zw_bipush (pc := 3) (v := Int32.ofInt 30) (by decide) (zdal_p dlA_Reader_readAhead_114 (i := 3) rfl) ?_
      refine zr_icmp_gt (pc := 5) (tgt := 64) ⟨hu1_a, hu1_b⟩ ⟨(by decide), (by decide)⟩ (by decide) (zdal_p dlA_Reader_readAhead_114 (i := 4) rfl) (fun hc_5 => ?_) (fun hc_5 => ?_)
      · skip
        refine zw_aload_n (pc := 64) (n := 0) (x := 4) rfl (zdal_p dlA_Reader_readAhead_115 (i := 9) rfl) ?_
        refine zw_iconst (pc := 65) (v := Int32.ofInt 5) (by decide) (zdal_p dlA_Reader_readAhead_115 (i := 10) rfl) ?_
        refine zk_callV hf_N2_.x (pc := 66) [.int (Int32.ofInt 5)] [] l_Reader_41 (u_Reader_refuse l d_ N2_ (hf_N2_.w hW) 5 (by decide) (by decide)) rfl rfl ((hf_N2_.w hW).ka (o := 4) (by decide)) (by decide) (by decide) (Nat.le_of_ble_eq_true rfl) (zdal_p dlA_Reader_readAhead_115 (i := 11) rfl) ?_
        rintro _ N11_ ⟨v12_, rfl, ⟨hv12_a, hv12_b⟩, hsN11_, hp0_N11_⟩
        replace hp0_N11_ : ((v12_ = 0)) := hp0_N11_
        have hf_N11_ : zFc d_ [(1, 2), (1, 3), (1, 4), (1, 5), (4, 1), (4, 2), (4, 3)] [] [(33, 2), (33, 4), (33, 5)] [35] Mz N11_ := hf_N2_.tr hsN11_ (by decide) (by decide) (by decide) (by decide)
        have eA1_2_N11_ : ze N11_ 1 2 = ze N2_ 1 2 := hsN11_.ea (hf_N2_.w hW) (by decide)
        have eA1_3_N11_ : ze N11_ 1 3 = ze N2_ 1 3 := hsN11_.ea (hf_N2_.w hW) (by decide)
        have eA4_1_N11_ : ze N11_ 4 1 = ze N2_ 4 1 := hsN11_.ea (hf_N2_.w hW) (by decide)
        have eD33_2_N11_ : ze N11_ (d_ + 33) 2 = ze N2_ (d_ + 33) 2 := hsN11_.e (by decide)
        have eD33_3_N11_ : ze N11_ (d_ + 33) 3 = ze N2_ (d_ + 33) 3 := hsN11_.e (by decide)
        have eD33_4_N11_ : ze N11_ (d_ + 33) 4 = ze N2_ (d_ + 33) 4 := hsN11_.e (by decide)
        have eD33_5_N11_ : ze N11_ (d_ + 33) 5 = ze N2_ (d_ + 33) 5 := hsN11_.e (by decide)
        have eD33_6_N11_ : ze N11_ (d_ + 33) 6 = ze N2_ (d_ + 33) 6 := hsN11_.e (by decide)
        have qzkS_N11_ : zkS d_ N11_ = zkS d_ N2_ := zkS_q hsN11_ (by decide)
        have qzkG_N11_ : zkG d_ N11_ = zkG d_ N2_ := zkG_q hsN11_ (by decide)
        have qzkW_N11_ : zkW F_ d_ N11_ = zkW F_ d_ N2_ := zkW_q hsN11_ (by decide)
        have c13_ : zYb b_ n_ N11_ := zYb.fr (hf_N2_.w hW) hsN11_ c10_ (by decide)
        have c14_ : zYt b_ n_ N11_ := zYt.fr (hf_N2_.w hW) hsN11_ i8_ (by decide)
        have c15_ : zCI F_ K_ d_ 0 N11_ := zCI.fr (hf_N2_.w hW) hsN11_ i9_ (by decide)
        rcases hp0_N11_ with rfl
        · skip
          show zW l m_Reader_readAhead (zn Mz + 0, zw Mz + 0) N11_ 69 [some (.ref 4), some (.ref (d_ + 33)), some (.int (Int32.ofInt u1_)), none] [.int (Int32.ofInt 0)] _
          exact zk_iret (pc := 69) (ty := .boolean) rfl (z_narB (by (decide))) ⟨by (exact hv12_a), by (exact hv12_b)⟩ hf_N11_ ⟨c14_, (show ((0 = 1 ∧ zRea (zfs b_ n_ F_ K_ nm_) (zKst 0 F_ d_ Mz) (zKst 0 F_ d_ N11_) ∧ zCI F_ K_ d_ 0 N11_ ∧ ¬ (zisg b_ n_ (ze N11_ 1 2).toNat 45 ∨ zisg b_ n_ (ze N11_ 1 2).toNat 40) ∧ ze Mz 4 1 ≤ ze N11_ 4 1 ∧ ze N11_ 4 1 ≤ 30) ∨ (0 = 0 ∧ zRea (zfs b_ n_ F_ K_ nm_) (zKst 0 F_ d_ Mz) zFt)) from Or.inr (⟨(show 0 = 0 by first | rfl | exact hrt_ | (exfalso; omega)), (show zRea (zfs b_ n_ F_ K_ nm_) (zKst 0 F_ d_ Mz) zFt by first | rfl | exact hrt_ | (exfalso; (exact zo_2256 hc_5 i5_ i6_ p3_)))⟩))⟩ (zdal_p dlA_Reader_readAhead_115 (i := 12) rfl)
      · skip
        refine zw_aload_n (pc := 8) (n := 0) (x := 4) rfl (zdal_p dlA_Reader_readAhead_114 (i := 5) rfl) ?_
        refine zw_getF (pc := 9) f_Reader_15 rfl ((hf_N2_.w hW).ka (o := 4) (by decide)) ((hf_N2_.w hW).la (o := 4) (s := 0) (r := 1) (by decide)) (zdal_p dlA_Reader_readAhead_114 (i := 6) rfl) ?_
        refine zw_bipush (pc := 12) (v := Int32.ofInt 40) (by decide) (zdal_p dlA_Reader_readAhead_114 (i := 7) rfl) ?_
        refine zk_callV hf_N2_.x (pc := 14) [.int (Int32.ofInt 40)] [] l_Reader_37 (u_Tokens_isSign l d_ N2_ (hf_N2_.w hW) 40 (by decide) (by decide) b_ n_ i8_) rfl rfl ((hf_N2_.w hW).ka (o := 1) (by decide)) (by decide) (by decide) (Nat.le_of_ble_eq_true rfl) (zdal_p dlA_Reader_readAhead_114 (i := 8) rfl) ?_
        rintro _ N16_ ⟨v17_, rfl, ⟨hv17_a, hv17_b⟩, hsN16_, hp0_N16_⟩
        obtain rfl := hsN16_.eq.symm
        replace hp0_N16_ : ((v17_ = 1 ∧ zkd b_ n_ (ze N2_ 1 2).toNat = 3 ∧ b_ (ze N2_ 1 2).toNat = 40) ∨ (v17_ = 0 ∧ ¬ (zkd b_ n_ (ze N2_ 1 2).toNat = 3 ∧ b_ (ze N2_ 1 2).toNat = 40))) := hp0_N16_
        rcases hp0_N16_ with ⟨rfl, ha14_0_hp0_N16_, ha14_1_hp0_N16_⟩ | ⟨rfl, ha14_0_hp0_N16_⟩
        · skip
          have hB_ : zisg b_ n_ (ze N2_ 1 2).toNat 40 := ⟨ha14_0_hp0_N16_, ha14_1_hp0_N16_⟩
          have hO_ : zisg b_ n_ (ze N2_ 1 2).toNat 45 ∨ zisg b_ n_ (ze N2_ 1 2).toNat 40 := Or.inr hB_
          have hcc_ : ((1 : Int) = 1 ∧ b_ (ze N2_ 1 2).toNat = 40) ∨ ((1 : Int) = 0 ∧ b_ (ze N2_ 1 2).toNat ≠ 40) := Or.inl ⟨rfl, hB_.2⟩
          show zW l m_Reader_readAhead (zn Mz + 0, zw Mz + 0) N2_ 17 [some (.ref 4), some (.ref (d_ + 33)), some (.int (Int32.ofInt u1_)), none] [.int (Int32.ofInt 1)] _
          refine zw_istore_n (pc := 17) (i := 3) (L2 := [some (.ref 4), some (.ref (d_ + 33)), some (.int (Int32.ofInt u1_)), some (.int (Int32.ofInt 1))]) rfl (by decide) rfl (zdal_p dlA_Reader_readAhead_114 (i := 9) rfl) ?_
          refine zw_iload_n (pc := 18) (n := 3) (x := Int32.ofInt 1) rfl (zdal_p dlA_Reader_readAhead_114 (i := 10) rfl) ?_
          refine zr_if_ne (pc := 19) (tgt := 36) ⟨(by decide), (by decide)⟩ (by decide) (zdal_p dlA_Reader_readAhead_114 (i := 11) rfl) (fun hc_19 => ?_) (fun hc_19 => ?_)
          · skip
            refine zw_aload_n (pc := 36) (n := 0) (x := 4) rfl (zdal_p dlA_Reader_readAhead_114 (i := 19) rfl) ?_
            refine zw_aload_n (pc := 37) (n := 1) (x := (d_ + 33)) rfl (zdal_p dlA_Reader_readAhead_114 (i := 20) rfl) ?_
            refine zk_callV hf_N2_.x (pc := 38) [.ref (d_ + 33)] [] l_Reader_152 (u_Reader_countUnit l d_ N2_ (hf_N2_.w hW) F_ K_ hA_ i9_ (show 0 ≤ ze N2_ 4 1 by first | with_reducible assumption | (exact zo_2257 i4_ i5_ p3_ rA4_1_N2_.1) | assumption) (show ze N2_ 4 1 ≤ 30 by first | with_reducible assumption | assumption | omega)) rfl rfl ((hf_N2_.w hW).ka (o := 4) (by decide)) (by decide) (by decide) (Nat.le_of_ble_eq_true rfl) (zdal_p dlA_Reader_readAhead_114 (i := 21) rfl) ?_
            rintro _ N18_ ⟨v19_, rfl, ⟨hv19_a, hv19_b⟩, hsN18_, hp0_N18_⟩
            replace hp0_N18_ : ((v19_ = 1 ∧ zuo (zkS d_ N2_) (ze N2_ 4 1).toNat ∧ ze N18_ 4 1 = ze N2_ 4 1 + 1 ∧ ze N2_ 4 1 ≤ 29) ∨ (v19_ = 0 ∧ ¬ zuo (zkS d_ N2_) (ze N2_ 4 1).toNat)) := hp0_N18_
            have hf_N18_ : zFc d_ [(1, 2), (1, 3), (1, 4), (1, 5), (4, 1), (4, 2), (4, 3)] [] [(33, 2), (33, 4), (33, 5)] [35] Mz N18_ := hf_N2_.tr hsN18_ (by decide) (by decide) (by decide) (by decide)
            have hb0_N18_ : zFc d_ [(1, 2), (1, 3), (1, 4), (1, 5), (4, 1), (4, 2), (4, 3)] [] [(33, 2), (33, 4), (33, 5)] [35] Mz N18_ := hs3_.tr hsN18_ (by decide) (by decide) (by decide) (by decide)
            have eA1_2_N18_ : ze N18_ 1 2 = ze N2_ 1 2 := hsN18_.ea (hf_N2_.w hW) (by decide)
            have eA1_3_N18_ : ze N18_ 1 3 = ze N2_ 1 3 := hsN18_.ea (hf_N2_.w hW) (by decide)
            have rA4_1_N18_ := ze_r N18_ 4 1
            have eD33_2_N18_ : ze N18_ (d_ + 33) 2 = ze N2_ (d_ + 33) 2 := hsN18_.e (by decide)
            have eD33_3_N18_ : ze N18_ (d_ + 33) 3 = ze N2_ (d_ + 33) 3 := hsN18_.e (by decide)
            have eD33_4_N18_ : ze N18_ (d_ + 33) 4 = ze N2_ (d_ + 33) 4 := hsN18_.e (by decide)
            have eD33_5_N18_ : ze N18_ (d_ + 33) 5 = ze N2_ (d_ + 33) 5 := hsN18_.e (by decide)
            have eD33_6_N18_ : ze N18_ (d_ + 33) 6 = ze N2_ (d_ + 33) 6 := hsN18_.e (by decide)
            have qzkS_N18_ : zkS d_ N18_ = zkS d_ N2_ := zkS_q hsN18_ (by decide)
            have qzkG_N18_ : zkG d_ N18_ = zkG d_ N2_ := zkG_q hsN18_ (by decide)
            have qzkW_N18_ : zkW F_ d_ N18_ = zkW F_ d_ N2_ := zkW_q hsN18_ (by decide)
            have c20_ : zYb b_ n_ N18_ := zYb.fr (hf_N2_.w hW) hsN18_ c10_ (by decide)
            have c21_ : zYt b_ n_ N18_ := zYt.fr (hf_N2_.w hW) hsN18_ i8_ (by decide)
            have c22_ : zCI F_ K_ d_ 0 N18_ := zCI.fr (hf_N2_.w hW) hsN18_ i9_ (by decide)
            rcases hp0_N18_ with ⟨rfl, ha38_0_hp0_N18_, ha38_1_hp0_N18_, ha38_2_hp0_N18_⟩ | ⟨rfl, ha38_0_hp0_N18_⟩
            · skip
              have hu0_ := ha38_0_hp0_N18_
              have hu1_ := ha38_1_hp0_N18_
              have hu2_ := ha38_2_hp0_N18_
              show zW l m_Reader_readAhead (zn Mz + 0, zw Mz + 0) N18_ 41 [some (.ref 4), some (.ref (d_ + 33)), some (.int (Int32.ofInt u1_)), some (.int (Int32.ofInt 1))] [.int (Int32.ofInt 1)] _
              refine zr_if_ne (pc := 41) (tgt := 46) ⟨(by decide), (by decide)⟩ (by decide) (zdal_p dlA_Reader_readAhead_114 (i := 22) rfl) (fun hc_41 => ?_) (fun hc_41 => ?_)
              · skip
                refine zw_aload_n (pc := 46) (n := 1) (x := (d_ + 33)) rfl (zdal_p dlA_Reader_readAhead_115 (i := 1) rfl) ?_
                refine zw_iload_n (pc := 47) (n := 3) (x := Int32.ofInt 1) rfl (zdal_p dlA_Reader_readAhead_115 (i := 2) rfl) ?_
                refine zk_callV hf_N18_.x (pc := 48) [.int (Int32.ofInt 1)] [] l_Reader_155 (u_Calc_open l d_ N18_ (hf_N18_.w hW) 1 (by decide) (by decide) (by (decide)) F_ K_ hA_ c22_ (show zdp (zkS d_ N18_) ≤ 6 by rw [qzkS_N18_]; have h_ := hu0_.2; (exact h_))) rfl rfl ((hf_N18_.w hW).kr (o := 33) (by decide)) (by decide) (by decide) (Nat.le_of_ble_eq_true rfl) (zdal_p dlA_Reader_readAhead_115 (i := 3) rfl) ?_
                rintro _ N23_ ⟨rfl, hsN23_, ⟨hp0_N23_, hp1_N23_, hp2_N23_, hp3_N23_⟩⟩
                have hf_N23_ : zFc d_ [(1, 2), (1, 3), (1, 4), (1, 5), (4, 1), (4, 2), (4, 3)] [] [(33, 2), (33, 4), (33, 5)] [35] Mz N23_ := hf_N18_.tr hsN23_ (by decide) (by decide) (by decide) (by decide)
                have hb0_N23_ : zFc d_ [(1, 2), (1, 3), (1, 4), (1, 5), (4, 1), (4, 2), (4, 3)] [] [(33, 2), (33, 4), (33, 5)] [35] Mz N23_ := hb0_N18_.tr hsN23_ (by decide) (by decide) (by decide) (by decide)
                have eA1_2_N23_ : ze N23_ 1 2 = ze N18_ 1 2 := hsN23_.ea (hf_N18_.w hW) (by decide)
                have eA1_3_N23_ : ze N23_ 1 3 = ze N18_ 1 3 := hsN23_.ea (hf_N18_.w hW) (by decide)
                have eA4_1_N23_ : ze N23_ 4 1 = ze N18_ 4 1 := hsN23_.ea (hf_N18_.w hW) (by decide)
                have rD33_2_N23_ := ze_r N23_ (d_ + 33) 2
                have eD33_3_N23_ : ze N23_ (d_ + 33) 3 = ze N18_ (d_ + 33) 3 := hsN23_.e (by decide)
                have rD33_4_N23_ := ze_r N23_ (d_ + 33) 4
                have rD33_5_N23_ := ze_r N23_ (d_ + 33) 5
                have eD33_6_N23_ : ze N23_ (d_ + 33) 6 = ze N18_ (d_ + 33) 6 := hsN23_.e (by decide)
                have qzkG_N23_ : zkG d_ N23_ = zkG d_ N18_ := zkG_q hsN23_ (by decide)
                have qzkW_N23_ : zkW F_ d_ N23_ = zkW F_ d_ N18_ := zkW_q hsN23_ (by decide)
                have c25_ : zYb b_ n_ N23_ := zYb.fr (hf_N18_.w hW) hsN23_ c20_ (by decide)
                have c26_ : zYt b_ n_ N23_ := zYt.fr (hf_N18_.w hW) hsN23_ c21_ (by decide)
                show zW l m_Reader_readAhead (zn Mz + 0, zw Mz + 0) N23_ 51 [some (.ref 4), some (.ref (d_ + 33)), some (.int (Int32.ofInt u1_)), some (.int (Int32.ofInt 1))] [] _
                have hp0_ := hp0_N23_
                have hp1_ := hp1_N23_
                have hp2_ := hp2_N23_
                have hp3_ := hp3_N23_
                have hyt_ := c26_
                have hyx_ := hyt_.x
                refine zw_aload_n (pc := 51) (n := 0) (x := 4) rfl (zdal_p dlA_Reader_readAhead_115 (i := 4) rfl) ?_
                refine zw_getF (pc := 52) f_Reader_15 rfl ((hf_N23_.w hW).ka (o := 4) (by decide)) ((hf_N23_.w hW).la (o := 4) (s := 0) (r := 1) (by decide)) (zdal_p dlA_Reader_readAhead_115 (i := 5) rfl) ?_
                refine zk_callV hf_N23_.x (pc := 55) [] [] l_Reader_44 (u_Tokens_step l d_ N23_ (hf_N23_.w hW) b_ n_ c25_ (show 0 ≤ ze N23_ 1 3 by first | with_reducible assumption | (exact zo_57 hyx_.2.1) | assumption) (show ze N23_ 1 3 ≤ n_ by first | with_reducible assumption | (exact zo_605 hyx_.2.2) | assumption)) rfl rfl ((hf_N23_.w hW).ka (o := 1) (by decide)) (by decide) (by decide) (Nat.le_of_ble_eq_true rfl) (zdal_p dlA_Reader_readAhead_115 (i := 6) rfl) ?_
                rintro _ N27_ ⟨rfl, hsN27_, ⟨hp0_N27_, hp1_N27_⟩⟩
                have hf_N27_ : zFc d_ [(1, 2), (1, 3), (1, 4), (1, 5), (4, 1), (4, 2), (4, 3)] [] [(33, 2), (33, 4), (33, 5)] [35] Mz N27_ := hf_N23_.tr hsN27_ (by decide) (by decide) (by decide) (by decide)
                have hb0_N27_ : zFc d_ [(1, 2), (1, 3), (1, 4), (1, 5), (4, 1), (4, 2), (4, 3)] [] [(33, 2), (33, 4), (33, 5)] [35] Mz N27_ := hb0_N23_.tr hsN27_ (by decide) (by decide) (by decide) (by decide)
                have rA1_2_N27_ := ze_r N27_ 1 2
                have rA1_3_N27_ := ze_r N27_ 1 3
                have eA4_1_N27_ : ze N27_ 4 1 = ze N23_ 4 1 := hsN27_.ea (hf_N23_.w hW) (by decide)
                have eD33_2_N27_ : ze N27_ (d_ + 33) 2 = ze N23_ (d_ + 33) 2 := hsN27_.e (by decide)
                have eD33_3_N27_ : ze N27_ (d_ + 33) 3 = ze N23_ (d_ + 33) 3 := hsN27_.e (by decide)
                have eD33_4_N27_ : ze N27_ (d_ + 33) 4 = ze N23_ (d_ + 33) 4 := hsN27_.e (by decide)
                have eD33_5_N27_ : ze N27_ (d_ + 33) 5 = ze N23_ (d_ + 33) 5 := hsN27_.e (by decide)
                have eD33_6_N27_ : ze N27_ (d_ + 33) 6 = ze N23_ (d_ + 33) 6 := hsN27_.e (by decide)
                have qzkS_N27_ : zkS d_ N27_ = zkS d_ N23_ := zkS_q hsN27_ (by decide)
                have qzkG_N27_ : zkG d_ N27_ = zkG d_ N23_ := zkG_q hsN27_ (by decide)
                have qzkW_N27_ : zkW F_ d_ N27_ = zkW F_ d_ N23_ := zkW_q hsN27_ (by decide)
                have c29_ : zYb b_ n_ N27_ := zYb.fr (hf_N23_.w hW) hsN27_ c25_ (by decide)
                have c30_ : zCI F_ K_ d_ 0 N27_ := zCI.fr (hf_N23_.w hW) hsN27_ hp0_N23_ (by decide)
                show zW l m_Reader_readAhead (zn Mz + 0, zw Mz + 0) N27_ 58 [some (.ref 4), some (.ref (d_ + 33)), some (.int (Int32.ofInt u1_)), some (.int (Int32.ofInt 1))] [] _
                have hnn_ := hyt_.n hp0_N27_
                have hst_ := hrea_.tr (zRea.st (zs0_o (Nz := N27_) (F := F_) (b := b_) (n := n_) (K := K_) (nm := nm_) hO_ hu0_ hcc_ (by rw [qzkS_N27_, hp1_, qzkS_N18_]) (by rw [qzkW_N27_, hp2_, qzkW_N18_]) (by rw [qzkG_N27_, hp3_, qzkG_N18_]) (by (exact zo_1037 eA4_1_N23_ eA4_1_N27_ ha38_1_hp0_N18_)) (by (exact zo_2257 i4_ i5_ p3_ rA4_1_N2_.1)) (hnn_.2.trans (by rw [show ze N23_ 1 2 = ze N2_ 1 2 by (exact zo_800 eA1_2_N18_ eA1_2_N23_ hyx_.1.1 rA1_2_N2_.2)]))))
                refine zr_iinc (pc := 58) (i := 2) (a := u1_) (n := 1) (L2 := [some (.ref 4), some (.ref (d_ + 33)), some (.int (Int32.ofInt (u1_ + 1))), some (.int (Int32.ofInt 1))]) rfl (by decide) rfl (zdal_p dlA_Reader_readAhead_115 (i := 7) rfl) ?_
                refine zw_goto (pc := 61) (tgt := 2) (by decide) (zdal_p dlA_Reader_readAhead_115 (i := 8) rfl) ?_
                refine zW_le [some (.ref 4), some (.ref (d_ + 33)), some (.int (Int32.ofInt (u1_ + 1))), none] (⟨rfl, rfl, rfl, trivial⟩) ?_
                exact ih_2 (u1_ + 1) (by (exact zo_74 i4_)) (by (exact zo_1055 hc_5)) N27_ hb0_N27_ (show 0 ≤ (u1_ + 1) by first | with_reducible assumption | (exact zo_76 i4_) | assumption) (show ze Mz 4 1 + (u1_ + 1) ≤ ze N27_ 4 1 by first | with_reducible assumption | (exact zo_2258 eA4_1_N23_ eA4_1_N27_ ha38_1_hp0_N18_ hc_5 i5_ p4_ rA4_1_N18_.1) | assumption) (show ze N27_ 4 1 ≤ 30 by first | with_reducible assumption | (exact zo_1040 eA4_1_N23_ eA4_1_N27_ ha38_1_hp0_N18_ ha38_2_hp0_N18_ rA4_1_N18_.2) | assumption) (show zRea (zfs b_ n_ F_ K_ nm_) (zKst 0 F_ d_ Mz) (zKst 0 F_ d_ N27_) by exact hst_) hp1_N27_ c30_ (by (exact zo_1069 hc_5 hlt_2 i4_))
              · skip
                exact absurd hc_41 (by decide)
            · skip
              have hu0_ := ha38_0_hp0_N18_
              have hrt_ := hrea_.tr (zRea.st (zs0_of (F := F_) (b := b_) (n := n_) (K := K_) (nm := nm_) hO_ hu0_))
              show zW l m_Reader_readAhead (zn Mz + 0, zw Mz + 0) N18_ 41 [some (.ref 4), some (.ref (d_ + 33)), some (.int (Int32.ofInt u1_)), some (.int (Int32.ofInt 1))] [.int (Int32.ofInt 0)] _
              refine zr_if_ne (pc := 41) (tgt := 46) ⟨(by decide), (by decide)⟩ (by decide) (zdal_p dlA_Reader_readAhead_114 (i := 22) rfl) (fun hc_41 => ?_) (fun hc_41 => ?_)
              · skip
                exact absurd hc_41 (by decide)
              · skip
                refine zw_iconst (pc := 44) (v := Int32.ofInt 0) (by decide) (zdal_p dlA_Reader_readAhead_114 (i := 23) rfl) ?_
                exact zk_iret (pc := 45) (ty := .boolean) rfl (z_narB (by (decide))) ⟨by (exact hv19_a), by (exact hv19_b)⟩ hf_N18_ ⟨c21_, (show ((0 = 1 ∧ zRea (zfs b_ n_ F_ K_ nm_) (zKst 0 F_ d_ Mz) (zKst 0 F_ d_ N18_) ∧ zCI F_ K_ d_ 0 N18_ ∧ ¬ (zisg b_ n_ (ze N18_ 1 2).toNat 45 ∨ zisg b_ n_ (ze N18_ 1 2).toNat 40) ∧ ze Mz 4 1 ≤ ze N18_ 4 1 ∧ ze N18_ 4 1 ≤ 30) ∨ (0 = 0 ∧ zRea (zfs b_ n_ F_ K_ nm_) (zKst 0 F_ d_ Mz) zFt)) from Or.inr (⟨(show 0 = 0 by first | rfl | exact hrt_ | (exfalso; omega)), (show zRea (zfs b_ n_ F_ K_ nm_) (zKst 0 F_ d_ Mz) zFt by first | rfl | exact hrt_ | (exfalso; omega))⟩))⟩ (zdal_p dlA_Reader_readAhead_115 (i := 0) rfl)
          · skip
            exact absurd hc_19 (by decide)
        · skip
          have hnB_ := ha14_0_hp0_N16_
          show zW l m_Reader_readAhead (zn Mz + 0, zw Mz + 0) N2_ 17 [some (.ref 4), some (.ref (d_ + 33)), some (.int (Int32.ofInt u1_)), none] [.int (Int32.ofInt 0)] _
          refine zw_istore_n (pc := 17) (i := 3) (L2 := [some (.ref 4), some (.ref (d_ + 33)), some (.int (Int32.ofInt u1_)), some (.int (Int32.ofInt 0))]) rfl (by decide) rfl (zdal_p dlA_Reader_readAhead_114 (i := 9) rfl) ?_
          refine zw_iload_n (pc := 18) (n := 3) (x := Int32.ofInt 0) rfl (zdal_p dlA_Reader_readAhead_114 (i := 10) rfl) ?_
          refine zr_if_ne (pc := 19) (tgt := 36) ⟨(by decide), (by decide)⟩ (by decide) (zdal_p dlA_Reader_readAhead_114 (i := 11) rfl) (fun hc_19 => ?_) (fun hc_19 => ?_)
          · skip
            exact absurd hc_19 (by decide)
          · skip
            refine zw_aload_n (pc := 22) (n := 0) (x := 4) rfl (zdal_p dlA_Reader_readAhead_114 (i := 12) rfl) ?_
            refine zw_getF (pc := 23) f_Reader_15 rfl ((hf_N2_.w hW).ka (o := 4) (by decide)) ((hf_N2_.w hW).la (o := 4) (s := 0) (r := 1) (by decide)) (zdal_p dlA_Reader_readAhead_114 (i := 13) rfl) ?_
            refine zw_bipush (pc := 26) (v := Int32.ofInt 45) (by decide) (zdal_p dlA_Reader_readAhead_114 (i := 14) rfl) ?_
            refine zk_callV hf_N2_.x (pc := 28) [.int (Int32.ofInt 45)] [] l_Reader_37 (u_Tokens_isSign l d_ N2_ (hf_N2_.w hW) 45 (by decide) (by decide) b_ n_ i8_) rfl rfl ((hf_N2_.w hW).ka (o := 1) (by decide)) (by decide) (by decide) (Nat.le_of_ble_eq_true rfl) (zdal_p dlA_Reader_readAhead_114 (i := 15) rfl) ?_
            rintro _ N31_ ⟨v32_, rfl, ⟨hv32_a, hv32_b⟩, hsN31_, hp0_N31_⟩
            obtain rfl := hsN31_.eq.symm
            replace hp0_N31_ : ((v32_ = 1 ∧ zkd b_ n_ (ze N2_ 1 2).toNat = 3 ∧ b_ (ze N2_ 1 2).toNat = 45) ∨ (v32_ = 0 ∧ ¬ (zkd b_ n_ (ze N2_ 1 2).toNat = 3 ∧ b_ (ze N2_ 1 2).toNat = 45))) := hp0_N31_
            rcases hp0_N31_ with ⟨rfl, ha28_0_hp0_N31_, ha28_1_hp0_N31_⟩ | ⟨rfl, ha28_0_hp0_N31_⟩
            · skip
              have hM_ : zisg b_ n_ (ze N2_ 1 2).toNat 45 := ⟨ha28_0_hp0_N31_, ha28_1_hp0_N31_⟩
              have hO_ : zisg b_ n_ (ze N2_ 1 2).toNat 45 ∨ zisg b_ n_ (ze N2_ 1 2).toNat 40 := Or.inl hM_
              have hcc_ : ((0 : Int) = 1 ∧ b_ (ze N2_ 1 2).toNat = 40) ∨ ((0 : Int) = 0 ∧ b_ (ze N2_ 1 2).toNat ≠ 40) := Or.inr ⟨rfl, fun q_ => by have := hM_.2; (exact zo_2259 ha28_1_hp0_N31_ q_)⟩
              show zW l m_Reader_readAhead (zn Mz + 0, zw Mz + 0) N2_ 31 [some (.ref 4), some (.ref (d_ + 33)), some (.int (Int32.ofInt u1_)), some (.int (Int32.ofInt 0))] [.int (Int32.ofInt 1)] _
              refine zr_if_ne (pc := 31) (tgt := 36) ⟨(by decide), (by decide)⟩ (by decide) (zdal_p dlA_Reader_readAhead_114 (i := 16) rfl) (fun hc_31 => ?_) (fun hc_31 => ?_)
              · skip
                refine zw_aload_n (pc := 36) (n := 0) (x := 4) rfl (zdal_p dlA_Reader_readAhead_114 (i := 19) rfl) ?_
                refine zw_aload_n (pc := 37) (n := 1) (x := (d_ + 33)) rfl (zdal_p dlA_Reader_readAhead_114 (i := 20) rfl) ?_
                refine zk_callV hf_N2_.x (pc := 38) [.ref (d_ + 33)] [] l_Reader_152 (u_Reader_countUnit l d_ N2_ (hf_N2_.w hW) F_ K_ hA_ i9_ (show 0 ≤ ze N2_ 4 1 by first | with_reducible assumption | (exact zo_2257 i4_ i5_ p3_ rA4_1_N2_.1) | assumption) (show ze N2_ 4 1 ≤ 30 by first | with_reducible assumption | assumption | omega)) rfl rfl ((hf_N2_.w hW).ka (o := 4) (by decide)) (by decide) (by decide) (Nat.le_of_ble_eq_true rfl) (zdal_p dlA_Reader_readAhead_114 (i := 21) rfl) ?_
                rintro _ N33_ ⟨v34_, rfl, ⟨hv34_a, hv34_b⟩, hsN33_, hp0_N33_⟩
                replace hp0_N33_ : ((v34_ = 1 ∧ zuo (zkS d_ N2_) (ze N2_ 4 1).toNat ∧ ze N33_ 4 1 = ze N2_ 4 1 + 1 ∧ ze N2_ 4 1 ≤ 29) ∨ (v34_ = 0 ∧ ¬ zuo (zkS d_ N2_) (ze N2_ 4 1).toNat)) := hp0_N33_
                have hf_N33_ : zFc d_ [(1, 2), (1, 3), (1, 4), (1, 5), (4, 1), (4, 2), (4, 3)] [] [(33, 2), (33, 4), (33, 5)] [35] Mz N33_ := hf_N2_.tr hsN33_ (by decide) (by decide) (by decide) (by decide)
                have hb0_N33_ : zFc d_ [(1, 2), (1, 3), (1, 4), (1, 5), (4, 1), (4, 2), (4, 3)] [] [(33, 2), (33, 4), (33, 5)] [35] Mz N33_ := hs3_.tr hsN33_ (by decide) (by decide) (by decide) (by decide)
                have eA1_2_N33_ : ze N33_ 1 2 = ze N2_ 1 2 := hsN33_.ea (hf_N2_.w hW) (by decide)
                have eA1_3_N33_ : ze N33_ 1 3 = ze N2_ 1 3 := hsN33_.ea (hf_N2_.w hW) (by decide)
                have rA4_1_N33_ := ze_r N33_ 4 1
                have eD33_2_N33_ : ze N33_ (d_ + 33) 2 = ze N2_ (d_ + 33) 2 := hsN33_.e (by decide)
                have eD33_3_N33_ : ze N33_ (d_ + 33) 3 = ze N2_ (d_ + 33) 3 := hsN33_.e (by decide)
                have eD33_4_N33_ : ze N33_ (d_ + 33) 4 = ze N2_ (d_ + 33) 4 := hsN33_.e (by decide)
                have eD33_5_N33_ : ze N33_ (d_ + 33) 5 = ze N2_ (d_ + 33) 5 := hsN33_.e (by decide)
                have eD33_6_N33_ : ze N33_ (d_ + 33) 6 = ze N2_ (d_ + 33) 6 := hsN33_.e (by decide)
                have qzkS_N33_ : zkS d_ N33_ = zkS d_ N2_ := zkS_q hsN33_ (by decide)
                have qzkG_N33_ : zkG d_ N33_ = zkG d_ N2_ := zkG_q hsN33_ (by decide)
                have qzkW_N33_ : zkW F_ d_ N33_ = zkW F_ d_ N2_ := zkW_q hsN33_ (by decide)
                have c35_ : zYb b_ n_ N33_ := zYb.fr (hf_N2_.w hW) hsN33_ c10_ (by decide)
                have c36_ : zYt b_ n_ N33_ := zYt.fr (hf_N2_.w hW) hsN33_ i8_ (by decide)
                have c37_ : zCI F_ K_ d_ 0 N33_ := zCI.fr (hf_N2_.w hW) hsN33_ i9_ (by decide)
                rcases hp0_N33_ with ⟨rfl, ha38_0_hp0_N33_, ha38_1_hp0_N33_, ha38_2_hp0_N33_⟩ | ⟨rfl, ha38_0_hp0_N33_⟩
                · skip
                  have hu0_ := ha38_0_hp0_N33_
                  have hu1_ := ha38_1_hp0_N33_
                  have hu2_ := ha38_2_hp0_N33_
                  show zW l m_Reader_readAhead (zn Mz + 0, zw Mz + 0) N33_ 41 [some (.ref 4), some (.ref (d_ + 33)), some (.int (Int32.ofInt u1_)), some (.int (Int32.ofInt 0))] [.int (Int32.ofInt 1)] _
                  refine zr_if_ne (pc := 41) (tgt := 46) ⟨(by decide), (by decide)⟩ (by decide) (zdal_p dlA_Reader_readAhead_114 (i := 22) rfl) (fun hc_41 => ?_) (fun hc_41 => ?_)
                  · skip
                    refine zw_aload_n (pc := 46) (n := 1) (x := (d_ + 33)) rfl (zdal_p dlA_Reader_readAhead_115 (i := 1) rfl) ?_
                    refine zw_iload_n (pc := 47) (n := 3) (x := Int32.ofInt 0) rfl (zdal_p dlA_Reader_readAhead_115 (i := 2) rfl) ?_
                    refine zk_callV hf_N33_.x (pc := 48) [.int (Int32.ofInt 0)] [] l_Reader_155 (u_Calc_open l d_ N33_ (hf_N33_.w hW) 0 (by decide) (by decide) (by (decide)) F_ K_ hA_ c37_ (show zdp (zkS d_ N33_) ≤ 6 by rw [qzkS_N33_]; have h_ := hu0_.2; (exact h_))) rfl rfl ((hf_N33_.w hW).kr (o := 33) (by decide)) (by decide) (by decide) (Nat.le_of_ble_eq_true rfl) (zdal_p dlA_Reader_readAhead_115 (i := 3) rfl) ?_
                    rintro _ N38_ ⟨rfl, hsN38_, ⟨hp0_N38_, hp1_N38_, hp2_N38_, hp3_N38_⟩⟩
                    have hf_N38_ : zFc d_ [(1, 2), (1, 3), (1, 4), (1, 5), (4, 1), (4, 2), (4, 3)] [] [(33, 2), (33, 4), (33, 5)] [35] Mz N38_ := hf_N33_.tr hsN38_ (by decide) (by decide) (by decide) (by decide)
                    have hb0_N38_ : zFc d_ [(1, 2), (1, 3), (1, 4), (1, 5), (4, 1), (4, 2), (4, 3)] [] [(33, 2), (33, 4), (33, 5)] [35] Mz N38_ := hb0_N33_.tr hsN38_ (by decide) (by decide) (by decide) (by decide)
                    have eA1_2_N38_ : ze N38_ 1 2 = ze N33_ 1 2 := hsN38_.ea (hf_N33_.w hW) (by decide)
                    have eA1_3_N38_ : ze N38_ 1 3 = ze N33_ 1 3 := hsN38_.ea (hf_N33_.w hW) (by decide)
                    have eA4_1_N38_ : ze N38_ 4 1 = ze N33_ 4 1 := hsN38_.ea (hf_N33_.w hW) (by decide)
                    have rD33_2_N38_ := ze_r N38_ (d_ + 33) 2
                    have eD33_3_N38_ : ze N38_ (d_ + 33) 3 = ze N33_ (d_ + 33) 3 := hsN38_.e (by decide)
                    have rD33_4_N38_ := ze_r N38_ (d_ + 33) 4
                    have rD33_5_N38_ := ze_r N38_ (d_ + 33) 5
                    have eD33_6_N38_ : ze N38_ (d_ + 33) 6 = ze N33_ (d_ + 33) 6 := hsN38_.e (by decide)
                    have qzkG_N38_ : zkG d_ N38_ = zkG d_ N33_ := zkG_q hsN38_ (by decide)
                    have qzkW_N38_ : zkW F_ d_ N38_ = zkW F_ d_ N33_ := zkW_q hsN38_ (by decide)
                    have c40_ : zYb b_ n_ N38_ := zYb.fr (hf_N33_.w hW) hsN38_ c35_ (by decide)
                    have c41_ : zYt b_ n_ N38_ := zYt.fr (hf_N33_.w hW) hsN38_ c36_ (by decide)
                    show zW l m_Reader_readAhead (zn Mz + 0, zw Mz + 0) N38_ 51 [some (.ref 4), some (.ref (d_ + 33)), some (.int (Int32.ofInt u1_)), some (.int (Int32.ofInt 0))] [] _
                    have hp0_ := hp0_N38_
                    have hp1_ := hp1_N38_
                    have hp2_ := hp2_N38_
                    have hp3_ := hp3_N38_
                    have hyt_ := c41_
                    have hyx_ := hyt_.x
                    refine zw_aload_n (pc := 51) (n := 0) (x := 4) rfl (zdal_p dlA_Reader_readAhead_115 (i := 4) rfl) ?_
                    refine zw_getF (pc := 52) f_Reader_15 rfl ((hf_N38_.w hW).ka (o := 4) (by decide)) ((hf_N38_.w hW).la (o := 4) (s := 0) (r := 1) (by decide)) (zdal_p dlA_Reader_readAhead_115 (i := 5) rfl) ?_
                    refine zk_callV hf_N38_.x (pc := 55) [] [] l_Reader_44 (u_Tokens_step l d_ N38_ (hf_N38_.w hW) b_ n_ c40_ (show 0 ≤ ze N38_ 1 3 by first | with_reducible assumption | (exact zo_57 hyx_.2.1) | assumption) (show ze N38_ 1 3 ≤ n_ by first | with_reducible assumption | (exact zo_605 hyx_.2.2) | assumption)) rfl rfl ((hf_N38_.w hW).ka (o := 1) (by decide)) (by decide) (by decide) (Nat.le_of_ble_eq_true rfl) (zdal_p dlA_Reader_readAhead_115 (i := 6) rfl) ?_
                    rintro _ N42_ ⟨rfl, hsN42_, ⟨hp0_N42_, hp1_N42_⟩⟩
                    have hf_N42_ : zFc d_ [(1, 2), (1, 3), (1, 4), (1, 5), (4, 1), (4, 2), (4, 3)] [] [(33, 2), (33, 4), (33, 5)] [35] Mz N42_ := hf_N38_.tr hsN42_ (by decide) (by decide) (by decide) (by decide)
                    have hb0_N42_ : zFc d_ [(1, 2), (1, 3), (1, 4), (1, 5), (4, 1), (4, 2), (4, 3)] [] [(33, 2), (33, 4), (33, 5)] [35] Mz N42_ := hb0_N38_.tr hsN42_ (by decide) (by decide) (by decide) (by decide)
                    have rA1_2_N42_ := ze_r N42_ 1 2
                    have rA1_3_N42_ := ze_r N42_ 1 3
                    have eA4_1_N42_ : ze N42_ 4 1 = ze N38_ 4 1 := hsN42_.ea (hf_N38_.w hW) (by decide)
                    have eD33_2_N42_ : ze N42_ (d_ + 33) 2 = ze N38_ (d_ + 33) 2 := hsN42_.e (by decide)
                    have eD33_3_N42_ : ze N42_ (d_ + 33) 3 = ze N38_ (d_ + 33) 3 := hsN42_.e (by decide)
                    have eD33_4_N42_ : ze N42_ (d_ + 33) 4 = ze N38_ (d_ + 33) 4 := hsN42_.e (by decide)
                    have eD33_5_N42_ : ze N42_ (d_ + 33) 5 = ze N38_ (d_ + 33) 5 := hsN42_.e (by decide)
                    have eD33_6_N42_ : ze N42_ (d_ + 33) 6 = ze N38_ (d_ + 33) 6 := hsN42_.e (by decide)
                    have qzkS_N42_ : zkS d_ N42_ = zkS d_ N38_ := zkS_q hsN42_ (by decide)
                    have qzkG_N42_ : zkG d_ N42_ = zkG d_ N38_ := zkG_q hsN42_ (by decide)
                    have qzkW_N42_ : zkW F_ d_ N42_ = zkW F_ d_ N38_ := zkW_q hsN42_ (by decide)
                    have c44_ : zYb b_ n_ N42_ := zYb.fr (hf_N38_.w hW) hsN42_ c40_ (by decide)
                    have c45_ : zCI F_ K_ d_ 0 N42_ := zCI.fr (hf_N38_.w hW) hsN42_ hp0_N38_ (by decide)
                    show zW l m_Reader_readAhead (zn Mz + 0, zw Mz + 0) N42_ 58 [some (.ref 4), some (.ref (d_ + 33)), some (.int (Int32.ofInt u1_)), some (.int (Int32.ofInt 0))] [] _
                    have hnn_ := hyt_.n hp0_N42_
                    have hst_ := hrea_.tr (zRea.st (zs0_o (Nz := N42_) (F := F_) (b := b_) (n := n_) (K := K_) (nm := nm_) hO_ hu0_ hcc_ (by rw [qzkS_N42_, hp1_, qzkS_N33_]) (by rw [qzkW_N42_, hp2_, qzkW_N33_]) (by rw [qzkG_N42_, hp3_, qzkG_N33_]) (by (exact zo_1037 eA4_1_N38_ eA4_1_N42_ ha38_1_hp0_N33_)) (by (exact zo_2257 i4_ i5_ p3_ rA4_1_N2_.1)) (hnn_.2.trans (by rw [show ze N38_ 1 2 = ze N2_ 1 2 by (exact zo_800 eA1_2_N33_ eA1_2_N38_ hyx_.1.1 rA1_2_N2_.2)]))))
                    refine zr_iinc (pc := 58) (i := 2) (a := u1_) (n := 1) (L2 := [some (.ref 4), some (.ref (d_ + 33)), some (.int (Int32.ofInt (u1_ + 1))), some (.int (Int32.ofInt 0))]) rfl (by decide) rfl (zdal_p dlA_Reader_readAhead_115 (i := 7) rfl) ?_
                    refine zw_goto (pc := 61) (tgt := 2) (by decide) (zdal_p dlA_Reader_readAhead_115 (i := 8) rfl) ?_
                    refine zW_le [some (.ref 4), some (.ref (d_ + 33)), some (.int (Int32.ofInt (u1_ + 1))), none] (⟨rfl, rfl, rfl, trivial⟩) ?_
                    exact ih_2 (u1_ + 1) (by (exact zo_74 i4_)) (by (exact zo_1055 hc_5)) N42_ hb0_N42_ (show 0 ≤ (u1_ + 1) by first | with_reducible assumption | (exact zo_76 i4_) | assumption) (show ze Mz 4 1 + (u1_ + 1) ≤ ze N42_ 4 1 by first | with_reducible assumption | (exact zo_2258 eA4_1_N38_ eA4_1_N42_ ha38_1_hp0_N33_ hc_5 i5_ p4_ rA4_1_N33_.1) | assumption) (show ze N42_ 4 1 ≤ 30 by first | with_reducible assumption | (exact zo_1040 eA4_1_N38_ eA4_1_N42_ ha38_1_hp0_N33_ ha38_2_hp0_N33_ rA4_1_N33_.2) | assumption) (show zRea (zfs b_ n_ F_ K_ nm_) (zKst 0 F_ d_ Mz) (zKst 0 F_ d_ N42_) by exact hst_) hp1_N42_ c45_ (by (exact zo_1069 hc_5 hlt_2 i4_))
                  · skip
                    exact absurd hc_41 (by decide)
                · skip
                  have hu0_ := ha38_0_hp0_N33_
                  have hrt_ := hrea_.tr (zRea.st (zs0_of (F := F_) (b := b_) (n := n_) (K := K_) (nm := nm_) hO_ hu0_))
                  show zW l m_Reader_readAhead (zn Mz + 0, zw Mz + 0) N33_ 41 [some (.ref 4), some (.ref (d_ + 33)), some (.int (Int32.ofInt u1_)), some (.int (Int32.ofInt 0))] [.int (Int32.ofInt 0)] _
                  refine zr_if_ne (pc := 41) (tgt := 46) ⟨(by decide), (by decide)⟩ (by decide) (zdal_p dlA_Reader_readAhead_114 (i := 22) rfl) (fun hc_41 => ?_) (fun hc_41 => ?_)
                  · skip
                    exact absurd hc_41 (by decide)
                  · skip
                    refine zw_iconst (pc := 44) (v := Int32.ofInt 0) (by decide) (zdal_p dlA_Reader_readAhead_114 (i := 23) rfl) ?_
                    exact zk_iret (pc := 45) (ty := .boolean) rfl (z_narB (by (decide))) ⟨by (exact hv17_a), by (exact hv17_b)⟩ hf_N33_ ⟨c36_, (show ((0 = 1 ∧ zRea (zfs b_ n_ F_ K_ nm_) (zKst 0 F_ d_ Mz) (zKst 0 F_ d_ N33_) ∧ zCI F_ K_ d_ 0 N33_ ∧ ¬ (zisg b_ n_ (ze N33_ 1 2).toNat 45 ∨ zisg b_ n_ (ze N33_ 1 2).toNat 40) ∧ ze Mz 4 1 ≤ ze N33_ 4 1 ∧ ze N33_ 4 1 ≤ 30) ∨ (0 = 0 ∧ zRea (zfs b_ n_ F_ K_ nm_) (zKst 0 F_ d_ Mz) zFt)) from Or.inr (⟨(show 0 = 0 by first | rfl | exact hrt_ | (exfalso; omega)), (show zRea (zfs b_ n_ F_ K_ nm_) (zKst 0 F_ d_ Mz) zFt by first | rfl | exact hrt_ | (exfalso; omega))⟩))⟩ (zdal_p dlA_Reader_readAhead_115 (i := 0) rfl)
              · skip
                exact absurd hc_31 (by decide)
            · skip
              have hNO_ : ¬ (zisg b_ n_ (ze N2_ 1 2).toNat 45 ∨ zisg b_ n_ (ze N2_ 1 2).toNat 40) := fun q_ => q_.elim ha28_0_hp0_N31_ hnB_
              show zW l m_Reader_readAhead (zn Mz + 0, zw Mz + 0) N2_ 31 [some (.ref 4), some (.ref (d_ + 33)), some (.int (Int32.ofInt u1_)), some (.int (Int32.ofInt 0))] [.int (Int32.ofInt 0)] _
              refine zr_if_ne (pc := 31) (tgt := 36) ⟨(by decide), (by decide)⟩ (by decide) (zdal_p dlA_Reader_readAhead_114 (i := 16) rfl) (fun hc_31 => ?_) (fun hc_31 => ?_)
              · skip
                exact absurd hc_31 (by decide)
              · skip
                refine zw_iconst (pc := 34) (v := Int32.ofInt 1) (by decide) (zdal_p dlA_Reader_readAhead_114 (i := 17) rfl) ?_
                exact zk_iret (pc := 35) (ty := .boolean) rfl (z_narB (by (decide))) ⟨by (decide), by (decide)⟩ hf_N2_ ⟨i8_, (show ((1 = 1 ∧ zRea (zfs b_ n_ F_ K_ nm_) (zKst 0 F_ d_ Mz) (zKst 0 F_ d_ N2_) ∧ zCI F_ K_ d_ 0 N2_ ∧ ¬ (zisg b_ n_ (ze N2_ 1 2).toNat 45 ∨ zisg b_ n_ (ze N2_ 1 2).toNat 40) ∧ ze Mz 4 1 ≤ ze N2_ 4 1 ∧ ze N2_ 4 1 ≤ 30) ∨ (1 = 0 ∧ zRea (zfs b_ n_ F_ K_ nm_) (zKst 0 F_ d_ Mz) zFt)) from Or.inl (⟨(show 1 = 1 by first | rfl | exact hrea_ | exact hci_ | exact hNO_ | omega), (show zRea (zfs b_ n_ F_ K_ nm_) (zKst 0 F_ d_ Mz) (zKst 0 F_ d_ N2_) by first | rfl | exact hrea_ | exact hci_ | exact hNO_ | omega), (show zCI F_ K_ d_ 0 N2_ by first | rfl | exact hrea_ | exact hci_ | exact hNO_ | omega), (show ¬ (zisg b_ n_ (ze N2_ 1 2).toNat 45 ∨ zisg b_ n_ (ze N2_ 1 2).toNat 40) by first | rfl | exact hrea_ | exact hci_ | exact hNO_ | omega), (show ze Mz 4 1 ≤ ze N2_ 4 1 by first | rfl | exact hrea_ | exact hci_ | exact hNO_ | (exact zo_2260 i4_ i5_ p4_ rA4_1_N2_.1)), (show ze N2_ 4 1 ≤ 30 by first | rfl | exact hrea_ | exact hci_ | exact hNO_ | (exact i6_))⟩))⟩ (zdal_p dlA_Reader_readAhead_114 (i := 18) rfl)
  exact lp_2 _ 0 (by decide) (by decide) Mz zFc.rf (show 0 ≤ (0 : Int) by first | with_reducible assumption | (decide) | assumption) (show ze Mz 4 1 + (0 : Int) ≤ ze Mz 4 1 by first | with_reducible assumption | (exact zo_2261) | assumption) (show ze Mz 4 1 ≤ 30 by first | with_reducible assumption | assumption | omega) (show zRea (zfs b_ n_ F_ K_ nm_) (zKst 0 F_ d_ Mz) (zKst 0 F_ d_ Mz) by exact zRea.rf) p1_ p2_ (Nat.lt_succ_self _)
set_option maxHeartbeats 4000000 in
theorem u_Troupe_nameOf (l : Launch) (d_ : Nat) (Mz : zMem) (hW : zKW d_ Mz) (a0_ : Int) (ha0_a : -2147483648 ≤ a0_) (ha0_b : a0_ < 2147483648) (F_ : Nat) (K_ : Nat → Nat → Int) (hA_ : zTA F_ K_) (nm_ : List (Int × (Nat → Int))) (p0_ : zNm nm_ F_ K_ d_ Mz) : zC l m_Troupe_nameOf 0 0 [.ref (d_ + 0), .int (Int32.ofInt a0_)] Mz (zqcI d_ [] [] [] [] Mz (fun v N => (((v = -1 ∧ zfd nm_ a0_ = none) ∨ (0 ≤ v ∧ v ≤ 7 ∧ zfd nm_ a0_ = some (zvc F_ d_ Mz (1 + v)) ∧ zfit F_ K_ (zvc F_ d_ Mz (1 + v))))))) := by
  refine zC_of (L0 := [some (.ref (d_ + 0)), some (.int (Int32.ofInt a0_)), none]) md_Troupe_nameOf (Nat.le_of_ble_eq_true rfl) rfl ?_ zQ0
  have hf : zFc d_ [] [] [] [] Mz Mz := zFc.rf
  have r_D0_6 := ze_r Mz (d_ + 0) 6
  obtain ⟨w1_, w2_, w3_⟩ := id p0_
  refine zw_iconst (pc := 0) (v := Int32.ofInt 0) (by decide) (zdal_p dlA_Troupe_nameOf_108 (i := 0) rfl) ?_
  refine zw_istore_n (pc := 1) (i := 2) (L2 := [some (.ref (d_ + 0)), some (.int (Int32.ofInt a0_)), some (.int (Int32.ofInt 0))]) rfl (by decide) rfl (zdal_p dlA_Troupe_nameOf_108 (i := 1) rfl) ?_
  have lp_2 : ∀ (n : Nat) (u1_ : Int) (hu1_a : -2147483648 ≤ u1_) (hu1_b : u1_ < 2147483648) (i2_ : 0 ≤ u1_) (i3_ : zfd nm_ a0_ = zfd (zup (zNe F_ d_ Mz) ((ze Mz (d_ + 0) 6).toNat - (u1_).toNat) (u1_).toNat) a0_), (ze Mz (d_ + 0) 6 - u1_).toNat < n → zW l m_Troupe_nameOf (zn Mz + 0, zw Mz + 0) Mz 2 [some (.ref (d_ + 0)), some (.int (Int32.ofInt a0_)), some (.int (Int32.ofInt u1_))] [] (zqcI d_ [] [] [] [] Mz (fun v N => (((v = -1 ∧ zfd nm_ a0_ = none) ∨ (0 ≤ v ∧ v ≤ 7 ∧ zfd nm_ a0_ = some (zvc F_ d_ Mz (1 + v)) ∧ zfit F_ K_ (zvc F_ d_ Mz (1 + v))))))) := by
    intro n
    induction n with
    | zero =>
      intro u1_ hu1_a hu1_b i2_ i3_ h0
      exact absurd h0 (Nat.not_lt_zero _)
    | succ n ih_2 =>
      intro u1_ hu1_a hu1_b i2_ i3_ hlt_2
      have hzz_ := (show zfd nm_ a0_ = zfd (zup (zNe F_ d_ Mz) ((ze Mz (d_ + 0) 6).toNat - (u1_).toNat) (u1_).toNat) a0_ by first | with_reducible assumption | assumption)
      refine zw_iload_n (pc := 2) (n := 2) (x := Int32.ofInt u1_) rfl (zdal_p dlA_Troupe_nameOf_108 (i := 2) rfl) ?_
      refine zw_aload_n (pc := 3) (n := 0) (x := (d_ + 0)) rfl (zdal_p dlA_Troupe_nameOf_108 (i := 3) rfl) ?_
      refine zk_getI (pc := 4) f_Troupe_64 rfl ((hf.w hW).kr (o := 0) (by decide)) (zdal_p dlA_Troupe_nameOf_108 (i := 4) rfl) ?_
      refine zr_icmp_ge (pc := 7) (tgt := 30) ⟨hu1_a, hu1_b⟩ ⟨(ze_r Mz (d_ + 0) 6).1, (ze_r Mz (d_ + 0) 6).2⟩ (by decide) (zdal_p dlA_Troupe_nameOf_108 (i := 5) rfl) (fun hc_7 => ?_) (fun hc_7 => ?_)
      · skip
        refine zw_iconst (pc := 30) (v := Int32.ofInt (-1)) (by decide) (zdal_p dlA_Troupe_nameOf_108 (i := 16) rfl) ?_
        exact zk_iret (pc := 31) (ty := .int) rfl rfl ⟨by (decide), by (decide)⟩ hf (show ((((-1)) = -1 ∧ zfd nm_ a0_ = none) ∨ (0 ≤ ((-1)) ∧ ((-1)) ≤ 7 ∧ zfd nm_ a0_ = some (zvc F_ d_ Mz (1 + ((-1)))) ∧ zfit F_ K_ (zvc F_ d_ Mz (1 + ((-1)))))) from Or.inl (⟨(show ((-1)) = -1 by first | rfl | exact zNm_n hzz_ (by omega)), (show zfd nm_ a0_ = none by first | rfl | exact zNm_n hzz_ (by (exact hc_7)))⟩)) (zdal_p dlA_Troupe_nameOf_108 (i := 17) rfl)
      · skip
        refine zw_aload_n (pc := 10) (n := 0) (x := (d_ + 0)) rfl (zdal_p dlA_Troupe_nameOf_108 (i := 6) rfl) ?_
        refine zw_getF (pc := 11) f_Troupe_57 rfl ((hf.w hW).kr (o := 0) (by decide)) ((hf.w hW).lr (o := 0) (s := 5) (r := 36) (by decide)) (zdal_p dlA_Troupe_nameOf_108 (i := 7) rfl) ?_
        refine zw_iload_n (pc := 14) (n := 2) (x := Int32.ofInt u1_) rfl (zdal_p dlA_Troupe_nameOf_108 (i := 8) rfl) ?_
        refine zk_at hf.x (pc := 15) l_Troupe_85 ((hf.w hW).kr (o := 36) (by decide)) ((hf.w hW).lr (o := 36) (s := 0) (r := 37) (by decide)) ((hf.w hW).rr (o := 37) (t := 1) (n := 8) (by decide)) (by decide) (by (exact i2_)) (by (exact zo_1254 hc_7 w1_.2)) (by decide) (Nat.le_of_ble_eq_true rfl) (zdal_p dlA_Troupe_nameOf_108 (i := 9) rfl) (fun v4_ hv4_ hv4_a hv4_b => ?_)
        have hvv_ := hv4_
        refine zw_iload_n (pc := 18) (n := 1) (x := Int32.ofInt a0_) rfl (zdal_p dlA_Troupe_nameOf_108 (i := 10) rfl) ?_
        refine zr_icmp_ne (pc := 19) (tgt := 24) ⟨hv4_a, hv4_b⟩ ⟨ha0_a, ha0_b⟩ (by decide) (zdal_p dlA_Troupe_nameOf_108 (i := 11) rfl) (fun hc_19 => ?_) (fun hc_19 => ?_)
        · skip
          refine zr_iinc (pc := 24) (i := 2) (a := u1_) (n := 1) (L2 := [some (.ref (d_ + 0)), some (.int (Int32.ofInt a0_)), some (.int (Int32.ofInt (u1_ + 1)))]) rfl (by decide) rfl (zdal_p dlA_Troupe_nameOf_108 (i := 14) rfl) ?_
          refine zw_goto (pc := 27) (tgt := 2) (by decide) (zdal_p dlA_Troupe_nameOf_108 (i := 15) rfl) ?_
          have hs_ := zNm_s hzz_ (by (exact i2_)) (by (exact hc_7)) hvv_ (by (exact hc_19))
          exact ih_2 (u1_ + 1) (by (exact zo_74 i2_)) (by (exact zo_1255 hc_7 w1_.2)) (show 0 ≤ (u1_ + 1) by first | with_reducible assumption | (exact zo_76 i2_) | assumption) (show zfd nm_ a0_ = zfd (zup (zNe F_ d_ Mz) ((ze Mz (d_ + 0) 6).toNat - ((u1_ + 1)).toNat) ((u1_ + 1)).toNat) a0_ by exact hs_) (by (exact zo_147 hc_7 hlt_2))
        · skip
          refine zw_iload_n (pc := 22) (n := 2) (x := Int32.ofInt u1_) rfl (zdal_p dlA_Troupe_nameOf_108 (i := 12) rfl) ?_
          exact zk_iret (pc := 23) (ty := .int) rfl rfl ⟨by (exact hu1_a), by (exact hu1_b)⟩ hf (show ((u1_ = -1 ∧ zfd nm_ a0_ = none) ∨ (0 ≤ u1_ ∧ u1_ ≤ 7 ∧ zfd nm_ a0_ = some (zvc F_ d_ Mz (1 + u1_)) ∧ zfit F_ K_ (zvc F_ d_ Mz (1 + u1_)))) from Or.inr (⟨(show 0 ≤ u1_ by first | (exact i2_) | exact zNm_f hzz_ (by omega) (by omega) hvv_ (by omega) | (have h_ := w3_ (u1_).toNat (by omega); rwa [Int.toNat_of_nonneg (by omega)] at h_)), (show u1_ ≤ 7 by first | (exact zo_1256 hc_7 w1_.2) | exact zNm_f hzz_ (by omega) (by omega) hvv_ (by omega) | (have h_ := w3_ (u1_).toNat (by omega); rwa [Int.toNat_of_nonneg (by omega)] at h_)), (show zfd nm_ a0_ = some (zvc F_ d_ Mz (1 + u1_)) by first | omega | exact zNm_f hzz_ (by (exact i2_)) (by (exact hc_7)) hvv_ (by (exact hc_19)) | (have h_ := w3_ (u1_).toNat (by omega); rwa [Int.toNat_of_nonneg (by omega)] at h_)), (show zfit F_ K_ (zvc F_ d_ Mz (1 + u1_)) by first | omega | exact zNm_f hzz_ (by (exact i2_)) (by (exact hc_7)) hvv_ (by (exact hc_19)) | (have h_ := w3_ (u1_).toNat (by (exact zo_695 hc_7 i2_)); rwa [Int.toNat_of_nonneg (by (exact i2_))] at h_))⟩)) (zdal_p dlA_Troupe_nameOf_108 (i := 13) rfl)
  exact lp_2 _ 0 (by decide) (by decide) (show 0 ≤ (0 : Int) by first | with_reducible assumption | (decide) | assumption) (show zfd nm_ a0_ = zfd (zup (zNe F_ d_ Mz) ((ze Mz (d_ + 0) 6).toNat - ((0 : Int)).toNat) ((0 : Int)).toNat) a0_ by exact zNm_0 p0_) (Nat.lt_succ_self _)
set_option maxHeartbeats 4000000 in
theorem u_Reader_readNamed (l : Launch) (d_ : Nat) (Mz : zMem) (hW : zKW d_ Mz) (b_ : Nat → Int) (n_ : Nat) (F_ : Nat) (K_ : Nat → Nat → Int) (hA_ : zTA F_ K_) (nm_ : List (Int × (Nat → Int))) (p0_ : zYb b_ n_ Mz) (p1_ : zYt b_ n_ Mz) (p2_ : zKm F_ K_ d_ Mz) (p3_ : zCI F_ K_ d_ 0 Mz) (p4_ : zNm nm_ F_ K_ d_ Mz) (p5_ : 0 ≤ ze Mz 4 1) (p6_ : ze Mz 4 1 ≤ 30) (p7_ : ¬ (zisg b_ n_ (ze Mz 1 2).toNat 45 ∨ zisg b_ n_ (ze Mz 1 2).toNat 40)) (p8_ : zkd b_ n_ (ze Mz 1 2).toNat ≠ 2) (p9_ : ¬ (zkd b_ n_ (ze Mz 1 2).toNat = 1 ∧ zkey b_ n_ (ze Mz 1 2).toNat = zkw 3)) : zC l m_Reader_readNamed 0 0 [.ref 4, .ref (d_ + 0)] Mz (zqcI d_ [(4, 1), (4, 2), (4, 3)] [] [(33, 3)] [25] Mz (fun v N => zYt b_ n_ N ∧ (((v = 1 ∧ zuo (zkS d_ Mz) (ze Mz 4 1).toNat ∧ zisn b_ n_ (ze Mz 1 2).toNat ∧ (∃ v, zfd nm_ (zkey b_ n_ (ze Mz 1 2).toNat) = some v ∧ zkW F_ d_ N = zpu (zkG d_ Mz) v (zkW F_ d_ Mz)) ∧ zkS d_ N = zkS d_ Mz ∧ zkG d_ N = zkG d_ Mz ∧ zCI F_ K_ d_ 1 N ∧ zLow d_ Mz N ∧ ze N 4 1 = ze Mz 4 1 + 1 ∧ ze Mz 4 1 ≤ 29) ∨ (v = 0 ∧ zRea (zfs b_ n_ F_ K_ nm_) (zKst 0 F_ d_ Mz) zFt ∧ zLow d_ Mz N))))) := by
  refine zC_of (L0 := [some (.ref 4), some (.ref (d_ + 0)), none]) md_Reader_readNamed (Nat.le_of_ble_eq_true rfl) rfl ?_ zQ0
  have hf : zFc d_ [(4, 1), (4, 2), (4, 3)] [] [(33, 3)] [25] Mz Mz := zFc.rf
  have r_A1_2 := ze_r Mz 1 2
  have r_A1_5 := ze_r Mz 1 5
  have r_A4_1 := ze_r Mz 4 1
  have r_D33_2 := ze_r Mz (d_ + 33) 2
  have r_D33_3 := ze_r Mz (d_ + 33) 3
  have r_D33_4 := ze_r Mz (d_ + 33) 4
  have r_D33_5 := ze_r Mz (d_ + 33) 5
  have r_D33_6 := ze_r Mz (d_ + 33) 6
  have hb_ := p3_.b
  have hz0_ := zop0_le (zkS d_ Mz)
  have dv0 : zLow d_ Mz Mz := zLow.rf
  refine zw_aload_n (pc := 0) (n := 0) (x := 4) rfl (zdal_p dlA_Reader_readNamed_122 (i := 0) rfl) ?_
  refine zw_getF (pc := 1) f_Reader_15 rfl ((hf.w hW).ka (o := 4) (by decide)) ((hf.w hW).la (o := 4) (s := 0) (r := 1) (by decide)) (zdal_p dlA_Reader_readNamed_122 (i := 1) rfl) ?_
  refine zk_callV hf.x (pc := 4) [] [] l_Reader_101 (u_Tokens_isName l d_ Mz (hf.w hW) b_ n_ p0_ p1_) rfl rfl ((hf.w hW).ka (o := 1) (by decide)) (by decide) (by decide) (Nat.le_of_ble_eq_true rfl) (zdal_p dlA_Reader_readNamed_122 (i := 2) rfl) ?_
  rintro _ N1_ ⟨v2_, rfl, ⟨hv2_a, hv2_b⟩, hsN1_, hp0_N1_⟩
  obtain rfl := hsN1_.eq.symm
  replace hp0_N1_ : ((v2_ = 1 ∧ zisn b_ n_ (ze Mz 1 2).toNat) ∨ (v2_ = 0 ∧ ¬ zisn b_ n_ (ze Mz 1 2).toNat)) := hp0_N1_
  rcases hp0_N1_ with ⟨rfl, ha4_0_hp0_N1_⟩ | ⟨rfl, ha4_0_hp0_N1_⟩
  · skip
    have hna_ := ha4_0_hp0_N1_
    have hky_ := p1_.v1 hna_.1
    show zW l m_Reader_readNamed (zn Mz + 0, zw Mz + 0) Mz 7 [some (.ref 4), some (.ref (d_ + 0)), none] [.int (Int32.ofInt 1)] _
    refine zr_if_ne (pc := 7) (tgt := 16) ⟨(by decide), (by decide)⟩ (by decide) (zdal_p dlA_Reader_readNamed_122 (i := 3) rfl) (fun hc_7 => ?_) (fun hc_7 => ?_)
    · skip
      refine zw_aload_n (pc := 16) (n := 1) (x := (d_ + 0)) rfl (zdal_p dlA_Reader_readNamed_122 (i := 8) rfl) ?_
      refine zw_aload_n (pc := 17) (n := 0) (x := 4) rfl (zdal_p dlA_Reader_readNamed_122 (i := 9) rfl) ?_
      refine zw_getF (pc := 18) f_Reader_15 rfl ((hf.w hW).ka (o := 4) (by decide)) ((hf.w hW).la (o := 4) (s := 0) (r := 1) (by decide)) (zdal_p dlA_Reader_readNamed_122 (i := 10) rfl) ?_
      refine zk_getI (pc := 21) f_Reader_57 rfl ((hf.w hW).ka (o := 1) (by decide)) (zdal_p dlA_Reader_readNamed_122 (i := 11) rfl) ?_
      refine zk_callV hf.x (pc := 24) [.int (Int32.ofInt (ze Mz 1 5))] [] l_Reader_104 (u_Troupe_nameOf l d_ Mz (hf.w hW) (ze Mz 1 5) (ze_r Mz 1 5).1 (ze_r Mz 1 5).2 F_ K_ hA_ nm_ p4_) rfl rfl ((hf.w hW).kr (o := 0) (by decide)) (by decide) (by decide) (Nat.le_of_ble_eq_true rfl) (zdal_p dlA_Reader_readNamed_122 (i := 12) rfl) ?_
      rintro _ N3_ ⟨v4_, rfl, ⟨hv4_a, hv4_b⟩, hsN3_, hp0_N3_⟩
      obtain rfl := hsN3_.eq.symm
      replace hp0_N3_ : ((v4_ = -1 ∧ zfd nm_ (ze Mz 1 5) = none) ∨ (0 ≤ v4_ ∧ v4_ ≤ 7 ∧ zfd nm_ (ze Mz 1 5) = some (zvc F_ d_ Mz (1 + v4_)) ∧ zfit F_ K_ (zvc F_ d_ Mz (1 + v4_)))) := hp0_N3_
      rcases hp0_N3_ with ⟨rfl, ha24_0_hp0_N3_⟩ | ⟨ha24_0_hp0_N3_, ha24_1_hp0_N3_, ha24_2_hp0_N3_, ha24_3_hp0_N3_⟩
      · skip
        have hfn_ := ha24_0_hp0_N3_
        rw [hky_] at hfn_
        have hrt_ := zRea.st (zs0_wn (F := F_) (d := d_) (K := K_) (nm := nm_) p7_ p8_ p9_ hfn_)
        show zW l m_Reader_readNamed (zn Mz + 0, zw Mz + 0) Mz 27 [some (.ref 4), some (.ref (d_ + 0)), none] [.int (Int32.ofInt ((-1)))] _
        refine zw_istore_n (pc := 27) (i := 2) (L2 := [some (.ref 4), some (.ref (d_ + 0)), some (.int (Int32.ofInt ((-1))))]) rfl (by decide) rfl (zdal_p dlA_Reader_readNamed_122 (i := 13) rfl) ?_
        refine zw_iload_n (pc := 28) (n := 2) (x := Int32.ofInt ((-1))) rfl (zdal_p dlA_Reader_readNamed_122 (i := 14) rfl) ?_
        refine zw_iconst (pc := 29) (v := Int32.ofInt (-1)) (by decide) (zdal_p dlA_Reader_readNamed_122 (i := 15) rfl) ?_
        refine zr_icmp_ne (pc := 30) (tgt := 39) ⟨(by decide), (by decide)⟩ ⟨(by decide), (by decide)⟩ (by decide) (zdal_p dlA_Reader_readNamed_122 (i := 16) rfl) (fun hc_30 => ?_) (fun hc_30 => ?_)
        · skip
          exact absurd hc_30 (by decide)
        · skip
          refine zw_aload_n (pc := 33) (n := 0) (x := 4) rfl (zdal_p dlA_Reader_readNamed_122 (i := 17) rfl) ?_
          refine zw_iconst (pc := 34) (v := Int32.ofInt 3) (by decide) (zdal_p dlA_Reader_readNamed_122 (i := 18) rfl) ?_
          refine zk_callV hf.x (pc := 35) [.int (Int32.ofInt 3)] [] l_Reader_41 (u_Reader_refuse l d_ Mz (hf.w hW) 3 (by decide) (by decide)) rfl rfl ((hf.w hW).ka (o := 4) (by decide)) (by decide) (by decide) (Nat.le_of_ble_eq_true rfl) (zdal_p dlA_Reader_readNamed_122 (i := 19) rfl) ?_
          rintro _ N5_ ⟨v6_, rfl, ⟨hv6_a, hv6_b⟩, hsN5_, hp0_N5_⟩
          replace hp0_N5_ : ((v6_ = 0)) := hp0_N5_
          have hf_N5_ : zFc d_ [(4, 1), (4, 2), (4, 3)] [] [(33, 3)] [25] Mz N5_ := hf.tr hsN5_ (by decide) (by decide) (by decide) (by decide)
          have eA1_2_N5_ : ze N5_ 1 2 = ze Mz 1 2 := hsN5_.ea (hf.w hW) (by decide)
          have eA1_5_N5_ : ze N5_ 1 5 = ze Mz 1 5 := hsN5_.ea (hf.w hW) (by decide)
          have eA4_1_N5_ : ze N5_ 4 1 = ze Mz 4 1 := hsN5_.ea (hf.w hW) (by decide)
          have eD33_2_N5_ : ze N5_ (d_ + 33) 2 = ze Mz (d_ + 33) 2 := hsN5_.e (by decide)
          have eD33_3_N5_ : ze N5_ (d_ + 33) 3 = ze Mz (d_ + 33) 3 := hsN5_.e (by decide)
          have eD33_4_N5_ : ze N5_ (d_ + 33) 4 = ze Mz (d_ + 33) 4 := hsN5_.e (by decide)
          have eD33_5_N5_ : ze N5_ (d_ + 33) 5 = ze Mz (d_ + 33) 5 := hsN5_.e (by decide)
          have eD33_6_N5_ : ze N5_ (d_ + 33) 6 = ze Mz (d_ + 33) 6 := hsN5_.e (by decide)
          have qzkS_N5_ : zkS d_ N5_ = zkS d_ Mz := zkS_q hsN5_ (by decide)
          have qzkG_N5_ : zkG d_ N5_ = zkG d_ Mz := zkG_q hsN5_ (by decide)
          have qzkW_N5_ : zkW F_ d_ N5_ = zkW F_ d_ Mz := zkW_q hsN5_ (by decide)
          have c7_ : zYb b_ n_ N5_ := zYb.fr (hf.w hW) hsN5_ p0_ (by decide)
          have c8_ : zYt b_ n_ N5_ := zYt.fr (hf.w hW) hsN5_ p1_ (by decide)
          have c9_ : zKm F_ K_ d_ N5_ := zKm.fr (hf.w hW) hsN5_ p2_ (by decide)
          have c10_ : zCI F_ K_ d_ 0 N5_ := zCI.fr (hf.w hW) hsN5_ p3_ (by decide)
          have c11_ : zNm nm_ F_ K_ d_ N5_ := zNm.fr (hf.w hW) hsN5_ p4_ (by decide)
          have c12_ : zLow d_ Mz N5_ := zLow.fr (hf.w hW) hsN5_ dv0 (by decide)
          rcases hp0_N5_ with rfl
          · skip
            show zW l m_Reader_readNamed (zn Mz + 0, zw Mz + 0) N5_ 38 [some (.ref 4), some (.ref (d_ + 0)), some (.int (Int32.ofInt ((-1))))] [.int (Int32.ofInt 0)] _
            exact zk_iret (pc := 38) (ty := .boolean) rfl (z_narB (by (decide))) ⟨by (exact hv6_a), by (exact hv6_b)⟩ hf_N5_ ⟨c8_, (show ((0 = 1 ∧ zuo (zkS d_ Mz) (ze Mz 4 1).toNat ∧ zisn b_ n_ (ze Mz 1 2).toNat ∧ (∃ v, zfd nm_ (zkey b_ n_ (ze Mz 1 2).toNat) = some v ∧ zkW F_ d_ N5_ = zpu (zkG d_ Mz) v (zkW F_ d_ Mz)) ∧ zkS d_ N5_ = zkS d_ Mz ∧ zkG d_ N5_ = zkG d_ Mz ∧ zCI F_ K_ d_ 1 N5_ ∧ zLow d_ Mz N5_ ∧ ze N5_ 4 1 = ze Mz 4 1 + 1 ∧ ze Mz 4 1 ≤ 29) ∨ (0 = 0 ∧ zRea (zfs b_ n_ F_ K_ nm_) (zKst 0 F_ d_ Mz) zFt ∧ zLow d_ Mz N5_)) from Or.inr (⟨(show 0 = 0 by first | rfl | exact hrt_ | (exfalso; omega) | exact c12_), (show zRea (zfs b_ n_ F_ K_ nm_) (zKst 0 F_ d_ Mz) zFt by first | rfl | exact hrt_ | (exfalso; omega) | exact c12_), (show zLow d_ Mz N5_ by first | rfl | exact hrt_ | (exfalso; omega) | exact c12_)⟩))⟩ (zdal_p dlA_Reader_readNamed_122 (i := 20) rfl)
      · skip
        have hv0_ := ha24_0_hp0_N3_
        have hv1_ := ha24_1_hp0_N3_
        have hfn_ := ha24_2_hp0_N3_
        have hfi_ := ha24_3_hp0_N3_
        rw [hky_] at hfn_
        show zW l m_Reader_readNamed (zn Mz + 0, zw Mz + 0) Mz 27 [some (.ref 4), some (.ref (d_ + 0)), none] [.int (Int32.ofInt v4_)] _
        refine zw_istore_n (pc := 27) (i := 2) (L2 := [some (.ref 4), some (.ref (d_ + 0)), some (.int (Int32.ofInt v4_))]) rfl (by decide) rfl (zdal_p dlA_Reader_readNamed_122 (i := 13) rfl) ?_
        refine zw_iload_n (pc := 28) (n := 2) (x := Int32.ofInt v4_) rfl (zdal_p dlA_Reader_readNamed_122 (i := 14) rfl) ?_
        refine zw_iconst (pc := 29) (v := Int32.ofInt (-1)) (by decide) (zdal_p dlA_Reader_readNamed_122 (i := 15) rfl) ?_
        refine zr_icmp_ne (pc := 30) (tgt := 39) ⟨hv4_a, hv4_b⟩ ⟨(by decide), (by decide)⟩ (by decide) (zdal_p dlA_Reader_readNamed_122 (i := 16) rfl) (fun hc_30 => ?_) (fun hc_30 => ?_)
        · skip
          refine zw_aload_n (pc := 39) (n := 0) (x := 4) rfl (zdal_p dlA_Reader_readNamed_122 (i := 21) rfl) ?_
          refine zw_aload_n (pc := 40) (n := 1) (x := (d_ + 0)) rfl (zdal_p dlA_Reader_readNamed_122 (i := 22) rfl) ?_
          refine zw_getF (pc := 41) f_Reader_111 rfl ((hf.w hW).kr (o := 0) (by decide)) ((hf.w hW).lr (o := 0) (s := 4) (r := 33) (by decide)) (zdal_p dlA_Reader_readNamed_122 (i := 23) rfl) ?_
          refine zk_callV hf.x (pc := 44) [.ref (d_ + 33)] [] l_Reader_152 (u_Reader_countUnit l d_ Mz (hf.w hW) F_ K_ hA_ p3_ (show 0 ≤ ze Mz 4 1 by first | with_reducible assumption | assumption | omega) (show ze Mz 4 1 ≤ 30 by first | with_reducible assumption | assumption | omega)) rfl rfl ((hf.w hW).ka (o := 4) (by decide)) (by decide) (by decide) (Nat.le_of_ble_eq_true rfl) (zdal_p dlA_Reader_readNamed_123 (i := 0) rfl) ?_
          rintro _ N13_ ⟨v14_, rfl, ⟨hv14_a, hv14_b⟩, hsN13_, hp0_N13_⟩
          replace hp0_N13_ : ((v14_ = 1 ∧ zuo (zkS d_ Mz) (ze Mz 4 1).toNat ∧ ze N13_ 4 1 = ze Mz 4 1 + 1 ∧ ze Mz 4 1 ≤ 29) ∨ (v14_ = 0 ∧ ¬ zuo (zkS d_ Mz) (ze Mz 4 1).toNat)) := hp0_N13_
          have hf_N13_ : zFc d_ [(4, 1), (4, 2), (4, 3)] [] [(33, 3)] [25] Mz N13_ := hf.tr hsN13_ (by decide) (by decide) (by decide) (by decide)
          have eA1_2_N13_ : ze N13_ 1 2 = ze Mz 1 2 := hsN13_.ea (hf.w hW) (by decide)
          have eA1_5_N13_ : ze N13_ 1 5 = ze Mz 1 5 := hsN13_.ea (hf.w hW) (by decide)
          have rA4_1_N13_ := ze_r N13_ 4 1
          have eD33_2_N13_ : ze N13_ (d_ + 33) 2 = ze Mz (d_ + 33) 2 := hsN13_.e (by decide)
          have eD33_3_N13_ : ze N13_ (d_ + 33) 3 = ze Mz (d_ + 33) 3 := hsN13_.e (by decide)
          have eD33_4_N13_ : ze N13_ (d_ + 33) 4 = ze Mz (d_ + 33) 4 := hsN13_.e (by decide)
          have eD33_5_N13_ : ze N13_ (d_ + 33) 5 = ze Mz (d_ + 33) 5 := hsN13_.e (by decide)
          have eD33_6_N13_ : ze N13_ (d_ + 33) 6 = ze Mz (d_ + 33) 6 := hsN13_.e (by decide)
          have qzkS_N13_ : zkS d_ N13_ = zkS d_ Mz := zkS_q hsN13_ (by decide)
          have qzkG_N13_ : zkG d_ N13_ = zkG d_ Mz := zkG_q hsN13_ (by decide)
          have qzkW_N13_ : zkW F_ d_ N13_ = zkW F_ d_ Mz := zkW_q hsN13_ (by decide)
          have c15_ : zYb b_ n_ N13_ := zYb.fr (hf.w hW) hsN13_ p0_ (by decide)
          have c16_ : zYt b_ n_ N13_ := zYt.fr (hf.w hW) hsN13_ p1_ (by decide)
          have c17_ : zKm F_ K_ d_ N13_ := zKm.fr (hf.w hW) hsN13_ p2_ (by decide)
          have c18_ : zCI F_ K_ d_ 0 N13_ := zCI.fr (hf.w hW) hsN13_ p3_ (by decide)
          have c19_ : zNm nm_ F_ K_ d_ N13_ := zNm.fr (hf.w hW) hsN13_ p4_ (by decide)
          have c20_ : zLow d_ Mz N13_ := zLow.fr (hf.w hW) hsN13_ dv0 (by decide)
          rcases hp0_N13_ with ⟨rfl, ha44_0_hp0_N13_, ha44_1_hp0_N13_, ha44_2_hp0_N13_⟩ | ⟨rfl, ha44_0_hp0_N13_⟩
          · skip
            have hu0_ := ha44_0_hp0_N13_
            have hu1_ := ha44_1_hp0_N13_
            have hu2_ := ha44_2_hp0_N13_
            have hvq_ := fun s_ => zvc_f (F := F_) hsN13_ (by decide) s_
            show zW l m_Reader_readNamed (zn Mz + 0, zw Mz + 0) N13_ 47 [some (.ref 4), some (.ref (d_ + 0)), some (.int (Int32.ofInt v4_))] [.int (Int32.ofInt 1)] _
            refine zr_if_ne (pc := 47) (tgt := 52) ⟨(by decide), (by decide)⟩ (by decide) (zdal_p dlA_Reader_readNamed_123 (i := 1) rfl) (fun hc_47 => ?_) (fun hc_47 => ?_)
            · skip
              refine zw_aload_n (pc := 52) (n := 1) (x := (d_ + 0)) rfl (zdal_p dlA_Reader_readNamed_123 (i := 4) rfl) ?_
              refine zw_getF (pc := 53) f_Reader_111 rfl ((hf_N13_.w hW).kr (o := 0) (by decide)) ((hf_N13_.w hW).lr (o := 0) (s := 4) (r := 33) (by decide)) (zdal_p dlA_Reader_readNamed_123 (i := 5) rfl) ?_
              refine zw_iload_n (pc := 56) (n := 2) (x := Int32.ofInt v4_) rfl (zdal_p dlA_Reader_readNamed_123 (i := 6) rfl) ?_
              refine zk_callV hf_N13_.x (pc := 57) [.int (Int32.ofInt v4_)] [] l_Reader_176 (u_Calc_pushNamed l d_ N13_ (hf_N13_.w hW) v4_ hv4_a hv4_b F_ K_ hA_ c17_ c18_ (show 0 ≤ v4_ by first | with_reducible assumption | assumption | omega) (show v4_ ≤ 7 by first | with_reducible assumption | assumption | omega) (show zfit F_ K_ (zvc F_ d_ N13_ (1 + v4_)) by rw [hvq_]; exact hfi_)) rfl rfl ((hf_N13_.w hW).kr (o := 33) (by decide)) (by decide) (by decide) (Nat.le_of_ble_eq_true rfl) (zdal_p dlA_Reader_readNamed_123 (i := 7) rfl) ?_
              rintro _ N21_ ⟨rfl, hsN21_, ⟨hp0_N21_, hp1_N21_, hp2_N21_, hp3_N21_, hp4_N21_⟩⟩
              have hf_N21_ : zFc d_ [(4, 1), (4, 2), (4, 3)] [] [(33, 3)] [25] Mz N21_ := hf_N13_.tr hsN21_ (by decide) (by decide) (by decide) (by decide)
              have eA1_2_N21_ : ze N21_ 1 2 = ze N13_ 1 2 := hsN21_.ea (hf_N13_.w hW) (by decide)
              have eA1_5_N21_ : ze N21_ 1 5 = ze N13_ 1 5 := hsN21_.ea (hf_N13_.w hW) (by decide)
              have eA4_1_N21_ : ze N21_ 4 1 = ze N13_ 4 1 := hsN21_.ea (hf_N13_.w hW) (by decide)
              have eD33_2_N21_ : ze N21_ (d_ + 33) 2 = ze N13_ (d_ + 33) 2 := hsN21_.e (by decide)
              have rD33_3_N21_ := ze_r N21_ (d_ + 33) 3
              have eD33_4_N21_ : ze N21_ (d_ + 33) 4 = ze N13_ (d_ + 33) 4 := hsN21_.e (by decide)
              have eD33_5_N21_ : ze N21_ (d_ + 33) 5 = ze N13_ (d_ + 33) 5 := hsN21_.e (by decide)
              have eD33_6_N21_ : ze N21_ (d_ + 33) 6 = ze N13_ (d_ + 33) 6 := hsN21_.e (by decide)
              have qzkS_N21_ : zkS d_ N21_ = zkS d_ N13_ := zkS_q hsN21_ (by decide)
              have qzkG_N21_ : zkG d_ N21_ = zkG d_ N13_ := zkG_q hsN21_ (by decide)
              have c23_ : zYb b_ n_ N21_ := zYb.fr (hf_N13_.w hW) hsN21_ c15_ (by decide)
              have c24_ : zYt b_ n_ N21_ := zYt.fr (hf_N13_.w hW) hsN21_ c16_ (by decide)
              have c25_ : zKm F_ K_ d_ N21_ := zKm.fr (hf_N13_.w hW) hsN21_ c17_ (by decide)
              show zW l m_Reader_readNamed (zn Mz + 0, zw Mz + 0) N21_ 60 [some (.ref 4), some (.ref (d_ + 0)), some (.int (Int32.ofInt v4_))] [] _
              have hp0_ := hp0_N21_
              have hp1_ := hp1_N21_
              have hp2_ := hp2_N21_
              have hp3_ := hp3_N21_
              have hp4_ := hp4_N21_
              rw [hvq_, qzkG_N13_, qzkW_N13_] at hp2_
              have hlw_ := (zLow.f hsN13_ (by decide)).tr hp4_
              refine zw_iconst (pc := 60) (v := Int32.ofInt 1) (by decide) (zdal_p dlA_Reader_readNamed_123 (i := 8) rfl) ?_
              exact zk_iret (pc := 61) (ty := .boolean) rfl (z_narB (by (decide))) ⟨by (exact hv2_a), by (exact hv2_b)⟩ hf_N21_ ⟨c24_, (show ((1 = 1 ∧ zuo (zkS d_ Mz) (ze Mz 4 1).toNat ∧ zisn b_ n_ (ze Mz 1 2).toNat ∧ (∃ v, zfd nm_ (zkey b_ n_ (ze Mz 1 2).toNat) = some v ∧ zkW F_ d_ N21_ = zpu (zkG d_ Mz) v (zkW F_ d_ Mz)) ∧ zkS d_ N21_ = zkS d_ Mz ∧ zkG d_ N21_ = zkG d_ Mz ∧ zCI F_ K_ d_ 1 N21_ ∧ zLow d_ Mz N21_ ∧ ze N21_ 4 1 = ze Mz 4 1 + 1 ∧ ze Mz 4 1 ≤ 29) ∨ (1 = 0 ∧ zRea (zfs b_ n_ F_ K_ nm_) (zKst 0 F_ d_ Mz) zFt ∧ zLow d_ Mz N21_)) from Or.inl (⟨(show 1 = 1 by first | rfl | exact hu0_ | exact hna_ | exact ⟨_, hfn_, hp2_⟩ | exact hp1_.trans qzkS_N13_ | exact hp3_.trans qzkG_N13_ | exact hp0_ | exact hlw_ | omega), (show zuo (zkS d_ Mz) (ze Mz 4 1).toNat by first | rfl | exact hu0_ | exact hna_ | exact ⟨_, hfn_, hp2_⟩ | exact hp1_.trans qzkS_N13_ | exact hp3_.trans qzkG_N13_ | exact hp0_ | exact hlw_ | omega), (show zisn b_ n_ (ze Mz 1 2).toNat by first | rfl | exact hu0_ | exact hna_ | exact ⟨_, hfn_, hp2_⟩ | exact hp1_.trans qzkS_N13_ | exact hp3_.trans qzkG_N13_ | exact hp0_ | exact hlw_ | omega), (show (∃ v, zfd nm_ (zkey b_ n_ (ze Mz 1 2).toNat) = some v ∧ zkW F_ d_ N21_ = zpu (zkG d_ Mz) v (zkW F_ d_ Mz)) by first | rfl | exact hu0_ | exact hna_ | exact ⟨_, hfn_, hp2_⟩ | exact hp1_.trans qzkS_N13_ | exact hp3_.trans qzkG_N13_ | exact hp0_ | exact hlw_ | omega), (show zkS d_ N21_ = zkS d_ Mz by first | rfl | exact hu0_ | exact hna_ | exact ⟨_, hfn_, hp2_⟩ | exact hp1_.trans qzkS_N13_ | exact hp3_.trans qzkG_N13_ | exact hp0_ | exact hlw_ | omega), (show zkG d_ N21_ = zkG d_ Mz by first | rfl | exact hu0_ | exact hna_ | exact ⟨_, hfn_, hp2_⟩ | exact hp1_.trans qzkS_N13_ | exact hp3_.trans qzkG_N13_ | exact hp0_ | exact hlw_ | omega), (show zCI F_ K_ d_ 1 N21_ by first | rfl | exact hu0_ | exact hna_ | exact ⟨_, hfn_, hp2_⟩ | exact hp1_.trans qzkS_N13_ | exact hp3_.trans qzkG_N13_ | exact hp0_ | exact hlw_ | omega), (show zLow d_ Mz N21_ by first | rfl | exact hu0_ | exact hna_ | exact ⟨_, hfn_, hp2_⟩ | exact hp1_.trans qzkS_N13_ | exact hp3_.trans qzkG_N13_ | exact hp0_ | exact hlw_ | omega), (show ze N21_ 4 1 = ze Mz 4 1 + 1 by first | rfl | exact hu0_ | exact hna_ | exact ⟨_, hfn_, hp2_⟩ | exact hp1_.trans qzkS_N13_ | exact hp3_.trans qzkG_N13_ | exact hp0_ | exact hlw_ | (exact zo_1047 eA4_1_N21_ ha44_1_hp0_N13_)), (show ze Mz 4 1 ≤ 29 by first | rfl | exact hu0_ | exact hna_ | exact ⟨_, hfn_, hp2_⟩ | exact hp1_.trans qzkS_N13_ | exact hp3_.trans qzkG_N13_ | exact hp0_ | exact hlw_ | (exact ha44_2_hp0_N13_))⟩))⟩ (zdal_p dlA_Reader_readNamed_123 (i := 9) rfl)
            · skip
              exact absurd hc_47 (by decide)
          · skip
            have hrt_ := zRea.st (zs0_wf (F := F_) (d := d_) (K := K_) (nm := nm_) p7_ p8_ p9_ (fun q_ => ha44_0_hp0_N13_ q_.1))
            show zW l m_Reader_readNamed (zn Mz + 0, zw Mz + 0) N13_ 47 [some (.ref 4), some (.ref (d_ + 0)), some (.int (Int32.ofInt v4_))] [.int (Int32.ofInt 0)] _
            refine zr_if_ne (pc := 47) (tgt := 52) ⟨(by decide), (by decide)⟩ (by decide) (zdal_p dlA_Reader_readNamed_123 (i := 1) rfl) (fun hc_47 => ?_) (fun hc_47 => ?_)
            · skip
              exact absurd hc_47 (by decide)
            · skip
              refine zw_iconst (pc := 50) (v := Int32.ofInt 0) (by decide) (zdal_p dlA_Reader_readNamed_123 (i := 2) rfl) ?_
              exact zk_iret (pc := 51) (ty := .boolean) rfl (z_narB (by (decide))) ⟨by (exact hv14_a), by (exact hv14_b)⟩ hf_N13_ ⟨c16_, (show ((0 = 1 ∧ zuo (zkS d_ Mz) (ze Mz 4 1).toNat ∧ zisn b_ n_ (ze Mz 1 2).toNat ∧ (∃ v, zfd nm_ (zkey b_ n_ (ze Mz 1 2).toNat) = some v ∧ zkW F_ d_ N13_ = zpu (zkG d_ Mz) v (zkW F_ d_ Mz)) ∧ zkS d_ N13_ = zkS d_ Mz ∧ zkG d_ N13_ = zkG d_ Mz ∧ zCI F_ K_ d_ 1 N13_ ∧ zLow d_ Mz N13_ ∧ ze N13_ 4 1 = ze Mz 4 1 + 1 ∧ ze Mz 4 1 ≤ 29) ∨ (0 = 0 ∧ zRea (zfs b_ n_ F_ K_ nm_) (zKst 0 F_ d_ Mz) zFt ∧ zLow d_ Mz N13_)) from Or.inr (⟨(show 0 = 0 by first | rfl | exact hrt_ | (exfalso; omega) | exact c20_), (show zRea (zfs b_ n_ F_ K_ nm_) (zKst 0 F_ d_ Mz) zFt by first | rfl | exact hrt_ | (exfalso; omega) | exact c20_), (show zLow d_ Mz N13_ by first | rfl | exact hrt_ | (exfalso; omega) | exact c20_)⟩))⟩ (zdal_p dlA_Reader_readNamed_123 (i := 3) rfl)
        · skip
          refine zw_aload_n (pc := 33) (n := 0) (x := 4) rfl (zdal_p dlA_Reader_readNamed_122 (i := 17) rfl) ?_
          refine zw_iconst (pc := 34) (v := Int32.ofInt 3) (by decide) (zdal_p dlA_Reader_readNamed_122 (i := 18) rfl) ?_
          refine zk_callV hf.x (pc := 35) [.int (Int32.ofInt 3)] [] l_Reader_41 (u_Reader_refuse l d_ Mz (hf.w hW) 3 (by decide) (by decide)) rfl rfl ((hf.w hW).ka (o := 4) (by decide)) (by decide) (by decide) (Nat.le_of_ble_eq_true rfl) (zdal_p dlA_Reader_readNamed_122 (i := 19) rfl) ?_
          rintro _ N26_ ⟨v27_, rfl, ⟨hv27_a, hv27_b⟩, hsN26_, hp0_N26_⟩
          replace hp0_N26_ : ((v27_ = 0)) := hp0_N26_
          have hf_N26_ : zFc d_ [(4, 1), (4, 2), (4, 3)] [] [(33, 3)] [25] Mz N26_ := hf.tr hsN26_ (by decide) (by decide) (by decide) (by decide)
          have eA1_2_N26_ : ze N26_ 1 2 = ze Mz 1 2 := hsN26_.ea (hf.w hW) (by decide)
          have eA1_5_N26_ : ze N26_ 1 5 = ze Mz 1 5 := hsN26_.ea (hf.w hW) (by decide)
          have eA4_1_N26_ : ze N26_ 4 1 = ze Mz 4 1 := hsN26_.ea (hf.w hW) (by decide)
          have eD33_2_N26_ : ze N26_ (d_ + 33) 2 = ze Mz (d_ + 33) 2 := hsN26_.e (by decide)
          have eD33_3_N26_ : ze N26_ (d_ + 33) 3 = ze Mz (d_ + 33) 3 := hsN26_.e (by decide)
          have eD33_4_N26_ : ze N26_ (d_ + 33) 4 = ze Mz (d_ + 33) 4 := hsN26_.e (by decide)
          have eD33_5_N26_ : ze N26_ (d_ + 33) 5 = ze Mz (d_ + 33) 5 := hsN26_.e (by decide)
          have eD33_6_N26_ : ze N26_ (d_ + 33) 6 = ze Mz (d_ + 33) 6 := hsN26_.e (by decide)
          have qzkS_N26_ : zkS d_ N26_ = zkS d_ Mz := zkS_q hsN26_ (by decide)
          have qzkG_N26_ : zkG d_ N26_ = zkG d_ Mz := zkG_q hsN26_ (by decide)
          have qzkW_N26_ : zkW F_ d_ N26_ = zkW F_ d_ Mz := zkW_q hsN26_ (by decide)
          have c28_ : zYb b_ n_ N26_ := zYb.fr (hf.w hW) hsN26_ p0_ (by decide)
          have c29_ : zYt b_ n_ N26_ := zYt.fr (hf.w hW) hsN26_ p1_ (by decide)
          have c30_ : zKm F_ K_ d_ N26_ := zKm.fr (hf.w hW) hsN26_ p2_ (by decide)
          have c31_ : zCI F_ K_ d_ 0 N26_ := zCI.fr (hf.w hW) hsN26_ p3_ (by decide)
          have c32_ : zNm nm_ F_ K_ d_ N26_ := zNm.fr (hf.w hW) hsN26_ p4_ (by decide)
          have c33_ : zLow d_ Mz N26_ := zLow.fr (hf.w hW) hsN26_ dv0 (by decide)
          rcases hp0_N26_ with rfl
          · skip
            show zW l m_Reader_readNamed (zn Mz + 0, zw Mz + 0) N26_ 38 [some (.ref 4), some (.ref (d_ + 0)), some (.int (Int32.ofInt v4_))] [.int (Int32.ofInt 0)] _
            exact zk_iret (pc := 38) (ty := .boolean) rfl (z_narB (by (decide))) ⟨by (exact hv27_a), by (exact hv27_b)⟩ hf_N26_ ⟨c29_, (show ((0 = 1 ∧ zuo (zkS d_ Mz) (ze Mz 4 1).toNat ∧ zisn b_ n_ (ze Mz 1 2).toNat ∧ (∃ v, zfd nm_ (zkey b_ n_ (ze Mz 1 2).toNat) = some v ∧ zkW F_ d_ N26_ = zpu (zkG d_ Mz) v (zkW F_ d_ Mz)) ∧ zkS d_ N26_ = zkS d_ Mz ∧ zkG d_ N26_ = zkG d_ Mz ∧ zCI F_ K_ d_ 1 N26_ ∧ zLow d_ Mz N26_ ∧ ze N26_ 4 1 = ze Mz 4 1 + 1 ∧ ze Mz 4 1 ≤ 29) ∨ (0 = 0 ∧ zRea (zfs b_ n_ F_ K_ nm_) (zKst 0 F_ d_ Mz) zFt ∧ zLow d_ Mz N26_)) from Or.inr (⟨(show 0 = 0 by first | rfl | exact hrt_ | (exfalso; omega) | exact c33_), (show zRea (zfs b_ n_ F_ K_ nm_) (zKst 0 F_ d_ Mz) zFt by first | rfl | exact hrt_ | (exfalso; (exact zo_583 ha24_0_hp0_N3_ hc_30)) | exact c33_), (show zLow d_ Mz N26_ by first | rfl | exact hrt_ | (exfalso; (exact zo_583 ha24_0_hp0_N3_ hc_30)) | exact c33_)⟩))⟩ (zdal_p dlA_Reader_readNamed_122 (i := 20) rfl)
    · skip
      exact absurd hc_7 (by decide)
  · skip
    have hrt_ := zRea.st (zs0_wf (F := F_) (d := d_) (K := K_) (nm := nm_) p7_ p8_ p9_ (fun q_ => ha4_0_hp0_N1_ q_.2))
    show zW l m_Reader_readNamed (zn Mz + 0, zw Mz + 0) Mz 7 [some (.ref 4), some (.ref (d_ + 0)), none] [.int (Int32.ofInt 0)] _
    refine zr_if_ne (pc := 7) (tgt := 16) ⟨(by decide), (by decide)⟩ (by decide) (zdal_p dlA_Reader_readNamed_122 (i := 3) rfl) (fun hc_7 => ?_) (fun hc_7 => ?_)
    · skip
      exact absurd hc_7 (by decide)
    · skip
      refine zw_aload_n (pc := 10) (n := 0) (x := 4) rfl (zdal_p dlA_Reader_readNamed_122 (i := 4) rfl) ?_
      refine zw_iconst (pc := 11) (v := Int32.ofInt 2) (by decide) (zdal_p dlA_Reader_readNamed_122 (i := 5) rfl) ?_
      refine zk_callV hf.x (pc := 12) [.int (Int32.ofInt 2)] [] l_Reader_41 (u_Reader_refuse l d_ Mz (hf.w hW) 2 (by decide) (by decide)) rfl rfl ((hf.w hW).ka (o := 4) (by decide)) (by decide) (by decide) (Nat.le_of_ble_eq_true rfl) (zdal_p dlA_Reader_readNamed_122 (i := 6) rfl) ?_
      rintro _ N34_ ⟨v35_, rfl, ⟨hv35_a, hv35_b⟩, hsN34_, hp0_N34_⟩
      replace hp0_N34_ : ((v35_ = 0)) := hp0_N34_
      have hf_N34_ : zFc d_ [(4, 1), (4, 2), (4, 3)] [] [(33, 3)] [25] Mz N34_ := hf.tr hsN34_ (by decide) (by decide) (by decide) (by decide)
      have eA1_2_N34_ : ze N34_ 1 2 = ze Mz 1 2 := hsN34_.ea (hf.w hW) (by decide)
      have eA1_5_N34_ : ze N34_ 1 5 = ze Mz 1 5 := hsN34_.ea (hf.w hW) (by decide)
      have eA4_1_N34_ : ze N34_ 4 1 = ze Mz 4 1 := hsN34_.ea (hf.w hW) (by decide)
      have eD33_2_N34_ : ze N34_ (d_ + 33) 2 = ze Mz (d_ + 33) 2 := hsN34_.e (by decide)
      have eD33_3_N34_ : ze N34_ (d_ + 33) 3 = ze Mz (d_ + 33) 3 := hsN34_.e (by decide)
      have eD33_4_N34_ : ze N34_ (d_ + 33) 4 = ze Mz (d_ + 33) 4 := hsN34_.e (by decide)
      have eD33_5_N34_ : ze N34_ (d_ + 33) 5 = ze Mz (d_ + 33) 5 := hsN34_.e (by decide)
      have eD33_6_N34_ : ze N34_ (d_ + 33) 6 = ze Mz (d_ + 33) 6 := hsN34_.e (by decide)
      have qzkS_N34_ : zkS d_ N34_ = zkS d_ Mz := zkS_q hsN34_ (by decide)
      have qzkG_N34_ : zkG d_ N34_ = zkG d_ Mz := zkG_q hsN34_ (by decide)
      have qzkW_N34_ : zkW F_ d_ N34_ = zkW F_ d_ Mz := zkW_q hsN34_ (by decide)
      have c36_ : zYb b_ n_ N34_ := zYb.fr (hf.w hW) hsN34_ p0_ (by decide)
      have c37_ : zYt b_ n_ N34_ := zYt.fr (hf.w hW) hsN34_ p1_ (by decide)
      have c38_ : zKm F_ K_ d_ N34_ := zKm.fr (hf.w hW) hsN34_ p2_ (by decide)
      have c39_ : zCI F_ K_ d_ 0 N34_ := zCI.fr (hf.w hW) hsN34_ p3_ (by decide)
      have c40_ : zNm nm_ F_ K_ d_ N34_ := zNm.fr (hf.w hW) hsN34_ p4_ (by decide)
      have c41_ : zLow d_ Mz N34_ := zLow.fr (hf.w hW) hsN34_ dv0 (by decide)
      rcases hp0_N34_ with rfl
      · skip
        show zW l m_Reader_readNamed (zn Mz + 0, zw Mz + 0) N34_ 15 [some (.ref 4), some (.ref (d_ + 0)), none] [.int (Int32.ofInt 0)] _
        exact zk_iret (pc := 15) (ty := .boolean) rfl (z_narB (by (decide))) ⟨by (exact hv2_a), by (exact hv2_b)⟩ hf_N34_ ⟨c37_, (show ((0 = 1 ∧ zuo (zkS d_ Mz) (ze Mz 4 1).toNat ∧ zisn b_ n_ (ze Mz 1 2).toNat ∧ (∃ v, zfd nm_ (zkey b_ n_ (ze Mz 1 2).toNat) = some v ∧ zkW F_ d_ N34_ = zpu (zkG d_ Mz) v (zkW F_ d_ Mz)) ∧ zkS d_ N34_ = zkS d_ Mz ∧ zkG d_ N34_ = zkG d_ Mz ∧ zCI F_ K_ d_ 1 N34_ ∧ zLow d_ Mz N34_ ∧ ze N34_ 4 1 = ze Mz 4 1 + 1 ∧ ze Mz 4 1 ≤ 29) ∨ (0 = 0 ∧ zRea (zfs b_ n_ F_ K_ nm_) (zKst 0 F_ d_ Mz) zFt ∧ zLow d_ Mz N34_)) from Or.inr (⟨(show 0 = 0 by first | rfl | exact hrt_ | (exfalso; omega) | exact c41_), (show zRea (zfs b_ n_ F_ K_ nm_) (zKst 0 F_ d_ Mz) zFt by first | rfl | exact hrt_ | (exfalso; omega) | exact c41_), (show zLow d_ Mz N34_ by first | rfl | exact hrt_ | (exfalso; omega) | exact c41_)⟩))⟩ (zdal_p dlA_Reader_readNamed_122 (i := 7) rfl)
