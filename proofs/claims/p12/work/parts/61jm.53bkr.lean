set_option maxHeartbeats 4000000 in
theorem u_Sorts_countWithinG (l : Launch) (d_ : Nat) (Mz : zMem) (hW : zKW d_ Mz) (a0_ : Int) (ha0_a : -2147483648 ≤ a0_) (ha0_b : a0_ < 2147483648) (a1_ : Int) (ha1_a : -2147483648 ≤ a1_) (ha1_b : a1_ < 2147483648) (T_ : zGT) (hT_ : T_ ∈ gTabs) (p0_ : zFir T_ d_ Mz) (p1_ : zSbK T_ d_ Mz) (p2_ : 0 ≤ a0_) (p3_ : a0_ < (gF T_).length) (p4_ : 0 ≤ a1_) (p5_ : a1_ < (gF T_).length) : zC l m_Sorts_countWithin 0 0 [.ref (d_ + 12), .int (Int32.ofInt a0_), .int (Int32.ofInt a1_)] Mz (zqcI d_ [] [] [] [] Mz (fun v N => zfWi T_ a0_ (gFn T_ (a1_).toNat) v)) := by
  refine zC_of (L0 := [some (.ref (d_ + 12)), some (.int (Int32.ofInt a0_)), some (.int (Int32.ofInt a1_)), none, none]) md_Sorts_countWithin (Nat.le_of_ble_eq_true rfl) rfl ?_ zQ0
  have hf : zFc d_ [] [] [] [] Mz Mz := zFc.rf
  have r_D12_6 := ze_r Mz (d_ + 12) 6
  have hO_ := gTabs_ok T_ hT_
  have hG_ := hO_.1
  have hn24_ := hG_.2.1
  have hn1_ := hG_.1
  have hfl_ := p0_.1
  obtain ⟨⟨hm1_, hm35_⟩, hmm_, hms_, -⟩ := id p1_.1
  obtain ⟨⟨hF1_, hF27_⟩, hAr_⟩ := id (gT_zTA hT_)
  refine zw_iconst (pc := 0) (v := Int32.ofInt 0) (by decide) (zdal_p dlB_Sorts_countWithin_19 (i := 0) rfl) ?_
  refine zw_istore_n (pc := 1) (i := 3) (L2 := [some (.ref (d_ + 12)), some (.int (Int32.ofInt a0_)), some (.int (Int32.ofInt a1_)), some (.int (Int32.ofInt 0)), none]) rfl (by decide) rfl (zdal_p dlB_Sorts_countWithin_19 (i := 1) rfl) ?_
  refine zw_iconst (pc := 2) (v := Int32.ofInt 0) (by decide) (zdal_p dlB_Sorts_countWithin_19 (i := 2) rfl) ?_
  refine zw_istore (pc := 3) (i := 4) (L2 := [some (.ref (d_ + 12)), some (.int (Int32.ofInt a0_)), some (.int (Int32.ofInt a1_)), some (.int (Int32.ofInt 0)), some (.int (Int32.ofInt 0))]) (by decide) rfl (zdal_p dlB_Sorts_countWithin_19 (i := 3) rfl) ?_
  have lp_5 : ∀ (n : Nat) (u1_ : Int) (hu1_a : -2147483648 ≤ u1_) (hu1_b : u1_ < 2147483648) (u2_ : Int) (hu2_a : -2147483648 ≤ u2_) (hu2_b : u2_ < 2147483648) (i3_ : 0 ≤ u2_) (i4_ : u2_ ≤ ze Mz (d_ + 12) 6) (i5_ : 0 ≤ u1_) (i6_ : u1_ ≤ u2_) (i7_ : u1_ = ((zct (fun s_ => gWi T_ a0_ (gFn T_ (a1_).toNat) (ze Mz (d_ + 14) s_).toNat) (u2_).toNat : Nat) : Int)), (ze Mz (d_ + 12) 6 - u2_).toNat < n → zW l m_Sorts_countWithin (zn Mz + 0, zw Mz + 0) Mz 5 [some (.ref (d_ + 12)), some (.int (Int32.ofInt a0_)), some (.int (Int32.ofInt a1_)), some (.int (Int32.ofInt u1_)), some (.int (Int32.ofInt u2_))] [] (zqcI d_ [] [] [] [] Mz (fun v N => zfWi T_ a0_ (gFn T_ (a1_).toNat) v)) := by
    intro n
    induction n with
    | zero =>
      intro u1_ hu1_a hu1_b u2_ hu2_a hu2_b i3_ i4_ i5_ i6_ i7_ h0
      exact absurd h0 (Nat.not_lt_zero _)
    | succ n ih_5 =>
      intro u1_ hu1_a hu1_b u2_ hu2_a hu2_b i3_ i4_ i5_ i6_ i7_ hlt_5
      have hwc_ := (show u1_ = ((zct (fun s_ => gWi T_ a0_ (gFn T_ (a1_).toNat) (ze Mz (d_ + 14) s_).toNat) (u2_).toNat : Nat) : Int) by first | with_reducible assumption | assumption)
      refine zw_iload (pc := 5) (i := 4) (x := Int32.ofInt u2_) rfl (zdal_p dlB_Sorts_countWithin_19 (i := 4) rfl) ?_
      refine zw_aload_n (pc := 7) (n := 0) (x := (d_ + 12)) rfl (zdal_p dlB_Sorts_countWithin_19 (i := 5) rfl) ?_
      refine zk_getI (pc := 8) f_Sorts_36 rfl ((hf.w hW).kr (o := 12) (by decide)) (zdal_p dlB_Sorts_countWithin_19 (i := 6) rfl) ?_
      refine zr_icmp_ge (pc := 11) (tgt := 59) ⟨hu2_a, hu2_b⟩ ⟨(ze_r Mz (d_ + 12) 6).1, (ze_r Mz (d_ + 12) 6).2⟩ (by decide) (zdal_p dlB_Sorts_countWithin_19 (i := 7) rfl) (fun hc_11 => ?_) (fun hc_11 => ?_)
      · skip
        refine zw_iload_n (pc := 59) (n := 3) (x := Int32.ofInt u1_) rfl (zdal_p dlB_Sorts_countWithin_20 (i := 3) rfl) ?_
        exact zk_iret (pc := 60) (ty := .int) rfl rfl ⟨by omega, by omega⟩ hf (show zfWi T_ a0_ (gFn T_ (a1_).toNat) u1_ by exact ⟨_, _, p1_.1.en, by rw [show (ze Mz (d_ + 12) 6).toNat = (u2_).toNat by omega]; exact hwc_⟩) (zdal_p dlB_Sorts_countWithin_20 (i := 4) rfl)
      · skip
        refine zw_aload_n (pc := 14) (n := 0) (x := (d_ + 12)) rfl (zdal_p dlB_Sorts_countWithin_19 (i := 8) rfl) ?_
        refine zw_getF (pc := 15) f_Sorts_20 rfl ((hf.w hW).kr (o := 12) (by decide)) ((hf.w hW).lr (o := 12) (s := 2) (r := 15) (by decide)) (zdal_p dlB_Sorts_countWithin_19 (i := 9) rfl) ?_
        refine zw_iload (pc := 18) (i := 4) (x := Int32.ofInt u2_) rfl (zdal_p dlB_Sorts_countWithin_19 (i := 10) rfl) ?_
        refine zk_at hf.x (pc := 20) l_Sorts_49 ((hf.w hW).kr (o := 15) (by decide)) ((hf.w hW).lr (o := 15) (s := 0) (r := 16) (by decide)) ((hf.w hW).rr (o := 16) (t := 1) (n := 35) (by decide)) (by decide) (by omega) (by omega) (by decide) (Nat.le_of_ble_eq_true rfl) (zdal_p dlB_Sorts_countWithin_19 (i := 11) rfl) (fun v8_ hv8_ hv8_a hv8_b => ?_)
        have hv1_ := hv8_
        have hso_ := p1_.2 (u2_).toNat (by omega)
        have hsq_ : v8_ = a0_ ↔ zSrt T_ (ze Mz (d_ + 14) (u2_).toNat).toNat a0_ := by rw [hv1_]; exact hso_.q hO_
        refine zw_iload_n (pc := 23) (n := 1) (x := Int32.ofInt a0_) rfl (zdal_p dlB_Sorts_countWithin_19 (i := 12) rfl) ?_
        refine zr_icmp_ne (pc := 24) (tgt := 53) ⟨hv8_a, hv8_b⟩ ⟨ha0_a, ha0_b⟩ (by decide) (zdal_p dlB_Sorts_countWithin_19 (i := 13) rfl) (fun hc_24 => ?_) (fun hc_24 => ?_)
        · skip
          refine zr_iinc (pc := 53) (i := 4) (a := u2_) (n := 1) (L2 := [some (.ref (d_ + 12)), some (.int (Int32.ofInt a0_)), some (.int (Int32.ofInt a1_)), some (.int (Int32.ofInt u1_)), some (.int (Int32.ofInt (u2_ + 1)))]) rfl (by decide) rfl d_Sorts_countWithin_53 ?_
          refine zw_goto (pc := 56) (tgt := 5) (by decide) d_Sorts_countWithin_56 ?_
          have hwn_ : u1_ = ((zct (fun s_ => gWi T_ a0_ (gFn T_ (a1_).toNat) (ze Mz (d_ + 14) s_).toNat) ((u2_ + 1)).toNat : Nat) : Int) := by first | exact zct_1 (p := (fun s_ => gWi T_ a0_ (gFn T_ (a1_).toNat) (ze Mz (d_ + 14) s_).toNat)) (by omega) hwc_ ⟨hsq_.mp (by omega), by rw [← hv2_]; exact hp_⟩ | exact zct_0 (p := (fun s_ => gWi T_ a0_ (gFn T_ (a1_).toNat) (ze Mz (d_ + 14) s_).toNat)) (by omega) hwc_ (fun q_ => hp_ (by have q2_ := q_.2; rw [← hv2_] at q2_; exact q2_)) | exact zct_0 (p := (fun s_ => gWi T_ a0_ (gFn T_ (a1_).toNat) (ze Mz (d_ + 14) s_).toNat)) (by omega) hwc_ (fun q_ => absurd (hsq_.mpr q_.1) (by omega))
          exact ih_5 u1_ hu1_a hu1_b (u2_ + 1) (by omega) (by omega) (show 0 ≤ (u2_ + 1) by first | with_reducible assumption | assumption | omega) (show (u2_ + 1) ≤ ze Mz (d_ + 12) 6 by first | with_reducible assumption | assumption | omega) (show 0 ≤ u1_ by first | with_reducible assumption | assumption | omega) (show u1_ ≤ (u2_ + 1) by first | with_reducible assumption | assumption | omega) (show u1_ = ((zct (fun s_ => gWi T_ a0_ (gFn T_ (a1_).toNat) (ze Mz (d_ + 14) s_).toNat) ((u2_ + 1)).toNat : Nat) : Int) by exact hwn_) (by omega)
        · skip
          refine zw_aload_n (pc := 27) (n := 0) (x := (d_ + 12)) rfl (zdal_p dlB_Sorts_countWithin_19 (i := 14) rfl) ?_
          refine zw_getF (pc := 28) f_Sorts_14 rfl ((hf.w hW).kr (o := 12) (by decide)) ((hf.w hW).lr (o := 12) (s := 1) (r := 13) (by decide)) (zdal_p dlB_Sorts_countWithin_19 (i := 15) rfl) ?_
          refine zw_iload (pc := 31) (i := 4) (x := Int32.ofInt u2_) rfl (zdal_p dlB_Sorts_countWithin_19 (i := 16) rfl) ?_
          refine zk_at hf.x (pc := 33) l_Sorts_49 ((hf.w hW).kr (o := 13) (by decide)) ((hf.w hW).lr (o := 13) (s := 0) (r := 14) (by decide)) ((hf.w hW).rr (o := 14) (t := 1) (n := 35) (by decide)) (by decide) (by omega) (by omega) (by decide) (Nat.le_of_ble_eq_true rfl) (zdal_p dlB_Sorts_countWithin_19 (i := 17) rfl) (fun v9_ hv9_ hv9_a hv9_b => ?_)
          have hv2_ := hv9_
          have hs3_ := hmm_ (u2_).toNat (by omega)
          have hs4_ := gS_b hO_ hs3_.2
          have hs5_ : zRw d_ 14 Mz (u2_).toNat = v9_ := hv2_.symm
          rw [hs5_] at hs3_ hs4_
          refine zw_aload_n (pc := 36) (n := 0) (x := (d_ + 12)) rfl (zdal_p dlB_Sorts_countWithin_19 (i := 18) rfl) ?_
          refine zw_getF (pc := 37) f_Sorts_26 rfl ((hf.w hW).kr (o := 12) (by decide)) ((hf.w hW).lr (o := 12) (s := 4) (r := 19) (by decide)) (zdal_p dlB_Sorts_countWithin_19 (i := 19) rfl) ?_
          refine zw_iload_n (pc := 40) (n := 2) (x := Int32.ofInt a1_) rfl (zdal_p dlB_Sorts_countWithin_19 (i := 20) rfl) ?_
          refine zk_at hf.x (pc := 41) l_Sorts_49 ((hf.w hW).kr (o := 19) (by decide)) ((hf.w hW).lr (o := 19) (s := 0) (r := 20) (by decide)) ((hf.w hW).rr (o := 20) (t := 1) (n := 27) (by decide)) (by decide) (by omega) (by omega) (by decide) (Nat.le_of_ble_eq_true rfl) (zdal_p dlB_Sorts_countWithin_19 (i := 21) rfl) (fun v10_ hv10_ hv10_a hv10_b => ?_)
          have hfvc_ := hv10_
          have hfwc_ : v10_ = ((gFn T_ (a1_).toNat : Nat) : Int) := hfvc_.trans (p0_.2 _ (by omega))
          have hfmc_ := (hO_.2.2.1.2.1 _ (gFn_m (T := T_) (i := (a1_).toNat) (by omega))).1
          have hfbc_ := gS_b hO_ hfmc_
          refine zr_callS hf.x (pc := 44) [.int (Int32.ofInt v9_), .int (Int32.ofInt v10_)] [] l_Sorts_96 (u_T_isPart l d_ Mz (hf.w hW) v9_ hv9_a hv9_b v10_ hv10_a hv10_b (show 0 ≤ v9_ by first | with_reducible assumption | assumption | omega) (show v9_ < 2147483648 by first | with_reducible assumption | assumption | omega) (show 0 ≤ v10_ by first | with_reducible assumption | assumption | omega) (show v10_ < 2147483648 by first | with_reducible assumption | assumption | omega)) rfl rfl (by decide) (Nat.le_of_ble_eq_true rfl) (zdal_p dlB_Sorts_countWithin_19 (i := 22) rfl) ?_
          rintro _ N11_ ⟨v12_, rfl, ⟨hv12_a, hv12_b⟩, hsN11_, hp0_N11_⟩
          obtain rfl := hsN11_.eq.symm
          replace hp0_N11_ : ((v12_ = 1 ∧ (v9_).toNat &&& (v10_).toNat = (v9_).toNat) ∨ (v12_ = 0 ∧ ¬ (v9_).toNat &&& (v10_).toNat = (v9_).toNat)) := hp0_N11_
          rcases hp0_N11_ with ⟨rfl, ha44_0_hp0_N11_⟩ | ⟨rfl, ha44_0_hp0_N11_⟩
          · skip
            have hp_ := ha44_0_hp0_N11_
            rw [hfwc_, Int.toNat_natCast] at hp_
            show zW l m_Sorts_countWithin (zn Mz + 0, zw Mz + 0) Mz 47 [some (.ref (d_ + 12)), some (.int (Int32.ofInt a0_)), some (.int (Int32.ofInt a1_)), some (.int (Int32.ofInt u1_)), some (.int (Int32.ofInt u2_))] [.int (Int32.ofInt 1)] _
            refine zr_if_eq (pc := 47) (tgt := 53) ⟨(by decide), (by decide)⟩ (by decide) (zdal_p dlB_Sorts_countWithin_19 (i := 23) rfl) (fun hc_47 => ?_) (fun hc_47 => ?_)
            · skip
              exact absurd hc_47 (by decide)
            · skip
              refine zr_iinc (pc := 50) (i := 3) (a := u1_) (n := 1) (L2 := [some (.ref (d_ + 12)), some (.int (Int32.ofInt a0_)), some (.int (Int32.ofInt a1_)), some (.int (Int32.ofInt (u1_ + 1))), some (.int (Int32.ofInt u2_))]) rfl (by decide) rfl (zdal_p dlB_Sorts_countWithin_20 (i := 0) rfl) ?_
              refine zr_iinc (pc := 53) (i := 4) (a := u2_) (n := 1) (L2 := [some (.ref (d_ + 12)), some (.int (Int32.ofInt a0_)), some (.int (Int32.ofInt a1_)), some (.int (Int32.ofInt (u1_ + 1))), some (.int (Int32.ofInt (u2_ + 1)))]) rfl (by decide) rfl d_Sorts_countWithin_53 ?_
              refine zw_goto (pc := 56) (tgt := 5) (by decide) d_Sorts_countWithin_56 ?_
              have hwn_ : (u1_ + 1) = ((zct (fun s_ => gWi T_ a0_ (gFn T_ (a1_).toNat) (ze Mz (d_ + 14) s_).toNat) ((u2_ + 1)).toNat : Nat) : Int) := by first | exact zct_1 (p := (fun s_ => gWi T_ a0_ (gFn T_ (a1_).toNat) (ze Mz (d_ + 14) s_).toNat)) (by omega) hwc_ ⟨hsq_.mp (by omega), by rw [← hv2_]; exact hp_⟩ | exact zct_0 (p := (fun s_ => gWi T_ a0_ (gFn T_ (a1_).toNat) (ze Mz (d_ + 14) s_).toNat)) (by omega) hwc_ (fun q_ => hp_ (by have q2_ := q_.2; rw [← hv2_] at q2_; exact q2_)) | exact zct_0 (p := (fun s_ => gWi T_ a0_ (gFn T_ (a1_).toNat) (ze Mz (d_ + 14) s_).toNat)) (by omega) hwc_ (fun q_ => absurd (hsq_.mpr q_.1) (by omega))
              exact ih_5 (u1_ + 1) (by omega) (by omega) (u2_ + 1) (by omega) (by omega) (show 0 ≤ (u2_ + 1) by first | with_reducible assumption | assumption | omega) (show (u2_ + 1) ≤ ze Mz (d_ + 12) 6 by first | with_reducible assumption | assumption | omega) (show 0 ≤ (u1_ + 1) by first | with_reducible assumption | assumption | omega) (show (u1_ + 1) ≤ (u2_ + 1) by first | with_reducible assumption | assumption | omega) (show (u1_ + 1) = ((zct (fun s_ => gWi T_ a0_ (gFn T_ (a1_).toNat) (ze Mz (d_ + 14) s_).toNat) ((u2_ + 1)).toNat : Nat) : Int) by exact hwn_) (by omega)
          · skip
            have hp_ := ha44_0_hp0_N11_
            rw [hfwc_, Int.toNat_natCast] at hp_
            show zW l m_Sorts_countWithin (zn Mz + 0, zw Mz + 0) Mz 47 [some (.ref (d_ + 12)), some (.int (Int32.ofInt a0_)), some (.int (Int32.ofInt a1_)), some (.int (Int32.ofInt u1_)), some (.int (Int32.ofInt u2_))] [.int (Int32.ofInt 0)] _
            refine zr_if_eq (pc := 47) (tgt := 53) ⟨(by decide), (by decide)⟩ (by decide) (zdal_p dlB_Sorts_countWithin_19 (i := 23) rfl) (fun hc_47 => ?_) (fun hc_47 => ?_)
            · skip
              refine zr_iinc (pc := 53) (i := 4) (a := u2_) (n := 1) (L2 := [some (.ref (d_ + 12)), some (.int (Int32.ofInt a0_)), some (.int (Int32.ofInt a1_)), some (.int (Int32.ofInt u1_)), some (.int (Int32.ofInt (u2_ + 1)))]) rfl (by decide) rfl d_Sorts_countWithin_53 ?_
              refine zw_goto (pc := 56) (tgt := 5) (by decide) d_Sorts_countWithin_56 ?_
              have hwn_ : u1_ = ((zct (fun s_ => gWi T_ a0_ (gFn T_ (a1_).toNat) (ze Mz (d_ + 14) s_).toNat) ((u2_ + 1)).toNat : Nat) : Int) := by first | exact zct_1 (p := (fun s_ => gWi T_ a0_ (gFn T_ (a1_).toNat) (ze Mz (d_ + 14) s_).toNat)) (by omega) hwc_ ⟨hsq_.mp (by omega), by rw [← hv2_]; exact hp_⟩ | exact zct_0 (p := (fun s_ => gWi T_ a0_ (gFn T_ (a1_).toNat) (ze Mz (d_ + 14) s_).toNat)) (by omega) hwc_ (fun q_ => hp_ (by have q2_ := q_.2; rw [← hv2_] at q2_; exact q2_)) | exact zct_0 (p := (fun s_ => gWi T_ a0_ (gFn T_ (a1_).toNat) (ze Mz (d_ + 14) s_).toNat)) (by omega) hwc_ (fun q_ => absurd (hsq_.mpr q_.1) (by omega))
              exact ih_5 u1_ hu1_a hu1_b (u2_ + 1) (by omega) (by omega) (show 0 ≤ (u2_ + 1) by first | with_reducible assumption | assumption | omega) (show (u2_ + 1) ≤ ze Mz (d_ + 12) 6 by first | with_reducible assumption | assumption | omega) (show 0 ≤ u1_ by first | with_reducible assumption | assumption | omega) (show u1_ ≤ (u2_ + 1) by first | with_reducible assumption | assumption | omega) (show u1_ = ((zct (fun s_ => gWi T_ a0_ (gFn T_ (a1_).toNat) (ze Mz (d_ + 14) s_).toNat) ((u2_ + 1)).toNat : Nat) : Int) by exact hwn_) (by omega)
            · skip
              exact absurd hc_47 (by decide)
  exact lp_5 _ 0 (by decide) (by decide) 0 (by decide) (by decide) (show 0 ≤ (0 : Int) by first | with_reducible assumption | assumption | omega) (show (0 : Int) ≤ ze Mz (d_ + 12) 6 by first | with_reducible assumption | assumption | omega) (show 0 ≤ (0 : Int) by first | with_reducible assumption | assumption | omega) (show (0 : Int) ≤ (0 : Int) by first | with_reducible assumption | assumption | omega) (show (0 : Int) = ((zct (fun s_ => gWi T_ a0_ (gFn T_ (a1_).toNat) (ze Mz (d_ + 14) s_).toNat) ((0 : Int)).toNat : Nat) : Int) by rfl) (Nat.lt_succ_self _)
