def zr101 (M : zMem) : Nat → Int := fun k => zg M 101 k
theorem zr101_f {S C : List Nat} {M N : zMem} (h : zFr S C M N) (hc : 101 ∉ C) : zr101 N = zr101 M := funext fun k => h.jg (by decide) hc k
def zr102 (M : zMem) : Nat → Int := fun k => zg M 102 k
theorem zr102_f {S C : List Nat} {M N : zMem} (h : zFr S C M N) (hc : 102 ∉ C) : zr102 N = zr102 M := funext fun k => h.jg (by decide) hc k
section ZRL
variable {F n : Nat} {K : Nat → Nat → Int} {b : Nat → Int} {nm : List (Int × (Nat → Int))} {M N : zMem}
theorem zRNm.u {q : Nat} {v : Nat → Int} (h : zRNm nm F K b n M) (h14 : ze N 81 14 = ze M 81 14 + 1) (h7 : ze M 81 14 ≤ 7) (hq : zkd b n q = 1) (hw : zg N 101 (ze M 81 14).toNat = zke8 b n q) (ho : ∀ k : Nat, (k : Int) < ze M 81 14 → zg N 101 k = zg M 101 k) (hv : zrw F N 102 (64 * ze M 81 14) = v) (hvo : ∀ k : Nat, (k : Int) < ze M 81 14 → zrw F N 102 (64 * (k : Int)) = zrw F M 102 (64 * (k : Int))) (hf : zfit F K v) : zRNm (nm ++ [(zkey b n q, v)]) F K b n N := by
  obtain ⟨a1, gk, a2, a3⟩ := h
  refine ⟨by omega, fun k => if (k : Int) = ze M 81 14 then zkey b n q else gk k, ?_, fun k hk => ?_⟩
  · have e1 : (ze N 81 14).toNat = (ze M 81 14).toNat + 1 := by omega
    have e2 : zup (fun k : Nat => (gk k, zrw F M 102 (64 * (k : Int)))) (ze M 81 14).toNat 0 = zup (fun k : Nat => ((if (k : Int) = ze M 81 14 then zkey b n q else gk k), zrw F N 102 (64 * (k : Int)))) (ze M 81 14).toNat 0 := zup_c _ _ (fun j _ hj => by
      show (gk j, zrw F M 102 (64 * (j : Int))) = ((if (j : Int) = ze M 81 14 then zkey b n q else gk j), zrw F N 102 (64 * (j : Int)))
      rw [if_neg (by omega), hvo j (by omega)])
    show nm ++ [(zkey b n q, v)] = zup (fun k : Nat => ((if (k : Int) = ze M 81 14 then zkey b n q else gk k), zrw F N 102 (64 * (k : Int)))) (ze N 81 14).toNat 0
    rw [e1, zup_s, a2, e2]
    have e3 : ((0 + (ze M 81 14).toNat : Nat) : Int) = ze M 81 14 := by omega
    show _ ++ [(zkey b n q, v)] = _ ++ [((if ((0 + (ze M 81 14).toNat : Nat) : Int) = ze M 81 14 then zkey b n q else gk (0 + (ze M 81 14).toNat)), zrw F N 102 (64 * ((0 + (ze M 81 14).toNat : Nat) : Int)))]
    rw [if_pos e3, e3, hv]
  · by_cases g : (k : Int) = ze M 81 14
    · refine ⟨?_, ?_⟩
      · show zWrd (zg N 101 k) (if (k : Int) = ze M 81 14 then zkey b n q else gk k)
        rw [if_pos g, show k = (ze M 81 14).toNat by omega, hw]
        exact zWrd.k hq
      · rw [g, hv]
        exact hf
    · obtain ⟨p1, p4⟩ := a3 k (by omega)
      refine ⟨?_, ?_⟩
      · show zWrd (zg N 101 k) (if (k : Int) = ze M 81 14 then zkey b n q else gk k)
        rw [if_neg g, ho k (by omega)]
        exact p1
      · rw [hvo k (by omega)]
        exact p4
theorem zRst_g (h : ze N 81 39 ≠ 0) : zRst 3 F N = (3, (ze N 81 4).toNat, zrS N, zrW F N, (ze N 81 43).toNat, true) := by
  unfold zRst
  rw [zrG_1 h]
theorem zRst_3 (hI : zRI F K 1 N) (hS : zrS N = []) (h0 : ze N 81 39 = 0) : zRst 3 F N = (3, (ze N 81 4).toNat, [], [zrw F N 95 0], (ze N 81 43).toNat, false) ∧ zfit F K (zrw F N 95 0) := by
  have h4 := hI.2.2.2.1
  rw [hS] at h4
  have hz0 : zbn ([] : List Nat) = 0 := rfl
  have h38 : ze N 81 38 = 1 := by omega
  have e0 : (64 : Int) * (ze N 81 38 - 1) = 0 := by omega
  have hf := hI.ft h0 0 (by omega) (by omega)
  rw [Int.mul_zero] at hf
  refine ⟨?_, hf⟩
  unfold zRst
  rw [zrG_0 h0, zrW_c h0 (by omega), hS, e0, show (ze N 81 38 - 1).toNat = 0 by omega]
  rfl
theorem zfs_d {x : Nat × List Nat × List (Nat → Int) × Nat × Bool} : zfs b n F K nm (3, x) = (3, x) := rfl
def zMrI (b : Nat → Int) (n P p : Nat) (m : Int) (N : zMem) (k met : Int) : Prop := ∃ l : List Nat, zrm b n P P p [] = zrm b n P (P - k.toNat) (ze N 81 4).toNat l ∧ zmV P l ∧ (l.length : Int) = k ∧ zmt met l ∧ ∀ i : Nat, (i : Int) < k → ze N 83 (6 * m.toNat + i) = ((l.getD i 0 : Nat) : Int)
theorem zMrI_0 {P p : Nat} {m : Int} (hp : (ze N 81 4).toNat = p) : zMrI b n P p m N 0 0 := ⟨[], by rw [hp]; rfl, zmV_0 P, rfl, zmt_0, fun i h => absurd h (by omega)⟩
theorem zMrI_f {P p : Nat} {m k met : Int} (h : zMrI b n P p m N k met) (k0 : 0 ≤ k) (kP : k < P) (hn : ¬ (zkd b n (ze N 81 4).toNat = 2 ∧ znu b n (ze N 81 4).toNat < P ∧ ¬ zbt met (znu b n (ze N 81 4).toNat))) (h6 : P ≤ 6) : zrm b n P P p [] = none := by
  obtain ⟨l, a1, a2, a3, a4, a5⟩ := h
  rw [a1, show P - k.toNat = (P - k.toNat - 1) + 1 by omega]
  refine zrm_f (fun q => hn ⟨q.1, q.2.1, fun z => q.2.2 ?_⟩)
  have hb := znu_b q.1
  have h2 := q.2.1
  have h3 := a4.2 (znu b n (ze N 81 4).toNat).toNat (by omega)
  rw [Int.toNat_of_nonneg hb.1] at h3
  exact h3.mp z
theorem zMrI_s {P p : Nat} {m k met v : Int} {N2 : zMem} (h : zMrI b n P p m M k met) (k0 : 0 ≤ k) (kP : k < P) (h6 : P ≤ 6) (m0 : 0 ≤ m) (hk : zkd b n (ze M 81 4).toNat = 2) (hv : v = znu b n (ze M 81 4).toNat) (v0 : 0 ≤ v) (vP : v < P) (hn : ¬ zbt met v) (hN : N = zsI M 83 (6 * m + k).toNat (Int32.ofInt v)) (h83 : ∀ j : Nat, ze N2 83 j = ze N 83 j) (hp : (ze N2 81 4).toNat = znx b n (ze M 81 4).toNat) : zMrI b n P p m N2 (k + 1) (zor met (zshl 1 v)) := by
  obtain ⟨l, a1, a2, a3, a4, a5⟩ := h
  have hnl : v.toNat ∉ l := fun q => hn (by
    have h3 := (a4.2 v.toNat (by omega)).mpr q
    rwa [Int.toNat_of_nonneg v0] at h3)
  refine ⟨l ++ [v.toNat], ?_, a2.s (by omega) hnl, by rw [List.length_append, List.length_singleton]; omega, a4.s v0 (by omega), fun i hi => ?_⟩
  · rw [a1, show P - k.toNat = (P - (k + 1).toNat) + 1 by omega, zrm_t ⟨hk, by omega, by rw [← hv]; exact hnl⟩, hp, ← hv]
  · rw [h83]
    by_cases g : (i : Int) = k
    · rw [show 6 * m.toNat + i = (6 * m + k).toNat by omega, zs_get hN ⟨by omega, by omega⟩, show i = l.length by omega, zap_2]
      omega
    · rw [zs_oth hN (by omega), zap_1 (by omega)]
      exact a5 i (by omega)
theorem zMrI.fr {S C : List Nat} {P p : Nat} {m k met : Int} (hf : zFr S C M N) (h : zMrI b n P p m M k met) (hs : 4 ∉ S) (hc : 83 ∉ C) : zMrI b n P p m N k met := by
  obtain ⟨l, a1, a2, a3, a4, a5⟩ := h
  exact ⟨l, by rw [hf.e hs]; exact a1, a2, a3, a4, fun i hi => by rw [hf.ie (by decide) hc]; exact a5 i hi⟩
theorem zMrI_e {P p : Nat} {m k met : Int} (h : zMrI b n P p m N k met) (hk : k = P) : ∃ l : List Nat, zrm b n P P p [] = some ((ze N 81 4).toNat, l) ∧ zmV P l ∧ l.length = P ∧ ∀ i : Nat, i < P → ze N 83 (6 * m.toNat + i) = ((l.getD i 0 : Nat) : Int) := by
  obtain ⟨l, a1, a2, a3, a4, a5⟩ := h
  refine ⟨l, ?_, a2, by omega, fun i hi => a5 i (by omega)⟩
  rw [a1, show P - k.toNat = 0 by omega]
  rfl
theorem zMvs_u {l : List Nat} {P : Nat} (hP : ze M 81 12 = P) (h6 : P ≤ 6) (h0 : 0 ≤ ze M 81 13) (h12 : ze N 81 12 = ze M 81 12) (h13 : ze N 81 13 = ze M 81 13 + 1) (hk : zKp M N (6 * ze M 81 13)) (hl : ∀ i : Nat, i < P → ze N 83 (6 * (ze M 81 13).toNat + i) = ((l.getD i 0 : Nat) : Int)) : zMvs N = zMvs M ++ [zmc P l] := by
  unfold zMvs
  rw [h12, h13, show (ze M 81 13 + 1).toNat = (ze M 81 13).toNat + 1 by omega, List.range_succ, List.map_append]
  refine congr (congrArg HAppend.hAppend ?_) ?_
  · refine List.map_congr_left (fun k hk2 => ?_)
    have hk3 := List.mem_range.mp hk2
    exact zrc_c2 (fun p hp hp6 => hk _ (by omega))
  · show [zrc N 83 (ze M 81 13).toNat (ze M 81 12)] = [zmc P l]
    refine congrArg (fun x => [x]) ?_
    rw [zrc_m]
    unfold zmc
    refine gmkc_c (fun p hp => ?_)
    show zrd N 83 (ze M 81 13).toNat (ze M 81 12) p = (if p < P then l.getD p 0 else p)
    unfold zrd
    by_cases g : p < P
    · rw [if_pos (by omega), if_pos g, hl p g, Int.toNat_natCast]
    · rw [if_neg (by omega), if_neg g]
theorem zMvs_l (M : zMem) : (zMvs M).length = (ze M 81 13).toNat := by
  unfold zMvs
  rw [List.length_map, List.length_range]
end ZRL
set_option maxHeartbeats 40000000 in
theorem c_M_letLineF (l : Launch) (Mz : zMem) (hW : zMt Mz) (F_ : Nat) (K_ : Nat → Nat → Int) (hA_ : zTA F_ K_) (b_ : Nat → Int) (n_ : Nat) (nm_ : List (Int × (Nat → Int))) (p0_ : zRmk F_ K_ Mz) (p1_ : zRb b_ n_ Mz) (p2_ : zRt b_ n_ Mz) (p3_ : zRNm nm_ F_ K_ b_ n_ Mz) (p4_ : ze Mz 81 7 = 0) (p5_ : zkd b_ n_ (ze Mz 81 4).toNat = 1) (p6_ : zkey b_ n_ (ze Mz 81 4).toNat = zkw 2) : zC l m_M_letLine 0 0 [.ref 81] Mz (zpV [3, 4, 5, 6, 7, 8, 11, 14, 38, 39, 41, 42, 43] [95, 96, 97, 100, 101, 102] Mz (fun N => zRt b_ n_ N ∧ 0 ≤ ze N 81 14 ∧ ze N 81 14 ≤ 8 ∧ (((1 ≤ ze N 81 7 ∧ zls b_ n_ F_ K_ (0, (ze Mz 81 4).toNat, nm_) = zLf) ∨ (ze N 81 7 = 0 ∧ (∃ nm2 : List (Int × (Nat → Int)), zls b_ n_ F_ K_ (0, (ze Mz 81 4).toNat, nm_) = (0, (ze N 81 4).toNat, nm2) ∧ zRNm nm2 F_ K_ b_ n_ N) ∧ ze Mz 81 4 < ze N 81 4))))) := by
  refine zC_of (L0 := [some (.ref 81), none, none, none, none]) md_M_letLine (Nat.le_of_ble_eq_true rfl) rfl ?_ zQ0
  have hf : zFr [3, 4, 5, 6, 7, 8, 11, 14, 38, 39, 41, 42, 43] [95, 96, 97, 100, 101, 102] Mz Mz := zFr.rf
  have r_3 := ze_r Mz 81 3
  have r_4 := ze_r Mz 81 4
  have r_7 := ze_r Mz 81 7
  have r_14 := ze_r Mz 81 14
  have r_26 := ze_r Mz 81 26
  have r_39 := ze_r Mz 81 39
  obtain ⟨⟨hF1_, hF27_⟩, hAr_⟩ := id hA_
  obtain ⟨hFc_, hKt_⟩ := id p0_
  have hl0_ := And.intro p5_ p6_
  have hlen_ := p3_.len
  obtain ⟨hw0_, hw8_⟩ := id p3_.1
  refine zw_aload_n (pc := 0) (n := 0) (x := 81) rfl (zdal_p dlC_M_letLine_86 (i := 0) rfl) ?_
  refine zr_getI (hf.w hW) (pc := 1) f_M_145 rfl (zdal_p dlC_M_letLine_86 (i := 1) rfl) ?_
  refine zw_istore_n (pc := 4) (i := 1) (L2 := [some (.ref 81), some (.int (Int32.ofInt (ze Mz 81 4))), none, none, none]) rfl (by decide) rfl (zdal_p dlC_M_letLine_86 (i := 2) rfl) ?_
  refine zw_aload_n (pc := 5) (n := 0) (x := 81) rfl (zdal_p dlC_M_letLine_86 (i := 3) rfl) ?_
  refine zr_getI (hf.w hW) (pc := 6) f_M_299 rfl (zdal_p dlC_M_letLine_86 (i := 4) rfl) ?_
  refine zw_bipush (pc := 9) (v := Int32.ofInt 8) (by decide) (zdal_p dlC_M_letLine_86 (i := 5) rfl) ?_
  refine zr_icmp_ne (pc := 11) (tgt := 19) ⟨(ze_r Mz 81 14).1, (ze_r Mz 81 14).2⟩ ⟨(by decide), (by decide)⟩ (by decide) (zdal_p dlC_M_letLine_86 (i := 6) rfl) (fun hc_11 => ?_) (fun hc_11 => ?_)
  · skip
    refine zw_aload_n (pc := 19) (n := 0) (x := 81) rfl (zdal_p dlC_M_letLine_86 (i := 10) rfl) ?_
    refine zr_callV (hf.w hW) hf.x (pc := 20) [] [] l_M_183 (c_M_isGood l Mz (hf.w hW) ) rfl rfl rfl (by decide) (Nat.le_of_ble_eq_true rfl) (zdal_p dlC_M_letLine_86 (i := 11) rfl) ?_
    rintro _ N1_ ⟨v2_, rfl, ⟨hv2_a, hv2_b⟩, hsN1_, hp0_N1_⟩
    obtain rfl := hsN1_.eq.symm
    replace hp0_N1_ : ((v2_ = 1 ∧ ze Mz 81 7 = 0) ∨ (v2_ = 0 ∧ ze Mz 81 7 ≠ 0)) := hp0_N1_
    rcases hp0_N1_ with ⟨rfl, ha20_0_hp0_N1_⟩ | ⟨rfl, ha20_0_hp0_N1_⟩
    · skip
      show zW l m_M_letLine (zn Mz + 0, zw Mz + 0) Mz 23 [some (.ref 81), some (.int (Int32.ofInt (ze Mz 81 4))), none, none, none] [.int (Int32.ofInt 1)] _
      refine zr_if_eq (pc := 23) (tgt := 30) ⟨(by decide), (by decide)⟩ (by decide) (zdal_p dlC_M_letLine_86 (i := 12) rfl) (fun hc_23 => ?_) (fun hc_23 => ?_)
      · skip
        exact absurd hc_23 (by decide)
      · skip
        have hyt_ := p2_
        have hyx_ := hyt_.x
        refine zw_aload_n (pc := 26) (n := 0) (x := 81) rfl (zdal_p dlC_M_letLine_86 (i := 13) rfl) ?_
        refine zr_callV (hf.w hW) hf.x (pc := 27) [] [] l_M_193 (c_M_goOnF l Mz (hf.w hW) b_ n_ p1_ (show 0 ≤ ze Mz 81 3 by first | assumption | omega) (show ze Mz 81 3 ≤ n_ by first | assumption | omega)) rfl rfl rfl (by decide) (Nat.le_of_ble_eq_true rfl) (zdal_p dlC_M_letLine_86 (i := 14) rfl) ?_
        rintro _ N3_ ⟨rfl, hsN3_, ⟨hp0_N3_, hp1_N3_⟩⟩
        have hf_N3_ : zFr [3, 4, 5, 6, 7, 8, 11, 14, 38, 39, 41, 42, 43] [95, 96, 97, 100, 101, 102] Mz N3_ := hf.tr hsN3_ (by decide) (by decide)
        have r3_N3_ := ze_r N3_ 81 3
        have r4_N3_ := ze_r N3_ 81 4
        have e7_N3_ : ze N3_ 81 7 = ze Mz 81 7 := hsN3_.e (by decide)
        have e14_N3_ : ze N3_ 81 14 = ze Mz 81 14 := hsN3_.e (by decide)
        have e26_N3_ : ze N3_ 81 26 = ze Mz 81 26 := hsN3_.e (by decide)
        have e39_N3_ : ze N3_ 81 39 = ze Mz 81 39 := hsN3_.e (by decide)
        have qzr95_N3_ : zr95 N3_ = zr95 Mz := zr95_f hsN3_ (by decide)
        have qzr101_N3_ : zr101 N3_ = zr101 Mz := zr101_f hsN3_ (by decide)
        have qzr102_N3_ : zr102 N3_ = zr102 Mz := zr102_f hsN3_ (by decide)
        have c5_ : zRmk F_ K_ N3_ := zRmk.fr hsN3_ p0_ (by decide) (by decide)
        have c6_ : zRb b_ n_ N3_ := zRb.fr hsN3_ p1_ (by decide) (by decide)
        have c7_ : zRNm nm_ F_ K_ b_ n_ N3_ := zRNm.fr hsN3_ p3_ (by decide) (by decide)
        show zW l m_M_letLine (zn Mz + 0, zw Mz + 0) N3_ 30 [some (.ref 81), some (.int (Int32.ofInt (ze Mz 81 4))), none, none, none] [] _
        have hnn_ := hyt_.nx hp0_N3_
        have hx1_ := hnn_.2
        have hg1_ := znx_g (b := b_) (n := n_) (s := (ze Mz 81 4).toNat) (by omega)
        refine zw_aload_n (pc := 30) (n := 0) (x := 81) rfl (zdal_p dlC_M_letLine_86 (i := 15) rfl) ?_
        refine zr_callV (hf_N3_.w hW) hf_N3_.x (pc := 31) [] [] l_M_183 (c_M_isGood l N3_ (hf_N3_.w hW) ) rfl rfl rfl (by decide) (Nat.le_of_ble_eq_true rfl) (zdal_p dlC_M_letLine_86 (i := 16) rfl) ?_
        rintro _ N8_ ⟨v9_, rfl, ⟨hv9_a, hv9_b⟩, hsN8_, hp0_N8_⟩
        obtain rfl := hsN8_.eq.symm
        replace hp0_N8_ : ((v9_ = 1 ∧ ze N3_ 81 7 = 0) ∨ (v9_ = 0 ∧ ze N3_ 81 7 ≠ 0)) := hp0_N8_
        rcases hp0_N8_ with ⟨rfl, ha31_0_hp0_N8_⟩ | ⟨rfl, ha31_0_hp0_N8_⟩
        · skip
          show zW l m_M_letLine (zn Mz + 0, zw Mz + 0) N3_ 34 [some (.ref 81), some (.int (Int32.ofInt (ze Mz 81 4))), none, none, none] [.int (Int32.ofInt 1)] _
          refine zr_if_eq (pc := 34) (tgt := 49) ⟨(by decide), (by decide)⟩ (by decide) (zdal_p dlC_M_letLine_86 (i := 17) rfl) (fun hc_34 => ?_) (fun hc_34 => ?_)
          · skip
            exact absurd hc_34 (by decide)
          · skip
            refine zw_aload_n (pc := 37) (n := 0) (x := 81) rfl (zdal_p dlC_M_letLine_86 (i := 18) rfl) ?_
            refine zr_callV (hf_N3_.w hW) hf_N3_.x (pc := 38) [] [] l_M_316 (c_M_isNameF l N3_ (hf_N3_.w hW) b_ n_ hp1_N3_) rfl rfl rfl (by decide) (Nat.le_of_ble_eq_true rfl) (zdal_p dlC_M_letLine_86 (i := 19) rfl) ?_
            rintro _ N10_ ⟨v11_, rfl, ⟨hv11_a, hv11_b⟩, hsN10_, hp0_N10_⟩
            obtain rfl := hsN10_.eq.symm
            replace hp0_N10_ : ((v11_ = 1 ∧ zisn b_ n_ (ze N3_ 81 4).toNat) ∨ (v11_ = 0 ∧ ¬ zisn b_ n_ (ze N3_ 81 4).toNat)) := hp0_N10_
            rcases hp0_N10_ with ⟨rfl, ha38_0_hp0_N10_⟩ | ⟨rfl, ha38_0_hp0_N10_⟩
            · skip
              have hna_ := ha38_0_hp0_N10_
              rw [hx1_] at hna_
              show zW l m_M_letLine (zn Mz + 0, zw Mz + 0) N3_ 41 [some (.ref 81), some (.int (Int32.ofInt (ze Mz 81 4))), none, none, none] [.int (Int32.ofInt 1)] _
              refine zr_if_ne (pc := 41) (tgt := 49) ⟨(by decide), (by decide)⟩ (by decide) (zdal_p dlC_M_letLine_86 (i := 20) rfl) (fun hc_41 => ?_) (fun hc_41 => ?_)
              · skip
                refine zw_aload_n (pc := 49) (n := 0) (x := 81) rfl (zdal_p dlC_M_letLine_87 (i := 0) rfl) ?_
                refine zr_callV (hf_N3_.w hW) hf_N3_.x (pc := 50) [] [] l_M_183 (c_M_isGood l N3_ (hf_N3_.w hW) ) rfl rfl rfl (by decide) (Nat.le_of_ble_eq_true rfl) (zdal_p dlC_M_letLine_87 (i := 1) rfl) ?_
                rintro _ N12_ ⟨v13_, rfl, ⟨hv13_a, hv13_b⟩, hsN12_, hp0_N12_⟩
                obtain rfl := hsN12_.eq.symm
                replace hp0_N12_ : ((v13_ = 1 ∧ ze N3_ 81 7 = 0) ∨ (v13_ = 0 ∧ ze N3_ 81 7 ≠ 0)) := hp0_N12_
                rcases hp0_N12_ with ⟨rfl, ha50_0_hp0_N12_⟩ | ⟨rfl, ha50_0_hp0_N12_⟩
                · skip
                  show zW l m_M_letLine (zn Mz + 0, zw Mz + 0) N3_ 53 [some (.ref 81), some (.int (Int32.ofInt (ze Mz 81 4))), none, none, none] [.int (Int32.ofInt 1)] _
                  refine zr_if_eq (pc := 53) (tgt := 69) ⟨(by decide), (by decide)⟩ (by decide) (zdal_p dlC_M_letLine_87 (i := 2) rfl) (fun hc_53 => ?_) (fun hc_53 => ?_)
                  · skip
                    exact absurd hc_53 (by decide)
                  · skip
                    refine zw_aload_n (pc := 56) (n := 0) (x := 81) rfl (zdal_p dlC_M_letLine_87 (i := 3) rfl) ?_
                    refine zr_callV (hf_N3_.w hW) hf_N3_.x (pc := 57) [] [] l_M_319 (c_M_nameAtF l N3_ (hf_N3_.w hW) F_ K_ b_ n_ nm_ c7_ hp1_N3_ (show zkd b_ n_ (ze N3_ 81 4).toNat = 1 by rw [hx1_]; exact hna_.1)) rfl rfl rfl (by decide) (Nat.le_of_ble_eq_true rfl) (zdal_p dlC_M_letLine_87 (i := 4) rfl) ?_
                    rintro _ N14_ ⟨v15_, rfl, ⟨hv15_a, hv15_b⟩, hsN14_, hp0_N14_⟩
                    obtain rfl := hsN14_.eq.symm
                    replace hp0_N14_ : ((v15_ = -1 ∧ zfd nm_ (zkey b_ n_ (ze N3_ 81 4).toNat) = none) ∨ (0 ≤ v15_ ∧ v15_ ≤ 7 ∧ v15_ < ze N3_ 81 14 ∧ zfd nm_ (zkey b_ n_ (ze N3_ 81 4).toNat) = some (zrw F_ N3_ 102 (64 * v15_)) ∧ zfit F_ K_ (zrw F_ N3_ 102 (64 * v15_)))) := hp0_N14_
                    rcases hp0_N14_ with ⟨rfl, ha57_0_hp0_N14_⟩ | ⟨ha57_0_hp0_N14_, ha57_1_hp0_N14_, ha57_2_hp0_N14_, ha57_3_hp0_N14_, ha57_4_hp0_N14_⟩
                    · skip
                      have hfn_ := ha57_0_hp0_N14_
                      rw [hx1_] at hfn_
                      show zW l m_M_letLine (zn Mz + 0, zw Mz + 0) N3_ 60 [some (.ref 81), some (.int (Int32.ofInt (ze Mz 81 4))), none, none, none] [.int (Int32.ofInt ((-1)))] _
                      refine zw_iconst (pc := 60) (v := Int32.ofInt (-1)) (by decide) (zdal_p dlC_M_letLine_87 (i := 5) rfl) ?_
                      refine zr_icmp_eq (pc := 61) (tgt := 69) ⟨(by decide), (by decide)⟩ ⟨(by decide), (by decide)⟩ (by decide) (zdal_p dlC_M_letLine_87 (i := 6) rfl) (fun hc_61 => ?_) (fun hc_61 => ?_)
                      · skip
                        refine zw_aload_n (pc := 69) (n := 0) (x := 81) rfl (zdal_p dlC_M_letLine_87 (i := 10) rfl) ?_
                        refine zr_getI (hf_N3_.w hW) (pc := 70) f_M_172 rfl (zdal_p dlC_M_letLine_87 (i := 11) rfl) ?_
                        refine zr_if_le (pc := 73) (tgt := 77) ⟨(ze_r N3_ 81 7).1, (ze_r N3_ 81 7).2⟩ (by decide) (zdal_p dlC_M_letLine_87 (i := 12) rfl) (fun hc_73 => ?_) (fun hc_73 => ?_)
                        · skip
                          refine zw_aload_n (pc := 77) (n := 0) (x := 81) rfl (zdal_p dlC_M_letLine_87 (i := 14) rfl) ?_
                          refine zr_getJ (hf_N3_.w hW) (pc := 78) f_M_148 rfl (zdal_p dlC_M_letLine_87 (i := 15) rfl) ?_
                          have hr16_ := zg_r N3_ 81 11
                          refine zw_lstore_n (pc := 81) (i := 2) (L2 := [some (.ref 81), some (.int (Int32.ofInt (ze Mz 81 4))), some (.long (Int64.ofInt (zg N3_ 81 11))), none, none]) rfl (by decide) rfl (zdal_p dlC_M_letLine_87 (i := 16) rfl) ?_
                          have hyt1_ := hp1_N3_
                          have hwd_ : zg N3_ 81 11 = zke8 b_ n_ (znx b_ n_ (ze Mz 81 4).toNat) := by rw [← hx1_]; exact hyt1_.2.2.2.1 (by rw [hx1_]; exact hna_.1)
                          have hyt_ := hp1_N3_
                          have hyx_ := hyt_.x
                          refine zw_aload_n (pc := 82) (n := 0) (x := 81) rfl (zdal_p dlC_M_letLine_87 (i := 17) rfl) ?_
                          refine zr_callV (hf_N3_.w hW) hf_N3_.x (pc := 83) [] [] l_M_193 (c_M_goOnF l N3_ (hf_N3_.w hW) b_ n_ c6_ (show 0 ≤ ze N3_ 81 3 by first | assumption | omega) (show ze N3_ 81 3 ≤ n_ by first | assumption | omega)) rfl rfl rfl (by decide) (Nat.le_of_ble_eq_true rfl) (zdal_p dlC_M_letLine_87 (i := 18) rfl) ?_
                          rintro _ N17_ ⟨rfl, hsN17_, ⟨hp0_N17_, hp1_N17_⟩⟩
                          have hf_N17_ : zFr [3, 4, 5, 6, 7, 8, 11, 14, 38, 39, 41, 42, 43] [95, 96, 97, 100, 101, 102] Mz N17_ := hf_N3_.tr hsN17_ (by decide) (by decide)
                          have r3_N17_ := ze_r N17_ 81 3
                          have r4_N17_ := ze_r N17_ 81 4
                          have e7_N17_ : ze N17_ 81 7 = ze N3_ 81 7 := hsN17_.e (by decide)
                          have e14_N17_ : ze N17_ 81 14 = ze N3_ 81 14 := hsN17_.e (by decide)
                          have e26_N17_ : ze N17_ 81 26 = ze N3_ 81 26 := hsN17_.e (by decide)
                          have e39_N17_ : ze N17_ 81 39 = ze N3_ 81 39 := hsN17_.e (by decide)
                          have qzr95_N17_ : zr95 N17_ = zr95 N3_ := zr95_f hsN17_ (by decide)
                          have qzr101_N17_ : zr101 N17_ = zr101 N3_ := zr101_f hsN17_ (by decide)
                          have qzr102_N17_ : zr102 N17_ = zr102 N3_ := zr102_f hsN17_ (by decide)
                          have c19_ : zRmk F_ K_ N17_ := zRmk.fr hsN17_ c5_ (by decide) (by decide)
                          have c20_ : zRb b_ n_ N17_ := zRb.fr hsN17_ c6_ (by decide) (by decide)
                          have c21_ : zRNm nm_ F_ K_ b_ n_ N17_ := zRNm.fr hsN17_ c7_ (by decide) (by decide)
                          show zW l m_M_letLine (zn Mz + 0, zw Mz + 0) N17_ 86 [some (.ref 81), some (.int (Int32.ofInt (ze Mz 81 4))), some (.long (Int64.ofInt (zg N3_ 81 11))), none, none] [] _
                          have hnn_ := hyt_.nx hp0_N17_
                          have hx2_ : (ze N17_ 81 4).toNat = znx b_ n_ (znx b_ n_ (ze Mz 81 4).toNat) := hnn_.2.trans (by rw [hx1_])
                          have hg2_ := znx_ge (b := b_) (n := n_) (s := (znx b_ n_ (ze Mz 81 4).toNat))
                          refine zw_aload_n (pc := 86) (n := 0) (x := 81) rfl (zdal_p dlC_M_letLine_87 (i := 19) rfl) ?_
                          refine zw_bipush (pc := 87) (v := Int32.ofInt 61) (by decide) (zdal_p dlC_M_letLine_87 (i := 20) rfl) ?_
                          refine zr_callV (hf_N17_.w hW) hf_N17_.x (pc := 89) [.int (Int32.ofInt 61)] [] l_M_355 (c_M_mustF l N17_ (hf_N17_.w hW) 61 (by decide) (by decide) b_ n_ c20_ hp1_N17_ (show 0 ≤ ze N17_ 81 7 by first | assumption | omega)) rfl rfl rfl (by decide) (Nat.le_of_ble_eq_true rfl) (zdal_p dlC_M_letLine_87 (i := 21) rfl) ?_
                          rintro _ N22_ ⟨rfl, hsN22_, ⟨hp0_N22_, hp1_N22_⟩⟩
                          have hf_N22_ : zFr [3, 4, 5, 6, 7, 8, 11, 14, 38, 39, 41, 42, 43] [95, 96, 97, 100, 101, 102] Mz N22_ := hf_N17_.tr hsN22_ (by decide) (by decide)
                          have r3_N22_ := ze_r N22_ 81 3
                          have r4_N22_ := ze_r N22_ 81 4
                          have r7_N22_ := ze_r N22_ 81 7
                          have e14_N22_ : ze N22_ 81 14 = ze N17_ 81 14 := hsN22_.e (by decide)
                          have e26_N22_ : ze N22_ 81 26 = ze N17_ 81 26 := hsN22_.e (by decide)
                          have e39_N22_ : ze N22_ 81 39 = ze N17_ 81 39 := hsN22_.e (by decide)
                          have qzr95_N22_ : zr95 N22_ = zr95 N17_ := zr95_f hsN22_ (by decide)
                          have qzr101_N22_ : zr101 N22_ = zr101 N17_ := zr101_f hsN22_ (by decide)
                          have qzr102_N22_ : zr102 N22_ = zr102 N17_ := zr102_f hsN22_ (by decide)
                          have c24_ : zRmk F_ K_ N22_ := zRmk.fr hsN22_ c19_ (by decide) (by decide)
                          have c25_ : zRb b_ n_ N22_ := zRb.fr hsN22_ c20_ (by decide) (by decide)
                          have c26_ : zRNm nm_ F_ K_ b_ n_ N22_ := zRNm.fr hsN22_ c21_ (by decide) (by decide)
                          rcases hp1_N22_ with ⟨ha89_0_hp1_N22_, ha89_1_hp1_N22_⟩ | ⟨ha89_0_hp1_N22_, ha89_1_hp1_N22_, ha89_2_hp1_N22_, ha89_3_hp1_N22_⟩
                          · skip
                            have hrt_ : zls b_ n_ F_ K_ (0, (ze Mz 81 4).toNat, nm_) = zLf := zls_f hl0_ (fun q_ => ha89_1_hp1_N22_ (by omega) (by rw [hx2_]; exact q_.2.2.2))
                            show zW l m_M_letLine (zn Mz + 0, zw Mz + 0) N22_ 92 [some (.ref 81), some (.int (Int32.ofInt (ze Mz 81 4))), some (.long (Int64.ofInt (zg N3_ 81 11))), none, none] [] _
                            refine zw_aload_n (pc := 92) (n := 0) (x := 81) rfl (zdal_p dlC_M_letLine_87 (i := 22) rfl) ?_
                            refine zr_callV (hf_N22_.w hW) hf_N22_.x (pc := 93) [] [] l_M_358 (c_M_formulaF l N22_ (hf_N22_.w hW) F_ K_ hA_ b_ n_ nm_ c24_ c25_ hp0_N22_ c26_ (show 0 ≤ ze N22_ 81 7 by first | assumption | omega)) rfl rfl rfl (by decide) (Nat.le_of_ble_eq_true rfl) (zdal_p dlC_M_letLine_87 (i := 23) rfl) ?_
                            rintro _ N27_ ⟨rfl, hsN27_, ⟨hp0_N27_, hp1_N27_⟩⟩
                            have hf_N27_ : zFr [3, 4, 5, 6, 7, 8, 11, 14, 38, 39, 41, 42, 43] [95, 96, 97, 100, 101, 102] Mz N27_ := hf_N22_.tr hsN27_ (by decide) (by decide)
                            have r3_N27_ := ze_r N27_ 81 3
                            have r4_N27_ := ze_r N27_ 81 4
                            have r7_N27_ := ze_r N27_ 81 7
                            have e14_N27_ : ze N27_ 81 14 = ze N22_ 81 14 := hsN27_.e (by decide)
                            have e26_N27_ : ze N27_ 81 26 = ze N22_ 81 26 := hsN27_.e (by decide)
                            have r39_N27_ := ze_r N27_ 81 39
                            have qzr101_N27_ : zr101 N27_ = zr101 N22_ := zr101_f hsN27_ (by decide)
                            have qzr102_N27_ : zr102 N27_ = zr102 N22_ := zr102_f hsN27_ (by decide)
                            have c29_ : zRmk F_ K_ N27_ := zRmk.fr hsN27_ c24_ (by decide) (by decide)
                            have c30_ : zRb b_ n_ N27_ := zRb.fr hsN27_ c25_ (by decide) (by decide)
                            have c31_ : zRNm nm_ F_ K_ b_ n_ N27_ := zRNm.fr hsN27_ c26_ (by decide) (by decide)
                            rcases hp1_N27_ with ⟨ha93_0_hp1_N27_, ha93_1_hp1_N27_⟩ | ⟨ha93_0_hp1_N27_, ha93_1_hp1_N27_, ha93_2_hp1_N27_, ha93_3_hp1_N27_, ha93_4_hp1_N27_, ha93_5_hp1_N27_⟩
                            · skip
                              have hrt2_ : zls b_ n_ F_ K_ (0, (ze Mz 81 4).toNat, nm_) = zLf := by first | exact hrt_ | exact (zls_g hl0_ hl2_ (by rw [← hx3_]; exact ha93_1_hp1_N27_ (by omega)) zfs_F).trans zle_f
                              show zW l m_M_letLine (zn Mz + 0, zw Mz + 0) N27_ 96 [some (.ref 81), some (.int (Int32.ofInt (ze Mz 81 4))), some (.long (Int64.ofInt (zg N3_ 81 11))), none, none] [] _
                              refine zw_aload_n (pc := 96) (n := 0) (x := 81) rfl (zdal_p dlC_M_letLine_88 (i := 0) rfl) ?_
                              refine zw_bipush (pc := 97) (v := Int32.ofInt 59) (by decide) (zdal_p dlC_M_letLine_88 (i := 1) rfl) ?_
                              refine zr_callV (hf_N27_.w hW) hf_N27_.x (pc := 99) [.int (Int32.ofInt 59)] [] l_M_355 (c_M_mustF l N27_ (hf_N27_.w hW) 59 (by decide) (by decide) b_ n_ c30_ hp0_N27_ (show 0 ≤ ze N27_ 81 7 by first | assumption | omega)) rfl rfl rfl (by decide) (Nat.le_of_ble_eq_true rfl) (zdal_p dlC_M_letLine_88 (i := 2) rfl) ?_
                              rintro _ N32_ ⟨rfl, hsN32_, ⟨hp0_N32_, hp1_N32_⟩⟩
                              have hf_N32_ : zFr [3, 4, 5, 6, 7, 8, 11, 14, 38, 39, 41, 42, 43] [95, 96, 97, 100, 101, 102] Mz N32_ := hf_N27_.tr hsN32_ (by decide) (by decide)
                              have r3_N32_ := ze_r N32_ 81 3
                              have r4_N32_ := ze_r N32_ 81 4
                              have r7_N32_ := ze_r N32_ 81 7
                              have e14_N32_ : ze N32_ 81 14 = ze N27_ 81 14 := hsN32_.e (by decide)
                              have e26_N32_ : ze N32_ 81 26 = ze N27_ 81 26 := hsN32_.e (by decide)
                              have e39_N32_ : ze N32_ 81 39 = ze N27_ 81 39 := hsN32_.e (by decide)
                              have qzr95_N32_ : zr95 N32_ = zr95 N27_ := zr95_f hsN32_ (by decide)
                              have qzr101_N32_ : zr101 N32_ = zr101 N27_ := zr101_f hsN32_ (by decide)
                              have qzr102_N32_ : zr102 N32_ = zr102 N27_ := zr102_f hsN32_ (by decide)
                              have c34_ : zRmk F_ K_ N32_ := zRmk.fr hsN32_ c29_ (by decide) (by decide)
                              have c35_ : zRb b_ n_ N32_ := zRb.fr hsN32_ c30_ (by decide) (by decide)
                              have c36_ : zRNm nm_ F_ K_ b_ n_ N32_ := zRNm.fr hsN32_ c31_ (by decide) (by decide)
                              rcases hp1_N32_ with ⟨ha99_0_hp1_N32_, ha99_1_hp1_N32_⟩ | ⟨ha99_0_hp1_N32_, ha99_1_hp1_N32_, ha99_2_hp1_N32_, ha99_3_hp1_N32_⟩
                              · skip
                                have hrt3_ : zls b_ n_ F_ K_ (0, (ze Mz 81 4).toNat, nm_) = zLf := by first | exact hrt_ | exact hrt2_ | (rw [hzl_]; unfold zRst; exact zle_n (fun q_ => ha99_1_hp1_N32_ (by omega) q_))
                                show zW l m_M_letLine (zn Mz + 0, zw Mz + 0) N32_ 102 [some (.ref 81), some (.int (Int32.ofInt (ze Mz 81 4))), some (.long (Int64.ofInt (zg N3_ 81 11))), none, none] [] _
                                refine zw_aload_n (pc := 102) (n := 0) (x := 81) rfl (zdal_p dlC_M_letLine_88 (i := 3) rfl) ?_
                                refine zr_callV (hf_N32_.w hW) hf_N32_.x (pc := 103) [] [] l_M_183 (c_M_isGood l N32_ (hf_N32_.w hW) ) rfl rfl rfl (by decide) (Nat.le_of_ble_eq_true rfl) (zdal_p dlC_M_letLine_88 (i := 4) rfl) ?_
                                rintro _ N37_ ⟨v38_, rfl, ⟨hv38_a, hv38_b⟩, hsN37_, hp0_N37_⟩
                                obtain rfl := hsN37_.eq.symm
                                replace hp0_N37_ : ((v38_ = 1 ∧ ze N32_ 81 7 = 0) ∨ (v38_ = 0 ∧ ze N32_ 81 7 ≠ 0)) := hp0_N37_
                                rcases hp0_N37_ with ⟨rfl, ha103_0_hp0_N37_⟩ | ⟨rfl, ha103_0_hp0_N37_⟩
                                · skip
                                  exfalso; omega
                                · skip
                                  show zW l m_M_letLine (zn Mz + 0, zw Mz + 0) N32_ 106 [some (.ref 81), some (.int (Int32.ofInt (ze Mz 81 4))), some (.long (Int64.ofInt (zg N3_ 81 11))), none, none] [.int (Int32.ofInt 0)] _
                                  refine zr_if_eq (pc := 106) (tgt := 123) ⟨(by decide), (by decide)⟩ (by decide) (zdal_p dlC_M_letLine_88 (i := 5) rfl) (fun hc_106 => ?_) (fun hc_106 => ?_)
                                  · skip
                                    refine zw_aload_n (pc := 123) (n := 0) (x := 81) rfl d_M_letLine_123 ?_
                                    refine zr_getI (hf_N32_.w hW) (pc := 124) f_M_172 rfl d_M_letLine_124 ?_
                                    refine zr_if_le (pc := 127) (tgt := 131) ⟨(ze_r N32_ 81 7).1, (ze_r N32_ 81 7).2⟩ (by decide) d_M_letLine_127 (fun hc_127 => ?_) (fun hc_127 => ?_)
                                    · skip
                                      exfalso; omega
                                    · skip
                                      exact zr_vret (pc := 130) rfl hf_N32_ ⟨hp0_N32_, (show 0 ≤ ze N32_ 81 14 by first | assumption | omega), (show ze N32_ 81 14 ≤ 8 by first | assumption | omega), (show ((1 ≤ ze N32_ 81 7 ∧ zls b_ n_ F_ K_ (0, (ze Mz 81 4).toNat, nm_) = zLf) ∨ (ze N32_ 81 7 = 0 ∧ (∃ nm2 : List (Int × (Nat → Int)), zls b_ n_ F_ K_ (0, (ze Mz 81 4).toNat, nm_) = (0, (ze N32_ 81 4).toNat, nm2) ∧ zRNm nm2 F_ K_ b_ n_ N32_) ∧ ze Mz 81 4 < ze N32_ 81 4)) from Or.inl (⟨(show 1 ≤ ze N32_ 81 7 by first | omega | exact hrt_ | exact hrt2_ | exact hrt3_), (show zls b_ n_ F_ K_ (0, (ze Mz 81 4).toNat, nm_) = zLf by first | omega | exact hrt_ | exact hrt2_ | exact hrt3_)⟩))⟩ (zdal_p dlC_M_letLine_88 (i := 16) rfl)
                                  · skip
                                    exact absurd hc_106 (by decide)
                              · skip
                                exfalso; omega
                            · skip
                              exfalso; omega
                          · skip
                            have hsg_ := ha89_2_hp1_N22_
                            have hx3_ := ha89_3_hp1_N22_
                            rw [hx2_] at hsg_ hx3_
                            have hl2_ : nm_.length < 8 ∧ zisn b_ n_ (znx b_ n_ (ze Mz 81 4).toNat) ∧ zfd nm_ (zkey b_ n_ (znx b_ n_ (ze Mz 81 4).toNat)) = none ∧ zisg b_ n_ (znx b_ n_ (znx b_ n_ (ze Mz 81 4).toNat)) 61 := ⟨by omega, hna_, hfn_, hsg_⟩
                            have hg3_ := znx_ge (b := b_) (n := n_) (s := znx b_ n_ (znx b_ n_ (ze Mz 81 4).toNat))
                            show zW l m_M_letLine (zn Mz + 0, zw Mz + 0) N22_ 92 [some (.ref 81), some (.int (Int32.ofInt (ze Mz 81 4))), some (.long (Int64.ofInt (zg N3_ 81 11))), none, none] [] _
                            refine zw_aload_n (pc := 92) (n := 0) (x := 81) rfl (zdal_p dlC_M_letLine_87 (i := 22) rfl) ?_
                            refine zr_callV (hf_N22_.w hW) hf_N22_.x (pc := 93) [] [] l_M_358 (c_M_formulaF l N22_ (hf_N22_.w hW) F_ K_ hA_ b_ n_ nm_ c24_ c25_ hp0_N22_ c26_ (show 0 ≤ ze N22_ 81 7 by first | assumption | omega)) rfl rfl rfl (by decide) (Nat.le_of_ble_eq_true rfl) (zdal_p dlC_M_letLine_87 (i := 23) rfl) ?_
                            rintro _ N39_ ⟨rfl, hsN39_, ⟨hp0_N39_, hp1_N39_⟩⟩
                            have hf_N39_ : zFr [3, 4, 5, 6, 7, 8, 11, 14, 38, 39, 41, 42, 43] [95, 96, 97, 100, 101, 102] Mz N39_ := hf_N22_.tr hsN39_ (by decide) (by decide)
                            have r3_N39_ := ze_r N39_ 81 3
                            have r4_N39_ := ze_r N39_ 81 4
                            have r7_N39_ := ze_r N39_ 81 7
                            have e14_N39_ : ze N39_ 81 14 = ze N22_ 81 14 := hsN39_.e (by decide)
                            have e26_N39_ : ze N39_ 81 26 = ze N22_ 81 26 := hsN39_.e (by decide)
                            have r39_N39_ := ze_r N39_ 81 39
                            have qzr101_N39_ : zr101 N39_ = zr101 N22_ := zr101_f hsN39_ (by decide)
                            have qzr102_N39_ : zr102 N39_ = zr102 N22_ := zr102_f hsN39_ (by decide)
                            have c41_ : zRmk F_ K_ N39_ := zRmk.fr hsN39_ c24_ (by decide) (by decide)
                            have c42_ : zRb b_ n_ N39_ := zRb.fr hsN39_ c25_ (by decide) (by decide)
                            have c43_ : zRNm nm_ F_ K_ b_ n_ N39_ := zRNm.fr hsN39_ c26_ (by decide) (by decide)
                            rcases hp1_N39_ with ⟨ha93_0_hp1_N39_, ha93_1_hp1_N39_⟩ | ⟨ha93_0_hp1_N39_, ha93_1_hp1_N39_, ha93_2_hp1_N39_, ha93_3_hp1_N39_, ha93_4_hp1_N39_, ha93_5_hp1_N39_⟩
                            · skip
                              have hrt2_ : zls b_ n_ F_ K_ (0, (ze Mz 81 4).toNat, nm_) = zLf := by first | exact hrt_ | exact (zls_g hl0_ hl2_ (by rw [← hx3_]; exact ha93_1_hp1_N39_ (by omega)) zfs_F).trans zle_f
                              show zW l m_M_letLine (zn Mz + 0, zw Mz + 0) N39_ 96 [some (.ref 81), some (.int (Int32.ofInt (ze Mz 81 4))), some (.long (Int64.ofInt (zg N3_ 81 11))), none, none] [] _
                              refine zw_aload_n (pc := 96) (n := 0) (x := 81) rfl (zdal_p dlC_M_letLine_88 (i := 0) rfl) ?_
                              refine zw_bipush (pc := 97) (v := Int32.ofInt 59) (by decide) (zdal_p dlC_M_letLine_88 (i := 1) rfl) ?_
                              refine zr_callV (hf_N39_.w hW) hf_N39_.x (pc := 99) [.int (Int32.ofInt 59)] [] l_M_355 (c_M_mustF l N39_ (hf_N39_.w hW) 59 (by decide) (by decide) b_ n_ c42_ hp0_N39_ (show 0 ≤ ze N39_ 81 7 by first | assumption | omega)) rfl rfl rfl (by decide) (Nat.le_of_ble_eq_true rfl) (zdal_p dlC_M_letLine_88 (i := 2) rfl) ?_
                              rintro _ N44_ ⟨rfl, hsN44_, ⟨hp0_N44_, hp1_N44_⟩⟩
                              have hf_N44_ : zFr [3, 4, 5, 6, 7, 8, 11, 14, 38, 39, 41, 42, 43] [95, 96, 97, 100, 101, 102] Mz N44_ := hf_N39_.tr hsN44_ (by decide) (by decide)
                              have r3_N44_ := ze_r N44_ 81 3
                              have r4_N44_ := ze_r N44_ 81 4
                              have r7_N44_ := ze_r N44_ 81 7
                              have e14_N44_ : ze N44_ 81 14 = ze N39_ 81 14 := hsN44_.e (by decide)
                              have e26_N44_ : ze N44_ 81 26 = ze N39_ 81 26 := hsN44_.e (by decide)
                              have e39_N44_ : ze N44_ 81 39 = ze N39_ 81 39 := hsN44_.e (by decide)
                              have qzr95_N44_ : zr95 N44_ = zr95 N39_ := zr95_f hsN44_ (by decide)
                              have qzr101_N44_ : zr101 N44_ = zr101 N39_ := zr101_f hsN44_ (by decide)
                              have qzr102_N44_ : zr102 N44_ = zr102 N39_ := zr102_f hsN44_ (by decide)
                              have c46_ : zRmk F_ K_ N44_ := zRmk.fr hsN44_ c41_ (by decide) (by decide)
                              have c47_ : zRb b_ n_ N44_ := zRb.fr hsN44_ c42_ (by decide) (by decide)
                              have c48_ : zRNm nm_ F_ K_ b_ n_ N44_ := zRNm.fr hsN44_ c43_ (by decide) (by decide)
                              rcases hp1_N44_ with ⟨ha99_0_hp1_N44_, ha99_1_hp1_N44_⟩ | ⟨ha99_0_hp1_N44_, ha99_1_hp1_N44_, ha99_2_hp1_N44_, ha99_3_hp1_N44_⟩
                              · skip
                                have hrt3_ : zls b_ n_ F_ K_ (0, (ze Mz 81 4).toNat, nm_) = zLf := by first | exact hrt_ | exact hrt2_ | (rw [hzl_]; unfold zRst; exact zle_n (fun q_ => ha99_1_hp1_N44_ (by omega) q_))
                                show zW l m_M_letLine (zn Mz + 0, zw Mz + 0) N44_ 102 [some (.ref 81), some (.int (Int32.ofInt (ze Mz 81 4))), some (.long (Int64.ofInt (zg N3_ 81 11))), none, none] [] _
                                refine zw_aload_n (pc := 102) (n := 0) (x := 81) rfl (zdal_p dlC_M_letLine_88 (i := 3) rfl) ?_
                                refine zr_callV (hf_N44_.w hW) hf_N44_.x (pc := 103) [] [] l_M_183 (c_M_isGood l N44_ (hf_N44_.w hW) ) rfl rfl rfl (by decide) (Nat.le_of_ble_eq_true rfl) (zdal_p dlC_M_letLine_88 (i := 4) rfl) ?_
                                rintro _ N49_ ⟨v50_, rfl, ⟨hv50_a, hv50_b⟩, hsN49_, hp0_N49_⟩
                                obtain rfl := hsN49_.eq.symm
                                replace hp0_N49_ : ((v50_ = 1 ∧ ze N44_ 81 7 = 0) ∨ (v50_ = 0 ∧ ze N44_ 81 7 ≠ 0)) := hp0_N49_
                                rcases hp0_N49_ with ⟨rfl, ha103_0_hp0_N49_⟩ | ⟨rfl, ha103_0_hp0_N49_⟩
                                · skip
                                  exfalso; omega
                                · skip
                                  show zW l m_M_letLine (zn Mz + 0, zw Mz + 0) N44_ 106 [some (.ref 81), some (.int (Int32.ofInt (ze Mz 81 4))), some (.long (Int64.ofInt (zg N3_ 81 11))), none, none] [.int (Int32.ofInt 0)] _
                                  refine zr_if_eq (pc := 106) (tgt := 123) ⟨(by decide), (by decide)⟩ (by decide) (zdal_p dlC_M_letLine_88 (i := 5) rfl) (fun hc_106 => ?_) (fun hc_106 => ?_)
                                  · skip
                                    refine zw_aload_n (pc := 123) (n := 0) (x := 81) rfl d_M_letLine_123 ?_
                                    refine zr_getI (hf_N44_.w hW) (pc := 124) f_M_172 rfl d_M_letLine_124 ?_
                                    refine zr_if_le (pc := 127) (tgt := 131) ⟨(ze_r N44_ 81 7).1, (ze_r N44_ 81 7).2⟩ (by decide) d_M_letLine_127 (fun hc_127 => ?_) (fun hc_127 => ?_)
                                    · skip
                                      exfalso; omega
                                    · skip
                                      exact zr_vret (pc := 130) rfl hf_N44_ ⟨hp0_N44_, (show 0 ≤ ze N44_ 81 14 by first | assumption | omega), (show ze N44_ 81 14 ≤ 8 by first | assumption | omega), (show ((1 ≤ ze N44_ 81 7 ∧ zls b_ n_ F_ K_ (0, (ze Mz 81 4).toNat, nm_) = zLf) ∨ (ze N44_ 81 7 = 0 ∧ (∃ nm2 : List (Int × (Nat → Int)), zls b_ n_ F_ K_ (0, (ze Mz 81 4).toNat, nm_) = (0, (ze N44_ 81 4).toNat, nm2) ∧ zRNm nm2 F_ K_ b_ n_ N44_) ∧ ze Mz 81 4 < ze N44_ 81 4)) from Or.inl (⟨(show 1 ≤ ze N44_ 81 7 by first | omega | exact hrt_ | exact hrt2_ | exact hrt3_), (show zls b_ n_ F_ K_ (0, (ze Mz 81 4).toNat, nm_) = zLf by first | omega | exact hrt_ | exact hrt2_ | exact hrt3_)⟩))⟩ (zdal_p dlC_M_letLine_88 (i := 16) rfl)
                                  · skip
                                    exact absurd hc_106 (by decide)
                              · skip
                                exfalso; omega
                            · skip
                              have hre_ := ha93_2_hp1_N39_
                              have hri_ := ha93_3_hp1_N39_
                              have hsn_ := ha93_4_hp1_N39_
                              have hps4_ := ha93_5_hp1_N39_
                              rw [hx3_] at hre_
                              have hzl_ : zls b_ n_ F_ K_ (0, (ze Mz 81 4).toNat, nm_) = zle b_ n_ (zkey b_ n_ (znx b_ n_ (ze Mz 81 4).toNat)) nm_ (zRst 3 F_ N39_) := zls_g hl0_ hl2_ hre_ (by unfold zRst; exact zfs_d)
                              show zW l m_M_letLine (zn Mz + 0, zw Mz + 0) N39_ 96 [some (.ref 81), some (.int (Int32.ofInt (ze Mz 81 4))), some (.long (Int64.ofInt (zg N3_ 81 11))), none, none] [] _
                              refine zw_aload_n (pc := 96) (n := 0) (x := 81) rfl (zdal_p dlC_M_letLine_88 (i := 0) rfl) ?_
                              refine zw_bipush (pc := 97) (v := Int32.ofInt 59) (by decide) (zdal_p dlC_M_letLine_88 (i := 1) rfl) ?_
                              refine zr_callV (hf_N39_.w hW) hf_N39_.x (pc := 99) [.int (Int32.ofInt 59)] [] l_M_355 (c_M_mustF l N39_ (hf_N39_.w hW) 59 (by decide) (by decide) b_ n_ c42_ hp0_N39_ (show 0 ≤ ze N39_ 81 7 by first | assumption | omega)) rfl rfl rfl (by decide) (Nat.le_of_ble_eq_true rfl) (zdal_p dlC_M_letLine_88 (i := 2) rfl) ?_
                              rintro _ N51_ ⟨rfl, hsN51_, ⟨hp0_N51_, hp1_N51_⟩⟩
                              have hf_N51_ : zFr [3, 4, 5, 6, 7, 8, 11, 14, 38, 39, 41, 42, 43] [95, 96, 97, 100, 101, 102] Mz N51_ := hf_N39_.tr hsN51_ (by decide) (by decide)
                              have r3_N51_ := ze_r N51_ 81 3
                              have r4_N51_ := ze_r N51_ 81 4
                              have r7_N51_ := ze_r N51_ 81 7
                              have e14_N51_ : ze N51_ 81 14 = ze N39_ 81 14 := hsN51_.e (by decide)
                              have e26_N51_ : ze N51_ 81 26 = ze N39_ 81 26 := hsN51_.e (by decide)
                              have e39_N51_ : ze N51_ 81 39 = ze N39_ 81 39 := hsN51_.e (by decide)
                              have qzr95_N51_ : zr95 N51_ = zr95 N39_ := zr95_f hsN51_ (by decide)
                              have qzr101_N51_ : zr101 N51_ = zr101 N39_ := zr101_f hsN51_ (by decide)
                              have qzr102_N51_ : zr102 N51_ = zr102 N39_ := zr102_f hsN51_ (by decide)
                              have c53_ : zRmk F_ K_ N51_ := zRmk.fr hsN51_ c41_ (by decide) (by decide)
                              have c54_ : zRb b_ n_ N51_ := zRb.fr hsN51_ c42_ (by decide) (by decide)
                              have c55_ : zRNm nm_ F_ K_ b_ n_ N51_ := zRNm.fr hsN51_ c43_ (by decide) (by decide)
                              rcases hp1_N51_ with ⟨ha99_0_hp1_N51_, ha99_1_hp1_N51_⟩ | ⟨ha99_0_hp1_N51_, ha99_1_hp1_N51_, ha99_2_hp1_N51_, ha99_3_hp1_N51_⟩
                              · skip
                                have hrt3_ : zls b_ n_ F_ K_ (0, (ze Mz 81 4).toNat, nm_) = zLf := by first | exact hrt_ | exact hrt2_ | (rw [hzl_]; unfold zRst; exact zle_n (fun q_ => ha99_1_hp1_N51_ (by omega) q_))
                                show zW l m_M_letLine (zn Mz + 0, zw Mz + 0) N51_ 102 [some (.ref 81), some (.int (Int32.ofInt (ze Mz 81 4))), some (.long (Int64.ofInt (zg N3_ 81 11))), none, none] [] _
                                refine zw_aload_n (pc := 102) (n := 0) (x := 81) rfl (zdal_p dlC_M_letLine_88 (i := 3) rfl) ?_
                                refine zr_callV (hf_N51_.w hW) hf_N51_.x (pc := 103) [] [] l_M_183 (c_M_isGood l N51_ (hf_N51_.w hW) ) rfl rfl rfl (by decide) (Nat.le_of_ble_eq_true rfl) (zdal_p dlC_M_letLine_88 (i := 4) rfl) ?_
                                rintro _ N56_ ⟨v57_, rfl, ⟨hv57_a, hv57_b⟩, hsN56_, hp0_N56_⟩
                                obtain rfl := hsN56_.eq.symm
                                replace hp0_N56_ : ((v57_ = 1 ∧ ze N51_ 81 7 = 0) ∨ (v57_ = 0 ∧ ze N51_ 81 7 ≠ 0)) := hp0_N56_
                                rcases hp0_N56_ with ⟨rfl, ha103_0_hp0_N56_⟩ | ⟨rfl, ha103_0_hp0_N56_⟩
                                · skip
                                  exfalso; omega
                                · skip
                                  show zW l m_M_letLine (zn Mz + 0, zw Mz + 0) N51_ 106 [some (.ref 81), some (.int (Int32.ofInt (ze Mz 81 4))), some (.long (Int64.ofInt (zg N3_ 81 11))), none, none] [.int (Int32.ofInt 0)] _
                                  refine zr_if_eq (pc := 106) (tgt := 123) ⟨(by decide), (by decide)⟩ (by decide) (zdal_p dlC_M_letLine_88 (i := 5) rfl) (fun hc_106 => ?_) (fun hc_106 => ?_)
                                  · skip
                                    refine zw_aload_n (pc := 123) (n := 0) (x := 81) rfl d_M_letLine_123 ?_
                                    refine zr_getI (hf_N51_.w hW) (pc := 124) f_M_172 rfl d_M_letLine_124 ?_
                                    refine zr_if_le (pc := 127) (tgt := 131) ⟨(ze_r N51_ 81 7).1, (ze_r N51_ 81 7).2⟩ (by decide) d_M_letLine_127 (fun hc_127 => ?_) (fun hc_127 => ?_)
                                    · skip
                                      exfalso; omega
                                    · skip
                                      exact zr_vret (pc := 130) rfl hf_N51_ ⟨hp0_N51_, (show 0 ≤ ze N51_ 81 14 by first | assumption | omega), (show ze N51_ 81 14 ≤ 8 by first | assumption | omega), (show ((1 ≤ ze N51_ 81 7 ∧ zls b_ n_ F_ K_ (0, (ze Mz 81 4).toNat, nm_) = zLf) ∨ (ze N51_ 81 7 = 0 ∧ (∃ nm2 : List (Int × (Nat → Int)), zls b_ n_ F_ K_ (0, (ze Mz 81 4).toNat, nm_) = (0, (ze N51_ 81 4).toNat, nm2) ∧ zRNm nm2 F_ K_ b_ n_ N51_) ∧ ze Mz 81 4 < ze N51_ 81 4)) from Or.inl (⟨(show 1 ≤ ze N51_ 81 7 by first | omega | exact hrt_ | exact hrt2_ | exact hrt3_), (show zls b_ n_ F_ K_ (0, (ze Mz 81 4).toNat, nm_) = zLf by first | omega | exact hrt_ | exact hrt2_ | exact hrt3_)⟩))⟩ (zdal_p dlC_M_letLine_88 (i := 16) rfl)
                                  · skip
                                    exact absurd hc_106 (by decide)
                              · skip
                                have hsg2_ := ha99_2_hp1_N51_
                                have hx4_ := ha99_3_hp1_N51_
                                have hg4_ := znx_ge (b := b_) (n := n_) (s := (ze N39_ 81 4).toNat)
                                show zW l m_M_letLine (zn Mz + 0, zw Mz + 0) N51_ 102 [some (.ref 81), some (.int (Int32.ofInt (ze Mz 81 4))), some (.long (Int64.ofInt (zg N3_ 81 11))), none, none] [] _
                                refine zw_aload_n (pc := 102) (n := 0) (x := 81) rfl (zdal_p dlC_M_letLine_88 (i := 3) rfl) ?_
                                refine zr_callV (hf_N51_.w hW) hf_N51_.x (pc := 103) [] [] l_M_183 (c_M_isGood l N51_ (hf_N51_.w hW) ) rfl rfl rfl (by decide) (Nat.le_of_ble_eq_true rfl) (zdal_p dlC_M_letLine_88 (i := 4) rfl) ?_
                                rintro _ N58_ ⟨v59_, rfl, ⟨hv59_a, hv59_b⟩, hsN58_, hp0_N58_⟩
                                obtain rfl := hsN58_.eq.symm
                                replace hp0_N58_ : ((v59_ = 1 ∧ ze N51_ 81 7 = 0) ∨ (v59_ = 0 ∧ ze N51_ 81 7 ≠ 0)) := hp0_N58_
                                rcases hp0_N58_ with ⟨rfl, ha103_0_hp0_N58_⟩ | ⟨rfl, ha103_0_hp0_N58_⟩
                                · skip
                                  show zW l m_M_letLine (zn Mz + 0, zw Mz + 0) N51_ 106 [some (.ref 81), some (.int (Int32.ofInt (ze Mz 81 4))), some (.long (Int64.ofInt (zg N3_ 81 11))), none, none] [.int (Int32.ofInt 1)] _
                                  refine zr_if_eq (pc := 106) (tgt := 123) ⟨(by decide), (by decide)⟩ (by decide) (zdal_p dlC_M_letLine_88 (i := 5) rfl) (fun hc_106 => ?_) (fun hc_106 => ?_)
                                  · skip
                                    exact absurd hc_106 (by decide)
                                  · skip
                                    refine zw_aload_n (pc := 109) (n := 0) (x := 81) rfl (zdal_p dlC_M_letLine_88 (i := 6) rfl) ?_
                                    refine zr_getI (hf_N51_.w hW) (pc := 110) f_M_275 rfl (zdal_p dlC_M_letLine_88 (i := 7) rfl) ?_
                                    refine zr_if_eq (pc := 113) (tgt := 123) ⟨(ze_r N51_ 81 39).1, (ze_r N51_ 81 39).2⟩ (by decide) (zdal_p dlC_M_letLine_88 (i := 8) rfl) (fun hc_113 => ?_) (fun hc_113 => ?_)
                                    · skip
                                      refine zw_aload_n (pc := 123) (n := 0) (x := 81) rfl d_M_letLine_123 ?_
                                      refine zr_getI (hf_N51_.w hW) (pc := 124) f_M_172 rfl d_M_letLine_124 ?_
                                      refine zr_if_le (pc := 127) (tgt := 131) ⟨(ze_r N51_ 81 7).1, (ze_r N51_ 81 7).2⟩ (by decide) d_M_letLine_127 (fun hc_127 => ?_) (fun hc_127 => ?_)
                                      · skip
                                        obtain ⟨hz3_, hfit_⟩ := zRst_3 (N := N39_) hri_ hsn_ (by omega)
                                        obtain ⟨vv_, hvv_⟩ : ∃ v : Nat → Int, v = zrw F_ N39_ 95 0 := ⟨_, rfl⟩
                                        rw [← hvv_] at hz3_ hfit_
                                        have hzl2_ := hzl_.trans ((congrArg (zle b_ n_ (zkey b_ n_ (znx b_ n_ (ze Mz 81 4).toNat)) nm_) hz3_).trans (zle_t hsg2_))
                                        refine zw_aload_n (pc := 131) (n := 0) (x := 81) rfl (zdal_p dlC_M_letLine_88 (i := 17) rfl) ?_
                                        refine zr_getF (r := 101) (hf_N51_.w hW) (pc := 132) f_M_75 rfl (zh_101 (hf_N51_.w hW)).1 (zdal_p dlC_M_letLine_88 (i := 18) rfl) ?_
                                        refine zw_aload_n (pc := 135) (n := 0) (x := 81) rfl (zdal_p dlC_M_letLine_88 (i := 19) rfl) ?_
                                        refine zr_getI (hf_N51_.w hW) (pc := 136) f_M_299 rfl (zdal_p dlC_M_letLine_88 (i := 20) rfl) ?_
                                        refine zw_lload_n (pc := 139) (n := 2) (x := Int64.ofInt (zg N3_ 81 11)) rfl (zdal_p dlC_M_letLine_88 (i := 21) rfl) ?_
                                        refine zr_last (pc := 140) (zh_101 (hf_N51_.w hW)).2 (by decide) (by decide) (by omega) (by omega) (zdal_p dlC_M_letLine_88 (i := 22) rfl) (fun N60_ hN60_ hsN60_ => ?_)
                                        have hf_N60_ : zFr [3, 4, 5, 6, 7, 8, 11, 14, 38, 39, 41, 42, 43] [95, 96, 97, 100, 101, 102] Mz N60_ := hf_N51_.tr hsN60_ (by decide) (by decide)
                                        have e3_N60_ : ze N60_ 81 3 = ze N51_ 81 3 := hsN60_.e (by decide)
                                        have e4_N60_ : ze N60_ 81 4 = ze N51_ 81 4 := hsN60_.e (by decide)
                                        have e7_N60_ : ze N60_ 81 7 = ze N51_ 81 7 := hsN60_.e (by decide)
                                        have e14_N60_ : ze N60_ 81 14 = ze N51_ 81 14 := hsN60_.e (by decide)
                                        have e26_N60_ : ze N60_ 81 26 = ze N51_ 81 26 := hsN60_.e (by decide)
                                        have e39_N60_ : ze N60_ 81 39 = ze N51_ 81 39 := hsN60_.e (by decide)
                                        have qzr95_N60_ : zr95 N60_ = zr95 N51_ := zr95_f hsN60_ (by decide)
                                        have qzr102_N60_ : zr102 N60_ = zr102 N51_ := zr102_f hsN60_ (by decide)
                                        have c61_ : zRmk F_ K_ N60_ := zRmk.fr hsN60_ c53_ (by decide) (by decide)
                                        have c62_ : zRb b_ n_ N60_ := zRb.fr hsN60_ c54_ (by decide) (by decide)
                                        have c63_ : zRt b_ n_ N60_ := zRt.fr hsN60_ hp0_N51_ (by decide) (by decide)
                                        have hk1_ : zg N60_ 101 (ze Mz 81 14).toNat = zke8 b_ n_ (znx b_ n_ (ze Mz 81 4).toNat) := by rw [show (ze Mz 81 14).toNat = (ze N51_ 81 14).toNat by omega, zs_getJ hN60_ ⟨by omega, by omega⟩]; exact hwd_
                                        have hko_ : ∀ k : Nat, (k : Int) < ze Mz 81 14 → zg N60_ 101 k = zg Mz 101 k := fun k hk => by rw [zs_othJ hN60_ (by omega)]; exact congrFun (qzr101_N51_.trans (qzr101_N39_.trans (qzr101_N22_.trans (qzr101_N17_.trans qzr101_N3_)))) k
                                        have h102_ : ∀ x : Nat, zg N60_ 102 x = zg Mz 102 x := fun x => congrFun (qzr102_N60_.trans (qzr102_N51_.trans (qzr102_N39_.trans (qzr102_N22_.trans (qzr102_N17_.trans qzr102_N3_))))) x
                                        refine zw_iconst (pc := 141) (v := Int32.ofInt 0) (by decide) (zdal_p dlC_M_letLine_88 (i := 23) rfl) ?_
                                        refine zw_istore (pc := 142) (i := 4) (L2 := [some (.ref 81), some (.int (Int32.ofInt (ze Mz 81 4))), some (.long (Int64.ofInt (zg N3_ 81 11))), none, some (.int (Int32.ofInt 0))]) (by decide) rfl (zdal_p dlC_M_letLine_89 (i := 0) rfl) ?_
                                        have lp_144 : ∀ (n : Nat) (u64_ : Int) (hu64_a : -2147483648 ≤ u64_) (hu64_b : u64_ < 2147483648) (N65_ : zMem) (hs66_ : zFr [] [102] N60_ N65_) (i67_ : 0 ≤ u64_) (i68_ : u64_ ≤ F_) (i69_ : (∀ x : Nat, ¬ (64 * ze Mz 81 14 ≤ x ∧ (x : Int) < 64 * ze Mz 81 14 + F_) → zg N65_ 102 x = zg Mz 102 x)) (i70_ : (∀ k : Nat, (k : Int) < u64_ → zg N65_ 102 ((64 * ze Mz 81 14).toNat + k) = vv_ k)), (F_ - u64_).toNat < n → zW l m_M_letLine (zn Mz + 0, zw Mz + 0) N65_ 144 [some (.ref 81), some (.int (Int32.ofInt (ze Mz 81 4))), some (.long (Int64.ofInt (zg N3_ 81 11))), none, some (.int (Int32.ofInt u64_))] [] (zpV [3, 4, 5, 6, 7, 8, 11, 14, 38, 39, 41, 42, 43] [95, 96, 97, 100, 101, 102] Mz (fun N => zRt b_ n_ N ∧ 0 ≤ ze N 81 14 ∧ ze N 81 14 ≤ 8 ∧ (((1 ≤ ze N 81 7 ∧ zls b_ n_ F_ K_ (0, (ze Mz 81 4).toNat, nm_) = zLf) ∨ (ze N 81 7 = 0 ∧ (∃ nm2 : List (Int × (Nat → Int)), zls b_ n_ F_ K_ (0, (ze Mz 81 4).toNat, nm_) = (0, (ze N 81 4).toNat, nm2) ∧ zRNm nm2 F_ K_ b_ n_ N) ∧ ze Mz 81 4 < ze N 81 4))))) := by
                                          intro n
                                          induction n with
                                          | zero =>
                                            intro u64_ hu64_a hu64_b N65_ hs66_ i67_ i68_ i69_ i70_ h0
                                            exact absurd h0 (Nat.not_lt_zero _)
                                          | succ n ih_144 =>
                                            intro u64_ hu64_a hu64_b N65_ hs66_ i67_ i68_ i69_ i70_ hlt_144
                                            have hf_N65_ : zFr [3, 4, 5, 6, 7, 8, 11, 14, 38, 39, 41, 42, 43] [95, 96, 97, 100, 101, 102] Mz N65_ := hf_N60_.tr hs66_ (by decide) (by decide)
                                            have e3_N65_ : ze N65_ 81 3 = ze N60_ 81 3 := hs66_.e (by decide)
                                            have e4_N65_ : ze N65_ 81 4 = ze N60_ 81 4 := hs66_.e (by decide)
                                            have e7_N65_ : ze N65_ 81 7 = ze N60_ 81 7 := hs66_.e (by decide)
                                            have e14_N65_ : ze N65_ 81 14 = ze N60_ 81 14 := hs66_.e (by decide)
                                            have e26_N65_ : ze N65_ 81 26 = ze N60_ 81 26 := hs66_.e (by decide)
                                            have e39_N65_ : ze N65_ 81 39 = ze N60_ 81 39 := hs66_.e (by decide)
                                            have qzr95_N65_ : zr95 N65_ = zr95 N60_ := zr95_f hs66_ (by decide)
                                            have qzr101_N65_ : zr101 N65_ = zr101 N60_ := zr101_f hs66_ (by decide)
                                            have c71_ : zRmk F_ K_ N65_ := zRmk.fr hs66_ c61_ (by decide) (by decide)
                                            have c72_ : zRb b_ n_ N65_ := zRb.fr hs66_ c62_ (by decide) (by decide)
                                            have c73_ : zRt b_ n_ N65_ := zRt.fr hs66_ c63_ (by decide) (by decide)
                                            have hcl0_ := (show (∀ x : Nat, ¬ (64 * ze Mz 81 14 ≤ x ∧ (x : Int) < 64 * ze Mz 81 14 + F_) → zg N65_ 102 x = zg Mz 102 x) by assumption)
                                            have hcv0_ := (show (∀ k : Nat, (k : Int) < u64_ → zg N65_ 102 ((64 * ze Mz 81 14).toNat + k) = vv_ k) by assumption)
                                            refine zw_iload (pc := 144) (i := 4) (x := Int32.ofInt u64_) rfl (zdal_p dlC_M_letLine_89 (i := 1) rfl) ?_
                                            refine zw_aload_n (pc := 146) (n := 0) (x := 81) rfl (zdal_p dlC_M_letLine_89 (i := 2) rfl) ?_
                                            refine zr_getI0 hf_N65_ hW (pc := 147) (by decide) f_M_235 rfl (zdal_p dlC_M_letLine_89 (i := 3) rfl) ?_
                                            refine zr_icmp_ge (pc := 150) (tgt := 181) ⟨hu64_a, hu64_b⟩ ⟨(ze_r Mz 81 26).1, (ze_r Mz 81 26).2⟩ (by decide) (zdal_p dlC_M_letLine_89 (i := 4) rfl) (fun hc_150 => ?_) (fun hc_150 => ?_)
                                            · skip
                                              refine zw_aload_n (pc := 181) (n := 0) (x := 81) rfl (zdal_p dlC_M_letLine_89 (i := 20) rfl) ?_
                                              refine zw_dup (pc := 182) rfl (zdal_p dlC_M_letLine_89 (i := 21) rfl) ?_
                                              refine zr_getI (hf_N65_.w hW) (pc := 183) f_M_299 rfl (zdal_p dlC_M_letLine_89 (i := 22) rfl) ?_
                                              refine zw_iconst (pc := 186) (v := Int32.ofInt 1) (by decide) (zdal_p dlC_M_letLine_89 (i := 23) rfl) ?_
                                              refine zr_iadd (pc := 187) (zdal_p dlC_M_letLine_90 (i := 0) rfl) ?_
                                              refine zr_putI (hf_N65_.w hW) (pc := 188) f_M_299 rfl rfl ⟨by omega, by omega⟩ rfl rfl (zdal_p dlC_M_letLine_90 (i := 1) rfl) (fun N74_ hsN74_ hvN74_ => ?_)
                                              have hf_N74_ : zFr [3, 4, 5, 6, 7, 8, 11, 14, 38, 39, 41, 42, 43] [95, 96, 97, 100, 101, 102] Mz N74_ := hf_N65_.tr hsN74_ (by decide) (by decide)
                                              have e3_N74_ : ze N74_ 81 3 = ze N65_ 81 3 := hsN74_.e (by decide)
                                              have e4_N74_ : ze N74_ 81 4 = ze N65_ 81 4 := hsN74_.e (by decide)
                                              have e7_N74_ : ze N74_ 81 7 = ze N65_ 81 7 := hsN74_.e (by decide)
                                              have r14_N74_ := ze_r N74_ 81 14
                                              have e26_N74_ : ze N74_ 81 26 = ze N65_ 81 26 := hsN74_.e (by decide)
                                              have e39_N74_ : ze N74_ 81 39 = ze N65_ 81 39 := hsN74_.e (by decide)
                                              have qzr95_N74_ : zr95 N74_ = zr95 N65_ := zr95_f hsN74_ (by decide)
                                              have qzr101_N74_ : zr101 N74_ = zr101 N65_ := zr101_f hsN74_ (by decide)
                                              have qzr102_N74_ : zr102 N74_ = zr102 N65_ := zr102_f hsN74_ (by decide)
                                              have c75_ : zRmk F_ K_ N74_ := zRmk.fr hsN74_ c71_ (by decide) (by decide)
                                              have c76_ : zRb b_ n_ N74_ := zRb.fr hsN74_ c72_ (by decide) (by decide)
                                              have c77_ : zRt b_ n_ N74_ := zRt.fr hsN74_ c73_ (by decide) (by decide)
                                              have h101_ : ∀ k : Nat, zg N74_ 101 k = zg N60_ 101 k := fun k => congrFun (qzr101_N74_.trans qzr101_N65_) k
                                              have hnu_ := p3_.u (N := N74_) (q := (znx b_ n_ (ze Mz 81 4).toNat)) (v := vv_) (by omega) (by omega) hna_.1 ((h101_ _).trans hk1_) (fun k_ hk_ => (h101_ k_).trans (hko_ k_ hk_)) (zrw_v (fun k_ hk_ => (hsN74_.jg (by decide) (by decide) _).trans (hcv0_ k_ (by omega))) (fun k_ hk_ => by rw [hvv_]; exact zrw_n hk_)) (fun k_ hk_ => zrw_c (fun j_ hj_ => (hsN74_.jg (by decide) (by decide) _).trans (hcl0_ _ (by omega)))) hfit_
                                              have hfin_ : (∃ nm2 : List (Int × (Nat → Int)), zls b_ n_ F_ K_ (0, (ze Mz 81 4).toNat, nm_) = (0, (ze N74_ 81 4).toNat, nm2) ∧ zRNm nm2 F_ K_ b_ n_ N74_) := ⟨_, hzl2_.trans (by rw [← hx4_, show ze N74_ 81 4 = ze N51_ 81 4 by omega]), hnu_⟩
                                              exact zr_vret (pc := 191) rfl hf_N74_ ⟨c77_, (show 0 ≤ ze N74_ 81 14 by first | assumption | omega), (show ze N74_ 81 14 ≤ 8 by first | assumption | omega), (show ((1 ≤ ze N74_ 81 7 ∧ zls b_ n_ F_ K_ (0, (ze Mz 81 4).toNat, nm_) = zLf) ∨ (ze N74_ 81 7 = 0 ∧ (∃ nm2 : List (Int × (Nat → Int)), zls b_ n_ F_ K_ (0, (ze Mz 81 4).toNat, nm_) = (0, (ze N74_ 81 4).toNat, nm2) ∧ zRNm nm2 F_ K_ b_ n_ N74_) ∧ ze Mz 81 4 < ze N74_ 81 4)) from Or.inr (⟨(show ze N74_ 81 7 = 0 by first | omega | exact hfin_), (show (∃ nm2 : List (Int × (Nat → Int)), zls b_ n_ F_ K_ (0, (ze Mz 81 4).toNat, nm_) = (0, (ze N74_ 81 4).toNat, nm2) ∧ zRNm nm2 F_ K_ b_ n_ N74_) by first | omega | exact hfin_), (show ze Mz 81 4 < ze N74_ 81 4 by first | omega | exact hfin_)⟩))⟩ (zdal_p dlC_M_letLine_90 (i := 2) rfl)
                                            · skip
                                              refine zw_aload_n (pc := 153) (n := 0) (x := 81) rfl (zdal_p dlC_M_letLine_89 (i := 5) rfl) ?_
                                              refine zr_getF (r := 102) (hf_N65_.w hW) (pc := 154) f_M_78 rfl (zh_102 (hf_N65_.w hW)).1 (zdal_p dlC_M_letLine_89 (i := 6) rfl) ?_
                                              refine zw_bipush (pc := 157) (v := Int32.ofInt 64) (by decide) (zdal_p dlC_M_letLine_89 (i := 7) rfl) ?_
                                              refine zw_aload_n (pc := 159) (n := 0) (x := 81) rfl (zdal_p dlC_M_letLine_89 (i := 8) rfl) ?_
                                              refine zr_getI (hf_N65_.w hW) (pc := 160) f_M_299 rfl (zdal_p dlC_M_letLine_89 (i := 9) rfl) ?_
                                              refine zr_imul (pc := 163) (zdal_p dlC_M_letLine_89 (i := 10) rfl) ?_
                                              refine zw_iload (pc := 164) (i := 4) (x := Int32.ofInt u64_) rfl (zdal_p dlC_M_letLine_89 (i := 11) rfl) ?_
                                              refine zr_iadd (pc := 166) (zdal_p dlC_M_letLine_89 (i := 12) rfl) ?_
                                              refine zw_aload_n (pc := 167) (n := 0) (x := 81) rfl (zdal_p dlC_M_letLine_89 (i := 13) rfl) ?_
                                              refine zr_getF (r := 95) (hf_N65_.w hW) (pc := 168) f_M_56 rfl (zh_95 (hf_N65_.w hW)).1 (zdal_p dlC_M_letLine_89 (i := 14) rfl) ?_
                                              refine zw_iload (pc := 171) (i := 4) (x := Int32.ofInt u64_) rfl (zdal_p dlC_M_letLine_89 (i := 15) rfl) ?_
                                              refine zr_laldn (pc := 173) (zh_95 (hf_N65_.w hW)).2 (by decide) (by omega) (by omega) (zdal_p dlC_M_letLine_89 (i := 16) rfl) (fun v78_ hv78_ hv78_a hv78_b => ?_)
                                              have hx_ := zrw_at (F := F_) (M := N39_) (q := 95) (k := (u64_).toNat) (e := 0) (by omega) (by omega) (hv78_.trans (congrFun (qzr95_N65_.trans (qzr95_N60_.trans qzr95_N51_)) _)) (by omega)
                                              rw [← hvv_] at hx_
                                              refine zr_last (pc := 174) (zh_102 (hf_N65_.w hW)).2 (by decide) (by decide) (by omega) (by omega) (zdal_p dlC_M_letLine_89 (i := 17) rfl) (fun N79_ hN79_ hsN79_ => ?_)
                                              have hf_N79_ : zFr [3, 4, 5, 6, 7, 8, 11, 14, 38, 39, 41, 42, 43] [95, 96, 97, 100, 101, 102] Mz N79_ := hf_N65_.tr hsN79_ (by decide) (by decide)
                                              have hb0_N79_ : zFr [] [102] N60_ N79_ := hs66_.tr hsN79_ (by decide) (by decide)
                                              have e3_N79_ : ze N79_ 81 3 = ze N65_ 81 3 := hsN79_.e (by decide)
                                              have e4_N79_ : ze N79_ 81 4 = ze N65_ 81 4 := hsN79_.e (by decide)
                                              have e7_N79_ : ze N79_ 81 7 = ze N65_ 81 7 := hsN79_.e (by decide)
                                              have e14_N79_ : ze N79_ 81 14 = ze N65_ 81 14 := hsN79_.e (by decide)
                                              have e26_N79_ : ze N79_ 81 26 = ze N65_ 81 26 := hsN79_.e (by decide)
                                              have e39_N79_ : ze N79_ 81 39 = ze N65_ 81 39 := hsN79_.e (by decide)
                                              have qzr95_N79_ : zr95 N79_ = zr95 N65_ := zr95_f hsN79_ (by decide)
                                              have qzr101_N79_ : zr101 N79_ = zr101 N65_ := zr101_f hsN79_ (by decide)
                                              have c80_ : zRmk F_ K_ N79_ := zRmk.fr hsN79_ c71_ (by decide) (by decide)
                                              have c81_ : zRb b_ n_ N79_ := zRb.fr hsN79_ c72_ (by decide) (by decide)
                                              have c82_ : zRt b_ n_ N79_ := zRt.fr hsN79_ c73_ (by decide) (by decide)
                                              have hcl_ : (∀ x : Nat, ¬ (64 * ze Mz 81 14 ≤ x ∧ (x : Int) < 64 * ze Mz 81 14 + F_) → zg N79_ 102 x = zg Mz 102 x) := fun x hx => by rw [zs_othJ hN79_ (by omega)]; exact hcl0_ x hx
                                              have hcv_ : (∀ k : Nat, (k : Int) < u64_ + 1 → zg N79_ 102 ((64 * ze Mz 81 14).toNat + k) = vv_ k) := fun k hk => by by_cases g_ : (k : Int) = u64_; (rw [show (64 * ze Mz 81 14).toNat + k = (64 * ze N65_ 81 14 + u64_).toNat by omega, zs_getJ hN79_ ⟨by omega, by omega⟩, hx_, show (u64_).toNat = k by omega]); (rw [zs_othJ hN79_ (by omega)]; exact hcv0_ k (by omega))
                                              refine zr_iinc (pc := 175) (i := 4) (a := u64_) (n := 1) (L2 := [some (.ref 81), some (.int (Int32.ofInt (ze Mz 81 4))), some (.long (Int64.ofInt (zg N3_ 81 11))), none, some (.int (Int32.ofInt (u64_ + 1)))]) rfl (by decide) rfl (zdal_p dlC_M_letLine_89 (i := 18) rfl) ?_
                                              refine zw_goto (pc := 178) (tgt := 144) (by decide) (zdal_p dlC_M_letLine_89 (i := 19) rfl) ?_
                                              exact ih_144 (u64_ + 1) (by omega) (by omega) N79_ hb0_N79_ (show 0 ≤ (u64_ + 1) by first | assumption | omega) (show (u64_ + 1) ≤ F_ by first | assumption | omega) (show (∀ x : Nat, ¬ (64 * ze Mz 81 14 ≤ x ∧ (x : Int) < 64 * ze Mz 81 14 + F_) → zg N79_ 102 x = zg Mz 102 x) by exact hcl_) (show (∀ k : Nat, (k : Int) < (u64_ + 1) → zg N79_ 102 ((64 * ze Mz 81 14).toNat + k) = vv_ k) by exact hcv_) (by omega)
                                        exact lp_144 _ 0 (by decide) (by decide) N60_ zFr.rf (show 0 ≤ (0 : Int) by first | assumption | omega) (show (0 : Int) ≤ F_ by first | assumption | omega) (show (∀ x : Nat, ¬ (64 * ze Mz 81 14 ≤ x ∧ (x : Int) < 64 * ze Mz 81 14 + F_) → zg N60_ 102 x = zg Mz 102 x) by exact fun x _ => h102_ x) (show (∀ k : Nat, (k : Int) < (0 : Int) → zg N60_ 102 ((64 * ze Mz 81 14).toNat + k) = vv_ k) by exact fun k hk => absurd hk (by omega)) (Nat.lt_succ_self _)
                                      · skip
                                        exfalso; omega
                                    · skip
                                      have hrt_ : zls b_ n_ F_ K_ (0, (ze Mz 81 4).toNat, nm_) = zLf := by rw [hzl_, zRst_g (by omega)]; exact zle_b
                                      refine zw_aload_n (pc := 116) (n := 0) (x := 81) rfl (zdal_p dlC_M_letLine_88 (i := 9) rfl) ?_
                                      refine zw_bipush (pc := 117) (v := Int32.ofInt 6) (by decide) (zdal_p dlC_M_letLine_88 (i := 10) rfl) ?_
                                      refine zw_iload_n (pc := 119) (n := 1) (x := Int32.ofInt (ze Mz 81 4)) rfl (zdal_p dlC_M_letLine_88 (i := 11) rfl) ?_
                                      refine zr_callV (hf_N51_.w hW) hf_N51_.x (pc := 120) [.int (Int32.ofInt 6), .int (Int32.ofInt (ze Mz 81 4))] [] l_M_168 (c_M_wrongAtF l N51_ (hf_N51_.w hW) 6 (by decide) (by decide) (ze Mz 81 4) (ze_r Mz 81 4).1 (ze_r Mz 81 4).2 (show 1 ≤ 6 by first | assumption | omega)) rfl rfl rfl (by decide) (Nat.le_of_ble_eq_true rfl) (zdal_p dlC_M_letLine_88 (i := 12) rfl) ?_
                                      rintro _ N83_ ⟨rfl, hsN83_, hp0_N83_⟩
                                      replace hp0_N83_ : 1 ≤ ze N83_ 81 7 := hp0_N83_
                                      have hf_N83_ : zFr [3, 4, 5, 6, 7, 8, 11, 14, 38, 39, 41, 42, 43] [95, 96, 97, 100, 101, 102] Mz N83_ := hf_N51_.tr hsN83_ (by decide) (by decide)
                                      have e3_N83_ : ze N83_ 81 3 = ze N51_ 81 3 := hsN83_.e (by decide)
                                      have e4_N83_ : ze N83_ 81 4 = ze N51_ 81 4 := hsN83_.e (by decide)
                                      have r7_N83_ := ze_r N83_ 81 7
                                      have e14_N83_ : ze N83_ 81 14 = ze N51_ 81 14 := hsN83_.e (by decide)
                                      have e26_N83_ : ze N83_ 81 26 = ze N51_ 81 26 := hsN83_.e (by decide)
                                      have e39_N83_ : ze N83_ 81 39 = ze N51_ 81 39 := hsN83_.e (by decide)
                                      have qzr95_N83_ : zr95 N83_ = zr95 N51_ := zr95_f hsN83_ (by decide)
                                      have qzr101_N83_ : zr101 N83_ = zr101 N51_ := zr101_f hsN83_ (by decide)
                                      have qzr102_N83_ : zr102 N83_ = zr102 N51_ := zr102_f hsN83_ (by decide)
                                      have c85_ : zRmk F_ K_ N83_ := zRmk.fr hsN83_ c53_ (by decide) (by decide)
                                      have c86_ : zRb b_ n_ N83_ := zRb.fr hsN83_ c54_ (by decide) (by decide)
                                      have c87_ : zRNm nm_ F_ K_ b_ n_ N83_ := zRNm.fr hsN83_ c55_ (by decide) (by decide)
                                      have c88_ : zRt b_ n_ N83_ := zRt.fr hsN83_ hp0_N51_ (by decide) (by decide)
                                      show zW l m_M_letLine (zn Mz + 0, zw Mz + 0) N83_ 123 [some (.ref 81), some (.int (Int32.ofInt (ze Mz 81 4))), some (.long (Int64.ofInt (zg N3_ 81 11))), none, none] [] _
                                      refine zw_aload_n (pc := 123) (n := 0) (x := 81) rfl d_M_letLine_123 ?_
                                      refine zr_getI (hf_N83_.w hW) (pc := 124) f_M_172 rfl d_M_letLine_124 ?_
                                      refine zr_if_le (pc := 127) (tgt := 131) ⟨(ze_r N83_ 81 7).1, (ze_r N83_ 81 7).2⟩ (by decide) d_M_letLine_127 (fun hc_127 => ?_) (fun hc_127 => ?_)
                                      · skip
                                        exfalso; omega
                                      · skip
                                        exact zr_vret (pc := 130) rfl hf_N83_ ⟨c88_, (show 0 ≤ ze N83_ 81 14 by first | assumption | omega), (show ze N83_ 81 14 ≤ 8 by first | assumption | omega), (show ((1 ≤ ze N83_ 81 7 ∧ zls b_ n_ F_ K_ (0, (ze Mz 81 4).toNat, nm_) = zLf) ∨ (ze N83_ 81 7 = 0 ∧ (∃ nm2 : List (Int × (Nat → Int)), zls b_ n_ F_ K_ (0, (ze Mz 81 4).toNat, nm_) = (0, (ze N83_ 81 4).toNat, nm2) ∧ zRNm nm2 F_ K_ b_ n_ N83_) ∧ ze Mz 81 4 < ze N83_ 81 4)) from Or.inl (⟨(show 1 ≤ ze N83_ 81 7 by first | omega | exact hrt_ | exact hrt2_ | exact hrt3_), (show zls b_ n_ F_ K_ (0, (ze Mz 81 4).toNat, nm_) = zLf by first | omega | exact hrt_ | exact hrt2_ | exact hrt3_)⟩))⟩ (zdal_p dlC_M_letLine_88 (i := 16) rfl)
                                · skip
                                  exfalso; omega
                        · skip
                          exfalso; omega
                      · skip
                        exact absurd hc_61 (by decide)
                    · skip
                      have hv0_ := ha57_0_hp0_N14_
                      have hfn_ := ha57_3_hp0_N14_
                      rw [hx1_] at hfn_
                      have hrt_ : zls b_ n_ F_ K_ (0, (ze Mz 81 4).toNat, nm_) = zLf := zls_f hl0_ (fun q_ => by have h_ := q_.2.2.1; rw [hfn_] at h_; cases h_)
                      show zW l m_M_letLine (zn Mz + 0, zw Mz + 0) N3_ 60 [some (.ref 81), some (.int (Int32.ofInt (ze Mz 81 4))), none, none, none] [.int (Int32.ofInt v15_)] _
                      refine zw_iconst (pc := 60) (v := Int32.ofInt (-1)) (by decide) (zdal_p dlC_M_letLine_87 (i := 5) rfl) ?_
                      refine zr_icmp_eq (pc := 61) (tgt := 69) ⟨hv15_a, hv15_b⟩ ⟨(by decide), (by decide)⟩ (by decide) (zdal_p dlC_M_letLine_87 (i := 6) rfl) (fun hc_61 => ?_) (fun hc_61 => ?_)
                      · skip
                        exfalso; omega
                      · skip
                        refine zw_aload_n (pc := 64) (n := 0) (x := 81) rfl (zdal_p dlC_M_letLine_87 (i := 7) rfl) ?_
                        refine zw_iconst (pc := 65) (v := Int32.ofInt 3) (by decide) (zdal_p dlC_M_letLine_87 (i := 8) rfl) ?_
                        refine zr_callV (hf_N3_.w hW) hf_N3_.x (pc := 66) [.int (Int32.ofInt 3)] [] l_M_190 (c_M_wrongF l N3_ (hf_N3_.w hW) 3 (by decide) (by decide) (show 1 ≤ 3 by first | assumption | omega)) rfl rfl rfl (by decide) (Nat.le_of_ble_eq_true rfl) (zdal_p dlC_M_letLine_87 (i := 9) rfl) ?_
                        rintro _ N89_ ⟨rfl, hsN89_, hp0_N89_⟩
                        replace hp0_N89_ : 1 ≤ ze N89_ 81 7 := hp0_N89_
                        have hf_N89_ : zFr [3, 4, 5, 6, 7, 8, 11, 14, 38, 39, 41, 42, 43] [95, 96, 97, 100, 101, 102] Mz N89_ := hf_N3_.tr hsN89_ (by decide) (by decide)
                        have e3_N89_ : ze N89_ 81 3 = ze N3_ 81 3 := hsN89_.e (by decide)
                        have e4_N89_ : ze N89_ 81 4 = ze N3_ 81 4 := hsN89_.e (by decide)
                        have r7_N89_ := ze_r N89_ 81 7
                        have e14_N89_ : ze N89_ 81 14 = ze N3_ 81 14 := hsN89_.e (by decide)
                        have e26_N89_ : ze N89_ 81 26 = ze N3_ 81 26 := hsN89_.e (by decide)
                        have e39_N89_ : ze N89_ 81 39 = ze N3_ 81 39 := hsN89_.e (by decide)
                        have qzr95_N89_ : zr95 N89_ = zr95 N3_ := zr95_f hsN89_ (by decide)
                        have qzr101_N89_ : zr101 N89_ = zr101 N3_ := zr101_f hsN89_ (by decide)
                        have qzr102_N89_ : zr102 N89_ = zr102 N3_ := zr102_f hsN89_ (by decide)
                        have c91_ : zRmk F_ K_ N89_ := zRmk.fr hsN89_ c5_ (by decide) (by decide)
                        have c92_ : zRb b_ n_ N89_ := zRb.fr hsN89_ c6_ (by decide) (by decide)
                        have c93_ : zRNm nm_ F_ K_ b_ n_ N89_ := zRNm.fr hsN89_ c7_ (by decide) (by decide)
                        have c94_ : zRt b_ n_ N89_ := zRt.fr hsN89_ hp1_N3_ (by decide) (by decide)
                        show zW l m_M_letLine (zn Mz + 0, zw Mz + 0) N89_ 69 [some (.ref 81), some (.int (Int32.ofInt (ze Mz 81 4))), none, none, none] [] _
                        refine zw_aload_n (pc := 69) (n := 0) (x := 81) rfl (zdal_p dlC_M_letLine_87 (i := 10) rfl) ?_
                        refine zr_getI (hf_N89_.w hW) (pc := 70) f_M_172 rfl (zdal_p dlC_M_letLine_87 (i := 11) rfl) ?_
                        refine zr_if_le (pc := 73) (tgt := 77) ⟨(ze_r N89_ 81 7).1, (ze_r N89_ 81 7).2⟩ (by decide) (zdal_p dlC_M_letLine_87 (i := 12) rfl) (fun hc_73 => ?_) (fun hc_73 => ?_)
                        · skip
                          exfalso; omega
                        · skip
                          exact zr_vret (pc := 76) rfl hf_N89_ ⟨c94_, (show 0 ≤ ze N89_ 81 14 by first | assumption | omega), (show ze N89_ 81 14 ≤ 8 by first | assumption | omega), (show ((1 ≤ ze N89_ 81 7 ∧ zls b_ n_ F_ K_ (0, (ze Mz 81 4).toNat, nm_) = zLf) ∨ (ze N89_ 81 7 = 0 ∧ (∃ nm2 : List (Int × (Nat → Int)), zls b_ n_ F_ K_ (0, (ze Mz 81 4).toNat, nm_) = (0, (ze N89_ 81 4).toNat, nm2) ∧ zRNm nm2 F_ K_ b_ n_ N89_) ∧ ze Mz 81 4 < ze N89_ 81 4)) from Or.inl (⟨(show 1 ≤ ze N89_ 81 7 by first | omega | exact hrt_ | exact hrt2_ | exact hrt3_), (show zls b_ n_ F_ K_ (0, (ze Mz 81 4).toNat, nm_) = zLf by first | omega | exact hrt_ | exact hrt2_ | exact hrt3_)⟩))⟩ (zdal_p dlC_M_letLine_87 (i := 13) rfl)
                · skip
                  exfalso; omega
              · skip
                exact absurd hc_41 (by decide)
            · skip
              have hna_ := ha38_0_hp0_N10_
              rw [hx1_] at hna_
              have hrt_ : zls b_ n_ F_ K_ (0, (ze Mz 81 4).toNat, nm_) = zLf := zls_f hl0_ (fun q_ => hna_ q_.2.1)
              show zW l m_M_letLine (zn Mz + 0, zw Mz + 0) N3_ 41 [some (.ref 81), some (.int (Int32.ofInt (ze Mz 81 4))), none, none, none] [.int (Int32.ofInt 0)] _
              refine zr_if_ne (pc := 41) (tgt := 49) ⟨(by decide), (by decide)⟩ (by decide) (zdal_p dlC_M_letLine_86 (i := 20) rfl) (fun hc_41 => ?_) (fun hc_41 => ?_)
              · skip
                exact absurd hc_41 (by decide)
              · skip
                refine zw_aload_n (pc := 44) (n := 0) (x := 81) rfl (zdal_p dlC_M_letLine_86 (i := 21) rfl) ?_
                refine zw_iconst (pc := 45) (v := Int32.ofInt 2) (by decide) (zdal_p dlC_M_letLine_86 (i := 22) rfl) ?_
                refine zr_callV (hf_N3_.w hW) hf_N3_.x (pc := 46) [.int (Int32.ofInt 2)] [] l_M_190 (c_M_wrongF l N3_ (hf_N3_.w hW) 2 (by decide) (by decide) (show 1 ≤ 2 by first | assumption | omega)) rfl rfl rfl (by decide) (Nat.le_of_ble_eq_true rfl) (zdal_p dlC_M_letLine_86 (i := 23) rfl) ?_
                rintro _ N95_ ⟨rfl, hsN95_, hp0_N95_⟩
                replace hp0_N95_ : 1 ≤ ze N95_ 81 7 := hp0_N95_
                have hf_N95_ : zFr [3, 4, 5, 6, 7, 8, 11, 14, 38, 39, 41, 42, 43] [95, 96, 97, 100, 101, 102] Mz N95_ := hf_N3_.tr hsN95_ (by decide) (by decide)
                have e3_N95_ : ze N95_ 81 3 = ze N3_ 81 3 := hsN95_.e (by decide)
                have e4_N95_ : ze N95_ 81 4 = ze N3_ 81 4 := hsN95_.e (by decide)
                have r7_N95_ := ze_r N95_ 81 7
                have e14_N95_ : ze N95_ 81 14 = ze N3_ 81 14 := hsN95_.e (by decide)
                have e26_N95_ : ze N95_ 81 26 = ze N3_ 81 26 := hsN95_.e (by decide)
                have e39_N95_ : ze N95_ 81 39 = ze N3_ 81 39 := hsN95_.e (by decide)
                have qzr95_N95_ : zr95 N95_ = zr95 N3_ := zr95_f hsN95_ (by decide)
                have qzr101_N95_ : zr101 N95_ = zr101 N3_ := zr101_f hsN95_ (by decide)
                have qzr102_N95_ : zr102 N95_ = zr102 N3_ := zr102_f hsN95_ (by decide)
                have c97_ : zRmk F_ K_ N95_ := zRmk.fr hsN95_ c5_ (by decide) (by decide)
                have c98_ : zRb b_ n_ N95_ := zRb.fr hsN95_ c6_ (by decide) (by decide)
                have c99_ : zRNm nm_ F_ K_ b_ n_ N95_ := zRNm.fr hsN95_ c7_ (by decide) (by decide)
                have c100_ : zRt b_ n_ N95_ := zRt.fr hsN95_ hp1_N3_ (by decide) (by decide)
                show zW l m_M_letLine (zn Mz + 0, zw Mz + 0) N95_ 49 [some (.ref 81), some (.int (Int32.ofInt (ze Mz 81 4))), none, none, none] [] _
                refine zw_aload_n (pc := 49) (n := 0) (x := 81) rfl (zdal_p dlC_M_letLine_87 (i := 0) rfl) ?_
                refine zr_callV (hf_N95_.w hW) hf_N95_.x (pc := 50) [] [] l_M_183 (c_M_isGood l N95_ (hf_N95_.w hW) ) rfl rfl rfl (by decide) (Nat.le_of_ble_eq_true rfl) (zdal_p dlC_M_letLine_87 (i := 1) rfl) ?_
                rintro _ N101_ ⟨v102_, rfl, ⟨hv102_a, hv102_b⟩, hsN101_, hp0_N101_⟩
                obtain rfl := hsN101_.eq.symm
                replace hp0_N101_ : ((v102_ = 1 ∧ ze N95_ 81 7 = 0) ∨ (v102_ = 0 ∧ ze N95_ 81 7 ≠ 0)) := hp0_N101_
                rcases hp0_N101_ with ⟨rfl, ha50_0_hp0_N101_⟩ | ⟨rfl, ha50_0_hp0_N101_⟩
                · skip
                  exfalso; omega
                · skip
                  show zW l m_M_letLine (zn Mz + 0, zw Mz + 0) N95_ 53 [some (.ref 81), some (.int (Int32.ofInt (ze Mz 81 4))), none, none, none] [.int (Int32.ofInt 0)] _
                  refine zr_if_eq (pc := 53) (tgt := 69) ⟨(by decide), (by decide)⟩ (by decide) (zdal_p dlC_M_letLine_87 (i := 2) rfl) (fun hc_53 => ?_) (fun hc_53 => ?_)
                  · skip
                    refine zw_aload_n (pc := 69) (n := 0) (x := 81) rfl (zdal_p dlC_M_letLine_87 (i := 10) rfl) ?_
                    refine zr_getI (hf_N95_.w hW) (pc := 70) f_M_172 rfl (zdal_p dlC_M_letLine_87 (i := 11) rfl) ?_
                    refine zr_if_le (pc := 73) (tgt := 77) ⟨(ze_r N95_ 81 7).1, (ze_r N95_ 81 7).2⟩ (by decide) (zdal_p dlC_M_letLine_87 (i := 12) rfl) (fun hc_73 => ?_) (fun hc_73 => ?_)
                    · skip
                      exfalso; omega
                    · skip
                      exact zr_vret (pc := 76) rfl hf_N95_ ⟨c100_, (show 0 ≤ ze N95_ 81 14 by first | assumption | omega), (show ze N95_ 81 14 ≤ 8 by first | assumption | omega), (show ((1 ≤ ze N95_ 81 7 ∧ zls b_ n_ F_ K_ (0, (ze Mz 81 4).toNat, nm_) = zLf) ∨ (ze N95_ 81 7 = 0 ∧ (∃ nm2 : List (Int × (Nat → Int)), zls b_ n_ F_ K_ (0, (ze Mz 81 4).toNat, nm_) = (0, (ze N95_ 81 4).toNat, nm2) ∧ zRNm nm2 F_ K_ b_ n_ N95_) ∧ ze Mz 81 4 < ze N95_ 81 4)) from Or.inl (⟨(show 1 ≤ ze N95_ 81 7 by first | omega | exact hrt_ | exact hrt2_ | exact hrt3_), (show zls b_ n_ F_ K_ (0, (ze Mz 81 4).toNat, nm_) = zLf by first | omega | exact hrt_ | exact hrt2_ | exact hrt3_)⟩))⟩ (zdal_p dlC_M_letLine_87 (i := 13) rfl)
                  · skip
                    exact absurd hc_53 (by decide)
        · skip
          exfalso; omega
    · skip
      exfalso; omega
  · skip
    have hrt_ : zls b_ n_ F_ K_ (0, (ze Mz 81 4).toNat, nm_) = zLf := zls_f hl0_ (fun q_ => by have h_ := q_.1; omega)
    refine zw_aload_n (pc := 14) (n := 0) (x := 81) rfl (zdal_p dlC_M_letLine_86 (i := 7) rfl) ?_
    refine zw_iconst (pc := 15) (v := Int32.ofInt 5) (by decide) (zdal_p dlC_M_letLine_86 (i := 8) rfl) ?_
    refine zr_callV (hf.w hW) hf.x (pc := 16) [.int (Int32.ofInt 5)] [] l_M_190 (c_M_wrongF l Mz (hf.w hW) 5 (by decide) (by decide) (show 1 ≤ 5 by first | assumption | omega)) rfl rfl rfl (by decide) (Nat.le_of_ble_eq_true rfl) (zdal_p dlC_M_letLine_86 (i := 9) rfl) ?_
    rintro _ N103_ ⟨rfl, hsN103_, hp0_N103_⟩
    replace hp0_N103_ : 1 ≤ ze N103_ 81 7 := hp0_N103_
    have hf_N103_ : zFr [3, 4, 5, 6, 7, 8, 11, 14, 38, 39, 41, 42, 43] [95, 96, 97, 100, 101, 102] Mz N103_ := hf.tr hsN103_ (by decide) (by decide)
    have e3_N103_ : ze N103_ 81 3 = ze Mz 81 3 := hsN103_.e (by decide)
    have e4_N103_ : ze N103_ 81 4 = ze Mz 81 4 := hsN103_.e (by decide)
    have r7_N103_ := ze_r N103_ 81 7
    have e14_N103_ : ze N103_ 81 14 = ze Mz 81 14 := hsN103_.e (by decide)
    have e26_N103_ : ze N103_ 81 26 = ze Mz 81 26 := hsN103_.e (by decide)
    have e39_N103_ : ze N103_ 81 39 = ze Mz 81 39 := hsN103_.e (by decide)
    have qzr95_N103_ : zr95 N103_ = zr95 Mz := zr95_f hsN103_ (by decide)
    have qzr101_N103_ : zr101 N103_ = zr101 Mz := zr101_f hsN103_ (by decide)
    have qzr102_N103_ : zr102 N103_ = zr102 Mz := zr102_f hsN103_ (by decide)
    have c105_ : zRmk F_ K_ N103_ := zRmk.fr hsN103_ p0_ (by decide) (by decide)
    have c106_ : zRb b_ n_ N103_ := zRb.fr hsN103_ p1_ (by decide) (by decide)
    have c107_ : zRt b_ n_ N103_ := zRt.fr hsN103_ p2_ (by decide) (by decide)
    have c108_ : zRNm nm_ F_ K_ b_ n_ N103_ := zRNm.fr hsN103_ p3_ (by decide) (by decide)
    show zW l m_M_letLine (zn Mz + 0, zw Mz + 0) N103_ 19 [some (.ref 81), some (.int (Int32.ofInt (ze Mz 81 4))), none, none, none] [] _
    refine zw_aload_n (pc := 19) (n := 0) (x := 81) rfl (zdal_p dlC_M_letLine_86 (i := 10) rfl) ?_
    refine zr_callV (hf_N103_.w hW) hf_N103_.x (pc := 20) [] [] l_M_183 (c_M_isGood l N103_ (hf_N103_.w hW) ) rfl rfl rfl (by decide) (Nat.le_of_ble_eq_true rfl) (zdal_p dlC_M_letLine_86 (i := 11) rfl) ?_
    rintro _ N109_ ⟨v110_, rfl, ⟨hv110_a, hv110_b⟩, hsN109_, hp0_N109_⟩
    obtain rfl := hsN109_.eq.symm
    replace hp0_N109_ : ((v110_ = 1 ∧ ze N103_ 81 7 = 0) ∨ (v110_ = 0 ∧ ze N103_ 81 7 ≠ 0)) := hp0_N109_
    rcases hp0_N109_ with ⟨rfl, ha20_0_hp0_N109_⟩ | ⟨rfl, ha20_0_hp0_N109_⟩
    · skip
      exfalso; omega
    · skip
      show zW l m_M_letLine (zn Mz + 0, zw Mz + 0) N103_ 23 [some (.ref 81), some (.int (Int32.ofInt (ze Mz 81 4))), none, none, none] [.int (Int32.ofInt 0)] _
      refine zr_if_eq (pc := 23) (tgt := 30) ⟨(by decide), (by decide)⟩ (by decide) (zdal_p dlC_M_letLine_86 (i := 12) rfl) (fun hc_23 => ?_) (fun hc_23 => ?_)
      · skip
        refine zw_aload_n (pc := 30) (n := 0) (x := 81) rfl (zdal_p dlC_M_letLine_86 (i := 15) rfl) ?_
        refine zr_callV (hf_N103_.w hW) hf_N103_.x (pc := 31) [] [] l_M_183 (c_M_isGood l N103_ (hf_N103_.w hW) ) rfl rfl rfl (by decide) (Nat.le_of_ble_eq_true rfl) (zdal_p dlC_M_letLine_86 (i := 16) rfl) ?_
        rintro _ N111_ ⟨v112_, rfl, ⟨hv112_a, hv112_b⟩, hsN111_, hp0_N111_⟩
        obtain rfl := hsN111_.eq.symm
        replace hp0_N111_ : ((v112_ = 1 ∧ ze N103_ 81 7 = 0) ∨ (v112_ = 0 ∧ ze N103_ 81 7 ≠ 0)) := hp0_N111_
        rcases hp0_N111_ with ⟨rfl, ha31_0_hp0_N111_⟩ | ⟨rfl, ha31_0_hp0_N111_⟩
        · skip
          exfalso; omega
        · skip
          show zW l m_M_letLine (zn Mz + 0, zw Mz + 0) N103_ 34 [some (.ref 81), some (.int (Int32.ofInt (ze Mz 81 4))), none, none, none] [.int (Int32.ofInt 0)] _
          refine zr_if_eq (pc := 34) (tgt := 49) ⟨(by decide), (by decide)⟩ (by decide) (zdal_p dlC_M_letLine_86 (i := 17) rfl) (fun hc_34 => ?_) (fun hc_34 => ?_)
          · skip
            refine zw_aload_n (pc := 49) (n := 0) (x := 81) rfl (zdal_p dlC_M_letLine_87 (i := 0) rfl) ?_
            refine zr_callV (hf_N103_.w hW) hf_N103_.x (pc := 50) [] [] l_M_183 (c_M_isGood l N103_ (hf_N103_.w hW) ) rfl rfl rfl (by decide) (Nat.le_of_ble_eq_true rfl) (zdal_p dlC_M_letLine_87 (i := 1) rfl) ?_
            rintro _ N113_ ⟨v114_, rfl, ⟨hv114_a, hv114_b⟩, hsN113_, hp0_N113_⟩
            obtain rfl := hsN113_.eq.symm
            replace hp0_N113_ : ((v114_ = 1 ∧ ze N103_ 81 7 = 0) ∨ (v114_ = 0 ∧ ze N103_ 81 7 ≠ 0)) := hp0_N113_
            rcases hp0_N113_ with ⟨rfl, ha50_0_hp0_N113_⟩ | ⟨rfl, ha50_0_hp0_N113_⟩
            · skip
              exfalso; omega
            · skip
              show zW l m_M_letLine (zn Mz + 0, zw Mz + 0) N103_ 53 [some (.ref 81), some (.int (Int32.ofInt (ze Mz 81 4))), none, none, none] [.int (Int32.ofInt 0)] _
              refine zr_if_eq (pc := 53) (tgt := 69) ⟨(by decide), (by decide)⟩ (by decide) (zdal_p dlC_M_letLine_87 (i := 2) rfl) (fun hc_53 => ?_) (fun hc_53 => ?_)
              · skip
                refine zw_aload_n (pc := 69) (n := 0) (x := 81) rfl (zdal_p dlC_M_letLine_87 (i := 10) rfl) ?_
                refine zr_getI (hf_N103_.w hW) (pc := 70) f_M_172 rfl (zdal_p dlC_M_letLine_87 (i := 11) rfl) ?_
                refine zr_if_le (pc := 73) (tgt := 77) ⟨(ze_r N103_ 81 7).1, (ze_r N103_ 81 7).2⟩ (by decide) (zdal_p dlC_M_letLine_87 (i := 12) rfl) (fun hc_73 => ?_) (fun hc_73 => ?_)
                · skip
                  exfalso; omega
                · skip
                  exact zr_vret (pc := 76) rfl hf_N103_ ⟨c107_, (show 0 ≤ ze N103_ 81 14 by first | assumption | omega), (show ze N103_ 81 14 ≤ 8 by first | assumption | omega), (show ((1 ≤ ze N103_ 81 7 ∧ zls b_ n_ F_ K_ (0, (ze Mz 81 4).toNat, nm_) = zLf) ∨ (ze N103_ 81 7 = 0 ∧ (∃ nm2 : List (Int × (Nat → Int)), zls b_ n_ F_ K_ (0, (ze Mz 81 4).toNat, nm_) = (0, (ze N103_ 81 4).toNat, nm2) ∧ zRNm nm2 F_ K_ b_ n_ N103_) ∧ ze Mz 81 4 < ze N103_ 81 4)) from Or.inl (⟨(show 1 ≤ ze N103_ 81 7 by first | omega | exact hrt_ | exact hrt2_ | exact hrt3_), (show zls b_ n_ F_ K_ (0, (ze Mz 81 4).toNat, nm_) = zLf by first | omega | exact hrt_ | exact hrt2_ | exact hrt3_)⟩))⟩ (zdal_p dlC_M_letLine_87 (i := 13) rfl)
              · skip
                exact absurd hc_53 (by decide)
          · skip
            exact absurd hc_34 (by decide)
      · skip
        exact absurd hc_23 (by decide)
