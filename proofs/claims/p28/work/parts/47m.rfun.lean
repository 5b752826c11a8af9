def zr101 (M : zMem) : Nat → Int := fun k => zg M 101 k
theorem zr101_f {S C : List Nat} {M N : zMem} (h : zFr S C M N) (hc : 101 ∉ C) : zr101 N = zr101 M := funext fun k => h.jg (by decide) hc k
def zr102 (M : zMem) : Nat → Int := fun k => zg M 102 k
theorem zr102_f {S C : List Nat} {M N : zMem} (h : zFr S C M N) (hc : 102 ∉ C) : zr102 N = zr102 M := funext fun k => h.jg (by decide) hc k
section ZRL
variable {F n : Nat} {K : Nat → Nat → Int} {b : Nat → Int} {nm : List (Int × (Nat → Int))} {M N : zMem}
theorem zRNm.u {q : Nat} {v : Nat → Int} (h : zRNm nm F K b n M) (h14 : ze N 81 14 = ze M 81 14 + 1) (h7 : ze M 81 14 ≤ 7) (hq : zkd b n q = 1) (hw : zg N 101 (ze M 81 14).toNat = zke8 b n q) (ho : ∀ k : Nat, (k : Int) < ze M 81 14 → zg N 101 k = zg M 101 k) (hv : zrw F N 102 (64 * ze M 81 14) = v) (hvo : ∀ k : Nat, (k : Int) < ze M 81 14 → zrw F N 102 (64 * (k : Int)) = zrw F M 102 (64 * (k : Int))) (hf : zfit F K v) : zRNm (nm ++ [(zkey b n q, v)]) F K b n N := by
  obtain ⟨a1, gk, a2, a3⟩ := h
  refine ⟨by (exact zo_1297 a1.1 h14 h7), fun k => if (k : Int) = ze M 81 14 then zkey b n q else gk k, ?_, fun k hk => ?_⟩
  · have e1 : (ze N 81 14).toNat = (ze M 81 14).toNat + 1 := by (exact zo_1298 a1.1 h14 h7)
    have e2 : zup (fun k : Nat => (gk k, zrw F M 102 (64 * (k : Int)))) (ze M 81 14).toNat 0 = zup (fun k : Nat => ((if (k : Int) = ze M 81 14 then zkey b n q else gk k), zrw F N 102 (64 * (k : Int)))) (ze M 81 14).toNat 0 := zup_c _ _ (fun j _ hj => by
      show (gk j, zrw F M 102 (64 * (j : Int))) = ((if (j : Int) = ze M 81 14 then zkey b n q else gk j), zrw F N 102 (64 * (j : Int)))
      rw [if_neg (by (exact zo_1299 a1.1 hj)), hvo j (by (exact zo_1300 a1.1 hj))])
    show nm ++ [(zkey b n q, v)] = zup (fun k : Nat => ((if (k : Int) = ze M 81 14 then zkey b n q else gk k), zrw F N 102 (64 * (k : Int)))) (ze N 81 14).toNat 0
    rw [e1, zup_s, a2, e2]
    have e3 : ((0 + (ze M 81 14).toNat : Nat) : Int) = ze M 81 14 := by (exact zo_1301 a1.1)
    show _ ++ [(zkey b n q, v)] = _ ++ [((if ((0 + (ze M 81 14).toNat : Nat) : Int) = ze M 81 14 then zkey b n q else gk (0 + (ze M 81 14).toNat)), zrw F N 102 (64 * ((0 + (ze M 81 14).toNat : Nat) : Int)))]
    rw [if_pos e3, e3, hv]
  · by_cases g : (k : Int) = ze M 81 14
    · refine ⟨?_, ?_⟩
      · show zWrd (zg N 101 k) (if (k : Int) = ze M 81 14 then zkey b n q else gk k)
        rw [if_pos g, show k = (ze M 81 14).toNat by (exact zo_1302 a1.1 g h7), hw]
        exact zWrd.k hq
      · rw [g, hv]
        exact hf
    · obtain ⟨p1, p4⟩ := a3 k (by (exact zo_1303 h14 hk g))
      refine ⟨?_, ?_⟩
      · show zWrd (zg N 101 k) (if (k : Int) = ze M 81 14 then zkey b n q else gk k)
        rw [if_neg g, ho k (by (exact zo_1303 h14 hk g))]
        exact p1
      · rw [hvo k (by (exact zo_1303 h14 hk g))]
        exact p4
theorem zRst_g (h : ze N 81 39 ≠ 0) : zRst 3 F N = (3, (ze N 81 4).toNat, zrS N, zrW F N, (ze N 81 43).toNat, true) := by
  unfold zRst
  rw [zrG_1 h]
theorem zRst_3 (hI : zRI F K 1 N) (hS : zrS N = []) (h0 : ze N 81 39 = 0) : zRst 3 F N = (3, (ze N 81 4).toNat, [], [zrw F N 95 0], (ze N 81 43).toNat, false) ∧ zfit F K (zrw F N 95 0) := by
  have h4 := hI.2.2.2.1
  rw [hS] at h4
  have hz0 : zbn ([] : List Nat) = 0 := rfl
  have h38 : ze N 81 38 = 1 := by (exact zo_1304 h4 hz0)
  have e0 : (64 : Int) * (ze N 81 38 - 1) = 0 := by (exact zo_1305 h38)
  have hf := hI.ft h0 0 (by (decide)) (by (exact zo_1306 e0))
  rw [Int.mul_zero] at hf
  refine ⟨?_, hf⟩
  unfold zRst
  rw [zrG_0 h0, zrW_c h0 (by (exact zo_1307 e0)), hS, e0, show (ze N 81 38 - 1).toNat = 0 by (exact zo_1308 e0)]
  rfl
theorem zfs_d {x : Nat × List Nat × List (Nat → Int) × Nat × Bool} : zfs b n F K nm (3, x) = (3, x) := rfl
def zMrI (b : Nat → Int) (n P p : Nat) (m : Int) (N : zMem) (k met : Int) : Prop := ∃ l : List Nat, zrm b n P P p [] = zrm b n P (P - k.toNat) (ze N 81 4).toNat l ∧ zmV P l ∧ (l.length : Int) = k ∧ zmt met l ∧ ∀ i : Nat, (i : Int) < k → ze N 83 (6 * m.toNat + i) = ((l.getD i 0 : Nat) : Int)
theorem zMrI_0 {P p : Nat} {m : Int} (hp : (ze N 81 4).toNat = p) : zMrI b n P p m N 0 0 := ⟨[], by rw [hp]; rfl, zmV_0 P, rfl, zmt_0, fun i h => absurd h (by (exact zo_131))⟩
theorem zMrI_f {P p : Nat} {m k met : Int} (h : zMrI b n P p m N k met) (k0 : 0 ≤ k) (kP : k < P) (hn : ¬ (zkd b n (ze N 81 4).toNat = 2 ∧ znu b n (ze N 81 4).toNat < P ∧ ¬ zbt met (znu b n (ze N 81 4).toNat))) (h6 : P ≤ 6) : zrm b n P P p [] = none := by
  obtain ⟨l, a1, a2, a3, a4, a5⟩ := h
  rw [a1, show P - k.toNat = (P - k.toNat - 1) + 1 by omega]
  refine zrm_f (fun q => hn ⟨q.1, q.2.1, fun z => q.2.2 ?_⟩)
  have hb := znu_b q.1
  have h2 := q.2.1
  have h3 := a4.2 (znu b n (ze N 81 4).toNat).toNat (by (exact zo_1309 h6 hb.1 hb.2 q.2.1))
  rw [Int.toNat_of_nonneg hb.1] at h3
  exact h3.mp z
theorem zMrI_s {P p : Nat} {m k met v : Int} {N2 : zMem} (h : zMrI b n P p m M k met) (k0 : 0 ≤ k) (kP : k < P) (h6 : P ≤ 6) (m0 : 0 ≤ m) (hk : zkd b n (ze M 81 4).toNat = 2) (hv : v = znu b n (ze M 81 4).toNat) (v0 : 0 ≤ v) (vP : v < P) (hn : ¬ zbt met v) (hN : N = zsI M 83 (6 * m + k).toNat (Int32.ofInt v)) (h83 : ∀ j : Nat, ze N2 83 j = ze N 83 j) (hp : (ze N2 81 4).toNat = znx b n (ze M 81 4).toNat) : zMrI b n P p m N2 (k + 1) (zor met (zshl 1 v)) := by
  obtain ⟨l, a1, a2, a3, a4, a5⟩ := h
  have hnl : v.toNat ∉ l := fun q => hn (by
    have h3 := (a4.2 v.toNat (by (exact zo_1310 h6 v0 vP))).mpr q
    rwa [Int.toNat_of_nonneg v0] at h3)
  refine ⟨l ++ [v.toNat], ?_, a2.s (by (exact zo_1085 v0 vP)) hnl, by rw [List.length_append, List.length_singleton]; (exact zo_1311 a3), a4.s v0 (by (exact zo_1312 h6 vP)), fun i hi => ?_⟩
  · rw [a1, show P - k.toNat = (P - (k + 1).toNat) + 1 by omega, zrm_t ⟨hk, by omega, by rw [← hv]; exact hnl⟩, hp, ← hv]
  · rw [h83]
    by_cases g : (i : Int) = k
    · rw [show 6 * m.toNat + i = (6 * m + k).toNat by (exact zo_1313 g hi k0 m0), zs_get hN ⟨by (exact zo_168 v0), by (exact zo_1314 h6 vP)⟩, show i = l.length by (exact zo_1315 a3 g hi), zap_2]
      (exact zo_989 v0)
    · rw [zs_oth hN (by (exact zo_1316 k0 m0 g)), zap_1 (by (exact zo_1317 a3 hi g))]
      exact a5 i (by (exact zo_130 hi g))
theorem zMrI.fr {S C : List Nat} {P p : Nat} {m k met : Int} (hf : zFr S C M N) (h : zMrI b n P p m M k met) (hs : 4 ∉ S) (hc : 83 ∉ C) : zMrI b n P p m N k met := by
  obtain ⟨l, a1, a2, a3, a4, a5⟩ := h
  exact ⟨l, by rw [hf.e hs]; exact a1, a2, a3, a4, fun i hi => by rw [hf.ie (by decide) hc]; exact a5 i hi⟩
theorem zMrI_e {P p : Nat} {m k met : Int} (h : zMrI b n P p m N k met) (hk : k = P) : ∃ l : List Nat, zrm b n P P p [] = some ((ze N 81 4).toNat, l) ∧ zmV P l ∧ l.length = P ∧ ∀ i : Nat, i < P → ze N 83 (6 * m.toNat + i) = ((l.getD i 0 : Nat) : Int) := by
  obtain ⟨l, a1, a2, a3, a4, a5⟩ := h
  refine ⟨l, ?_, a2, by (exact zo_1318 a3 hk), fun i hi => a5 i (by (exact zo_1319 hi hk))⟩
  rw [a1, show P - k.toNat = 0 by omega]
  rfl
theorem zMvs_u {l : List Nat} {P : Nat} (hP : ze M 81 12 = P) (h6 : P ≤ 6) (h0 : 0 ≤ ze M 81 13) (h12 : ze N 81 12 = ze M 81 12) (h13 : ze N 81 13 = ze M 81 13 + 1) (hk : zKp M N (6 * ze M 81 13)) (hl : ∀ i : Nat, i < P → ze N 83 (6 * (ze M 81 13).toNat + i) = ((l.getD i 0 : Nat) : Int)) : zMvs N = zMvs M ++ [zmc P l] := by
  unfold zMvs
  rw [h12, h13, show (ze M 81 13 + 1).toNat = (ze M 81 13).toNat + 1 by (exact zo_1084 h0), List.range_succ, List.map_append]
  refine congr (congrArg HAppend.hAppend ?_) ?_
  · refine List.map_congr_left (fun k hk2 => ?_)
    have hk3 := List.mem_range.mp hk2
    exact zrc_c2 (fun p hp hp6 => hk _ (by (exact zo_1320 h0 hk3 hp6)))
  · show [zrc N 83 (ze M 81 13).toNat (ze M 81 12)] = [zmc P l]
    refine congrArg (fun x => [x]) ?_
    rw [zrc_m]
    unfold zmc
    refine gmkc_c (fun p hp => ?_)
    show zrd N 83 (ze M 81 13).toNat (ze M 81 12) p = (if p < P then l.getD p 0 else p)
    unfold zrd
    by_cases g : p < P
    · rw [if_pos (by (exact zo_1321 g hP hp)), if_pos g, hl p g, Int.toNat_natCast]
    · rw [if_neg (by (exact zo_1322 g h6 hP)), if_neg g]
theorem zMvs_l (M : zMem) : (zMvs M).length = (ze M 81 13).toNat := by
  unfold zMvs
  rw [List.length_map, List.length_range]
end ZRL
set_option maxHeartbeats 40000000 in
theorem c_M_letLineF (l : Launch) (Mz : zMem) (hW : zMt Mz) (F_ : Nat) (K_ : Nat → Nat → Int) (hA_ : zTA F_ K_) (b_ : Nat → Int) (n_ : Nat) (nm_ : List (Int × (Nat → Int))) (p0_ : zRmk F_ K_ Mz) (p1_ : zRb b_ n_ Mz) (p2_ : zRt b_ n_ Mz) (p3_ : zRNm nm_ F_ K_ b_ n_ Mz) (p4_ : ze Mz 81 7 = 0) (p5_ : zkd b_ n_ (ze Mz 81 4).toNat = 1) (p6_ : zkey b_ n_ (ze Mz 81 4).toNat = zkw 2) : zC l m_M_letLine 0 0 [.ref 81] Mz (zpV [3, 4, 5, 6, 7, 8, 11, 14, 38, 39, 41, 42, 43] [95, 96, 97, 100, 101, 102] Mz (fun N => zRt b_ n_ N ∧ 0 ≤ ze N 81 14 ∧ ze N 81 14 ≤ 8 ∧ (((1 ≤ ze N 81 7 ∧ zls b_ n_ F_ K_ (0, (ze Mz 81 4).toNat, nm_) = zLf) ∨ (ze N 81 7 = 0 ∧ (∃ nm2 : List (Int × (Nat → Int)), zls b_ n_ F_ K_ (0, (ze Mz 81 4).toNat, nm_) = (0, (ze N 81 4).toNat, nm2) ∧ zRNm nm2 F_ K_ b_ n_ N) ∧ ze Mz 81 4 < ze N 81 4))))) := by
  refine zC_of (L0 := [some (.ref 81), none, none, none, none]) md_M_letLine (Nat.le_of_ble_eq_true rfl) rfl ?_ zQ0
  have hf : zFr [3, 4, 5, 6, 7, 8, 11, 14, 38, 39, 41, 42, 43] [95, 96, 97, 100, 101, 102] Mz Mz := zFr.rf
  have r_3 := ze_r Mz 81 3
  have r_4 := ze_r Mz 81 4
  have r_7 := ze_r Mz 81 7
  have r_14 := ze_r Mz 81 14
  have r_26 := ze_r Mz 81 26
  have r_39 := ze_r Mz 81 39
  obtain ⟨⟨hF1_, hF27_⟩, hAr_⟩ := id hA_
  obtain ⟨hFc_, hKt_⟩ := id p0_
  have hl0_ := And.intro p5_ p6_
  have hlen_ := p3_.len
  obtain ⟨hw0_, hw8_⟩ := id p3_.1
  refine zw_aload_n (pc := 0) (n := 0) (x := 81) rfl (zdal_p dlC_M_letLine_86 (i := 0) rfl) ?_
  refine zr_getI (hf.w hW) (pc := 1) f_M_145 rfl (zdal_p dlC_M_letLine_86 (i := 1) rfl) ?_
  refine zw_istore_n (pc := 4) (i := 1) (L2 := [some (.ref 81), some (.int (Int32.ofInt (ze Mz 81 4))), none, none, none]) rfl (by decide) rfl (zdal_p dlC_M_letLine_86 (i := 2) rfl) ?_
  refine zw_aload_n (pc := 5) (n := 0) (x := 81) rfl (zdal_p dlC_M_letLine_86 (i := 3) rfl) ?_
  refine zr_getI (hf.w hW) (pc := 6) f_M_299 rfl (zdal_p dlC_M_letLine_86 (i := 4) rfl) ?_
  refine zw_bipush (pc := 9) (v := Int32.ofInt 8) (by decide) (zdal_p dlC_M_letLine_86 (i := 5) rfl) ?_
  refine zr_icmp_ne (pc := 11) (tgt := 19) ⟨(ze_r Mz 81 14).1, (ze_r Mz 81 14).2⟩ ⟨(by decide), (by decide)⟩ (by decide) (zdal_p dlC_M_letLine_86 (i := 6) rfl) (fun hc_11 => ?_) (fun hc_11 => ?_)
  · skip
    refine zw_aload_n (pc := 19) (n := 0) (x := 81) rfl (zdal_p dlC_M_letLine_86 (i := 10) rfl) ?_
    refine zr_callV (hf.w hW) hf.x (pc := 20) [] [] l_M_183 (c_M_isGood l Mz (hf.w hW) ) rfl rfl rfl (by decide) (Nat.le_of_ble_eq_true rfl) (zdal_p dlC_M_letLine_86 (i := 11) rfl) ?_
    rintro _ N1_ ⟨v2_, rfl, ⟨hv2_a, hv2_b⟩, hsN1_, hp0_N1_⟩
    obtain rfl := hsN1_.eq.symm
    replace hp0_N1_ : ((v2_ = 1 ∧ ze Mz 81 7 = 0) ∨ (v2_ = 0 ∧ ze Mz 81 7 ≠ 0)) := hp0_N1_
    rcases hp0_N1_ with ⟨rfl, ha20_0_hp0_N1_⟩ | ⟨rfl, ha20_0_hp0_N1_⟩
    · skip
      show zW l m_M_letLine (zn Mz + 0, zw Mz + 0) Mz 23 [some (.ref 81), some (.int (Int32.ofInt (ze Mz 81 4))), none, none, none] [.int (Int32.ofInt 1)] _
      refine zr_if_eq (pc := 23) (tgt := 30) ⟨(by decide), (by decide)⟩ (by decide) (zdal_p dlC_M_letLine_86 (i := 12) rfl) (fun hc_23 => ?_) (fun hc_23 => ?_)
      · skip
        exact absurd hc_23 (by decide)
      · skip
        have hyt_ := p2_
        have hyx_ := hyt_.x
        refine zw_aload_n (pc := 26) (n := 0) (x := 81) rfl (zdal_p dlC_M_letLine_86 (i := 13) rfl) ?_
        refine zr_callV (hf.w hW) hf.x (pc := 27) [] [] l_M_193 (c_M_goOnF l Mz (hf.w hW) b_ n_ p1_ (show 0 ≤ ze Mz 81 3 by first | assumption | (exact zo_57 hyx_.2.1)) (show ze Mz 81 3 ≤ n_ by first | assumption | (exact zo_277 hyx_.2.2 r_3.2))) rfl rfl rfl (by decide) (Nat.le_of_ble_eq_true rfl) (zdal_p dlC_M_letLine_86 (i := 14) rfl) ?_
        rintro _ N3_ ⟨rfl, hsN3_, ⟨hp0_N3_, hp1_N3_⟩⟩
        have hf_N3_ : zFr [3, 4, 5, 6, 7, 8, 11, 14, 38, 39, 41, 42, 43] [95, 96, 97, 100, 101, 102] Mz N3_ := hf.tr hsN3_ (by decide) (by decide)
        have r3_N3_ := ze_r N3_ 81 3
        have r4_N3_ := ze_r N3_ 81 4
        have e7_N3_ : ze N3_ 81 7 = ze Mz 81 7 := hsN3_.e (by decide)
        have e14_N3_ : ze N3_ 81 14 = ze Mz 81 14 := hsN3_.e (by decide)
        have e26_N3_ : ze N3_ 81 26 = ze Mz 81 26 := hsN3_.e (by decide)
        have e39_N3_ : ze N3_ 81 39 = ze Mz 81 39 := hsN3_.e (by decide)
        have qzr95_N3_ : zr95 N3_ = zr95 Mz := zr95_f hsN3_ (by decide)
        have qzr101_N3_ : zr101 N3_ = zr101 Mz := zr101_f hsN3_ (by decide)
        have qzr102_N3_ : zr102 N3_ = zr102 Mz := zr102_f hsN3_ (by decide)
        have c5_ : zRmk F_ K_ N3_ := zRmk.fr hsN3_ p0_ (by decide) (by decide)
        have c6_ : zRb b_ n_ N3_ := zRb.fr hsN3_ p1_ (by decide) (by decide)
        have c7_ : zRNm nm_ F_ K_ b_ n_ N3_ := zRNm.fr hsN3_ p3_ (by decide) (by decide)
        show zW l m_M_letLine (zn Mz + 0, zw Mz + 0) N3_ 30 [some (.ref 81), some (.int (Int32.ofInt (ze Mz 81 4))), none, none, none] [] _
        have hnn_ := hyt_.nx hp0_N3_
        have hx1_ := hnn_.2
        have hg1_ := znx_g (b := b_) (n := n_) (s := (ze Mz 81 4).toNat) (by omega)
        refine zw_aload_n (pc := 30) (n := 0) (x := 81) rfl (zdal_p dlC_M_letLine_86 (i := 15) rfl) ?_
        refine zr_callV (hf_N3_.w hW) hf_N3_.x (pc := 31) [] [] l_M_183 (c_M_isGood l N3_ (hf_N3_.w hW) ) rfl rfl rfl (by decide) (Nat.le_of_ble_eq_true rfl) (zdal_p dlC_M_letLine_86 (i := 16) rfl) ?_
        rintro _ N8_ ⟨v9_, rfl, ⟨hv9_a, hv9_b⟩, hsN8_, hp0_N8_⟩
        obtain rfl := hsN8_.eq.symm
        replace hp0_N8_ : ((v9_ = 1 ∧ ze N3_ 81 7 = 0) ∨ (v9_ = 0 ∧ ze N3_ 81 7 ≠ 0)) := hp0_N8_
        rcases hp0_N8_ with ⟨rfl, ha31_0_hp0_N8_⟩ | ⟨rfl, ha31_0_hp0_N8_⟩
        · skip
          show zW l m_M_letLine (zn Mz + 0, zw Mz + 0) N3_ 34 [some (.ref 81), some (.int (Int32.ofInt (ze Mz 81 4))), none, none, none] [.int (Int32.ofInt 1)] _
          refine zr_if_eq (pc := 34) (tgt := 49) ⟨(by decide), (by decide)⟩ (by decide) (zdal_p dlC_M_letLine_86 (i := 17) rfl) (fun hc_34 => ?_) (fun hc_34 => ?_)
          · skip
            exact absurd hc_34 (by decide)
          · skip
            refine zw_aload_n (pc := 37) (n := 0) (x := 81) rfl (zdal_p dlC_M_letLine_86 (i := 18) rfl) ?_
            refine zr_callV (hf_N3_.w hW) hf_N3_.x (pc := 38) [] [] l_M_316 (c_M_isNameF l N3_ (hf_N3_.w hW) b_ n_ hp1_N3_) rfl rfl rfl (by decide) (Nat.le_of_ble_eq_true rfl) (zdal_p dlC_M_letLine_86 (i := 19) rfl) ?_
            rintro _ N10_ ⟨v11_, rfl, ⟨hv11_a, hv11_b⟩, hsN10_, hp0_N10_⟩
            obtain rfl := hsN10_.eq.symm
            replace hp0_N10_ : ((v11_ = 1 ∧ zisn b_ n_ (ze N3_ 81 4).toNat) ∨ (v11_ = 0 ∧ ¬ zisn b_ n_ (ze N3_ 81 4).toNat)) := hp0_N10_
            rcases hp0_N10_ with ⟨rfl, ha38_0_hp0_N10_⟩ | ⟨rfl, ha38_0_hp0_N10_⟩
            · skip
              have hna_ := ha38_0_hp0_N10_
              rw [hx1_] at hna_
              show zW l m_M_letLine (zn Mz + 0, zw Mz + 0) N3_ 41 [some (.ref 81), some (.int (Int32.ofInt (ze Mz 81 4))), none, none, none] [.int (Int32.ofInt 1)] _
              refine zr_if_ne (pc := 41) (tgt := 49) ⟨(by decide), (by decide)⟩ (by decide) (zdal_p dlC_M_letLine_86 (i := 20) rfl) (fun hc_41 => ?_) (fun hc_41 => ?_)
              · skip
                refine zw_aload_n (pc := 49) (n := 0) (x := 81) rfl (zdal_p dlC_M_letLine_87 (i := 0) rfl) ?_
                refine zr_callV (hf_N3_.w hW) hf_N3_.x (pc := 50) [] [] l_M_183 (c_M_isGood l N3_ (hf_N3_.w hW) ) rfl rfl rfl (by decide) (Nat.le_of_ble_eq_true rfl) (zdal_p dlC_M_letLine_87 (i := 1) rfl) ?_
                rintro _ N12_ ⟨v13_, rfl, ⟨hv13_a, hv13_b⟩, hsN12_, hp0_N12_⟩
                obtain rfl := hsN12_.eq.symm
                replace hp0_N12_ : ((v13_ = 1 ∧ ze N3_ 81 7 = 0) ∨ (v13_ = 0 ∧ ze N3_ 81 7 ≠ 0)) := hp0_N12_
                rcases hp0_N12_ with ⟨rfl, ha50_0_hp0_N12_⟩ | ⟨rfl, ha50_0_hp0_N12_⟩
                · skip
                  show zW l m_M_letLine (zn Mz + 0, zw Mz + 0) N3_ 53 [some (.ref 81), some (.int (Int32.ofInt (ze Mz 81 4))), none, none, none] [.int (Int32.ofInt 1)] _
                  refine zr_if_eq (pc := 53) (tgt := 69) ⟨(by decide), (by decide)⟩ (by decide) (zdal_p dlC_M_letLine_87 (i := 2) rfl) (fun hc_53 => ?_) (fun hc_53 => ?_)
                  · skip
                    exact absurd hc_53 (by decide)
                  · skip
                    refine zw_aload_n (pc := 56) (n := 0) (x := 81) rfl (zdal_p dlC_M_letLine_87 (i := 3) rfl) ?_
                    refine zr_callV (hf_N3_.w hW) hf_N3_.x (pc := 57) [] [] l_M_319 (c_M_nameAtF l N3_ (hf_N3_.w hW) F_ K_ b_ n_ nm_ c7_ hp1_N3_ (show zkd b_ n_ (ze N3_ 81 4).toNat = 1 by rw [hx1_]; exact hna_.1)) rfl rfl rfl (by decide) (Nat.le_of_ble_eq_true rfl) (zdal_p dlC_M_letLine_87 (i := 4) rfl) ?_
                    rintro _ N14_ ⟨v15_, rfl, ⟨hv15_a, hv15_b⟩, hsN14_, hp0_N14_⟩
                    obtain rfl := hsN14_.eq.symm
                    replace hp0_N14_ : ((v15_ = -1 ∧ zfd nm_ (zkey b_ n_ (ze N3_ 81 4).toNat) = none) ∨ (0 ≤ v15_ ∧ v15_ ≤ 7 ∧ v15_ < ze N3_ 81 14 ∧ zfd nm_ (zkey b_ n_ (ze N3_ 81 4).toNat) = some (zrw F_ N3_ 102 (64 * v15_)) ∧ zfit F_ K_ (zrw F_ N3_ 102 (64 * v15_)))) := hp0_N14_
                    rcases hp0_N14_ with ⟨rfl, ha57_0_hp0_N14_⟩ | ⟨ha57_0_hp0_N14_, ha57_1_hp0_N14_, ha57_2_hp0_N14_, ha57_3_hp0_N14_, ha57_4_hp0_N14_⟩
                    · skip
                      have hfn_ := ha57_0_hp0_N14_
                      rw [hx1_] at hfn_
                      show zW l m_M_letLine (zn Mz + 0, zw Mz + 0) N3_ 60 [some (.ref 81), some (.int (Int32.ofInt (ze Mz 81 4))), none, none, none] [.int (Int32.ofInt ((-1)))] _
                      refine zw_iconst (pc := 60) (v := Int32.ofInt (-1)) (by decide) (zdal_p dlC_M_letLine_87 (i := 5) rfl) ?_
                      refine zr_icmp_eq (pc := 61) (tgt := 69) ⟨(by decide), (by decide)⟩ ⟨(by decide), (by decide)⟩ (by decide) (zdal_p dlC_M_letLine_87 (i := 6) rfl) (fun hc_61 => ?_) (fun hc_61 => ?_)
                      · skip
                        refine zw_aload_n (pc := 69) (n := 0) (x := 81) rfl (zdal_p dlC_M_letLine_87 (i := 10) rfl) ?_
                        refine zr_getI (hf_N3_.w hW) (pc := 70) f_M_172 rfl (zdal_p dlC_M_letLine_87 (i := 11) rfl) ?_
                        refine zr_if_le (pc := 73) (tgt := 77) ⟨(ze_r N3_ 81 7).1, (ze_r N3_ 81 7).2⟩ (by decide) (zdal_p dlC_M_letLine_87 (i := 12) rfl) (fun hc_73 => ?_) (fun hc_73 => ?_)
                        · skip
                          refine zw_aload_n (pc := 77) (n := 0) (x := 81) rfl (zdal_p dlC_M_letLine_87 (i := 14) rfl) ?_
                          refine zr_getJ (hf_N3_.w hW) (pc := 78) f_M_148 rfl (zdal_p dlC_M_letLine_87 (i := 15) rfl) ?_
                          have hr16_ := zg_r N3_ 81 11
                          refine zw_lstore_n (pc := 81) (i := 2) (L2 := [some (.ref 81), some (.int (Int32.ofInt (ze Mz 81 4))), some (.long (Int64.ofInt (zg N3_ 81 11))), none, none]) rfl (by decide) rfl (zdal_p dlC_M_letLine_87 (i := 16) rfl) ?_
                          have hyt1_ := hp1_N3_
                          have hwd_ : zg N3_ 81 11 = zke8 b_ n_ (znx b_ n_ (ze Mz 81 4).toNat) := by rw [← hx1_]; exact hyt1_.2.2.2.1 (by rw [hx1_]; exact hna_.1)
                          have hyt_ := hp1_N3_
                          have hyx_ := hyt_.x
                          refine zw_aload_n (pc := 82) (n := 0) (x := 81) rfl (zdal_p dlC_M_letLine_87 (i := 17) rfl) ?_
                          refine zr_callV (hf_N3_.w hW) hf_N3_.x (pc := 83) [] [] l_M_193 (c_M_goOnF l N3_ (hf_N3_.w hW) b_ n_ c6_ (show 0 ≤ ze N3_ 81 3 by first | assumption | (exact zo_57 hyx_.2.1)) (show ze N3_ 81 3 ≤ n_ by first | assumption | (exact zo_277 hyx_.2.2 r3_N3_.2))) rfl rfl rfl (by decide) (Nat.le_of_ble_eq_true rfl) (zdal_p dlC_M_letLine_87 (i := 18) rfl) ?_
                          rintro _ N17_ ⟨rfl, hsN17_, ⟨hp0_N17_, hp1_N17_⟩⟩
                          have hf_N17_ : zFr [3, 4, 5, 6, 7, 8, 11, 14, 38, 39, 41, 42, 43] [95, 96, 97, 100, 101, 102] Mz N17_ := hf_N3_.tr hsN17_ (by decide) (by decide)
                          have r3_N17_ := ze_r N17_ 81 3
                          have r4_N17_ := ze_r N17_ 81 4
                          have e7_N17_ : ze N17_ 81 7 = ze N3_ 81 7 := hsN17_.e (by decide)
                          have e14_N17_ : ze N17_ 81 14 = ze N3_ 81 14 := hsN17_.e (by decide)
                          have e26_N17_ : ze N17_ 81 26 = ze N3_ 81 26 := hsN17_.e (by decide)
                          have e39_N17_ : ze N17_ 81 39 = ze N3_ 81 39 := hsN17_.e (by decide)
                          have qzr95_N17_ : zr95 N17_ = zr95 N3_ := zr95_f hsN17_ (by decide)
                          have qzr101_N17_ : zr101 N17_ = zr101 N3_ := zr101_f hsN17_ (by decide)
                          have qzr102_N17_ : zr102 N17_ = zr102 N3_ := zr102_f hsN17_ (by decide)
                          have c19_ : zRmk F_ K_ N17_ := zRmk.fr hsN17_ c5_ (by decide) (by decide)
                          have c20_ : zRb b_ n_ N17_ := zRb.fr hsN17_ c6_ (by decide) (by decide)
                          have c21_ : zRNm nm_ F_ K_ b_ n_ N17_ := zRNm.fr hsN17_ c7_ (by decide) (by decide)
                          show zW l m_M_letLine (zn Mz + 0, zw Mz + 0) N17_ 86 [some (.ref 81), some (.int (Int32.ofInt (ze Mz 81 4))), some (.long (Int64.ofInt (zg N3_ 81 11))), none, none] [] _
                          have hnn_ := hyt_.nx hp0_N17_
                          have hx2_ : (ze N17_ 81 4).toNat = znx b_ n_ (znx b_ n_ (ze Mz 81 4).toNat) := hnn_.2.trans (by rw [hx1_])
                          have hg2_ := znx_ge (b := b_) (n := n_) (s := (znx b_ n_ (ze Mz 81 4).toNat))
                          refine zw_aload_n (pc := 86) (n := 0) (x := 81) rfl (zdal_p dlC_M_letLine_87 (i := 19) rfl) ?_
                          refine zw_bipush (pc := 87) (v := Int32.ofInt 61) (by decide) (zdal_p dlC_M_letLine_87 (i := 20) rfl) ?_
                          refine zr_callV (hf_N17_.w hW) hf_N17_.x (pc := 89) [.int (Int32.ofInt 61)] [] l_M_355 (c_M_mustF l N17_ (hf_N17_.w hW) 61 (by decide) (by decide) b_ n_ c20_ hp1_N17_ (show 0 ≤ ze N17_ 81 7 by first | assumption | (exact zo_631 e7_N17_ ha31_0_hp0_N8_))) rfl rfl rfl (by decide) (Nat.le_of_ble_eq_true rfl) (zdal_p dlC_M_letLine_87 (i := 21) rfl) ?_
                          rintro _ N22_ ⟨rfl, hsN22_, ⟨hp0_N22_, hp1_N22_⟩⟩
                          have hf_N22_ : zFr [3, 4, 5, 6, 7, 8, 11, 14, 38, 39, 41, 42, 43] [95, 96, 97, 100, 101, 102] Mz N22_ := hf_N17_.tr hsN22_ (by decide) (by decide)
                          have r3_N22_ := ze_r N22_ 81 3
                          have r4_N22_ := ze_r N22_ 81 4
                          have r7_N22_ := ze_r N22_ 81 7
                          have e14_N22_ : ze N22_ 81 14 = ze N17_ 81 14 := hsN22_.e (by decide)
                          have e26_N22_ : ze N22_ 81 26 = ze N17_ 81 26 := hsN22_.e (by decide)
                          have e39_N22_ : ze N22_ 81 39 = ze N17_ 81 39 := hsN22_.e (by decide)
                          have qzr95_N22_ : zr95 N22_ = zr95 N17_ := zr95_f hsN22_ (by decide)
                          have qzr101_N22_ : zr101 N22_ = zr101 N17_ := zr101_f hsN22_ (by decide)
                          have qzr102_N22_ : zr102 N22_ = zr102 N17_ := zr102_f hsN22_ (by decide)
                          have c24_ : zRmk F_ K_ N22_ := zRmk.fr hsN22_ c19_ (by decide) (by decide)
                          have c25_ : zRb b_ n_ N22_ := zRb.fr hsN22_ c20_ (by decide) (by decide)
                          have c26_ : zRNm nm_ F_ K_ b_ n_ N22_ := zRNm.fr hsN22_ c21_ (by decide) (by decide)
                          rcases hp1_N22_ with ⟨ha89_0_hp1_N22_, ha89_1_hp1_N22_⟩ | ⟨ha89_0_hp1_N22_, ha89_1_hp1_N22_, ha89_2_hp1_N22_, ha89_3_hp1_N22_⟩
                          · skip
                            have hrt_ : zls b_ n_ F_ K_ (0, (ze Mz 81 4).toNat, nm_) = zLf := zls_f hl0_ (fun q_ => ha89_1_hp1_N22_ (by (exact zo_610 e7_N17_ ha31_0_hp0_N8_)) (by rw [hx2_]; exact q_.2.2.2))
                            show zW l m_M_letLine (zn Mz + 0, zw Mz + 0) N22_ 92 [some (.ref 81), some (.int (Int32.ofInt (ze Mz 81 4))), some (.long (Int64.ofInt (zg N3_ 81 11))), none, none] [] _
                            refine zw_aload_n (pc := 92) (n := 0) (x := 81) rfl (zdal_p dlC_M_letLine_87 (i := 22) rfl) ?_
                            refine zr_callV (hf_N22_.w hW) hf_N22_.x (pc := 93) [] [] l_M_358 (c_M_formulaF l N22_ (hf_N22_.w hW) F_ K_ hA_ b_ n_ nm_ c24_ c25_ hp0_N22_ c26_ (show 0 ≤ ze N22_ 81 7 by first | assumption | (exact zo_564 ha89_0_hp1_N22_))) rfl rfl rfl (by decide) (Nat.le_of_ble_eq_true rfl) (zdal_p dlC_M_letLine_87 (i := 23) rfl) ?_
                            rintro _ N27_ ⟨rfl, hsN27_, ⟨hp0_N27_, hp1_N27_⟩⟩
                            have hf_N27_ : zFr [3, 4, 5, 6, 7, 8, 11, 14, 38, 39, 41, 42, 43] [95, 96, 97, 100, 101, 102] Mz N27_ := hf_N22_.tr hsN27_ (by decide) (by decide)
                            have r3_N27_ := ze_r N27_ 81 3
                            have r4_N27_ := ze_r N27_ 81 4
                            have r7_N27_ := ze_r N27_ 81 7
                            have e14_N27_ : ze N27_ 81 14 = ze N22_ 81 14 := hsN27_.e (by decide)
                            have e26_N27_ : ze N27_ 81 26 = ze N22_ 81 26 := hsN27_.e (by decide)
                            have r39_N27_ := ze_r N27_ 81 39
                            have qzr101_N27_ : zr101 N27_ = zr101 N22_ := zr101_f hsN27_ (by decide)
                            have qzr102_N27_ : zr102 N27_ = zr102 N22_ := zr102_f hsN27_ (by decide)
                            have c29_ : zRmk F_ K_ N27_ := zRmk.fr hsN27_ c24_ (by decide) (by decide)
                            have c30_ : zRb b_ n_ N27_ := zRb.fr hsN27_ c25_ (by decide) (by decide)
                            have c31_ : zRNm nm_ F_ K_ b_ n_ N27_ := zRNm.fr hsN27_ c26_ (by decide) (by decide)
                            rcases hp1_N27_ with ⟨ha93_0_hp1_N27_, ha93_1_hp1_N27_⟩ | ⟨ha93_0_hp1_N27_, ha93_1_hp1_N27_, ha93_2_hp1_N27_, ha93_3_hp1_N27_, ha93_4_hp1_N27_, ha93_5_hp1_N27_⟩
                            · skip
                              have hrt2_ : zls b_ n_ F_ K_ (0, (ze Mz 81 4).toNat, nm_) = zLf := by first | exact hrt_ | exact (zls_g hl0_ hl2_ (by rw [← hx3_]; exact ha93_1_hp1_N27_ (by omega)) zfs_F).trans zle_f
                              show zW l m_M_letLine (zn Mz + 0, zw Mz + 0) N27_ 96 [some (.ref 81), some (.int (Int32.ofInt (ze Mz 81 4))), some (.long (Int64.ofInt (zg N3_ 81 11))), none, none] [] _
                              refine zw_aload_n (pc := 96) (n := 0) (x := 81) rfl (zdal_p dlC_M_letLine_88 (i := 0) rfl) ?_
                              refine zw_bipush (pc := 97) (v := Int32.ofInt 59) (by decide) (zdal_p dlC_M_letLine_88 (i := 1) rfl) ?_
                              refine zr_callV (hf_N27_.w hW) hf_N27_.x (pc := 99) [.int (Int32.ofInt 59)] [] l_M_355 (c_M_mustF l N27_ (hf_N27_.w hW) 59 (by decide) (by decide) b_ n_ c30_ hp0_N27_ (show 0 ≤ ze N27_ 81 7 by first | assumption | (exact zo_564 ha93_0_hp1_N27_))) rfl rfl rfl (by decide) (Nat.le_of_ble_eq_true rfl) (zdal_p dlC_M_letLine_88 (i := 2) rfl) ?_
                              rintro _ N32_ ⟨rfl, hsN32_, ⟨hp0_N32_, hp1_N32_⟩⟩
                              have hf_N32_ : zFr [3, 4, 5, 6, 7, 8, 11, 14, 38, 39, 41, 42, 43] [95, 96, 97, 100, 101, 102] Mz N32_ := hf_N27_.tr hsN32_ (by decide) (by decide)
                              have r3_N32_ := ze_r N32_ 81 3
                              have r4_N32_ := ze_r N32_ 81 4
                              have r7_N32_ := ze_r N32_ 81 7
                              have e14_N32_ : ze N32_ 81 14 = ze N27_ 81 14 := hsN32_.e (by decide)
                              have e26_N32_ : ze N32_ 81 26 = ze N27_ 81 26 := hsN32_.e (by decide)
                              have e39_N32_ : ze N32_ 81 39 = ze N27_ 81 39 := hsN32_.e (by decide)
                              have qzr95_N32_ : zr95 N32_ = zr95 N27_ := zr95_f hsN32_ (by decide)
                              have qzr101_N32_ : zr101 N32_ = zr101 N27_ := zr101_f hsN32_ (by decide)
                              have qzr102_N32_ : zr102 N32_ = zr102 N27_ := zr102_f hsN32_ (by decide)
                              have c34_ : zRmk F_ K_ N32_ := zRmk.fr hsN32_ c29_ (by decide) (by decide)
                              have c35_ : zRb b_ n_ N32_ := zRb.fr hsN32_ c30_ (by decide) (by decide)
                              have c36_ : zRNm nm_ F_ K_ b_ n_ N32_ := zRNm.fr hsN32_ c31_ (by decide) (by decide)
                              rcases hp1_N32_ with ⟨ha99_0_hp1_N32_, ha99_1_hp1_N32_⟩ | ⟨ha99_0_hp1_N32_, ha99_1_hp1_N32_, ha99_2_hp1_N32_, ha99_3_hp1_N32_⟩
                              · skip
                                have hrt3_ : zls b_ n_ F_ K_ (0, (ze Mz 81 4).toNat, nm_) = zLf := by first | exact hrt_ | exact hrt2_ | (rw [hzl_]; unfold zRst; exact zle_n (fun q_ => ha99_1_hp1_N32_ (by omega) q_))
                                show zW l m_M_letLine (zn Mz + 0, zw Mz + 0) N32_ 102 [some (.ref 81), some (.int (Int32.ofInt (ze Mz 81 4))), some (.long (Int64.ofInt (zg N3_ 81 11))), none, none] [] _
                                refine zw_aload_n (pc := 102) (n := 0) (x := 81) rfl (zdal_p dlC_M_letLine_88 (i := 3) rfl) ?_
                                refine zr_callV (hf_N32_.w hW) hf_N32_.x (pc := 103) [] [] l_M_183 (c_M_isGood l N32_ (hf_N32_.w hW) ) rfl rfl rfl (by decide) (Nat.le_of_ble_eq_true rfl) (zdal_p dlC_M_letLine_88 (i := 4) rfl) ?_
                                rintro _ N37_ ⟨v38_, rfl, ⟨hv38_a, hv38_b⟩, hsN37_, hp0_N37_⟩
                                obtain rfl := hsN37_.eq.symm
                                replace hp0_N37_ : ((v38_ = 1 ∧ ze N32_ 81 7 = 0) ∨ (v38_ = 0 ∧ ze N32_ 81 7 ≠ 0)) := hp0_N37_
                                rcases hp0_N37_ with ⟨rfl, ha103_0_hp0_N37_⟩ | ⟨rfl, ha103_0_hp0_N37_⟩
                                · skip
                                  exfalso; (exact zo_281 ha103_0_hp0_N37_ ha99_0_hp1_N32_)
                                · skip
                                  show zW l m_M_letLine (zn Mz + 0, zw Mz + 0) N32_ 106 [some (.ref 81), some (.int (Int32.ofInt (ze Mz 81 4))), some (.long (Int64.ofInt (zg N3_ 81 11))), none, none] [.int (Int32.ofInt 0)] _
                                  refine zr_if_eq (pc := 106) (tgt := 123) ⟨(by decide), (by decide)⟩ (by decide) (zdal_p dlC_M_letLine_88 (i := 5) rfl) (fun hc_106 => ?_) (fun hc_106 => ?_)
                                  · skip
                                    refine zw_aload_n (pc := 123) (n := 0) (x := 81) rfl d_M_letLine_123 ?_
                                    refine zr_getI (hf_N32_.w hW) (pc := 124) f_M_172 rfl d_M_letLine_124 ?_
                                    refine zr_if_le (pc := 127) (tgt := 131) ⟨(ze_r N32_ 81 7).1, (ze_r N32_ 81 7).2⟩ (by decide) d_M_letLine_127 (fun hc_127 => ?_) (fun hc_127 => ?_)
                                    · skip
                                      exfalso; (exact zo_61 ha99_0_hp1_N32_ hc_127)
                                    · skip
                                      exact zr_vret (pc := 130) rfl hf_N32_ ⟨hp0_N32_, (show 0 ≤ ze N32_ 81 14 by first | assumption | (exact zo_1323 e14_N17_ e14_N22_ e14_N27_ e14_N32_ e14_N3_ hw0_)), (show ze N32_ 81 14 ≤ 8 by first | assumption | (exact zo_1324 e14_N17_ e14_N22_ e14_N27_ e14_N32_ e14_N3_ hw8_)), (show ((1 ≤ ze N32_ 81 7 ∧ zls b_ n_ F_ K_ (0, (ze Mz 81 4).toNat, nm_) = zLf) ∨ (ze N32_ 81 7 = 0 ∧ (∃ nm2 : List (Int × (Nat → Int)), zls b_ n_ F_ K_ (0, (ze Mz 81 4).toNat, nm_) = (0, (ze N32_ 81 4).toNat, nm2) ∧ zRNm nm2 F_ K_ b_ n_ N32_) ∧ ze Mz 81 4 < ze N32_ 81 4)) from Or.inl (⟨(show 1 ≤ ze N32_ 81 7 by first | (exact ha99_0_hp1_N32_) | exact hrt_ | exact hrt2_ | exact hrt3_), (show zls b_ n_ F_ K_ (0, (ze Mz 81 4).toNat, nm_) = zLf by first | (exact hrt_) | exact hrt_ | exact hrt2_ | exact hrt3_)⟩))⟩ (zdal_p dlC_M_letLine_88 (i := 16) rfl)
                                  · skip
                                    exact absurd hc_106 (by decide)
                              · skip
                                exfalso; (exact zo_609 ha93_0_hp1_N27_ ha99_1_hp1_N32_)
                            · skip
                              exfalso; (exact zo_609 ha89_0_hp1_N22_ ha93_1_hp1_N27_)
                          · skip
                            have hsg_ := ha89_2_hp1_N22_
                            have hx3_ := ha89_3_hp1_N22_
                            rw [hx2_] at hsg_ hx3_
                            have hl2_ : nm_.length < 8 ∧ zisn b_ n_ (znx b_ n_ (ze Mz 81 4).toNat) ∧ zfd nm_ (zkey b_ n_ (znx b_ n_ (ze Mz 81 4).toNat)) = none ∧ zisg b_ n_ (znx b_ n_ (znx b_ n_ (ze Mz 81 4).toNat)) 61 := ⟨by (exact zo_1325 hlen_ hw8_ hc_11), hna_, hfn_, hsg_⟩
                            have hg3_ := znx_ge (b := b_) (n := n_) (s := znx b_ n_ (znx b_ n_ (ze Mz 81 4).toNat))
                            show zW l m_M_letLine (zn Mz + 0, zw Mz + 0) N22_ 92 [some (.ref 81), some (.int (Int32.ofInt (ze Mz 81 4))), some (.long (Int64.ofInt (zg N3_ 81 11))), none, none] [] _
                            refine zw_aload_n (pc := 92) (n := 0) (x := 81) rfl (zdal_p dlC_M_letLine_87 (i := 22) rfl) ?_
                            refine zr_callV (hf_N22_.w hW) hf_N22_.x (pc := 93) [] [] l_M_358 (c_M_formulaF l N22_ (hf_N22_.w hW) F_ K_ hA_ b_ n_ nm_ c24_ c25_ hp0_N22_ c26_ (show 0 ≤ ze N22_ 81 7 by first | assumption | (exact zo_718 ha89_0_hp1_N22_))) rfl rfl rfl (by decide) (Nat.le_of_ble_eq_true rfl) (zdal_p dlC_M_letLine_87 (i := 23) rfl) ?_
                            rintro _ N39_ ⟨rfl, hsN39_, ⟨hp0_N39_, hp1_N39_⟩⟩
                            have hf_N39_ : zFr [3, 4, 5, 6, 7, 8, 11, 14, 38, 39, 41, 42, 43] [95, 96, 97, 100, 101, 102] Mz N39_ := hf_N22_.tr hsN39_ (by decide) (by decide)
                            have r3_N39_ := ze_r N39_ 81 3
                            have r4_N39_ := ze_r N39_ 81 4
                            have r7_N39_ := ze_r N39_ 81 7
                            have e14_N39_ : ze N39_ 81 14 = ze N22_ 81 14 := hsN39_.e (by decide)
                            have e26_N39_ : ze N39_ 81 26 = ze N22_ 81 26 := hsN39_.e (by decide)
                            have r39_N39_ := ze_r N39_ 81 39
                            have qzr101_N39_ : zr101 N39_ = zr101 N22_ := zr101_f hsN39_ (by decide)
                            have qzr102_N39_ : zr102 N39_ = zr102 N22_ := zr102_f hsN39_ (by decide)
                            have c41_ : zRmk F_ K_ N39_ := zRmk.fr hsN39_ c24_ (by decide) (by decide)
                            have c42_ : zRb b_ n_ N39_ := zRb.fr hsN39_ c25_ (by decide) (by decide)
                            have c43_ : zRNm nm_ F_ K_ b_ n_ N39_ := zRNm.fr hsN39_ c26_ (by decide) (by decide)
                            rcases hp1_N39_ with ⟨ha93_0_hp1_N39_, ha93_1_hp1_N39_⟩ | ⟨ha93_0_hp1_N39_, ha93_1_hp1_N39_, ha93_2_hp1_N39_, ha93_3_hp1_N39_, ha93_4_hp1_N39_, ha93_5_hp1_N39_⟩
                            · skip
                              have hrt2_ : zls b_ n_ F_ K_ (0, (ze Mz 81 4).toNat, nm_) = zLf := by first | exact hrt_ | exact (zls_g hl0_ hl2_ (by rw [← hx3_]; exact ha93_1_hp1_N39_ (by omega)) zfs_F).trans zle_f
                              show zW l m_M_letLine (zn Mz + 0, zw Mz + 0) N39_ 96 [some (.ref 81), some (.int (Int32.ofInt (ze Mz 81 4))), some (.long (Int64.ofInt (zg N3_ 81 11))), none, none] [] _
                              refine zw_aload_n (pc := 96) (n := 0) (x := 81) rfl (zdal_p dlC_M_letLine_88 (i := 0) rfl) ?_
                              refine zw_bipush (pc := 97) (v := Int32.ofInt 59) (by decide) (zdal_p dlC_M_letLine_88 (i := 1) rfl) ?_
                              refine zr_callV (hf_N39_.w hW) hf_N39_.x (pc := 99) [.int (Int32.ofInt 59)] [] l_M_355 (c_M_mustF l N39_ (hf_N39_.w hW) 59 (by decide) (by decide) b_ n_ c42_ hp0_N39_ (show 0 ≤ ze N39_ 81 7 by first | assumption | (exact zo_564 ha93_0_hp1_N39_))) rfl rfl rfl (by decide) (Nat.le_of_ble_eq_true rfl) (zdal_p dlC_M_letLine_88 (i := 2) rfl) ?_
                              rintro _ N44_ ⟨rfl, hsN44_, ⟨hp0_N44_, hp1_N44_⟩⟩
                              have hf_N44_ : zFr [3, 4, 5, 6, 7, 8, 11, 14, 38, 39, 41, 42, 43] [95, 96, 97, 100, 101, 102] Mz N44_ := hf_N39_.tr hsN44_ (by decide) (by decide)
                              have r3_N44_ := ze_r N44_ 81 3
                              have r4_N44_ := ze_r N44_ 81 4
                              have r7_N44_ := ze_r N44_ 81 7
                              have e14_N44_ : ze N44_ 81 14 = ze N39_ 81 14 := hsN44_.e (by decide)
                              have e26_N44_ : ze N44_ 81 26 = ze N39_ 81 26 := hsN44_.e (by decide)
                              have e39_N44_ : ze N44_ 81 39 = ze N39_ 81 39 := hsN44_.e (by decide)
                              have qzr95_N44_ : zr95 N44_ = zr95 N39_ := zr95_f hsN44_ (by decide)
                              have qzr101_N44_ : zr101 N44_ = zr101 N39_ := zr101_f hsN44_ (by decide)
                              have qzr102_N44_ : zr102 N44_ = zr102 N39_ := zr102_f hsN44_ (by decide)
                              have c46_ : zRmk F_ K_ N44_ := zRmk.fr hsN44_ c41_ (by decide) (by decide)
                              have c47_ : zRb b_ n_ N44_ := zRb.fr hsN44_ c42_ (by decide) (by decide)
                              have c48_ : zRNm nm_ F_ K_ b_ n_ N44_ := zRNm.fr hsN44_ c43_ (by decide) (by decide)
                              rcases hp1_N44_ with ⟨ha99_0_hp1_N44_, ha99_1_hp1_N44_⟩ | ⟨ha99_0_hp1_N44_, ha99_1_hp1_N44_, ha99_2_hp1_N44_, ha99_3_hp1_N44_⟩
                              · skip
                                have hrt3_ : zls b_ n_ F_ K_ (0, (ze Mz 81 4).toNat, nm_) = zLf := by first | exact hrt_ | exact hrt2_ | (rw [hzl_]; unfold zRst; exact zle_n (fun q_ => ha99_1_hp1_N44_ (by omega) q_))
                                show zW l m_M_letLine (zn Mz + 0, zw Mz + 0) N44_ 102 [some (.ref 81), some (.int (Int32.ofInt (ze Mz 81 4))), some (.long (Int64.ofInt (zg N3_ 81 11))), none, none] [] _
                                refine zw_aload_n (pc := 102) (n := 0) (x := 81) rfl (zdal_p dlC_M_letLine_88 (i := 3) rfl) ?_
                                refine zr_callV (hf_N44_.w hW) hf_N44_.x (pc := 103) [] [] l_M_183 (c_M_isGood l N44_ (hf_N44_.w hW) ) rfl rfl rfl (by decide) (Nat.le_of_ble_eq_true rfl) (zdal_p dlC_M_letLine_88 (i := 4) rfl) ?_
                                rintro _ N49_ ⟨v50_, rfl, ⟨hv50_a, hv50_b⟩, hsN49_, hp0_N49_⟩
                                obtain rfl := hsN49_.eq.symm
                                replace hp0_N49_ : ((v50_ = 1 ∧ ze N44_ 81 7 = 0) ∨ (v50_ = 0 ∧ ze N44_ 81 7 ≠ 0)) := hp0_N49_
                                rcases hp0_N49_ with ⟨rfl, ha103_0_hp0_N49_⟩ | ⟨rfl, ha103_0_hp0_N49_⟩
                                · skip
                                  exfalso; (exact zo_281 ha103_0_hp0_N49_ ha99_0_hp1_N44_)
                                · skip
                                  show zW l m_M_letLine (zn Mz + 0, zw Mz + 0) N44_ 106 [some (.ref 81), some (.int (Int32.ofInt (ze Mz 81 4))), some (.long (Int64.ofInt (zg N3_ 81 11))), none, none] [.int (Int32.ofInt 0)] _
                                  refine zr_if_eq (pc := 106) (tgt := 123) ⟨(by decide), (by decide)⟩ (by decide) (zdal_p dlC_M_letLine_88 (i := 5) rfl) (fun hc_106 => ?_) (fun hc_106 => ?_)
                                  · skip
                                    refine zw_aload_n (pc := 123) (n := 0) (x := 81) rfl d_M_letLine_123 ?_
                                    refine zr_getI (hf_N44_.w hW) (pc := 124) f_M_172 rfl d_M_letLine_124 ?_
                                    refine zr_if_le (pc := 127) (tgt := 131) ⟨(ze_r N44_ 81 7).1, (ze_r N44_ 81 7).2⟩ (by decide) d_M_letLine_127 (fun hc_127 => ?_) (fun hc_127 => ?_)
                                    · skip
                                      exfalso; (exact zo_61 ha99_0_hp1_N44_ hc_127)
                                    · skip
                                      exact zr_vret (pc := 130) rfl hf_N44_ ⟨hp0_N44_, (show 0 ≤ ze N44_ 81 14 by first | assumption | (exact zo_1326 e14_N17_ e14_N22_ e14_N39_ e14_N3_ e14_N44_ hw0_)), (show ze N44_ 81 14 ≤ 8 by first | assumption | (exact zo_1327 e14_N17_ e14_N22_ e14_N39_ e14_N3_ e14_N44_ hw8_)), (show ((1 ≤ ze N44_ 81 7 ∧ zls b_ n_ F_ K_ (0, (ze Mz 81 4).toNat, nm_) = zLf) ∨ (ze N44_ 81 7 = 0 ∧ (∃ nm2 : List (Int × (Nat → Int)), zls b_ n_ F_ K_ (0, (ze Mz 81 4).toNat, nm_) = (0, (ze N44_ 81 4).toNat, nm2) ∧ zRNm nm2 F_ K_ b_ n_ N44_) ∧ ze Mz 81 4 < ze N44_ 81 4)) from Or.inl (⟨(show 1 ≤ ze N44_ 81 7 by first | (exact ha99_0_hp1_N44_) | exact hrt_ | exact hrt2_ | exact hrt3_), (show zls b_ n_ F_ K_ (0, (ze Mz 81 4).toNat, nm_) = zLf by first | (exact hrt2_) | exact hrt_ | exact hrt2_ | exact hrt3_)⟩))⟩ (zdal_p dlC_M_letLine_88 (i := 16) rfl)
                                  · skip
                                    exact absurd hc_106 (by decide)
                              · skip
                                exfalso; (exact zo_609 ha93_0_hp1_N39_ ha99_1_hp1_N44_)
                            · skip
                              have hre_ := ha93_2_hp1_N39_
                              have hri_ := ha93_3_hp1_N39_
                              have hsn_ := ha93_4_hp1_N39_
                              have hps4_ := ha93_5_hp1_N39_
                              rw [hx3_] at hre_
                              have hzl_ : zls b_ n_ F_ K_ (0, (ze Mz 81 4).toNat, nm_) = zle b_ n_ (zkey b_ n_ (znx b_ n_ (ze Mz 81 4).toNat)) nm_ (zRst 3 F_ N39_) := zls_g hl0_ hl2_ hre_ (by unfold zRst; exact zfs_d)
                              show zW l m_M_letLine (zn Mz + 0, zw Mz + 0) N39_ 96 [some (.ref 81), some (.int (Int32.ofInt (ze Mz 81 4))), some (.long (Int64.ofInt (zg N3_ 81 11))), none, none] [] _
                              refine zw_aload_n (pc := 96) (n := 0) (x := 81) rfl (zdal_p dlC_M_letLine_88 (i := 0) rfl) ?_
                              refine zw_bipush (pc := 97) (v := Int32.ofInt 59) (by decide) (zdal_p dlC_M_letLine_88 (i := 1) rfl) ?_
                              refine zr_callV (hf_N39_.w hW) hf_N39_.x (pc := 99) [.int (Int32.ofInt 59)] [] l_M_355 (c_M_mustF l N39_ (hf_N39_.w hW) 59 (by decide) (by decide) b_ n_ c42_ hp0_N39_ (show 0 ≤ ze N39_ 81 7 by first | assumption | omega)) rfl rfl rfl (by decide) (Nat.le_of_ble_eq_true rfl) (zdal_p dlC_M_letLine_88 (i := 2) rfl) ?_
                              rintro _ N51_ ⟨rfl, hsN51_, ⟨hp0_N51_, hp1_N51_⟩⟩
                              have hf_N51_ : zFr [3, 4, 5, 6, 7, 8, 11, 14, 38, 39, 41, 42, 43] [95, 96, 97, 100, 101, 102] Mz N51_ := hf_N39_.tr hsN51_ (by decide) (by decide)
                              have r3_N51_ := ze_r N51_ 81 3
                              have r4_N51_ := ze_r N51_ 81 4
                              have r7_N51_ := ze_r N51_ 81 7
                              have e14_N51_ : ze N51_ 81 14 = ze N39_ 81 14 := hsN51_.e (by decide)
                              have e26_N51_ : ze N51_ 81 26 = ze N39_ 81 26 := hsN51_.e (by decide)
                              have e39_N51_ : ze N51_ 81 39 = ze N39_ 81 39 := hsN51_.e (by decide)
                              have qzr95_N51_ : zr95 N51_ = zr95 N39_ := zr95_f hsN51_ (by decide)
                              have qzr101_N51_ : zr101 N51_ = zr101 N39_ := zr101_f hsN51_ (by decide)
                              have qzr102_N51_ : zr102 N51_ = zr102 N39_ := zr102_f hsN51_ (by decide)
                              have c53_ : zRmk F_ K_ N51_ := zRmk.fr hsN51_ c41_ (by decide) (by decide)
                              have c54_ : zRb b_ n_ N51_ := zRb.fr hsN51_ c42_ (by decide) (by decide)
                              have c55_ : zRNm nm_ F_ K_ b_ n_ N51_ := zRNm.fr hsN51_ c43_ (by decide) (by decide)
                              rcases hp1_N51_ with ⟨ha99_0_hp1_N51_, ha99_1_hp1_N51_⟩ | ⟨ha99_0_hp1_N51_, ha99_1_hp1_N51_, ha99_2_hp1_N51_, ha99_3_hp1_N51_⟩
                              · skip
                                have hrt3_ : zls b_ n_ F_ K_ (0, (ze Mz 81 4).toNat, nm_) = zLf := by first | exact hrt_ | exact hrt2_ | (rw [hzl_]; unfold zRst; exact zle_n (fun q_ => ha99_1_hp1_N51_ (by omega) q_))
                                show zW l m_M_letLine (zn Mz + 0, zw Mz + 0) N51_ 102 [some (.ref 81), some (.int (Int32.ofInt (ze Mz 81 4))), some (.long (Int64.ofInt (zg N3_ 81 11))), none, none] [] _
                                refine zw_aload_n (pc := 102) (n := 0) (x := 81) rfl (zdal_p dlC_M_letLine_88 (i := 3) rfl) ?_
                                refine zr_callV (hf_N51_.w hW) hf_N51_.x (pc := 103) [] [] l_M_183 (c_M_isGood l N51_ (hf_N51_.w hW) ) rfl rfl rfl (by decide) (Nat.le_of_ble_eq_true rfl) (zdal_p dlC_M_letLine_88 (i := 4) rfl) ?_
                                rintro _ N56_ ⟨v57_, rfl, ⟨hv57_a, hv57_b⟩, hsN56_, hp0_N56_⟩
                                obtain rfl := hsN56_.eq.symm
                                replace hp0_N56_ : ((v57_ = 1 ∧ ze N51_ 81 7 = 0) ∨ (v57_ = 0 ∧ ze N51_ 81 7 ≠ 0)) := hp0_N56_
                                rcases hp0_N56_ with ⟨rfl, ha103_0_hp0_N56_⟩ | ⟨rfl, ha103_0_hp0_N56_⟩
                                · skip
                                  exfalso; omega
                                · skip
                                  show zW l m_M_letLine (zn Mz + 0, zw Mz + 0) N51_ 106 [some (.ref 81), some (.int (Int32.ofInt (ze Mz 81 4))), some (.long (Int64.ofInt (zg N3_ 81 11))), none, none] [.int (Int32.ofInt 0)] _
                                  refine zr_if_eq (pc := 106) (tgt := 123) ⟨(by decide), (by decide)⟩ (by decide) (zdal_p dlC_M_letLine_88 (i := 5) rfl) (fun hc_106 => ?_) (fun hc_106 => ?_)
                                  · skip
                                    refine zw_aload_n (pc := 123) (n := 0) (x := 81) rfl d_M_letLine_123 ?_
                                    refine zr_getI (hf_N51_.w hW) (pc := 124) f_M_172 rfl d_M_letLine_124 ?_
                                    refine zr_if_le (pc := 127) (tgt := 131) ⟨(ze_r N51_ 81 7).1, (ze_r N51_ 81 7).2⟩ (by decide) d_M_letLine_127 (fun hc_127 => ?_) (fun hc_127 => ?_)
                                    · skip
                                      exfalso; omega
                                    · skip
                                      exact zr_vret (pc := 130) rfl hf_N51_ ⟨hp0_N51_, (show 0 ≤ ze N51_ 81 14 by first | assumption | omega), (show ze N51_ 81 14 ≤ 8 by first | assumption | omega), (show ((1 ≤ ze N51_ 81 7 ∧ zls b_ n_ F_ K_ (0, (ze Mz 81 4).toNat, nm_) = zLf) ∨ (ze N51_ 81 7 = 0 ∧ (∃ nm2 : List (Int × (Nat → Int)), zls b_ n_ F_ K_ (0, (ze Mz 81 4).toNat, nm_) = (0, (ze N51_ 81 4).toNat, nm2) ∧ zRNm nm2 F_ K_ b_ n_ N51_) ∧ ze Mz 81 4 < ze N51_ 81 4)) from Or.inl (⟨(show 1 ≤ ze N51_ 81 7 by first | omega | exact hrt_ | exact hrt2_ | exact hrt3_), (show zls b_ n_ F_ K_ (0, (ze Mz 81 4).toNat, nm_) = zLf by first | omega | exact hrt_ | exact hrt2_ | exact hrt3_)⟩))⟩ (zdal_p dlC_M_letLine_88 (i := 16) rfl)
                                  · skip
                                    exact absurd hc_106 (by decide)
                              · skip
                                have hsg2_ := ha99_2_hp1_N51_
                                have hx4_ := ha99_3_hp1_N51_
                                have hg4_ := znx_ge (b := b_) (n := n_) (s := (ze N39_ 81 4).toNat)
                                show zW l m_M_letLine (zn Mz + 0, zw Mz + 0) N51_ 102 [some (.ref 81), some (.int (Int32.ofInt (ze Mz 81 4))), some (.long (Int64.ofInt (zg N3_ 81 11))), none, none] [] _
                                refine zw_aload_n (pc := 102) (n := 0) (x := 81) rfl (zdal_p dlC_M_letLine_88 (i := 3) rfl) ?_
                                refine zr_callV (hf_N51_.w hW) hf_N51_.x (pc := 103) [] [] l_M_183 (c_M_isGood l N51_ (hf_N51_.w hW) ) rfl rfl rfl (by decide) (Nat.le_of_ble_eq_true rfl) (zdal_p dlC_M_letLine_88 (i := 4) rfl) ?_
                                rintro _ N58_ ⟨v59_, rfl, ⟨hv59_a, hv59_b⟩, hsN58_, hp0_N58_⟩
                                obtain rfl := hsN58_.eq.symm
                                replace hp0_N58_ : ((v59_ = 1 ∧ ze N51_ 81 7 = 0) ∨ (v59_ = 0 ∧ ze N51_ 81 7 ≠ 0)) := hp0_N58_
                                rcases hp0_N58_ with ⟨rfl, ha103_0_hp0_N58_⟩ | ⟨rfl, ha103_0_hp0_N58_⟩
                                · skip
                                  show zW l m_M_letLine (zn Mz + 0, zw Mz + 0) N51_ 106 [some (.ref 81), some (.int (Int32.ofInt (ze Mz 81 4))), some (.long (Int64.ofInt (zg N3_ 81 11))), none, none] [.int (Int32.ofInt 1)] _
                                  refine zr_if_eq (pc := 106) (tgt := 123) ⟨(by decide), (by decide)⟩ (by decide) (zdal_p dlC_M_letLine_88 (i := 5) rfl) (fun hc_106 => ?_) (fun hc_106 => ?_)
                                  · skip
                                    exact absurd hc_106 (by decide)
                                  · skip
                                    refine zw_aload_n (pc := 109) (n := 0) (x := 81) rfl (zdal_p dlC_M_letLine_88 (i := 6) rfl) ?_
                                    refine zr_getI (hf_N51_.w hW) (pc := 110) f_M_275 rfl (zdal_p dlC_M_letLine_88 (i := 7) rfl) ?_
                                    refine zr_if_eq (pc := 113) (tgt := 123) ⟨(ze_r N51_ 81 39).1, (ze_r N51_ 81 39).2⟩ (by decide) (zdal_p dlC_M_letLine_88 (i := 8) rfl) (fun hc_113 => ?_) (fun hc_113 => ?_)
                                    · skip
                                      refine zw_aload_n (pc := 123) (n := 0) (x := 81) rfl d_M_letLine_123 ?_
                                      refine zr_getI (hf_N51_.w hW) (pc := 124) f_M_172 rfl d_M_letLine_124 ?_
                                      refine zr_if_le (pc := 127) (tgt := 131) ⟨(ze_r N51_ 81 7).1, (ze_r N51_ 81 7).2⟩ (by decide) d_M_letLine_127 (fun hc_127 => ?_) (fun hc_127 => ?_)
                                      · skip
                                        obtain ⟨hz3_, hfit_⟩ := zRst_3 (N := N39_) hri_ hsn_ (by omega)
                                        obtain ⟨vv_, hvv_⟩ : ∃ v : Nat → Int, v = zrw F_ N39_ 95 0 := ⟨_, rfl⟩
                                        rw [← hvv_] at hz3_ hfit_
                                        have hzl2_ := hzl_.trans ((congrArg (zle b_ n_ (zkey b_ n_ (znx b_ n_ (ze Mz 81 4).toNat)) nm_) hz3_).trans (zle_t hsg2_))
                                        refine zw_aload_n (pc := 131) (n := 0) (x := 81) rfl (zdal_p dlC_M_letLine_88 (i := 17) rfl) ?_
                                        refine zr_getF (r := 101) (hf_N51_.w hW) (pc := 132) f_M_75 rfl (zh_101 (hf_N51_.w hW)).1 (zdal_p dlC_M_letLine_88 (i := 18) rfl) ?_
                                        refine zw_aload_n (pc := 135) (n := 0) (x := 81) rfl (zdal_p dlC_M_letLine_88 (i := 19) rfl) ?_
                                        refine zr_getI (hf_N51_.w hW) (pc := 136) f_M_299 rfl (zdal_p dlC_M_letLine_88 (i := 20) rfl) ?_
                                        refine zw_lload_n (pc := 139) (n := 2) (x := Int64.ofInt (zg N3_ 81 11)) rfl (zdal_p dlC_M_letLine_88 (i := 21) rfl) ?_
                                        refine zr_last (pc := 140) (zh_101 (hf_N51_.w hW)).2 (by decide) (by decide) (by omega) (by omega) (zdal_p dlC_M_letLine_88 (i := 22) rfl) (fun N60_ hN60_ hsN60_ => ?_)
                                        have hf_N60_ : zFr [3, 4, 5, 6, 7, 8, 11, 14, 38, 39, 41, 42, 43] [95, 96, 97, 100, 101, 102] Mz N60_ := hf_N51_.tr hsN60_ (by decide) (by decide)
                                        have e3_N60_ : ze N60_ 81 3 = ze N51_ 81 3 := hsN60_.e (by decide)
                                        have e4_N60_ : ze N60_ 81 4 = ze N51_ 81 4 := hsN60_.e (by decide)
                                        have e7_N60_ : ze N60_ 81 7 = ze N51_ 81 7 := hsN60_.e (by decide)
                                        have e14_N60_ : ze N60_ 81 14 = ze N51_ 81 14 := hsN60_.e (by decide)
                                        have e26_N60_ : ze N60_ 81 26 = ze N51_ 81 26 := hsN60_.e (by decide)
                                        have e39_N60_ : ze N60_ 81 39 = ze N51_ 81 39 := hsN60_.e (by decide)
                                        have qzr95_N60_ : zr95 N60_ = zr95 N51_ := zr95_f hsN60_ (by decide)
                                        have qzr102_N60_ : zr102 N60_ = zr102 N51_ := zr102_f hsN60_ (by decide)
                                        have c61_ : zRmk F_ K_ N60_ := zRmk.fr hsN60_ c53_ (by decide) (by decide)
                                        have c62_ : zRb b_ n_ N60_ := zRb.fr hsN60_ c54_ (by decide) (by decide)
                                        have c63_ : zRt b_ n_ N60_ := zRt.fr hsN60_ hp0_N51_ (by decide) (by decide)
                                        have hk1_ : zg N60_ 101 (ze Mz 81 14).toNat = zke8 b_ n_ (znx b_ n_ (ze Mz 81 4).toNat) := by rw [show (ze Mz 81 14).toNat = (ze N51_ 81 14).toNat by omega, zs_getJ hN60_ ⟨by omega, by omega⟩]; exact hwd_
                                        have hko_ : ∀ k : Nat, (k : Int) < ze Mz 81 14 → zg N60_ 101 k = zg Mz 101 k := fun k hk => by rw [zs_othJ hN60_ (by omega)]; exact congrFun (qzr101_N51_.trans (qzr101_N39_.trans (qzr101_N22_.trans (qzr101_N17_.trans qzr101_N3_)))) k
                                        have h102_ : ∀ x : Nat, zg N60_ 102 x = zg Mz 102 x := fun x => congrFun (qzr102_N60_.trans (qzr102_N51_.trans (qzr102_N39_.trans (qzr102_N22_.trans (qzr102_N17_.trans qzr102_N3_))))) x
                                        refine zw_iconst (pc := 141) (v := Int32.ofInt 0) (by decide) (zdal_p dlC_M_letLine_88 (i := 23) rfl) ?_
                                        refine zw_istore (pc := 142) (i := 4) (L2 := [some (.ref 81), some (.int (Int32.ofInt (ze Mz 81 4))), some (.long (Int64.ofInt (zg N3_ 81 11))), none, some (.int (Int32.ofInt 0))]) (by decide) rfl (zdal_p dlC_M_letLine_89 (i := 0) rfl) ?_
                                        have lp_144 : ∀ (n : Nat) (u64_ : Int) (hu64_a : -2147483648 ≤ u64_) (hu64_b : u64_ < 2147483648) (N65_ : zMem) (hs66_ : zFr [] [102] N60_ N65_) (i67_ : 0 ≤ u64_) (i68_ : u64_ ≤ F_) (i69_ : (∀ x : Nat, ¬ (64 * ze Mz 81 14 ≤ x ∧ (x : Int) < 64 * ze Mz 81 14 + F_) → zg N65_ 102 x = zg Mz 102 x)) (i70_ : (∀ k : Nat, (k : Int) < u64_ → zg N65_ 102 ((64 * ze Mz 81 14).toNat + k) = vv_ k)), (F_ - u64_).toNat < n → zW l m_M_letLine (zn Mz + 0, zw Mz + 0) N65_ 144 [some (.ref 81), some (.int (Int32.ofInt (ze Mz 81 4))), some (.long (Int64.ofInt (zg N3_ 81 11))), none, some (.int (Int32.ofInt u64_))] [] (zpV [3, 4, 5, 6, 7, 8, 11, 14, 38, 39, 41, 42, 43] [95, 96, 97, 100, 101, 102] Mz (fun N => zRt b_ n_ N ∧ 0 ≤ ze N 81 14 ∧ ze N 81 14 ≤ 8 ∧ (((1 ≤ ze N 81 7 ∧ zls b_ n_ F_ K_ (0, (ze Mz 81 4).toNat, nm_) = zLf) ∨ (ze N 81 7 = 0 ∧ (∃ nm2 : List (Int × (Nat → Int)), zls b_ n_ F_ K_ (0, (ze Mz 81 4).toNat, nm_) = (0, (ze N 81 4).toNat, nm2) ∧ zRNm nm2 F_ K_ b_ n_ N) ∧ ze Mz 81 4 < ze N 81 4))))) := by
                                          intro n
                                          induction n with
                                          | zero =>
                                            intro u64_ hu64_a hu64_b N65_ hs66_ i67_ i68_ i69_ i70_ h0
                                            exact absurd h0 (Nat.not_lt_zero _)
                                          | succ n ih_144 =>
                                            intro u64_ hu64_a hu64_b N65_ hs66_ i67_ i68_ i69_ i70_ hlt_144
                                            have hf_N65_ : zFr [3, 4, 5, 6, 7, 8, 11, 14, 38, 39, 41, 42, 43] [95, 96, 97, 100, 101, 102] Mz N65_ := hf_N60_.tr hs66_ (by decide) (by decide)
                                            have e3_N65_ : ze N65_ 81 3 = ze N60_ 81 3 := hs66_.e (by decide)
                                            have e4_N65_ : ze N65_ 81 4 = ze N60_ 81 4 := hs66_.e (by decide)
                                            have e7_N65_ : ze N65_ 81 7 = ze N60_ 81 7 := hs66_.e (by decide)
                                            have e14_N65_ : ze N65_ 81 14 = ze N60_ 81 14 := hs66_.e (by decide)
                                            have e26_N65_ : ze N65_ 81 26 = ze N60_ 81 26 := hs66_.e (by decide)
                                            have e39_N65_ : ze N65_ 81 39 = ze N60_ 81 39 := hs66_.e (by decide)
                                            have qzr95_N65_ : zr95 N65_ = zr95 N60_ := zr95_f hs66_ (by decide)
                                            have qzr101_N65_ : zr101 N65_ = zr101 N60_ := zr101_f hs66_ (by decide)
                                            have c71_ : zRmk F_ K_ N65_ := zRmk.fr hs66_ c61_ (by decide) (by decide)
                                            have c72_ : zRb b_ n_ N65_ := zRb.fr hs66_ c62_ (by decide) (by decide)
                                            have c73_ : zRt b_ n_ N65_ := zRt.fr hs66_ c63_ (by decide) (by decide)
                                            have hcl0_ := (show (∀ x : Nat, ¬ (64 * ze Mz 81 14 ≤ x ∧ (x : Int) < 64 * ze Mz 81 14 + F_) → zg N65_ 102 x = zg Mz 102 x) by assumption)
                                            have hcv0_ := (show (∀ k : Nat, (k : Int) < u64_ → zg N65_ 102 ((64 * ze Mz 81 14).toNat + k) = vv_ k) by assumption)
                                            refine zw_iload (pc := 144) (i := 4) (x := Int32.ofInt u64_) rfl (zdal_p dlC_M_letLine_89 (i := 1) rfl) ?_
                                            refine zw_aload_n (pc := 146) (n := 0) (x := 81) rfl (zdal_p dlC_M_letLine_89 (i := 2) rfl) ?_
                                            refine zr_getI0 hf_N65_ hW (pc := 147) (by decide) f_M_235 rfl (zdal_p dlC_M_letLine_89 (i := 3) rfl) ?_
                                            refine zr_icmp_ge (pc := 150) (tgt := 181) ⟨hu64_a, hu64_b⟩ ⟨(ze_r Mz 81 26).1, (ze_r Mz 81 26).2⟩ (by decide) (zdal_p dlC_M_letLine_89 (i := 4) rfl) (fun hc_150 => ?_) (fun hc_150 => ?_)
                                            · skip
                                              refine zw_aload_n (pc := 181) (n := 0) (x := 81) rfl (zdal_p dlC_M_letLine_89 (i := 20) rfl) ?_
                                              refine zw_dup (pc := 182) rfl (zdal_p dlC_M_letLine_89 (i := 21) rfl) ?_
                                              refine zr_getI (hf_N65_.w hW) (pc := 183) f_M_299 rfl (zdal_p dlC_M_letLine_89 (i := 22) rfl) ?_
                                              refine zw_iconst (pc := 186) (v := Int32.ofInt 1) (by decide) (zdal_p dlC_M_letLine_89 (i := 23) rfl) ?_
                                              refine zr_iadd (pc := 187) (zdal_p dlC_M_letLine_90 (i := 0) rfl) ?_
                                              refine zr_putI (hf_N65_.w hW) (pc := 188) f_M_299 rfl rfl ⟨by omega, by omega⟩ rfl rfl (zdal_p dlC_M_letLine_90 (i := 1) rfl) (fun N74_ hsN74_ hvN74_ => ?_)
                                              have hf_N74_ : zFr [3, 4, 5, 6, 7, 8, 11, 14, 38, 39, 41, 42, 43] [95, 96, 97, 100, 101, 102] Mz N74_ := hf_N65_.tr hsN74_ (by decide) (by decide)
                                              have e3_N74_ : ze N74_ 81 3 = ze N65_ 81 3 := hsN74_.e (by decide)
                                              have e4_N74_ : ze N74_ 81 4 = ze N65_ 81 4 := hsN74_.e (by decide)
                                              have e7_N74_ : ze N74_ 81 7 = ze N65_ 81 7 := hsN74_.e (by decide)
                                              have r14_N74_ := ze_r N74_ 81 14
                                              have e26_N74_ : ze N74_ 81 26 = ze N65_ 81 26 := hsN74_.e (by decide)
                                              have e39_N74_ : ze N74_ 81 39 = ze N65_ 81 39 := hsN74_.e (by decide)
                                              have qzr95_N74_ : zr95 N74_ = zr95 N65_ := zr95_f hsN74_ (by decide)
                                              have qzr101_N74_ : zr101 N74_ = zr101 N65_ := zr101_f hsN74_ (by decide)
                                              have qzr102_N74_ : zr102 N74_ = zr102 N65_ := zr102_f hsN74_ (by decide)
                                              have c75_ : zRmk F_ K_ N74_ := zRmk.fr hsN74_ c71_ (by decide) (by decide)
                                              have c76_ : zRb b_ n_ N74_ := zRb.fr hsN74_ c72_ (by decide) (by decide)
                                              have c77_ : zRt b_ n_ N74_ := zRt.fr hsN74_ c73_ (by decide) (by decide)
                                              have h101_ : ∀ k : Nat, zg N74_ 101 k = zg N60_ 101 k := fun k => congrFun (qzr101_N74_.trans qzr101_N65_) k
                                              have hnu_ := p3_.u (N := N74_) (q := (znx b_ n_ (ze Mz 81 4).toNat)) (v := vv_) (by omega) (by omega) hna_.1 ((h101_ _).trans hk1_) (fun k_ hk_ => (h101_ k_).trans (hko_ k_ hk_)) (zrw_v (fun k_ hk_ => (hsN74_.jg (by decide) (by decide) _).trans (hcv0_ k_ (by omega))) (fun k_ hk_ => by rw [hvv_]; exact zrw_n hk_)) (fun k_ hk_ => zrw_c (fun j_ hj_ => (hsN74_.jg (by decide) (by decide) _).trans (hcl0_ _ (by omega)))) hfit_
                                              have hfin_ : (∃ nm2 : List (Int × (Nat → Int)), zls b_ n_ F_ K_ (0, (ze Mz 81 4).toNat, nm_) = (0, (ze N74_ 81 4).toNat, nm2) ∧ zRNm nm2 F_ K_ b_ n_ N74_) := ⟨_, hzl2_.trans (by rw [← hx4_, show ze N74_ 81 4 = ze N51_ 81 4 by omega]), hnu_⟩
                                              exact zr_vret (pc := 191) rfl hf_N74_ ⟨c77_, (show 0 ≤ ze N74_ 81 14 by first | assumption | omega), (show ze N74_ 81 14 ≤ 8 by first | assumption | omega), (show ((1 ≤ ze N74_ 81 7 ∧ zls b_ n_ F_ K_ (0, (ze Mz 81 4).toNat, nm_) = zLf) ∨ (ze N74_ 81 7 = 0 ∧ (∃ nm2 : List (Int × (Nat → Int)), zls b_ n_ F_ K_ (0, (ze Mz 81 4).toNat, nm_) = (0, (ze N74_ 81 4).toNat, nm2) ∧ zRNm nm2 F_ K_ b_ n_ N74_) ∧ ze Mz 81 4 < ze N74_ 81 4)) from Or.inr (⟨(show ze N74_ 81 7 = 0 by first | omega | exact hfin_), (show (∃ nm2 : List (Int × (Nat → Int)), zls b_ n_ F_ K_ (0, (ze Mz 81 4).toNat, nm_) = (0, (ze N74_ 81 4).toNat, nm2) ∧ zRNm nm2 F_ K_ b_ n_ N74_) by first | omega | exact hfin_), (show ze Mz 81 4 < ze N74_ 81 4 by first | omega | exact hfin_)⟩))⟩ (zdal_p dlC_M_letLine_90 (i := 2) rfl)
                                            · skip
                                              refine zw_aload_n (pc := 153) (n := 0) (x := 81) rfl (zdal_p dlC_M_letLine_89 (i := 5) rfl) ?_
                                              refine zr_getF (r := 102) (hf_N65_.w hW) (pc := 154) f_M_78 rfl (zh_102 (hf_N65_.w hW)).1 (zdal_p dlC_M_letLine_89 (i := 6) rfl) ?_
                                              refine zw_bipush (pc := 157) (v := Int32.ofInt 64) (by decide) (zdal_p dlC_M_letLine_89 (i := 7) rfl) ?_
                                              refine zw_aload_n (pc := 159) (n := 0) (x := 81) rfl (zdal_p dlC_M_letLine_89 (i := 8) rfl) ?_
                                              refine zr_getI (hf_N65_.w hW) (pc := 160) f_M_299 rfl (zdal_p dlC_M_letLine_89 (i := 9) rfl) ?_
                                              refine zr_imul (pc := 163) (zdal_p dlC_M_letLine_89 (i := 10) rfl) ?_
                                              refine zw_iload (pc := 164) (i := 4) (x := Int32.ofInt u64_) rfl (zdal_p dlC_M_letLine_89 (i := 11) rfl) ?_
                                              refine zr_iadd (pc := 166) (zdal_p dlC_M_letLine_89 (i := 12) rfl) ?_
                                              refine zw_aload_n (pc := 167) (n := 0) (x := 81) rfl (zdal_p dlC_M_letLine_89 (i := 13) rfl) ?_
                                              refine zr_getF (r := 95) (hf_N65_.w hW) (pc := 168) f_M_56 rfl (zh_95 (hf_N65_.w hW)).1 (zdal_p dlC_M_letLine_89 (i := 14) rfl) ?_
                                              refine zw_iload (pc := 171) (i := 4) (x := Int32.ofInt u64_) rfl (zdal_p dlC_M_letLine_89 (i := 15) rfl) ?_
                                              refine zr_laldn (pc := 173) (zh_95 (hf_N65_.w hW)).2 (by decide) (by omega) (by omega) (zdal_p dlC_M_letLine_89 (i := 16) rfl) (fun v78_ hv78_ hv78_a hv78_b => ?_)
                                              have hx_ := zrw_at (F := F_) (M := N39_) (q := 95) (k := (u64_).toNat) (e := 0) (by omega) (by omega) (hv78_.trans (congrFun (qzr95_N65_.trans (qzr95_N60_.trans qzr95_N51_)) _)) (by omega)
                                              rw [← hvv_] at hx_
                                              refine zr_last (pc := 174) (zh_102 (hf_N65_.w hW)).2 (by decide) (by decide) (by omega) (by omega) (zdal_p dlC_M_letLine_89 (i := 17) rfl) (fun N79_ hN79_ hsN79_ => ?_)
                                              have hf_N79_ : zFr [3, 4, 5, 6, 7, 8, 11, 14, 38, 39, 41, 42, 43] [95, 96, 97, 100, 101, 102] Mz N79_ := hf_N65_.tr hsN79_ (by decide) (by decide)
                                              have hb0_N79_ : zFr [] [102] N60_ N79_ := hs66_.tr hsN79_ (by decide) (by decide)
                                              have e3_N79_ : ze N79_ 81 3 = ze N65_ 81 3 := hsN79_.e (by decide)
                                              have e4_N79_ : ze N79_ 81 4 = ze N65_ 81 4 := hsN79_.e (by decide)
                                              have e7_N79_ : ze N79_ 81 7 = ze N65_ 81 7 := hsN79_.e (by decide)
                                              have e14_N79_ : ze N79_ 81 14 = ze N65_ 81 14 := hsN79_.e (by decide)
                                              have e26_N79_ : ze N79_ 81 26 = ze N65_ 81 26 := hsN79_.e (by decide)
                                              have e39_N79_ : ze N79_ 81 39 = ze N65_ 81 39 := hsN79_.e (by decide)
                                              have qzr95_N79_ : zr95 N79_ = zr95 N65_ := zr95_f hsN79_ (by decide)
                                              have qzr101_N79_ : zr101 N79_ = zr101 N65_ := zr101_f hsN79_ (by decide)
                                              have c80_ : zRmk F_ K_ N79_ := zRmk.fr hsN79_ c71_ (by decide) (by decide)
                                              have c81_ : zRb b_ n_ N79_ := zRb.fr hsN79_ c72_ (by decide) (by decide)
                                              have c82_ : zRt b_ n_ N79_ := zRt.fr hsN79_ c73_ (by decide) (by decide)
                                              have hcl_ : (∀ x : Nat, ¬ (64 * ze Mz 81 14 ≤ x ∧ (x : Int) < 64 * ze Mz 81 14 + F_) → zg N79_ 102 x = zg Mz 102 x) := fun x hx => by rw [zs_othJ hN79_ (by omega)]; exact hcl0_ x hx
                                              have hcv_ : (∀ k : Nat, (k : Int) < u64_ + 1 → zg N79_ 102 ((64 * ze Mz 81 14).toNat + k) = vv_ k) := fun k hk => by by_cases g_ : (k : Int) = u64_; (rw [show (64 * ze Mz 81 14).toNat + k = (64 * ze N65_ 81 14 + u64_).toNat by omega, zs_getJ hN79_ ⟨by omega, by omega⟩, hx_, show (u64_).toNat = k by omega]); (rw [zs_othJ hN79_ (by omega)]; exact hcv0_ k (by omega))
                                              refine zr_iinc (pc := 175) (i := 4) (a := u64_) (n := 1) (L2 := [some (.ref 81), some (.int (Int32.ofInt (ze Mz 81 4))), some (.long (Int64.ofInt (zg N3_ 81 11))), none, some (.int (Int32.ofInt (u64_ + 1)))]) rfl (by decide) rfl (zdal_p dlC_M_letLine_89 (i := 18) rfl) ?_
                                              refine zw_goto (pc := 178) (tgt := 144) (by decide) (zdal_p dlC_M_letLine_89 (i := 19) rfl) ?_
                                              exact ih_144 (u64_ + 1) (by omega) (by omega) N79_ hb0_N79_ (show 0 ≤ (u64_ + 1) by first | assumption | omega) (show (u64_ + 1) ≤ F_ by first | assumption | omega) (show (∀ x : Nat, ¬ (64 * ze Mz 81 14 ≤ x ∧ (x : Int) < 64 * ze Mz 81 14 + F_) → zg N79_ 102 x = zg Mz 102 x) by exact hcl_) (show (∀ k : Nat, (k : Int) < (u64_ + 1) → zg N79_ 102 ((64 * ze Mz 81 14).toNat + k) = vv_ k) by exact hcv_) (by omega)
                                        exact lp_144 _ 0 (by decide) (by decide) N60_ zFr.rf (show 0 ≤ (0 : Int) by first | assumption | omega) (show (0 : Int) ≤ F_ by first | assumption | omega) (show (∀ x : Nat, ¬ (64 * ze Mz 81 14 ≤ x ∧ (x : Int) < 64 * ze Mz 81 14 + F_) → zg N60_ 102 x = zg Mz 102 x) by exact fun x _ => h102_ x) (show (∀ k : Nat, (k : Int) < (0 : Int) → zg N60_ 102 ((64 * ze Mz 81 14).toNat + k) = vv_ k) by exact fun k hk => absurd hk (by omega)) (Nat.lt_succ_self _)
                                      · skip
                                        exfalso; omega
                                    · skip
                                      have hrt_ : zls b_ n_ F_ K_ (0, (ze Mz 81 4).toNat, nm_) = zLf := by rw [hzl_, zRst_g (by omega)]; exact zle_b
                                      refine zw_aload_n (pc := 116) (n := 0) (x := 81) rfl (zdal_p dlC_M_letLine_88 (i := 9) rfl) ?_
                                      refine zw_bipush (pc := 117) (v := Int32.ofInt 6) (by decide) (zdal_p dlC_M_letLine_88 (i := 10) rfl) ?_
                                      refine zw_iload_n (pc := 119) (n := 1) (x := Int32.ofInt (ze Mz 81 4)) rfl (zdal_p dlC_M_letLine_88 (i := 11) rfl) ?_
                                      refine zr_callV (hf_N51_.w hW) hf_N51_.x (pc := 120) [.int (Int32.ofInt 6), .int (Int32.ofInt (ze Mz 81 4))] [] l_M_168 (c_M_wrongAtF l N51_ (hf_N51_.w hW) 6 (by decide) (by decide) (ze Mz 81 4) (ze_r Mz 81 4).1 (ze_r Mz 81 4).2 (show 1 ≤ 6 by first | assumption | omega)) rfl rfl rfl (by decide) (Nat.le_of_ble_eq_true rfl) (zdal_p dlC_M_letLine_88 (i := 12) rfl) ?_
                                      rintro _ N83_ ⟨rfl, hsN83_, hp0_N83_⟩
                                      replace hp0_N83_ : 1 ≤ ze N83_ 81 7 := hp0_N83_
                                      have hf_N83_ : zFr [3, 4, 5, 6, 7, 8, 11, 14, 38, 39, 41, 42, 43] [95, 96, 97, 100, 101, 102] Mz N83_ := hf_N51_.tr hsN83_ (by decide) (by decide)
                                      have e3_N83_ : ze N83_ 81 3 = ze N51_ 81 3 := hsN83_.e (by decide)
                                      have e4_N83_ : ze N83_ 81 4 = ze N51_ 81 4 := hsN83_.e (by decide)
                                      have r7_N83_ := ze_r N83_ 81 7
                                      have e14_N83_ : ze N83_ 81 14 = ze N51_ 81 14 := hsN83_.e (by decide)
                                      have e26_N83_ : ze N83_ 81 26 = ze N51_ 81 26 := hsN83_.e (by decide)
                                      have e39_N83_ : ze N83_ 81 39 = ze N51_ 81 39 := hsN83_.e (by decide)
                                      have qzr95_N83_ : zr95 N83_ = zr95 N51_ := zr95_f hsN83_ (by decide)
                                      have qzr101_N83_ : zr101 N83_ = zr101 N51_ := zr101_f hsN83_ (by decide)
                                      have qzr102_N83_ : zr102 N83_ = zr102 N51_ := zr102_f hsN83_ (by decide)
                                      have c85_ : zRmk F_ K_ N83_ := zRmk.fr hsN83_ c53_ (by decide) (by decide)
                                      have c86_ : zRb b_ n_ N83_ := zRb.fr hsN83_ c54_ (by decide) (by decide)
                                      have c87_ : zRNm nm_ F_ K_ b_ n_ N83_ := zRNm.fr hsN83_ c55_ (by decide) (by decide)
                                      have c88_ : zRt b_ n_ N83_ := zRt.fr hsN83_ hp0_N51_ (by decide) (by decide)
                                      show zW l m_M_letLine (zn Mz + 0, zw Mz + 0) N83_ 123 [some (.ref 81), some (.int (Int32.ofInt (ze Mz 81 4))), some (.long (Int64.ofInt (zg N3_ 81 11))), none, none] [] _
                                      refine zw_aload_n (pc := 123) (n := 0) (x := 81) rfl d_M_letLine_123 ?_
                                      refine zr_getI (hf_N83_.w hW) (pc := 124) f_M_172 rfl d_M_letLine_124 ?_
                                      refine zr_if_le (pc := 127) (tgt := 131) ⟨(ze_r N83_ 81 7).1, (ze_r N83_ 81 7).2⟩ (by decide) d_M_letLine_127 (fun hc_127 => ?_) (fun hc_127 => ?_)
                                      · skip
                                        exfalso; omega
                                      · skip
                                        exact zr_vret (pc := 130) rfl hf_N83_ ⟨c88_, (show 0 ≤ ze N83_ 81 14 by first | assumption | omega), (show ze N83_ 81 14 ≤ 8 by first | assumption | omega), (show ((1 ≤ ze N83_ 81 7 ∧ zls b_ n_ F_ K_ (0, (ze Mz 81 4).toNat, nm_) = zLf) ∨ (ze N83_ 81 7 = 0 ∧ (∃ nm2 : List (Int × (Nat → Int)), zls b_ n_ F_ K_ (0, (ze Mz 81 4).toNat, nm_) = (0, (ze N83_ 81 4).toNat, nm2) ∧ zRNm nm2 F_ K_ b_ n_ N83_) ∧ ze Mz 81 4 < ze N83_ 81 4)) from Or.inl (⟨(show 1 ≤ ze N83_ 81 7 by first | omega | exact hrt_ | exact hrt2_ | exact hrt3_), (show zls b_ n_ F_ K_ (0, (ze Mz 81 4).toNat, nm_) = zLf by first | omega | exact hrt_ | exact hrt2_ | exact hrt3_)⟩))⟩ (zdal_p dlC_M_letLine_88 (i := 16) rfl)
                                · skip
                                  exfalso; omega
                        · skip
                          exfalso; (exact zo_1328 ha31_0_hp0_N8_ hc_73)
                      · skip
                        exact absurd hc_61 (by decide)
                    · skip
                      have hv0_ := ha57_0_hp0_N14_
                      have hfn_ := ha57_3_hp0_N14_
                      rw [hx1_] at hfn_
                      have hrt_ : zls b_ n_ F_ K_ (0, (ze Mz 81 4).toNat, nm_) = zLf := zls_f hl0_ (fun q_ => by have h_ := q_.2.2.1; rw [hfn_] at h_; cases h_)
                      show zW l m_M_letLine (zn Mz + 0, zw Mz + 0) N3_ 60 [some (.ref 81), some (.int (Int32.ofInt (ze Mz 81 4))), none, none, none] [.int (Int32.ofInt v15_)] _
                      refine zw_iconst (pc := 60) (v := Int32.ofInt (-1)) (by decide) (zdal_p dlC_M_letLine_87 (i := 5) rfl) ?_
                      refine zr_icmp_eq (pc := 61) (tgt := 69) ⟨hv15_a, hv15_b⟩ ⟨(by decide), (by decide)⟩ (by decide) (zdal_p dlC_M_letLine_87 (i := 6) rfl) (fun hc_61 => ?_) (fun hc_61 => ?_)
                      · skip
                        exfalso; (exact zo_583 ha57_0_hp0_N14_ hc_61)
                      · skip
                        refine zw_aload_n (pc := 64) (n := 0) (x := 81) rfl (zdal_p dlC_M_letLine_87 (i := 7) rfl) ?_
                        refine zw_iconst (pc := 65) (v := Int32.ofInt 3) (by decide) (zdal_p dlC_M_letLine_87 (i := 8) rfl) ?_
                        refine zr_callV (hf_N3_.w hW) hf_N3_.x (pc := 66) [.int (Int32.ofInt 3)] [] l_M_190 (c_M_wrongF l N3_ (hf_N3_.w hW) 3 (by decide) (by decide) (show 1 ≤ 3 by first | assumption | (decide))) rfl rfl rfl (by decide) (Nat.le_of_ble_eq_true rfl) (zdal_p dlC_M_letLine_87 (i := 9) rfl) ?_
                        rintro _ N89_ ⟨rfl, hsN89_, hp0_N89_⟩
                        replace hp0_N89_ : 1 ≤ ze N89_ 81 7 := hp0_N89_
                        have hf_N89_ : zFr [3, 4, 5, 6, 7, 8, 11, 14, 38, 39, 41, 42, 43] [95, 96, 97, 100, 101, 102] Mz N89_ := hf_N3_.tr hsN89_ (by decide) (by decide)
                        have e3_N89_ : ze N89_ 81 3 = ze N3_ 81 3 := hsN89_.e (by decide)
                        have e4_N89_ : ze N89_ 81 4 = ze N3_ 81 4 := hsN89_.e (by decide)
                        have r7_N89_ := ze_r N89_ 81 7
                        have e14_N89_ : ze N89_ 81 14 = ze N3_ 81 14 := hsN89_.e (by decide)
                        have e26_N89_ : ze N89_ 81 26 = ze N3_ 81 26 := hsN89_.e (by decide)
                        have e39_N89_ : ze N89_ 81 39 = ze N3_ 81 39 := hsN89_.e (by decide)
                        have qzr95_N89_ : zr95 N89_ = zr95 N3_ := zr95_f hsN89_ (by decide)
                        have qzr101_N89_ : zr101 N89_ = zr101 N3_ := zr101_f hsN89_ (by decide)
                        have qzr102_N89_ : zr102 N89_ = zr102 N3_ := zr102_f hsN89_ (by decide)
                        have c91_ : zRmk F_ K_ N89_ := zRmk.fr hsN89_ c5_ (by decide) (by decide)
                        have c92_ : zRb b_ n_ N89_ := zRb.fr hsN89_ c6_ (by decide) (by decide)
                        have c93_ : zRNm nm_ F_ K_ b_ n_ N89_ := zRNm.fr hsN89_ c7_ (by decide) (by decide)
                        have c94_ : zRt b_ n_ N89_ := zRt.fr hsN89_ hp1_N3_ (by decide) (by decide)
                        show zW l m_M_letLine (zn Mz + 0, zw Mz + 0) N89_ 69 [some (.ref 81), some (.int (Int32.ofInt (ze Mz 81 4))), none, none, none] [] _
                        refine zw_aload_n (pc := 69) (n := 0) (x := 81) rfl (zdal_p dlC_M_letLine_87 (i := 10) rfl) ?_
                        refine zr_getI (hf_N89_.w hW) (pc := 70) f_M_172 rfl (zdal_p dlC_M_letLine_87 (i := 11) rfl) ?_
                        refine zr_if_le (pc := 73) (tgt := 77) ⟨(ze_r N89_ 81 7).1, (ze_r N89_ 81 7).2⟩ (by decide) (zdal_p dlC_M_letLine_87 (i := 12) rfl) (fun hc_73 => ?_) (fun hc_73 => ?_)
                        · skip
                          exfalso; (exact zo_1329 hc_73 hp0_N89_)
                        · skip
                          exact zr_vret (pc := 76) rfl hf_N89_ ⟨c94_, (show 0 ≤ ze N89_ 81 14 by first | assumption | (exact zo_1330 e14_N89_ ha57_0_hp0_N14_ ha57_2_hp0_N14_)), (show ze N89_ 81 14 ≤ 8 by first | assumption | (exact zo_1331 e14_N3_ e14_N89_ hw8_)), (show ((1 ≤ ze N89_ 81 7 ∧ zls b_ n_ F_ K_ (0, (ze Mz 81 4).toNat, nm_) = zLf) ∨ (ze N89_ 81 7 = 0 ∧ (∃ nm2 : List (Int × (Nat → Int)), zls b_ n_ F_ K_ (0, (ze Mz 81 4).toNat, nm_) = (0, (ze N89_ 81 4).toNat, nm2) ∧ zRNm nm2 F_ K_ b_ n_ N89_) ∧ ze Mz 81 4 < ze N89_ 81 4)) from Or.inl (⟨(show 1 ≤ ze N89_ 81 7 by first | (exact hp0_N89_) | exact hrt_ | exact hrt2_ | exact hrt3_), (show zls b_ n_ F_ K_ (0, (ze Mz 81 4).toNat, nm_) = zLf by first | (exact hrt_) | exact hrt_ | exact hrt2_ | exact hrt3_)⟩))⟩ (zdal_p dlC_M_letLine_87 (i := 13) rfl)
                · skip
                  exfalso; (exact zo_260 ha31_0_hp0_N8_ ha50_0_hp0_N12_)
              · skip
                exact absurd hc_41 (by decide)
            · skip
              have hna_ := ha38_0_hp0_N10_
              rw [hx1_] at hna_
              have hrt_ : zls b_ n_ F_ K_ (0, (ze Mz 81 4).toNat, nm_) = zLf := zls_f hl0_ (fun q_ => hna_ q_.2.1)
              show zW l m_M_letLine (zn Mz + 0, zw Mz + 0) N3_ 41 [some (.ref 81), some (.int (Int32.ofInt (ze Mz 81 4))), none, none, none] [.int (Int32.ofInt 0)] _
              refine zr_if_ne (pc := 41) (tgt := 49) ⟨(by decide), (by decide)⟩ (by decide) (zdal_p dlC_M_letLine_86 (i := 20) rfl) (fun hc_41 => ?_) (fun hc_41 => ?_)
              · skip
                exact absurd hc_41 (by decide)
              · skip
                refine zw_aload_n (pc := 44) (n := 0) (x := 81) rfl (zdal_p dlC_M_letLine_86 (i := 21) rfl) ?_
                refine zw_iconst (pc := 45) (v := Int32.ofInt 2) (by decide) (zdal_p dlC_M_letLine_86 (i := 22) rfl) ?_
                refine zr_callV (hf_N3_.w hW) hf_N3_.x (pc := 46) [.int (Int32.ofInt 2)] [] l_M_190 (c_M_wrongF l N3_ (hf_N3_.w hW) 2 (by decide) (by decide) (show 1 ≤ 2 by first | assumption | (decide))) rfl rfl rfl (by decide) (Nat.le_of_ble_eq_true rfl) (zdal_p dlC_M_letLine_86 (i := 23) rfl) ?_
                rintro _ N95_ ⟨rfl, hsN95_, hp0_N95_⟩
                replace hp0_N95_ : 1 ≤ ze N95_ 81 7 := hp0_N95_
                have hf_N95_ : zFr [3, 4, 5, 6, 7, 8, 11, 14, 38, 39, 41, 42, 43] [95, 96, 97, 100, 101, 102] Mz N95_ := hf_N3_.tr hsN95_ (by decide) (by decide)
                have e3_N95_ : ze N95_ 81 3 = ze N3_ 81 3 := hsN95_.e (by decide)
                have e4_N95_ : ze N95_ 81 4 = ze N3_ 81 4 := hsN95_.e (by decide)
                have r7_N95_ := ze_r N95_ 81 7
                have e14_N95_ : ze N95_ 81 14 = ze N3_ 81 14 := hsN95_.e (by decide)
                have e26_N95_ : ze N95_ 81 26 = ze N3_ 81 26 := hsN95_.e (by decide)
                have e39_N95_ : ze N95_ 81 39 = ze N3_ 81 39 := hsN95_.e (by decide)
                have qzr95_N95_ : zr95 N95_ = zr95 N3_ := zr95_f hsN95_ (by decide)
                have qzr101_N95_ : zr101 N95_ = zr101 N3_ := zr101_f hsN95_ (by decide)
                have qzr102_N95_ : zr102 N95_ = zr102 N3_ := zr102_f hsN95_ (by decide)
                have c97_ : zRmk F_ K_ N95_ := zRmk.fr hsN95_ c5_ (by decide) (by decide)
                have c98_ : zRb b_ n_ N95_ := zRb.fr hsN95_ c6_ (by decide) (by decide)
                have c99_ : zRNm nm_ F_ K_ b_ n_ N95_ := zRNm.fr hsN95_ c7_ (by decide) (by decide)
                have c100_ : zRt b_ n_ N95_ := zRt.fr hsN95_ hp1_N3_ (by decide) (by decide)
                show zW l m_M_letLine (zn Mz + 0, zw Mz + 0) N95_ 49 [some (.ref 81), some (.int (Int32.ofInt (ze Mz 81 4))), none, none, none] [] _
                refine zw_aload_n (pc := 49) (n := 0) (x := 81) rfl (zdal_p dlC_M_letLine_87 (i := 0) rfl) ?_
                refine zr_callV (hf_N95_.w hW) hf_N95_.x (pc := 50) [] [] l_M_183 (c_M_isGood l N95_ (hf_N95_.w hW) ) rfl rfl rfl (by decide) (Nat.le_of_ble_eq_true rfl) (zdal_p dlC_M_letLine_87 (i := 1) rfl) ?_
                rintro _ N101_ ⟨v102_, rfl, ⟨hv102_a, hv102_b⟩, hsN101_, hp0_N101_⟩
                obtain rfl := hsN101_.eq.symm
                replace hp0_N101_ : ((v102_ = 1 ∧ ze N95_ 81 7 = 0) ∨ (v102_ = 0 ∧ ze N95_ 81 7 ≠ 0)) := hp0_N101_
                rcases hp0_N101_ with ⟨rfl, ha50_0_hp0_N101_⟩ | ⟨rfl, ha50_0_hp0_N101_⟩
                · skip
                  exfalso; (exact zo_281 ha50_0_hp0_N101_ hp0_N95_)
                · skip
                  show zW l m_M_letLine (zn Mz + 0, zw Mz + 0) N95_ 53 [some (.ref 81), some (.int (Int32.ofInt (ze Mz 81 4))), none, none, none] [.int (Int32.ofInt 0)] _
                  refine zr_if_eq (pc := 53) (tgt := 69) ⟨(by decide), (by decide)⟩ (by decide) (zdal_p dlC_M_letLine_87 (i := 2) rfl) (fun hc_53 => ?_) (fun hc_53 => ?_)
                  · skip
                    refine zw_aload_n (pc := 69) (n := 0) (x := 81) rfl (zdal_p dlC_M_letLine_87 (i := 10) rfl) ?_
                    refine zr_getI (hf_N95_.w hW) (pc := 70) f_M_172 rfl (zdal_p dlC_M_letLine_87 (i := 11) rfl) ?_
                    refine zr_if_le (pc := 73) (tgt := 77) ⟨(ze_r N95_ 81 7).1, (ze_r N95_ 81 7).2⟩ (by decide) (zdal_p dlC_M_letLine_87 (i := 12) rfl) (fun hc_73 => ?_) (fun hc_73 => ?_)
                    · skip
                      exfalso; (exact zo_1329 hc_73 hp0_N95_)
                    · skip
                      exact zr_vret (pc := 76) rfl hf_N95_ ⟨c100_, (show 0 ≤ ze N95_ 81 14 by first | assumption | (exact zo_871 e14_N3_ e14_N95_ hw0_)), (show ze N95_ 81 14 ≤ 8 by first | assumption | (exact zo_1331 e14_N3_ e14_N95_ hw8_)), (show ((1 ≤ ze N95_ 81 7 ∧ zls b_ n_ F_ K_ (0, (ze Mz 81 4).toNat, nm_) = zLf) ∨ (ze N95_ 81 7 = 0 ∧ (∃ nm2 : List (Int × (Nat → Int)), zls b_ n_ F_ K_ (0, (ze Mz 81 4).toNat, nm_) = (0, (ze N95_ 81 4).toNat, nm2) ∧ zRNm nm2 F_ K_ b_ n_ N95_) ∧ ze Mz 81 4 < ze N95_ 81 4)) from Or.inl (⟨(show 1 ≤ ze N95_ 81 7 by first | (exact hp0_N95_) | exact hrt_ | exact hrt2_ | exact hrt3_), (show zls b_ n_ F_ K_ (0, (ze Mz 81 4).toNat, nm_) = zLf by first | (exact hrt_) | exact hrt_ | exact hrt2_ | exact hrt3_)⟩))⟩ (zdal_p dlC_M_letLine_87 (i := 13) rfl)
                  · skip
                    exact absurd hc_53 (by decide)
        · skip
          exfalso; (exact zo_770 e7_N3_ p4_ ha31_0_hp0_N8_)
    · skip
      exfalso; (exact zo_260 p4_ ha20_0_hp0_N1_)
  · skip
    have hrt_ : zls b_ n_ F_ K_ (0, (ze Mz 81 4).toNat, nm_) = zLf := zls_f hl0_ (fun q_ => by have h_ := q_.1; (exact zo_1332 hc_11 hlen_ q_.1))
    refine zw_aload_n (pc := 14) (n := 0) (x := 81) rfl (zdal_p dlC_M_letLine_86 (i := 7) rfl) ?_
    refine zw_iconst (pc := 15) (v := Int32.ofInt 5) (by decide) (zdal_p dlC_M_letLine_86 (i := 8) rfl) ?_
    refine zr_callV (hf.w hW) hf.x (pc := 16) [.int (Int32.ofInt 5)] [] l_M_190 (c_M_wrongF l Mz (hf.w hW) 5 (by decide) (by decide) (show 1 ≤ 5 by first | assumption | (decide))) rfl rfl rfl (by decide) (Nat.le_of_ble_eq_true rfl) (zdal_p dlC_M_letLine_86 (i := 9) rfl) ?_
    rintro _ N103_ ⟨rfl, hsN103_, hp0_N103_⟩
    replace hp0_N103_ : 1 ≤ ze N103_ 81 7 := hp0_N103_
    have hf_N103_ : zFr [3, 4, 5, 6, 7, 8, 11, 14, 38, 39, 41, 42, 43] [95, 96, 97, 100, 101, 102] Mz N103_ := hf.tr hsN103_ (by decide) (by decide)
    have e3_N103_ : ze N103_ 81 3 = ze Mz 81 3 := hsN103_.e (by decide)
    have e4_N103_ : ze N103_ 81 4 = ze Mz 81 4 := hsN103_.e (by decide)
    have r7_N103_ := ze_r N103_ 81 7
    have e14_N103_ : ze N103_ 81 14 = ze Mz 81 14 := hsN103_.e (by decide)
    have e26_N103_ : ze N103_ 81 26 = ze Mz 81 26 := hsN103_.e (by decide)
    have e39_N103_ : ze N103_ 81 39 = ze Mz 81 39 := hsN103_.e (by decide)
    have qzr95_N103_ : zr95 N103_ = zr95 Mz := zr95_f hsN103_ (by decide)
    have qzr101_N103_ : zr101 N103_ = zr101 Mz := zr101_f hsN103_ (by decide)
    have qzr102_N103_ : zr102 N103_ = zr102 Mz := zr102_f hsN103_ (by decide)
    have c105_ : zRmk F_ K_ N103_ := zRmk.fr hsN103_ p0_ (by decide) (by decide)
    have c106_ : zRb b_ n_ N103_ := zRb.fr hsN103_ p1_ (by decide) (by decide)
    have c107_ : zRt b_ n_ N103_ := zRt.fr hsN103_ p2_ (by decide) (by decide)
    have c108_ : zRNm nm_ F_ K_ b_ n_ N103_ := zRNm.fr hsN103_ p3_ (by decide) (by decide)
    show zW l m_M_letLine (zn Mz + 0, zw Mz + 0) N103_ 19 [some (.ref 81), some (.int (Int32.ofInt (ze Mz 81 4))), none, none, none] [] _
    refine zw_aload_n (pc := 19) (n := 0) (x := 81) rfl (zdal_p dlC_M_letLine_86 (i := 10) rfl) ?_
    refine zr_callV (hf_N103_.w hW) hf_N103_.x (pc := 20) [] [] l_M_183 (c_M_isGood l N103_ (hf_N103_.w hW) ) rfl rfl rfl (by decide) (Nat.le_of_ble_eq_true rfl) (zdal_p dlC_M_letLine_86 (i := 11) rfl) ?_
    rintro _ N109_ ⟨v110_, rfl, ⟨hv110_a, hv110_b⟩, hsN109_, hp0_N109_⟩
    obtain rfl := hsN109_.eq.symm
    replace hp0_N109_ : ((v110_ = 1 ∧ ze N103_ 81 7 = 0) ∨ (v110_ = 0 ∧ ze N103_ 81 7 ≠ 0)) := hp0_N109_
    rcases hp0_N109_ with ⟨rfl, ha20_0_hp0_N109_⟩ | ⟨rfl, ha20_0_hp0_N109_⟩
    · skip
      exfalso; (exact zo_281 ha20_0_hp0_N109_ hp0_N103_)
    · skip
      show zW l m_M_letLine (zn Mz + 0, zw Mz + 0) N103_ 23 [some (.ref 81), some (.int (Int32.ofInt (ze Mz 81 4))), none, none, none] [.int (Int32.ofInt 0)] _
      refine zr_if_eq (pc := 23) (tgt := 30) ⟨(by decide), (by decide)⟩ (by decide) (zdal_p dlC_M_letLine_86 (i := 12) rfl) (fun hc_23 => ?_) (fun hc_23 => ?_)
      · skip
        refine zw_aload_n (pc := 30) (n := 0) (x := 81) rfl (zdal_p dlC_M_letLine_86 (i := 15) rfl) ?_
        refine zr_callV (hf_N103_.w hW) hf_N103_.x (pc := 31) [] [] l_M_183 (c_M_isGood l N103_ (hf_N103_.w hW) ) rfl rfl rfl (by decide) (Nat.le_of_ble_eq_true rfl) (zdal_p dlC_M_letLine_86 (i := 16) rfl) ?_
        rintro _ N111_ ⟨v112_, rfl, ⟨hv112_a, hv112_b⟩, hsN111_, hp0_N111_⟩
        obtain rfl := hsN111_.eq.symm
        replace hp0_N111_ : ((v112_ = 1 ∧ ze N103_ 81 7 = 0) ∨ (v112_ = 0 ∧ ze N103_ 81 7 ≠ 0)) := hp0_N111_
        rcases hp0_N111_ with ⟨rfl, ha31_0_hp0_N111_⟩ | ⟨rfl, ha31_0_hp0_N111_⟩
        · skip
          exfalso; (exact zo_281 ha31_0_hp0_N111_ hp0_N103_)
        · skip
          show zW l m_M_letLine (zn Mz + 0, zw Mz + 0) N103_ 34 [some (.ref 81), some (.int (Int32.ofInt (ze Mz 81 4))), none, none, none] [.int (Int32.ofInt 0)] _
          refine zr_if_eq (pc := 34) (tgt := 49) ⟨(by decide), (by decide)⟩ (by decide) (zdal_p dlC_M_letLine_86 (i := 17) rfl) (fun hc_34 => ?_) (fun hc_34 => ?_)
          · skip
            refine zw_aload_n (pc := 49) (n := 0) (x := 81) rfl (zdal_p dlC_M_letLine_87 (i := 0) rfl) ?_
            refine zr_callV (hf_N103_.w hW) hf_N103_.x (pc := 50) [] [] l_M_183 (c_M_isGood l N103_ (hf_N103_.w hW) ) rfl rfl rfl (by decide) (Nat.le_of_ble_eq_true rfl) (zdal_p dlC_M_letLine_87 (i := 1) rfl) ?_
            rintro _ N113_ ⟨v114_, rfl, ⟨hv114_a, hv114_b⟩, hsN113_, hp0_N113_⟩
            obtain rfl := hsN113_.eq.symm
            replace hp0_N113_ : ((v114_ = 1 ∧ ze N103_ 81 7 = 0) ∨ (v114_ = 0 ∧ ze N103_ 81 7 ≠ 0)) := hp0_N113_
            rcases hp0_N113_ with ⟨rfl, ha50_0_hp0_N113_⟩ | ⟨rfl, ha50_0_hp0_N113_⟩
            · skip
              exfalso; (exact zo_281 ha50_0_hp0_N113_ hp0_N103_)
            · skip
              show zW l m_M_letLine (zn Mz + 0, zw Mz + 0) N103_ 53 [some (.ref 81), some (.int (Int32.ofInt (ze Mz 81 4))), none, none, none] [.int (Int32.ofInt 0)] _
              refine zr_if_eq (pc := 53) (tgt := 69) ⟨(by decide), (by decide)⟩ (by decide) (zdal_p dlC_M_letLine_87 (i := 2) rfl) (fun hc_53 => ?_) (fun hc_53 => ?_)
              · skip
                refine zw_aload_n (pc := 69) (n := 0) (x := 81) rfl (zdal_p dlC_M_letLine_87 (i := 10) rfl) ?_
                refine zr_getI (hf_N103_.w hW) (pc := 70) f_M_172 rfl (zdal_p dlC_M_letLine_87 (i := 11) rfl) ?_
                refine zr_if_le (pc := 73) (tgt := 77) ⟨(ze_r N103_ 81 7).1, (ze_r N103_ 81 7).2⟩ (by decide) (zdal_p dlC_M_letLine_87 (i := 12) rfl) (fun hc_73 => ?_) (fun hc_73 => ?_)
                · skip
                  exfalso; (exact zo_1329 hc_73 hp0_N103_)
                · skip
                  exact zr_vret (pc := 76) rfl hf_N103_ ⟨c107_, (show 0 ≤ ze N103_ 81 14 by first | assumption | (exact zo_1333 e14_N103_ hc_11)), (show ze N103_ 81 14 ≤ 8 by first | assumption | (exact zo_808 e14_N103_ hw8_)), (show ((1 ≤ ze N103_ 81 7 ∧ zls b_ n_ F_ K_ (0, (ze Mz 81 4).toNat, nm_) = zLf) ∨ (ze N103_ 81 7 = 0 ∧ (∃ nm2 : List (Int × (Nat → Int)), zls b_ n_ F_ K_ (0, (ze Mz 81 4).toNat, nm_) = (0, (ze N103_ 81 4).toNat, nm2) ∧ zRNm nm2 F_ K_ b_ n_ N103_) ∧ ze Mz 81 4 < ze N103_ 81 4)) from Or.inl (⟨(show 1 ≤ ze N103_ 81 7 by first | (exact hp0_N103_) | exact hrt_ | exact hrt2_ | exact hrt3_), (show zls b_ n_ F_ K_ (0, (ze Mz 81 4).toNat, nm_) = zLf by first | (exact hrt_) | exact hrt_ | exact hrt2_ | exact hrt3_)⟩))⟩ (zdal_p dlC_M_letLine_87 (i := 13) rfl)
              · skip
                exact absurd hc_53 (by decide)
          · skip
            exact absurd hc_34 (by decide)
      · skip
        exact absurd hc_23 (by decide)
def zTrG (b : Nat → Int) (n s : Nat) (mv : List Nat) (T : zGT) : Prop := ∃ P q q2 q3 : Nat, ∃ nm : List (Int × (Nat → Int)), zHd b n s P q ∧ zRg (zbs b n P) (0, q, []) (1, q2, mv) ∧ T ∈ gTabs ∧ zTm mv T ∧ zRg (zls b n (gF T).length (gmkI T)) (0, q2, []) (1, q3, nm)
def zTrB (b : Nat → Int) (n s : Nat) : Prop := (¬ ∃ P q, zHd b n s P q) ∨ (∃ P q, zHd b n s P q ∧ zRg (zbs b n P) (0, q, []) zMf) ∨ ∃ P q q2 : Nat, ∃ mv : List Nat, ∃ T : zGT, zHd b n s P q ∧ zRg (zbs b n P) (0, q, []) (1, q2, mv) ∧ T ∈ gTabs ∧ zTm mv T ∧ zRg (zls b n (gF T).length (gmkI T)) (0, q2, []) zLf
theorem zHd_u {b : Nat → Int} {n s P q P' q' : Nat} (h : zHd b n s P q) (h' : zHd b n s P' q') : P = P' ∧ q = q' := by
  obtain ⟨a1, ⟨a2, a3, a4, a5⟩, a6, a7⟩ := h
  obtain ⟨b1, ⟨b2, b3, b4, b5⟩, b6, b7⟩ := h'
  exact ⟨by omega, by omega⟩
theorem zTrG_m {b : Nat → Int} {n s P q q2 q2' : Nat} {mv mv' : List Nat} (h : zRg (zbs b n P) (0, q, []) (1, q2, mv)) (h' : zRg (zbs b n P) (0, q, []) (1, q2', mv')) : q2 = q2' ∧ mv = mv' := by
  have e := zRg.end h h' zbs_1 zbs_1
  exact ⟨congrArg (fun t : zMst => t.2.1) e, congrArg (fun t : zMst => t.2.2) e⟩
theorem zTrG_u {b : Nat → Int} {n s : Nat} {mv mv' : List Nat} {T T' : zGT} (h : zTrG b n s mv T) (h' : zTrG b n s mv' T') : T = T' := by
  obtain ⟨P, q, q2, q3, nm, a1, a2, a3, a4, a5⟩ := h
  obtain ⟨P', q', q2', q3', nm', b1, b2, b3, b4, b5⟩ := h'
  obtain ⟨rfl, rfl⟩ := zHd_u a1 b1
  obtain ⟨rfl, rfl⟩ := zTrG_m (s := s) a2 b2
  exact zTm_uq a4 b4
theorem zTrG_b {b : Nat → Int} {n s : Nat} {mv : List Nat} {T : zGT} (h : zTrG b n s mv T) : ¬ zTrB b n s := by
  obtain ⟨P, q, q2, q3, nm, a1, a2, a3, a4, a5⟩ := h
  rintro (h | ⟨P', q', b1, b2⟩ | ⟨P', q', q2', mv', T', b1, b2, b3, b4, b5⟩)
  · exact h ⟨P, q, a1⟩
  · obtain ⟨rfl, rfl⟩ := zHd_u a1 b1
    have e := zRg.end a2 b2 zbs_1 zbs_F
    have e1 : (1 : Nat) = 2 := congrArg (fun t : zMst => t.1) e
    omega
  · obtain ⟨rfl, rfl⟩ := zHd_u a1 b1
    obtain ⟨rfl, rfl⟩ := zTrG_m (s := s) a2 b2
    obtain rfl := zTm_uq a4 b4
    have e := zRg.end a5 b5 zls_1 zls_2
    have e1 : (1 : Nat) = 2 := congrArg (fun t : zLst => t.1) e
    omega
def zap (f : Nat → Int) (n v : Int) : Nat → Int := fun j => if n ≤ (j : Int) ∧ (j : Int) < n + 4 then zand (zshr v (24 - 8 * ((j : Int) - n))) 255 else f j
theorem zap_c {f g : Nat → Int} {n v : Int} (h : ∀ k : Nat, (k : Int) < n → f k = g k) : ∀ k : Nat, (k : Int) < n + 4 → zap f n v k = zap g n v k := fun k hk => by
  unfold zap
  by_cases c : n ≤ (k : Int) ∧ (k : Int) < n + 4
  · rw [if_pos c, if_pos c]
  · rw [if_neg c, if_neg c]
    exact h k (by omega)
def zApI (c : Nat) (n m v : Int) (M N : zMem) : Prop := ∀ j : Nat, ze N c j = if n ≤ (j : Int) ∧ (j : Int) < m then zand (zshr v (24 - 8 * ((j : Int) - n))) 255 else ze M c j
theorem zApI_0 {c : Nat} {n v : Int} {M : zMem} : zApI c n n v M M := fun j => by rw [if_neg (by omega)]
theorem zApI_s {c : Nat} {n m v w s : Int} {M N P Q : zMem} (h : zApI c n m v M N) (n0 : 0 ≤ n) (hm : n ≤ m) (hw : w = zand (zshr v s) 255) (hs : s = 24 - 8 * (m - n)) (hr : zn32 w) (hP : P = zsI N c m.toNat (Int32.ofInt w)) (hQ : ∀ j : Nat, ze Q c j = ze P c j) : zApI c n (m + 1) v M Q := fun j => by
  rw [hQ]
  by_cases g : (j : Int) = m
  · rw [show j = m.toNat by omega, zs_get hP hr, if_pos ⟨by omega, by omega⟩, hw, hs, Int.toNat_of_nonneg (by omega)]
  · rw [zs_oth hP (by omega), h j]
    by_cases c1 : n ≤ (j : Int) ∧ (j : Int) < m
    · rw [if_pos c1, if_pos ⟨c1.1, by omega⟩]
    · rw [if_neg c1, if_neg (by omega)]
theorem zApI_e {c : Nat} {n m v : Int} {M N : zMem} (h : zApI c n m v M N) (hm : m = n + 4) : ∀ j : Nat, ze N c j = zap (fun j => ze M c j) n v j := fun j => by
  rw [h j, hm]
  rfl
def zfd5 (f : Nat → Int) (n a b c d e : Int) : Nat → Int := zap (zap (zap (zap (zap f n a) (n + 4) b) (n + 8) c) (n + 12) d) (n + 16) e
theorem zfd5_c {f g : Nat → Int} {n a b c d e : Int} (h : ∀ k : Nat, (k : Int) < n → f k = g k) : ∀ k : Nat, (k : Int) < n + 20 → zfd5 f n a b c d e k = zfd5 g n a b c d e k := by
  have h1 := zap_c (v := a) h
  have h2 := zap_c (v := b) h1
  rw [show n + 4 + 4 = n + 8 by omega] at h2
  have h3 := zap_c (v := c) h2
  rw [show n + 8 + 4 = n + 12 by omega] at h3
  have h4 := zap_c (v := d) h3
  rw [show n + 12 + 4 = n + 16 by omega] at h4
  have h5 := zap_c (v := e) h4
  rw [show n + 16 + 4 = n + 20 by omega] at h5
  exact h5
def zBt (f : Nat → Int) (n : Int) : Prop := ∀ k : Nat, (k : Int) < n → 0 ≤ f k ∧ f k ≤ 255
theorem zand255 (x : Int) : 0 ≤ zand x 255 ∧ zand x 255 ≤ 255 := by
  have h1 : ((Int32.ofInt x &&& Int32.ofInt 255).toBitVec).toNat ≤ 255 := by
    rw [Int32.toBitVec_and, BitVec.toNat_and]
    exact Nat.le_trans Nat.and_le_right (by decide)
  have h2 : zand x 255 = (((Int32.ofInt x &&& Int32.ofInt 255).toBitVec).toNat : Int) := by
    show ((Int32.ofInt x &&& Int32.ofInt 255).toBitVec).toInt = _
    rw [BitVec.toInt_eq_toNat_of_lt (by omega)]
  omega
theorem zap_b {f : Nat → Int} {n v : Int} (h : zBt f n) : zBt (zap f n v) (n + 4) := fun k hk => by
  unfold zap
  by_cases c : n ≤ (k : Int) ∧ (k : Int) < n + 4
  · rw [if_pos c]
    exact zand255 _
  · rw [if_neg c]
    exact h k (by omega)
theorem zfd5_b {f : Nat → Int} {n a b c d e : Int} (h : zBt f n) : zBt (zfd5 f n a b c d e) (n + 20) := by
  have h1 := zap_b (v := a) h
  have h2 := zap_b (v := b) h1
  have h3 := zap_b (v := c) h2
  have h4 := zap_b (v := d) h3
  have h5 := zap_b (v := e) h4
  rw [show n + 4 + 4 = n + 8 by omega] at h2 h3 h4 h5
  rw [show n + 8 + 4 = n + 12 by omega] at h3 h4 h5
  rw [show n + 12 + 4 = n + 16 by omega] at h4 h5
  rw [show n + 16 + 4 = n + 20 by omega] at h5
  exact h5
def zRp (b : Nat → Int) (n : Nat) (M : zMem) : Prop := ze M 81 1 = n ∧ n ≤ 700 ∧ zBy b n ∧ ∀ k, k < n → ze M 82 k = b k
def zCdR (P : Int) (mv : List Nat) (T : zGT) (M : zMem) : Prop := gTb mv (fun i => zrc M 85 i P) T
theorem zCdR.fr {P : Int} {mv : List Nat} {T : zGT} {S C : List Nat} {M N : zMem} (hf : zFr S C M N) (h : zCdR P mv T M) (_ : True) (hc : 85 ∉ C) : zCdR P mv T N := by
  unfold zCdR at h ⊢
  have e : (fun i => zrc N 85 i P) = (fun i => zrc M 85 i P) := funext fun i => zrc_f (fun k => hf.ie (by decide) hc k) i P
  rw [e]
  exact h
theorem zCdR.p {P Q : Int} {mv : List Nat} {T : zGT} {M : zMem} (h : zCdR P mv T M) (e : Q = P) : zCdR Q mv T M := by
  rw [e]
  exact h
def zcn (f : Nat → Int) (i : Int) : Nat → Int
  | 0 => 0
  | k + 1 => zcn f i k + (if f k = i then 1 else 0)
theorem zcn_b (f : Nat → Int) (i : Int) : ∀ k : Nat, 0 ≤ zcn f i k ∧ zcn f i k ≤ k
  | 0 => ⟨Int.le_refl _, Int.le_refl _⟩
  | k + 1 => by
    have ih := zcn_b f i k
    show 0 ≤ zcn f i k + (if f k = i then 1 else 0) ∧ zcn f i k + (if f k = i then 1 else 0) ≤ ((k + 1 : Nat) : Int)
    split <;> omega
theorem zcn_c {f g : Nat → Int} {i : Int} : ∀ k : Nat, (∀ s, s < k → g s = f s) → zcn g i k = zcn f i k
  | 0, _ => rfl
  | k + 1, h => by
    show zcn g i k + (if g k = i then 1 else 0) = zcn f i k + (if f k = i then 1 else 0)
    rw [zcn_c k (fun s hs => h s (by omega)), h k (by omega)]
def zSoF (M : zMem) (F k : Int) : Prop := ∀ i : Nat, (i : Int) < F → ze M 92 i = zcn (fun s => ze M 90 s) i k.toNat
theorem zSoF_0 {M : zMem} {F : Int} (h : ∀ i : Nat, (i : Int) < F → ze M 92 i = 0) : zSoF M F 0 := fun i hi => h i hi
theorem zSoF_s {M N P : zMem} {F k w x o v : Int} (h : zSoF M F k) (k0 : 0 ≤ k) (k1 : k ≤ 1000) (hN : N = zsI M 90 k.toNat (Int32.ofInt w)) (w0 : 0 ≤ w) (w1 : w < F) (w2 : w ≤ 1000) (h92 : ∀ j, ze N 92 j = ze M 92 j) (hx : x = ze N 90 k.toNat) (ho : o = ze N 92 x.toNat) (hP : P = zsI N 92 x.toNat (Int32.ofInt v)) (h90 : ∀ j, ze P 90 j = ze N 90 j) (hv : v = o + 1) : zSoF P F (k + 1) := fun i hi => by
  have hxw : x = w := hx.trans (zs_get hN ⟨by omega, by omega⟩)
  rw [show (k + 1).toNat = k.toNat + 1 by omega]
  have e1 : zcn (fun s => ze P 90 s) i k.toNat = zcn (fun s => ze M 90 s) i k.toNat := zcn_c _ (fun s hs => (h90 s).trans (zs_oth hN (by omega)))
  have e2 : ze P 90 k.toNat = w := (h90 _).trans (hx.symm.trans hxw)
  show ze P 92 i = zcn (fun s => ze P 90 s) i k.toNat + (if ze P 90 k.toNat = i then 1 else 0)
  rw [e1, e2, ← h i hi]
  have hb := zcn_b (fun s => ze M 90 s) w k.toNat
  have hw := h w.toNat (by omega)
  rw [show ((w.toNat : Nat) : Int) = w by omega] at hw
  have ho2 : o = ze M 92 w.toNat := by rw [ho, hxw, h92]
  by_cases g : i = w.toNat
  · rw [if_pos (by omega), g]
    have h3 := zs_get (i := x.toNat) hP ⟨by omega, by omega⟩
    rw [hxw] at h3
    omega
  · rw [if_neg (by omega), zs_oth hP (by omega), h92, Int.add_zero]
def zSoM (T : zGT) (M : zMem) : Prop := zSoF M ((gF T).length : Int) (ze M 81 25)
theorem zSoM.fr {T : zGT} {S C : List Nat} {M N : zMem} (hf : zFr S C M N) (h : zSoM T M) (hs : 25 ∉ S) (hc : 90 ∉ C ∧ 92 ∉ C) : zSoM T N := fun i hi => by
  rw [hf.ie (by decide) hc.2, hf.e hs]
  have e : (fun s => ze N 90 s) = (fun s => ze M 90 s) := funext fun s => hf.ie (by decide) hc.1 s
  rw [e]
  exact h i hi
def zCdS (P : Int) (mv : List Nat) (T : zGT) (M : zMem) : Prop := zCdR P mv T M ∧ zSoM T M
theorem zCdS.fr {P : Int} {mv : List Nat} {T : zGT} {S C : List Nat} {M N : zMem} (hf : zFr S C M N) (h : zCdS P mv T M) (hs : 25 ∉ S) (hc : 85 ∉ C ∧ 90 ∉ C ∧ 92 ∉ C) : zCdS P mv T N := ⟨zCdR.fr hf h.1 trivial hc.1, zSoM.fr hf h.2 hs hc.2⟩
theorem zCdS.p {P Q : Int} {mv : List Nat} {T : zGT} {M : zMem} (h : zCdS P mv T M) (e : Q = P) : zCdS Q mv T M := ⟨h.1.p e, h.2⟩
section ZRP
variable {b : Nat → Int} {n : Nat} {M N : zMem} {S C : List Nat}
theorem zRp.fr (hf : zFr S C M N) (h : zRp b n M) (hs : 1 ∉ S) (hc : 82 ∉ C) : zRp b n N :=
  ⟨(hf.e hs).trans h.1, h.2.1, h.2.2.1, fun k hk => (hf.ie (by decide) hc k).trans (h.2.2.2 k hk)⟩
theorem zTb_g {M0 : zMem} (hp : zPm M0) (hF : zFin M0) (hg : zGr M0 N) {a : Int} (hs : zSt M0 N a) (ha : ze N 81 20 ≤ a) : ∃ T : zGT, zTb M0 N T ∧ zCdR (ze M0 81 12) (zMvs M0) T N := by
  obtain ⟨T, hT, hn⟩ := gTb_i (mv := zMvs M0) (c := fun i => zrc N 85 i (ze M0 81 12)) (n := (ze N 81 20).toNat) hp hF (fun x => (hg.2.1 x).trans ⟨fun ⟨i, h1, h2⟩ => ⟨i, by omega, h2⟩, fun ⟨i, h1, h2⟩ => ⟨i, by omega, h2⟩⟩) (fun i j h1 h2 => hs i j (by omega) h1 (by omega))
  have h20 := hg.1
  exact ⟨T, ⟨hT.1, by omega, hT.2.2.2.1, hT.2.2.2.2, hT.2.2.1⟩, hT⟩
theorem zGB.rm {T : zGT} (h : zGB T M) : zRmk (gF T).length (gmkI T) M :=
  ⟨h.2.2.2.1.1, fun i j hi hj => h.2.2.2.2.2.2 i j (Or.inl (by omega)) hi hj⟩
end ZRP
set_option maxHeartbeats 40000000 in
theorem c_M_moveLineF (l : Launch) (Mz : zMem) (hW : zMt Mz) (b_ : Nat → Int) (n_ : Nat) (p0_ : zRb b_ n_ Mz) (p1_ : zRt b_ n_ Mz) (p2_ : ze Mz 81 7 = 0) (p3_ : zkd b_ n_ (ze Mz 81 4).toNat = 1) (p4_ : zkey b_ n_ (ze Mz 81 4).toNat = zkw 1) (p5_ : 1 ≤ ze Mz 81 12) (p6_ : ze Mz 81 12 ≤ 6) (p7_ : 0 ≤ ze Mz 81 13) (p8_ : ze Mz 81 13 ≤ 4) (p9_ : zPm Mz) (p10_ : zB 83 24 0 5 Mz) (p11_ : zB 85 144 0 5 Mz) : zC l m_M_moveLine 0 0 [.ref 81] Mz (zpV [3, 4, 5, 6, 7, 8, 11, 13, 20] [83, 85, 86, 87, 88] Mz (fun N => zRt b_ n_ N ∧ 0 ≤ ze N 81 13 ∧ ze N 81 13 ≤ 4 ∧ zB 83 24 0 5 N ∧ zB 85 144 0 5 N ∧ (((1 ≤ ze N 81 7 ∧ zbs b_ n_ (ze Mz 81 12).toNat (0, (ze Mz 81 4).toNat, zMvs Mz) = zMf) ∨ (ze N 81 7 = 0 ∧ zbs b_ n_ (ze Mz 81 12).toNat (0, (ze Mz 81 4).toNat, zMvs Mz) = (0, (ze N 81 4).toNat, zMvs N) ∧ zPm N ∧ zFin N ∧ ze Mz 81 4 < ze N 81 4))))) := by
  refine zC_of (L0 := [some (.ref 81), none, none, none, none]) md_M_moveLine (Nat.le_of_ble_eq_true rfl) rfl ?_ zQ0
  have hf : zFr [3, 4, 5, 6, 7, 8, 11, 13, 20] [83, 85, 86, 87, 88] Mz Mz := zFr.rf
  have r_3 := ze_r Mz 81 3
  have r_4 := ze_r Mz 81 4
  have r_5 := ze_r Mz 81 5
  have r_6 := ze_r Mz 81 6
  have r_7 := ze_r Mz 81 7
  have r_12 := ze_r Mz 81 12
  have r_13 := ze_r Mz 81 13
  have r_20 := ze_r Mz 81 20
  have hl0_ := And.intro p3_ p4_
  have hml_ := zMvs_l Mz
  refine zw_aload_n (pc := 0) (n := 0) (x := 81) rfl (zdal_p dlC_M_moveLine_82 (i := 0) rfl) ?_
  refine zr_getI (hf.w hW) (pc := 1) f_M_145 rfl (zdal_p dlC_M_moveLine_82 (i := 1) rfl) ?_
  refine zw_istore_n (pc := 4) (i := 1) (L2 := [some (.ref 81), some (.int (Int32.ofInt (ze Mz 81 4))), none, none, none]) rfl (by decide) rfl (zdal_p dlC_M_moveLine_82 (i := 2) rfl) ?_
  refine zw_aload_n (pc := 5) (n := 0) (x := 81) rfl (zdal_p dlC_M_moveLine_82 (i := 3) rfl) ?_
  refine zr_getI (hf.w hW) (pc := 6) f_M_199 rfl (zdal_p dlC_M_moveLine_82 (i := 4) rfl) ?_
  refine zw_iconst (pc := 9) (v := Int32.ofInt 4) (by decide) (zdal_p dlC_M_moveLine_82 (i := 5) rfl) ?_
  refine zr_icmp_ne (pc := 10) (tgt := 18) ⟨(ze_r Mz 81 13).1, (ze_r Mz 81 13).2⟩ ⟨(by decide), (by decide)⟩ (by decide) (zdal_p dlC_M_moveLine_82 (i := 6) rfl) (fun hc_10 => ?_) (fun hc_10 => ?_)
  · skip
    refine zw_aload_n (pc := 18) (n := 0) (x := 81) rfl (zdal_p dlC_M_moveLine_82 (i := 10) rfl) ?_
    refine zr_callV (hf.w hW) hf.x (pc := 19) [] [] l_M_183 (c_M_isGood l Mz (hf.w hW) ) rfl rfl rfl (by decide) (Nat.le_of_ble_eq_true rfl) (zdal_p dlC_M_moveLine_82 (i := 11) rfl) ?_
    rintro _ N1_ ⟨v2_, rfl, ⟨hv2_a, hv2_b⟩, hsN1_, hp0_N1_⟩
    obtain rfl := hsN1_.eq.symm
    replace hp0_N1_ : ((v2_ = 1 ∧ ze Mz 81 7 = 0) ∨ (v2_ = 0 ∧ ze Mz 81 7 ≠ 0)) := hp0_N1_
    rcases hp0_N1_ with ⟨rfl, ha19_0_hp0_N1_⟩ | ⟨rfl, ha19_0_hp0_N1_⟩
    · skip
      show zW l m_M_moveLine (zn Mz + 0, zw Mz + 0) Mz 22 [some (.ref 81), some (.int (Int32.ofInt (ze Mz 81 4))), none, none, none] [.int (Int32.ofInt 1)] _
      refine zr_if_eq (pc := 22) (tgt := 29) ⟨(by decide), (by decide)⟩ (by decide) (zdal_p dlC_M_moveLine_82 (i := 12) rfl) (fun hc_22 => ?_) (fun hc_22 => ?_)
      · skip
        exact absurd hc_22 (by decide)
      · skip
        have hyt_ := p1_
        have hyx_ := hyt_.x
        refine zw_aload_n (pc := 25) (n := 0) (x := 81) rfl (zdal_p dlC_M_moveLine_82 (i := 13) rfl) ?_
        refine zr_callV (hf.w hW) hf.x (pc := 26) [] [] l_M_193 (c_M_goOnF l Mz (hf.w hW) b_ n_ p0_ (show 0 ≤ ze Mz 81 3 by first | assumption | (exact zo_57 hyx_.2.1)) (show ze Mz 81 3 ≤ n_ by first | assumption | (exact zo_277 hyx_.2.2 r_3.2))) rfl rfl rfl (by decide) (Nat.le_of_ble_eq_true rfl) (zdal_p dlC_M_moveLine_82 (i := 14) rfl) ?_
        rintro _ N3_ ⟨rfl, hsN3_, ⟨hp0_N3_, hp1_N3_⟩⟩
        have hf_N3_ : zFr [3, 4, 5, 6, 7, 8, 11, 13, 20] [83, 85, 86, 87, 88] Mz N3_ := hf.tr hsN3_ (by decide) (by decide)
        have r3_N3_ := ze_r N3_ 81 3
        have r4_N3_ := ze_r N3_ 81 4
        have r5_N3_ := ze_r N3_ 81 5
        have r6_N3_ := ze_r N3_ 81 6
        have e7_N3_ : ze N3_ 81 7 = ze Mz 81 7 := hsN3_.e (by decide)
        have e12_N3_ : ze N3_ 81 12 = ze Mz 81 12 := hsN3_.e (by decide)
        have e13_N3_ : ze N3_ 81 13 = ze Mz 81 13 := hsN3_.e (by decide)
        have e20_N3_ : ze N3_ 81 20 = ze Mz 81 20 := hsN3_.e (by decide)
        have c5_ : zRb b_ n_ N3_ := zRb.fr hsN3_ p0_ (by decide) (by decide)
        have c6_ : zPm N3_ := zPm.fr hsN3_ p9_ (by decide) (by decide)
        have c7_ : zB 83 24 0 5 N3_ := zB.fr hsN3_ p10_ (by decide) (by decide)
        have c8_ : zB 85 144 0 5 N3_ := zB.fr hsN3_ p11_ (by decide) (by decide)
        show zW l m_M_moveLine (zn Mz + 0, zw Mz + 0) N3_ 29 [some (.ref 81), some (.int (Int32.ofInt (ze Mz 81 4))), none, none, none] [] _
        have hnn_ := hyt_.nx hp0_N3_
        have hx1_ := hnn_.2
        have hg1_ := znx_g (b := b_) (n := n_) (s := (ze Mz 81 4).toNat) (by omega)
        have hml0_ : zMrI b_ n_ (ze Mz 81 12).toNat (znx b_ n_ (ze Mz 81 4).toNat) (ze Mz 81 13) N3_ 0 0 := zMrI_0 hx1_
        have hkp0_ : zKp Mz N3_ (6 * ze Mz 81 13) := zKp_0 hsN3_ (by decide)
        refine zw_iconst (pc := 29) (v := Int32.ofInt 0) (by decide) (zdal_p dlC_M_moveLine_82 (i := 15) rfl) ?_
        refine zw_istore_n (pc := 30) (i := 2) (L2 := [some (.ref 81), some (.int (Int32.ofInt (ze Mz 81 4))), some (.int (Int32.ofInt 0)), none, none]) rfl (by decide) rfl (zdal_p dlC_M_moveLine_82 (i := 16) rfl) ?_
        refine zw_iconst (pc := 31) (v := Int32.ofInt 0) (by decide) (zdal_p dlC_M_moveLine_82 (i := 17) rfl) ?_
        refine zw_istore_n (pc := 32) (i := 3) (L2 := [some (.ref 81), some (.int (Int32.ofInt (ze Mz 81 4))), some (.int (Int32.ofInt 0)), some (.int (Int32.ofInt 0)), none]) rfl (by decide) rfl (zdal_p dlC_M_moveLine_82 (i := 18) rfl) ?_
        have lp_33 : ∀ (n : Nat) (u9_ : Int) (hu9_a : -2147483648 ≤ u9_) (hu9_b : u9_ < 2147483648) (u10_ : Int) (hu10_a : -2147483648 ≤ u10_) (hu10_b : u10_ < 2147483648) (N11_ : zMem) (hs12_ : zFr [3, 4, 5, 6, 7, 8, 11] [83] N3_ N11_) (i13_ : zRt b_ n_ N11_) (i14_ : 0 ≤ u10_) (i15_ : u10_ ≤ ze Mz 81 12) (i16_ : (1 ≤ ze N11_ 81 7 ∧ zbs b_ n_ (ze Mz 81 12).toNat (0, (ze Mz 81 4).toNat, zMvs Mz) = zMf) ∨ (ze N11_ 81 7 = 0 ∧ ze Mz 81 13 ≤ 3 ∧ zMrI b_ n_ (ze Mz 81 12).toNat (znx b_ n_ (ze Mz 81 4).toNat) (ze Mz 81 13) N11_ u10_ u9_ ∧ zKp Mz N11_ (6 * ze Mz 81 13) ∧ ze Mz 81 4 < ze N11_ 81 4)) (i17_ : zB 83 24 0 5 N11_), (ze Mz 81 12 - u10_).toNat < n → zW l m_M_moveLine (zn Mz + 0, zw Mz + 0) N11_ 33 [some (.ref 81), some (.int (Int32.ofInt (ze Mz 81 4))), some (.int (Int32.ofInt u9_)), some (.int (Int32.ofInt u10_)), none] [] (zpV [3, 4, 5, 6, 7, 8, 11, 13, 20] [83, 85, 86, 87, 88] Mz (fun N => zRt b_ n_ N ∧ 0 ≤ ze N 81 13 ∧ ze N 81 13 ≤ 4 ∧ zB 83 24 0 5 N ∧ zB 85 144 0 5 N ∧ (((1 ≤ ze N 81 7 ∧ zbs b_ n_ (ze Mz 81 12).toNat (0, (ze Mz 81 4).toNat, zMvs Mz) = zMf) ∨ (ze N 81 7 = 0 ∧ zbs b_ n_ (ze Mz 81 12).toNat (0, (ze Mz 81 4).toNat, zMvs Mz) = (0, (ze N 81 4).toNat, zMvs N) ∧ zPm N ∧ zFin N ∧ ze Mz 81 4 < ze N 81 4))))) := by
          clear hv2_a hv2_b
          intro n
          induction n with
          | zero =>
            intro u9_ hu9_a hu9_b u10_ hu10_a hu10_b N11_ hs12_ i13_ i14_ i15_ i16_ i17_ h0
            exact absurd h0 (Nat.not_lt_zero _)
          | succ n ih_33 =>
            intro u9_ hu9_a hu9_b u10_ hu10_a hu10_b N11_ hs12_ i13_ i14_ i15_ i16_ i17_ hlt_33
            have hf_N11_ : zFr [3, 4, 5, 6, 7, 8, 11, 13, 20] [83, 85, 86, 87, 88] Mz N11_ := hf_N3_.tr hs12_ (by decide) (by decide)
            have r3_N11_ := ze_r N11_ 81 3
            have r4_N11_ := ze_r N11_ 81 4
            have r5_N11_ := ze_r N11_ 81 5
            have r6_N11_ := ze_r N11_ 81 6
            have r7_N11_ := ze_r N11_ 81 7
            have e12_N11_ : ze N11_ 81 12 = ze N3_ 81 12 := hs12_.e (by decide)
            have e13_N11_ : ze N11_ 81 13 = ze N3_ 81 13 := hs12_.e (by decide)
            have e20_N11_ : ze N11_ 81 20 = ze N3_ 81 20 := hs12_.e (by decide)
            have c18_ : zRb b_ n_ N11_ := zRb.fr hs12_ c5_ (by decide) (by decide)
            have c19_ : zB 85 144 0 5 N11_ := zB.fr hs12_ c8_ (by decide) (by decide)
            have zz12_N11_ : ze N11_ 81 12 = ze Mz 81 12 := hf_N11_.e (by decide)
            rcases i16_ with ⟨hl33_0_i16_, hl33_1_i16_⟩ | ⟨hl33_0_i16_, hl33_1_i16_, hl33_2_i16_, hl33_3_i16_, hl33_4_i16_⟩
            · skip
              refine zw_iload_n (pc := 33) (n := 3) (x := Int32.ofInt u10_) rfl (zdal_p dlC_M_moveLine_82 (i := 19) rfl) ?_
              refine zw_aload_n (pc := 34) (n := 0) (x := 81) rfl (zdal_p dlC_M_moveLine_82 (i := 20) rfl) ?_
              refine zr_getI0 hf_N11_ hW (pc := 35) (by decide) f_M_115 rfl (zdal_p dlC_M_moveLine_82 (i := 21) rfl) ?_
              refine zr_icmp_ge (pc := 38) (tgt := 138) ⟨hu10_a, hu10_b⟩ ⟨(ze_r Mz 81 12).1, (ze_r Mz 81 12).2⟩ (by decide) (zdal_p dlC_M_moveLine_82 (i := 22) rfl) (fun hc_38 => ?_) (fun hc_38 => ?_)
              · skip
                refine zw_aload_n (pc := 138) (n := 0) (x := 81) rfl d_M_moveLine_138 ?_
                refine zw_bipush (pc := 139) (v := Int32.ofInt 59) (by decide) d_M_moveLine_139 ?_
                refine zr_callV (hf_N11_.w hW) hf_N11_.x (pc := 141) [.int (Int32.ofInt 59)] [] l_M_355 (c_M_mustF l N11_ (hf_N11_.w hW) 59 (by decide) (by decide) b_ n_ c18_ i13_ (show 0 ≤ ze N11_ 81 7 by first | assumption | (exact zo_564 hl33_0_i16_))) rfl rfl rfl (by decide) (Nat.le_of_ble_eq_true rfl) d_M_moveLine_141 ?_
                rintro _ N20_ ⟨rfl, hsN20_, ⟨hp0_N20_, hp1_N20_⟩⟩
                have hf_N20_ : zFr [3, 4, 5, 6, 7, 8, 11, 13, 20] [83, 85, 86, 87, 88] Mz N20_ := hf_N11_.tr hsN20_ (by decide) (by decide)
                have r3_N20_ := ze_r N20_ 81 3
                have r4_N20_ := ze_r N20_ 81 4
                have r5_N20_ := ze_r N20_ 81 5
                have r6_N20_ := ze_r N20_ 81 6
                have r7_N20_ := ze_r N20_ 81 7
                have e12_N20_ : ze N20_ 81 12 = ze N11_ 81 12 := hsN20_.e (by decide)
                have e13_N20_ : ze N20_ 81 13 = ze N11_ 81 13 := hsN20_.e (by decide)
                have e20_N20_ : ze N20_ 81 20 = ze N11_ 81 20 := hsN20_.e (by decide)
                have c22_ : zRb b_ n_ N20_ := zRb.fr hsN20_ c18_ (by decide) (by decide)
                have c23_ : zB 85 144 0 5 N20_ := zB.fr hsN20_ c19_ (by decide) (by decide)
                have c24_ : zB 83 24 0 5 N20_ := zB.fr hsN20_ i17_ (by decide) (by decide)
                rcases hp1_N20_ with ⟨ha141_0_hp1_N20_, ha141_1_hp1_N20_⟩ | ⟨ha141_0_hp1_N20_, ha141_1_hp1_N20_, ha141_2_hp1_N20_, ha141_3_hp1_N20_⟩
                · skip
                  have hrt2_ : zbs b_ n_ (ze Mz 81 12).toNat (0, (ze Mz 81 4).toNat, zMvs Mz) = zMf := by first | assumption | exact hrt_ | (obtain ⟨l_, hl1_, -⟩ := zMrI_e hmi_ (by omega); exact zbs_f hl0_ hl1_ (fun q_ => ha141_1_hp1_N20_ (by omega) q_.1))
                  show zW l m_M_moveLine (zn Mz + 0, zw Mz + 0) N20_ 144 [some (.ref 81), some (.int (Int32.ofInt (ze Mz 81 4))), some (.int (Int32.ofInt u9_)), some (.int (Int32.ofInt u10_)), none] [] _
                  refine zw_aload_n (pc := 144) (n := 0) (x := 81) rfl d_M_moveLine_144 ?_
                  refine zr_getI (hf_N20_.w hW) (pc := 145) f_M_172 rfl d_M_moveLine_145 ?_
                  refine zr_if_le (pc := 148) (tgt := 152) ⟨(ze_r N20_ 81 7).1, (ze_r N20_ 81 7).2⟩ (by decide) d_M_moveLine_148 (fun hc_148 => ?_) (fun hc_148 => ?_)
                  · skip
                    exfalso; (exact zo_61 ha141_0_hp1_N20_ hc_148)
                  · skip
                    exact zr_vret (pc := 151) rfl hf_N20_ ⟨hp0_N20_, (show 0 ≤ ze N20_ 81 13 by first | assumption | (exact zo_1334 e13_N11_ e13_N20_ e13_N3_ p7_)), (show ze N20_ 81 13 ≤ 4 by first | assumption | (exact zo_1335 e13_N11_ e13_N20_ e13_N3_ p8_)), c24_, c23_, (show ((1 ≤ ze N20_ 81 7 ∧ zbs b_ n_ (ze Mz 81 12).toNat (0, (ze Mz 81 4).toNat, zMvs Mz) = zMf) ∨ (ze N20_ 81 7 = 0 ∧ zbs b_ n_ (ze Mz 81 12).toNat (0, (ze Mz 81 4).toNat, zMvs Mz) = (0, (ze N20_ 81 4).toNat, zMvs N20_) ∧ zPm N20_ ∧ zFin N20_ ∧ ze Mz 81 4 < ze N20_ 81 4)) from Or.inl (⟨(show 1 ≤ ze N20_ 81 7 by first | assumption | omega | exact hrt_ | exact hrt2_), (show zbs b_ n_ (ze Mz 81 12).toNat (0, (ze Mz 81 4).toNat, zMvs Mz) = zMf by first | assumption | omega | exact hrt_ | exact hrt2_)⟩))⟩ d_M_moveLine_151
                · skip
                  exfalso; (exact zo_281 ha141_1_hp1_N20_ hl33_0_i16_)
              · skip
                refine zw_aload_n (pc := 41) (n := 0) (x := 81) rfl (zdal_p dlC_M_moveLine_82 (i := 23) rfl) ?_
                refine zr_callV (hf_N11_.w hW) hf_N11_.x (pc := 42) [] [] l_M_183 (c_M_isGood l N11_ (hf_N11_.w hW) ) rfl rfl rfl (by decide) (Nat.le_of_ble_eq_true rfl) (zdal_p dlC_M_moveLine_83 (i := 0) rfl) ?_
                rintro _ N25_ ⟨v26_, rfl, ⟨hv26_a, hv26_b⟩, hsN25_, hp0_N25_⟩
                obtain rfl := hsN25_.eq.symm
                replace hp0_N25_ : ((v26_ = 1 ∧ ze N11_ 81 7 = 0) ∨ (v26_ = 0 ∧ ze N11_ 81 7 ≠ 0)) := hp0_N25_
                rcases hp0_N25_ with ⟨rfl, ha42_0_hp0_N25_⟩ | ⟨rfl, ha42_0_hp0_N25_⟩
                · skip
                  exfalso; (exact zo_281 ha42_0_hp0_N25_ hl33_0_i16_)
                · skip
                  show zW l m_M_moveLine (zn Mz + 0, zw Mz + 0) N11_ 45 [some (.ref 81), some (.int (Int32.ofInt (ze Mz 81 4))), some (.int (Int32.ofInt u9_)), some (.int (Int32.ofInt u10_)), none] [.int (Int32.ofInt 0)] _
                  refine zr_if_eq (pc := 45) (tgt := 138) ⟨(by decide), (by decide)⟩ (by decide) (zdal_p dlC_M_moveLine_83 (i := 1) rfl) (fun hc_45 => ?_) (fun hc_45 => ?_)
                  · skip
                    refine zw_aload_n (pc := 138) (n := 0) (x := 81) rfl d_M_moveLine_138 ?_
                    refine zw_bipush (pc := 139) (v := Int32.ofInt 59) (by decide) d_M_moveLine_139 ?_
                    refine zr_callV (hf_N11_.w hW) hf_N11_.x (pc := 141) [.int (Int32.ofInt 59)] [] l_M_355 (c_M_mustF l N11_ (hf_N11_.w hW) 59 (by decide) (by decide) b_ n_ c18_ i13_ (show 0 ≤ ze N11_ 81 7 by first | assumption | (exact zo_564 hl33_0_i16_))) rfl rfl rfl (by decide) (Nat.le_of_ble_eq_true rfl) d_M_moveLine_141 ?_
                    rintro _ N27_ ⟨rfl, hsN27_, ⟨hp0_N27_, hp1_N27_⟩⟩
                    have hf_N27_ : zFr [3, 4, 5, 6, 7, 8, 11, 13, 20] [83, 85, 86, 87, 88] Mz N27_ := hf_N11_.tr hsN27_ (by decide) (by decide)
                    have r3_N27_ := ze_r N27_ 81 3
                    have r4_N27_ := ze_r N27_ 81 4
                    have r5_N27_ := ze_r N27_ 81 5
                    have r6_N27_ := ze_r N27_ 81 6
                    have r7_N27_ := ze_r N27_ 81 7
                    have e12_N27_ : ze N27_ 81 12 = ze N11_ 81 12 := hsN27_.e (by decide)
                    have e13_N27_ : ze N27_ 81 13 = ze N11_ 81 13 := hsN27_.e (by decide)
                    have e20_N27_ : ze N27_ 81 20 = ze N11_ 81 20 := hsN27_.e (by decide)
                    have c29_ : zRb b_ n_ N27_ := zRb.fr hsN27_ c18_ (by decide) (by decide)
                    have c30_ : zB 85 144 0 5 N27_ := zB.fr hsN27_ c19_ (by decide) (by decide)
                    have c31_ : zB 83 24 0 5 N27_ := zB.fr hsN27_ i17_ (by decide) (by decide)
                    rcases hp1_N27_ with ⟨ha141_0_hp1_N27_, ha141_1_hp1_N27_⟩ | ⟨ha141_0_hp1_N27_, ha141_1_hp1_N27_, ha141_2_hp1_N27_, ha141_3_hp1_N27_⟩
                    · skip
                      have hrt2_ : zbs b_ n_ (ze Mz 81 12).toNat (0, (ze Mz 81 4).toNat, zMvs Mz) = zMf := by first | assumption | exact hrt_ | (obtain ⟨l_, hl1_, -⟩ := zMrI_e hmi_ (by omega); exact zbs_f hl0_ hl1_ (fun q_ => ha141_1_hp1_N27_ (by omega) q_.1))
                      show zW l m_M_moveLine (zn Mz + 0, zw Mz + 0) N27_ 144 [some (.ref 81), some (.int (Int32.ofInt (ze Mz 81 4))), some (.int (Int32.ofInt u9_)), some (.int (Int32.ofInt u10_)), none] [] _
                      refine zw_aload_n (pc := 144) (n := 0) (x := 81) rfl d_M_moveLine_144 ?_
                      refine zr_getI (hf_N27_.w hW) (pc := 145) f_M_172 rfl d_M_moveLine_145 ?_
                      refine zr_if_le (pc := 148) (tgt := 152) ⟨(ze_r N27_ 81 7).1, (ze_r N27_ 81 7).2⟩ (by decide) d_M_moveLine_148 (fun hc_148 => ?_) (fun hc_148 => ?_)
                      · skip
                        exfalso; (exact zo_61 ha141_0_hp1_N27_ hc_148)
                      · skip
                        exact zr_vret (pc := 151) rfl hf_N27_ ⟨hp0_N27_, (show 0 ≤ ze N27_ 81 13 by first | assumption | (exact zo_1334 e13_N11_ e13_N27_ e13_N3_ p7_)), (show ze N27_ 81 13 ≤ 4 by first | assumption | (exact zo_1335 e13_N11_ e13_N27_ e13_N3_ p8_)), c31_, c30_, (show ((1 ≤ ze N27_ 81 7 ∧ zbs b_ n_ (ze Mz 81 12).toNat (0, (ze Mz 81 4).toNat, zMvs Mz) = zMf) ∨ (ze N27_ 81 7 = 0 ∧ zbs b_ n_ (ze Mz 81 12).toNat (0, (ze Mz 81 4).toNat, zMvs Mz) = (0, (ze N27_ 81 4).toNat, zMvs N27_) ∧ zPm N27_ ∧ zFin N27_ ∧ ze Mz 81 4 < ze N27_ 81 4)) from Or.inl (⟨(show 1 ≤ ze N27_ 81 7 by first | assumption | omega | exact hrt_ | exact hrt2_), (show zbs b_ n_ (ze Mz 81 12).toNat (0, (ze Mz 81 4).toNat, zMvs Mz) = zMf by first | assumption | omega | exact hrt_ | exact hrt2_)⟩))⟩ d_M_moveLine_151
                    · skip
                      exfalso; (exact zo_281 ha141_1_hp1_N27_ hl33_0_i16_)
                  · skip
                    exact absurd hc_45 (by decide)
            · skip
              have hmi_ := hl33_2_i16_
              have hkp_ := hl33_3_i16_
              obtain ⟨lm_, -, -, -, hmt_, -⟩ := id hmi_
              have hme_ := hmt_.1
              refine zw_iload_n (pc := 33) (n := 3) (x := Int32.ofInt u10_) rfl (zdal_p dlC_M_moveLine_82 (i := 19) rfl) ?_
              refine zw_aload_n (pc := 34) (n := 0) (x := 81) rfl (zdal_p dlC_M_moveLine_82 (i := 20) rfl) ?_
              refine zr_getI0 hf_N11_ hW (pc := 35) (by decide) f_M_115 rfl (zdal_p dlC_M_moveLine_82 (i := 21) rfl) ?_
              refine zr_icmp_ge (pc := 38) (tgt := 138) ⟨hu10_a, hu10_b⟩ ⟨(ze_r Mz 81 12).1, (ze_r Mz 81 12).2⟩ (by decide) (zdal_p dlC_M_moveLine_82 (i := 22) rfl) (fun hc_38 => ?_) (fun hc_38 => ?_)
              · skip
                refine zw_aload_n (pc := 138) (n := 0) (x := 81) rfl d_M_moveLine_138 ?_
                refine zw_bipush (pc := 139) (v := Int32.ofInt 59) (by decide) d_M_moveLine_139 ?_
                refine zr_callV (hf_N11_.w hW) hf_N11_.x (pc := 141) [.int (Int32.ofInt 59)] [] l_M_355 (c_M_mustF l N11_ (hf_N11_.w hW) 59 (by decide) (by decide) b_ n_ c18_ i13_ (show 0 ≤ ze N11_ 81 7 by first | assumption | (exact zo_718 hl33_0_i16_))) rfl rfl rfl (by decide) (Nat.le_of_ble_eq_true rfl) d_M_moveLine_141 ?_
                rintro _ N32_ ⟨rfl, hsN32_, ⟨hp0_N32_, hp1_N32_⟩⟩
                have hf_N32_ : zFr [3, 4, 5, 6, 7, 8, 11, 13, 20] [83, 85, 86, 87, 88] Mz N32_ := hf_N11_.tr hsN32_ (by decide) (by decide)
                have r3_N32_ := ze_r N32_ 81 3
                have r4_N32_ := ze_r N32_ 81 4
                have r5_N32_ := ze_r N32_ 81 5
                have r6_N32_ := ze_r N32_ 81 6
                have r7_N32_ := ze_r N32_ 81 7
                have e12_N32_ : ze N32_ 81 12 = ze N11_ 81 12 := hsN32_.e (by decide)
                have e13_N32_ : ze N32_ 81 13 = ze N11_ 81 13 := hsN32_.e (by decide)
                have e20_N32_ : ze N32_ 81 20 = ze N11_ 81 20 := hsN32_.e (by decide)
                have c34_ : zRb b_ n_ N32_ := zRb.fr hsN32_ c18_ (by decide) (by decide)
                have c35_ : zB 85 144 0 5 N32_ := zB.fr hsN32_ c19_ (by decide) (by decide)
                have c36_ : zB 83 24 0 5 N32_ := zB.fr hsN32_ i17_ (by decide) (by decide)
                rcases hp1_N32_ with ⟨ha141_0_hp1_N32_, ha141_1_hp1_N32_⟩ | ⟨ha141_0_hp1_N32_, ha141_1_hp1_N32_, ha141_2_hp1_N32_, ha141_3_hp1_N32_⟩
                · skip
                  have hrt2_ : zbs b_ n_ (ze Mz 81 12).toNat (0, (ze Mz 81 4).toNat, zMvs Mz) = zMf := by first | assumption | exact hrt_ | (obtain ⟨l_, hl1_, -⟩ := zMrI_e hmi_ (by (exact zo_1336 hc_38 i15_ p5_)); exact zbs_f hl0_ hl1_ (fun q_ => ha141_1_hp1_N32_ (by (exact hl33_0_i16_)) q_.1))
                  show zW l m_M_moveLine (zn Mz + 0, zw Mz + 0) N32_ 144 [some (.ref 81), some (.int (Int32.ofInt (ze Mz 81 4))), some (.int (Int32.ofInt u9_)), some (.int (Int32.ofInt u10_)), none] [] _
                  refine zw_aload_n (pc := 144) (n := 0) (x := 81) rfl d_M_moveLine_144 ?_
                  refine zr_getI (hf_N32_.w hW) (pc := 145) f_M_172 rfl d_M_moveLine_145 ?_
                  refine zr_if_le (pc := 148) (tgt := 152) ⟨(ze_r N32_ 81 7).1, (ze_r N32_ 81 7).2⟩ (by decide) d_M_moveLine_148 (fun hc_148 => ?_) (fun hc_148 => ?_)
                  · skip
                    exfalso; (exact zo_61 ha141_0_hp1_N32_ hc_148)
                  · skip
                    exact zr_vret (pc := 151) rfl hf_N32_ ⟨hp0_N32_, (show 0 ≤ ze N32_ 81 13 by first | assumption | (exact zo_1334 e13_N11_ e13_N32_ e13_N3_ p7_)), (show ze N32_ 81 13 ≤ 4 by first | assumption | (exact zo_1335 e13_N11_ e13_N32_ e13_N3_ p8_)), c36_, c35_, (show ((1 ≤ ze N32_ 81 7 ∧ zbs b_ n_ (ze Mz 81 12).toNat (0, (ze Mz 81 4).toNat, zMvs Mz) = zMf) ∨ (ze N32_ 81 7 = 0 ∧ zbs b_ n_ (ze Mz 81 12).toNat (0, (ze Mz 81 4).toNat, zMvs Mz) = (0, (ze N32_ 81 4).toNat, zMvs N32_) ∧ zPm N32_ ∧ zFin N32_ ∧ ze Mz 81 4 < ze N32_ 81 4)) from Or.inl (⟨(show 1 ≤ ze N32_ 81 7 by first | assumption | omega | exact hrt_ | exact hrt2_), (show zbs b_ n_ (ze Mz 81 12).toNat (0, (ze Mz 81 4).toNat, zMvs Mz) = zMf by first | assumption | omega | exact hrt_ | exact hrt2_)⟩))⟩ d_M_moveLine_151
                · skip
                  have hsg_ := ha141_2_hp1_N32_
                  have hx4_ := ha141_3_hp1_N32_
                  obtain ⟨l_, hl1_, hl2_, hl3_, hl4_⟩ := zMrI_e hmi_ (by (exact zo_1336 hc_38 i15_ p5_))
                  have hg4_ := znx_ge (b := b_) (n := n_) (s := (ze N11_ 81 4).toNat)
                  have hkm_ := zKp.fr hsN32_ hkp_ (by decide)
                  have hl5_ : ∀ i : Nat, i < (ze Mz 81 12).toNat → ze N32_ 83 (6 * (ze Mz 81 13).toNat + i) = ((l_.getD i 0 : Nat) : Int) := fun i hi => (hsN32_.ie (by decide) (by decide) _).trans (hl4_ i hi)
                  show zW l m_M_moveLine (zn Mz + 0, zw Mz + 0) N32_ 144 [some (.ref 81), some (.int (Int32.ofInt (ze Mz 81 4))), some (.int (Int32.ofInt u9_)), some (.int (Int32.ofInt u10_)), none] [] _
                  refine zw_aload_n (pc := 144) (n := 0) (x := 81) rfl d_M_moveLine_144 ?_
                  refine zr_getI (hf_N32_.w hW) (pc := 145) f_M_172 rfl d_M_moveLine_145 ?_
                  refine zr_if_le (pc := 148) (tgt := 152) ⟨(ze_r N32_ 81 7).1, (ze_r N32_ 81 7).2⟩ (by decide) d_M_moveLine_148 (fun hc_148 => ?_) (fun hc_148 => ?_)
                  · skip
                    refine zw_aload_n (pc := 152) (n := 0) (x := 81) rfl (zdal_p dlC_M_moveLine_85 (i := 9) rfl) ?_
                    refine zw_dup (pc := 153) rfl (zdal_p dlC_M_moveLine_85 (i := 10) rfl) ?_
                    refine zr_getI (hf_N32_.w hW) (pc := 154) f_M_199 rfl (zdal_p dlC_M_moveLine_85 (i := 11) rfl) ?_
                    refine zw_iconst (pc := 157) (v := Int32.ofInt 1) (by decide) (zdal_p dlC_M_moveLine_85 (i := 12) rfl) ?_
                    refine zr_iadd (pc := 158) (zdal_p dlC_M_moveLine_85 (i := 13) rfl) ?_
                    refine zr_putI (hf_N32_.w hW) (pc := 159) f_M_199 rfl rfl ⟨by (exact zo_1337 e13_N11_ e13_N32_ e13_N3_ p7_), by (exact zo_1338 e13_N11_ e13_N32_ e13_N3_ p8_)⟩ rfl rfl (zdal_p dlC_M_moveLine_85 (i := 14) rfl) (fun N37_ hsN37_ hvN37_ => ?_)
                    have hf_N37_ : zFr [3, 4, 5, 6, 7, 8, 11, 13, 20] [83, 85, 86, 87, 88] Mz N37_ := hf_N32_.tr hsN37_ (by decide) (by decide)
                    have e3_N37_ : ze N37_ 81 3 = ze N32_ 81 3 := hsN37_.e (by decide)
                    have e4_N37_ : ze N37_ 81 4 = ze N32_ 81 4 := hsN37_.e (by decide)
                    have e5_N37_ : ze N37_ 81 5 = ze N32_ 81 5 := hsN37_.e (by decide)
                    have e6_N37_ : ze N37_ 81 6 = ze N32_ 81 6 := hsN37_.e (by decide)
                    have e7_N37_ : ze N37_ 81 7 = ze N32_ 81 7 := hsN37_.e (by decide)
                    have e12_N37_ : ze N37_ 81 12 = ze N32_ 81 12 := hsN37_.e (by decide)
                    have r13_N37_ := ze_r N37_ 81 13
                    have e20_N37_ : ze N37_ 81 20 = ze N32_ 81 20 := hsN37_.e (by decide)
                    have c38_ : zRb b_ n_ N37_ := zRb.fr hsN37_ c34_ (by decide) (by decide)
                    have c39_ : zB 85 144 0 5 N37_ := zB.fr hsN37_ c35_ (by decide) (by decide)
                    have c40_ : zB 83 24 0 5 N37_ := zB.fr hsN37_ c36_ (by decide) (by decide)
                    have c41_ : zRt b_ n_ N37_ := zRt.fr hsN37_ hp0_N32_ (by decide) (by decide)
                    have hmv_ := zMvs_u (M := Mz) (N := N37_) (l := l_) (P := (ze Mz 81 12).toNat) (by (exact zo_1339 p5_)) (by (exact zo_1340 p5_ p6_)) (by (exact p7_)) (by (exact zo_230 e12_N32_ e12_N37_ zz12_N11_)) (by (exact zo_1341 e13_N11_ e13_N32_ e13_N3_ hl33_1_i16_ hvN37_ p7_ r13_N37_.1 r13_N37_.2)) (zKp.fr hsN37_ hkm_ (by decide)) (fun i hi => (hsN37_.ie (by decide) (by decide) _).trans (hl5_ i hi))
                    have hpl_ := zmc_p (P := (ze Mz 81 12).toNat) (l := l_) (by (exact zo_1340 p5_ p6_)) hl3_ hl2_
                    have hPm_ : zPm N37_ := fun g_ hg_ => by rw [hmv_] at hg_; exact (List.mem_append.mp hg_).elim (p9_ g_) (fun e_ => by rw [List.mem_singleton.mp e_]; exact hpl_.1)
                    refine zw_aload_n (pc := 162) (n := 0) (x := 81) rfl (zdal_p dlC_M_moveLine_85 (i := 15) rfl) ?_
                    refine zr_callV (hf_N37_.w hW) hf_N37_.x (pc := 163) [] [] l_M_226 (c_M_buildsMembers l N37_ (hf_N37_.w hW) (show 1 ≤ ze N37_ 81 12 by first | assumption | (exact zo_1342 e12_N32_ e12_N37_ p5_ zz12_N11_)) (show ze N37_ 81 12 ≤ 6 by first | assumption | (exact zo_1343 e12_N32_ e12_N37_ p6_ zz12_N11_)) (show 0 ≤ ze N37_ 81 13 by first | assumption | (exact zo_1344 e13_N11_ e13_N32_ e13_N3_ hvN37_ p7_ r13_N37_.1)) (show ze N37_ 81 13 ≤ 4 by first | assumption | (exact zo_1345 e13_N11_ e13_N32_ e13_N3_ hl33_1_i16_ hvN37_ r13_N37_.2)) hPm_ c40_ c39_) rfl rfl rfl (by decide) (Nat.le_of_ble_eq_true rfl) (zdal_p dlC_M_moveLine_85 (i := 16) rfl) ?_
                    rintro _ N42_ ⟨v43_, rfl, ⟨hv43_a, hv43_b⟩, hsN42_, ⟨hp0_N42_, hp1_N42_⟩⟩
                    have hf_N42_ : zFr [3, 4, 5, 6, 7, 8, 11, 13, 20] [83, 85, 86, 87, 88] Mz N42_ := hf_N37_.tr hsN42_ (by decide) (by decide)
                    have e3_N42_ : ze N42_ 81 3 = ze N37_ 81 3 := hsN42_.e (by decide)
                    have e4_N42_ : ze N42_ 81 4 = ze N37_ 81 4 := hsN42_.e (by decide)
                    have e5_N42_ : ze N42_ 81 5 = ze N37_ 81 5 := hsN42_.e (by decide)
                    have e6_N42_ : ze N42_ 81 6 = ze N37_ 81 6 := hsN42_.e (by decide)
                    have e7_N42_ : ze N42_ 81 7 = ze N37_ 81 7 := hsN42_.e (by decide)
                    have e12_N42_ : ze N42_ 81 12 = ze N37_ 81 12 := hsN42_.e (by decide)
                    have e13_N42_ : ze N42_ 81 13 = ze N37_ 81 13 := hsN42_.e (by decide)
                    have r20_N42_ := ze_r N42_ 81 20
                    have c44_ : zRb b_ n_ N42_ := zRb.fr hsN42_ c38_ (by decide) (by decide)
                    have c45_ : zB 83 24 0 5 N42_ := zB.fr hsN42_ c40_ (by decide) (by decide)
                    have c46_ : zRt b_ n_ N42_ := zRt.fr hsN42_ c41_ (by decide) (by decide)
                    have c47_ : zPm N42_ := zPm.fr hsN42_ hPm_ (by decide) (by decide)
                    rcases hp1_N42_ with ⟨rfl, ha163_0_hp1_N42_, ha163_1_hp1_N42_, ha163_2_hp1_N42_, ha163_3_hp1_N42_⟩ | ⟨rfl, ha163_0_hp1_N42_⟩
                    · skip
                      have hPq_ : zPm N42_ := zPm.fr hsN42_ hPm_ (by decide) (by decide)
                      have hFq_ : zFin N42_ := zFin.fr hsN42_ ha163_0_hp1_N42_ (by decide) (by decide)
                      have hmq_ : zMvs N42_ = zMvs Mz ++ [zmc (ze Mz 81 12).toNat l_] := (zMvs_f hsN42_ (by decide) (by decide)).trans hmv_
                      have hgf_ : gFin (zMvs Mz ++ [zmc (ze Mz 81 12).toNat l_]) := by rw [← hmq_]; exact hFq_
                      have hfin_ : zbs b_ n_ (ze Mz 81 12).toNat (0, (ze Mz 81 4).toNat, zMvs Mz) = (0, (ze N42_ 81 4).toNat, zMvs N42_) := by rw [hmq_, zbs_t hl0_ (by (exact zo_1346 hl33_1_i16_ hml_ p7_ p8_)) hl1_ ⟨hsg_, hgf_⟩, ← hx4_, show ze N42_ 81 4 = ze N32_ 81 4 by omega]
                      show zW l m_M_moveLine (zn Mz + 0, zw Mz + 0) N42_ 166 [some (.ref 81), some (.int (Int32.ofInt (ze Mz 81 4))), some (.int (Int32.ofInt u9_)), some (.int (Int32.ofInt u10_)), none] [.int (Int32.ofInt 1)] _
                      refine zr_if_ne (pc := 166) (tgt := 175) ⟨(by decide), (by decide)⟩ (by decide) (zdal_p dlC_M_moveLine_85 (i := 17) rfl) (fun hc_166 => ?_) (fun hc_166 => ?_)
                      · skip
                        exact zr_vret (pc := 175) rfl hf_N42_ ⟨c46_, (show 0 ≤ ze N42_ 81 13 by first | assumption | omega), (show ze N42_ 81 13 ≤ 4 by first | assumption | omega), c45_, hp0_N42_, (show ((1 ≤ ze N42_ 81 7 ∧ zbs b_ n_ (ze Mz 81 12).toNat (0, (ze Mz 81 4).toNat, zMvs Mz) = zMf) ∨ (ze N42_ 81 7 = 0 ∧ zbs b_ n_ (ze Mz 81 12).toNat (0, (ze Mz 81 4).toNat, zMvs Mz) = (0, (ze N42_ 81 4).toNat, zMvs N42_) ∧ zPm N42_ ∧ zFin N42_ ∧ ze Mz 81 4 < ze N42_ 81 4)) from Or.inr (⟨(show ze N42_ 81 7 = 0 by first | omega | exact hfin_ | exact hPq_ | exact hFq_), (show zbs b_ n_ (ze Mz 81 12).toNat (0, (ze Mz 81 4).toNat, zMvs Mz) = (0, (ze N42_ 81 4).toNat, zMvs N42_) by first | omega | exact hfin_ | exact hPq_ | exact hFq_), (show zPm N42_ by first | omega | exact hfin_ | exact hPq_ | exact hFq_), (show zFin N42_ by first | omega | exact hfin_ | exact hPq_ | exact hFq_), (show ze Mz 81 4 < ze N42_ 81 4 by first | omega | exact hfin_ | exact hPq_ | exact hFq_)⟩))⟩ (zdal_p dlC_M_moveLine_85 (i := 22) rfl)
                      · skip
                        exact absurd hc_166 (by decide)
                    · skip
                      have hnf_ := ha163_0_hp1_N42_
                      have hrt_ : zbs b_ n_ (ze Mz 81 12).toNat (0, (ze Mz 81 4).toNat, zMvs Mz) = zMf := zbs_f hl0_ hl1_ (fun q_ => hnf_ (by have h_ := q_.2; rw [← hmv_] at h_; exact h_))
                      show zW l m_M_moveLine (zn Mz + 0, zw Mz + 0) N42_ 166 [some (.ref 81), some (.int (Int32.ofInt (ze Mz 81 4))), some (.int (Int32.ofInt u9_)), some (.int (Int32.ofInt u10_)), none] [.int (Int32.ofInt 0)] _
                      refine zr_if_ne (pc := 166) (tgt := 175) ⟨(by decide), (by decide)⟩ (by decide) (zdal_p dlC_M_moveLine_85 (i := 17) rfl) (fun hc_166 => ?_) (fun hc_166 => ?_)
                      · skip
                        exact absurd hc_166 (by decide)
                      · skip
                        refine zw_aload_n (pc := 169) (n := 0) (x := 81) rfl (zdal_p dlC_M_moveLine_85 (i := 18) rfl) ?_
                        refine zw_iconst (pc := 170) (v := Int32.ofInt 5) (by decide) (zdal_p dlC_M_moveLine_85 (i := 19) rfl) ?_
                        refine zw_iload_n (pc := 171) (n := 1) (x := Int32.ofInt (ze Mz 81 4)) rfl (zdal_p dlC_M_moveLine_85 (i := 20) rfl) ?_
                        refine zr_callV (hf_N42_.w hW) hf_N42_.x (pc := 172) [.int (Int32.ofInt 5), .int (Int32.ofInt (ze Mz 81 4))] [] l_M_168 (c_M_wrongAtF l N42_ (hf_N42_.w hW) 5 (by decide) (by decide) (ze Mz 81 4) (ze_r Mz 81 4).1 (ze_r Mz 81 4).2 (show 1 ≤ 5 by first | assumption | omega)) rfl rfl rfl (by decide) (Nat.le_of_ble_eq_true rfl) (zdal_p dlC_M_moveLine_85 (i := 21) rfl) ?_
                        rintro _ N48_ ⟨rfl, hsN48_, hp0_N48_⟩
                        replace hp0_N48_ : 1 ≤ ze N48_ 81 7 := hp0_N48_
                        have hf_N48_ : zFr [3, 4, 5, 6, 7, 8, 11, 13, 20] [83, 85, 86, 87, 88] Mz N48_ := hf_N42_.tr hsN48_ (by decide) (by decide)
                        have e3_N48_ : ze N48_ 81 3 = ze N42_ 81 3 := hsN48_.e (by decide)
                        have e4_N48_ : ze N48_ 81 4 = ze N42_ 81 4 := hsN48_.e (by decide)
                        have e5_N48_ : ze N48_ 81 5 = ze N42_ 81 5 := hsN48_.e (by decide)
                        have e6_N48_ : ze N48_ 81 6 = ze N42_ 81 6 := hsN48_.e (by decide)
                        have r7_N48_ := ze_r N48_ 81 7
                        have e12_N48_ : ze N48_ 81 12 = ze N42_ 81 12 := hsN48_.e (by decide)
                        have e13_N48_ : ze N48_ 81 13 = ze N42_ 81 13 := hsN48_.e (by decide)
                        have e20_N48_ : ze N48_ 81 20 = ze N42_ 81 20 := hsN48_.e (by decide)
                        have c50_ : zRb b_ n_ N48_ := zRb.fr hsN48_ c44_ (by decide) (by decide)
                        have c51_ : zB 83 24 0 5 N48_ := zB.fr hsN48_ c45_ (by decide) (by decide)
                        have c52_ : zRt b_ n_ N48_ := zRt.fr hsN48_ c46_ (by decide) (by decide)
                        have c53_ : zPm N48_ := zPm.fr hsN48_ c47_ (by decide) (by decide)
                        have c54_ : zB 85 144 0 5 N48_ := zB.fr hsN48_ hp0_N42_ (by decide) (by decide)
                        show zW l m_M_moveLine (zn Mz + 0, zw Mz + 0) N48_ 175 [some (.ref 81), some (.int (Int32.ofInt (ze Mz 81 4))), some (.int (Int32.ofInt u9_)), some (.int (Int32.ofInt u10_)), none] [] _
                        exact zr_vret (pc := 175) rfl hf_N48_ ⟨c52_, (show 0 ≤ ze N48_ 81 13 by first | assumption | omega), (show ze N48_ 81 13 ≤ 4 by first | assumption | omega), c51_, c54_, (show ((1 ≤ ze N48_ 81 7 ∧ zbs b_ n_ (ze Mz 81 12).toNat (0, (ze Mz 81 4).toNat, zMvs Mz) = zMf) ∨ (ze N48_ 81 7 = 0 ∧ zbs b_ n_ (ze Mz 81 12).toNat (0, (ze Mz 81 4).toNat, zMvs Mz) = (0, (ze N48_ 81 4).toNat, zMvs N48_) ∧ zPm N48_ ∧ zFin N48_ ∧ ze Mz 81 4 < ze N48_ 81 4)) from Or.inl (⟨(show 1 ≤ ze N48_ 81 7 by first | assumption | omega | exact hrt_ | exact hrt2_), (show zbs b_ n_ (ze Mz 81 12).toNat (0, (ze Mz 81 4).toNat, zMvs Mz) = zMf by first | assumption | omega | exact hrt_ | exact hrt2_)⟩))⟩ (zdal_p dlC_M_moveLine_85 (i := 22) rfl)
                  · skip
                    exfalso; (exact zo_1328 ha141_0_hp1_N32_ hc_148)
              · skip
                refine zw_aload_n (pc := 41) (n := 0) (x := 81) rfl (zdal_p dlC_M_moveLine_82 (i := 23) rfl) ?_
                refine zr_callV (hf_N11_.w hW) hf_N11_.x (pc := 42) [] [] l_M_183 (c_M_isGood l N11_ (hf_N11_.w hW) ) rfl rfl rfl (by decide) (Nat.le_of_ble_eq_true rfl) (zdal_p dlC_M_moveLine_83 (i := 0) rfl) ?_
                rintro _ N55_ ⟨v56_, rfl, ⟨hv56_a, hv56_b⟩, hsN55_, hp0_N55_⟩
                obtain rfl := hsN55_.eq.symm
                replace hp0_N55_ : ((v56_ = 1 ∧ ze N11_ 81 7 = 0) ∨ (v56_ = 0 ∧ ze N11_ 81 7 ≠ 0)) := hp0_N55_
                rcases hp0_N55_ with ⟨rfl, ha42_0_hp0_N55_⟩ | ⟨rfl, ha42_0_hp0_N55_⟩
                · skip
                  show zW l m_M_moveLine (zn Mz + 0, zw Mz + 0) N11_ 45 [some (.ref 81), some (.int (Int32.ofInt (ze Mz 81 4))), some (.int (Int32.ofInt u9_)), some (.int (Int32.ofInt u10_)), none] [.int (Int32.ofInt 1)] _
                  refine zr_if_eq (pc := 45) (tgt := 138) ⟨(by decide), (by decide)⟩ (by decide) (zdal_p dlC_M_moveLine_83 (i := 1) rfl) (fun hc_45 => ?_) (fun hc_45 => ?_)
                  · skip
                    exact absurd hc_45 (by decide)
                  · skip
                    have hyt_ := i13_
                    have hyx_ := hyt_.x
                    have h5_ := hyt_.2.2.1
                    refine zw_aload_n (pc := 48) (n := 0) (x := 81) rfl (zdal_p dlC_M_moveLine_83 (i := 2) rfl) ?_
                    refine zr_getI (hf_N11_.w hW) (pc := 49) f_M_155 rfl (zdal_p dlC_M_moveLine_83 (i := 3) rfl) ?_
                    refine zw_iconst (pc := 52) (v := Int32.ofInt 2) (by decide) (zdal_p dlC_M_moveLine_83 (i := 4) rfl) ?_
                    refine zr_icmp_eq (pc := 53) (tgt := 61) ⟨(ze_r N11_ 81 5).1, (ze_r N11_ 81 5).2⟩ ⟨(by decide), (by decide)⟩ (by decide) (zdal_p dlC_M_moveLine_83 (i := 5) rfl) (fun hc_53 => ?_) (fun hc_53 => ?_)
                    · skip
                      have hv2_ : ze N11_ 81 7 = 0 → ze N11_ 81 6 = znu b_ n_ (ze N11_ 81 4).toNat ∧ 0 ≤ ze N11_ 81 6 ∧ ze N11_ 81 6 ≤ 999 := fun q_ => i13_.v2 (by (exact zo_759 h5_ hc_53))
                      refine zw_aload_n (pc := 61) (n := 0) (x := 81) rfl (zdal_p dlC_M_moveLine_83 (i := 9) rfl) ?_
                      refine zr_getI (hf_N11_.w hW) (pc := 62) f_M_152 rfl (zdal_p dlC_M_moveLine_83 (i := 10) rfl) ?_
                      refine zw_istore (pc := 65) (i := 4) (L2 := [some (.ref 81), some (.int (Int32.ofInt (ze Mz 81 4))), some (.int (Int32.ofInt u9_)), some (.int (Int32.ofInt u10_)), some (.int (Int32.ofInt (ze N11_ 81 6)))]) (by decide) rfl (zdal_p dlC_M_moveLine_83 (i := 11) rfl) ?_
                      refine zw_aload_n (pc := 67) (n := 0) (x := 81) rfl (zdal_p dlC_M_moveLine_83 (i := 12) rfl) ?_
                      refine zr_callV (hf_N11_.w hW) hf_N11_.x (pc := 68) [] [] l_M_183 (c_M_isGood l N11_ (hf_N11_.w hW) ) rfl rfl rfl (by decide) (Nat.le_of_ble_eq_true rfl) (zdal_p dlC_M_moveLine_83 (i := 13) rfl) ?_
                      rintro _ N57_ ⟨v58_, rfl, ⟨hv58_a, hv58_b⟩, hsN57_, hp0_N57_⟩
                      obtain rfl := hsN57_.eq.symm
                      replace hp0_N57_ : ((v58_ = 1 ∧ ze N11_ 81 7 = 0) ∨ (v58_ = 0 ∧ ze N11_ 81 7 ≠ 0)) := hp0_N57_
                      rcases hp0_N57_ with ⟨rfl, ha68_0_hp0_N57_⟩ | ⟨rfl, ha68_0_hp0_N57_⟩
                      · skip
                        show zW l m_M_moveLine (zn Mz + 0, zw Mz + 0) N11_ 71 [some (.ref 81), some (.int (Int32.ofInt (ze Mz 81 4))), some (.int (Int32.ofInt u9_)), some (.int (Int32.ofInt u10_)), some (.int (Int32.ofInt (ze N11_ 81 6)))] [.int (Int32.ofInt 1)] _
                        refine zr_if_eq (pc := 71) (tgt := 97) ⟨(by decide), (by decide)⟩ (by decide) (zdal_p dlC_M_moveLine_83 (i := 14) rfl) (fun hc_71 => ?_) (fun hc_71 => ?_)
                        · skip
                          exact absurd hc_71 (by decide)
                        · skip
                          refine zw_iload (pc := 74) (i := 4) (x := Int32.ofInt (ze N11_ 81 6)) rfl (zdal_p dlC_M_moveLine_83 (i := 15) rfl) ?_
                          refine zw_aload_n (pc := 76) (n := 0) (x := 81) rfl (zdal_p dlC_M_moveLine_83 (i := 16) rfl) ?_
                          refine zr_getI0 hf_N11_ hW (pc := 77) (by decide) f_M_115 rfl (zdal_p dlC_M_moveLine_83 (i := 17) rfl) ?_
                          refine zr_icmp_ge (pc := 80) (tgt := 92) ⟨(ze_r N11_ 81 6).1, (ze_r N11_ 81 6).2⟩ ⟨(ze_r Mz 81 12).1, (ze_r Mz 81 12).2⟩ (by decide) (zdal_p dlC_M_moveLine_83 (i := 18) rfl) (fun hc_80 => ?_) (fun hc_80 => ?_)
                          · skip
                            have hno_ : zrm b_ n_ (ze Mz 81 12).toNat (ze Mz 81 12).toNat (znx b_ n_ (ze Mz 81 4).toNat) [] = none := zMrI_f hmi_ (by (exact i14_)) (by (exact zo_1347 hc_38)) (fun q_ => by have h1_ := q_.2.1; have h2_ := hv2_ (by (exact hl33_0_i16_)); first | (exact zo_1348 h2_.1 hc_80 p5_ q_.2.1) | (have h3_ := q_.2.2; rw [← h2_.1] at h3_; exact h3_ hbt_)) (by (exact zo_1340 p5_ p6_))
                            have hrt_ : zbs b_ n_ (ze Mz 81 12).toNat (0, (ze Mz 81 4).toNat, zMvs Mz) = zMf := zbs_n hl0_ hno_
                            refine zw_aload_n (pc := 92) (n := 0) (x := 81) rfl (zdal_p dlC_M_moveLine_83 (i := 23) rfl) ?_
                            refine zw_iconst (pc := 93) (v := Int32.ofInt 4) (by decide) (zdal_p dlC_M_moveLine_84 (i := 0) rfl) ?_
                            refine zr_callV (hf_N11_.w hW) hf_N11_.x (pc := 94) [.int (Int32.ofInt 4)] [] l_M_190 (c_M_wrongF l N11_ (hf_N11_.w hW) 4 (by decide) (by decide) (show 1 ≤ 4 by first | assumption | (decide))) rfl rfl rfl (by decide) (Nat.le_of_ble_eq_true rfl) (zdal_p dlC_M_moveLine_84 (i := 1) rfl) ?_
                            rintro _ N59_ ⟨rfl, hsN59_, hp0_N59_⟩
                            replace hp0_N59_ : 1 ≤ ze N59_ 81 7 := hp0_N59_
                            have hf_N59_ : zFr [3, 4, 5, 6, 7, 8, 11, 13, 20] [83, 85, 86, 87, 88] Mz N59_ := hf_N11_.tr hsN59_ (by decide) (by decide)
                            have hb0_N59_ : zFr [3, 4, 5, 6, 7, 8, 11] [83] N3_ N59_ := hs12_.tr hsN59_ (by decide) (by decide)
                            have e3_N59_ : ze N59_ 81 3 = ze N11_ 81 3 := hsN59_.e (by decide)
                            have e4_N59_ : ze N59_ 81 4 = ze N11_ 81 4 := hsN59_.e (by decide)
                            have e5_N59_ : ze N59_ 81 5 = ze N11_ 81 5 := hsN59_.e (by decide)
                            have e6_N59_ : ze N59_ 81 6 = ze N11_ 81 6 := hsN59_.e (by decide)
                            have r7_N59_ := ze_r N59_ 81 7
                            have e12_N59_ : ze N59_ 81 12 = ze N11_ 81 12 := hsN59_.e (by decide)
                            have e13_N59_ : ze N59_ 81 13 = ze N11_ 81 13 := hsN59_.e (by decide)
                            have e20_N59_ : ze N59_ 81 20 = ze N11_ 81 20 := hsN59_.e (by decide)
                            have c61_ : zRb b_ n_ N59_ := zRb.fr hsN59_ c18_ (by decide) (by decide)
                            have c62_ : zB 85 144 0 5 N59_ := zB.fr hsN59_ c19_ (by decide) (by decide)
                            have c63_ : zRt b_ n_ N59_ := zRt.fr hsN59_ i13_ (by decide) (by decide)
                            have c64_ : zB 83 24 0 5 N59_ := zB.fr hsN59_ i17_ (by decide) (by decide)
                            show zW l m_M_moveLine (zn Mz + 0, zw Mz + 0) N59_ 97 [some (.ref 81), some (.int (Int32.ofInt (ze Mz 81 4))), some (.int (Int32.ofInt u9_)), some (.int (Int32.ofInt u10_)), some (.int (Int32.ofInt (ze N11_ 81 6)))] [] _
                            refine zw_aload_n (pc := 97) (n := 0) (x := 81) rfl d_M_moveLine_97 ?_
                            refine zr_getI (hf_N59_.w hW) (pc := 98) f_M_172 rfl d_M_moveLine_98 ?_
                            refine zr_if_le (pc := 101) (tgt := 105) ⟨(ze_r N59_ 81 7).1, (ze_r N59_ 81 7).2⟩ (by decide) d_M_moveLine_101 (fun hc_101 => ?_) (fun hc_101 => ?_)
                            · skip
                              exfalso; (exact zo_1329 hc_101 hp0_N59_)
                            · skip
                              exact zr_vret (pc := 104) rfl hf_N59_ ⟨c63_, (show 0 ≤ ze N59_ 81 13 by first | assumption | (exact zo_1349 e13_N11_ e13_N3_ e13_N59_ p7_)), (show ze N59_ 81 13 ≤ 4 by first | assumption | (exact zo_1350 e13_N11_ e13_N3_ e13_N59_ p8_)), c64_, c62_, (show ((1 ≤ ze N59_ 81 7 ∧ zbs b_ n_ (ze Mz 81 12).toNat (0, (ze Mz 81 4).toNat, zMvs Mz) = zMf) ∨ (ze N59_ 81 7 = 0 ∧ zbs b_ n_ (ze Mz 81 12).toNat (0, (ze Mz 81 4).toNat, zMvs Mz) = (0, (ze N59_ 81 4).toNat, zMvs N59_) ∧ zPm N59_ ∧ zFin N59_ ∧ ze Mz 81 4 < ze N59_ 81 4)) from Or.inl (⟨(show 1 ≤ ze N59_ 81 7 by first | assumption | omega | exact hrt_ | exact hrt2_), (show zbs b_ n_ (ze Mz 81 12).toNat (0, (ze Mz 81 4).toNat, zMvs Mz) = zMf by first | assumption | omega | exact hrt_ | exact hrt2_)⟩))⟩ d_M_moveLine_104
                          · skip
                            refine zw_iload_n (pc := 83) (n := 2) (x := Int32.ofInt u9_) rfl (zdal_p dlC_M_moveLine_83 (i := 19) rfl) ?_
                            refine zw_iload (pc := 84) (i := 4) (x := Int32.ofInt (ze N11_ 81 6)) rfl (zdal_p dlC_M_moveLine_83 (i := 20) rfl) ?_
                            refine zr_callS hf_N11_.x (pc := 86) [.int (Int32.ofInt u9_), .int (Int32.ofInt (ze N11_ 81 6))] [] l_M_213 (c_M_holds l N11_ (hf_N11_.w hW) u9_ hu9_a hu9_b (ze N11_ 81 6) (ze_r N11_ 81 6).1 (ze_r N11_ 81 6).2 (show 0 ≤ u9_ by first | assumption | (exact zo_57 hme_.1)) (show 0 ≤ (ze N11_ 81 6) by first | assumption | omega) (show (ze N11_ 81 6) < 32 by first | assumption | (exact zo_1351 hc_80 p6_ r6_N11_.2))) rfl rfl (by decide) (Nat.le_of_ble_eq_true rfl) (zdal_p dlC_M_moveLine_83 (i := 21) rfl) ?_
                            rintro _ N65_ ⟨v66_, rfl, ⟨hv66_a, hv66_b⟩, hsN65_, hp0_N65_⟩
                            obtain rfl := hsN65_.eq.symm
                            replace hp0_N65_ : ((v66_ = 1 ∧ zbt u9_ (ze N11_ 81 6)) ∨ (v66_ = 0 ∧ ¬ zbt u9_ (ze N11_ 81 6))) := hp0_N65_
                            rcases hp0_N65_ with ⟨rfl, ha86_0_hp0_N65_⟩ | ⟨rfl, ha86_0_hp0_N65_⟩
                            · skip
                              have hbt_ := ha86_0_hp0_N65_
                              show zW l m_M_moveLine (zn Mz + 0, zw Mz + 0) N11_ 89 [some (.ref 81), some (.int (Int32.ofInt (ze Mz 81 4))), some (.int (Int32.ofInt u9_)), some (.int (Int32.ofInt u10_)), some (.int (Int32.ofInt (ze N11_ 81 6)))] [.int (Int32.ofInt 1)] _
                              refine zr_if_eq (pc := 89) (tgt := 97) ⟨(by decide), (by decide)⟩ (by decide) (zdal_p dlC_M_moveLine_83 (i := 22) rfl) (fun hc_89 => ?_) (fun hc_89 => ?_)
                              · skip
                                exact absurd hc_89 (by decide)
                              · skip
                                have hno_ : zrm b_ n_ (ze Mz 81 12).toNat (ze Mz 81 12).toNat (znx b_ n_ (ze Mz 81 4).toNat) [] = none := zMrI_f hmi_ (by (exact i14_)) (by (exact zo_1347 hc_38)) (fun q_ => by have h1_ := q_.2.1; have h2_ := hv2_ (by (exact hl33_0_i16_)); first | omega | (have h3_ := q_.2.2; rw [← h2_.1] at h3_; exact h3_ hbt_)) (by (exact zo_1340 p5_ p6_))
                                have hrt_ : zbs b_ n_ (ze Mz 81 12).toNat (0, (ze Mz 81 4).toNat, zMvs Mz) = zMf := zbs_n hl0_ hno_
                                refine zw_aload_n (pc := 92) (n := 0) (x := 81) rfl (zdal_p dlC_M_moveLine_83 (i := 23) rfl) ?_
                                refine zw_iconst (pc := 93) (v := Int32.ofInt 4) (by decide) (zdal_p dlC_M_moveLine_84 (i := 0) rfl) ?_
                                refine zr_callV (hf_N11_.w hW) hf_N11_.x (pc := 94) [.int (Int32.ofInt 4)] [] l_M_190 (c_M_wrongF l N11_ (hf_N11_.w hW) 4 (by decide) (by decide) (show 1 ≤ 4 by first | assumption | (decide))) rfl rfl rfl (by decide) (Nat.le_of_ble_eq_true rfl) (zdal_p dlC_M_moveLine_84 (i := 1) rfl) ?_
                                rintro _ N67_ ⟨rfl, hsN67_, hp0_N67_⟩
                                replace hp0_N67_ : 1 ≤ ze N67_ 81 7 := hp0_N67_
                                have hf_N67_ : zFr [3, 4, 5, 6, 7, 8, 11, 13, 20] [83, 85, 86, 87, 88] Mz N67_ := hf_N11_.tr hsN67_ (by decide) (by decide)
                                have hb0_N67_ : zFr [3, 4, 5, 6, 7, 8, 11] [83] N3_ N67_ := hs12_.tr hsN67_ (by decide) (by decide)
                                have e3_N67_ : ze N67_ 81 3 = ze N11_ 81 3 := hsN67_.e (by decide)
                                have e4_N67_ : ze N67_ 81 4 = ze N11_ 81 4 := hsN67_.e (by decide)
                                have e5_N67_ : ze N67_ 81 5 = ze N11_ 81 5 := hsN67_.e (by decide)
                                have e6_N67_ : ze N67_ 81 6 = ze N11_ 81 6 := hsN67_.e (by decide)
                                have r7_N67_ := ze_r N67_ 81 7
                                have e12_N67_ : ze N67_ 81 12 = ze N11_ 81 12 := hsN67_.e (by decide)
                                have e13_N67_ : ze N67_ 81 13 = ze N11_ 81 13 := hsN67_.e (by decide)
                                have e20_N67_ : ze N67_ 81 20 = ze N11_ 81 20 := hsN67_.e (by decide)
                                have c69_ : zRb b_ n_ N67_ := zRb.fr hsN67_ c18_ (by decide) (by decide)
                                have c70_ : zB 85 144 0 5 N67_ := zB.fr hsN67_ c19_ (by decide) (by decide)
                                have c71_ : zRt b_ n_ N67_ := zRt.fr hsN67_ i13_ (by decide) (by decide)
                                have c72_ : zB 83 24 0 5 N67_ := zB.fr hsN67_ i17_ (by decide) (by decide)
                                show zW l m_M_moveLine (zn Mz + 0, zw Mz + 0) N67_ 97 [some (.ref 81), some (.int (Int32.ofInt (ze Mz 81 4))), some (.int (Int32.ofInt u9_)), some (.int (Int32.ofInt u10_)), some (.int (Int32.ofInt (ze N11_ 81 6)))] [] _
                                refine zw_aload_n (pc := 97) (n := 0) (x := 81) rfl d_M_moveLine_97 ?_
                                refine zr_getI (hf_N67_.w hW) (pc := 98) f_M_172 rfl d_M_moveLine_98 ?_
                                refine zr_if_le (pc := 101) (tgt := 105) ⟨(ze_r N67_ 81 7).1, (ze_r N67_ 81 7).2⟩ (by decide) d_M_moveLine_101 (fun hc_101 => ?_) (fun hc_101 => ?_)
                                · skip
                                  exfalso; (exact zo_1329 hc_101 hp0_N67_)
                                · skip
                                  exact zr_vret (pc := 104) rfl hf_N67_ ⟨c71_, (show 0 ≤ ze N67_ 81 13 by first | assumption | (exact zo_1349 e13_N11_ e13_N3_ e13_N67_ p7_)), (show ze N67_ 81 13 ≤ 4 by first | assumption | (exact zo_1350 e13_N11_ e13_N3_ e13_N67_ p8_)), c72_, c70_, (show ((1 ≤ ze N67_ 81 7 ∧ zbs b_ n_ (ze Mz 81 12).toNat (0, (ze Mz 81 4).toNat, zMvs Mz) = zMf) ∨ (ze N67_ 81 7 = 0 ∧ zbs b_ n_ (ze Mz 81 12).toNat (0, (ze Mz 81 4).toNat, zMvs Mz) = (0, (ze N67_ 81 4).toNat, zMvs N67_) ∧ zPm N67_ ∧ zFin N67_ ∧ ze Mz 81 4 < ze N67_ 81 4)) from Or.inl (⟨(show 1 ≤ ze N67_ 81 7 by first | assumption | omega | exact hrt_ | exact hrt2_), (show zbs b_ n_ (ze Mz 81 12).toNat (0, (ze Mz 81 4).toNat, zMvs Mz) = zMf by first | assumption | omega | exact hrt_ | exact hrt2_)⟩))⟩ d_M_moveLine_104
                            · skip
                              have hnb_ := ha86_0_hp0_N65_
                              show zW l m_M_moveLine (zn Mz + 0, zw Mz + 0) N11_ 89 [some (.ref 81), some (.int (Int32.ofInt (ze Mz 81 4))), some (.int (Int32.ofInt u9_)), some (.int (Int32.ofInt u10_)), some (.int (Int32.ofInt (ze N11_ 81 6)))] [.int (Int32.ofInt 0)] _
                              refine zr_if_eq (pc := 89) (tgt := 97) ⟨(by decide), (by decide)⟩ (by decide) (zdal_p dlC_M_moveLine_83 (i := 22) rfl) (fun hc_89 => ?_) (fun hc_89 => ?_)
                              · skip
                                refine zw_aload_n (pc := 97) (n := 0) (x := 81) rfl d_M_moveLine_97 ?_
                                refine zr_getI (hf_N11_.w hW) (pc := 98) f_M_172 rfl d_M_moveLine_98 ?_
                                refine zr_if_le (pc := 101) (tgt := 105) ⟨(ze_r N11_ 81 7).1, (ze_r N11_ 81 7).2⟩ (by decide) d_M_moveLine_101 (fun hc_101 => ?_) (fun hc_101 => ?_)
                                · skip
                                  have hv3_ := hv2_ (by (exact hl33_0_i16_))
                                  refine zw_iload_n (pc := 105) (n := 2) (x := Int32.ofInt u9_) rfl (zdal_p dlC_M_moveLine_84 (i := 6) rfl) ?_
                                  refine zw_iconst (pc := 106) (v := Int32.ofInt 1) (by decide) (zdal_p dlC_M_moveLine_84 (i := 7) rfl) ?_
                                  refine zw_iload (pc := 107) (i := 4) (x := Int32.ofInt (ze N11_ 81 6)) rfl (zdal_p dlC_M_moveLine_84 (i := 8) rfl) ?_
                                  refine zr_ishl (pc := 109) (zdal_p dlC_M_moveLine_84 (i := 9) rfl) ?_
                                  have hr73_ := zshl_r 1 (ze N11_ 81 6)
                                  refine zr_ior (pc := 110) (zdal_p dlC_M_moveLine_84 (i := 10) rfl) ?_
                                  have hr74_ := zor_r u9_ (zshl 1 (ze N11_ 81 6))
                                  refine zw_istore_n (pc := 111) (i := 2) (L2 := [some (.ref 81), some (.int (Int32.ofInt (ze Mz 81 4))), some (.int (Int32.ofInt (zor u9_ (zshl 1 (ze N11_ 81 6))))), some (.int (Int32.ofInt u10_)), some (.int (Int32.ofInt (ze N11_ 81 6)))]) rfl (by decide) rfl (zdal_p dlC_M_moveLine_84 (i := 11) rfl) ?_
                                  refine zw_aload_n (pc := 112) (n := 0) (x := 81) rfl (zdal_p dlC_M_moveLine_84 (i := 12) rfl) ?_
                                  refine zr_getF (r := 83) (hf_N11_.w hW) (pc := 113) f_M_20 rfl (zh_83 (hf_N11_.w hW)).1 (zdal_p dlC_M_moveLine_84 (i := 13) rfl) ?_
                                  refine zw_bipush (pc := 116) (v := Int32.ofInt 6) (by decide) (zdal_p dlC_M_moveLine_84 (i := 14) rfl) ?_
                                  refine zw_aload_n (pc := 118) (n := 0) (x := 81) rfl (zdal_p dlC_M_moveLine_84 (i := 15) rfl) ?_
                                  refine zr_getI (hf_N11_.w hW) (pc := 119) f_M_199 rfl (zdal_p dlC_M_moveLine_84 (i := 16) rfl) ?_
                                  refine zr_imul (pc := 122) (zdal_p dlC_M_moveLine_84 (i := 17) rfl) ?_
                                  refine zw_iload_n (pc := 123) (n := 3) (x := Int32.ofInt u10_) rfl (zdal_p dlC_M_moveLine_84 (i := 18) rfl) ?_
                                  refine zr_iadd (pc := 124) (zdal_p dlC_M_moveLine_84 (i := 19) rfl) ?_
                                  refine zr_toI (show ((6 * (ze N11_ 81 13)) + u10_) = 6 * ze Mz 81 13 + u10_ by (exact zo_1352 e13_N11_ e13_N3_)) ?_
                                  refine zw_iload (pc := 125) (i := 4) (x := Int32.ofInt (ze N11_ 81 6)) rfl (zdal_p dlC_M_moveLine_84 (i := 20) rfl) ?_
                                  refine zr_iast (pc := 127) (zh_83 (hf_N11_.w hW)).2 (by decide) (by decide) (by (exact zo_709 i14_ p7_)) (by (exact zo_1353 hc_38 hl33_1_i16_ p6_)) (zdal_p dlC_M_moveLine_84 (i := 21) rfl) (fun N75_ hN75_ hsN75_ => ?_)
                                  have hf_N75_ : zFr [3, 4, 5, 6, 7, 8, 11, 13, 20] [83, 85, 86, 87, 88] Mz N75_ := hf_N11_.tr hsN75_ (by decide) (by decide)
                                  have hb0_N75_ : zFr [3, 4, 5, 6, 7, 8, 11] [83] N3_ N75_ := hs12_.tr hsN75_ (by decide) (by decide)
                                  have e3_N75_ : ze N75_ 81 3 = ze N11_ 81 3 := hsN75_.e (by decide)
                                  have e4_N75_ : ze N75_ 81 4 = ze N11_ 81 4 := hsN75_.e (by decide)
                                  have e5_N75_ : ze N75_ 81 5 = ze N11_ 81 5 := hsN75_.e (by decide)
                                  have e6_N75_ : ze N75_ 81 6 = ze N11_ 81 6 := hsN75_.e (by decide)
                                  have e7_N75_ : ze N75_ 81 7 = ze N11_ 81 7 := hsN75_.e (by decide)
                                  have e12_N75_ : ze N75_ 81 12 = ze N11_ 81 12 := hsN75_.e (by decide)
                                  have e13_N75_ : ze N75_ 81 13 = ze N11_ 81 13 := hsN75_.e (by decide)
                                  have e20_N75_ : ze N75_ 81 20 = ze N11_ 81 20 := hsN75_.e (by decide)
                                  have c76_ : zRb b_ n_ N75_ := zRb.fr hsN75_ c18_ (by decide) (by decide)
                                  have c77_ : zB 85 144 0 5 N75_ := zB.fr hsN75_ c19_ (by decide) (by decide)
                                  have c78_ : zRt b_ n_ N75_ := zRt.fr hsN75_ i13_ (by decide) (by decide)
                                  have c79_ : zB 83 24 0 5 N75_ := zB.s i17_ hN75_ (by (exact zo_57 hv3_.2.1)) (by (exact zo_1354 hc_80 hv3_.2.2 p6_)) (by decide) (by decide)
                                  have hK1_ := zKp_s hkp_ (by (exact zo_1355 i14_)) (by (exact zo_709 i14_ p7_)) hN75_
                                  have hyt_ := c78_
                                  have hyx_ := hyt_.x
                                  refine zw_aload_n (pc := 128) (n := 0) (x := 81) rfl (zdal_p dlC_M_moveLine_84 (i := 22) rfl) ?_
                                  refine zr_callV (hf_N75_.w hW) hf_N75_.x (pc := 129) [] [] l_M_193 (c_M_goOnF l N75_ (hf_N75_.w hW) b_ n_ c76_ (show 0 ≤ ze N75_ 81 3 by first | assumption | (exact zo_57 hyx_.2.1)) (show ze N75_ 81 3 ≤ n_ by first | assumption | (exact zo_605 hyx_.2.2))) rfl rfl rfl (by decide) (Nat.le_of_ble_eq_true rfl) (zdal_p dlC_M_moveLine_84 (i := 23) rfl) ?_
                                  rintro _ N80_ ⟨rfl, hsN80_, ⟨hp0_N80_, hp1_N80_⟩⟩
                                  have hf_N80_ : zFr [3, 4, 5, 6, 7, 8, 11, 13, 20] [83, 85, 86, 87, 88] Mz N80_ := hf_N75_.tr hsN80_ (by decide) (by decide)
                                  have hb0_N80_ : zFr [3, 4, 5, 6, 7, 8, 11] [83] N3_ N80_ := hb0_N75_.tr hsN80_ (by decide) (by decide)
                                  have r3_N80_ := ze_r N80_ 81 3
                                  have r4_N80_ := ze_r N80_ 81 4
                                  have r5_N80_ := ze_r N80_ 81 5
                                  have r6_N80_ := ze_r N80_ 81 6
                                  have e7_N80_ : ze N80_ 81 7 = ze N75_ 81 7 := hsN80_.e (by decide)
                                  have e12_N80_ : ze N80_ 81 12 = ze N75_ 81 12 := hsN80_.e (by decide)
                                  have e13_N80_ : ze N80_ 81 13 = ze N75_ 81 13 := hsN80_.e (by decide)
                                  have e20_N80_ : ze N80_ 81 20 = ze N75_ 81 20 := hsN80_.e (by decide)
                                  have c82_ : zRb b_ n_ N80_ := zRb.fr hsN80_ c76_ (by decide) (by decide)
                                  have c83_ : zB 85 144 0 5 N80_ := zB.fr hsN80_ c77_ (by decide) (by decide)
                                  have c84_ : zB 83 24 0 5 N80_ := zB.fr hsN80_ c79_ (by decide) (by decide)
                                  show zW l m_M_moveLine (zn Mz + 0, zw Mz + 0) N80_ 132 [some (.ref 81), some (.int (Int32.ofInt (ze Mz 81 4))), some (.int (Int32.ofInt (zor u9_ (zshl 1 (ze N11_ 81 6))))), some (.int (Int32.ofInt u10_)), some (.int (Int32.ofInt (ze N11_ 81 6)))] [] _
                                  have hnn_ := hyt_.nx hp0_N80_
                                  have hR2_ := zMrI_s (M := N11_) (N := N75_) (N2 := N80_) hmi_ (by (exact i14_)) (by (exact zo_1347 hc_38)) (by (exact zo_1340 p5_ p6_)) (by (exact p7_)) (by omega) hv3_.1 (by (exact zo_57 hv3_.2.1)) (by (exact zo_1356 hc_80 hv3_.2.2)) hnb_ hN75_ (fun j_ => hsN80_.ie (by decide) (by decide) j_) (hnn_.2.trans (by rw [show ze N75_ 81 4 = ze N11_ 81 4 by (exact e4_N75_)]))
                                  have hK2_ := zKp.fr hsN80_ hK1_ (by decide)
                                  have hg2_ := znx_ge (b := b_) (n := n_) (s := (ze N75_ 81 4).toNat)
                                  refine zr_iinc (pc := 132) (i := 3) (a := u10_) (n := 1) (L2 := [some (.ref 81), some (.int (Int32.ofInt (ze Mz 81 4))), some (.int (Int32.ofInt (zor u9_ (zshl 1 (ze N11_ 81 6))))), some (.int (Int32.ofInt (u10_ + 1))), some (.int (Int32.ofInt (ze N11_ 81 6)))]) rfl (by decide) rfl (zdal_p dlC_M_moveLine_85 (i := 0) rfl) ?_
                                  refine zw_goto (pc := 135) (tgt := 33) (by decide) (zdal_p dlC_M_moveLine_85 (i := 1) rfl) ?_
                                  refine zW_le [some (.ref 81), some (.int (Int32.ofInt (ze Mz 81 4))), some (.int (Int32.ofInt (zor u9_ (zshl 1 (ze N11_ 81 6))))), some (.int (Int32.ofInt (u10_ + 1))), none] (⟨rfl, rfl, rfl, rfl, trivial⟩) ?_
                                  exact ih_33 (zor u9_ (zshl 1 (ze N11_ 81 6))) (by (exact zo_284 hr74_.1)) (by (exact zo_285 hr74_.2)) (u10_ + 1) (by (exact zo_74 i14_)) (by (exact zo_671 hc_38 p6_)) N80_ hb0_N80_ hp1_N80_ (show 0 ≤ (u10_ + 1) by first | assumption | (exact zo_76 i14_)) (show (u10_ + 1) ≤ ze Mz 81 12 by first | assumption | omega) (show (1 ≤ ze N80_ 81 7 ∧ zbs b_ n_ (ze Mz 81 12).toNat (0, (ze Mz 81 4).toNat, zMvs Mz) = zMf) ∨ (ze N80_ 81 7 = 0 ∧ ze Mz 81 13 ≤ 3 ∧ zMrI b_ n_ (ze Mz 81 12).toNat (znx b_ n_ (ze Mz 81 4).toNat) (ze Mz 81 13) N80_ (u10_ + 1) (zor u9_ (zshl 1 (ze N11_ 81 6))) ∧ zKp Mz N80_ (6 * ze Mz 81 13) ∧ ze Mz 81 4 < ze N80_ 81 4) from Or.inr (⟨(show ze N80_ 81 7 = 0 by first | assumption | (exact zo_596 e7_N75_ e7_N80_ hl33_0_i16_) | exact hR2_ | exact hK2_), (show ze Mz 81 13 ≤ 3 by first | assumption | omega | exact hR2_ | exact hK2_), (show zMrI b_ n_ (ze Mz 81 12).toNat (znx b_ n_ (ze Mz 81 4).toNat) (ze Mz 81 13) N80_ (u10_ + 1) (zor u9_ (zshl 1 (ze N11_ 81 6))) by first | assumption | omega | exact hR2_ | exact hK2_), (show zKp Mz N80_ (6 * ze Mz 81 13) by first | assumption | omega | exact hR2_ | exact hK2_), (show ze Mz 81 4 < ze N80_ 81 4 by first | assumption | (exact zo_1357 e4_N75_ hg2_ hl33_4_i16_ hnn_.2 hp0_N80_ r4_N80_.1 r_4.2) | exact hR2_ | exact hK2_)⟩)) c84_ (by (exact zo_147 hc_38 hlt_33))
                                · skip
                                  exfalso; (exact zo_1358 hc_101 hl33_0_i16_)
                              · skip
                                exact absurd hc_89 (by decide)
                      · skip
                        exfalso; (exact zo_260 hl33_0_i16_ ha68_0_hp0_N57_)
                    · skip
                      have hno_ : zrm b_ n_ (ze Mz 81 12).toNat (ze Mz 81 12).toNat (znx b_ n_ (ze Mz 81 4).toNat) [] = none := zMrI_f hmi_ (by (exact i14_)) (by (exact zo_1347 hc_38)) (fun q_ => by have h1_ := q_.1; omega) (by (exact zo_1340 p5_ p6_))
                      have hrt_ : zbs b_ n_ (ze Mz 81 12).toNat (0, (ze Mz 81 4).toNat, zMvs Mz) = zMf := zbs_n hl0_ hno_
                      refine zw_aload_n (pc := 56) (n := 0) (x := 81) rfl (zdal_p dlC_M_moveLine_83 (i := 6) rfl) ?_
                      refine zw_iconst (pc := 57) (v := Int32.ofInt 2) (by decide) (zdal_p dlC_M_moveLine_83 (i := 7) rfl) ?_
                      refine zr_callV (hf_N11_.w hW) hf_N11_.x (pc := 58) [.int (Int32.ofInt 2)] [] l_M_190 (c_M_wrongF l N11_ (hf_N11_.w hW) 2 (by decide) (by decide) (show 1 ≤ 2 by first | assumption | (decide))) rfl rfl rfl (by decide) (Nat.le_of_ble_eq_true rfl) (zdal_p dlC_M_moveLine_83 (i := 8) rfl) ?_
                      rintro _ N85_ ⟨rfl, hsN85_, hp0_N85_⟩
                      replace hp0_N85_ : 1 ≤ ze N85_ 81 7 := hp0_N85_
                      have hf_N85_ : zFr [3, 4, 5, 6, 7, 8, 11, 13, 20] [83, 85, 86, 87, 88] Mz N85_ := hf_N11_.tr hsN85_ (by decide) (by decide)
                      have hb0_N85_ : zFr [3, 4, 5, 6, 7, 8, 11] [83] N3_ N85_ := hs12_.tr hsN85_ (by decide) (by decide)
                      have e3_N85_ : ze N85_ 81 3 = ze N11_ 81 3 := hsN85_.e (by decide)
                      have e4_N85_ : ze N85_ 81 4 = ze N11_ 81 4 := hsN85_.e (by decide)
                      have e5_N85_ : ze N85_ 81 5 = ze N11_ 81 5 := hsN85_.e (by decide)
                      have e6_N85_ : ze N85_ 81 6 = ze N11_ 81 6 := hsN85_.e (by decide)
                      have r7_N85_ := ze_r N85_ 81 7
                      have e12_N85_ : ze N85_ 81 12 = ze N11_ 81 12 := hsN85_.e (by decide)
                      have e13_N85_ : ze N85_ 81 13 = ze N11_ 81 13 := hsN85_.e (by decide)
                      have e20_N85_ : ze N85_ 81 20 = ze N11_ 81 20 := hsN85_.e (by decide)
                      have c87_ : zRb b_ n_ N85_ := zRb.fr hsN85_ c18_ (by decide) (by decide)
                      have c88_ : zB 85 144 0 5 N85_ := zB.fr hsN85_ c19_ (by decide) (by decide)
                      have c89_ : zRt b_ n_ N85_ := zRt.fr hsN85_ i13_ (by decide) (by decide)
                      have c90_ : zB 83 24 0 5 N85_ := zB.fr hsN85_ i17_ (by decide) (by decide)
                      show zW l m_M_moveLine (zn Mz + 0, zw Mz + 0) N85_ 61 [some (.ref 81), some (.int (Int32.ofInt (ze Mz 81 4))), some (.int (Int32.ofInt u9_)), some (.int (Int32.ofInt u10_)), none] [] _
                      have hv2_ : ze N85_ 81 7 = 0 → ze N85_ 81 6 = znu b_ n_ (ze N85_ 81 4).toNat ∧ 0 ≤ ze N85_ 81 6 ∧ ze N85_ 81 6 ≤ 999 := fun q_ => c89_.v2 (by omega)
                      refine zw_aload_n (pc := 61) (n := 0) (x := 81) rfl (zdal_p dlC_M_moveLine_83 (i := 9) rfl) ?_
                      refine zr_getI (hf_N85_.w hW) (pc := 62) f_M_152 rfl (zdal_p dlC_M_moveLine_83 (i := 10) rfl) ?_
                      refine zw_istore (pc := 65) (i := 4) (L2 := [some (.ref 81), some (.int (Int32.ofInt (ze Mz 81 4))), some (.int (Int32.ofInt u9_)), some (.int (Int32.ofInt u10_)), some (.int (Int32.ofInt (ze N85_ 81 6)))]) (by decide) rfl (zdal_p dlC_M_moveLine_83 (i := 11) rfl) ?_
                      refine zw_aload_n (pc := 67) (n := 0) (x := 81) rfl (zdal_p dlC_M_moveLine_83 (i := 12) rfl) ?_
                      refine zr_callV (hf_N85_.w hW) hf_N85_.x (pc := 68) [] [] l_M_183 (c_M_isGood l N85_ (hf_N85_.w hW) ) rfl rfl rfl (by decide) (Nat.le_of_ble_eq_true rfl) (zdal_p dlC_M_moveLine_83 (i := 13) rfl) ?_
                      rintro _ N91_ ⟨v92_, rfl, ⟨hv92_a, hv92_b⟩, hsN91_, hp0_N91_⟩
                      obtain rfl := hsN91_.eq.symm
                      replace hp0_N91_ : ((v92_ = 1 ∧ ze N85_ 81 7 = 0) ∨ (v92_ = 0 ∧ ze N85_ 81 7 ≠ 0)) := hp0_N91_
                      rcases hp0_N91_ with ⟨rfl, ha68_0_hp0_N91_⟩ | ⟨rfl, ha68_0_hp0_N91_⟩
                      · skip
                        exfalso; (exact zo_281 ha68_0_hp0_N91_ hp0_N85_)
                      · skip
                        show zW l m_M_moveLine (zn Mz + 0, zw Mz + 0) N85_ 71 [some (.ref 81), some (.int (Int32.ofInt (ze Mz 81 4))), some (.int (Int32.ofInt u9_)), some (.int (Int32.ofInt u10_)), some (.int (Int32.ofInt (ze N85_ 81 6)))] [.int (Int32.ofInt 0)] _
                        refine zr_if_eq (pc := 71) (tgt := 97) ⟨(by decide), (by decide)⟩ (by decide) (zdal_p dlC_M_moveLine_83 (i := 14) rfl) (fun hc_71 => ?_) (fun hc_71 => ?_)
                        · skip
                          refine zw_aload_n (pc := 97) (n := 0) (x := 81) rfl d_M_moveLine_97 ?_
                          refine zr_getI (hf_N85_.w hW) (pc := 98) f_M_172 rfl d_M_moveLine_98 ?_
                          refine zr_if_le (pc := 101) (tgt := 105) ⟨(ze_r N85_ 81 7).1, (ze_r N85_ 81 7).2⟩ (by decide) d_M_moveLine_101 (fun hc_101 => ?_) (fun hc_101 => ?_)
                          · skip
                            exfalso; (exact zo_1329 hc_101 hp0_N85_)
                          · skip
                            exact zr_vret (pc := 104) rfl hf_N85_ ⟨c89_, (show 0 ≤ ze N85_ 81 13 by first | assumption | (exact zo_1349 e13_N11_ e13_N3_ e13_N85_ p7_)), (show ze N85_ 81 13 ≤ 4 by first | assumption | (exact zo_1350 e13_N11_ e13_N3_ e13_N85_ p8_)), c90_, c88_, (show ((1 ≤ ze N85_ 81 7 ∧ zbs b_ n_ (ze Mz 81 12).toNat (0, (ze Mz 81 4).toNat, zMvs Mz) = zMf) ∨ (ze N85_ 81 7 = 0 ∧ zbs b_ n_ (ze Mz 81 12).toNat (0, (ze Mz 81 4).toNat, zMvs Mz) = (0, (ze N85_ 81 4).toNat, zMvs N85_) ∧ zPm N85_ ∧ zFin N85_ ∧ ze Mz 81 4 < ze N85_ 81 4)) from Or.inl (⟨(show 1 ≤ ze N85_ 81 7 by first | assumption | omega | exact hrt_ | exact hrt2_), (show zbs b_ n_ (ze Mz 81 12).toNat (0, (ze Mz 81 4).toNat, zMvs Mz) = zMf by first | assumption | omega | exact hrt_ | exact hrt2_)⟩))⟩ d_M_moveLine_104
                        · skip
                          exact absurd hc_71 (by decide)
                · skip
                  exfalso; (exact zo_260 hl33_0_i16_ ha42_0_hp0_N55_)
        exact lp_33 _ 0 (by decide) (by decide) 0 (by decide) (by decide) N3_ zFr.rf hp1_N3_ (show 0 ≤ (0 : Int) by first | assumption | (decide)) (show (0 : Int) ≤ ze Mz 81 12 by first | assumption | (exact zo_564 p5_)) (show (1 ≤ ze N3_ 81 7 ∧ zbs b_ n_ (ze Mz 81 12).toNat (0, (ze Mz 81 4).toNat, zMvs Mz) = zMf) ∨ (ze N3_ 81 7 = 0 ∧ ze Mz 81 13 ≤ 3 ∧ zMrI b_ n_ (ze Mz 81 12).toNat (znx b_ n_ (ze Mz 81 4).toNat) (ze Mz 81 13) N3_ (0 : Int) (0 : Int) ∧ zKp Mz N3_ (6 * ze Mz 81 13) ∧ ze Mz 81 4 < ze N3_ 81 4) from Or.inr (⟨(show ze N3_ 81 7 = 0 by first | assumption | (exact zo_610 e7_N3_ p2_) | exact hml0_ | exact hkp0_), (show ze Mz 81 13 ≤ 3 by first | assumption | (exact zo_1359 p8_ hc_10) | exact hml0_ | exact hkp0_), (show zMrI b_ n_ (ze Mz 81 12).toNat (znx b_ n_ (ze Mz 81 4).toNat) (ze Mz 81 13) N3_ (0 : Int) (0 : Int) by first | assumption | omega | exact hml0_ | exact hkp0_), (show zKp Mz N3_ (6 * ze Mz 81 13) by first | assumption | omega | exact hml0_ | exact hkp0_), (show ze Mz 81 4 < ze N3_ 81 4 by first | assumption | (exact zo_1360 hg1_ hnn_.2 hp0_N3_ r4_N3_.1 r_4.2) | exact hml0_ | exact hkp0_)⟩)) c7_ (Nat.lt_succ_self _)
    · skip
      exfalso; (exact zo_260 p2_ ha19_0_hp0_N1_)
  · skip
    have hrt_ : zbs b_ n_ (ze Mz 81 12).toNat (0, (ze Mz 81 4).toNat, zMvs Mz) = zMf := zbs_4 hl0_ (by (exact zo_1361 hc_10 hml_))
    refine zw_aload_n (pc := 13) (n := 0) (x := 81) rfl (zdal_p dlC_M_moveLine_82 (i := 7) rfl) ?_
    refine zw_iconst (pc := 14) (v := Int32.ofInt 5) (by decide) (zdal_p dlC_M_moveLine_82 (i := 8) rfl) ?_
    refine zr_callV (hf.w hW) hf.x (pc := 15) [.int (Int32.ofInt 5)] [] l_M_190 (c_M_wrongF l Mz (hf.w hW) 5 (by decide) (by decide) (show 1 ≤ 5 by first | assumption | (decide))) rfl rfl rfl (by decide) (Nat.le_of_ble_eq_true rfl) (zdal_p dlC_M_moveLine_82 (i := 9) rfl) ?_
    rintro _ N93_ ⟨rfl, hsN93_, hp0_N93_⟩
    replace hp0_N93_ : 1 ≤ ze N93_ 81 7 := hp0_N93_
    have hf_N93_ : zFr [3, 4, 5, 6, 7, 8, 11, 13, 20] [83, 85, 86, 87, 88] Mz N93_ := hf.tr hsN93_ (by decide) (by decide)
    have e3_N93_ : ze N93_ 81 3 = ze Mz 81 3 := hsN93_.e (by decide)
    have e4_N93_ : ze N93_ 81 4 = ze Mz 81 4 := hsN93_.e (by decide)
    have e5_N93_ : ze N93_ 81 5 = ze Mz 81 5 := hsN93_.e (by decide)
    have e6_N93_ : ze N93_ 81 6 = ze Mz 81 6 := hsN93_.e (by decide)
    have r7_N93_ := ze_r N93_ 81 7
    have e12_N93_ : ze N93_ 81 12 = ze Mz 81 12 := hsN93_.e (by decide)
    have e13_N93_ : ze N93_ 81 13 = ze Mz 81 13 := hsN93_.e (by decide)
    have e20_N93_ : ze N93_ 81 20 = ze Mz 81 20 := hsN93_.e (by decide)
    have c95_ : zRb b_ n_ N93_ := zRb.fr hsN93_ p0_ (by decide) (by decide)
    have c96_ : zRt b_ n_ N93_ := zRt.fr hsN93_ p1_ (by decide) (by decide)
    have c97_ : zPm N93_ := zPm.fr hsN93_ p9_ (by decide) (by decide)
    have c98_ : zB 83 24 0 5 N93_ := zB.fr hsN93_ p10_ (by decide) (by decide)
    have c99_ : zB 85 144 0 5 N93_ := zB.fr hsN93_ p11_ (by decide) (by decide)
    show zW l m_M_moveLine (zn Mz + 0, zw Mz + 0) N93_ 18 [some (.ref 81), some (.int (Int32.ofInt (ze Mz 81 4))), none, none, none] [] _
    refine zw_aload_n (pc := 18) (n := 0) (x := 81) rfl (zdal_p dlC_M_moveLine_82 (i := 10) rfl) ?_
    refine zr_callV (hf_N93_.w hW) hf_N93_.x (pc := 19) [] [] l_M_183 (c_M_isGood l N93_ (hf_N93_.w hW) ) rfl rfl rfl (by decide) (Nat.le_of_ble_eq_true rfl) (zdal_p dlC_M_moveLine_82 (i := 11) rfl) ?_
    rintro _ N100_ ⟨v101_, rfl, ⟨hv101_a, hv101_b⟩, hsN100_, hp0_N100_⟩
    obtain rfl := hsN100_.eq.symm
    replace hp0_N100_ : ((v101_ = 1 ∧ ze N93_ 81 7 = 0) ∨ (v101_ = 0 ∧ ze N93_ 81 7 ≠ 0)) := hp0_N100_
    rcases hp0_N100_ with ⟨rfl, ha19_0_hp0_N100_⟩ | ⟨rfl, ha19_0_hp0_N100_⟩
    · skip
      exfalso; (exact zo_281 ha19_0_hp0_N100_ hp0_N93_)
    · skip
      show zW l m_M_moveLine (zn Mz + 0, zw Mz + 0) N93_ 22 [some (.ref 81), some (.int (Int32.ofInt (ze Mz 81 4))), none, none, none] [.int (Int32.ofInt 0)] _
      refine zr_if_eq (pc := 22) (tgt := 29) ⟨(by decide), (by decide)⟩ (by decide) (zdal_p dlC_M_moveLine_82 (i := 12) rfl) (fun hc_22 => ?_) (fun hc_22 => ?_)
      · skip
        refine zw_iconst (pc := 29) (v := Int32.ofInt 0) (by decide) (zdal_p dlC_M_moveLine_82 (i := 15) rfl) ?_
        refine zw_istore_n (pc := 30) (i := 2) (L2 := [some (.ref 81), some (.int (Int32.ofInt (ze Mz 81 4))), some (.int (Int32.ofInt 0)), none, none]) rfl (by decide) rfl (zdal_p dlC_M_moveLine_82 (i := 16) rfl) ?_
        refine zw_iconst (pc := 31) (v := Int32.ofInt 0) (by decide) (zdal_p dlC_M_moveLine_82 (i := 17) rfl) ?_
        refine zw_istore_n (pc := 32) (i := 3) (L2 := [some (.ref 81), some (.int (Int32.ofInt (ze Mz 81 4))), some (.int (Int32.ofInt 0)), some (.int (Int32.ofInt 0)), none]) rfl (by decide) rfl (zdal_p dlC_M_moveLine_82 (i := 18) rfl) ?_
        have lp_33 : ∀ (n : Nat) (u102_ : Int) (hu102_a : -2147483648 ≤ u102_) (hu102_b : u102_ < 2147483648) (u103_ : Int) (hu103_a : -2147483648 ≤ u103_) (hu103_b : u103_ < 2147483648) (N104_ : zMem) (hs105_ : zFr [3, 4, 5, 6, 7, 8, 11] [83] N93_ N104_) (i106_ : zRt b_ n_ N104_) (i107_ : 0 ≤ u103_) (i108_ : u103_ ≤ ze Mz 81 12) (i109_ : (1 ≤ ze N104_ 81 7 ∧ zbs b_ n_ (ze Mz 81 12).toNat (0, (ze Mz 81 4).toNat, zMvs Mz) = zMf) ∨ (ze N104_ 81 7 = 0 ∧ ze Mz 81 13 ≤ 3 ∧ zMrI b_ n_ (ze Mz 81 12).toNat (znx b_ n_ (ze Mz 81 4).toNat) (ze Mz 81 13) N104_ u103_ u102_ ∧ zKp Mz N104_ (6 * ze Mz 81 13) ∧ ze Mz 81 4 < ze N104_ 81 4)) (i110_ : zB 83 24 0 5 N104_), (ze Mz 81 12 - u103_).toNat < n → zW l m_M_moveLine (zn Mz + 0, zw Mz + 0) N104_ 33 [some (.ref 81), some (.int (Int32.ofInt (ze Mz 81 4))), some (.int (Int32.ofInt u102_)), some (.int (Int32.ofInt u103_)), none] [] (zpV [3, 4, 5, 6, 7, 8, 11, 13, 20] [83, 85, 86, 87, 88] Mz (fun N => zRt b_ n_ N ∧ 0 ≤ ze N 81 13 ∧ ze N 81 13 ≤ 4 ∧ zB 83 24 0 5 N ∧ zB 85 144 0 5 N ∧ (((1 ≤ ze N 81 7 ∧ zbs b_ n_ (ze Mz 81 12).toNat (0, (ze Mz 81 4).toNat, zMvs Mz) = zMf) ∨ (ze N 81 7 = 0 ∧ zbs b_ n_ (ze Mz 81 12).toNat (0, (ze Mz 81 4).toNat, zMvs Mz) = (0, (ze N 81 4).toNat, zMvs N) ∧ zPm N ∧ zFin N ∧ ze Mz 81 4 < ze N 81 4))))) := by
          clear hv101_a hv101_b
          intro n
          induction n with
          | zero =>
            intro u102_ hu102_a hu102_b u103_ hu103_a hu103_b N104_ hs105_ i106_ i107_ i108_ i109_ i110_ h0
            exact absurd h0 (Nat.not_lt_zero _)
          | succ n ih_33 =>
            intro u102_ hu102_a hu102_b u103_ hu103_a hu103_b N104_ hs105_ i106_ i107_ i108_ i109_ i110_ hlt_33
            have hf_N104_ : zFr [3, 4, 5, 6, 7, 8, 11, 13, 20] [83, 85, 86, 87, 88] Mz N104_ := hf_N93_.tr hs105_ (by decide) (by decide)
            have r3_N104_ := ze_r N104_ 81 3
            have r4_N104_ := ze_r N104_ 81 4
            have r5_N104_ := ze_r N104_ 81 5
            have r6_N104_ := ze_r N104_ 81 6
            have r7_N104_ := ze_r N104_ 81 7
            have e12_N104_ : ze N104_ 81 12 = ze N93_ 81 12 := hs105_.e (by decide)
            have e13_N104_ : ze N104_ 81 13 = ze N93_ 81 13 := hs105_.e (by decide)
            have e20_N104_ : ze N104_ 81 20 = ze N93_ 81 20 := hs105_.e (by decide)
            have c111_ : zRb b_ n_ N104_ := zRb.fr hs105_ c95_ (by decide) (by decide)
            have c112_ : zB 85 144 0 5 N104_ := zB.fr hs105_ c99_ (by decide) (by decide)
            have zz12_N104_ : ze N104_ 81 12 = ze Mz 81 12 := hf_N104_.e (by decide)
            rcases i109_ with ⟨hl33_0_i109_, hl33_1_i109_⟩ | ⟨hl33_0_i109_, hl33_1_i109_, hl33_2_i109_, hl33_3_i109_, hl33_4_i109_⟩
            · skip
              refine zw_iload_n (pc := 33) (n := 3) (x := Int32.ofInt u103_) rfl (zdal_p dlC_M_moveLine_82 (i := 19) rfl) ?_
              refine zw_aload_n (pc := 34) (n := 0) (x := 81) rfl (zdal_p dlC_M_moveLine_82 (i := 20) rfl) ?_
              refine zr_getI0 hf_N104_ hW (pc := 35) (by decide) f_M_115 rfl (zdal_p dlC_M_moveLine_82 (i := 21) rfl) ?_
              refine zr_icmp_ge (pc := 38) (tgt := 138) ⟨hu103_a, hu103_b⟩ ⟨(ze_r Mz 81 12).1, (ze_r Mz 81 12).2⟩ (by decide) (zdal_p dlC_M_moveLine_82 (i := 22) rfl) (fun hc_38 => ?_) (fun hc_38 => ?_)
              · skip
                refine zw_aload_n (pc := 138) (n := 0) (x := 81) rfl d_M_moveLine_138 ?_
                refine zw_bipush (pc := 139) (v := Int32.ofInt 59) (by decide) d_M_moveLine_139 ?_
                refine zr_callV (hf_N104_.w hW) hf_N104_.x (pc := 141) [.int (Int32.ofInt 59)] [] l_M_355 (c_M_mustF l N104_ (hf_N104_.w hW) 59 (by decide) (by decide) b_ n_ c111_ i106_ (show 0 ≤ ze N104_ 81 7 by first | assumption | (exact zo_564 hl33_0_i109_))) rfl rfl rfl (by decide) (Nat.le_of_ble_eq_true rfl) d_M_moveLine_141 ?_
                rintro _ N113_ ⟨rfl, hsN113_, ⟨hp0_N113_, hp1_N113_⟩⟩
                have hf_N113_ : zFr [3, 4, 5, 6, 7, 8, 11, 13, 20] [83, 85, 86, 87, 88] Mz N113_ := hf_N104_.tr hsN113_ (by decide) (by decide)
                have r3_N113_ := ze_r N113_ 81 3
                have r4_N113_ := ze_r N113_ 81 4
                have r5_N113_ := ze_r N113_ 81 5
                have r6_N113_ := ze_r N113_ 81 6
                have r7_N113_ := ze_r N113_ 81 7
                have e12_N113_ : ze N113_ 81 12 = ze N104_ 81 12 := hsN113_.e (by decide)
                have e13_N113_ : ze N113_ 81 13 = ze N104_ 81 13 := hsN113_.e (by decide)
                have e20_N113_ : ze N113_ 81 20 = ze N104_ 81 20 := hsN113_.e (by decide)
                have c115_ : zRb b_ n_ N113_ := zRb.fr hsN113_ c111_ (by decide) (by decide)
                have c116_ : zB 85 144 0 5 N113_ := zB.fr hsN113_ c112_ (by decide) (by decide)
                have c117_ : zB 83 24 0 5 N113_ := zB.fr hsN113_ i110_ (by decide) (by decide)
                rcases hp1_N113_ with ⟨ha141_0_hp1_N113_, ha141_1_hp1_N113_⟩ | ⟨ha141_0_hp1_N113_, ha141_1_hp1_N113_, ha141_2_hp1_N113_, ha141_3_hp1_N113_⟩
                · skip
                  have hrt2_ : zbs b_ n_ (ze Mz 81 12).toNat (0, (ze Mz 81 4).toNat, zMvs Mz) = zMf := by first | assumption | exact hrt_ | (obtain ⟨l_, hl1_, -⟩ := zMrI_e hmi_ (by omega); exact zbs_f hl0_ hl1_ (fun q_ => ha141_1_hp1_N113_ (by omega) q_.1))
                  show zW l m_M_moveLine (zn Mz + 0, zw Mz + 0) N113_ 144 [some (.ref 81), some (.int (Int32.ofInt (ze Mz 81 4))), some (.int (Int32.ofInt u102_)), some (.int (Int32.ofInt u103_)), none] [] _
                  refine zw_aload_n (pc := 144) (n := 0) (x := 81) rfl d_M_moveLine_144 ?_
                  refine zr_getI (hf_N113_.w hW) (pc := 145) f_M_172 rfl d_M_moveLine_145 ?_
                  refine zr_if_le (pc := 148) (tgt := 152) ⟨(ze_r N113_ 81 7).1, (ze_r N113_ 81 7).2⟩ (by decide) d_M_moveLine_148 (fun hc_148 => ?_) (fun hc_148 => ?_)
                  · skip
                    exfalso; (exact zo_61 ha141_0_hp1_N113_ hc_148)
                  · skip
                    exact zr_vret (pc := 151) rfl hf_N113_ ⟨hp0_N113_, (show 0 ≤ ze N113_ 81 13 by first | assumption | (exact zo_1362 e13_N104_ e13_N113_ e13_N93_ hc_10)), (show ze N113_ 81 13 ≤ 4 by first | assumption | (exact zo_1335 e13_N104_ e13_N113_ e13_N93_ p8_)), c117_, c116_, (show ((1 ≤ ze N113_ 81 7 ∧ zbs b_ n_ (ze Mz 81 12).toNat (0, (ze Mz 81 4).toNat, zMvs Mz) = zMf) ∨ (ze N113_ 81 7 = 0 ∧ zbs b_ n_ (ze Mz 81 12).toNat (0, (ze Mz 81 4).toNat, zMvs Mz) = (0, (ze N113_ 81 4).toNat, zMvs N113_) ∧ zPm N113_ ∧ zFin N113_ ∧ ze Mz 81 4 < ze N113_ 81 4)) from Or.inl (⟨(show 1 ≤ ze N113_ 81 7 by first | assumption | omega | exact hrt_ | exact hrt2_), (show zbs b_ n_ (ze Mz 81 12).toNat (0, (ze Mz 81 4).toNat, zMvs Mz) = zMf by first | assumption | omega | exact hrt_ | exact hrt2_)⟩))⟩ d_M_moveLine_151
                · skip
                  exfalso; (exact zo_281 ha141_1_hp1_N113_ hl33_0_i109_)
              · skip
                refine zw_aload_n (pc := 41) (n := 0) (x := 81) rfl (zdal_p dlC_M_moveLine_82 (i := 23) rfl) ?_
                refine zr_callV (hf_N104_.w hW) hf_N104_.x (pc := 42) [] [] l_M_183 (c_M_isGood l N104_ (hf_N104_.w hW) ) rfl rfl rfl (by decide) (Nat.le_of_ble_eq_true rfl) (zdal_p dlC_M_moveLine_83 (i := 0) rfl) ?_
                rintro _ N118_ ⟨v119_, rfl, ⟨hv119_a, hv119_b⟩, hsN118_, hp0_N118_⟩
                obtain rfl := hsN118_.eq.symm
                replace hp0_N118_ : ((v119_ = 1 ∧ ze N104_ 81 7 = 0) ∨ (v119_ = 0 ∧ ze N104_ 81 7 ≠ 0)) := hp0_N118_
                rcases hp0_N118_ with ⟨rfl, ha42_0_hp0_N118_⟩ | ⟨rfl, ha42_0_hp0_N118_⟩
                · skip
                  exfalso; (exact zo_281 ha42_0_hp0_N118_ hl33_0_i109_)
                · skip
                  show zW l m_M_moveLine (zn Mz + 0, zw Mz + 0) N104_ 45 [some (.ref 81), some (.int (Int32.ofInt (ze Mz 81 4))), some (.int (Int32.ofInt u102_)), some (.int (Int32.ofInt u103_)), none] [.int (Int32.ofInt 0)] _
                  refine zr_if_eq (pc := 45) (tgt := 138) ⟨(by decide), (by decide)⟩ (by decide) (zdal_p dlC_M_moveLine_83 (i := 1) rfl) (fun hc_45 => ?_) (fun hc_45 => ?_)
                  · skip
                    refine zw_aload_n (pc := 138) (n := 0) (x := 81) rfl d_M_moveLine_138 ?_
                    refine zw_bipush (pc := 139) (v := Int32.ofInt 59) (by decide) d_M_moveLine_139 ?_
                    refine zr_callV (hf_N104_.w hW) hf_N104_.x (pc := 141) [.int (Int32.ofInt 59)] [] l_M_355 (c_M_mustF l N104_ (hf_N104_.w hW) 59 (by decide) (by decide) b_ n_ c111_ i106_ (show 0 ≤ ze N104_ 81 7 by first | assumption | (exact zo_564 hl33_0_i109_))) rfl rfl rfl (by decide) (Nat.le_of_ble_eq_true rfl) d_M_moveLine_141 ?_
                    rintro _ N120_ ⟨rfl, hsN120_, ⟨hp0_N120_, hp1_N120_⟩⟩
                    have hf_N120_ : zFr [3, 4, 5, 6, 7, 8, 11, 13, 20] [83, 85, 86, 87, 88] Mz N120_ := hf_N104_.tr hsN120_ (by decide) (by decide)
                    have r3_N120_ := ze_r N120_ 81 3
                    have r4_N120_ := ze_r N120_ 81 4
                    have r5_N120_ := ze_r N120_ 81 5
                    have r6_N120_ := ze_r N120_ 81 6
                    have r7_N120_ := ze_r N120_ 81 7
                    have e12_N120_ : ze N120_ 81 12 = ze N104_ 81 12 := hsN120_.e (by decide)
                    have e13_N120_ : ze N120_ 81 13 = ze N104_ 81 13 := hsN120_.e (by decide)
                    have e20_N120_ : ze N120_ 81 20 = ze N104_ 81 20 := hsN120_.e (by decide)
                    have c122_ : zRb b_ n_ N120_ := zRb.fr hsN120_ c111_ (by decide) (by decide)
                    have c123_ : zB 85 144 0 5 N120_ := zB.fr hsN120_ c112_ (by decide) (by decide)
                    have c124_ : zB 83 24 0 5 N120_ := zB.fr hsN120_ i110_ (by decide) (by decide)
                    rcases hp1_N120_ with ⟨ha141_0_hp1_N120_, ha141_1_hp1_N120_⟩ | ⟨ha141_0_hp1_N120_, ha141_1_hp1_N120_, ha141_2_hp1_N120_, ha141_3_hp1_N120_⟩
                    · skip
                      have hrt2_ : zbs b_ n_ (ze Mz 81 12).toNat (0, (ze Mz 81 4).toNat, zMvs Mz) = zMf := by first | assumption | exact hrt_ | (obtain ⟨l_, hl1_, -⟩ := zMrI_e hmi_ (by omega); exact zbs_f hl0_ hl1_ (fun q_ => ha141_1_hp1_N120_ (by omega) q_.1))
                      show zW l m_M_moveLine (zn Mz + 0, zw Mz + 0) N120_ 144 [some (.ref 81), some (.int (Int32.ofInt (ze Mz 81 4))), some (.int (Int32.ofInt u102_)), some (.int (Int32.ofInt u103_)), none] [] _
                      refine zw_aload_n (pc := 144) (n := 0) (x := 81) rfl d_M_moveLine_144 ?_
                      refine zr_getI (hf_N120_.w hW) (pc := 145) f_M_172 rfl d_M_moveLine_145 ?_
                      refine zr_if_le (pc := 148) (tgt := 152) ⟨(ze_r N120_ 81 7).1, (ze_r N120_ 81 7).2⟩ (by decide) d_M_moveLine_148 (fun hc_148 => ?_) (fun hc_148 => ?_)
                      · skip
                        exfalso; (exact zo_61 ha141_0_hp1_N120_ hc_148)
                      · skip
                        exact zr_vret (pc := 151) rfl hf_N120_ ⟨hp0_N120_, (show 0 ≤ ze N120_ 81 13 by first | assumption | (exact zo_1362 e13_N104_ e13_N120_ e13_N93_ hc_10)), (show ze N120_ 81 13 ≤ 4 by first | assumption | (exact zo_1335 e13_N104_ e13_N120_ e13_N93_ p8_)), c124_, c123_, (show ((1 ≤ ze N120_ 81 7 ∧ zbs b_ n_ (ze Mz 81 12).toNat (0, (ze Mz 81 4).toNat, zMvs Mz) = zMf) ∨ (ze N120_ 81 7 = 0 ∧ zbs b_ n_ (ze Mz 81 12).toNat (0, (ze Mz 81 4).toNat, zMvs Mz) = (0, (ze N120_ 81 4).toNat, zMvs N120_) ∧ zPm N120_ ∧ zFin N120_ ∧ ze Mz 81 4 < ze N120_ 81 4)) from Or.inl (⟨(show 1 ≤ ze N120_ 81 7 by first | assumption | omega | exact hrt_ | exact hrt2_), (show zbs b_ n_ (ze Mz 81 12).toNat (0, (ze Mz 81 4).toNat, zMvs Mz) = zMf by first | assumption | omega | exact hrt_ | exact hrt2_)⟩))⟩ d_M_moveLine_151
                    · skip
                      exfalso; (exact zo_281 ha141_1_hp1_N120_ hl33_0_i109_)
                  · skip
                    exact absurd hc_45 (by decide)
            · skip
              have hmi_ := hl33_2_i109_
              have hkp_ := hl33_3_i109_
              obtain ⟨lm_, -, -, -, hmt_, -⟩ := id hmi_
              have hme_ := hmt_.1
              refine zw_iload_n (pc := 33) (n := 3) (x := Int32.ofInt u103_) rfl (zdal_p dlC_M_moveLine_82 (i := 19) rfl) ?_
              refine zw_aload_n (pc := 34) (n := 0) (x := 81) rfl (zdal_p dlC_M_moveLine_82 (i := 20) rfl) ?_
              refine zr_getI0 hf_N104_ hW (pc := 35) (by decide) f_M_115 rfl (zdal_p dlC_M_moveLine_82 (i := 21) rfl) ?_
              refine zr_icmp_ge (pc := 38) (tgt := 138) ⟨hu103_a, hu103_b⟩ ⟨(ze_r Mz 81 12).1, (ze_r Mz 81 12).2⟩ (by decide) (zdal_p dlC_M_moveLine_82 (i := 22) rfl) (fun hc_38 => ?_) (fun hc_38 => ?_)
              · skip
                refine zw_aload_n (pc := 138) (n := 0) (x := 81) rfl d_M_moveLine_138 ?_
                refine zw_bipush (pc := 139) (v := Int32.ofInt 59) (by decide) d_M_moveLine_139 ?_
                refine zr_callV (hf_N104_.w hW) hf_N104_.x (pc := 141) [.int (Int32.ofInt 59)] [] l_M_355 (c_M_mustF l N104_ (hf_N104_.w hW) 59 (by decide) (by decide) b_ n_ c111_ i106_ (show 0 ≤ ze N104_ 81 7 by first | assumption | (exact zo_718 hl33_0_i109_))) rfl rfl rfl (by decide) (Nat.le_of_ble_eq_true rfl) d_M_moveLine_141 ?_
                rintro _ N125_ ⟨rfl, hsN125_, ⟨hp0_N125_, hp1_N125_⟩⟩
                have hf_N125_ : zFr [3, 4, 5, 6, 7, 8, 11, 13, 20] [83, 85, 86, 87, 88] Mz N125_ := hf_N104_.tr hsN125_ (by decide) (by decide)
                have r3_N125_ := ze_r N125_ 81 3
                have r4_N125_ := ze_r N125_ 81 4
                have r5_N125_ := ze_r N125_ 81 5
                have r6_N125_ := ze_r N125_ 81 6
                have r7_N125_ := ze_r N125_ 81 7
                have e12_N125_ : ze N125_ 81 12 = ze N104_ 81 12 := hsN125_.e (by decide)
                have e13_N125_ : ze N125_ 81 13 = ze N104_ 81 13 := hsN125_.e (by decide)
                have e20_N125_ : ze N125_ 81 20 = ze N104_ 81 20 := hsN125_.e (by decide)
                have c127_ : zRb b_ n_ N125_ := zRb.fr hsN125_ c111_ (by decide) (by decide)
                have c128_ : zB 85 144 0 5 N125_ := zB.fr hsN125_ c112_ (by decide) (by decide)
                have c129_ : zB 83 24 0 5 N125_ := zB.fr hsN125_ i110_ (by decide) (by decide)
                rcases hp1_N125_ with ⟨ha141_0_hp1_N125_, ha141_1_hp1_N125_⟩ | ⟨ha141_0_hp1_N125_, ha141_1_hp1_N125_, ha141_2_hp1_N125_, ha141_3_hp1_N125_⟩
                · skip
                  have hrt2_ : zbs b_ n_ (ze Mz 81 12).toNat (0, (ze Mz 81 4).toNat, zMvs Mz) = zMf := by first | assumption | exact hrt_ | (obtain ⟨l_, hl1_, -⟩ := zMrI_e hmi_ (by omega); exact zbs_f hl0_ hl1_ (fun q_ => ha141_1_hp1_N125_ (by omega) q_.1))
                  show zW l m_M_moveLine (zn Mz + 0, zw Mz + 0) N125_ 144 [some (.ref 81), some (.int (Int32.ofInt (ze Mz 81 4))), some (.int (Int32.ofInt u102_)), some (.int (Int32.ofInt u103_)), none] [] _
                  refine zw_aload_n (pc := 144) (n := 0) (x := 81) rfl d_M_moveLine_144 ?_
                  refine zr_getI (hf_N125_.w hW) (pc := 145) f_M_172 rfl d_M_moveLine_145 ?_
                  refine zr_if_le (pc := 148) (tgt := 152) ⟨(ze_r N125_ 81 7).1, (ze_r N125_ 81 7).2⟩ (by decide) d_M_moveLine_148 (fun hc_148 => ?_) (fun hc_148 => ?_)
                  · skip
                    exfalso; (exact zo_61 ha141_0_hp1_N125_ hc_148)
                  · skip
                    exact zr_vret (pc := 151) rfl hf_N125_ ⟨hp0_N125_, (show 0 ≤ ze N125_ 81 13 by first | assumption | (exact zo_1362 e13_N104_ e13_N125_ e13_N93_ hc_10)), (show ze N125_ 81 13 ≤ 4 by first | assumption | (exact zo_1335 e13_N104_ e13_N125_ e13_N93_ p8_)), c129_, c128_, (show ((1 ≤ ze N125_ 81 7 ∧ zbs b_ n_ (ze Mz 81 12).toNat (0, (ze Mz 81 4).toNat, zMvs Mz) = zMf) ∨ (ze N125_ 81 7 = 0 ∧ zbs b_ n_ (ze Mz 81 12).toNat (0, (ze Mz 81 4).toNat, zMvs Mz) = (0, (ze N125_ 81 4).toNat, zMvs N125_) ∧ zPm N125_ ∧ zFin N125_ ∧ ze Mz 81 4 < ze N125_ 81 4)) from Or.inl (⟨(show 1 ≤ ze N125_ 81 7 by first | assumption | omega | exact hrt_ | exact hrt2_), (show zbs b_ n_ (ze Mz 81 12).toNat (0, (ze Mz 81 4).toNat, zMvs Mz) = zMf by first | assumption | omega | exact hrt_ | exact hrt2_)⟩))⟩ d_M_moveLine_151
                · skip
                  have hsg_ := ha141_2_hp1_N125_
                  have hx4_ := ha141_3_hp1_N125_
                  obtain ⟨l_, hl1_, hl2_, hl3_, hl4_⟩ := zMrI_e hmi_ (by (exact zo_1336 hc_38 i108_ p5_))
                  have hg4_ := znx_ge (b := b_) (n := n_) (s := (ze N104_ 81 4).toNat)
                  have hkm_ := zKp.fr hsN125_ hkp_ (by decide)
                  have hl5_ : ∀ i : Nat, i < (ze Mz 81 12).toNat → ze N125_ 83 (6 * (ze Mz 81 13).toNat + i) = ((l_.getD i 0 : Nat) : Int) := fun i hi => (hsN125_.ie (by decide) (by decide) _).trans (hl4_ i hi)
                  show zW l m_M_moveLine (zn Mz + 0, zw Mz + 0) N125_ 144 [some (.ref 81), some (.int (Int32.ofInt (ze Mz 81 4))), some (.int (Int32.ofInt u102_)), some (.int (Int32.ofInt u103_)), none] [] _
                  refine zw_aload_n (pc := 144) (n := 0) (x := 81) rfl d_M_moveLine_144 ?_
                  refine zr_getI (hf_N125_.w hW) (pc := 145) f_M_172 rfl d_M_moveLine_145 ?_
                  refine zr_if_le (pc := 148) (tgt := 152) ⟨(ze_r N125_ 81 7).1, (ze_r N125_ 81 7).2⟩ (by decide) d_M_moveLine_148 (fun hc_148 => ?_) (fun hc_148 => ?_)
                  · skip
                    refine zw_aload_n (pc := 152) (n := 0) (x := 81) rfl (zdal_p dlC_M_moveLine_85 (i := 9) rfl) ?_
                    refine zw_dup (pc := 153) rfl (zdal_p dlC_M_moveLine_85 (i := 10) rfl) ?_
                    refine zr_getI (hf_N125_.w hW) (pc := 154) f_M_199 rfl (zdal_p dlC_M_moveLine_85 (i := 11) rfl) ?_
                    refine zw_iconst (pc := 157) (v := Int32.ofInt 1) (by decide) (zdal_p dlC_M_moveLine_85 (i := 12) rfl) ?_
                    refine zr_iadd (pc := 158) (zdal_p dlC_M_moveLine_85 (i := 13) rfl) ?_
                    refine zr_putI (hf_N125_.w hW) (pc := 159) f_M_199 rfl rfl ⟨by (exact zo_1363 e13_N104_ e13_N125_ e13_N93_ hc_10), by (exact zo_1338 e13_N104_ e13_N125_ e13_N93_ p8_)⟩ rfl rfl (zdal_p dlC_M_moveLine_85 (i := 14) rfl) (fun N130_ hsN130_ hvN130_ => ?_)
                    have hf_N130_ : zFr [3, 4, 5, 6, 7, 8, 11, 13, 20] [83, 85, 86, 87, 88] Mz N130_ := hf_N125_.tr hsN130_ (by decide) (by decide)
                    have e3_N130_ : ze N130_ 81 3 = ze N125_ 81 3 := hsN130_.e (by decide)
                    have e4_N130_ : ze N130_ 81 4 = ze N125_ 81 4 := hsN130_.e (by decide)
                    have e5_N130_ : ze N130_ 81 5 = ze N125_ 81 5 := hsN130_.e (by decide)
                    have e6_N130_ : ze N130_ 81 6 = ze N125_ 81 6 := hsN130_.e (by decide)
                    have e7_N130_ : ze N130_ 81 7 = ze N125_ 81 7 := hsN130_.e (by decide)
                    have e12_N130_ : ze N130_ 81 12 = ze N125_ 81 12 := hsN130_.e (by decide)
                    have r13_N130_ := ze_r N130_ 81 13
                    have e20_N130_ : ze N130_ 81 20 = ze N125_ 81 20 := hsN130_.e (by decide)
                    have c131_ : zRb b_ n_ N130_ := zRb.fr hsN130_ c127_ (by decide) (by decide)
                    have c132_ : zB 85 144 0 5 N130_ := zB.fr hsN130_ c128_ (by decide) (by decide)
                    have c133_ : zB 83 24 0 5 N130_ := zB.fr hsN130_ c129_ (by decide) (by decide)
                    have c134_ : zRt b_ n_ N130_ := zRt.fr hsN130_ hp0_N125_ (by decide) (by decide)
                    have hmv_ := zMvs_u (M := Mz) (N := N130_) (l := l_) (P := (ze Mz 81 12).toNat) (by (exact zo_1339 p5_)) (by (exact zo_1340 p5_ p6_)) (by (exact p7_)) (by (exact zo_230 e12_N125_ e12_N130_ zz12_N104_)) (by (exact zo_1364 e13_N104_ e13_N125_ e13_N93_ hc_10 hl33_1_i109_ hvN130_ r13_N130_.1 r13_N130_.2)) (zKp.fr hsN130_ hkm_ (by decide)) (fun i hi => (hsN130_.ie (by decide) (by decide) _).trans (hl5_ i hi))
                    have hpl_ := zmc_p (P := (ze Mz 81 12).toNat) (l := l_) (by (exact zo_1340 p5_ p6_)) hl3_ hl2_
                    have hPm_ : zPm N130_ := fun g_ hg_ => by rw [hmv_] at hg_; exact (List.mem_append.mp hg_).elim (p9_ g_) (fun e_ => by rw [List.mem_singleton.mp e_]; exact hpl_.1)
                    refine zw_aload_n (pc := 162) (n := 0) (x := 81) rfl (zdal_p dlC_M_moveLine_85 (i := 15) rfl) ?_
                    refine zr_callV (hf_N130_.w hW) hf_N130_.x (pc := 163) [] [] l_M_226 (c_M_buildsMembers l N130_ (hf_N130_.w hW) (show 1 ≤ ze N130_ 81 12 by first | assumption | (exact zo_1342 e12_N125_ e12_N130_ p5_ zz12_N104_)) (show ze N130_ 81 12 ≤ 6 by first | assumption | (exact zo_1343 e12_N125_ e12_N130_ p6_ zz12_N104_)) (show 0 ≤ ze N130_ 81 13 by first | assumption | (exact zo_1365 e13_N104_ e13_N125_ e13_N93_ hc_10 hvN130_ r13_N130_.1)) (show ze N130_ 81 13 ≤ 4 by first | assumption | (exact zo_1345 e13_N104_ e13_N125_ e13_N93_ hl33_1_i109_ hvN130_ r13_N130_.2)) hPm_ c133_ c132_) rfl rfl rfl (by decide) (Nat.le_of_ble_eq_true rfl) (zdal_p dlC_M_moveLine_85 (i := 16) rfl) ?_
                    rintro _ N135_ ⟨v136_, rfl, ⟨hv136_a, hv136_b⟩, hsN135_, ⟨hp0_N135_, hp1_N135_⟩⟩
                    have hf_N135_ : zFr [3, 4, 5, 6, 7, 8, 11, 13, 20] [83, 85, 86, 87, 88] Mz N135_ := hf_N130_.tr hsN135_ (by decide) (by decide)
                    have e3_N135_ : ze N135_ 81 3 = ze N130_ 81 3 := hsN135_.e (by decide)
                    have e4_N135_ : ze N135_ 81 4 = ze N130_ 81 4 := hsN135_.e (by decide)
                    have e5_N135_ : ze N135_ 81 5 = ze N130_ 81 5 := hsN135_.e (by decide)
                    have e6_N135_ : ze N135_ 81 6 = ze N130_ 81 6 := hsN135_.e (by decide)
                    have e7_N135_ : ze N135_ 81 7 = ze N130_ 81 7 := hsN135_.e (by decide)
                    have e12_N135_ : ze N135_ 81 12 = ze N130_ 81 12 := hsN135_.e (by decide)
                    have e13_N135_ : ze N135_ 81 13 = ze N130_ 81 13 := hsN135_.e (by decide)
                    have r20_N135_ := ze_r N135_ 81 20
                    have c137_ : zRb b_ n_ N135_ := zRb.fr hsN135_ c131_ (by decide) (by decide)
                    have c138_ : zB 83 24 0 5 N135_ := zB.fr hsN135_ c133_ (by decide) (by decide)
                    have c139_ : zRt b_ n_ N135_ := zRt.fr hsN135_ c134_ (by decide) (by decide)
                    have c140_ : zPm N135_ := zPm.fr hsN135_ hPm_ (by decide) (by decide)
                    rcases hp1_N135_ with ⟨rfl, ha163_0_hp1_N135_, ha163_1_hp1_N135_, ha163_2_hp1_N135_, ha163_3_hp1_N135_⟩ | ⟨rfl, ha163_0_hp1_N135_⟩
                    · skip
                      have hPq_ : zPm N135_ := zPm.fr hsN135_ hPm_ (by decide) (by decide)
                      have hFq_ : zFin N135_ := zFin.fr hsN135_ ha163_0_hp1_N135_ (by decide) (by decide)
                      have hmq_ : zMvs N135_ = zMvs Mz ++ [zmc (ze Mz 81 12).toNat l_] := (zMvs_f hsN135_ (by decide) (by decide)).trans hmv_
                      have hgf_ : gFin (zMvs Mz ++ [zmc (ze Mz 81 12).toNat l_]) := by rw [← hmq_]; exact hFq_
                      have hfin_ : zbs b_ n_ (ze Mz 81 12).toNat (0, (ze Mz 81 4).toNat, zMvs Mz) = (0, (ze N135_ 81 4).toNat, zMvs N135_) := by rw [hmq_, zbs_t hl0_ (by (exact zo_1366 hc_10 hl33_1_i109_ hml_ p8_)) hl1_ ⟨hsg_, hgf_⟩, ← hx4_, show ze N135_ 81 4 = ze N125_ 81 4 by omega]
                      show zW l m_M_moveLine (zn Mz + 0, zw Mz + 0) N135_ 166 [some (.ref 81), some (.int (Int32.ofInt (ze Mz 81 4))), some (.int (Int32.ofInt u102_)), some (.int (Int32.ofInt u103_)), none] [.int (Int32.ofInt 1)] _
                      refine zr_if_ne (pc := 166) (tgt := 175) ⟨(by decide), (by decide)⟩ (by decide) (zdal_p dlC_M_moveLine_85 (i := 17) rfl) (fun hc_166 => ?_) (fun hc_166 => ?_)
                      · skip
                        exact zr_vret (pc := 175) rfl hf_N135_ ⟨c139_, (show 0 ≤ ze N135_ 81 13 by first | assumption | omega), (show ze N135_ 81 13 ≤ 4 by first | assumption | omega), c138_, hp0_N135_, (show ((1 ≤ ze N135_ 81 7 ∧ zbs b_ n_ (ze Mz 81 12).toNat (0, (ze Mz 81 4).toNat, zMvs Mz) = zMf) ∨ (ze N135_ 81 7 = 0 ∧ zbs b_ n_ (ze Mz 81 12).toNat (0, (ze Mz 81 4).toNat, zMvs Mz) = (0, (ze N135_ 81 4).toNat, zMvs N135_) ∧ zPm N135_ ∧ zFin N135_ ∧ ze Mz 81 4 < ze N135_ 81 4)) from Or.inr (⟨(show ze N135_ 81 7 = 0 by first | omega | exact hfin_ | exact hPq_ | exact hFq_), (show zbs b_ n_ (ze Mz 81 12).toNat (0, (ze Mz 81 4).toNat, zMvs Mz) = (0, (ze N135_ 81 4).toNat, zMvs N135_) by first | omega | exact hfin_ | exact hPq_ | exact hFq_), (show zPm N135_ by first | omega | exact hfin_ | exact hPq_ | exact hFq_), (show zFin N135_ by first | omega | exact hfin_ | exact hPq_ | exact hFq_), (show ze Mz 81 4 < ze N135_ 81 4 by first | omega | exact hfin_ | exact hPq_ | exact hFq_)⟩))⟩ (zdal_p dlC_M_moveLine_85 (i := 22) rfl)
                      · skip
                        exact absurd hc_166 (by decide)
                    · skip
                      have hnf_ := ha163_0_hp1_N135_
                      have hrt_ : zbs b_ n_ (ze Mz 81 12).toNat (0, (ze Mz 81 4).toNat, zMvs Mz) = zMf := zbs_f hl0_ hl1_ (fun q_ => hnf_ (by have h_ := q_.2; rw [← hmv_] at h_; exact h_))
                      show zW l m_M_moveLine (zn Mz + 0, zw Mz + 0) N135_ 166 [some (.ref 81), some (.int (Int32.ofInt (ze Mz 81 4))), some (.int (Int32.ofInt u102_)), some (.int (Int32.ofInt u103_)), none] [.int (Int32.ofInt 0)] _
                      refine zr_if_ne (pc := 166) (tgt := 175) ⟨(by decide), (by decide)⟩ (by decide) (zdal_p dlC_M_moveLine_85 (i := 17) rfl) (fun hc_166 => ?_) (fun hc_166 => ?_)
                      · skip
                        exact absurd hc_166 (by decide)
                      · skip
                        refine zw_aload_n (pc := 169) (n := 0) (x := 81) rfl (zdal_p dlC_M_moveLine_85 (i := 18) rfl) ?_
                        refine zw_iconst (pc := 170) (v := Int32.ofInt 5) (by decide) (zdal_p dlC_M_moveLine_85 (i := 19) rfl) ?_
                        refine zw_iload_n (pc := 171) (n := 1) (x := Int32.ofInt (ze Mz 81 4)) rfl (zdal_p dlC_M_moveLine_85 (i := 20) rfl) ?_
                        refine zr_callV (hf_N135_.w hW) hf_N135_.x (pc := 172) [.int (Int32.ofInt 5), .int (Int32.ofInt (ze Mz 81 4))] [] l_M_168 (c_M_wrongAtF l N135_ (hf_N135_.w hW) 5 (by decide) (by decide) (ze Mz 81 4) (ze_r Mz 81 4).1 (ze_r Mz 81 4).2 (show 1 ≤ 5 by first | assumption | omega)) rfl rfl rfl (by decide) (Nat.le_of_ble_eq_true rfl) (zdal_p dlC_M_moveLine_85 (i := 21) rfl) ?_
                        rintro _ N141_ ⟨rfl, hsN141_, hp0_N141_⟩
                        replace hp0_N141_ : 1 ≤ ze N141_ 81 7 := hp0_N141_
                        have hf_N141_ : zFr [3, 4, 5, 6, 7, 8, 11, 13, 20] [83, 85, 86, 87, 88] Mz N141_ := hf_N135_.tr hsN141_ (by decide) (by decide)
                        have e3_N141_ : ze N141_ 81 3 = ze N135_ 81 3 := hsN141_.e (by decide)
                        have e4_N141_ : ze N141_ 81 4 = ze N135_ 81 4 := hsN141_.e (by decide)
                        have e5_N141_ : ze N141_ 81 5 = ze N135_ 81 5 := hsN141_.e (by decide)
                        have e6_N141_ : ze N141_ 81 6 = ze N135_ 81 6 := hsN141_.e (by decide)
                        have r7_N141_ := ze_r N141_ 81 7
                        have e12_N141_ : ze N141_ 81 12 = ze N135_ 81 12 := hsN141_.e (by decide)
                        have e13_N141_ : ze N141_ 81 13 = ze N135_ 81 13 := hsN141_.e (by decide)
                        have e20_N141_ : ze N141_ 81 20 = ze N135_ 81 20 := hsN141_.e (by decide)
                        have c143_ : zRb b_ n_ N141_ := zRb.fr hsN141_ c137_ (by decide) (by decide)
                        have c144_ : zB 83 24 0 5 N141_ := zB.fr hsN141_ c138_ (by decide) (by decide)
                        have c145_ : zRt b_ n_ N141_ := zRt.fr hsN141_ c139_ (by decide) (by decide)
                        have c146_ : zPm N141_ := zPm.fr hsN141_ c140_ (by decide) (by decide)
                        have c147_ : zB 85 144 0 5 N141_ := zB.fr hsN141_ hp0_N135_ (by decide) (by decide)
                        show zW l m_M_moveLine (zn Mz + 0, zw Mz + 0) N141_ 175 [some (.ref 81), some (.int (Int32.ofInt (ze Mz 81 4))), some (.int (Int32.ofInt u102_)), some (.int (Int32.ofInt u103_)), none] [] _
                        exact zr_vret (pc := 175) rfl hf_N141_ ⟨c145_, (show 0 ≤ ze N141_ 81 13 by first | assumption | omega), (show ze N141_ 81 13 ≤ 4 by first | assumption | omega), c144_, c147_, (show ((1 ≤ ze N141_ 81 7 ∧ zbs b_ n_ (ze Mz 81 12).toNat (0, (ze Mz 81 4).toNat, zMvs Mz) = zMf) ∨ (ze N141_ 81 7 = 0 ∧ zbs b_ n_ (ze Mz 81 12).toNat (0, (ze Mz 81 4).toNat, zMvs Mz) = (0, (ze N141_ 81 4).toNat, zMvs N141_) ∧ zPm N141_ ∧ zFin N141_ ∧ ze Mz 81 4 < ze N141_ 81 4)) from Or.inl (⟨(show 1 ≤ ze N141_ 81 7 by first | assumption | omega | exact hrt_ | exact hrt2_), (show zbs b_ n_ (ze Mz 81 12).toNat (0, (ze Mz 81 4).toNat, zMvs Mz) = zMf by first | assumption | omega | exact hrt_ | exact hrt2_)⟩))⟩ (zdal_p dlC_M_moveLine_85 (i := 22) rfl)
                  · skip
                    exfalso; (exact zo_1328 ha141_0_hp1_N125_ hc_148)
              · skip
                refine zw_aload_n (pc := 41) (n := 0) (x := 81) rfl (zdal_p dlC_M_moveLine_82 (i := 23) rfl) ?_
                refine zr_callV (hf_N104_.w hW) hf_N104_.x (pc := 42) [] [] l_M_183 (c_M_isGood l N104_ (hf_N104_.w hW) ) rfl rfl rfl (by decide) (Nat.le_of_ble_eq_true rfl) (zdal_p dlC_M_moveLine_83 (i := 0) rfl) ?_
                rintro _ N148_ ⟨v149_, rfl, ⟨hv149_a, hv149_b⟩, hsN148_, hp0_N148_⟩
                obtain rfl := hsN148_.eq.symm
                replace hp0_N148_ : ((v149_ = 1 ∧ ze N104_ 81 7 = 0) ∨ (v149_ = 0 ∧ ze N104_ 81 7 ≠ 0)) := hp0_N148_
                rcases hp0_N148_ with ⟨rfl, ha42_0_hp0_N148_⟩ | ⟨rfl, ha42_0_hp0_N148_⟩
                · skip
                  show zW l m_M_moveLine (zn Mz + 0, zw Mz + 0) N104_ 45 [some (.ref 81), some (.int (Int32.ofInt (ze Mz 81 4))), some (.int (Int32.ofInt u102_)), some (.int (Int32.ofInt u103_)), none] [.int (Int32.ofInt 1)] _
                  refine zr_if_eq (pc := 45) (tgt := 138) ⟨(by decide), (by decide)⟩ (by decide) (zdal_p dlC_M_moveLine_83 (i := 1) rfl) (fun hc_45 => ?_) (fun hc_45 => ?_)
                  · skip
                    exact absurd hc_45 (by decide)
                  · skip
                    have hyt_ := i106_
                    have hyx_ := hyt_.x
                    have h5_ := hyt_.2.2.1
                    refine zw_aload_n (pc := 48) (n := 0) (x := 81) rfl (zdal_p dlC_M_moveLine_83 (i := 2) rfl) ?_
                    refine zr_getI (hf_N104_.w hW) (pc := 49) f_M_155 rfl (zdal_p dlC_M_moveLine_83 (i := 3) rfl) ?_
                    refine zw_iconst (pc := 52) (v := Int32.ofInt 2) (by decide) (zdal_p dlC_M_moveLine_83 (i := 4) rfl) ?_
                    refine zr_icmp_eq (pc := 53) (tgt := 61) ⟨(ze_r N104_ 81 5).1, (ze_r N104_ 81 5).2⟩ ⟨(by decide), (by decide)⟩ (by decide) (zdal_p dlC_M_moveLine_83 (i := 5) rfl) (fun hc_53 => ?_) (fun hc_53 => ?_)
                    · skip
                      have hv2_ : ze N104_ 81 7 = 0 → ze N104_ 81 6 = znu b_ n_ (ze N104_ 81 4).toNat ∧ 0 ≤ ze N104_ 81 6 ∧ ze N104_ 81 6 ≤ 999 := fun q_ => i106_.v2 (by (exact zo_759 h5_ hc_53))
                      refine zw_aload_n (pc := 61) (n := 0) (x := 81) rfl (zdal_p dlC_M_moveLine_83 (i := 9) rfl) ?_
                      refine zr_getI (hf_N104_.w hW) (pc := 62) f_M_152 rfl (zdal_p dlC_M_moveLine_83 (i := 10) rfl) ?_
                      refine zw_istore (pc := 65) (i := 4) (L2 := [some (.ref 81), some (.int (Int32.ofInt (ze Mz 81 4))), some (.int (Int32.ofInt u102_)), some (.int (Int32.ofInt u103_)), some (.int (Int32.ofInt (ze N104_ 81 6)))]) (by decide) rfl (zdal_p dlC_M_moveLine_83 (i := 11) rfl) ?_
                      refine zw_aload_n (pc := 67) (n := 0) (x := 81) rfl (zdal_p dlC_M_moveLine_83 (i := 12) rfl) ?_
                      refine zr_callV (hf_N104_.w hW) hf_N104_.x (pc := 68) [] [] l_M_183 (c_M_isGood l N104_ (hf_N104_.w hW) ) rfl rfl rfl (by decide) (Nat.le_of_ble_eq_true rfl) (zdal_p dlC_M_moveLine_83 (i := 13) rfl) ?_
                      rintro _ N150_ ⟨v151_, rfl, ⟨hv151_a, hv151_b⟩, hsN150_, hp0_N150_⟩
                      obtain rfl := hsN150_.eq.symm
                      replace hp0_N150_ : ((v151_ = 1 ∧ ze N104_ 81 7 = 0) ∨ (v151_ = 0 ∧ ze N104_ 81 7 ≠ 0)) := hp0_N150_
                      rcases hp0_N150_ with ⟨rfl, ha68_0_hp0_N150_⟩ | ⟨rfl, ha68_0_hp0_N150_⟩
                      · skip
                        show zW l m_M_moveLine (zn Mz + 0, zw Mz + 0) N104_ 71 [some (.ref 81), some (.int (Int32.ofInt (ze Mz 81 4))), some (.int (Int32.ofInt u102_)), some (.int (Int32.ofInt u103_)), some (.int (Int32.ofInt (ze N104_ 81 6)))] [.int (Int32.ofInt 1)] _
                        refine zr_if_eq (pc := 71) (tgt := 97) ⟨(by decide), (by decide)⟩ (by decide) (zdal_p dlC_M_moveLine_83 (i := 14) rfl) (fun hc_71 => ?_) (fun hc_71 => ?_)
                        · skip
                          exact absurd hc_71 (by decide)
                        · skip
                          refine zw_iload (pc := 74) (i := 4) (x := Int32.ofInt (ze N104_ 81 6)) rfl (zdal_p dlC_M_moveLine_83 (i := 15) rfl) ?_
                          refine zw_aload_n (pc := 76) (n := 0) (x := 81) rfl (zdal_p dlC_M_moveLine_83 (i := 16) rfl) ?_
                          refine zr_getI0 hf_N104_ hW (pc := 77) (by decide) f_M_115 rfl (zdal_p dlC_M_moveLine_83 (i := 17) rfl) ?_
                          refine zr_icmp_ge (pc := 80) (tgt := 92) ⟨(ze_r N104_ 81 6).1, (ze_r N104_ 81 6).2⟩ ⟨(ze_r Mz 81 12).1, (ze_r Mz 81 12).2⟩ (by decide) (zdal_p dlC_M_moveLine_83 (i := 18) rfl) (fun hc_80 => ?_) (fun hc_80 => ?_)
                          · skip
                            have hno_ : zrm b_ n_ (ze Mz 81 12).toNat (ze Mz 81 12).toNat (znx b_ n_ (ze Mz 81 4).toNat) [] = none := zMrI_f hmi_ (by (exact i107_)) (by (exact zo_1347 hc_38)) (fun q_ => by have h1_ := q_.2.1; have h2_ := hv2_ (by (exact hl33_0_i109_)); first | (exact zo_1367 hc_10 hl33_1_i109_) | (have h3_ := q_.2.2; rw [← h2_.1] at h3_; exact h3_ hbt_)) (by (exact zo_1340 p5_ p6_))
                            have hrt_ : zbs b_ n_ (ze Mz 81 12).toNat (0, (ze Mz 81 4).toNat, zMvs Mz) = zMf := zbs_n hl0_ hno_
                            refine zw_aload_n (pc := 92) (n := 0) (x := 81) rfl (zdal_p dlC_M_moveLine_83 (i := 23) rfl) ?_
                            refine zw_iconst (pc := 93) (v := Int32.ofInt 4) (by decide) (zdal_p dlC_M_moveLine_84 (i := 0) rfl) ?_
                            refine zr_callV (hf_N104_.w hW) hf_N104_.x (pc := 94) [.int (Int32.ofInt 4)] [] l_M_190 (c_M_wrongF l N104_ (hf_N104_.w hW) 4 (by decide) (by decide) (show 1 ≤ 4 by first | assumption | (decide))) rfl rfl rfl (by decide) (Nat.le_of_ble_eq_true rfl) (zdal_p dlC_M_moveLine_84 (i := 1) rfl) ?_
                            rintro _ N152_ ⟨rfl, hsN152_, hp0_N152_⟩
                            replace hp0_N152_ : 1 ≤ ze N152_ 81 7 := hp0_N152_
                            have hf_N152_ : zFr [3, 4, 5, 6, 7, 8, 11, 13, 20] [83, 85, 86, 87, 88] Mz N152_ := hf_N104_.tr hsN152_ (by decide) (by decide)
                            have hb0_N152_ : zFr [3, 4, 5, 6, 7, 8, 11] [83] N93_ N152_ := hs105_.tr hsN152_ (by decide) (by decide)
                            have e3_N152_ : ze N152_ 81 3 = ze N104_ 81 3 := hsN152_.e (by decide)
                            have e4_N152_ : ze N152_ 81 4 = ze N104_ 81 4 := hsN152_.e (by decide)
                            have e5_N152_ : ze N152_ 81 5 = ze N104_ 81 5 := hsN152_.e (by decide)
                            have e6_N152_ : ze N152_ 81 6 = ze N104_ 81 6 := hsN152_.e (by decide)
                            have r7_N152_ := ze_r N152_ 81 7
                            have e12_N152_ : ze N152_ 81 12 = ze N104_ 81 12 := hsN152_.e (by decide)
                            have e13_N152_ : ze N152_ 81 13 = ze N104_ 81 13 := hsN152_.e (by decide)
                            have e20_N152_ : ze N152_ 81 20 = ze N104_ 81 20 := hsN152_.e (by decide)
                            have c154_ : zRb b_ n_ N152_ := zRb.fr hsN152_ c111_ (by decide) (by decide)
                            have c155_ : zB 85 144 0 5 N152_ := zB.fr hsN152_ c112_ (by decide) (by decide)
                            have c156_ : zRt b_ n_ N152_ := zRt.fr hsN152_ i106_ (by decide) (by decide)
                            have c157_ : zB 83 24 0 5 N152_ := zB.fr hsN152_ i110_ (by decide) (by decide)
                            show zW l m_M_moveLine (zn Mz + 0, zw Mz + 0) N152_ 97 [some (.ref 81), some (.int (Int32.ofInt (ze Mz 81 4))), some (.int (Int32.ofInt u102_)), some (.int (Int32.ofInt u103_)), some (.int (Int32.ofInt (ze N104_ 81 6)))] [] _
                            refine zw_aload_n (pc := 97) (n := 0) (x := 81) rfl d_M_moveLine_97 ?_
                            refine zr_getI (hf_N152_.w hW) (pc := 98) f_M_172 rfl d_M_moveLine_98 ?_
                            refine zr_if_le (pc := 101) (tgt := 105) ⟨(ze_r N152_ 81 7).1, (ze_r N152_ 81 7).2⟩ (by decide) d_M_moveLine_101 (fun hc_101 => ?_) (fun hc_101 => ?_)
                            · skip
                              exfalso; (exact zo_1329 hc_101 hp0_N152_)
                            · skip
                              exact zr_vret (pc := 104) rfl hf_N152_ ⟨c156_, (show 0 ≤ ze N152_ 81 13 by first | assumption | (exact zo_1362 e13_N104_ e13_N152_ e13_N93_ hc_10)), (show ze N152_ 81 13 ≤ 4 by first | assumption | (exact zo_1335 e13_N104_ e13_N152_ e13_N93_ p8_)), c157_, c155_, (show ((1 ≤ ze N152_ 81 7 ∧ zbs b_ n_ (ze Mz 81 12).toNat (0, (ze Mz 81 4).toNat, zMvs Mz) = zMf) ∨ (ze N152_ 81 7 = 0 ∧ zbs b_ n_ (ze Mz 81 12).toNat (0, (ze Mz 81 4).toNat, zMvs Mz) = (0, (ze N152_ 81 4).toNat, zMvs N152_) ∧ zPm N152_ ∧ zFin N152_ ∧ ze Mz 81 4 < ze N152_ 81 4)) from Or.inl (⟨(show 1 ≤ ze N152_ 81 7 by first | assumption | omega | exact hrt_ | exact hrt2_), (show zbs b_ n_ (ze Mz 81 12).toNat (0, (ze Mz 81 4).toNat, zMvs Mz) = zMf by first | assumption | omega | exact hrt_ | exact hrt2_)⟩))⟩ d_M_moveLine_104
                          · skip
                            refine zw_iload_n (pc := 83) (n := 2) (x := Int32.ofInt u102_) rfl (zdal_p dlC_M_moveLine_83 (i := 19) rfl) ?_
                            refine zw_iload (pc := 84) (i := 4) (x := Int32.ofInt (ze N104_ 81 6)) rfl (zdal_p dlC_M_moveLine_83 (i := 20) rfl) ?_
                            refine zr_callS hf_N104_.x (pc := 86) [.int (Int32.ofInt u102_), .int (Int32.ofInt (ze N104_ 81 6))] [] l_M_213 (c_M_holds l N104_ (hf_N104_.w hW) u102_ hu102_a hu102_b (ze N104_ 81 6) (ze_r N104_ 81 6).1 (ze_r N104_ 81 6).2 (show 0 ≤ u102_ by first | assumption | (exact zo_57 hme_.1)) (show 0 ≤ (ze N104_ 81 6) by first | assumption | omega) (show (ze N104_ 81 6) < 32 by first | assumption | (exact zo_1351 hc_80 p6_ r6_N104_.2))) rfl rfl (by decide) (Nat.le_of_ble_eq_true rfl) (zdal_p dlC_M_moveLine_83 (i := 21) rfl) ?_
                            rintro _ N158_ ⟨v159_, rfl, ⟨hv159_a, hv159_b⟩, hsN158_, hp0_N158_⟩
                            obtain rfl := hsN158_.eq.symm
                            replace hp0_N158_ : ((v159_ = 1 ∧ zbt u102_ (ze N104_ 81 6)) ∨ (v159_ = 0 ∧ ¬ zbt u102_ (ze N104_ 81 6))) := hp0_N158_
                            rcases hp0_N158_ with ⟨rfl, ha86_0_hp0_N158_⟩ | ⟨rfl, ha86_0_hp0_N158_⟩
                            · skip
                              have hbt_ := ha86_0_hp0_N158_
                              show zW l m_M_moveLine (zn Mz + 0, zw Mz + 0) N104_ 89 [some (.ref 81), some (.int (Int32.ofInt (ze Mz 81 4))), some (.int (Int32.ofInt u102_)), some (.int (Int32.ofInt u103_)), some (.int (Int32.ofInt (ze N104_ 81 6)))] [.int (Int32.ofInt 1)] _
                              refine zr_if_eq (pc := 89) (tgt := 97) ⟨(by decide), (by decide)⟩ (by decide) (zdal_p dlC_M_moveLine_83 (i := 22) rfl) (fun hc_89 => ?_) (fun hc_89 => ?_)
                              · skip
                                exact absurd hc_89 (by decide)
                              · skip
                                have hno_ : zrm b_ n_ (ze Mz 81 12).toNat (ze Mz 81 12).toNat (znx b_ n_ (ze Mz 81 4).toNat) [] = none := zMrI_f hmi_ (by (exact i107_)) (by (exact zo_1347 hc_38)) (fun q_ => by have h1_ := q_.2.1; have h2_ := hv2_ (by (exact hl33_0_i109_)); first | (exact zo_1367 hc_10 hl33_1_i109_) | (have h3_ := q_.2.2; rw [← h2_.1] at h3_; exact h3_ hbt_)) (by (exact zo_1340 p5_ p6_))
                                have hrt_ : zbs b_ n_ (ze Mz 81 12).toNat (0, (ze Mz 81 4).toNat, zMvs Mz) = zMf := zbs_n hl0_ hno_
                                refine zw_aload_n (pc := 92) (n := 0) (x := 81) rfl (zdal_p dlC_M_moveLine_83 (i := 23) rfl) ?_
                                refine zw_iconst (pc := 93) (v := Int32.ofInt 4) (by decide) (zdal_p dlC_M_moveLine_84 (i := 0) rfl) ?_
                                refine zr_callV (hf_N104_.w hW) hf_N104_.x (pc := 94) [.int (Int32.ofInt 4)] [] l_M_190 (c_M_wrongF l N104_ (hf_N104_.w hW) 4 (by decide) (by decide) (show 1 ≤ 4 by first | assumption | (decide))) rfl rfl rfl (by decide) (Nat.le_of_ble_eq_true rfl) (zdal_p dlC_M_moveLine_84 (i := 1) rfl) ?_
                                rintro _ N160_ ⟨rfl, hsN160_, hp0_N160_⟩
                                replace hp0_N160_ : 1 ≤ ze N160_ 81 7 := hp0_N160_
                                have hf_N160_ : zFr [3, 4, 5, 6, 7, 8, 11, 13, 20] [83, 85, 86, 87, 88] Mz N160_ := hf_N104_.tr hsN160_ (by decide) (by decide)
                                have hb0_N160_ : zFr [3, 4, 5, 6, 7, 8, 11] [83] N93_ N160_ := hs105_.tr hsN160_ (by decide) (by decide)
                                have e3_N160_ : ze N160_ 81 3 = ze N104_ 81 3 := hsN160_.e (by decide)
                                have e4_N160_ : ze N160_ 81 4 = ze N104_ 81 4 := hsN160_.e (by decide)
                                have e5_N160_ : ze N160_ 81 5 = ze N104_ 81 5 := hsN160_.e (by decide)
                                have e6_N160_ : ze N160_ 81 6 = ze N104_ 81 6 := hsN160_.e (by decide)
                                have r7_N160_ := ze_r N160_ 81 7
                                have e12_N160_ : ze N160_ 81 12 = ze N104_ 81 12 := hsN160_.e (by decide)
                                have e13_N160_ : ze N160_ 81 13 = ze N104_ 81 13 := hsN160_.e (by decide)
                                have e20_N160_ : ze N160_ 81 20 = ze N104_ 81 20 := hsN160_.e (by decide)
                                have c162_ : zRb b_ n_ N160_ := zRb.fr hsN160_ c111_ (by decide) (by decide)
                                have c163_ : zB 85 144 0 5 N160_ := zB.fr hsN160_ c112_ (by decide) (by decide)
                                have c164_ : zRt b_ n_ N160_ := zRt.fr hsN160_ i106_ (by decide) (by decide)
                                have c165_ : zB 83 24 0 5 N160_ := zB.fr hsN160_ i110_ (by decide) (by decide)
                                show zW l m_M_moveLine (zn Mz + 0, zw Mz + 0) N160_ 97 [some (.ref 81), some (.int (Int32.ofInt (ze Mz 81 4))), some (.int (Int32.ofInt u102_)), some (.int (Int32.ofInt u103_)), some (.int (Int32.ofInt (ze N104_ 81 6)))] [] _
                                refine zw_aload_n (pc := 97) (n := 0) (x := 81) rfl d_M_moveLine_97 ?_
                                refine zr_getI (hf_N160_.w hW) (pc := 98) f_M_172 rfl d_M_moveLine_98 ?_
                                refine zr_if_le (pc := 101) (tgt := 105) ⟨(ze_r N160_ 81 7).1, (ze_r N160_ 81 7).2⟩ (by decide) d_M_moveLine_101 (fun hc_101 => ?_) (fun hc_101 => ?_)
                                · skip
                                  exfalso; (exact zo_1329 hc_101 hp0_N160_)
                                · skip
                                  exact zr_vret (pc := 104) rfl hf_N160_ ⟨c164_, (show 0 ≤ ze N160_ 81 13 by first | assumption | (exact zo_1362 e13_N104_ e13_N160_ e13_N93_ hc_10)), (show ze N160_ 81 13 ≤ 4 by first | assumption | (exact zo_1335 e13_N104_ e13_N160_ e13_N93_ p8_)), c165_, c163_, (show ((1 ≤ ze N160_ 81 7 ∧ zbs b_ n_ (ze Mz 81 12).toNat (0, (ze Mz 81 4).toNat, zMvs Mz) = zMf) ∨ (ze N160_ 81 7 = 0 ∧ zbs b_ n_ (ze Mz 81 12).toNat (0, (ze Mz 81 4).toNat, zMvs Mz) = (0, (ze N160_ 81 4).toNat, zMvs N160_) ∧ zPm N160_ ∧ zFin N160_ ∧ ze Mz 81 4 < ze N160_ 81 4)) from Or.inl (⟨(show 1 ≤ ze N160_ 81 7 by first | assumption | omega | exact hrt_ | exact hrt2_), (show zbs b_ n_ (ze Mz 81 12).toNat (0, (ze Mz 81 4).toNat, zMvs Mz) = zMf by first | assumption | omega | exact hrt_ | exact hrt2_)⟩))⟩ d_M_moveLine_104
                            · skip
                              have hnb_ := ha86_0_hp0_N158_
                              show zW l m_M_moveLine (zn Mz + 0, zw Mz + 0) N104_ 89 [some (.ref 81), some (.int (Int32.ofInt (ze Mz 81 4))), some (.int (Int32.ofInt u102_)), some (.int (Int32.ofInt u103_)), some (.int (Int32.ofInt (ze N104_ 81 6)))] [.int (Int32.ofInt 0)] _
                              refine zr_if_eq (pc := 89) (tgt := 97) ⟨(by decide), (by decide)⟩ (by decide) (zdal_p dlC_M_moveLine_83 (i := 22) rfl) (fun hc_89 => ?_) (fun hc_89 => ?_)
                              · skip
                                refine zw_aload_n (pc := 97) (n := 0) (x := 81) rfl d_M_moveLine_97 ?_
                                refine zr_getI (hf_N104_.w hW) (pc := 98) f_M_172 rfl d_M_moveLine_98 ?_
                                refine zr_if_le (pc := 101) (tgt := 105) ⟨(ze_r N104_ 81 7).1, (ze_r N104_ 81 7).2⟩ (by decide) d_M_moveLine_101 (fun hc_101 => ?_) (fun hc_101 => ?_)
                                · skip
                                  have hv3_ := hv2_ (by (exact hl33_0_i109_))
                                  refine zw_iload_n (pc := 105) (n := 2) (x := Int32.ofInt u102_) rfl (zdal_p dlC_M_moveLine_84 (i := 6) rfl) ?_
                                  refine zw_iconst (pc := 106) (v := Int32.ofInt 1) (by decide) (zdal_p dlC_M_moveLine_84 (i := 7) rfl) ?_
                                  refine zw_iload (pc := 107) (i := 4) (x := Int32.ofInt (ze N104_ 81 6)) rfl (zdal_p dlC_M_moveLine_84 (i := 8) rfl) ?_
                                  refine zr_ishl (pc := 109) (zdal_p dlC_M_moveLine_84 (i := 9) rfl) ?_
                                  have hr166_ := zshl_r 1 (ze N104_ 81 6)
                                  refine zr_ior (pc := 110) (zdal_p dlC_M_moveLine_84 (i := 10) rfl) ?_
                                  have hr167_ := zor_r u102_ (zshl 1 (ze N104_ 81 6))
                                  refine zw_istore_n (pc := 111) (i := 2) (L2 := [some (.ref 81), some (.int (Int32.ofInt (ze Mz 81 4))), some (.int (Int32.ofInt (zor u102_ (zshl 1 (ze N104_ 81 6))))), some (.int (Int32.ofInt u103_)), some (.int (Int32.ofInt (ze N104_ 81 6)))]) rfl (by decide) rfl (zdal_p dlC_M_moveLine_84 (i := 11) rfl) ?_
                                  refine zw_aload_n (pc := 112) (n := 0) (x := 81) rfl (zdal_p dlC_M_moveLine_84 (i := 12) rfl) ?_
                                  refine zr_getF (r := 83) (hf_N104_.w hW) (pc := 113) f_M_20 rfl (zh_83 (hf_N104_.w hW)).1 (zdal_p dlC_M_moveLine_84 (i := 13) rfl) ?_
                                  refine zw_bipush (pc := 116) (v := Int32.ofInt 6) (by decide) (zdal_p dlC_M_moveLine_84 (i := 14) rfl) ?_
                                  refine zw_aload_n (pc := 118) (n := 0) (x := 81) rfl (zdal_p dlC_M_moveLine_84 (i := 15) rfl) ?_
                                  refine zr_getI (hf_N104_.w hW) (pc := 119) f_M_199 rfl (zdal_p dlC_M_moveLine_84 (i := 16) rfl) ?_
                                  refine zr_imul (pc := 122) (zdal_p dlC_M_moveLine_84 (i := 17) rfl) ?_
                                  refine zw_iload_n (pc := 123) (n := 3) (x := Int32.ofInt u103_) rfl (zdal_p dlC_M_moveLine_84 (i := 18) rfl) ?_
                                  refine zr_iadd (pc := 124) (zdal_p dlC_M_moveLine_84 (i := 19) rfl) ?_
                                  refine zr_toI (show ((6 * (ze N104_ 81 13)) + u103_) = 6 * ze Mz 81 13 + u103_ by (exact zo_1352 e13_N104_ e13_N93_)) ?_
                                  refine zw_iload (pc := 125) (i := 4) (x := Int32.ofInt (ze N104_ 81 6)) rfl (zdal_p dlC_M_moveLine_84 (i := 20) rfl) ?_
                                  refine zr_iast (pc := 127) (zh_83 (hf_N104_.w hW)).2 (by decide) (by decide) (by (exact zo_1368 hc_10 i107_)) (by (exact zo_1353 hc_38 hl33_1_i109_ p6_)) (zdal_p dlC_M_moveLine_84 (i := 21) rfl) (fun N168_ hN168_ hsN168_ => ?_)
                                  have hf_N168_ : zFr [3, 4, 5, 6, 7, 8, 11, 13, 20] [83, 85, 86, 87, 88] Mz N168_ := hf_N104_.tr hsN168_ (by decide) (by decide)
                                  have hb0_N168_ : zFr [3, 4, 5, 6, 7, 8, 11] [83] N93_ N168_ := hs105_.tr hsN168_ (by decide) (by decide)
                                  have e3_N168_ : ze N168_ 81 3 = ze N104_ 81 3 := hsN168_.e (by decide)
                                  have e4_N168_ : ze N168_ 81 4 = ze N104_ 81 4 := hsN168_.e (by decide)
                                  have e5_N168_ : ze N168_ 81 5 = ze N104_ 81 5 := hsN168_.e (by decide)
                                  have e6_N168_ : ze N168_ 81 6 = ze N104_ 81 6 := hsN168_.e (by decide)
                                  have e7_N168_ : ze N168_ 81 7 = ze N104_ 81 7 := hsN168_.e (by decide)
                                  have e12_N168_ : ze N168_ 81 12 = ze N104_ 81 12 := hsN168_.e (by decide)
                                  have e13_N168_ : ze N168_ 81 13 = ze N104_ 81 13 := hsN168_.e (by decide)
                                  have e20_N168_ : ze N168_ 81 20 = ze N104_ 81 20 := hsN168_.e (by decide)
                                  have c169_ : zRb b_ n_ N168_ := zRb.fr hsN168_ c111_ (by decide) (by decide)
                                  have c170_ : zB 85 144 0 5 N168_ := zB.fr hsN168_ c112_ (by decide) (by decide)
                                  have c171_ : zRt b_ n_ N168_ := zRt.fr hsN168_ i106_ (by decide) (by decide)
                                  have c172_ : zB 83 24 0 5 N168_ := zB.s i110_ hN168_ (by (exact zo_57 hv3_.2.1)) (by (exact zo_1354 hc_80 hv3_.2.2 p6_)) (by decide) (by decide)
                                  have hK1_ := zKp_s hkp_ (by (exact zo_1355 i107_)) (by (exact zo_1368 hc_10 i107_)) hN168_
                                  have hyt_ := c171_
                                  have hyx_ := hyt_.x
                                  refine zw_aload_n (pc := 128) (n := 0) (x := 81) rfl (zdal_p dlC_M_moveLine_84 (i := 22) rfl) ?_
                                  refine zr_callV (hf_N168_.w hW) hf_N168_.x (pc := 129) [] [] l_M_193 (c_M_goOnF l N168_ (hf_N168_.w hW) b_ n_ c169_ (show 0 ≤ ze N168_ 81 3 by first | assumption | (exact zo_57 hyx_.2.1)) (show ze N168_ 81 3 ≤ n_ by first | assumption | (exact zo_605 hyx_.2.2))) rfl rfl rfl (by decide) (Nat.le_of_ble_eq_true rfl) (zdal_p dlC_M_moveLine_84 (i := 23) rfl) ?_
                                  rintro _ N173_ ⟨rfl, hsN173_, ⟨hp0_N173_, hp1_N173_⟩⟩
                                  have hf_N173_ : zFr [3, 4, 5, 6, 7, 8, 11, 13, 20] [83, 85, 86, 87, 88] Mz N173_ := hf_N168_.tr hsN173_ (by decide) (by decide)
                                  have hb0_N173_ : zFr [3, 4, 5, 6, 7, 8, 11] [83] N93_ N173_ := hb0_N168_.tr hsN173_ (by decide) (by decide)
                                  have r3_N173_ := ze_r N173_ 81 3
                                  have r4_N173_ := ze_r N173_ 81 4
                                  have r5_N173_ := ze_r N173_ 81 5
                                  have r6_N173_ := ze_r N173_ 81 6
                                  have e7_N173_ : ze N173_ 81 7 = ze N168_ 81 7 := hsN173_.e (by decide)
                                  have e12_N173_ : ze N173_ 81 12 = ze N168_ 81 12 := hsN173_.e (by decide)
                                  have e13_N173_ : ze N173_ 81 13 = ze N168_ 81 13 := hsN173_.e (by decide)
                                  have e20_N173_ : ze N173_ 81 20 = ze N168_ 81 20 := hsN173_.e (by decide)
                                  have c175_ : zRb b_ n_ N173_ := zRb.fr hsN173_ c169_ (by decide) (by decide)
                                  have c176_ : zB 85 144 0 5 N173_ := zB.fr hsN173_ c170_ (by decide) (by decide)
                                  have c177_ : zB 83 24 0 5 N173_ := zB.fr hsN173_ c172_ (by decide) (by decide)
                                  show zW l m_M_moveLine (zn Mz + 0, zw Mz + 0) N173_ 132 [some (.ref 81), some (.int (Int32.ofInt (ze Mz 81 4))), some (.int (Int32.ofInt (zor u102_ (zshl 1 (ze N104_ 81 6))))), some (.int (Int32.ofInt u103_)), some (.int (Int32.ofInt (ze N104_ 81 6)))] [] _
                                  have hnn_ := hyt_.nx hp0_N173_
                                  have hR2_ := zMrI_s (M := N104_) (N := N168_) (N2 := N173_) hmi_ (by (exact i107_)) (by (exact zo_1347 hc_38)) (by (exact zo_1340 p5_ p6_)) (by (exact p7_)) (by omega) hv3_.1 (by (exact zo_57 hv3_.2.1)) (by (exact zo_1356 hc_80 hv3_.2.2)) hnb_ hN168_ (fun j_ => hsN173_.ie (by decide) (by decide) j_) (hnn_.2.trans (by rw [show ze N168_ 81 4 = ze N104_ 81 4 by (exact e4_N168_)]))
                                  have hK2_ := zKp.fr hsN173_ hK1_ (by decide)
                                  have hg2_ := znx_ge (b := b_) (n := n_) (s := (ze N168_ 81 4).toNat)
                                  refine zr_iinc (pc := 132) (i := 3) (a := u103_) (n := 1) (L2 := [some (.ref 81), some (.int (Int32.ofInt (ze Mz 81 4))), some (.int (Int32.ofInt (zor u102_ (zshl 1 (ze N104_ 81 6))))), some (.int (Int32.ofInt (u103_ + 1))), some (.int (Int32.ofInt (ze N104_ 81 6)))]) rfl (by decide) rfl (zdal_p dlC_M_moveLine_85 (i := 0) rfl) ?_
                                  refine zw_goto (pc := 135) (tgt := 33) (by decide) (zdal_p dlC_M_moveLine_85 (i := 1) rfl) ?_
                                  refine zW_le [some (.ref 81), some (.int (Int32.ofInt (ze Mz 81 4))), some (.int (Int32.ofInt (zor u102_ (zshl 1 (ze N104_ 81 6))))), some (.int (Int32.ofInt (u103_ + 1))), none] (⟨rfl, rfl, rfl, rfl, trivial⟩) ?_
                                  exact ih_33 (zor u102_ (zshl 1 (ze N104_ 81 6))) (by (exact zo_284 hr167_.1)) (by (exact zo_285 hr167_.2)) (u103_ + 1) (by (exact zo_74 i107_)) (by (exact zo_671 hc_38 p6_)) N173_ hb0_N173_ hp1_N173_ (show 0 ≤ (u103_ + 1) by first | assumption | (exact zo_76 i107_)) (show (u103_ + 1) ≤ ze Mz 81 12 by first | assumption | omega) (show (1 ≤ ze N173_ 81 7 ∧ zbs b_ n_ (ze Mz 81 12).toNat (0, (ze Mz 81 4).toNat, zMvs Mz) = zMf) ∨ (ze N173_ 81 7 = 0 ∧ ze Mz 81 13 ≤ 3 ∧ zMrI b_ n_ (ze Mz 81 12).toNat (znx b_ n_ (ze Mz 81 4).toNat) (ze Mz 81 13) N173_ (u103_ + 1) (zor u102_ (zshl 1 (ze N104_ 81 6))) ∧ zKp Mz N173_ (6 * ze Mz 81 13) ∧ ze Mz 81 4 < ze N173_ 81 4) from Or.inr (⟨(show ze N173_ 81 7 = 0 by first | assumption | (exact zo_596 e7_N168_ e7_N173_ hl33_0_i109_) | exact hR2_ | exact hK2_), (show ze Mz 81 13 ≤ 3 by first | assumption | omega | exact hR2_ | exact hK2_), (show zMrI b_ n_ (ze Mz 81 12).toNat (znx b_ n_ (ze Mz 81 4).toNat) (ze Mz 81 13) N173_ (u103_ + 1) (zor u102_ (zshl 1 (ze N104_ 81 6))) by first | assumption | omega | exact hR2_ | exact hK2_), (show zKp Mz N173_ (6 * ze Mz 81 13) by first | assumption | omega | exact hR2_ | exact hK2_), (show ze Mz 81 4 < ze N173_ 81 4 by first | assumption | (exact zo_1357 e4_N168_ hg2_ hl33_4_i109_ hnn_.2 hp0_N173_ r4_N173_.1 r_4.2) | exact hR2_ | exact hK2_)⟩)) c177_ (by (exact zo_147 hc_38 hlt_33))
                                · skip
                                  exfalso; (exact zo_1358 hc_101 hl33_0_i109_)
                              · skip
                                exact absurd hc_89 (by decide)
                      · skip
                        exfalso; (exact zo_1367 hc_10 hl33_1_i109_)
                    · skip
                      have hno_ : zrm b_ n_ (ze Mz 81 12).toNat (ze Mz 81 12).toNat (znx b_ n_ (ze Mz 81 4).toNat) [] = none := zMrI_f hmi_ (by (exact i107_)) (by (exact zo_1347 hc_38)) (fun q_ => by have h1_ := q_.1; (exact zo_1367 hc_10 hl33_1_i109_)) (by (exact zo_1340 p5_ p6_))
                      have hrt_ : zbs b_ n_ (ze Mz 81 12).toNat (0, (ze Mz 81 4).toNat, zMvs Mz) = zMf := zbs_n hl0_ hno_
                      refine zw_aload_n (pc := 56) (n := 0) (x := 81) rfl (zdal_p dlC_M_moveLine_83 (i := 6) rfl) ?_
                      refine zw_iconst (pc := 57) (v := Int32.ofInt 2) (by decide) (zdal_p dlC_M_moveLine_83 (i := 7) rfl) ?_
                      refine zr_callV (hf_N104_.w hW) hf_N104_.x (pc := 58) [.int (Int32.ofInt 2)] [] l_M_190 (c_M_wrongF l N104_ (hf_N104_.w hW) 2 (by decide) (by decide) (show 1 ≤ 2 by first | assumption | (decide))) rfl rfl rfl (by decide) (Nat.le_of_ble_eq_true rfl) (zdal_p dlC_M_moveLine_83 (i := 8) rfl) ?_
                      rintro _ N178_ ⟨rfl, hsN178_, hp0_N178_⟩
                      replace hp0_N178_ : 1 ≤ ze N178_ 81 7 := hp0_N178_
                      have hf_N178_ : zFr [3, 4, 5, 6, 7, 8, 11, 13, 20] [83, 85, 86, 87, 88] Mz N178_ := hf_N104_.tr hsN178_ (by decide) (by decide)
                      have hb0_N178_ : zFr [3, 4, 5, 6, 7, 8, 11] [83] N93_ N178_ := hs105_.tr hsN178_ (by decide) (by decide)
                      have e3_N178_ : ze N178_ 81 3 = ze N104_ 81 3 := hsN178_.e (by decide)
                      have e4_N178_ : ze N178_ 81 4 = ze N104_ 81 4 := hsN178_.e (by decide)
                      have e5_N178_ : ze N178_ 81 5 = ze N104_ 81 5 := hsN178_.e (by decide)
                      have e6_N178_ : ze N178_ 81 6 = ze N104_ 81 6 := hsN178_.e (by decide)
                      have r7_N178_ := ze_r N178_ 81 7
                      have e12_N178_ : ze N178_ 81 12 = ze N104_ 81 12 := hsN178_.e (by decide)
                      have e13_N178_ : ze N178_ 81 13 = ze N104_ 81 13 := hsN178_.e (by decide)
                      have e20_N178_ : ze N178_ 81 20 = ze N104_ 81 20 := hsN178_.e (by decide)
                      have c180_ : zRb b_ n_ N178_ := zRb.fr hsN178_ c111_ (by decide) (by decide)
                      have c181_ : zB 85 144 0 5 N178_ := zB.fr hsN178_ c112_ (by decide) (by decide)
                      have c182_ : zRt b_ n_ N178_ := zRt.fr hsN178_ i106_ (by decide) (by decide)
                      have c183_ : zB 83 24 0 5 N178_ := zB.fr hsN178_ i110_ (by decide) (by decide)
                      show zW l m_M_moveLine (zn Mz + 0, zw Mz + 0) N178_ 61 [some (.ref 81), some (.int (Int32.ofInt (ze Mz 81 4))), some (.int (Int32.ofInt u102_)), some (.int (Int32.ofInt u103_)), none] [] _
                      have hv2_ : ze N178_ 81 7 = 0 → ze N178_ 81 6 = znu b_ n_ (ze N178_ 81 4).toNat ∧ 0 ≤ ze N178_ 81 6 ∧ ze N178_ 81 6 ≤ 999 := fun q_ => c182_.v2 (by omega)
                      refine zw_aload_n (pc := 61) (n := 0) (x := 81) rfl (zdal_p dlC_M_moveLine_83 (i := 9) rfl) ?_
                      refine zr_getI (hf_N178_.w hW) (pc := 62) f_M_152 rfl (zdal_p dlC_M_moveLine_83 (i := 10) rfl) ?_
                      refine zw_istore (pc := 65) (i := 4) (L2 := [some (.ref 81), some (.int (Int32.ofInt (ze Mz 81 4))), some (.int (Int32.ofInt u102_)), some (.int (Int32.ofInt u103_)), some (.int (Int32.ofInt (ze N178_ 81 6)))]) (by decide) rfl (zdal_p dlC_M_moveLine_83 (i := 11) rfl) ?_
                      refine zw_aload_n (pc := 67) (n := 0) (x := 81) rfl (zdal_p dlC_M_moveLine_83 (i := 12) rfl) ?_
                      refine zr_callV (hf_N178_.w hW) hf_N178_.x (pc := 68) [] [] l_M_183 (c_M_isGood l N178_ (hf_N178_.w hW) ) rfl rfl rfl (by decide) (Nat.le_of_ble_eq_true rfl) (zdal_p dlC_M_moveLine_83 (i := 13) rfl) ?_
                      rintro _ N184_ ⟨v185_, rfl, ⟨hv185_a, hv185_b⟩, hsN184_, hp0_N184_⟩
                      obtain rfl := hsN184_.eq.symm
                      replace hp0_N184_ : ((v185_ = 1 ∧ ze N178_ 81 7 = 0) ∨ (v185_ = 0 ∧ ze N178_ 81 7 ≠ 0)) := hp0_N184_
                      rcases hp0_N184_ with ⟨rfl, ha68_0_hp0_N184_⟩ | ⟨rfl, ha68_0_hp0_N184_⟩
                      · skip
                        exfalso; (exact zo_281 ha68_0_hp0_N184_ hp0_N178_)
                      · skip
                        show zW l m_M_moveLine (zn Mz + 0, zw Mz + 0) N178_ 71 [some (.ref 81), some (.int (Int32.ofInt (ze Mz 81 4))), some (.int (Int32.ofInt u102_)), some (.int (Int32.ofInt u103_)), some (.int (Int32.ofInt (ze N178_ 81 6)))] [.int (Int32.ofInt 0)] _
                        refine zr_if_eq (pc := 71) (tgt := 97) ⟨(by decide), (by decide)⟩ (by decide) (zdal_p dlC_M_moveLine_83 (i := 14) rfl) (fun hc_71 => ?_) (fun hc_71 => ?_)
                        · skip
                          refine zw_aload_n (pc := 97) (n := 0) (x := 81) rfl d_M_moveLine_97 ?_
                          refine zr_getI (hf_N178_.w hW) (pc := 98) f_M_172 rfl d_M_moveLine_98 ?_
                          refine zr_if_le (pc := 101) (tgt := 105) ⟨(ze_r N178_ 81 7).1, (ze_r N178_ 81 7).2⟩ (by decide) d_M_moveLine_101 (fun hc_101 => ?_) (fun hc_101 => ?_)
                          · skip
                            exfalso; (exact zo_1329 hc_101 hp0_N178_)
                          · skip
                            exact zr_vret (pc := 104) rfl hf_N178_ ⟨c182_, (show 0 ≤ ze N178_ 81 13 by first | assumption | (exact zo_1362 e13_N104_ e13_N178_ e13_N93_ hc_10)), (show ze N178_ 81 13 ≤ 4 by first | assumption | (exact zo_1335 e13_N104_ e13_N178_ e13_N93_ p8_)), c183_, c181_, (show ((1 ≤ ze N178_ 81 7 ∧ zbs b_ n_ (ze Mz 81 12).toNat (0, (ze Mz 81 4).toNat, zMvs Mz) = zMf) ∨ (ze N178_ 81 7 = 0 ∧ zbs b_ n_ (ze Mz 81 12).toNat (0, (ze Mz 81 4).toNat, zMvs Mz) = (0, (ze N178_ 81 4).toNat, zMvs N178_) ∧ zPm N178_ ∧ zFin N178_ ∧ ze Mz 81 4 < ze N178_ 81 4)) from Or.inl (⟨(show 1 ≤ ze N178_ 81 7 by first | assumption | omega | exact hrt_ | exact hrt2_), (show zbs b_ n_ (ze Mz 81 12).toNat (0, (ze Mz 81 4).toNat, zMvs Mz) = zMf by first | assumption | omega | exact hrt_ | exact hrt2_)⟩))⟩ d_M_moveLine_104
                        · skip
                          exact absurd hc_71 (by decide)
                · skip
                  exfalso; (exact zo_1367 hc_10 hl33_1_i109_)
        exact lp_33 _ 0 (by decide) (by decide) 0 (by decide) (by decide) N93_ zFr.rf c96_ (show 0 ≤ (0 : Int) by first | assumption | (decide)) (show (0 : Int) ≤ ze Mz 81 12 by first | assumption | (exact zo_564 p5_)) (show (1 ≤ ze N93_ 81 7 ∧ zbs b_ n_ (ze Mz 81 12).toNat (0, (ze Mz 81 4).toNat, zMvs Mz) = zMf) ∨ (ze N93_ 81 7 = 0 ∧ ze Mz 81 13 ≤ 3 ∧ zMrI b_ n_ (ze Mz 81 12).toNat (znx b_ n_ (ze Mz 81 4).toNat) (ze Mz 81 13) N93_ (0 : Int) (0 : Int) ∧ zKp Mz N93_ (6 * ze Mz 81 13) ∧ ze Mz 81 4 < ze N93_ 81 4) from Or.inl (⟨(show 1 ≤ ze N93_ 81 7 by first | assumption | omega | exact hml0_ | exact hkp0_), (show zbs b_ n_ (ze Mz 81 12).toNat (0, (ze Mz 81 4).toNat, zMvs Mz) = zMf by first | assumption | omega | exact hml0_ | exact hkp0_)⟩)) c98_ (Nat.lt_succ_self _)
      · skip
        exact absurd hc_22 (by decide)
