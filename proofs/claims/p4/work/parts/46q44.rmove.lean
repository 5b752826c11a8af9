/-! a line of a move: what stands of it so far -/
theorem zrc_p {M : zMem} {q m : Nat} {P : Int} (hP : P ≤ 6) (h : ∀ p : Nat, (p : Int) < P → 0 ≤ ze M q (6 * m + p) ∧ ze M q (6 * m + p) < P) (hi : ∀ p r : Nat, (p : Int) < P → r < p → ze M q (6 * m + r) ≠ ze M q (6 * m + p)) : gpm (zrc M q m P) := by
  have hd := zrc_d (M := M) (q := q) (m := m) (P := P) (fun p hp => by have := h p hp; omega)
  refine ⟨by rw [zrc_m]; exact gmkc_lt (zrd_lt (fun p hp => by have := h p hp; omega)), fun p hp => ?_, fun p r hp hr e => ?_⟩
  · rw [hd p hp]
    unfold zrd
    split
    · rename_i g
      have := h p g
      omega
    · exact hp
  · rw [hd p hp, hd r hr] at e
    unfold zrd at e
    split at e <;> split at e
    · rename_i g1 g2
      have h1 := h p g1
      have h2 := h r g2
      rcases Nat.lt_trichotomy p r with k | k | k
      · exact absurd (show ze M q (6 * m + p) = ze M q (6 * m + r) by omega) (hi r p g2 k)
      · exact k
      · exact absurd (show ze M q (6 * m + r) = ze M q (6 * m + p) by omega) (hi p r g1 k)
    · rename_i g1 g2
      have h1 := h p g1
      omega
    · rename_i g1 g2
      have h2 := h r g2
      omega
    · exact e
def zRow (M : zMem) (m p met : Int) : Prop := (0 ≤ met ∧ met < 64) ∧ ∀ q : Nat, (q : Int) < p → (0 ≤ ze M 83 (6 * m.toNat + q) ∧ ze M 83 (6 * m.toNat + q) < ze M 81 12) ∧ zbt met (ze M 83 (6 * m.toNat + q)) ∧ ∀ r : Nat, r < q → ze M 83 (6 * m.toNat + r) ≠ ze M 83 (6 * m.toNat + q)
theorem zRow_0 {M : zMem} {m : Int} : zRow M m 0 0 := ⟨⟨by omega, by omega⟩, fun q h => absurd h (by omega)⟩
theorem zRow.fr {S C : List Nat} {M N : zMem} {m p met : Int} (hf : zFr S C M N) (h : zRow M m p met) (hs : 12 ∉ S) (hc : 83 ∉ C) : zRow N m p met := by
  unfold zRow
  simp only [hf.e hs, hf.ie (by decide) hc]
  exact h
theorem zbt_or {x k j : Int} (x0 : 0 ≤ x) (x1 : x < 2147483648) (k0 : 0 ≤ k) (k1 : k < 31) : zbt (zor x (zshl 1 k)) j ↔ (zbt x j ∨ k.toNat = j.toNat) := by
  unfold zbt
  rw [zorb x0 x1 k0 k1, Int.toNat_natCast, Nat.testBit_or, Nat.testBit_two_pow, Bool.or_eq_true, decide_eq_true_eq]
theorem zRow_s {M N : zMem} {m p met v : Int} (h : zRow M m p met) (m0 : 0 ≤ m) (p0 : 0 ≤ p) (hp : p < ze M 81 12) (hP : ze M 81 12 ≤ 6) (v0 : 0 ≤ v) (v1 : v < ze M 81 12) (hb : ¬ zbt met v) (hN : N = zsI M 83 (6 * m + p).toNat (Int32.ofInt v)) : zRow N m (p + 1) (zor met (zshl 1 v)) := by
  obtain ⟨h1, h2⟩ := h
  have hf : zFr [] [83] M N := by rw [hN]; exact zFr.sA (by decide)
  have e12 : ze N 81 12 = ze M 81 12 := hf.e (by decide)
  have g1 : ∀ q : Nat, (q : Int) < p → ze N 83 (6 * m.toNat + q) = ze M 83 (6 * m.toNat + q) := fun q hq => zs_oth hN (by omega)
  have g2 : ∀ q : Nat, (q : Int) = p → ze N 83 (6 * m.toNat + q) = v := fun q hq => by
    rw [show 6 * m.toNat + q = (6 * m + p).toNat by omega]
    exact zs_get hN ⟨by omega, by omega⟩
  refine ⟨z6a h1.1 h1.2 v0 (by omega), fun q hq => ?_⟩
  by_cases e : (q : Int) = p
  · rw [g2 q e, e12]
    refine ⟨⟨v0, v1⟩, (zbt_or h1.1 (by omega) v0 (by omega)).mpr (Or.inr rfl), fun r hr => ?_⟩
    rw [g1 r (by omega)]
    intro e2
    have := (h2 r (by omega)).2.1
    rw [e2] at this
    exact hb this
  · have h3 := h2 q (by omega)
    rw [g1 q (by omega), e12]
    refine ⟨h3.1, (zbt_or h1.1 (by omega) v0 (by omega)).mpr (Or.inl h3.2.1), fun r hr => ?_⟩
    rw [g1 r (by omega)]
    exact h3.2.2 r hr
def zKp (M N : zMem) (n : Int) : Prop := ∀ j : Nat, (j : Int) < n → ze N 83 j = ze M 83 j
theorem zKp_0 {M N : zMem} {S C : List Nat} {n : Int} (hf : zFr S C M N) (hc : 83 ∉ C) : zKp M N n := fun j _ => hf.ie (by decide) hc j
theorem zKp.fr {S C : List Nat} {M N P : zMem} {n : Int} (hf : zFr S C N P) (h : zKp M N n) (hc : 83 ∉ C) : zKp M P n := fun j hj => by rw [hf.ie (by decide) hc]; exact h j hj
theorem zKp_s {M N P : zMem} {n i : Int} {v : Int32} (h : zKp M N n) (hi : n ≤ i) (i0 : 0 ≤ i) (hP : P = zsI N 83 i.toNat v) : zKp M P n := fun j hj => by
  rw [zs_oth hP (by omega)]
  exact h j hj
theorem zrc_c {M N : zMem} {q r m : Nat} {P : Int} (hP : P ≤ 6) (h : ∀ p : Nat, p < 6 → ze N r (6 * m + p) = ze M q (6 * m + p)) : zrc N r m P = zrc M q m P := by
  rw [zrc_m, zrc_m]
  refine gmkc_c (fun p hp => ?_)
  unfold zrd
  rw [h p hp]
theorem zPm_s {M N : zMem} {p met : Int} (hp : zPm M) (h1 : ze N 81 13 = ze M 81 13 + 1) (h0 : 0 ≤ ze M 81 13) (h2 : ze N 81 12 = ze M 81 12) (hP : 1 ≤ ze M 81 12 ∧ ze M 81 12 ≤ 6) (hk : zKp M N (6 * ze M 81 13)) (hr : zRow N (ze M 81 13) p met) (he : ze M 81 12 ≤ p) : zPm N := by
  intro g hg
  obtain ⟨k, hkk, rfl⟩ := zMvs_m.mp hg
  rw [h2]
  by_cases e : (k : Int) = ze M 81 13
  · have hk2 : (ze M 81 13).toNat = k := by omega
    have h3 := hr.2
    rw [hk2] at h3
    refine zrc_p (by omega) (fun q hq => ?_) (fun q r hq hr => ?_)
    · have := (h3 q (by omega)).1
      omega
    · exact (h3 q (by omega)).2.2 r hr
  · rw [zrc_c (M := M) (q := 83) (by omega) (fun q hq => hk _ (by omega))]
    exact hp _ (zMvs_m.mpr ⟨k, by omega, rfl⟩)
theorem zPm_0 {M : zMem} (h : ze M 81 13 = 0) : zPm M := fun g hg => by
  obtain ⟨k, hk, -⟩ := zMvs_m.mp hg
  omega
theorem zFin_0 {M : zMem} (h : ze M 81 13 = 0) : zFin M := ⟨[gid], by decide, List.mem_singleton.mpr rfl, fun c _ g hg => by
  obtain ⟨k, hk, -⟩ := zMvs_m.mp hg
  omega⟩
/-! what is in force -/
def zMvF (M : zMem) : List Nat := (List.range (ze M 81 17).toNat).map (fun k => zrc M 84 k (ze M 81 16))
def zIF (M : zMem) : Prop := ((1 ≤ ze M 81 16 ∧ ze M 81 16 ≤ 6) ∧ 0 ≤ ze M 81 17 ∧ ze M 81 17 ≤ 4) ∧ zB 84 24 0 5 M ∧ (∀ g ∈ zMvF M, gpm g) ∧ ∃ C : List Nat, C.length ≤ 24 ∧ gid ∈ C ∧ ∀ c ∈ C, ∀ g ∈ zMvF M, gco c g ∈ C
theorem zMvF_f {S C : List Nat} {M N : zMem} (h : zFr S C M N) (hs : 16 ∉ S ∧ 17 ∉ S) (hc : 84 ∉ C) : zMvF N = zMvF M := by
  unfold zMvF
  rw [h.e hs.1, h.e hs.2]
  apply List.map_congr_left
  intro k _
  exact zrc_f (fun j => h.ie (by decide) hc j) k _
theorem zIF.fr {S C : List Nat} {M N : zMem} (h : zFr S C M N) (hp : zIF M) (hs : 16 ∉ S ∧ 17 ∉ S) (hc : 84 ∉ C) : zIF N := by
  unfold zIF
  rw [zMvF_f h hs hc, h.e hs.1, h.e hs.2]
  exact ⟨hp.1, zB.fr h hp.2.1 (by decide) hc, hp.2.2⟩
/-- one row is the other's copy -/
def zCp (q r : Nat) (M0 M : zMem) (n : Int) : Prop := ∀ j : Nat, (j : Int) < n → ze M r j = ze M0 q j
theorem zCp_0 {q r : Nat} {M0 M : zMem} : zCp q r M0 M 0 := fun j h => absurd h (by omega)
theorem zCp_s {q r : Nat} {M0 M N : zMem} {i v : Int} (i0 : 0 ≤ i) (h : zCp q r M0 M i) (hv : v = ze M0 q i.toNat) (hN : N = zsI M r i.toNat (Int32.ofInt v)) : zCp q r M0 N (i + 1) := by
  intro j hj
  by_cases e : (j : Int) = i
  · rw [show j = i.toNat by omega, ← hv]
    exact zs_get hN (by rw [hv]; exact z32r _)
  · rw [zs_oth hN (by omega)]
    exact h j (by omega)
theorem zIF_i {M0 N : zMem} {i : Int} (hi : 24 ≤ i) (hq : zCp 83 84 M0 N i) (hk : ∀ j, ze N 83 j = ze M0 83 j) (h16 : ze N 81 16 = ze N 81 12) (h17 : ze N 81 17 = ze N 81 13) (p0 : 1 ≤ ze N 81 12) (p1 : ze N 81 12 ≤ 6) (p2 : 0 ≤ ze N 81 13) (p3 : ze N 81 13 ≤ 4) (hP : zPm N) (hF : zFin N) (hB : zB 83 24 0 5 N) : zIF N := by
  have h : ∀ j : Nat, (j : Int) < i → ze N 84 j = ze N 83 j := fun j hj => by rw [hq j hj, hk]
  have e : zMvF N = zMvs N := by
    unfold zMvF zMvs
    rw [h16, h17]
    apply List.map_congr_left
    intro k hk
    rw [List.mem_range] at hk
    exact zrc_c p1 (fun p hp => h _ (by omega))
  unfold zIF
  rw [e, h16, h17]
  refine ⟨⟨⟨p0, p1⟩, p2, p3⟩, fun k hk => ?_, hP, hF⟩
  rw [h k (by omega)]
  exact hB k hk
theorem zIF_b {M0 N : zMem} {i : Int} (hi : 24 ≤ i) (hq : zCp 84 83 M0 N i) (hk : ∀ j, ze N 84 j = ze M0 84 j) (hI : zIF N) (h16 : ze N 81 12 = ze N 81 16) (h17 : ze N 81 13 = ze N 81 17) : zPm N ∧ zFin N ∧ zB 83 24 0 5 N := by
  have h : ∀ j : Nat, (j : Int) < i → ze N 83 j = ze N 84 j := fun j hj => by rw [hq j hj, hk]
  obtain ⟨h1, h2, h3, h4⟩ := hI
  have e : zMvs N = zMvF N := by
    unfold zMvF zMvs
    rw [h16, h17]
    apply List.map_congr_left
    intro k hk
    rw [List.mem_range] at hk
    exact zrc_c h1.1.2 (fun p hp => h _ (by omega))
  unfold zPm zFin
  rw [e]
  exact ⟨h3, h4, fun k hk => by rw [h k (by omega)]; exact h2 k hk⟩
/-! 44 -/
set_option maxHeartbeats 40000000 in
theorem c_M_moveLine (l : Launch) (Mz : zMem) (hW : zMt Mz) (p0_ : 0 ≤ ze Mz 81 3) (p1_ : ze Mz 81 3 ≤ ze Mz 81 2) (p2_ : ze Mz 81 2 ≤ 700) (p3_ : zTv Mz) (p4_ : ze Mz 81 7 = 0) (p5_ : ze Mz 81 5 = 1) (p6_ : 1 ≤ ze Mz 81 12) (p7_ : ze Mz 81 12 ≤ 6) (p8_ : 0 ≤ ze Mz 81 13) (p9_ : ze Mz 81 13 ≤ 4) (p10_ : zPm Mz) (p11_ : zB 83 24 0 5 Mz) (p12_ : zB 85 144 0 5 Mz) : zC l m_M_moveLine 0 0 [.ref 81] Mz (zpV [3, 4, 5, 6, 7, 8, 11, 13, 20] [83, 85, 86, 87, 88] Mz (fun N => 0 ≤ ze N 81 3 ∧ ze N 81 3 ≤ ze N 81 2 ∧ zTv N ∧ 0 ≤ ze N 81 13 ∧ ze N 81 13 ≤ 4 ∧ zB 83 24 0 5 N ∧ zB 85 144 0 5 N ∧ (((1 ≤ ze N 81 7 ∧ zmu N = 0) ∨ (ze N 81 7 = 0 ∧ zmu N < zmu Mz ∧ zPm N ∧ zFin N))))) := by
  refine zC_of (L0 := [some (.ref 81), none, none, none, none]) md_M_moveLine (Nat.le_of_ble_eq_true rfl) rfl ?_ zQ0
  have hf : zFr [3, 4, 5, 6, 7, 8, 11, 13, 20] [83, 85, 86, 87, 88] Mz Mz := zFr.rf
  have r_2 := ze_r Mz 81 2
  have r_3 := ze_r Mz 81 3
  have r_4 := ze_r Mz 81 4
  have r_5 := ze_r Mz 81 5
  have r_6 := ze_r Mz 81 6
  have r_7 := ze_r Mz 81 7
  have r_12 := ze_r Mz 81 12
  have r_13 := ze_r Mz 81 13
  have r_20 := ze_r Mz 81 20
  refine zw_aload_n (pc := 0) (n := 0) (x := 81) rfl d_M_moveLine_0 ?_
  refine zr_getI (hf.w hW) (pc := 1) f_M_145 rfl d_M_moveLine_1 ?_
  refine zw_istore_n (pc := 4) (i := 1) (L2 := [some (.ref 81), some (.int (Int32.ofInt (ze Mz 81 4))), none, none, none]) rfl (by decide) rfl d_M_moveLine_4 ?_
  have j_29 : ∀ (N1_ : zMem) (hs2_ : zFr [3, 4, 5, 6, 7, 8, 11] [] Mz N1_) (i3_ : 0 ≤ ze N1_ 81 3) (i4_ : ze N1_ 81 3 ≤ ze N1_ 81 2) (i5_ : zTv N1_) (i6_ : (1 ≤ ze N1_ 81 7 ∧ zmu N1_ = 0) ∨ (ze N1_ 81 7 = 0 ∧ zmu N1_ < zmu Mz ∧ ze Mz 81 13 ≤ 3 ∧ zKp Mz N1_ (6 * ze Mz 81 13))), zW l m_M_moveLine (zn Mz + 0, zw Mz + 0) N1_ 29 [some (.ref 81), some (.int (Int32.ofInt (ze Mz 81 4))), none, none, none] [] (zpV [3, 4, 5, 6, 7, 8, 11, 13, 20] [83, 85, 86, 87, 88] Mz (fun N => 0 ≤ ze N 81 3 ∧ ze N 81 3 ≤ ze N 81 2 ∧ zTv N ∧ 0 ≤ ze N 81 13 ∧ ze N 81 13 ≤ 4 ∧ zB 83 24 0 5 N ∧ zB 85 144 0 5 N ∧ (((1 ≤ ze N 81 7 ∧ zmu N = 0) ∨ (ze N 81 7 = 0 ∧ zmu N < zmu Mz ∧ zPm N ∧ zFin N))))) := by
    intro N1_ hs2_ i3_ i4_ i5_ i6_
    have hf_N1_ : zFr [3, 4, 5, 6, 7, 8, 11, 13, 20] [83, 85, 86, 87, 88] Mz N1_ := hf.tr hs2_ (by decide) (by decide)
    have e2_N1_ : ze N1_ 81 2 = ze Mz 81 2 := hs2_.e (by decide)
    have r3_N1_ := ze_r N1_ 81 3
    have r4_N1_ := ze_r N1_ 81 4
    have r5_N1_ := ze_r N1_ 81 5
    have r6_N1_ := ze_r N1_ 81 6
    have r7_N1_ := ze_r N1_ 81 7
    have e12_N1_ : ze N1_ 81 12 = ze Mz 81 12 := hs2_.e (by decide)
    have e13_N1_ : ze N1_ 81 13 = ze Mz 81 13 := hs2_.e (by decide)
    have e20_N1_ : ze N1_ 81 20 = ze Mz 81 20 := hs2_.e (by decide)
    have c7_ : zPm N1_ := zPm.fr hs2_ p10_ (by decide) (by decide)
    have c8_ : zB 83 24 0 5 N1_ := zB.fr hs2_ p11_ (by decide) (by decide)
    have c9_ : zB 85 144 0 5 N1_ := zB.fr hs2_ p12_ (by decide) (by decide)
    have zz2_N1_ : ze N1_ 81 2 = ze Mz 81 2 := hf_N1_.e (by decide)
    have zz12_N1_ : ze N1_ 81 12 = ze Mz 81 12 := hf_N1_.e (by decide)
    rcases i6_ with ⟨hl29_0_i6_, hl29_1_i6_⟩ | ⟨hl29_0_i6_, hl29_1_i6_, hl29_2_i6_, hl29_3_i6_⟩
    · skip
      refine zw_iconst (pc := 29) (v := Int32.ofInt 0) (by decide) d_M_moveLine_29 ?_
      refine zw_istore_n (pc := 30) (i := 2) (L2 := [some (.ref 81), some (.int (Int32.ofInt (ze Mz 81 4))), some (.int (Int32.ofInt 0)), none, none]) rfl (by decide) rfl d_M_moveLine_30 ?_
      refine zw_iconst (pc := 31) (v := Int32.ofInt 0) (by decide) d_M_moveLine_31 ?_
      refine zw_istore_n (pc := 32) (i := 3) (L2 := [some (.ref 81), some (.int (Int32.ofInt (ze Mz 81 4))), some (.int (Int32.ofInt 0)), some (.int (Int32.ofInt 0)), none]) rfl (by decide) rfl d_M_moveLine_32 ?_
      have lp_33 : ∀ (n : Nat) (u10_ : Int) (hu10_a : -2147483648 ≤ u10_) (hu10_b : u10_ < 2147483648) (u11_ : Int) (hu11_a : -2147483648 ≤ u11_) (hu11_b : u11_ < 2147483648) (N12_ : zMem) (hs13_ : zFr [3, 4, 5, 6, 7, 8, 11] [83] N1_ N12_) (i14_ : 0 ≤ ze N12_ 81 3) (i15_ : ze N12_ 81 3 ≤ ze N12_ 81 2) (i16_ : zTv N12_) (i17_ : 0 ≤ u11_) (i18_ : u11_ ≤ ze Mz 81 12) (i19_ : (1 ≤ ze N12_ 81 7 ∧ zmu N12_ = 0) ∨ (ze N12_ 81 7 = 0 ∧ zmu N12_ < zmu Mz ∧ ze Mz 81 13 ≤ 3 ∧ zKp Mz N12_ (6 * ze Mz 81 13) ∧ zRow N12_ (ze Mz 81 13) u11_ u10_)) (i20_ : zB 83 24 0 5 N12_), (ze Mz 81 12 - u11_).toNat < n → zW l m_M_moveLine (zn Mz + 0, zw Mz + 0) N12_ 33 [some (.ref 81), some (.int (Int32.ofInt (ze Mz 81 4))), some (.int (Int32.ofInt u10_)), some (.int (Int32.ofInt u11_)), none] [] (zpV [3, 4, 5, 6, 7, 8, 11, 13, 20] [83, 85, 86, 87, 88] Mz (fun N => 0 ≤ ze N 81 3 ∧ ze N 81 3 ≤ ze N 81 2 ∧ zTv N ∧ 0 ≤ ze N 81 13 ∧ ze N 81 13 ≤ 4 ∧ zB 83 24 0 5 N ∧ zB 85 144 0 5 N ∧ (((1 ≤ ze N 81 7 ∧ zmu N = 0) ∨ (ze N 81 7 = 0 ∧ zmu N < zmu Mz ∧ zPm N ∧ zFin N))))) := by
        intro n
        induction n with
        | zero =>
          intro u10_ hu10_a hu10_b u11_ hu11_a hu11_b N12_ hs13_ i14_ i15_ i16_ i17_ i18_ i19_ i20_ h0
          exact absurd h0 (Nat.not_lt_zero _)
        | succ n ih_33 =>
          intro u10_ hu10_a hu10_b u11_ hu11_a hu11_b N12_ hs13_ i14_ i15_ i16_ i17_ i18_ i19_ i20_ hlt_33
          have hf_N12_ : zFr [3, 4, 5, 6, 7, 8, 11, 13, 20] [83, 85, 86, 87, 88] Mz N12_ := hf_N1_.tr hs13_ (by decide) (by decide)
          have e2_N12_ : ze N12_ 81 2 = ze N1_ 81 2 := hs13_.e (by decide)
          have r3_N12_ := ze_r N12_ 81 3
          have r4_N12_ := ze_r N12_ 81 4
          have r5_N12_ := ze_r N12_ 81 5
          have r6_N12_ := ze_r N12_ 81 6
          have r7_N12_ := ze_r N12_ 81 7
          have e12_N12_ : ze N12_ 81 12 = ze N1_ 81 12 := hs13_.e (by decide)
          have e13_N12_ : ze N12_ 81 13 = ze N1_ 81 13 := hs13_.e (by decide)
          have e20_N12_ : ze N12_ 81 20 = ze N1_ 81 20 := hs13_.e (by decide)
          have c21_ : zB 85 144 0 5 N12_ := zB.fr hs13_ c9_ (by decide) (by decide)
          have zz2_N12_ : ze N12_ 81 2 = ze Mz 81 2 := hf_N12_.e (by decide)
          have zz12_N12_ : ze N12_ 81 12 = ze Mz 81 12 := hf_N12_.e (by decide)
          rcases i19_ with ⟨hl33_0_i19_, hl33_1_i19_⟩ | ⟨hl33_0_i19_, hl33_1_i19_, hl33_2_i19_, hl33_3_i19_, hl33_4_i19_⟩
          · skip
            refine zw_iload_n (pc := 33) (n := 3) (x := Int32.ofInt u11_) rfl d_M_moveLine_33 ?_
            refine zw_aload_n (pc := 34) (n := 0) (x := 81) rfl d_M_moveLine_34 ?_
            refine zr_getI0 hf_N12_ hW (pc := 35) (by decide) f_M_115 rfl d_M_moveLine_35 ?_
            refine zr_icmp_ge (pc := 38) (tgt := 138) ⟨hu11_a, hu11_b⟩ ⟨(ze_r Mz 81 12).1, (ze_r Mz 81 12).2⟩ (by decide) d_M_moveLine_38 (fun hc_38 => ?_) (fun hc_38 => ?_)
            · skip
              refine zw_aload_n (pc := 138) (n := 0) (x := 81) rfl d_M_moveLine_138 ?_
              refine zw_bipush (pc := 139) (v := Int32.ofInt 59) (by decide) d_M_moveLine_139 ?_
              refine zr_callV (hf_N12_.w hW) hf_N12_.x (pc := 141) [.int (Int32.ofInt 59)] [] l_M_355 (c_M_must l N12_ (hf_N12_.w hW) 59 (by decide) (by decide) (show 0 ≤ ze N12_ 81 3 by first | assumption | omega) (show ze N12_ 81 3 ≤ ze N12_ 81 2 by first | assumption | omega) (show ze N12_ 81 2 ≤ 700 by first | assumption | omega) i16_ (show 0 ≤ ze N12_ 81 7 by first | assumption | omega)) rfl rfl rfl (by decide) (Nat.le_of_ble_eq_true rfl) d_M_moveLine_141 ?_
              rintro _ N22_ ⟨rfl, hsN22_, ⟨hp0_N22_, hp1_N22_, hp2_N22_, hp3_N22_⟩⟩
              have hf_N22_ : zFr [3, 4, 5, 6, 7, 8, 11, 13, 20] [83, 85, 86, 87, 88] Mz N22_ := hf_N12_.tr hsN22_ (by decide) (by decide)
              have e2_N22_ : ze N22_ 81 2 = ze N12_ 81 2 := hsN22_.e (by decide)
              have r3_N22_ := ze_r N22_ 81 3
              have r4_N22_ := ze_r N22_ 81 4
              have r5_N22_ := ze_r N22_ 81 5
              have r6_N22_ := ze_r N22_ 81 6
              have r7_N22_ := ze_r N22_ 81 7
              have e12_N22_ : ze N22_ 81 12 = ze N12_ 81 12 := hsN22_.e (by decide)
              have e13_N22_ : ze N22_ 81 13 = ze N12_ 81 13 := hsN22_.e (by decide)
              have e20_N22_ : ze N22_ 81 20 = ze N12_ 81 20 := hsN22_.e (by decide)
              have c24_ : zB 85 144 0 5 N22_ := zB.fr hsN22_ c21_ (by decide) (by decide)
              have c25_ : zB 83 24 0 5 N22_ := zB.fr hsN22_ i20_ (by decide) (by decide)
              rcases hp3_N22_ with ⟨ha141_0_hp3_N22_, ha141_1_hp3_N22_⟩ | ⟨ha141_0_hp3_N22_, ha141_1_hp3_N22_, ha141_2_hp3_N22_⟩
              · skip
                show zW l m_M_moveLine (zn Mz + 0, zw Mz + 0) N22_ 144 [some (.ref 81), some (.int (Int32.ofInt (ze Mz 81 4))), some (.int (Int32.ofInt u10_)), some (.int (Int32.ofInt u11_)), none] [] (zpV [3, 4, 5, 6, 7, 8, 11, 13, 20] [83, 85, 86, 87, 88] Mz (fun N => 0 ≤ ze N 81 3 ∧ ze N 81 3 ≤ ze N 81 2 ∧ zTv N ∧ 0 ≤ ze N 81 13 ∧ ze N 81 13 ≤ 4 ∧ zB 83 24 0 5 N ∧ zB 85 144 0 5 N ∧ (((1 ≤ ze N 81 7 ∧ zmu N = 0) ∨ (ze N 81 7 = 0 ∧ zmu N < zmu Mz ∧ zPm N ∧ zFin N)))))
                refine zw_aload_n (pc := 144) (n := 0) (x := 81) rfl d_M_moveLine_144 ?_
                refine zr_getI (hf_N22_.w hW) (pc := 145) f_M_172 rfl d_M_moveLine_145 ?_
                refine zr_if_le (pc := 148) (tgt := 152) ⟨(ze_r N22_ 81 7).1, (ze_r N22_ 81 7).2⟩ (by decide) d_M_moveLine_148 (fun hc_148 => ?_) (fun hc_148 => ?_)
                · skip
                  exfalso; omega
                · skip
                  have hz0 := zmu_s N22_
                  exact zr_vret (pc := 151) rfl hf_N22_ ⟨(show 0 ≤ ze N22_ 81 3 by first | assumption | omega), (show ze N22_ 81 3 ≤ ze N22_ 81 2 by first | assumption | omega), hp2_N22_, (show 0 ≤ ze N22_ 81 13 by first | assumption | omega), (show ze N22_ 81 13 ≤ 4 by first | assumption | omega), c25_, c24_, (show ((1 ≤ ze N22_ 81 7 ∧ zmu N22_ = 0) ∨ (ze N22_ 81 7 = 0 ∧ zmu N22_ < zmu Mz ∧ zPm N22_ ∧ zFin N22_)) from Or.inl (⟨(show 1 ≤ ze N22_ 81 7 by first | assumption | omega), (show zmu N22_ = 0 by first | assumption | omega)⟩))⟩ d_M_moveLine_151
              · skip
                exfalso; omega
            · skip
              refine zw_aload_n (pc := 41) (n := 0) (x := 81) rfl d_M_moveLine_41 ?_
              refine zr_callV (hf_N12_.w hW) hf_N12_.x (pc := 42) [] [] l_M_183 (c_M_isGood l N12_ (hf_N12_.w hW) ) rfl rfl rfl (by decide) (Nat.le_of_ble_eq_true rfl) d_M_moveLine_42 ?_
              rintro _ N26_ ⟨v27_, rfl, ⟨hv27_a, hv27_b⟩, hsN26_, hp0_N26_⟩
              obtain rfl := hsN26_.eq.symm
              replace hp0_N26_ : ((v27_ = 1 ∧ ze N12_ 81 7 = 0) ∨ (v27_ = 0 ∧ ze N12_ 81 7 ≠ 0)) := hp0_N26_
              rcases hp0_N26_ with ⟨rfl, ha42_0_hp0_N26_⟩ | ⟨rfl, ha42_0_hp0_N26_⟩
              · skip
                exfalso; omega
              · skip
                show zW l m_M_moveLine (zn Mz + 0, zw Mz + 0) N12_ 45 [some (.ref 81), some (.int (Int32.ofInt (ze Mz 81 4))), some (.int (Int32.ofInt u10_)), some (.int (Int32.ofInt u11_)), none] [.int (Int32.ofInt 0)] (zpV [3, 4, 5, 6, 7, 8, 11, 13, 20] [83, 85, 86, 87, 88] Mz (fun N => 0 ≤ ze N 81 3 ∧ ze N 81 3 ≤ ze N 81 2 ∧ zTv N ∧ 0 ≤ ze N 81 13 ∧ ze N 81 13 ≤ 4 ∧ zB 83 24 0 5 N ∧ zB 85 144 0 5 N ∧ (((1 ≤ ze N 81 7 ∧ zmu N = 0) ∨ (ze N 81 7 = 0 ∧ zmu N < zmu Mz ∧ zPm N ∧ zFin N)))))
                refine zr_if_eq (pc := 45) (tgt := 138) ⟨(by decide), (by decide)⟩ (by decide) d_M_moveLine_45 (fun hc_45 => ?_) (fun hc_45 => ?_)
                · skip
                  refine zw_aload_n (pc := 138) (n := 0) (x := 81) rfl d_M_moveLine_138 ?_
                  refine zw_bipush (pc := 139) (v := Int32.ofInt 59) (by decide) d_M_moveLine_139 ?_
                  refine zr_callV (hf_N12_.w hW) hf_N12_.x (pc := 141) [.int (Int32.ofInt 59)] [] l_M_355 (c_M_must l N12_ (hf_N12_.w hW) 59 (by decide) (by decide) (show 0 ≤ ze N12_ 81 3 by first | assumption | omega) (show ze N12_ 81 3 ≤ ze N12_ 81 2 by first | assumption | omega) (show ze N12_ 81 2 ≤ 700 by first | assumption | omega) i16_ (show 0 ≤ ze N12_ 81 7 by first | assumption | omega)) rfl rfl rfl (by decide) (Nat.le_of_ble_eq_true rfl) d_M_moveLine_141 ?_
                  rintro _ N28_ ⟨rfl, hsN28_, ⟨hp0_N28_, hp1_N28_, hp2_N28_, hp3_N28_⟩⟩
                  have hf_N28_ : zFr [3, 4, 5, 6, 7, 8, 11, 13, 20] [83, 85, 86, 87, 88] Mz N28_ := hf_N12_.tr hsN28_ (by decide) (by decide)
                  have e2_N28_ : ze N28_ 81 2 = ze N12_ 81 2 := hsN28_.e (by decide)
                  have r3_N28_ := ze_r N28_ 81 3
                  have r4_N28_ := ze_r N28_ 81 4
                  have r5_N28_ := ze_r N28_ 81 5
                  have r6_N28_ := ze_r N28_ 81 6
                  have r7_N28_ := ze_r N28_ 81 7
                  have e12_N28_ : ze N28_ 81 12 = ze N12_ 81 12 := hsN28_.e (by decide)
                  have e13_N28_ : ze N28_ 81 13 = ze N12_ 81 13 := hsN28_.e (by decide)
                  have e20_N28_ : ze N28_ 81 20 = ze N12_ 81 20 := hsN28_.e (by decide)
                  have c30_ : zB 85 144 0 5 N28_ := zB.fr hsN28_ c21_ (by decide) (by decide)
                  have c31_ : zB 83 24 0 5 N28_ := zB.fr hsN28_ i20_ (by decide) (by decide)
                  rcases hp3_N28_ with ⟨ha141_0_hp3_N28_, ha141_1_hp3_N28_⟩ | ⟨ha141_0_hp3_N28_, ha141_1_hp3_N28_, ha141_2_hp3_N28_⟩
                  · skip
                    show zW l m_M_moveLine (zn Mz + 0, zw Mz + 0) N28_ 144 [some (.ref 81), some (.int (Int32.ofInt (ze Mz 81 4))), some (.int (Int32.ofInt u10_)), some (.int (Int32.ofInt u11_)), none] [] (zpV [3, 4, 5, 6, 7, 8, 11, 13, 20] [83, 85, 86, 87, 88] Mz (fun N => 0 ≤ ze N 81 3 ∧ ze N 81 3 ≤ ze N 81 2 ∧ zTv N ∧ 0 ≤ ze N 81 13 ∧ ze N 81 13 ≤ 4 ∧ zB 83 24 0 5 N ∧ zB 85 144 0 5 N ∧ (((1 ≤ ze N 81 7 ∧ zmu N = 0) ∨ (ze N 81 7 = 0 ∧ zmu N < zmu Mz ∧ zPm N ∧ zFin N)))))
                    refine zw_aload_n (pc := 144) (n := 0) (x := 81) rfl d_M_moveLine_144 ?_
                    refine zr_getI (hf_N28_.w hW) (pc := 145) f_M_172 rfl d_M_moveLine_145 ?_
                    refine zr_if_le (pc := 148) (tgt := 152) ⟨(ze_r N28_ 81 7).1, (ze_r N28_ 81 7).2⟩ (by decide) d_M_moveLine_148 (fun hc_148 => ?_) (fun hc_148 => ?_)
                    · skip
                      exfalso; omega
                    · skip
                      have hz0 := zmu_s N28_
                      exact zr_vret (pc := 151) rfl hf_N28_ ⟨(show 0 ≤ ze N28_ 81 3 by first | assumption | omega), (show ze N28_ 81 3 ≤ ze N28_ 81 2 by first | assumption | omega), hp2_N28_, (show 0 ≤ ze N28_ 81 13 by first | assumption | omega), (show ze N28_ 81 13 ≤ 4 by first | assumption | omega), c31_, c30_, (show ((1 ≤ ze N28_ 81 7 ∧ zmu N28_ = 0) ∨ (ze N28_ 81 7 = 0 ∧ zmu N28_ < zmu Mz ∧ zPm N28_ ∧ zFin N28_)) from Or.inl (⟨(show 1 ≤ ze N28_ 81 7 by first | assumption | omega), (show zmu N28_ = 0 by first | assumption | omega)⟩))⟩ d_M_moveLine_151
                  · skip
                    exfalso; omega
                · skip
                  exact absurd hc_45 (by decide)
          · skip
            refine zw_iload_n (pc := 33) (n := 3) (x := Int32.ofInt u11_) rfl d_M_moveLine_33 ?_
            refine zw_aload_n (pc := 34) (n := 0) (x := 81) rfl d_M_moveLine_34 ?_
            refine zr_getI0 hf_N12_ hW (pc := 35) (by decide) f_M_115 rfl d_M_moveLine_35 ?_
            refine zr_icmp_ge (pc := 38) (tgt := 138) ⟨hu11_a, hu11_b⟩ ⟨(ze_r Mz 81 12).1, (ze_r Mz 81 12).2⟩ (by decide) d_M_moveLine_38 (fun hc_38 => ?_) (fun hc_38 => ?_)
            · skip
              refine zw_aload_n (pc := 138) (n := 0) (x := 81) rfl d_M_moveLine_138 ?_
              refine zw_bipush (pc := 139) (v := Int32.ofInt 59) (by decide) d_M_moveLine_139 ?_
              refine zr_callV (hf_N12_.w hW) hf_N12_.x (pc := 141) [.int (Int32.ofInt 59)] [] l_M_355 (c_M_must l N12_ (hf_N12_.w hW) 59 (by decide) (by decide) (show 0 ≤ ze N12_ 81 3 by first | assumption | omega) (show ze N12_ 81 3 ≤ ze N12_ 81 2 by first | assumption | omega) (show ze N12_ 81 2 ≤ 700 by first | assumption | omega) i16_ (show 0 ≤ ze N12_ 81 7 by first | assumption | omega)) rfl rfl rfl (by decide) (Nat.le_of_ble_eq_true rfl) d_M_moveLine_141 ?_
              rintro _ N32_ ⟨rfl, hsN32_, ⟨hp0_N32_, hp1_N32_, hp2_N32_, hp3_N32_⟩⟩
              have hf_N32_ : zFr [3, 4, 5, 6, 7, 8, 11, 13, 20] [83, 85, 86, 87, 88] Mz N32_ := hf_N12_.tr hsN32_ (by decide) (by decide)
              have e2_N32_ : ze N32_ 81 2 = ze N12_ 81 2 := hsN32_.e (by decide)
              have r3_N32_ := ze_r N32_ 81 3
              have r4_N32_ := ze_r N32_ 81 4
              have r5_N32_ := ze_r N32_ 81 5
              have r6_N32_ := ze_r N32_ 81 6
              have r7_N32_ := ze_r N32_ 81 7
              have e12_N32_ : ze N32_ 81 12 = ze N12_ 81 12 := hsN32_.e (by decide)
              have e13_N32_ : ze N32_ 81 13 = ze N12_ 81 13 := hsN32_.e (by decide)
              have e20_N32_ : ze N32_ 81 20 = ze N12_ 81 20 := hsN32_.e (by decide)
              have c34_ : zB 85 144 0 5 N32_ := zB.fr hsN32_ c21_ (by decide) (by decide)
              have c35_ : zB 83 24 0 5 N32_ := zB.fr hsN32_ i20_ (by decide) (by decide)
              rcases hp3_N32_ with ⟨ha141_0_hp3_N32_, ha141_1_hp3_N32_⟩ | ⟨ha141_0_hp3_N32_, ha141_1_hp3_N32_, ha141_2_hp3_N32_⟩
              · skip
                show zW l m_M_moveLine (zn Mz + 0, zw Mz + 0) N32_ 144 [some (.ref 81), some (.int (Int32.ofInt (ze Mz 81 4))), some (.int (Int32.ofInt u10_)), some (.int (Int32.ofInt u11_)), none] [] (zpV [3, 4, 5, 6, 7, 8, 11, 13, 20] [83, 85, 86, 87, 88] Mz (fun N => 0 ≤ ze N 81 3 ∧ ze N 81 3 ≤ ze N 81 2 ∧ zTv N ∧ 0 ≤ ze N 81 13 ∧ ze N 81 13 ≤ 4 ∧ zB 83 24 0 5 N ∧ zB 85 144 0 5 N ∧ (((1 ≤ ze N 81 7 ∧ zmu N = 0) ∨ (ze N 81 7 = 0 ∧ zmu N < zmu Mz ∧ zPm N ∧ zFin N)))))
                refine zw_aload_n (pc := 144) (n := 0) (x := 81) rfl d_M_moveLine_144 ?_
                refine zr_getI (hf_N32_.w hW) (pc := 145) f_M_172 rfl d_M_moveLine_145 ?_
                refine zr_if_le (pc := 148) (tgt := 152) ⟨(ze_r N32_ 81 7).1, (ze_r N32_ 81 7).2⟩ (by decide) d_M_moveLine_148 (fun hc_148 => ?_) (fun hc_148 => ?_)
                · skip
                  exfalso; omega
                · skip
                  have hz0 := zmu_s N32_
                  exact zr_vret (pc := 151) rfl hf_N32_ ⟨(show 0 ≤ ze N32_ 81 3 by first | assumption | omega), (show ze N32_ 81 3 ≤ ze N32_ 81 2 by first | assumption | omega), hp2_N32_, (show 0 ≤ ze N32_ 81 13 by first | assumption | omega), (show ze N32_ 81 13 ≤ 4 by first | assumption | omega), c35_, c34_, (show ((1 ≤ ze N32_ 81 7 ∧ zmu N32_ = 0) ∨ (ze N32_ 81 7 = 0 ∧ zmu N32_ < zmu Mz ∧ zPm N32_ ∧ zFin N32_)) from Or.inl (⟨(show 1 ≤ ze N32_ 81 7 by first | assumption | omega), (show zmu N32_ = 0 by first | assumption | omega)⟩))⟩ d_M_moveLine_151
              · skip
                have hKm_ := zKp.fr hsN32_ (show zKp Mz N12_ (6 * ze Mz 81 13) by assumption) (by decide)
                have hRm_ := zRow.fr hsN32_ (show zRow N12_ (ze Mz 81 13) u11_ u10_ by assumption) (by decide) (by decide)
                show zW l m_M_moveLine (zn Mz + 0, zw Mz + 0) N32_ 144 [some (.ref 81), some (.int (Int32.ofInt (ze Mz 81 4))), some (.int (Int32.ofInt u10_)), some (.int (Int32.ofInt u11_)), none] [] (zpV [3, 4, 5, 6, 7, 8, 11, 13, 20] [83, 85, 86, 87, 88] Mz (fun N => 0 ≤ ze N 81 3 ∧ ze N 81 3 ≤ ze N 81 2 ∧ zTv N ∧ 0 ≤ ze N 81 13 ∧ ze N 81 13 ≤ 4 ∧ zB 83 24 0 5 N ∧ zB 85 144 0 5 N ∧ (((1 ≤ ze N 81 7 ∧ zmu N = 0) ∨ (ze N 81 7 = 0 ∧ zmu N < zmu Mz ∧ zPm N ∧ zFin N)))))
                refine zw_aload_n (pc := 144) (n := 0) (x := 81) rfl d_M_moveLine_144 ?_
                refine zr_getI (hf_N32_.w hW) (pc := 145) f_M_172 rfl d_M_moveLine_145 ?_
                refine zr_if_le (pc := 148) (tgt := 152) ⟨(ze_r N32_ 81 7).1, (ze_r N32_ 81 7).2⟩ (by decide) d_M_moveLine_148 (fun hc_148 => ?_) (fun hc_148 => ?_)
                · skip
                  refine zw_aload_n (pc := 152) (n := 0) (x := 81) rfl d_M_moveLine_152 ?_
                  refine zw_dup (pc := 153) rfl d_M_moveLine_153 ?_
                  refine zr_getI (hf_N32_.w hW) (pc := 154) f_M_199 rfl d_M_moveLine_154 ?_
                  refine zw_iconst (pc := 157) (v := Int32.ofInt 1) (by decide) d_M_moveLine_157 ?_
                  refine zr_iadd (pc := 158) d_M_moveLine_158 ?_
                  refine zr_putI (hf_N32_.w hW) (pc := 159) f_M_199 rfl rfl ⟨by omega, by omega⟩ rfl rfl d_M_moveLine_159 (fun N36_ hsN36_ hvN36_ => ?_)
                  have hf_N36_ : zFr [3, 4, 5, 6, 7, 8, 11, 13, 20] [83, 85, 86, 87, 88] Mz N36_ := hf_N32_.tr hsN36_ (by decide) (by decide)
                  have e2_N36_ : ze N36_ 81 2 = ze N32_ 81 2 := hsN36_.e (by decide)
                  have e3_N36_ : ze N36_ 81 3 = ze N32_ 81 3 := hsN36_.e (by decide)
                  have e4_N36_ : ze N36_ 81 4 = ze N32_ 81 4 := hsN36_.e (by decide)
                  have e5_N36_ : ze N36_ 81 5 = ze N32_ 81 5 := hsN36_.e (by decide)
                  have e6_N36_ : ze N36_ 81 6 = ze N32_ 81 6 := hsN36_.e (by decide)
                  have e7_N36_ : ze N36_ 81 7 = ze N32_ 81 7 := hsN36_.e (by decide)
                  have e12_N36_ : ze N36_ 81 12 = ze N32_ 81 12 := hsN36_.e (by decide)
                  have r13_N36_ := ze_r N36_ 81 13
                  have e20_N36_ : ze N36_ 81 20 = ze N32_ 81 20 := hsN36_.e (by decide)
                  have qzmu_N36_ : zmu N36_ = zmu N32_ := zmu_f hsN36_ (by decide)
                  have c37_ : zB 85 144 0 5 N36_ := zB.fr hsN36_ c34_ (by decide) (by decide)
                  have c38_ : zB 83 24 0 5 N36_ := zB.fr hsN36_ c35_ (by decide) (by decide)
                  have c39_ : zTv N36_ := zTv.fr hsN36_ hp2_N32_ (by decide) (by decide)
                  have hPm_ : zPm N36_ := zPm_s p10_ (by omega) (by omega) (by omega) ⟨by omega, by omega⟩ (zKp.fr hsN36_ hKm_ (by decide)) (zRow.fr hsN36_ hRm_ (by decide) (by decide)) (by omega)
                  refine zw_aload_n (pc := 162) (n := 0) (x := 81) rfl d_M_moveLine_162 ?_
                  refine zr_callV (hf_N36_.w hW) hf_N36_.x (pc := 163) [] [] l_M_226 (c_M_buildsMembers l N36_ (hf_N36_.w hW) (show 1 ≤ ze N36_ 81 12 by first | assumption | omega) (show ze N36_ 81 12 ≤ 6 by first | assumption | omega) (show 0 ≤ ze N36_ 81 13 by first | assumption | omega) (show ze N36_ 81 13 ≤ 4 by first | assumption | omega) hPm_ c38_ c37_) rfl rfl rfl (by decide) (Nat.le_of_ble_eq_true rfl) d_M_moveLine_163 ?_
                  rintro _ N40_ ⟨v41_, rfl, ⟨hv41_a, hv41_b⟩, hsN40_, ⟨hp0_N40_, hp1_N40_⟩⟩
                  have hf_N40_ : zFr [3, 4, 5, 6, 7, 8, 11, 13, 20] [83, 85, 86, 87, 88] Mz N40_ := hf_N36_.tr hsN40_ (by decide) (by decide)
                  have e2_N40_ : ze N40_ 81 2 = ze N36_ 81 2 := hsN40_.e (by decide)
                  have e3_N40_ : ze N40_ 81 3 = ze N36_ 81 3 := hsN40_.e (by decide)
                  have e4_N40_ : ze N40_ 81 4 = ze N36_ 81 4 := hsN40_.e (by decide)
                  have e5_N40_ : ze N40_ 81 5 = ze N36_ 81 5 := hsN40_.e (by decide)
                  have e6_N40_ : ze N40_ 81 6 = ze N36_ 81 6 := hsN40_.e (by decide)
                  have e7_N40_ : ze N40_ 81 7 = ze N36_ 81 7 := hsN40_.e (by decide)
                  have e12_N40_ : ze N40_ 81 12 = ze N36_ 81 12 := hsN40_.e (by decide)
                  have e13_N40_ : ze N40_ 81 13 = ze N36_ 81 13 := hsN40_.e (by decide)
                  have r20_N40_ := ze_r N40_ 81 20
                  have qzmu_N40_ : zmu N40_ = zmu N36_ := zmu_f hsN40_ (by decide)
                  have c42_ : zB 83 24 0 5 N40_ := zB.fr hsN40_ c38_ (by decide) (by decide)
                  have c43_ : zTv N40_ := zTv.fr hsN40_ c39_ (by decide) (by decide)
                  have c44_ : zPm N40_ := zPm.fr hsN40_ hPm_ (by decide) (by decide)
                  rcases hp1_N40_ with ⟨rfl, ha163_0_hp1_N40_, ha163_1_hp1_N40_, ha163_2_hp1_N40_, ha163_3_hp1_N40_⟩ | ⟨rfl, ha163_0_hp1_N40_⟩
                  · skip
                    have hPq_ : zPm N40_ := zPm.fr hsN40_ hPm_ (by decide) (by decide)
                    have hFq_ : zFin N40_ := zFin.fr hsN40_ ha163_0_hp1_N40_ (by decide) (by decide)
                    show zW l m_M_moveLine (zn Mz + 0, zw Mz + 0) N40_ 166 [some (.ref 81), some (.int (Int32.ofInt (ze Mz 81 4))), some (.int (Int32.ofInt u10_)), some (.int (Int32.ofInt u11_)), none] [.int (Int32.ofInt 1)] (zpV [3, 4, 5, 6, 7, 8, 11, 13, 20] [83, 85, 86, 87, 88] Mz (fun N => 0 ≤ ze N 81 3 ∧ ze N 81 3 ≤ ze N 81 2 ∧ zTv N ∧ 0 ≤ ze N 81 13 ∧ ze N 81 13 ≤ 4 ∧ zB 83 24 0 5 N ∧ zB 85 144 0 5 N ∧ (((1 ≤ ze N 81 7 ∧ zmu N = 0) ∨ (ze N 81 7 = 0 ∧ zmu N < zmu Mz ∧ zPm N ∧ zFin N)))))
                    refine zr_if_ne (pc := 166) (tgt := 175) ⟨(by decide), (by decide)⟩ (by decide) d_M_moveLine_166 (fun hc_166 => ?_) (fun hc_166 => ?_)
                    · skip
                      have hz0 := zmu_s N40_
                      exact zr_vret (pc := 175) rfl hf_N40_ ⟨(show 0 ≤ ze N40_ 81 3 by first | assumption | omega), (show ze N40_ 81 3 ≤ ze N40_ 81 2 by first | assumption | omega), c43_, (show 0 ≤ ze N40_ 81 13 by first | assumption | omega), (show ze N40_ 81 13 ≤ 4 by first | assumption | omega), c42_, hp0_N40_, (show ((1 ≤ ze N40_ 81 7 ∧ zmu N40_ = 0) ∨ (ze N40_ 81 7 = 0 ∧ zmu N40_ < zmu Mz ∧ zPm N40_ ∧ zFin N40_)) from Or.inr (⟨(show ze N40_ 81 7 = 0 by first | assumption | omega), (show zmu N40_ < zmu Mz by first | assumption | omega), (show zPm N40_ by first | assumption | omega), (show zFin N40_ by first | assumption | omega)⟩))⟩ d_M_moveLine_175
                    · skip
                      exact absurd hc_166 (by decide)
                  · skip
                    show zW l m_M_moveLine (zn Mz + 0, zw Mz + 0) N40_ 166 [some (.ref 81), some (.int (Int32.ofInt (ze Mz 81 4))), some (.int (Int32.ofInt u10_)), some (.int (Int32.ofInt u11_)), none] [.int (Int32.ofInt 0)] (zpV [3, 4, 5, 6, 7, 8, 11, 13, 20] [83, 85, 86, 87, 88] Mz (fun N => 0 ≤ ze N 81 3 ∧ ze N 81 3 ≤ ze N 81 2 ∧ zTv N ∧ 0 ≤ ze N 81 13 ∧ ze N 81 13 ≤ 4 ∧ zB 83 24 0 5 N ∧ zB 85 144 0 5 N ∧ (((1 ≤ ze N 81 7 ∧ zmu N = 0) ∨ (ze N 81 7 = 0 ∧ zmu N < zmu Mz ∧ zPm N ∧ zFin N)))))
                    refine zr_if_ne (pc := 166) (tgt := 175) ⟨(by decide), (by decide)⟩ (by decide) d_M_moveLine_166 (fun hc_166 => ?_) (fun hc_166 => ?_)
                    · skip
                      exact absurd hc_166 (by decide)
                    · skip
                      refine zw_aload_n (pc := 169) (n := 0) (x := 81) rfl d_M_moveLine_169 ?_
                      refine zw_iconst (pc := 170) (v := Int32.ofInt 5) (by decide) d_M_moveLine_170 ?_
                      refine zw_iload_n (pc := 171) (n := 1) (x := Int32.ofInt (ze Mz 81 4)) rfl d_M_moveLine_171 ?_
                      refine zr_callV (hf_N40_.w hW) hf_N40_.x (pc := 172) [.int (Int32.ofInt 5), .int (Int32.ofInt (ze Mz 81 4))] [] l_M_168 (c_M_wrongAt l N40_ (hf_N40_.w hW) 5 (by decide) (by decide) (ze Mz 81 4) (ze_r Mz 81 4).1 (ze_r Mz 81 4).2 (show ze N40_ 81 7 = 0 by first | assumption | omega) (show 1 ≤ 5 by first | assumption | omega)) rfl rfl rfl (by decide) (Nat.le_of_ble_eq_true rfl) d_M_moveLine_172 ?_
                      rintro _ N45_ ⟨rfl, hsN45_, ⟨hp0_N45_, hp1_N45_⟩⟩
                      have hf_N45_ : zFr [3, 4, 5, 6, 7, 8, 11, 13, 20] [83, 85, 86, 87, 88] Mz N45_ := hf_N40_.tr hsN45_ (by decide) (by decide)
                      have e2_N45_ : ze N45_ 81 2 = ze N40_ 81 2 := hsN45_.e (by decide)
                      have e3_N45_ : ze N45_ 81 3 = ze N40_ 81 3 := hsN45_.e (by decide)
                      have e4_N45_ : ze N45_ 81 4 = ze N40_ 81 4 := hsN45_.e (by decide)
                      have e5_N45_ : ze N45_ 81 5 = ze N40_ 81 5 := hsN45_.e (by decide)
                      have e6_N45_ : ze N45_ 81 6 = ze N40_ 81 6 := hsN45_.e (by decide)
                      have r7_N45_ := ze_r N45_ 81 7
                      have e12_N45_ : ze N45_ 81 12 = ze N40_ 81 12 := hsN45_.e (by decide)
                      have e13_N45_ : ze N45_ 81 13 = ze N40_ 81 13 := hsN45_.e (by decide)
                      have e20_N45_ : ze N45_ 81 20 = ze N40_ 81 20 := hsN45_.e (by decide)
                      have c47_ : zB 83 24 0 5 N45_ := zB.fr hsN45_ c42_ (by decide) (by decide)
                      have c48_ : zTv N45_ := zTv.fr hsN45_ c43_ (by decide) (by decide)
                      have c49_ : zPm N45_ := zPm.fr hsN45_ c44_ (by decide) (by decide)
                      have c50_ : zB 85 144 0 5 N45_ := zB.fr hsN45_ hp0_N40_ (by decide) (by decide)
                      show zW l m_M_moveLine (zn Mz + 0, zw Mz + 0) N45_ 175 [some (.ref 81), some (.int (Int32.ofInt (ze Mz 81 4))), some (.int (Int32.ofInt u10_)), some (.int (Int32.ofInt u11_)), none] [] (zpV [3, 4, 5, 6, 7, 8, 11, 13, 20] [83, 85, 86, 87, 88] Mz (fun N => 0 ≤ ze N 81 3 ∧ ze N 81 3 ≤ ze N 81 2 ∧ zTv N ∧ 0 ≤ ze N 81 13 ∧ ze N 81 13 ≤ 4 ∧ zB 83 24 0 5 N ∧ zB 85 144 0 5 N ∧ (((1 ≤ ze N 81 7 ∧ zmu N = 0) ∨ (ze N 81 7 = 0 ∧ zmu N < zmu Mz ∧ zPm N ∧ zFin N)))))
                      have hz0 := zmu_s N45_
                      exact zr_vret (pc := 175) rfl hf_N45_ ⟨(show 0 ≤ ze N45_ 81 3 by first | assumption | omega), (show ze N45_ 81 3 ≤ ze N45_ 81 2 by first | assumption | omega), c48_, (show 0 ≤ ze N45_ 81 13 by first | assumption | omega), (show ze N45_ 81 13 ≤ 4 by first | assumption | omega), c47_, c50_, (show ((1 ≤ ze N45_ 81 7 ∧ zmu N45_ = 0) ∨ (ze N45_ 81 7 = 0 ∧ zmu N45_ < zmu Mz ∧ zPm N45_ ∧ zFin N45_)) from Or.inl (⟨(show 1 ≤ ze N45_ 81 7 by first | assumption | omega), (show zmu N45_ = 0 by first | assumption | omega)⟩))⟩ d_M_moveLine_175
                · skip
                  exfalso; omega
            · skip
              refine zw_aload_n (pc := 41) (n := 0) (x := 81) rfl d_M_moveLine_41 ?_
              refine zr_callV (hf_N12_.w hW) hf_N12_.x (pc := 42) [] [] l_M_183 (c_M_isGood l N12_ (hf_N12_.w hW) ) rfl rfl rfl (by decide) (Nat.le_of_ble_eq_true rfl) d_M_moveLine_42 ?_
              rintro _ N51_ ⟨v52_, rfl, ⟨hv52_a, hv52_b⟩, hsN51_, hp0_N51_⟩
              obtain rfl := hsN51_.eq.symm
              replace hp0_N51_ : ((v52_ = 1 ∧ ze N12_ 81 7 = 0) ∨ (v52_ = 0 ∧ ze N12_ 81 7 ≠ 0)) := hp0_N51_
              rcases hp0_N51_ with ⟨rfl, ha42_0_hp0_N51_⟩ | ⟨rfl, ha42_0_hp0_N51_⟩
              · skip
                show zW l m_M_moveLine (zn Mz + 0, zw Mz + 0) N12_ 45 [some (.ref 81), some (.int (Int32.ofInt (ze Mz 81 4))), some (.int (Int32.ofInt u10_)), some (.int (Int32.ofInt u11_)), none] [.int (Int32.ofInt 1)] (zpV [3, 4, 5, 6, 7, 8, 11, 13, 20] [83, 85, 86, 87, 88] Mz (fun N => 0 ≤ ze N 81 3 ∧ ze N 81 3 ≤ ze N 81 2 ∧ zTv N ∧ 0 ≤ ze N 81 13 ∧ ze N 81 13 ≤ 4 ∧ zB 83 24 0 5 N ∧ zB 85 144 0 5 N ∧ (((1 ≤ ze N 81 7 ∧ zmu N = 0) ∨ (ze N 81 7 = 0 ∧ zmu N < zmu Mz ∧ zPm N ∧ zFin N)))))
                refine zr_if_eq (pc := 45) (tgt := 138) ⟨(by decide), (by decide)⟩ (by decide) d_M_moveLine_45 (fun hc_45 => ?_) (fun hc_45 => ?_)
                · skip
                  exact absurd hc_45 (by decide)
                · skip
                  refine zw_aload_n (pc := 48) (n := 0) (x := 81) rfl d_M_moveLine_48 ?_
                  refine zr_getI (hf_N12_.w hW) (pc := 49) f_M_155 rfl d_M_moveLine_49 ?_
                  refine zw_iconst (pc := 52) (v := Int32.ofInt 2) (by decide) d_M_moveLine_52 ?_
                  refine zr_icmp_eq (pc := 53) (tgt := 61) ⟨(ze_r N12_ 81 5).1, (ze_r N12_ 81 5).2⟩ ⟨(by decide), (by decide)⟩ (by decide) d_M_moveLine_53 (fun hc_53 => ?_) (fun hc_53 => ?_)
                  · skip
                    refine zw_aload_n (pc := 61) (n := 0) (x := 81) rfl d_M_moveLine_61 ?_
                    refine zr_getI (hf_N12_.w hW) (pc := 62) f_M_152 rfl d_M_moveLine_62 ?_
                    refine zw_istore (pc := 65) (i := 4) (L2 := [some (.ref 81), some (.int (Int32.ofInt (ze Mz 81 4))), some (.int (Int32.ofInt u10_)), some (.int (Int32.ofInt u11_)), some (.int (Int32.ofInt (ze N12_ 81 6)))]) (by decide) rfl d_M_moveLine_65 ?_
                    refine zw_aload_n (pc := 67) (n := 0) (x := 81) rfl d_M_moveLine_67 ?_
                    refine zr_callV (hf_N12_.w hW) hf_N12_.x (pc := 68) [] [] l_M_183 (c_M_isGood l N12_ (hf_N12_.w hW) ) rfl rfl rfl (by decide) (Nat.le_of_ble_eq_true rfl) d_M_moveLine_68 ?_
                    rintro _ N53_ ⟨v54_, rfl, ⟨hv54_a, hv54_b⟩, hsN53_, hp0_N53_⟩
                    obtain rfl := hsN53_.eq.symm
                    replace hp0_N53_ : ((v54_ = 1 ∧ ze N12_ 81 7 = 0) ∨ (v54_ = 0 ∧ ze N12_ 81 7 ≠ 0)) := hp0_N53_
                    rcases hp0_N53_ with ⟨rfl, ha68_0_hp0_N53_⟩ | ⟨rfl, ha68_0_hp0_N53_⟩
                    · skip
                      show zW l m_M_moveLine (zn Mz + 0, zw Mz + 0) N12_ 71 [some (.ref 81), some (.int (Int32.ofInt (ze Mz 81 4))), some (.int (Int32.ofInt u10_)), some (.int (Int32.ofInt u11_)), some (.int (Int32.ofInt (ze N12_ 81 6)))] [.int (Int32.ofInt 1)] (zpV [3, 4, 5, 6, 7, 8, 11, 13, 20] [83, 85, 86, 87, 88] Mz (fun N => 0 ≤ ze N 81 3 ∧ ze N 81 3 ≤ ze N 81 2 ∧ zTv N ∧ 0 ≤ ze N 81 13 ∧ ze N 81 13 ≤ 4 ∧ zB 83 24 0 5 N ∧ zB 85 144 0 5 N ∧ (((1 ≤ ze N 81 7 ∧ zmu N = 0) ∨ (ze N 81 7 = 0 ∧ zmu N < zmu Mz ∧ zPm N ∧ zFin N)))))
                      refine zr_if_eq (pc := 71) (tgt := 97) ⟨(by decide), (by decide)⟩ (by decide) d_M_moveLine_71 (fun hc_71 => ?_) (fun hc_71 => ?_)
                      · skip
                        exact absurd hc_71 (by decide)
                      · skip
                        have hrw_ := (show zRow N12_ (ze Mz 81 13) u11_ u10_ by assumption).1
                        have htv_ := i16_ (by omega)
                        refine zw_iload (pc := 74) (i := 4) (x := Int32.ofInt (ze N12_ 81 6)) rfl d_M_moveLine_74 ?_
                        refine zw_aload_n (pc := 76) (n := 0) (x := 81) rfl d_M_moveLine_76 ?_
                        refine zr_getI0 hf_N12_ hW (pc := 77) (by decide) f_M_115 rfl d_M_moveLine_77 ?_
                        refine zr_icmp_ge (pc := 80) (tgt := 92) ⟨(ze_r N12_ 81 6).1, (ze_r N12_ 81 6).2⟩ ⟨(ze_r Mz 81 12).1, (ze_r Mz 81 12).2⟩ (by decide) d_M_moveLine_80 (fun hc_80 => ?_) (fun hc_80 => ?_)
                        · skip
                          refine zw_aload_n (pc := 92) (n := 0) (x := 81) rfl d_M_moveLine_92 ?_
                          refine zw_iconst (pc := 93) (v := Int32.ofInt 4) (by decide) d_M_moveLine_93 ?_
                          refine zr_callV (hf_N12_.w hW) hf_N12_.x (pc := 94) [.int (Int32.ofInt 4)] [] l_M_190 (c_M_wrong l N12_ (hf_N12_.w hW) 4 (by decide) (by decide) (show ze N12_ 81 7 = 0 by first | assumption | omega) (show 1 ≤ 4 by first | assumption | omega)) rfl rfl rfl (by decide) (Nat.le_of_ble_eq_true rfl) d_M_moveLine_94 ?_
                          rintro _ N55_ ⟨rfl, hsN55_, ⟨hp0_N55_, hp1_N55_⟩⟩
                          have hf_N55_ : zFr [3, 4, 5, 6, 7, 8, 11, 13, 20] [83, 85, 86, 87, 88] Mz N55_ := hf_N12_.tr hsN55_ (by decide) (by decide)
                          have hb0_N55_ : zFr [3, 4, 5, 6, 7, 8, 11] [83] N1_ N55_ := hs13_.tr hsN55_ (by decide) (by decide)
                          have e2_N55_ : ze N55_ 81 2 = ze N12_ 81 2 := hsN55_.e (by decide)
                          have e3_N55_ : ze N55_ 81 3 = ze N12_ 81 3 := hsN55_.e (by decide)
                          have e4_N55_ : ze N55_ 81 4 = ze N12_ 81 4 := hsN55_.e (by decide)
                          have e5_N55_ : ze N55_ 81 5 = ze N12_ 81 5 := hsN55_.e (by decide)
                          have e6_N55_ : ze N55_ 81 6 = ze N12_ 81 6 := hsN55_.e (by decide)
                          have r7_N55_ := ze_r N55_ 81 7
                          have e12_N55_ : ze N55_ 81 12 = ze N12_ 81 12 := hsN55_.e (by decide)
                          have e13_N55_ : ze N55_ 81 13 = ze N12_ 81 13 := hsN55_.e (by decide)
                          have e20_N55_ : ze N55_ 81 20 = ze N12_ 81 20 := hsN55_.e (by decide)
                          have c57_ : zB 85 144 0 5 N55_ := zB.fr hsN55_ c21_ (by decide) (by decide)
                          have c58_ : zTv N55_ := zTv.fr hsN55_ i16_ (by decide) (by decide)
                          have c59_ : zB 83 24 0 5 N55_ := zB.fr hsN55_ i20_ (by decide) (by decide)
                          show zW l m_M_moveLine (zn Mz + 0, zw Mz + 0) N55_ 97 [some (.ref 81), some (.int (Int32.ofInt (ze Mz 81 4))), some (.int (Int32.ofInt u10_)), some (.int (Int32.ofInt u11_)), some (.int (Int32.ofInt (ze N12_ 81 6)))] [] (zpV [3, 4, 5, 6, 7, 8, 11, 13, 20] [83, 85, 86, 87, 88] Mz (fun N => 0 ≤ ze N 81 3 ∧ ze N 81 3 ≤ ze N 81 2 ∧ zTv N ∧ 0 ≤ ze N 81 13 ∧ ze N 81 13 ≤ 4 ∧ zB 83 24 0 5 N ∧ zB 85 144 0 5 N ∧ (((1 ≤ ze N 81 7 ∧ zmu N = 0) ∨ (ze N 81 7 = 0 ∧ zmu N < zmu Mz ∧ zPm N ∧ zFin N)))))
                          refine zw_aload_n (pc := 97) (n := 0) (x := 81) rfl d_M_moveLine_97 ?_
                          refine zr_getI (hf_N55_.w hW) (pc := 98) f_M_172 rfl d_M_moveLine_98 ?_
                          refine zr_if_le (pc := 101) (tgt := 105) ⟨(ze_r N55_ 81 7).1, (ze_r N55_ 81 7).2⟩ (by decide) d_M_moveLine_101 (fun hc_101 => ?_) (fun hc_101 => ?_)
                          · skip
                            exfalso; omega
                          · skip
                            have hz0 := zmu_s N55_
                            exact zr_vret (pc := 104) rfl hf_N55_ ⟨(show 0 ≤ ze N55_ 81 3 by first | assumption | omega), (show ze N55_ 81 3 ≤ ze N55_ 81 2 by first | assumption | omega), c58_, (show 0 ≤ ze N55_ 81 13 by first | assumption | omega), (show ze N55_ 81 13 ≤ 4 by first | assumption | omega), c59_, c57_, (show ((1 ≤ ze N55_ 81 7 ∧ zmu N55_ = 0) ∨ (ze N55_ 81 7 = 0 ∧ zmu N55_ < zmu Mz ∧ zPm N55_ ∧ zFin N55_)) from Or.inl (⟨(show 1 ≤ ze N55_ 81 7 by first | assumption | omega), (show zmu N55_ = 0 by first | assumption | omega)⟩))⟩ d_M_moveLine_104
                        · skip
                          refine zw_iload_n (pc := 83) (n := 2) (x := Int32.ofInt u10_) rfl d_M_moveLine_83 ?_
                          refine zw_iload (pc := 84) (i := 4) (x := Int32.ofInt (ze N12_ 81 6)) rfl d_M_moveLine_84 ?_
                          refine zr_callS hf_N12_.x (pc := 86) [.int (Int32.ofInt u10_), .int (Int32.ofInt (ze N12_ 81 6))] [] l_M_213 (c_M_holds l N12_ (hf_N12_.w hW) u10_ hu10_a hu10_b (ze N12_ 81 6) (ze_r N12_ 81 6).1 (ze_r N12_ 81 6).2 (show 0 ≤ u10_ by first | assumption | omega) (show 0 ≤ (ze N12_ 81 6) by first | assumption | omega) (show (ze N12_ 81 6) < 32 by first | assumption | omega)) rfl rfl (by decide) (Nat.le_of_ble_eq_true rfl) d_M_moveLine_86 ?_
                          rintro _ N60_ ⟨v61_, rfl, ⟨hv61_a, hv61_b⟩, hsN60_, hp0_N60_⟩
                          obtain rfl := hsN60_.eq.symm
                          replace hp0_N60_ : ((v61_ = 1 ∧ zbt u10_ (ze N12_ 81 6)) ∨ (v61_ = 0 ∧ ¬ zbt u10_ (ze N12_ 81 6))) := hp0_N60_
                          rcases hp0_N60_ with ⟨rfl, ha86_0_hp0_N60_⟩ | ⟨rfl, ha86_0_hp0_N60_⟩
                          · skip
                            show zW l m_M_moveLine (zn Mz + 0, zw Mz + 0) N12_ 89 [some (.ref 81), some (.int (Int32.ofInt (ze Mz 81 4))), some (.int (Int32.ofInt u10_)), some (.int (Int32.ofInt u11_)), some (.int (Int32.ofInt (ze N12_ 81 6)))] [.int (Int32.ofInt 1)] (zpV [3, 4, 5, 6, 7, 8, 11, 13, 20] [83, 85, 86, 87, 88] Mz (fun N => 0 ≤ ze N 81 3 ∧ ze N 81 3 ≤ ze N 81 2 ∧ zTv N ∧ 0 ≤ ze N 81 13 ∧ ze N 81 13 ≤ 4 ∧ zB 83 24 0 5 N ∧ zB 85 144 0 5 N ∧ (((1 ≤ ze N 81 7 ∧ zmu N = 0) ∨ (ze N 81 7 = 0 ∧ zmu N < zmu Mz ∧ zPm N ∧ zFin N)))))
                            refine zr_if_eq (pc := 89) (tgt := 97) ⟨(by decide), (by decide)⟩ (by decide) d_M_moveLine_89 (fun hc_89 => ?_) (fun hc_89 => ?_)
                            · skip
                              exact absurd hc_89 (by decide)
                            · skip
                              refine zw_aload_n (pc := 92) (n := 0) (x := 81) rfl d_M_moveLine_92 ?_
                              refine zw_iconst (pc := 93) (v := Int32.ofInt 4) (by decide) d_M_moveLine_93 ?_
                              refine zr_callV (hf_N12_.w hW) hf_N12_.x (pc := 94) [.int (Int32.ofInt 4)] [] l_M_190 (c_M_wrong l N12_ (hf_N12_.w hW) 4 (by decide) (by decide) (show ze N12_ 81 7 = 0 by first | assumption | omega) (show 1 ≤ 4 by first | assumption | omega)) rfl rfl rfl (by decide) (Nat.le_of_ble_eq_true rfl) d_M_moveLine_94 ?_
                              rintro _ N62_ ⟨rfl, hsN62_, ⟨hp0_N62_, hp1_N62_⟩⟩
                              have hf_N62_ : zFr [3, 4, 5, 6, 7, 8, 11, 13, 20] [83, 85, 86, 87, 88] Mz N62_ := hf_N12_.tr hsN62_ (by decide) (by decide)
                              have hb0_N62_ : zFr [3, 4, 5, 6, 7, 8, 11] [83] N1_ N62_ := hs13_.tr hsN62_ (by decide) (by decide)
                              have e2_N62_ : ze N62_ 81 2 = ze N12_ 81 2 := hsN62_.e (by decide)
                              have e3_N62_ : ze N62_ 81 3 = ze N12_ 81 3 := hsN62_.e (by decide)
                              have e4_N62_ : ze N62_ 81 4 = ze N12_ 81 4 := hsN62_.e (by decide)
                              have e5_N62_ : ze N62_ 81 5 = ze N12_ 81 5 := hsN62_.e (by decide)
                              have e6_N62_ : ze N62_ 81 6 = ze N12_ 81 6 := hsN62_.e (by decide)
                              have r7_N62_ := ze_r N62_ 81 7
                              have e12_N62_ : ze N62_ 81 12 = ze N12_ 81 12 := hsN62_.e (by decide)
                              have e13_N62_ : ze N62_ 81 13 = ze N12_ 81 13 := hsN62_.e (by decide)
                              have e20_N62_ : ze N62_ 81 20 = ze N12_ 81 20 := hsN62_.e (by decide)
                              have c64_ : zB 85 144 0 5 N62_ := zB.fr hsN62_ c21_ (by decide) (by decide)
                              have c65_ : zTv N62_ := zTv.fr hsN62_ i16_ (by decide) (by decide)
                              have c66_ : zB 83 24 0 5 N62_ := zB.fr hsN62_ i20_ (by decide) (by decide)
                              show zW l m_M_moveLine (zn Mz + 0, zw Mz + 0) N62_ 97 [some (.ref 81), some (.int (Int32.ofInt (ze Mz 81 4))), some (.int (Int32.ofInt u10_)), some (.int (Int32.ofInt u11_)), some (.int (Int32.ofInt (ze N12_ 81 6)))] [] (zpV [3, 4, 5, 6, 7, 8, 11, 13, 20] [83, 85, 86, 87, 88] Mz (fun N => 0 ≤ ze N 81 3 ∧ ze N 81 3 ≤ ze N 81 2 ∧ zTv N ∧ 0 ≤ ze N 81 13 ∧ ze N 81 13 ≤ 4 ∧ zB 83 24 0 5 N ∧ zB 85 144 0 5 N ∧ (((1 ≤ ze N 81 7 ∧ zmu N = 0) ∨ (ze N 81 7 = 0 ∧ zmu N < zmu Mz ∧ zPm N ∧ zFin N)))))
                              refine zw_aload_n (pc := 97) (n := 0) (x := 81) rfl d_M_moveLine_97 ?_
                              refine zr_getI (hf_N62_.w hW) (pc := 98) f_M_172 rfl d_M_moveLine_98 ?_
                              refine zr_if_le (pc := 101) (tgt := 105) ⟨(ze_r N62_ 81 7).1, (ze_r N62_ 81 7).2⟩ (by decide) d_M_moveLine_101 (fun hc_101 => ?_) (fun hc_101 => ?_)
                              · skip
                                exfalso; omega
                              · skip
                                have hz0 := zmu_s N62_
                                exact zr_vret (pc := 104) rfl hf_N62_ ⟨(show 0 ≤ ze N62_ 81 3 by first | assumption | omega), (show ze N62_ 81 3 ≤ ze N62_ 81 2 by first | assumption | omega), c65_, (show 0 ≤ ze N62_ 81 13 by first | assumption | omega), (show ze N62_ 81 13 ≤ 4 by first | assumption | omega), c66_, c64_, (show ((1 ≤ ze N62_ 81 7 ∧ zmu N62_ = 0) ∨ (ze N62_ 81 7 = 0 ∧ zmu N62_ < zmu Mz ∧ zPm N62_ ∧ zFin N62_)) from Or.inl (⟨(show 1 ≤ ze N62_ 81 7 by first | assumption | omega), (show zmu N62_ = 0 by first | assumption | omega)⟩))⟩ d_M_moveLine_104
                          · skip
                            have hnb_ := ha86_0_hp0_N60_
                            show zW l m_M_moveLine (zn Mz + 0, zw Mz + 0) N12_ 89 [some (.ref 81), some (.int (Int32.ofInt (ze Mz 81 4))), some (.int (Int32.ofInt u10_)), some (.int (Int32.ofInt u11_)), some (.int (Int32.ofInt (ze N12_ 81 6)))] [.int (Int32.ofInt 0)] (zpV [3, 4, 5, 6, 7, 8, 11, 13, 20] [83, 85, 86, 87, 88] Mz (fun N => 0 ≤ ze N 81 3 ∧ ze N 81 3 ≤ ze N 81 2 ∧ zTv N ∧ 0 ≤ ze N 81 13 ∧ ze N 81 13 ≤ 4 ∧ zB 83 24 0 5 N ∧ zB 85 144 0 5 N ∧ (((1 ≤ ze N 81 7 ∧ zmu N = 0) ∨ (ze N 81 7 = 0 ∧ zmu N < zmu Mz ∧ zPm N ∧ zFin N)))))
                            refine zr_if_eq (pc := 89) (tgt := 97) ⟨(by decide), (by decide)⟩ (by decide) d_M_moveLine_89 (fun hc_89 => ?_) (fun hc_89 => ?_)
                            · skip
                              refine zw_aload_n (pc := 97) (n := 0) (x := 81) rfl d_M_moveLine_97 ?_
                              refine zr_getI (hf_N12_.w hW) (pc := 98) f_M_172 rfl d_M_moveLine_98 ?_
                              refine zr_if_le (pc := 101) (tgt := 105) ⟨(ze_r N12_ 81 7).1, (ze_r N12_ 81 7).2⟩ (by decide) d_M_moveLine_101 (fun hc_101 => ?_) (fun hc_101 => ?_)
                              · skip
                                have hRow_ := (show zRow N12_ (ze Mz 81 13) u11_ u10_ by assumption)
                                refine zw_iload_n (pc := 105) (n := 2) (x := Int32.ofInt u10_) rfl d_M_moveLine_105 ?_
                                refine zw_iconst (pc := 106) (v := Int32.ofInt 1) (by decide) d_M_moveLine_106 ?_
                                refine zw_iload (pc := 107) (i := 4) (x := Int32.ofInt (ze N12_ 81 6)) rfl d_M_moveLine_107 ?_
                                refine zr_ishl (pc := 109) d_M_moveLine_109 ?_
                                have hr67_ := zshl_r 1 (ze N12_ 81 6)
                                refine zr_ior (pc := 110) d_M_moveLine_110 ?_
                                have hr68_ := zor_r u10_ (zshl 1 (ze N12_ 81 6))
                                refine zw_istore_n (pc := 111) (i := 2) (L2 := [some (.ref 81), some (.int (Int32.ofInt (ze Mz 81 4))), some (.int (Int32.ofInt (zor u10_ (zshl 1 (ze N12_ 81 6))))), some (.int (Int32.ofInt u11_)), some (.int (Int32.ofInt (ze N12_ 81 6)))]) rfl (by decide) rfl d_M_moveLine_111 ?_
                                refine zw_aload_n (pc := 112) (n := 0) (x := 81) rfl d_M_moveLine_112 ?_
                                refine zr_getF (r := 83) (hf_N12_.w hW) (pc := 113) f_M_20 rfl (zh_83 (hf_N12_.w hW)).1 d_M_moveLine_113 ?_
                                refine zw_bipush (pc := 116) (v := Int32.ofInt 6) (by decide) d_M_moveLine_116 ?_
                                refine zw_aload_n (pc := 118) (n := 0) (x := 81) rfl d_M_moveLine_118 ?_
                                refine zr_getI (hf_N12_.w hW) (pc := 119) f_M_199 rfl d_M_moveLine_119 ?_
                                refine zr_imul (pc := 122) d_M_moveLine_122 ?_
                                refine zw_iload_n (pc := 123) (n := 3) (x := Int32.ofInt u11_) rfl d_M_moveLine_123 ?_
                                refine zr_iadd (pc := 124) d_M_moveLine_124 ?_
                                refine zr_toI (show ((6 * (ze N12_ 81 13)) + u11_) = 6 * ze Mz 81 13 + u11_ by omega) ?_
                                refine zw_iload (pc := 125) (i := 4) (x := Int32.ofInt (ze N12_ 81 6)) rfl d_M_moveLine_125 ?_
                                refine zr_iast (pc := 127) (zh_83 (hf_N12_.w hW)).2 (by decide) (by decide) (by omega) (by omega) d_M_moveLine_127 (fun N69_ hN69_ hsN69_ => ?_)
                                have hf_N69_ : zFr [3, 4, 5, 6, 7, 8, 11, 13, 20] [83, 85, 86, 87, 88] Mz N69_ := hf_N12_.tr hsN69_ (by decide) (by decide)
                                have hb0_N69_ : zFr [3, 4, 5, 6, 7, 8, 11] [83] N1_ N69_ := hs13_.tr hsN69_ (by decide) (by decide)
                                have e2_N69_ : ze N69_ 81 2 = ze N12_ 81 2 := hsN69_.e (by decide)
                                have e3_N69_ : ze N69_ 81 3 = ze N12_ 81 3 := hsN69_.e (by decide)
                                have e4_N69_ : ze N69_ 81 4 = ze N12_ 81 4 := hsN69_.e (by decide)
                                have e5_N69_ : ze N69_ 81 5 = ze N12_ 81 5 := hsN69_.e (by decide)
                                have e6_N69_ : ze N69_ 81 6 = ze N12_ 81 6 := hsN69_.e (by decide)
                                have e7_N69_ : ze N69_ 81 7 = ze N12_ 81 7 := hsN69_.e (by decide)
                                have e12_N69_ : ze N69_ 81 12 = ze N12_ 81 12 := hsN69_.e (by decide)
                                have e13_N69_ : ze N69_ 81 13 = ze N12_ 81 13 := hsN69_.e (by decide)
                                have e20_N69_ : ze N69_ 81 20 = ze N12_ 81 20 := hsN69_.e (by decide)
                                have qzmu_N69_ : zmu N69_ = zmu N12_ := zmu_f hsN69_ (by decide)
                                have c70_ : zB 85 144 0 5 N69_ := zB.fr hsN69_ c21_ (by decide) (by decide)
                                have c71_ : zTv N69_ := zTv.fr hsN69_ i16_ (by decide) (by decide)
                                have c72_ : zB 83 24 0 5 N69_ := zB.s i20_ hN69_ (by omega) (by omega) (by decide) (by decide)
                                have hR1_ := zRow_s hRow_ (by omega) (by omega) (by omega) (by omega) (by omega) (by omega) hnb_ hN69_
                                have hK1_ := zKp_s (show zKp Mz N12_ (6 * ze Mz 81 13) by assumption) (by omega) (by omega) hN69_
                                refine zw_aload_n (pc := 128) (n := 0) (x := 81) rfl d_M_moveLine_128 ?_
                                refine zr_callV (hf_N69_.w hW) hf_N69_.x (pc := 129) [] [] l_M_193 (c_M_goOn l N69_ (hf_N69_.w hW) (show 0 ≤ ze N69_ 81 3 by first | assumption | omega) (show ze N69_ 81 3 ≤ ze N69_ 81 2 by first | assumption | omega) (show ze N69_ 81 2 ≤ 700 by first | assumption | omega) (show ze N69_ 81 5 ≠ 0 by first | assumption | omega) (show ze N69_ 81 7 = 0 by first | assumption | omega)) rfl rfl rfl (by decide) (Nat.le_of_ble_eq_true rfl) d_M_moveLine_129 ?_
                                rintro _ N73_ ⟨rfl, hsN73_, ⟨hp0_N73_, hp1_N73_, hp2_N73_, hp3_N73_, hp4_N73_⟩⟩
                                have hf_N73_ : zFr [3, 4, 5, 6, 7, 8, 11, 13, 20] [83, 85, 86, 87, 88] Mz N73_ := hf_N69_.tr hsN73_ (by decide) (by decide)
                                have hb0_N73_ : zFr [3, 4, 5, 6, 7, 8, 11] [83] N1_ N73_ := hb0_N69_.tr hsN73_ (by decide) (by decide)
                                have e2_N73_ : ze N73_ 81 2 = ze N69_ 81 2 := hsN73_.e (by decide)
                                have r3_N73_ := ze_r N73_ 81 3
                                have r4_N73_ := ze_r N73_ 81 4
                                have r5_N73_ := ze_r N73_ 81 5
                                have r6_N73_ := ze_r N73_ 81 6
                                have e7_N73_ : ze N73_ 81 7 = ze N69_ 81 7 := hsN73_.e (by decide)
                                have e12_N73_ : ze N73_ 81 12 = ze N69_ 81 12 := hsN73_.e (by decide)
                                have e13_N73_ : ze N73_ 81 13 = ze N69_ 81 13 := hsN73_.e (by decide)
                                have e20_N73_ : ze N73_ 81 20 = ze N69_ 81 20 := hsN73_.e (by decide)
                                have c75_ : zB 85 144 0 5 N73_ := zB.fr hsN73_ c70_ (by decide) (by decide)
                                have c76_ : zB 83 24 0 5 N73_ := zB.fr hsN73_ c72_ (by decide) (by decide)
                                show zW l m_M_moveLine (zn Mz + 0, zw Mz + 0) N73_ 132 [some (.ref 81), some (.int (Int32.ofInt (ze Mz 81 4))), some (.int (Int32.ofInt (zor u10_ (zshl 1 (ze N12_ 81 6))))), some (.int (Int32.ofInt u11_)), some (.int (Int32.ofInt (ze N12_ 81 6)))] [] (zpV [3, 4, 5, 6, 7, 8, 11, 13, 20] [83, 85, 86, 87, 88] Mz (fun N => 0 ≤ ze N 81 3 ∧ ze N 81 3 ≤ ze N 81 2 ∧ zTv N ∧ 0 ≤ ze N 81 13 ∧ ze N 81 13 ≤ 4 ∧ zB 83 24 0 5 N ∧ zB 85 144 0 5 N ∧ (((1 ≤ ze N 81 7 ∧ zmu N = 0) ∨ (ze N 81 7 = 0 ∧ zmu N < zmu Mz ∧ zPm N ∧ zFin N)))))
                                have hR2_ := zRow.fr hsN73_ hR1_ (by decide) (by decide)
                                have hK2_ := zKp.fr hsN73_ hK1_ (by decide)
                                refine zr_iinc (pc := 132) (i := 3) (a := u11_) (n := 1) (L2 := [some (.ref 81), some (.int (Int32.ofInt (ze Mz 81 4))), some (.int (Int32.ofInt (zor u10_ (zshl 1 (ze N12_ 81 6))))), some (.int (Int32.ofInt (u11_ + 1))), some (.int (Int32.ofInt (ze N12_ 81 6)))]) rfl (by decide) rfl d_M_moveLine_132 ?_
                                refine zw_goto (pc := 135) (tgt := 33) (by decide) d_M_moveLine_135 ?_
                                refine zW_le [some (.ref 81), some (.int (Int32.ofInt (ze Mz 81 4))), some (.int (Int32.ofInt (zor u10_ (zshl 1 (ze N12_ 81 6))))), some (.int (Int32.ofInt (u11_ + 1))), none] (⟨rfl, rfl, rfl, rfl, trivial⟩) ?_
                                exact ih_33 (zor u10_ (zshl 1 (ze N12_ 81 6))) (by omega) (by omega) (u11_ + 1) (by omega) (by omega) N73_ hb0_N73_ (show 0 ≤ ze N73_ 81 3 by first | assumption | omega) (show ze N73_ 81 3 ≤ ze N73_ 81 2 by first | assumption | omega) hp2_N73_ (show 0 ≤ (u11_ + 1) by first | assumption | omega) (show (u11_ + 1) ≤ ze Mz 81 12 by first | assumption | omega) (show (1 ≤ ze N73_ 81 7 ∧ zmu N73_ = 0) ∨ (ze N73_ 81 7 = 0 ∧ zmu N73_ < zmu Mz ∧ ze Mz 81 13 ≤ 3 ∧ zKp Mz N73_ (6 * ze Mz 81 13) ∧ zRow N73_ (ze Mz 81 13) (u11_ + 1) (zor u10_ (zshl 1 (ze N12_ 81 6)))) from Or.inr (⟨(show ze N73_ 81 7 = 0 by first | assumption | omega), (show zmu N73_ < zmu Mz by first | assumption | omega), (show ze Mz 81 13 ≤ 3 by first | assumption | omega), (show zKp Mz N73_ (6 * ze Mz 81 13) by first | assumption | omega), (show zRow N73_ (ze Mz 81 13) (u11_ + 1) (zor u10_ (zshl 1 (ze N12_ 81 6))) by first | assumption | omega)⟩)) c76_ (by omega)
                              · skip
                                exfalso; omega
                            · skip
                              exact absurd hc_89 (by decide)
                    · skip
                      exfalso; omega
                  · skip
                    refine zw_aload_n (pc := 56) (n := 0) (x := 81) rfl d_M_moveLine_56 ?_
                    refine zw_iconst (pc := 57) (v := Int32.ofInt 2) (by decide) d_M_moveLine_57 ?_
                    refine zr_callV (hf_N12_.w hW) hf_N12_.x (pc := 58) [.int (Int32.ofInt 2)] [] l_M_190 (c_M_wrong l N12_ (hf_N12_.w hW) 2 (by decide) (by decide) (show ze N12_ 81 7 = 0 by first | assumption | omega) (show 1 ≤ 2 by first | assumption | omega)) rfl rfl rfl (by decide) (Nat.le_of_ble_eq_true rfl) d_M_moveLine_58 ?_
                    rintro _ N77_ ⟨rfl, hsN77_, ⟨hp0_N77_, hp1_N77_⟩⟩
                    have hf_N77_ : zFr [3, 4, 5, 6, 7, 8, 11, 13, 20] [83, 85, 86, 87, 88] Mz N77_ := hf_N12_.tr hsN77_ (by decide) (by decide)
                    have hb0_N77_ : zFr [3, 4, 5, 6, 7, 8, 11] [83] N1_ N77_ := hs13_.tr hsN77_ (by decide) (by decide)
                    have e2_N77_ : ze N77_ 81 2 = ze N12_ 81 2 := hsN77_.e (by decide)
                    have e3_N77_ : ze N77_ 81 3 = ze N12_ 81 3 := hsN77_.e (by decide)
                    have e4_N77_ : ze N77_ 81 4 = ze N12_ 81 4 := hsN77_.e (by decide)
                    have e5_N77_ : ze N77_ 81 5 = ze N12_ 81 5 := hsN77_.e (by decide)
                    have e6_N77_ : ze N77_ 81 6 = ze N12_ 81 6 := hsN77_.e (by decide)
                    have r7_N77_ := ze_r N77_ 81 7
                    have e12_N77_ : ze N77_ 81 12 = ze N12_ 81 12 := hsN77_.e (by decide)
                    have e13_N77_ : ze N77_ 81 13 = ze N12_ 81 13 := hsN77_.e (by decide)
                    have e20_N77_ : ze N77_ 81 20 = ze N12_ 81 20 := hsN77_.e (by decide)
                    have c79_ : zB 85 144 0 5 N77_ := zB.fr hsN77_ c21_ (by decide) (by decide)
                    have c80_ : zTv N77_ := zTv.fr hsN77_ i16_ (by decide) (by decide)
                    have c81_ : zB 83 24 0 5 N77_ := zB.fr hsN77_ i20_ (by decide) (by decide)
                    show zW l m_M_moveLine (zn Mz + 0, zw Mz + 0) N77_ 61 [some (.ref 81), some (.int (Int32.ofInt (ze Mz 81 4))), some (.int (Int32.ofInt u10_)), some (.int (Int32.ofInt u11_)), none] [] (zpV [3, 4, 5, 6, 7, 8, 11, 13, 20] [83, 85, 86, 87, 88] Mz (fun N => 0 ≤ ze N 81 3 ∧ ze N 81 3 ≤ ze N 81 2 ∧ zTv N ∧ 0 ≤ ze N 81 13 ∧ ze N 81 13 ≤ 4 ∧ zB 83 24 0 5 N ∧ zB 85 144 0 5 N ∧ (((1 ≤ ze N 81 7 ∧ zmu N = 0) ∨ (ze N 81 7 = 0 ∧ zmu N < zmu Mz ∧ zPm N ∧ zFin N)))))
                    refine zw_aload_n (pc := 61) (n := 0) (x := 81) rfl d_M_moveLine_61 ?_
                    refine zr_getI (hf_N77_.w hW) (pc := 62) f_M_152 rfl d_M_moveLine_62 ?_
                    refine zw_istore (pc := 65) (i := 4) (L2 := [some (.ref 81), some (.int (Int32.ofInt (ze Mz 81 4))), some (.int (Int32.ofInt u10_)), some (.int (Int32.ofInt u11_)), some (.int (Int32.ofInt (ze N77_ 81 6)))]) (by decide) rfl d_M_moveLine_65 ?_
                    refine zw_aload_n (pc := 67) (n := 0) (x := 81) rfl d_M_moveLine_67 ?_
                    refine zr_callV (hf_N77_.w hW) hf_N77_.x (pc := 68) [] [] l_M_183 (c_M_isGood l N77_ (hf_N77_.w hW) ) rfl rfl rfl (by decide) (Nat.le_of_ble_eq_true rfl) d_M_moveLine_68 ?_
                    rintro _ N82_ ⟨v83_, rfl, ⟨hv83_a, hv83_b⟩, hsN82_, hp0_N82_⟩
                    obtain rfl := hsN82_.eq.symm
                    replace hp0_N82_ : ((v83_ = 1 ∧ ze N77_ 81 7 = 0) ∨ (v83_ = 0 ∧ ze N77_ 81 7 ≠ 0)) := hp0_N82_
                    rcases hp0_N82_ with ⟨rfl, ha68_0_hp0_N82_⟩ | ⟨rfl, ha68_0_hp0_N82_⟩
                    · skip
                      exfalso; omega
                    · skip
                      show zW l m_M_moveLine (zn Mz + 0, zw Mz + 0) N77_ 71 [some (.ref 81), some (.int (Int32.ofInt (ze Mz 81 4))), some (.int (Int32.ofInt u10_)), some (.int (Int32.ofInt u11_)), some (.int (Int32.ofInt (ze N77_ 81 6)))] [.int (Int32.ofInt 0)] (zpV [3, 4, 5, 6, 7, 8, 11, 13, 20] [83, 85, 86, 87, 88] Mz (fun N => 0 ≤ ze N 81 3 ∧ ze N 81 3 ≤ ze N 81 2 ∧ zTv N ∧ 0 ≤ ze N 81 13 ∧ ze N 81 13 ≤ 4 ∧ zB 83 24 0 5 N ∧ zB 85 144 0 5 N ∧ (((1 ≤ ze N 81 7 ∧ zmu N = 0) ∨ (ze N 81 7 = 0 ∧ zmu N < zmu Mz ∧ zPm N ∧ zFin N)))))
                      refine zr_if_eq (pc := 71) (tgt := 97) ⟨(by decide), (by decide)⟩ (by decide) d_M_moveLine_71 (fun hc_71 => ?_) (fun hc_71 => ?_)
                      · skip
                        refine zw_aload_n (pc := 97) (n := 0) (x := 81) rfl d_M_moveLine_97 ?_
                        refine zr_getI (hf_N77_.w hW) (pc := 98) f_M_172 rfl d_M_moveLine_98 ?_
                        refine zr_if_le (pc := 101) (tgt := 105) ⟨(ze_r N77_ 81 7).1, (ze_r N77_ 81 7).2⟩ (by decide) d_M_moveLine_101 (fun hc_101 => ?_) (fun hc_101 => ?_)
                        · skip
                          exfalso; omega
                        · skip
                          have hz0 := zmu_s N77_
                          exact zr_vret (pc := 104) rfl hf_N77_ ⟨(show 0 ≤ ze N77_ 81 3 by first | assumption | omega), (show ze N77_ 81 3 ≤ ze N77_ 81 2 by first | assumption | omega), c80_, (show 0 ≤ ze N77_ 81 13 by first | assumption | omega), (show ze N77_ 81 13 ≤ 4 by first | assumption | omega), c81_, c79_, (show ((1 ≤ ze N77_ 81 7 ∧ zmu N77_ = 0) ∨ (ze N77_ 81 7 = 0 ∧ zmu N77_ < zmu Mz ∧ zPm N77_ ∧ zFin N77_)) from Or.inl (⟨(show 1 ≤ ze N77_ 81 7 by first | assumption | omega), (show zmu N77_ = 0 by first | assumption | omega)⟩))⟩ d_M_moveLine_104
                      · skip
                        exact absurd hc_71 (by decide)
              · skip
                exfalso; omega
      exact lp_33 _ 0 (by decide) (by decide) 0 (by decide) (by decide) N1_ zFr.rf (show 0 ≤ ze N1_ 81 3 by first | assumption | omega) (show ze N1_ 81 3 ≤ ze N1_ 81 2 by first | assumption | omega) i5_ (show 0 ≤ (0 : Int) by first | assumption | omega) (show (0 : Int) ≤ ze Mz 81 12 by first | assumption | omega) (show (1 ≤ ze N1_ 81 7 ∧ zmu N1_ = 0) ∨ (ze N1_ 81 7 = 0 ∧ zmu N1_ < zmu Mz ∧ ze Mz 81 13 ≤ 3 ∧ zKp Mz N1_ (6 * ze Mz 81 13) ∧ zRow N1_ (ze Mz 81 13) (0 : Int) (0 : Int)) from Or.inl (⟨(show 1 ≤ ze N1_ 81 7 by first | assumption | omega | exact zRow_0), (show zmu N1_ = 0 by first | assumption | omega | exact zRow_0)⟩)) c8_ (Nat.lt_succ_self _)
    · skip
      refine zw_iconst (pc := 29) (v := Int32.ofInt 0) (by decide) d_M_moveLine_29 ?_
      refine zw_istore_n (pc := 30) (i := 2) (L2 := [some (.ref 81), some (.int (Int32.ofInt (ze Mz 81 4))), some (.int (Int32.ofInt 0)), none, none]) rfl (by decide) rfl d_M_moveLine_30 ?_
      refine zw_iconst (pc := 31) (v := Int32.ofInt 0) (by decide) d_M_moveLine_31 ?_
      refine zw_istore_n (pc := 32) (i := 3) (L2 := [some (.ref 81), some (.int (Int32.ofInt (ze Mz 81 4))), some (.int (Int32.ofInt 0)), some (.int (Int32.ofInt 0)), none]) rfl (by decide) rfl d_M_moveLine_32 ?_
      have lp_33 : ∀ (n : Nat) (u84_ : Int) (hu84_a : -2147483648 ≤ u84_) (hu84_b : u84_ < 2147483648) (u85_ : Int) (hu85_a : -2147483648 ≤ u85_) (hu85_b : u85_ < 2147483648) (N86_ : zMem) (hs87_ : zFr [3, 4, 5, 6, 7, 8, 11] [83] N1_ N86_) (i88_ : 0 ≤ ze N86_ 81 3) (i89_ : ze N86_ 81 3 ≤ ze N86_ 81 2) (i90_ : zTv N86_) (i91_ : 0 ≤ u85_) (i92_ : u85_ ≤ ze Mz 81 12) (i93_ : (1 ≤ ze N86_ 81 7 ∧ zmu N86_ = 0) ∨ (ze N86_ 81 7 = 0 ∧ zmu N86_ < zmu Mz ∧ ze Mz 81 13 ≤ 3 ∧ zKp Mz N86_ (6 * ze Mz 81 13) ∧ zRow N86_ (ze Mz 81 13) u85_ u84_)) (i94_ : zB 83 24 0 5 N86_), (ze Mz 81 12 - u85_).toNat < n → zW l m_M_moveLine (zn Mz + 0, zw Mz + 0) N86_ 33 [some (.ref 81), some (.int (Int32.ofInt (ze Mz 81 4))), some (.int (Int32.ofInt u84_)), some (.int (Int32.ofInt u85_)), none] [] (zpV [3, 4, 5, 6, 7, 8, 11, 13, 20] [83, 85, 86, 87, 88] Mz (fun N => 0 ≤ ze N 81 3 ∧ ze N 81 3 ≤ ze N 81 2 ∧ zTv N ∧ 0 ≤ ze N 81 13 ∧ ze N 81 13 ≤ 4 ∧ zB 83 24 0 5 N ∧ zB 85 144 0 5 N ∧ (((1 ≤ ze N 81 7 ∧ zmu N = 0) ∨ (ze N 81 7 = 0 ∧ zmu N < zmu Mz ∧ zPm N ∧ zFin N))))) := by
        intro n
        induction n with
        | zero =>
          intro u84_ hu84_a hu84_b u85_ hu85_a hu85_b N86_ hs87_ i88_ i89_ i90_ i91_ i92_ i93_ i94_ h0
          exact absurd h0 (Nat.not_lt_zero _)
        | succ n ih_33 =>
          intro u84_ hu84_a hu84_b u85_ hu85_a hu85_b N86_ hs87_ i88_ i89_ i90_ i91_ i92_ i93_ i94_ hlt_33
          have hf_N86_ : zFr [3, 4, 5, 6, 7, 8, 11, 13, 20] [83, 85, 86, 87, 88] Mz N86_ := hf_N1_.tr hs87_ (by decide) (by decide)
          have e2_N86_ : ze N86_ 81 2 = ze N1_ 81 2 := hs87_.e (by decide)
          have r3_N86_ := ze_r N86_ 81 3
          have r4_N86_ := ze_r N86_ 81 4
          have r5_N86_ := ze_r N86_ 81 5
          have r6_N86_ := ze_r N86_ 81 6
          have r7_N86_ := ze_r N86_ 81 7
          have e12_N86_ : ze N86_ 81 12 = ze N1_ 81 12 := hs87_.e (by decide)
          have e13_N86_ : ze N86_ 81 13 = ze N1_ 81 13 := hs87_.e (by decide)
          have e20_N86_ : ze N86_ 81 20 = ze N1_ 81 20 := hs87_.e (by decide)
          have c95_ : zB 85 144 0 5 N86_ := zB.fr hs87_ c9_ (by decide) (by decide)
          have zz2_N86_ : ze N86_ 81 2 = ze Mz 81 2 := hf_N86_.e (by decide)
          have zz12_N86_ : ze N86_ 81 12 = ze Mz 81 12 := hf_N86_.e (by decide)
          rcases i93_ with ⟨hl33_0_i93_, hl33_1_i93_⟩ | ⟨hl33_0_i93_, hl33_1_i93_, hl33_2_i93_, hl33_3_i93_, hl33_4_i93_⟩
          · skip
            refine zw_iload_n (pc := 33) (n := 3) (x := Int32.ofInt u85_) rfl d_M_moveLine_33 ?_
            refine zw_aload_n (pc := 34) (n := 0) (x := 81) rfl d_M_moveLine_34 ?_
            refine zr_getI0 hf_N86_ hW (pc := 35) (by decide) f_M_115 rfl d_M_moveLine_35 ?_
            refine zr_icmp_ge (pc := 38) (tgt := 138) ⟨hu85_a, hu85_b⟩ ⟨(ze_r Mz 81 12).1, (ze_r Mz 81 12).2⟩ (by decide) d_M_moveLine_38 (fun hc_38 => ?_) (fun hc_38 => ?_)
            · skip
              refine zw_aload_n (pc := 138) (n := 0) (x := 81) rfl d_M_moveLine_138 ?_
              refine zw_bipush (pc := 139) (v := Int32.ofInt 59) (by decide) d_M_moveLine_139 ?_
              refine zr_callV (hf_N86_.w hW) hf_N86_.x (pc := 141) [.int (Int32.ofInt 59)] [] l_M_355 (c_M_must l N86_ (hf_N86_.w hW) 59 (by decide) (by decide) (show 0 ≤ ze N86_ 81 3 by first | assumption | omega) (show ze N86_ 81 3 ≤ ze N86_ 81 2 by first | assumption | omega) (show ze N86_ 81 2 ≤ 700 by first | assumption | omega) i90_ (show 0 ≤ ze N86_ 81 7 by first | assumption | omega)) rfl rfl rfl (by decide) (Nat.le_of_ble_eq_true rfl) d_M_moveLine_141 ?_
              rintro _ N96_ ⟨rfl, hsN96_, ⟨hp0_N96_, hp1_N96_, hp2_N96_, hp3_N96_⟩⟩
              have hf_N96_ : zFr [3, 4, 5, 6, 7, 8, 11, 13, 20] [83, 85, 86, 87, 88] Mz N96_ := hf_N86_.tr hsN96_ (by decide) (by decide)
              have e2_N96_ : ze N96_ 81 2 = ze N86_ 81 2 := hsN96_.e (by decide)
              have r3_N96_ := ze_r N96_ 81 3
              have r4_N96_ := ze_r N96_ 81 4
              have r5_N96_ := ze_r N96_ 81 5
              have r6_N96_ := ze_r N96_ 81 6
              have r7_N96_ := ze_r N96_ 81 7
              have e12_N96_ : ze N96_ 81 12 = ze N86_ 81 12 := hsN96_.e (by decide)
              have e13_N96_ : ze N96_ 81 13 = ze N86_ 81 13 := hsN96_.e (by decide)
              have e20_N96_ : ze N96_ 81 20 = ze N86_ 81 20 := hsN96_.e (by decide)
              have c98_ : zB 85 144 0 5 N96_ := zB.fr hsN96_ c95_ (by decide) (by decide)
              have c99_ : zB 83 24 0 5 N96_ := zB.fr hsN96_ i94_ (by decide) (by decide)
              rcases hp3_N96_ with ⟨ha141_0_hp3_N96_, ha141_1_hp3_N96_⟩ | ⟨ha141_0_hp3_N96_, ha141_1_hp3_N96_, ha141_2_hp3_N96_⟩
              · skip
                show zW l m_M_moveLine (zn Mz + 0, zw Mz + 0) N96_ 144 [some (.ref 81), some (.int (Int32.ofInt (ze Mz 81 4))), some (.int (Int32.ofInt u84_)), some (.int (Int32.ofInt u85_)), none] [] (zpV [3, 4, 5, 6, 7, 8, 11, 13, 20] [83, 85, 86, 87, 88] Mz (fun N => 0 ≤ ze N 81 3 ∧ ze N 81 3 ≤ ze N 81 2 ∧ zTv N ∧ 0 ≤ ze N 81 13 ∧ ze N 81 13 ≤ 4 ∧ zB 83 24 0 5 N ∧ zB 85 144 0 5 N ∧ (((1 ≤ ze N 81 7 ∧ zmu N = 0) ∨ (ze N 81 7 = 0 ∧ zmu N < zmu Mz ∧ zPm N ∧ zFin N)))))
                refine zw_aload_n (pc := 144) (n := 0) (x := 81) rfl d_M_moveLine_144 ?_
                refine zr_getI (hf_N96_.w hW) (pc := 145) f_M_172 rfl d_M_moveLine_145 ?_
                refine zr_if_le (pc := 148) (tgt := 152) ⟨(ze_r N96_ 81 7).1, (ze_r N96_ 81 7).2⟩ (by decide) d_M_moveLine_148 (fun hc_148 => ?_) (fun hc_148 => ?_)
                · skip
                  exfalso; omega
                · skip
                  have hz0 := zmu_s N96_
                  exact zr_vret (pc := 151) rfl hf_N96_ ⟨(show 0 ≤ ze N96_ 81 3 by first | assumption | omega), (show ze N96_ 81 3 ≤ ze N96_ 81 2 by first | assumption | omega), hp2_N96_, (show 0 ≤ ze N96_ 81 13 by first | assumption | omega), (show ze N96_ 81 13 ≤ 4 by first | assumption | omega), c99_, c98_, (show ((1 ≤ ze N96_ 81 7 ∧ zmu N96_ = 0) ∨ (ze N96_ 81 7 = 0 ∧ zmu N96_ < zmu Mz ∧ zPm N96_ ∧ zFin N96_)) from Or.inl (⟨(show 1 ≤ ze N96_ 81 7 by first | assumption | omega), (show zmu N96_ = 0 by first | assumption | omega)⟩))⟩ d_M_moveLine_151
              · skip
                exfalso; omega
            · skip
              refine zw_aload_n (pc := 41) (n := 0) (x := 81) rfl d_M_moveLine_41 ?_
              refine zr_callV (hf_N86_.w hW) hf_N86_.x (pc := 42) [] [] l_M_183 (c_M_isGood l N86_ (hf_N86_.w hW) ) rfl rfl rfl (by decide) (Nat.le_of_ble_eq_true rfl) d_M_moveLine_42 ?_
              rintro _ N100_ ⟨v101_, rfl, ⟨hv101_a, hv101_b⟩, hsN100_, hp0_N100_⟩
              obtain rfl := hsN100_.eq.symm
              replace hp0_N100_ : ((v101_ = 1 ∧ ze N86_ 81 7 = 0) ∨ (v101_ = 0 ∧ ze N86_ 81 7 ≠ 0)) := hp0_N100_
              rcases hp0_N100_ with ⟨rfl, ha42_0_hp0_N100_⟩ | ⟨rfl, ha42_0_hp0_N100_⟩
              · skip
                exfalso; omega
              · skip
                show zW l m_M_moveLine (zn Mz + 0, zw Mz + 0) N86_ 45 [some (.ref 81), some (.int (Int32.ofInt (ze Mz 81 4))), some (.int (Int32.ofInt u84_)), some (.int (Int32.ofInt u85_)), none] [.int (Int32.ofInt 0)] (zpV [3, 4, 5, 6, 7, 8, 11, 13, 20] [83, 85, 86, 87, 88] Mz (fun N => 0 ≤ ze N 81 3 ∧ ze N 81 3 ≤ ze N 81 2 ∧ zTv N ∧ 0 ≤ ze N 81 13 ∧ ze N 81 13 ≤ 4 ∧ zB 83 24 0 5 N ∧ zB 85 144 0 5 N ∧ (((1 ≤ ze N 81 7 ∧ zmu N = 0) ∨ (ze N 81 7 = 0 ∧ zmu N < zmu Mz ∧ zPm N ∧ zFin N)))))
                refine zr_if_eq (pc := 45) (tgt := 138) ⟨(by decide), (by decide)⟩ (by decide) d_M_moveLine_45 (fun hc_45 => ?_) (fun hc_45 => ?_)
                · skip
                  refine zw_aload_n (pc := 138) (n := 0) (x := 81) rfl d_M_moveLine_138 ?_
                  refine zw_bipush (pc := 139) (v := Int32.ofInt 59) (by decide) d_M_moveLine_139 ?_
                  refine zr_callV (hf_N86_.w hW) hf_N86_.x (pc := 141) [.int (Int32.ofInt 59)] [] l_M_355 (c_M_must l N86_ (hf_N86_.w hW) 59 (by decide) (by decide) (show 0 ≤ ze N86_ 81 3 by first | assumption | omega) (show ze N86_ 81 3 ≤ ze N86_ 81 2 by first | assumption | omega) (show ze N86_ 81 2 ≤ 700 by first | assumption | omega) i90_ (show 0 ≤ ze N86_ 81 7 by first | assumption | omega)) rfl rfl rfl (by decide) (Nat.le_of_ble_eq_true rfl) d_M_moveLine_141 ?_
                  rintro _ N102_ ⟨rfl, hsN102_, ⟨hp0_N102_, hp1_N102_, hp2_N102_, hp3_N102_⟩⟩
                  have hf_N102_ : zFr [3, 4, 5, 6, 7, 8, 11, 13, 20] [83, 85, 86, 87, 88] Mz N102_ := hf_N86_.tr hsN102_ (by decide) (by decide)
                  have e2_N102_ : ze N102_ 81 2 = ze N86_ 81 2 := hsN102_.e (by decide)
                  have r3_N102_ := ze_r N102_ 81 3
                  have r4_N102_ := ze_r N102_ 81 4
                  have r5_N102_ := ze_r N102_ 81 5
                  have r6_N102_ := ze_r N102_ 81 6
                  have r7_N102_ := ze_r N102_ 81 7
                  have e12_N102_ : ze N102_ 81 12 = ze N86_ 81 12 := hsN102_.e (by decide)
                  have e13_N102_ : ze N102_ 81 13 = ze N86_ 81 13 := hsN102_.e (by decide)
                  have e20_N102_ : ze N102_ 81 20 = ze N86_ 81 20 := hsN102_.e (by decide)
                  have c104_ : zB 85 144 0 5 N102_ := zB.fr hsN102_ c95_ (by decide) (by decide)
                  have c105_ : zB 83 24 0 5 N102_ := zB.fr hsN102_ i94_ (by decide) (by decide)
                  rcases hp3_N102_ with ⟨ha141_0_hp3_N102_, ha141_1_hp3_N102_⟩ | ⟨ha141_0_hp3_N102_, ha141_1_hp3_N102_, ha141_2_hp3_N102_⟩
                  · skip
                    show zW l m_M_moveLine (zn Mz + 0, zw Mz + 0) N102_ 144 [some (.ref 81), some (.int (Int32.ofInt (ze Mz 81 4))), some (.int (Int32.ofInt u84_)), some (.int (Int32.ofInt u85_)), none] [] (zpV [3, 4, 5, 6, 7, 8, 11, 13, 20] [83, 85, 86, 87, 88] Mz (fun N => 0 ≤ ze N 81 3 ∧ ze N 81 3 ≤ ze N 81 2 ∧ zTv N ∧ 0 ≤ ze N 81 13 ∧ ze N 81 13 ≤ 4 ∧ zB 83 24 0 5 N ∧ zB 85 144 0 5 N ∧ (((1 ≤ ze N 81 7 ∧ zmu N = 0) ∨ (ze N 81 7 = 0 ∧ zmu N < zmu Mz ∧ zPm N ∧ zFin N)))))
                    refine zw_aload_n (pc := 144) (n := 0) (x := 81) rfl d_M_moveLine_144 ?_
                    refine zr_getI (hf_N102_.w hW) (pc := 145) f_M_172 rfl d_M_moveLine_145 ?_
                    refine zr_if_le (pc := 148) (tgt := 152) ⟨(ze_r N102_ 81 7).1, (ze_r N102_ 81 7).2⟩ (by decide) d_M_moveLine_148 (fun hc_148 => ?_) (fun hc_148 => ?_)
                    · skip
                      exfalso; omega
                    · skip
                      have hz0 := zmu_s N102_
                      exact zr_vret (pc := 151) rfl hf_N102_ ⟨(show 0 ≤ ze N102_ 81 3 by first | assumption | omega), (show ze N102_ 81 3 ≤ ze N102_ 81 2 by first | assumption | omega), hp2_N102_, (show 0 ≤ ze N102_ 81 13 by first | assumption | omega), (show ze N102_ 81 13 ≤ 4 by first | assumption | omega), c105_, c104_, (show ((1 ≤ ze N102_ 81 7 ∧ zmu N102_ = 0) ∨ (ze N102_ 81 7 = 0 ∧ zmu N102_ < zmu Mz ∧ zPm N102_ ∧ zFin N102_)) from Or.inl (⟨(show 1 ≤ ze N102_ 81 7 by first | assumption | omega), (show zmu N102_ = 0 by first | assumption | omega)⟩))⟩ d_M_moveLine_151
                  · skip
                    exfalso; omega
                · skip
                  exact absurd hc_45 (by decide)
          · skip
            refine zw_iload_n (pc := 33) (n := 3) (x := Int32.ofInt u85_) rfl d_M_moveLine_33 ?_
            refine zw_aload_n (pc := 34) (n := 0) (x := 81) rfl d_M_moveLine_34 ?_
            refine zr_getI0 hf_N86_ hW (pc := 35) (by decide) f_M_115 rfl d_M_moveLine_35 ?_
            refine zr_icmp_ge (pc := 38) (tgt := 138) ⟨hu85_a, hu85_b⟩ ⟨(ze_r Mz 81 12).1, (ze_r Mz 81 12).2⟩ (by decide) d_M_moveLine_38 (fun hc_38 => ?_) (fun hc_38 => ?_)
            · skip
              refine zw_aload_n (pc := 138) (n := 0) (x := 81) rfl d_M_moveLine_138 ?_
              refine zw_bipush (pc := 139) (v := Int32.ofInt 59) (by decide) d_M_moveLine_139 ?_
              refine zr_callV (hf_N86_.w hW) hf_N86_.x (pc := 141) [.int (Int32.ofInt 59)] [] l_M_355 (c_M_must l N86_ (hf_N86_.w hW) 59 (by decide) (by decide) (show 0 ≤ ze N86_ 81 3 by first | assumption | omega) (show ze N86_ 81 3 ≤ ze N86_ 81 2 by first | assumption | omega) (show ze N86_ 81 2 ≤ 700 by first | assumption | omega) i90_ (show 0 ≤ ze N86_ 81 7 by first | assumption | omega)) rfl rfl rfl (by decide) (Nat.le_of_ble_eq_true rfl) d_M_moveLine_141 ?_
              rintro _ N106_ ⟨rfl, hsN106_, ⟨hp0_N106_, hp1_N106_, hp2_N106_, hp3_N106_⟩⟩
              have hf_N106_ : zFr [3, 4, 5, 6, 7, 8, 11, 13, 20] [83, 85, 86, 87, 88] Mz N106_ := hf_N86_.tr hsN106_ (by decide) (by decide)
              have e2_N106_ : ze N106_ 81 2 = ze N86_ 81 2 := hsN106_.e (by decide)
              have r3_N106_ := ze_r N106_ 81 3
              have r4_N106_ := ze_r N106_ 81 4
              have r5_N106_ := ze_r N106_ 81 5
              have r6_N106_ := ze_r N106_ 81 6
              have r7_N106_ := ze_r N106_ 81 7
              have e12_N106_ : ze N106_ 81 12 = ze N86_ 81 12 := hsN106_.e (by decide)
              have e13_N106_ : ze N106_ 81 13 = ze N86_ 81 13 := hsN106_.e (by decide)
              have e20_N106_ : ze N106_ 81 20 = ze N86_ 81 20 := hsN106_.e (by decide)
              have c108_ : zB 85 144 0 5 N106_ := zB.fr hsN106_ c95_ (by decide) (by decide)
              have c109_ : zB 83 24 0 5 N106_ := zB.fr hsN106_ i94_ (by decide) (by decide)
              rcases hp3_N106_ with ⟨ha141_0_hp3_N106_, ha141_1_hp3_N106_⟩ | ⟨ha141_0_hp3_N106_, ha141_1_hp3_N106_, ha141_2_hp3_N106_⟩
              · skip
                show zW l m_M_moveLine (zn Mz + 0, zw Mz + 0) N106_ 144 [some (.ref 81), some (.int (Int32.ofInt (ze Mz 81 4))), some (.int (Int32.ofInt u84_)), some (.int (Int32.ofInt u85_)), none] [] (zpV [3, 4, 5, 6, 7, 8, 11, 13, 20] [83, 85, 86, 87, 88] Mz (fun N => 0 ≤ ze N 81 3 ∧ ze N 81 3 ≤ ze N 81 2 ∧ zTv N ∧ 0 ≤ ze N 81 13 ∧ ze N 81 13 ≤ 4 ∧ zB 83 24 0 5 N ∧ zB 85 144 0 5 N ∧ (((1 ≤ ze N 81 7 ∧ zmu N = 0) ∨ (ze N 81 7 = 0 ∧ zmu N < zmu Mz ∧ zPm N ∧ zFin N)))))
                refine zw_aload_n (pc := 144) (n := 0) (x := 81) rfl d_M_moveLine_144 ?_
                refine zr_getI (hf_N106_.w hW) (pc := 145) f_M_172 rfl d_M_moveLine_145 ?_
                refine zr_if_le (pc := 148) (tgt := 152) ⟨(ze_r N106_ 81 7).1, (ze_r N106_ 81 7).2⟩ (by decide) d_M_moveLine_148 (fun hc_148 => ?_) (fun hc_148 => ?_)
                · skip
                  exfalso; omega
                · skip
                  have hz0 := zmu_s N106_
                  exact zr_vret (pc := 151) rfl hf_N106_ ⟨(show 0 ≤ ze N106_ 81 3 by first | assumption | omega), (show ze N106_ 81 3 ≤ ze N106_ 81 2 by first | assumption | omega), hp2_N106_, (show 0 ≤ ze N106_ 81 13 by first | assumption | omega), (show ze N106_ 81 13 ≤ 4 by first | assumption | omega), c109_, c108_, (show ((1 ≤ ze N106_ 81 7 ∧ zmu N106_ = 0) ∨ (ze N106_ 81 7 = 0 ∧ zmu N106_ < zmu Mz ∧ zPm N106_ ∧ zFin N106_)) from Or.inl (⟨(show 1 ≤ ze N106_ 81 7 by first | assumption | omega), (show zmu N106_ = 0 by first | assumption | omega)⟩))⟩ d_M_moveLine_151
              · skip
                have hKm_ := zKp.fr hsN106_ (show zKp Mz N86_ (6 * ze Mz 81 13) by assumption) (by decide)
                have hRm_ := zRow.fr hsN106_ (show zRow N86_ (ze Mz 81 13) u85_ u84_ by assumption) (by decide) (by decide)
                show zW l m_M_moveLine (zn Mz + 0, zw Mz + 0) N106_ 144 [some (.ref 81), some (.int (Int32.ofInt (ze Mz 81 4))), some (.int (Int32.ofInt u84_)), some (.int (Int32.ofInt u85_)), none] [] (zpV [3, 4, 5, 6, 7, 8, 11, 13, 20] [83, 85, 86, 87, 88] Mz (fun N => 0 ≤ ze N 81 3 ∧ ze N 81 3 ≤ ze N 81 2 ∧ zTv N ∧ 0 ≤ ze N 81 13 ∧ ze N 81 13 ≤ 4 ∧ zB 83 24 0 5 N ∧ zB 85 144 0 5 N ∧ (((1 ≤ ze N 81 7 ∧ zmu N = 0) ∨ (ze N 81 7 = 0 ∧ zmu N < zmu Mz ∧ zPm N ∧ zFin N)))))
                refine zw_aload_n (pc := 144) (n := 0) (x := 81) rfl d_M_moveLine_144 ?_
                refine zr_getI (hf_N106_.w hW) (pc := 145) f_M_172 rfl d_M_moveLine_145 ?_
                refine zr_if_le (pc := 148) (tgt := 152) ⟨(ze_r N106_ 81 7).1, (ze_r N106_ 81 7).2⟩ (by decide) d_M_moveLine_148 (fun hc_148 => ?_) (fun hc_148 => ?_)
                · skip
                  refine zw_aload_n (pc := 152) (n := 0) (x := 81) rfl d_M_moveLine_152 ?_
                  refine zw_dup (pc := 153) rfl d_M_moveLine_153 ?_
                  refine zr_getI (hf_N106_.w hW) (pc := 154) f_M_199 rfl d_M_moveLine_154 ?_
                  refine zw_iconst (pc := 157) (v := Int32.ofInt 1) (by decide) d_M_moveLine_157 ?_
                  refine zr_iadd (pc := 158) d_M_moveLine_158 ?_
                  refine zr_putI (hf_N106_.w hW) (pc := 159) f_M_199 rfl rfl ⟨by omega, by omega⟩ rfl rfl d_M_moveLine_159 (fun N110_ hsN110_ hvN110_ => ?_)
                  have hf_N110_ : zFr [3, 4, 5, 6, 7, 8, 11, 13, 20] [83, 85, 86, 87, 88] Mz N110_ := hf_N106_.tr hsN110_ (by decide) (by decide)
                  have e2_N110_ : ze N110_ 81 2 = ze N106_ 81 2 := hsN110_.e (by decide)
                  have e3_N110_ : ze N110_ 81 3 = ze N106_ 81 3 := hsN110_.e (by decide)
                  have e4_N110_ : ze N110_ 81 4 = ze N106_ 81 4 := hsN110_.e (by decide)
                  have e5_N110_ : ze N110_ 81 5 = ze N106_ 81 5 := hsN110_.e (by decide)
                  have e6_N110_ : ze N110_ 81 6 = ze N106_ 81 6 := hsN110_.e (by decide)
                  have e7_N110_ : ze N110_ 81 7 = ze N106_ 81 7 := hsN110_.e (by decide)
                  have e12_N110_ : ze N110_ 81 12 = ze N106_ 81 12 := hsN110_.e (by decide)
                  have r13_N110_ := ze_r N110_ 81 13
                  have e20_N110_ : ze N110_ 81 20 = ze N106_ 81 20 := hsN110_.e (by decide)
                  have qzmu_N110_ : zmu N110_ = zmu N106_ := zmu_f hsN110_ (by decide)
                  have c111_ : zB 85 144 0 5 N110_ := zB.fr hsN110_ c108_ (by decide) (by decide)
                  have c112_ : zB 83 24 0 5 N110_ := zB.fr hsN110_ c109_ (by decide) (by decide)
                  have c113_ : zTv N110_ := zTv.fr hsN110_ hp2_N106_ (by decide) (by decide)
                  have hPm_ : zPm N110_ := zPm_s p10_ (by omega) (by omega) (by omega) ⟨by omega, by omega⟩ (zKp.fr hsN110_ hKm_ (by decide)) (zRow.fr hsN110_ hRm_ (by decide) (by decide)) (by omega)
                  refine zw_aload_n (pc := 162) (n := 0) (x := 81) rfl d_M_moveLine_162 ?_
                  refine zr_callV (hf_N110_.w hW) hf_N110_.x (pc := 163) [] [] l_M_226 (c_M_buildsMembers l N110_ (hf_N110_.w hW) (show 1 ≤ ze N110_ 81 12 by first | assumption | omega) (show ze N110_ 81 12 ≤ 6 by first | assumption | omega) (show 0 ≤ ze N110_ 81 13 by first | assumption | omega) (show ze N110_ 81 13 ≤ 4 by first | assumption | omega) hPm_ c112_ c111_) rfl rfl rfl (by decide) (Nat.le_of_ble_eq_true rfl) d_M_moveLine_163 ?_
                  rintro _ N114_ ⟨v115_, rfl, ⟨hv115_a, hv115_b⟩, hsN114_, ⟨hp0_N114_, hp1_N114_⟩⟩
                  have hf_N114_ : zFr [3, 4, 5, 6, 7, 8, 11, 13, 20] [83, 85, 86, 87, 88] Mz N114_ := hf_N110_.tr hsN114_ (by decide) (by decide)
                  have e2_N114_ : ze N114_ 81 2 = ze N110_ 81 2 := hsN114_.e (by decide)
                  have e3_N114_ : ze N114_ 81 3 = ze N110_ 81 3 := hsN114_.e (by decide)
                  have e4_N114_ : ze N114_ 81 4 = ze N110_ 81 4 := hsN114_.e (by decide)
                  have e5_N114_ : ze N114_ 81 5 = ze N110_ 81 5 := hsN114_.e (by decide)
                  have e6_N114_ : ze N114_ 81 6 = ze N110_ 81 6 := hsN114_.e (by decide)
                  have e7_N114_ : ze N114_ 81 7 = ze N110_ 81 7 := hsN114_.e (by decide)
                  have e12_N114_ : ze N114_ 81 12 = ze N110_ 81 12 := hsN114_.e (by decide)
                  have e13_N114_ : ze N114_ 81 13 = ze N110_ 81 13 := hsN114_.e (by decide)
                  have r20_N114_ := ze_r N114_ 81 20
                  have qzmu_N114_ : zmu N114_ = zmu N110_ := zmu_f hsN114_ (by decide)
                  have c116_ : zB 83 24 0 5 N114_ := zB.fr hsN114_ c112_ (by decide) (by decide)
                  have c117_ : zTv N114_ := zTv.fr hsN114_ c113_ (by decide) (by decide)
                  have c118_ : zPm N114_ := zPm.fr hsN114_ hPm_ (by decide) (by decide)
                  rcases hp1_N114_ with ⟨rfl, ha163_0_hp1_N114_, ha163_1_hp1_N114_, ha163_2_hp1_N114_, ha163_3_hp1_N114_⟩ | ⟨rfl, ha163_0_hp1_N114_⟩
                  · skip
                    have hPq_ : zPm N114_ := zPm.fr hsN114_ hPm_ (by decide) (by decide)
                    have hFq_ : zFin N114_ := zFin.fr hsN114_ ha163_0_hp1_N114_ (by decide) (by decide)
                    show zW l m_M_moveLine (zn Mz + 0, zw Mz + 0) N114_ 166 [some (.ref 81), some (.int (Int32.ofInt (ze Mz 81 4))), some (.int (Int32.ofInt u84_)), some (.int (Int32.ofInt u85_)), none] [.int (Int32.ofInt 1)] (zpV [3, 4, 5, 6, 7, 8, 11, 13, 20] [83, 85, 86, 87, 88] Mz (fun N => 0 ≤ ze N 81 3 ∧ ze N 81 3 ≤ ze N 81 2 ∧ zTv N ∧ 0 ≤ ze N 81 13 ∧ ze N 81 13 ≤ 4 ∧ zB 83 24 0 5 N ∧ zB 85 144 0 5 N ∧ (((1 ≤ ze N 81 7 ∧ zmu N = 0) ∨ (ze N 81 7 = 0 ∧ zmu N < zmu Mz ∧ zPm N ∧ zFin N)))))
                    refine zr_if_ne (pc := 166) (tgt := 175) ⟨(by decide), (by decide)⟩ (by decide) d_M_moveLine_166 (fun hc_166 => ?_) (fun hc_166 => ?_)
                    · skip
                      have hz0 := zmu_s N114_
                      exact zr_vret (pc := 175) rfl hf_N114_ ⟨(show 0 ≤ ze N114_ 81 3 by first | assumption | omega), (show ze N114_ 81 3 ≤ ze N114_ 81 2 by first | assumption | omega), c117_, (show 0 ≤ ze N114_ 81 13 by first | assumption | omega), (show ze N114_ 81 13 ≤ 4 by first | assumption | omega), c116_, hp0_N114_, (show ((1 ≤ ze N114_ 81 7 ∧ zmu N114_ = 0) ∨ (ze N114_ 81 7 = 0 ∧ zmu N114_ < zmu Mz ∧ zPm N114_ ∧ zFin N114_)) from Or.inr (⟨(show ze N114_ 81 7 = 0 by first | assumption | omega), (show zmu N114_ < zmu Mz by first | assumption | omega), (show zPm N114_ by first | assumption | omega), (show zFin N114_ by first | assumption | omega)⟩))⟩ d_M_moveLine_175
                    · skip
                      exact absurd hc_166 (by decide)
                  · skip
                    show zW l m_M_moveLine (zn Mz + 0, zw Mz + 0) N114_ 166 [some (.ref 81), some (.int (Int32.ofInt (ze Mz 81 4))), some (.int (Int32.ofInt u84_)), some (.int (Int32.ofInt u85_)), none] [.int (Int32.ofInt 0)] (zpV [3, 4, 5, 6, 7, 8, 11, 13, 20] [83, 85, 86, 87, 88] Mz (fun N => 0 ≤ ze N 81 3 ∧ ze N 81 3 ≤ ze N 81 2 ∧ zTv N ∧ 0 ≤ ze N 81 13 ∧ ze N 81 13 ≤ 4 ∧ zB 83 24 0 5 N ∧ zB 85 144 0 5 N ∧ (((1 ≤ ze N 81 7 ∧ zmu N = 0) ∨ (ze N 81 7 = 0 ∧ zmu N < zmu Mz ∧ zPm N ∧ zFin N)))))
                    refine zr_if_ne (pc := 166) (tgt := 175) ⟨(by decide), (by decide)⟩ (by decide) d_M_moveLine_166 (fun hc_166 => ?_) (fun hc_166 => ?_)
                    · skip
                      exact absurd hc_166 (by decide)
                    · skip
                      refine zw_aload_n (pc := 169) (n := 0) (x := 81) rfl d_M_moveLine_169 ?_
                      refine zw_iconst (pc := 170) (v := Int32.ofInt 5) (by decide) d_M_moveLine_170 ?_
                      refine zw_iload_n (pc := 171) (n := 1) (x := Int32.ofInt (ze Mz 81 4)) rfl d_M_moveLine_171 ?_
                      refine zr_callV (hf_N114_.w hW) hf_N114_.x (pc := 172) [.int (Int32.ofInt 5), .int (Int32.ofInt (ze Mz 81 4))] [] l_M_168 (c_M_wrongAt l N114_ (hf_N114_.w hW) 5 (by decide) (by decide) (ze Mz 81 4) (ze_r Mz 81 4).1 (ze_r Mz 81 4).2 (show ze N114_ 81 7 = 0 by first | assumption | omega) (show 1 ≤ 5 by first | assumption | omega)) rfl rfl rfl (by decide) (Nat.le_of_ble_eq_true rfl) d_M_moveLine_172 ?_
                      rintro _ N119_ ⟨rfl, hsN119_, ⟨hp0_N119_, hp1_N119_⟩⟩
                      have hf_N119_ : zFr [3, 4, 5, 6, 7, 8, 11, 13, 20] [83, 85, 86, 87, 88] Mz N119_ := hf_N114_.tr hsN119_ (by decide) (by decide)
                      have e2_N119_ : ze N119_ 81 2 = ze N114_ 81 2 := hsN119_.e (by decide)
                      have e3_N119_ : ze N119_ 81 3 = ze N114_ 81 3 := hsN119_.e (by decide)
                      have e4_N119_ : ze N119_ 81 4 = ze N114_ 81 4 := hsN119_.e (by decide)
                      have e5_N119_ : ze N119_ 81 5 = ze N114_ 81 5 := hsN119_.e (by decide)
                      have e6_N119_ : ze N119_ 81 6 = ze N114_ 81 6 := hsN119_.e (by decide)
                      have r7_N119_ := ze_r N119_ 81 7
                      have e12_N119_ : ze N119_ 81 12 = ze N114_ 81 12 := hsN119_.e (by decide)
                      have e13_N119_ : ze N119_ 81 13 = ze N114_ 81 13 := hsN119_.e (by decide)
                      have e20_N119_ : ze N119_ 81 20 = ze N114_ 81 20 := hsN119_.e (by decide)
                      have c121_ : zB 83 24 0 5 N119_ := zB.fr hsN119_ c116_ (by decide) (by decide)
                      have c122_ : zTv N119_ := zTv.fr hsN119_ c117_ (by decide) (by decide)
                      have c123_ : zPm N119_ := zPm.fr hsN119_ c118_ (by decide) (by decide)
                      have c124_ : zB 85 144 0 5 N119_ := zB.fr hsN119_ hp0_N114_ (by decide) (by decide)
                      show zW l m_M_moveLine (zn Mz + 0, zw Mz + 0) N119_ 175 [some (.ref 81), some (.int (Int32.ofInt (ze Mz 81 4))), some (.int (Int32.ofInt u84_)), some (.int (Int32.ofInt u85_)), none] [] (zpV [3, 4, 5, 6, 7, 8, 11, 13, 20] [83, 85, 86, 87, 88] Mz (fun N => 0 ≤ ze N 81 3 ∧ ze N 81 3 ≤ ze N 81 2 ∧ zTv N ∧ 0 ≤ ze N 81 13 ∧ ze N 81 13 ≤ 4 ∧ zB 83 24 0 5 N ∧ zB 85 144 0 5 N ∧ (((1 ≤ ze N 81 7 ∧ zmu N = 0) ∨ (ze N 81 7 = 0 ∧ zmu N < zmu Mz ∧ zPm N ∧ zFin N)))))
                      have hz0 := zmu_s N119_
                      exact zr_vret (pc := 175) rfl hf_N119_ ⟨(show 0 ≤ ze N119_ 81 3 by first | assumption | omega), (show ze N119_ 81 3 ≤ ze N119_ 81 2 by first | assumption | omega), c122_, (show 0 ≤ ze N119_ 81 13 by first | assumption | omega), (show ze N119_ 81 13 ≤ 4 by first | assumption | omega), c121_, c124_, (show ((1 ≤ ze N119_ 81 7 ∧ zmu N119_ = 0) ∨ (ze N119_ 81 7 = 0 ∧ zmu N119_ < zmu Mz ∧ zPm N119_ ∧ zFin N119_)) from Or.inl (⟨(show 1 ≤ ze N119_ 81 7 by first | assumption | omega), (show zmu N119_ = 0 by first | assumption | omega)⟩))⟩ d_M_moveLine_175
                · skip
                  exfalso; omega
            · skip
              refine zw_aload_n (pc := 41) (n := 0) (x := 81) rfl d_M_moveLine_41 ?_
              refine zr_callV (hf_N86_.w hW) hf_N86_.x (pc := 42) [] [] l_M_183 (c_M_isGood l N86_ (hf_N86_.w hW) ) rfl rfl rfl (by decide) (Nat.le_of_ble_eq_true rfl) d_M_moveLine_42 ?_
              rintro _ N125_ ⟨v126_, rfl, ⟨hv126_a, hv126_b⟩, hsN125_, hp0_N125_⟩
              obtain rfl := hsN125_.eq.symm
              replace hp0_N125_ : ((v126_ = 1 ∧ ze N86_ 81 7 = 0) ∨ (v126_ = 0 ∧ ze N86_ 81 7 ≠ 0)) := hp0_N125_
              rcases hp0_N125_ with ⟨rfl, ha42_0_hp0_N125_⟩ | ⟨rfl, ha42_0_hp0_N125_⟩
              · skip
                show zW l m_M_moveLine (zn Mz + 0, zw Mz + 0) N86_ 45 [some (.ref 81), some (.int (Int32.ofInt (ze Mz 81 4))), some (.int (Int32.ofInt u84_)), some (.int (Int32.ofInt u85_)), none] [.int (Int32.ofInt 1)] (zpV [3, 4, 5, 6, 7, 8, 11, 13, 20] [83, 85, 86, 87, 88] Mz (fun N => 0 ≤ ze N 81 3 ∧ ze N 81 3 ≤ ze N 81 2 ∧ zTv N ∧ 0 ≤ ze N 81 13 ∧ ze N 81 13 ≤ 4 ∧ zB 83 24 0 5 N ∧ zB 85 144 0 5 N ∧ (((1 ≤ ze N 81 7 ∧ zmu N = 0) ∨ (ze N 81 7 = 0 ∧ zmu N < zmu Mz ∧ zPm N ∧ zFin N)))))
                refine zr_if_eq (pc := 45) (tgt := 138) ⟨(by decide), (by decide)⟩ (by decide) d_M_moveLine_45 (fun hc_45 => ?_) (fun hc_45 => ?_)
                · skip
                  exact absurd hc_45 (by decide)
                · skip
                  refine zw_aload_n (pc := 48) (n := 0) (x := 81) rfl d_M_moveLine_48 ?_
                  refine zr_getI (hf_N86_.w hW) (pc := 49) f_M_155 rfl d_M_moveLine_49 ?_
                  refine zw_iconst (pc := 52) (v := Int32.ofInt 2) (by decide) d_M_moveLine_52 ?_
                  refine zr_icmp_eq (pc := 53) (tgt := 61) ⟨(ze_r N86_ 81 5).1, (ze_r N86_ 81 5).2⟩ ⟨(by decide), (by decide)⟩ (by decide) d_M_moveLine_53 (fun hc_53 => ?_) (fun hc_53 => ?_)
                  · skip
                    refine zw_aload_n (pc := 61) (n := 0) (x := 81) rfl d_M_moveLine_61 ?_
                    refine zr_getI (hf_N86_.w hW) (pc := 62) f_M_152 rfl d_M_moveLine_62 ?_
                    refine zw_istore (pc := 65) (i := 4) (L2 := [some (.ref 81), some (.int (Int32.ofInt (ze Mz 81 4))), some (.int (Int32.ofInt u84_)), some (.int (Int32.ofInt u85_)), some (.int (Int32.ofInt (ze N86_ 81 6)))]) (by decide) rfl d_M_moveLine_65 ?_
                    refine zw_aload_n (pc := 67) (n := 0) (x := 81) rfl d_M_moveLine_67 ?_
                    refine zr_callV (hf_N86_.w hW) hf_N86_.x (pc := 68) [] [] l_M_183 (c_M_isGood l N86_ (hf_N86_.w hW) ) rfl rfl rfl (by decide) (Nat.le_of_ble_eq_true rfl) d_M_moveLine_68 ?_
                    rintro _ N127_ ⟨v128_, rfl, ⟨hv128_a, hv128_b⟩, hsN127_, hp0_N127_⟩
                    obtain rfl := hsN127_.eq.symm
                    replace hp0_N127_ : ((v128_ = 1 ∧ ze N86_ 81 7 = 0) ∨ (v128_ = 0 ∧ ze N86_ 81 7 ≠ 0)) := hp0_N127_
                    rcases hp0_N127_ with ⟨rfl, ha68_0_hp0_N127_⟩ | ⟨rfl, ha68_0_hp0_N127_⟩
                    · skip
                      show zW l m_M_moveLine (zn Mz + 0, zw Mz + 0) N86_ 71 [some (.ref 81), some (.int (Int32.ofInt (ze Mz 81 4))), some (.int (Int32.ofInt u84_)), some (.int (Int32.ofInt u85_)), some (.int (Int32.ofInt (ze N86_ 81 6)))] [.int (Int32.ofInt 1)] (zpV [3, 4, 5, 6, 7, 8, 11, 13, 20] [83, 85, 86, 87, 88] Mz (fun N => 0 ≤ ze N 81 3 ∧ ze N 81 3 ≤ ze N 81 2 ∧ zTv N ∧ 0 ≤ ze N 81 13 ∧ ze N 81 13 ≤ 4 ∧ zB 83 24 0 5 N ∧ zB 85 144 0 5 N ∧ (((1 ≤ ze N 81 7 ∧ zmu N = 0) ∨ (ze N 81 7 = 0 ∧ zmu N < zmu Mz ∧ zPm N ∧ zFin N)))))
                      refine zr_if_eq (pc := 71) (tgt := 97) ⟨(by decide), (by decide)⟩ (by decide) d_M_moveLine_71 (fun hc_71 => ?_) (fun hc_71 => ?_)
                      · skip
                        exact absurd hc_71 (by decide)
                      · skip
                        have hrw_ := (show zRow N86_ (ze Mz 81 13) u85_ u84_ by assumption).1
                        have htv_ := i90_ (by omega)
                        refine zw_iload (pc := 74) (i := 4) (x := Int32.ofInt (ze N86_ 81 6)) rfl d_M_moveLine_74 ?_
                        refine zw_aload_n (pc := 76) (n := 0) (x := 81) rfl d_M_moveLine_76 ?_
                        refine zr_getI0 hf_N86_ hW (pc := 77) (by decide) f_M_115 rfl d_M_moveLine_77 ?_
                        refine zr_icmp_ge (pc := 80) (tgt := 92) ⟨(ze_r N86_ 81 6).1, (ze_r N86_ 81 6).2⟩ ⟨(ze_r Mz 81 12).1, (ze_r Mz 81 12).2⟩ (by decide) d_M_moveLine_80 (fun hc_80 => ?_) (fun hc_80 => ?_)
                        · skip
                          refine zw_aload_n (pc := 92) (n := 0) (x := 81) rfl d_M_moveLine_92 ?_
                          refine zw_iconst (pc := 93) (v := Int32.ofInt 4) (by decide) d_M_moveLine_93 ?_
                          refine zr_callV (hf_N86_.w hW) hf_N86_.x (pc := 94) [.int (Int32.ofInt 4)] [] l_M_190 (c_M_wrong l N86_ (hf_N86_.w hW) 4 (by decide) (by decide) (show ze N86_ 81 7 = 0 by first | assumption | omega) (show 1 ≤ 4 by first | assumption | omega)) rfl rfl rfl (by decide) (Nat.le_of_ble_eq_true rfl) d_M_moveLine_94 ?_
                          rintro _ N129_ ⟨rfl, hsN129_, ⟨hp0_N129_, hp1_N129_⟩⟩
                          have hf_N129_ : zFr [3, 4, 5, 6, 7, 8, 11, 13, 20] [83, 85, 86, 87, 88] Mz N129_ := hf_N86_.tr hsN129_ (by decide) (by decide)
                          have hb0_N129_ : zFr [3, 4, 5, 6, 7, 8, 11] [83] N1_ N129_ := hs87_.tr hsN129_ (by decide) (by decide)
                          have e2_N129_ : ze N129_ 81 2 = ze N86_ 81 2 := hsN129_.e (by decide)
                          have e3_N129_ : ze N129_ 81 3 = ze N86_ 81 3 := hsN129_.e (by decide)
                          have e4_N129_ : ze N129_ 81 4 = ze N86_ 81 4 := hsN129_.e (by decide)
                          have e5_N129_ : ze N129_ 81 5 = ze N86_ 81 5 := hsN129_.e (by decide)
                          have e6_N129_ : ze N129_ 81 6 = ze N86_ 81 6 := hsN129_.e (by decide)
                          have r7_N129_ := ze_r N129_ 81 7
                          have e12_N129_ : ze N129_ 81 12 = ze N86_ 81 12 := hsN129_.e (by decide)
                          have e13_N129_ : ze N129_ 81 13 = ze N86_ 81 13 := hsN129_.e (by decide)
                          have e20_N129_ : ze N129_ 81 20 = ze N86_ 81 20 := hsN129_.e (by decide)
                          have c131_ : zB 85 144 0 5 N129_ := zB.fr hsN129_ c95_ (by decide) (by decide)
                          have c132_ : zTv N129_ := zTv.fr hsN129_ i90_ (by decide) (by decide)
                          have c133_ : zB 83 24 0 5 N129_ := zB.fr hsN129_ i94_ (by decide) (by decide)
                          show zW l m_M_moveLine (zn Mz + 0, zw Mz + 0) N129_ 97 [some (.ref 81), some (.int (Int32.ofInt (ze Mz 81 4))), some (.int (Int32.ofInt u84_)), some (.int (Int32.ofInt u85_)), some (.int (Int32.ofInt (ze N86_ 81 6)))] [] (zpV [3, 4, 5, 6, 7, 8, 11, 13, 20] [83, 85, 86, 87, 88] Mz (fun N => 0 ≤ ze N 81 3 ∧ ze N 81 3 ≤ ze N 81 2 ∧ zTv N ∧ 0 ≤ ze N 81 13 ∧ ze N 81 13 ≤ 4 ∧ zB 83 24 0 5 N ∧ zB 85 144 0 5 N ∧ (((1 ≤ ze N 81 7 ∧ zmu N = 0) ∨ (ze N 81 7 = 0 ∧ zmu N < zmu Mz ∧ zPm N ∧ zFin N)))))
                          refine zw_aload_n (pc := 97) (n := 0) (x := 81) rfl d_M_moveLine_97 ?_
                          refine zr_getI (hf_N129_.w hW) (pc := 98) f_M_172 rfl d_M_moveLine_98 ?_
                          refine zr_if_le (pc := 101) (tgt := 105) ⟨(ze_r N129_ 81 7).1, (ze_r N129_ 81 7).2⟩ (by decide) d_M_moveLine_101 (fun hc_101 => ?_) (fun hc_101 => ?_)
                          · skip
                            exfalso; omega
                          · skip
                            have hz0 := zmu_s N129_
                            exact zr_vret (pc := 104) rfl hf_N129_ ⟨(show 0 ≤ ze N129_ 81 3 by first | assumption | omega), (show ze N129_ 81 3 ≤ ze N129_ 81 2 by first | assumption | omega), c132_, (show 0 ≤ ze N129_ 81 13 by first | assumption | omega), (show ze N129_ 81 13 ≤ 4 by first | assumption | omega), c133_, c131_, (show ((1 ≤ ze N129_ 81 7 ∧ zmu N129_ = 0) ∨ (ze N129_ 81 7 = 0 ∧ zmu N129_ < zmu Mz ∧ zPm N129_ ∧ zFin N129_)) from Or.inl (⟨(show 1 ≤ ze N129_ 81 7 by first | assumption | omega), (show zmu N129_ = 0 by first | assumption | omega)⟩))⟩ d_M_moveLine_104
                        · skip
                          refine zw_iload_n (pc := 83) (n := 2) (x := Int32.ofInt u84_) rfl d_M_moveLine_83 ?_
                          refine zw_iload (pc := 84) (i := 4) (x := Int32.ofInt (ze N86_ 81 6)) rfl d_M_moveLine_84 ?_
                          refine zr_callS hf_N86_.x (pc := 86) [.int (Int32.ofInt u84_), .int (Int32.ofInt (ze N86_ 81 6))] [] l_M_213 (c_M_holds l N86_ (hf_N86_.w hW) u84_ hu84_a hu84_b (ze N86_ 81 6) (ze_r N86_ 81 6).1 (ze_r N86_ 81 6).2 (show 0 ≤ u84_ by first | assumption | omega) (show 0 ≤ (ze N86_ 81 6) by first | assumption | omega) (show (ze N86_ 81 6) < 32 by first | assumption | omega)) rfl rfl (by decide) (Nat.le_of_ble_eq_true rfl) d_M_moveLine_86 ?_
                          rintro _ N134_ ⟨v135_, rfl, ⟨hv135_a, hv135_b⟩, hsN134_, hp0_N134_⟩
                          obtain rfl := hsN134_.eq.symm
                          replace hp0_N134_ : ((v135_ = 1 ∧ zbt u84_ (ze N86_ 81 6)) ∨ (v135_ = 0 ∧ ¬ zbt u84_ (ze N86_ 81 6))) := hp0_N134_
                          rcases hp0_N134_ with ⟨rfl, ha86_0_hp0_N134_⟩ | ⟨rfl, ha86_0_hp0_N134_⟩
                          · skip
                            show zW l m_M_moveLine (zn Mz + 0, zw Mz + 0) N86_ 89 [some (.ref 81), some (.int (Int32.ofInt (ze Mz 81 4))), some (.int (Int32.ofInt u84_)), some (.int (Int32.ofInt u85_)), some (.int (Int32.ofInt (ze N86_ 81 6)))] [.int (Int32.ofInt 1)] (zpV [3, 4, 5, 6, 7, 8, 11, 13, 20] [83, 85, 86, 87, 88] Mz (fun N => 0 ≤ ze N 81 3 ∧ ze N 81 3 ≤ ze N 81 2 ∧ zTv N ∧ 0 ≤ ze N 81 13 ∧ ze N 81 13 ≤ 4 ∧ zB 83 24 0 5 N ∧ zB 85 144 0 5 N ∧ (((1 ≤ ze N 81 7 ∧ zmu N = 0) ∨ (ze N 81 7 = 0 ∧ zmu N < zmu Mz ∧ zPm N ∧ zFin N)))))
                            refine zr_if_eq (pc := 89) (tgt := 97) ⟨(by decide), (by decide)⟩ (by decide) d_M_moveLine_89 (fun hc_89 => ?_) (fun hc_89 => ?_)
                            · skip
                              exact absurd hc_89 (by decide)
                            · skip
                              refine zw_aload_n (pc := 92) (n := 0) (x := 81) rfl d_M_moveLine_92 ?_
                              refine zw_iconst (pc := 93) (v := Int32.ofInt 4) (by decide) d_M_moveLine_93 ?_
                              refine zr_callV (hf_N86_.w hW) hf_N86_.x (pc := 94) [.int (Int32.ofInt 4)] [] l_M_190 (c_M_wrong l N86_ (hf_N86_.w hW) 4 (by decide) (by decide) (show ze N86_ 81 7 = 0 by first | assumption | omega) (show 1 ≤ 4 by first | assumption | omega)) rfl rfl rfl (by decide) (Nat.le_of_ble_eq_true rfl) d_M_moveLine_94 ?_
                              rintro _ N136_ ⟨rfl, hsN136_, ⟨hp0_N136_, hp1_N136_⟩⟩
                              have hf_N136_ : zFr [3, 4, 5, 6, 7, 8, 11, 13, 20] [83, 85, 86, 87, 88] Mz N136_ := hf_N86_.tr hsN136_ (by decide) (by decide)
                              have hb0_N136_ : zFr [3, 4, 5, 6, 7, 8, 11] [83] N1_ N136_ := hs87_.tr hsN136_ (by decide) (by decide)
                              have e2_N136_ : ze N136_ 81 2 = ze N86_ 81 2 := hsN136_.e (by decide)
                              have e3_N136_ : ze N136_ 81 3 = ze N86_ 81 3 := hsN136_.e (by decide)
                              have e4_N136_ : ze N136_ 81 4 = ze N86_ 81 4 := hsN136_.e (by decide)
                              have e5_N136_ : ze N136_ 81 5 = ze N86_ 81 5 := hsN136_.e (by decide)
                              have e6_N136_ : ze N136_ 81 6 = ze N86_ 81 6 := hsN136_.e (by decide)
                              have r7_N136_ := ze_r N136_ 81 7
                              have e12_N136_ : ze N136_ 81 12 = ze N86_ 81 12 := hsN136_.e (by decide)
                              have e13_N136_ : ze N136_ 81 13 = ze N86_ 81 13 := hsN136_.e (by decide)
                              have e20_N136_ : ze N136_ 81 20 = ze N86_ 81 20 := hsN136_.e (by decide)
                              have c138_ : zB 85 144 0 5 N136_ := zB.fr hsN136_ c95_ (by decide) (by decide)
                              have c139_ : zTv N136_ := zTv.fr hsN136_ i90_ (by decide) (by decide)
                              have c140_ : zB 83 24 0 5 N136_ := zB.fr hsN136_ i94_ (by decide) (by decide)
                              show zW l m_M_moveLine (zn Mz + 0, zw Mz + 0) N136_ 97 [some (.ref 81), some (.int (Int32.ofInt (ze Mz 81 4))), some (.int (Int32.ofInt u84_)), some (.int (Int32.ofInt u85_)), some (.int (Int32.ofInt (ze N86_ 81 6)))] [] (zpV [3, 4, 5, 6, 7, 8, 11, 13, 20] [83, 85, 86, 87, 88] Mz (fun N => 0 ≤ ze N 81 3 ∧ ze N 81 3 ≤ ze N 81 2 ∧ zTv N ∧ 0 ≤ ze N 81 13 ∧ ze N 81 13 ≤ 4 ∧ zB 83 24 0 5 N ∧ zB 85 144 0 5 N ∧ (((1 ≤ ze N 81 7 ∧ zmu N = 0) ∨ (ze N 81 7 = 0 ∧ zmu N < zmu Mz ∧ zPm N ∧ zFin N)))))
                              refine zw_aload_n (pc := 97) (n := 0) (x := 81) rfl d_M_moveLine_97 ?_
                              refine zr_getI (hf_N136_.w hW) (pc := 98) f_M_172 rfl d_M_moveLine_98 ?_
                              refine zr_if_le (pc := 101) (tgt := 105) ⟨(ze_r N136_ 81 7).1, (ze_r N136_ 81 7).2⟩ (by decide) d_M_moveLine_101 (fun hc_101 => ?_) (fun hc_101 => ?_)
                              · skip
                                exfalso; omega
                              · skip
                                have hz0 := zmu_s N136_
                                exact zr_vret (pc := 104) rfl hf_N136_ ⟨(show 0 ≤ ze N136_ 81 3 by first | assumption | omega), (show ze N136_ 81 3 ≤ ze N136_ 81 2 by first | assumption | omega), c139_, (show 0 ≤ ze N136_ 81 13 by first | assumption | omega), (show ze N136_ 81 13 ≤ 4 by first | assumption | omega), c140_, c138_, (show ((1 ≤ ze N136_ 81 7 ∧ zmu N136_ = 0) ∨ (ze N136_ 81 7 = 0 ∧ zmu N136_ < zmu Mz ∧ zPm N136_ ∧ zFin N136_)) from Or.inl (⟨(show 1 ≤ ze N136_ 81 7 by first | assumption | omega), (show zmu N136_ = 0 by first | assumption | omega)⟩))⟩ d_M_moveLine_104
                          · skip
                            have hnb_ := ha86_0_hp0_N134_
                            show zW l m_M_moveLine (zn Mz + 0, zw Mz + 0) N86_ 89 [some (.ref 81), some (.int (Int32.ofInt (ze Mz 81 4))), some (.int (Int32.ofInt u84_)), some (.int (Int32.ofInt u85_)), some (.int (Int32.ofInt (ze N86_ 81 6)))] [.int (Int32.ofInt 0)] (zpV [3, 4, 5, 6, 7, 8, 11, 13, 20] [83, 85, 86, 87, 88] Mz (fun N => 0 ≤ ze N 81 3 ∧ ze N 81 3 ≤ ze N 81 2 ∧ zTv N ∧ 0 ≤ ze N 81 13 ∧ ze N 81 13 ≤ 4 ∧ zB 83 24 0 5 N ∧ zB 85 144 0 5 N ∧ (((1 ≤ ze N 81 7 ∧ zmu N = 0) ∨ (ze N 81 7 = 0 ∧ zmu N < zmu Mz ∧ zPm N ∧ zFin N)))))
                            refine zr_if_eq (pc := 89) (tgt := 97) ⟨(by decide), (by decide)⟩ (by decide) d_M_moveLine_89 (fun hc_89 => ?_) (fun hc_89 => ?_)
                            · skip
                              refine zw_aload_n (pc := 97) (n := 0) (x := 81) rfl d_M_moveLine_97 ?_
                              refine zr_getI (hf_N86_.w hW) (pc := 98) f_M_172 rfl d_M_moveLine_98 ?_
                              refine zr_if_le (pc := 101) (tgt := 105) ⟨(ze_r N86_ 81 7).1, (ze_r N86_ 81 7).2⟩ (by decide) d_M_moveLine_101 (fun hc_101 => ?_) (fun hc_101 => ?_)
                              · skip
                                have hRow_ := (show zRow N86_ (ze Mz 81 13) u85_ u84_ by assumption)
                                refine zw_iload_n (pc := 105) (n := 2) (x := Int32.ofInt u84_) rfl d_M_moveLine_105 ?_
                                refine zw_iconst (pc := 106) (v := Int32.ofInt 1) (by decide) d_M_moveLine_106 ?_
                                refine zw_iload (pc := 107) (i := 4) (x := Int32.ofInt (ze N86_ 81 6)) rfl d_M_moveLine_107 ?_
                                refine zr_ishl (pc := 109) d_M_moveLine_109 ?_
                                have hr141_ := zshl_r 1 (ze N86_ 81 6)
                                refine zr_ior (pc := 110) d_M_moveLine_110 ?_
                                have hr142_ := zor_r u84_ (zshl 1 (ze N86_ 81 6))
                                refine zw_istore_n (pc := 111) (i := 2) (L2 := [some (.ref 81), some (.int (Int32.ofInt (ze Mz 81 4))), some (.int (Int32.ofInt (zor u84_ (zshl 1 (ze N86_ 81 6))))), some (.int (Int32.ofInt u85_)), some (.int (Int32.ofInt (ze N86_ 81 6)))]) rfl (by decide) rfl d_M_moveLine_111 ?_
                                refine zw_aload_n (pc := 112) (n := 0) (x := 81) rfl d_M_moveLine_112 ?_
                                refine zr_getF (r := 83) (hf_N86_.w hW) (pc := 113) f_M_20 rfl (zh_83 (hf_N86_.w hW)).1 d_M_moveLine_113 ?_
                                refine zw_bipush (pc := 116) (v := Int32.ofInt 6) (by decide) d_M_moveLine_116 ?_
                                refine zw_aload_n (pc := 118) (n := 0) (x := 81) rfl d_M_moveLine_118 ?_
                                refine zr_getI (hf_N86_.w hW) (pc := 119) f_M_199 rfl d_M_moveLine_119 ?_
                                refine zr_imul (pc := 122) d_M_moveLine_122 ?_
                                refine zw_iload_n (pc := 123) (n := 3) (x := Int32.ofInt u85_) rfl d_M_moveLine_123 ?_
                                refine zr_iadd (pc := 124) d_M_moveLine_124 ?_
                                refine zr_toI (show ((6 * (ze N86_ 81 13)) + u85_) = 6 * ze Mz 81 13 + u85_ by omega) ?_
                                refine zw_iload (pc := 125) (i := 4) (x := Int32.ofInt (ze N86_ 81 6)) rfl d_M_moveLine_125 ?_
                                refine zr_iast (pc := 127) (zh_83 (hf_N86_.w hW)).2 (by decide) (by decide) (by omega) (by omega) d_M_moveLine_127 (fun N143_ hN143_ hsN143_ => ?_)
                                have hf_N143_ : zFr [3, 4, 5, 6, 7, 8, 11, 13, 20] [83, 85, 86, 87, 88] Mz N143_ := hf_N86_.tr hsN143_ (by decide) (by decide)
                                have hb0_N143_ : zFr [3, 4, 5, 6, 7, 8, 11] [83] N1_ N143_ := hs87_.tr hsN143_ (by decide) (by decide)
                                have e2_N143_ : ze N143_ 81 2 = ze N86_ 81 2 := hsN143_.e (by decide)
                                have e3_N143_ : ze N143_ 81 3 = ze N86_ 81 3 := hsN143_.e (by decide)
                                have e4_N143_ : ze N143_ 81 4 = ze N86_ 81 4 := hsN143_.e (by decide)
                                have e5_N143_ : ze N143_ 81 5 = ze N86_ 81 5 := hsN143_.e (by decide)
                                have e6_N143_ : ze N143_ 81 6 = ze N86_ 81 6 := hsN143_.e (by decide)
                                have e7_N143_ : ze N143_ 81 7 = ze N86_ 81 7 := hsN143_.e (by decide)
                                have e12_N143_ : ze N143_ 81 12 = ze N86_ 81 12 := hsN143_.e (by decide)
                                have e13_N143_ : ze N143_ 81 13 = ze N86_ 81 13 := hsN143_.e (by decide)
                                have e20_N143_ : ze N143_ 81 20 = ze N86_ 81 20 := hsN143_.e (by decide)
                                have qzmu_N143_ : zmu N143_ = zmu N86_ := zmu_f hsN143_ (by decide)
                                have c144_ : zB 85 144 0 5 N143_ := zB.fr hsN143_ c95_ (by decide) (by decide)
                                have c145_ : zTv N143_ := zTv.fr hsN143_ i90_ (by decide) (by decide)
                                have c146_ : zB 83 24 0 5 N143_ := zB.s i94_ hN143_ (by omega) (by omega) (by decide) (by decide)
                                have hR1_ := zRow_s hRow_ (by omega) (by omega) (by omega) (by omega) (by omega) (by omega) hnb_ hN143_
                                have hK1_ := zKp_s (show zKp Mz N86_ (6 * ze Mz 81 13) by assumption) (by omega) (by omega) hN143_
                                refine zw_aload_n (pc := 128) (n := 0) (x := 81) rfl d_M_moveLine_128 ?_
                                refine zr_callV (hf_N143_.w hW) hf_N143_.x (pc := 129) [] [] l_M_193 (c_M_goOn l N143_ (hf_N143_.w hW) (show 0 ≤ ze N143_ 81 3 by first | assumption | omega) (show ze N143_ 81 3 ≤ ze N143_ 81 2 by first | assumption | omega) (show ze N143_ 81 2 ≤ 700 by first | assumption | omega) (show ze N143_ 81 5 ≠ 0 by first | assumption | omega) (show ze N143_ 81 7 = 0 by first | assumption | omega)) rfl rfl rfl (by decide) (Nat.le_of_ble_eq_true rfl) d_M_moveLine_129 ?_
                                rintro _ N147_ ⟨rfl, hsN147_, ⟨hp0_N147_, hp1_N147_, hp2_N147_, hp3_N147_, hp4_N147_⟩⟩
                                have hf_N147_ : zFr [3, 4, 5, 6, 7, 8, 11, 13, 20] [83, 85, 86, 87, 88] Mz N147_ := hf_N143_.tr hsN147_ (by decide) (by decide)
                                have hb0_N147_ : zFr [3, 4, 5, 6, 7, 8, 11] [83] N1_ N147_ := hb0_N143_.tr hsN147_ (by decide) (by decide)
                                have e2_N147_ : ze N147_ 81 2 = ze N143_ 81 2 := hsN147_.e (by decide)
                                have r3_N147_ := ze_r N147_ 81 3
                                have r4_N147_ := ze_r N147_ 81 4
                                have r5_N147_ := ze_r N147_ 81 5
                                have r6_N147_ := ze_r N147_ 81 6
                                have e7_N147_ : ze N147_ 81 7 = ze N143_ 81 7 := hsN147_.e (by decide)
                                have e12_N147_ : ze N147_ 81 12 = ze N143_ 81 12 := hsN147_.e (by decide)
                                have e13_N147_ : ze N147_ 81 13 = ze N143_ 81 13 := hsN147_.e (by decide)
                                have e20_N147_ : ze N147_ 81 20 = ze N143_ 81 20 := hsN147_.e (by decide)
                                have c149_ : zB 85 144 0 5 N147_ := zB.fr hsN147_ c144_ (by decide) (by decide)
                                have c150_ : zB 83 24 0 5 N147_ := zB.fr hsN147_ c146_ (by decide) (by decide)
                                show zW l m_M_moveLine (zn Mz + 0, zw Mz + 0) N147_ 132 [some (.ref 81), some (.int (Int32.ofInt (ze Mz 81 4))), some (.int (Int32.ofInt (zor u84_ (zshl 1 (ze N86_ 81 6))))), some (.int (Int32.ofInt u85_)), some (.int (Int32.ofInt (ze N86_ 81 6)))] [] (zpV [3, 4, 5, 6, 7, 8, 11, 13, 20] [83, 85, 86, 87, 88] Mz (fun N => 0 ≤ ze N 81 3 ∧ ze N 81 3 ≤ ze N 81 2 ∧ zTv N ∧ 0 ≤ ze N 81 13 ∧ ze N 81 13 ≤ 4 ∧ zB 83 24 0 5 N ∧ zB 85 144 0 5 N ∧ (((1 ≤ ze N 81 7 ∧ zmu N = 0) ∨ (ze N 81 7 = 0 ∧ zmu N < zmu Mz ∧ zPm N ∧ zFin N)))))
                                have hR2_ := zRow.fr hsN147_ hR1_ (by decide) (by decide)
                                have hK2_ := zKp.fr hsN147_ hK1_ (by decide)
                                refine zr_iinc (pc := 132) (i := 3) (a := u85_) (n := 1) (L2 := [some (.ref 81), some (.int (Int32.ofInt (ze Mz 81 4))), some (.int (Int32.ofInt (zor u84_ (zshl 1 (ze N86_ 81 6))))), some (.int (Int32.ofInt (u85_ + 1))), some (.int (Int32.ofInt (ze N86_ 81 6)))]) rfl (by decide) rfl d_M_moveLine_132 ?_
                                refine zw_goto (pc := 135) (tgt := 33) (by decide) d_M_moveLine_135 ?_
                                refine zW_le [some (.ref 81), some (.int (Int32.ofInt (ze Mz 81 4))), some (.int (Int32.ofInt (zor u84_ (zshl 1 (ze N86_ 81 6))))), some (.int (Int32.ofInt (u85_ + 1))), none] (⟨rfl, rfl, rfl, rfl, trivial⟩) ?_
                                exact ih_33 (zor u84_ (zshl 1 (ze N86_ 81 6))) (by omega) (by omega) (u85_ + 1) (by omega) (by omega) N147_ hb0_N147_ (show 0 ≤ ze N147_ 81 3 by first | assumption | omega) (show ze N147_ 81 3 ≤ ze N147_ 81 2 by first | assumption | omega) hp2_N147_ (show 0 ≤ (u85_ + 1) by first | assumption | omega) (show (u85_ + 1) ≤ ze Mz 81 12 by first | assumption | omega) (show (1 ≤ ze N147_ 81 7 ∧ zmu N147_ = 0) ∨ (ze N147_ 81 7 = 0 ∧ zmu N147_ < zmu Mz ∧ ze Mz 81 13 ≤ 3 ∧ zKp Mz N147_ (6 * ze Mz 81 13) ∧ zRow N147_ (ze Mz 81 13) (u85_ + 1) (zor u84_ (zshl 1 (ze N86_ 81 6)))) from Or.inr (⟨(show ze N147_ 81 7 = 0 by first | assumption | omega), (show zmu N147_ < zmu Mz by first | assumption | omega), (show ze Mz 81 13 ≤ 3 by first | assumption | omega), (show zKp Mz N147_ (6 * ze Mz 81 13) by first | assumption | omega), (show zRow N147_ (ze Mz 81 13) (u85_ + 1) (zor u84_ (zshl 1 (ze N86_ 81 6))) by first | assumption | omega)⟩)) c150_ (by omega)
                              · skip
                                exfalso; omega
                            · skip
                              exact absurd hc_89 (by decide)
                    · skip
                      exfalso; omega
                  · skip
                    refine zw_aload_n (pc := 56) (n := 0) (x := 81) rfl d_M_moveLine_56 ?_
                    refine zw_iconst (pc := 57) (v := Int32.ofInt 2) (by decide) d_M_moveLine_57 ?_
                    refine zr_callV (hf_N86_.w hW) hf_N86_.x (pc := 58) [.int (Int32.ofInt 2)] [] l_M_190 (c_M_wrong l N86_ (hf_N86_.w hW) 2 (by decide) (by decide) (show ze N86_ 81 7 = 0 by first | assumption | omega) (show 1 ≤ 2 by first | assumption | omega)) rfl rfl rfl (by decide) (Nat.le_of_ble_eq_true rfl) d_M_moveLine_58 ?_
                    rintro _ N151_ ⟨rfl, hsN151_, ⟨hp0_N151_, hp1_N151_⟩⟩
                    have hf_N151_ : zFr [3, 4, 5, 6, 7, 8, 11, 13, 20] [83, 85, 86, 87, 88] Mz N151_ := hf_N86_.tr hsN151_ (by decide) (by decide)
                    have hb0_N151_ : zFr [3, 4, 5, 6, 7, 8, 11] [83] N1_ N151_ := hs87_.tr hsN151_ (by decide) (by decide)
                    have e2_N151_ : ze N151_ 81 2 = ze N86_ 81 2 := hsN151_.e (by decide)
                    have e3_N151_ : ze N151_ 81 3 = ze N86_ 81 3 := hsN151_.e (by decide)
                    have e4_N151_ : ze N151_ 81 4 = ze N86_ 81 4 := hsN151_.e (by decide)
                    have e5_N151_ : ze N151_ 81 5 = ze N86_ 81 5 := hsN151_.e (by decide)
                    have e6_N151_ : ze N151_ 81 6 = ze N86_ 81 6 := hsN151_.e (by decide)
                    have r7_N151_ := ze_r N151_ 81 7
                    have e12_N151_ : ze N151_ 81 12 = ze N86_ 81 12 := hsN151_.e (by decide)
                    have e13_N151_ : ze N151_ 81 13 = ze N86_ 81 13 := hsN151_.e (by decide)
                    have e20_N151_ : ze N151_ 81 20 = ze N86_ 81 20 := hsN151_.e (by decide)
                    have c153_ : zB 85 144 0 5 N151_ := zB.fr hsN151_ c95_ (by decide) (by decide)
                    have c154_ : zTv N151_ := zTv.fr hsN151_ i90_ (by decide) (by decide)
                    have c155_ : zB 83 24 0 5 N151_ := zB.fr hsN151_ i94_ (by decide) (by decide)
                    show zW l m_M_moveLine (zn Mz + 0, zw Mz + 0) N151_ 61 [some (.ref 81), some (.int (Int32.ofInt (ze Mz 81 4))), some (.int (Int32.ofInt u84_)), some (.int (Int32.ofInt u85_)), none] [] (zpV [3, 4, 5, 6, 7, 8, 11, 13, 20] [83, 85, 86, 87, 88] Mz (fun N => 0 ≤ ze N 81 3 ∧ ze N 81 3 ≤ ze N 81 2 ∧ zTv N ∧ 0 ≤ ze N 81 13 ∧ ze N 81 13 ≤ 4 ∧ zB 83 24 0 5 N ∧ zB 85 144 0 5 N ∧ (((1 ≤ ze N 81 7 ∧ zmu N = 0) ∨ (ze N 81 7 = 0 ∧ zmu N < zmu Mz ∧ zPm N ∧ zFin N)))))
                    refine zw_aload_n (pc := 61) (n := 0) (x := 81) rfl d_M_moveLine_61 ?_
                    refine zr_getI (hf_N151_.w hW) (pc := 62) f_M_152 rfl d_M_moveLine_62 ?_
                    refine zw_istore (pc := 65) (i := 4) (L2 := [some (.ref 81), some (.int (Int32.ofInt (ze Mz 81 4))), some (.int (Int32.ofInt u84_)), some (.int (Int32.ofInt u85_)), some (.int (Int32.ofInt (ze N151_ 81 6)))]) (by decide) rfl d_M_moveLine_65 ?_
                    refine zw_aload_n (pc := 67) (n := 0) (x := 81) rfl d_M_moveLine_67 ?_
                    refine zr_callV (hf_N151_.w hW) hf_N151_.x (pc := 68) [] [] l_M_183 (c_M_isGood l N151_ (hf_N151_.w hW) ) rfl rfl rfl (by decide) (Nat.le_of_ble_eq_true rfl) d_M_moveLine_68 ?_
                    rintro _ N156_ ⟨v157_, rfl, ⟨hv157_a, hv157_b⟩, hsN156_, hp0_N156_⟩
                    obtain rfl := hsN156_.eq.symm
                    replace hp0_N156_ : ((v157_ = 1 ∧ ze N151_ 81 7 = 0) ∨ (v157_ = 0 ∧ ze N151_ 81 7 ≠ 0)) := hp0_N156_
                    rcases hp0_N156_ with ⟨rfl, ha68_0_hp0_N156_⟩ | ⟨rfl, ha68_0_hp0_N156_⟩
                    · skip
                      exfalso; omega
                    · skip
                      show zW l m_M_moveLine (zn Mz + 0, zw Mz + 0) N151_ 71 [some (.ref 81), some (.int (Int32.ofInt (ze Mz 81 4))), some (.int (Int32.ofInt u84_)), some (.int (Int32.ofInt u85_)), some (.int (Int32.ofInt (ze N151_ 81 6)))] [.int (Int32.ofInt 0)] (zpV [3, 4, 5, 6, 7, 8, 11, 13, 20] [83, 85, 86, 87, 88] Mz (fun N => 0 ≤ ze N 81 3 ∧ ze N 81 3 ≤ ze N 81 2 ∧ zTv N ∧ 0 ≤ ze N 81 13 ∧ ze N 81 13 ≤ 4 ∧ zB 83 24 0 5 N ∧ zB 85 144 0 5 N ∧ (((1 ≤ ze N 81 7 ∧ zmu N = 0) ∨ (ze N 81 7 = 0 ∧ zmu N < zmu Mz ∧ zPm N ∧ zFin N)))))
                      refine zr_if_eq (pc := 71) (tgt := 97) ⟨(by decide), (by decide)⟩ (by decide) d_M_moveLine_71 (fun hc_71 => ?_) (fun hc_71 => ?_)
                      · skip
                        refine zw_aload_n (pc := 97) (n := 0) (x := 81) rfl d_M_moveLine_97 ?_
                        refine zr_getI (hf_N151_.w hW) (pc := 98) f_M_172 rfl d_M_moveLine_98 ?_
                        refine zr_if_le (pc := 101) (tgt := 105) ⟨(ze_r N151_ 81 7).1, (ze_r N151_ 81 7).2⟩ (by decide) d_M_moveLine_101 (fun hc_101 => ?_) (fun hc_101 => ?_)
                        · skip
                          exfalso; omega
                        · skip
                          have hz0 := zmu_s N151_
                          exact zr_vret (pc := 104) rfl hf_N151_ ⟨(show 0 ≤ ze N151_ 81 3 by first | assumption | omega), (show ze N151_ 81 3 ≤ ze N151_ 81 2 by first | assumption | omega), c154_, (show 0 ≤ ze N151_ 81 13 by first | assumption | omega), (show ze N151_ 81 13 ≤ 4 by first | assumption | omega), c155_, c153_, (show ((1 ≤ ze N151_ 81 7 ∧ zmu N151_ = 0) ∨ (ze N151_ 81 7 = 0 ∧ zmu N151_ < zmu Mz ∧ zPm N151_ ∧ zFin N151_)) from Or.inl (⟨(show 1 ≤ ze N151_ 81 7 by first | assumption | omega), (show zmu N151_ = 0 by first | assumption | omega)⟩))⟩ d_M_moveLine_104
                      · skip
                        exact absurd hc_71 (by decide)
              · skip
                exfalso; omega
      exact lp_33 _ 0 (by decide) (by decide) 0 (by decide) (by decide) N1_ zFr.rf (show 0 ≤ ze N1_ 81 3 by first | assumption | omega) (show ze N1_ 81 3 ≤ ze N1_ 81 2 by first | assumption | omega) i5_ (show 0 ≤ (0 : Int) by first | assumption | omega) (show (0 : Int) ≤ ze Mz 81 12 by first | assumption | omega) (show (1 ≤ ze N1_ 81 7 ∧ zmu N1_ = 0) ∨ (ze N1_ 81 7 = 0 ∧ zmu N1_ < zmu Mz ∧ ze Mz 81 13 ≤ 3 ∧ zKp Mz N1_ (6 * ze Mz 81 13) ∧ zRow N1_ (ze Mz 81 13) (0 : Int) (0 : Int)) from Or.inr (⟨(show ze N1_ 81 7 = 0 by first | assumption | omega | exact zRow_0), (show zmu N1_ < zmu Mz by first | assumption | omega | exact zRow_0), (show ze Mz 81 13 ≤ 3 by first | assumption | omega | exact zRow_0), (show zKp Mz N1_ (6 * ze Mz 81 13) by first | assumption | omega | exact zRow_0), (show zRow N1_ (ze Mz 81 13) (0 : Int) (0 : Int) by first | assumption | omega | exact zRow_0)⟩)) c8_ (Nat.lt_succ_self _)
  refine zw_aload_n (pc := 5) (n := 0) (x := 81) rfl d_M_moveLine_5 ?_
  refine zr_getI (hf.w hW) (pc := 6) f_M_199 rfl d_M_moveLine_6 ?_
  refine zw_iconst (pc := 9) (v := Int32.ofInt 4) (by decide) d_M_moveLine_9 ?_
  refine zr_icmp_ne (pc := 10) (tgt := 18) ⟨(ze_r Mz 81 13).1, (ze_r Mz 81 13).2⟩ ⟨(by decide), (by decide)⟩ (by decide) d_M_moveLine_10 (fun hc_10 => ?_) (fun hc_10 => ?_)
  · skip
    refine zw_aload_n (pc := 18) (n := 0) (x := 81) rfl d_M_moveLine_18 ?_
    refine zr_callV (hf.w hW) hf.x (pc := 19) [] [] l_M_183 (c_M_isGood l Mz (hf.w hW) ) rfl rfl rfl (by decide) (Nat.le_of_ble_eq_true rfl) d_M_moveLine_19 ?_
    rintro _ N158_ ⟨v159_, rfl, ⟨hv159_a, hv159_b⟩, hsN158_, hp0_N158_⟩
    obtain rfl := hsN158_.eq.symm
    replace hp0_N158_ : ((v159_ = 1 ∧ ze Mz 81 7 = 0) ∨ (v159_ = 0 ∧ ze Mz 81 7 ≠ 0)) := hp0_N158_
    rcases hp0_N158_ with ⟨rfl, ha19_0_hp0_N158_⟩ | ⟨rfl, ha19_0_hp0_N158_⟩
    · skip
      show zW l m_M_moveLine (zn Mz + 0, zw Mz + 0) Mz 22 [some (.ref 81), some (.int (Int32.ofInt (ze Mz 81 4))), none, none, none] [.int (Int32.ofInt 1)] (zpV [3, 4, 5, 6, 7, 8, 11, 13, 20] [83, 85, 86, 87, 88] Mz (fun N => 0 ≤ ze N 81 3 ∧ ze N 81 3 ≤ ze N 81 2 ∧ zTv N ∧ 0 ≤ ze N 81 13 ∧ ze N 81 13 ≤ 4 ∧ zB 83 24 0 5 N ∧ zB 85 144 0 5 N ∧ (((1 ≤ ze N 81 7 ∧ zmu N = 0) ∨ (ze N 81 7 = 0 ∧ zmu N < zmu Mz ∧ zPm N ∧ zFin N)))))
      refine zr_if_eq (pc := 22) (tgt := 29) ⟨(by decide), (by decide)⟩ (by decide) d_M_moveLine_22 (fun hc_22 => ?_) (fun hc_22 => ?_)
      · skip
        exact absurd hc_22 (by decide)
      · skip
        refine zw_aload_n (pc := 25) (n := 0) (x := 81) rfl d_M_moveLine_25 ?_
        refine zr_callV (hf.w hW) hf.x (pc := 26) [] [] l_M_193 (c_M_goOn l Mz (hf.w hW) (show 0 ≤ ze Mz 81 3 by first | assumption | omega) (show ze Mz 81 3 ≤ ze Mz 81 2 by first | assumption | omega) (show ze Mz 81 2 ≤ 700 by first | assumption | omega) (show ze Mz 81 5 ≠ 0 by first | assumption | omega) (show ze Mz 81 7 = 0 by first | assumption | omega)) rfl rfl rfl (by decide) (Nat.le_of_ble_eq_true rfl) d_M_moveLine_26 ?_
        rintro _ N160_ ⟨rfl, hsN160_, ⟨hp0_N160_, hp1_N160_, hp2_N160_, hp3_N160_, hp4_N160_⟩⟩
        have hf_N160_ : zFr [3, 4, 5, 6, 7, 8, 11, 13, 20] [83, 85, 86, 87, 88] Mz N160_ := hf.tr hsN160_ (by decide) (by decide)
        have hb0_N160_ : zFr [3, 4, 5, 6, 7, 8, 11] [] Mz N160_ := zFr.rf.tr hsN160_ (by decide) (by decide)
        have e2_N160_ : ze N160_ 81 2 = ze Mz 81 2 := hsN160_.e (by decide)
        have r3_N160_ := ze_r N160_ 81 3
        have r4_N160_ := ze_r N160_ 81 4
        have r5_N160_ := ze_r N160_ 81 5
        have r6_N160_ := ze_r N160_ 81 6
        have e7_N160_ : ze N160_ 81 7 = ze Mz 81 7 := hsN160_.e (by decide)
        have e12_N160_ : ze N160_ 81 12 = ze Mz 81 12 := hsN160_.e (by decide)
        have e13_N160_ : ze N160_ 81 13 = ze Mz 81 13 := hsN160_.e (by decide)
        have e20_N160_ : ze N160_ 81 20 = ze Mz 81 20 := hsN160_.e (by decide)
        have c162_ : zPm N160_ := zPm.fr hsN160_ p10_ (by decide) (by decide)
        have c163_ : zB 83 24 0 5 N160_ := zB.fr hsN160_ p11_ (by decide) (by decide)
        have c164_ : zB 85 144 0 5 N160_ := zB.fr hsN160_ p12_ (by decide) (by decide)
        show zW l m_M_moveLine (zn Mz + 0, zw Mz + 0) N160_ 29 [some (.ref 81), some (.int (Int32.ofInt (ze Mz 81 4))), none, none, none] [] (zpV [3, 4, 5, 6, 7, 8, 11, 13, 20] [83, 85, 86, 87, 88] Mz (fun N => 0 ≤ ze N 81 3 ∧ ze N 81 3 ≤ ze N 81 2 ∧ zTv N ∧ 0 ≤ ze N 81 13 ∧ ze N 81 13 ≤ 4 ∧ zB 83 24 0 5 N ∧ zB 85 144 0 5 N ∧ (((1 ≤ ze N 81 7 ∧ zmu N = 0) ∨ (ze N 81 7 = 0 ∧ zmu N < zmu Mz ∧ zPm N ∧ zFin N)))))
        have hKj_ := zKp_0 (n := (6 * ze Mz 81 13)) hsN160_ (by decide)
        exact j_29 N160_ hb0_N160_ (show 0 ≤ ze N160_ 81 3 by first | assumption | omega) (show ze N160_ 81 3 ≤ ze N160_ 81 2 by first | assumption | omega) hp2_N160_ (show (1 ≤ ze N160_ 81 7 ∧ zmu N160_ = 0) ∨ (ze N160_ 81 7 = 0 ∧ zmu N160_ < zmu Mz ∧ ze Mz 81 13 ≤ 3 ∧ zKp Mz N160_ (6 * ze Mz 81 13)) from Or.inr (⟨(show ze N160_ 81 7 = 0 by first | assumption | omega | exact hKj_), (show zmu N160_ < zmu Mz by first | assumption | omega | exact hKj_), (show ze Mz 81 13 ≤ 3 by first | assumption | omega | exact hKj_), (show zKp Mz N160_ (6 * ze Mz 81 13) by first | assumption | omega | exact hKj_)⟩))
    · skip
      show zW l m_M_moveLine (zn Mz + 0, zw Mz + 0) Mz 22 [some (.ref 81), some (.int (Int32.ofInt (ze Mz 81 4))), none, none, none] [.int (Int32.ofInt 0)] (zpV [3, 4, 5, 6, 7, 8, 11, 13, 20] [83, 85, 86, 87, 88] Mz (fun N => 0 ≤ ze N 81 3 ∧ ze N 81 3 ≤ ze N 81 2 ∧ zTv N ∧ 0 ≤ ze N 81 13 ∧ ze N 81 13 ≤ 4 ∧ zB 83 24 0 5 N ∧ zB 85 144 0 5 N ∧ (((1 ≤ ze N 81 7 ∧ zmu N = 0) ∨ (ze N 81 7 = 0 ∧ zmu N < zmu Mz ∧ zPm N ∧ zFin N)))))
      refine zr_if_eq (pc := 22) (tgt := 29) ⟨(by decide), (by decide)⟩ (by decide) d_M_moveLine_22 (fun hc_22 => ?_) (fun hc_22 => ?_)
      · skip
        exact j_29 Mz zFr.rf (show 0 ≤ ze Mz 81 3 by first | assumption | omega) (show ze Mz 81 3 ≤ ze Mz 81 2 by first | assumption | omega) p3_ (show (1 ≤ ze Mz 81 7 ∧ zmu Mz = 0) ∨ (ze Mz 81 7 = 0 ∧ zmu Mz < zmu Mz ∧ ze Mz 81 13 ≤ 3 ∧ zKp Mz Mz (6 * ze Mz 81 13)) from Or.inl (⟨(show 1 ≤ ze Mz 81 7 by first | assumption | omega | exact hKj_), (show zmu Mz = 0 by first | assumption | omega | exact hKj_)⟩))
      · skip
        exact absurd hc_22 (by decide)
  · skip
    refine zw_aload_n (pc := 13) (n := 0) (x := 81) rfl d_M_moveLine_13 ?_
    refine zw_iconst (pc := 14) (v := Int32.ofInt 5) (by decide) d_M_moveLine_14 ?_
    refine zr_callV (hf.w hW) hf.x (pc := 15) [.int (Int32.ofInt 5)] [] l_M_190 (c_M_wrong l Mz (hf.w hW) 5 (by decide) (by decide) (show ze Mz 81 7 = 0 by first | assumption | omega) (show 1 ≤ 5 by first | assumption | omega)) rfl rfl rfl (by decide) (Nat.le_of_ble_eq_true rfl) d_M_moveLine_15 ?_
    rintro _ N165_ ⟨rfl, hsN165_, ⟨hp0_N165_, hp1_N165_⟩⟩
    have hf_N165_ : zFr [3, 4, 5, 6, 7, 8, 11, 13, 20] [83, 85, 86, 87, 88] Mz N165_ := hf.tr hsN165_ (by decide) (by decide)
    have hb0_N165_ : zFr [3, 4, 5, 6, 7, 8, 11] [] Mz N165_ := zFr.rf.tr hsN165_ (by decide) (by decide)
    have e2_N165_ : ze N165_ 81 2 = ze Mz 81 2 := hsN165_.e (by decide)
    have e3_N165_ : ze N165_ 81 3 = ze Mz 81 3 := hsN165_.e (by decide)
    have e4_N165_ : ze N165_ 81 4 = ze Mz 81 4 := hsN165_.e (by decide)
    have e5_N165_ : ze N165_ 81 5 = ze Mz 81 5 := hsN165_.e (by decide)
    have e6_N165_ : ze N165_ 81 6 = ze Mz 81 6 := hsN165_.e (by decide)
    have r7_N165_ := ze_r N165_ 81 7
    have e12_N165_ : ze N165_ 81 12 = ze Mz 81 12 := hsN165_.e (by decide)
    have e13_N165_ : ze N165_ 81 13 = ze Mz 81 13 := hsN165_.e (by decide)
    have e20_N165_ : ze N165_ 81 20 = ze Mz 81 20 := hsN165_.e (by decide)
    have c167_ : zTv N165_ := zTv.fr hsN165_ p3_ (by decide) (by decide)
    have c168_ : zPm N165_ := zPm.fr hsN165_ p10_ (by decide) (by decide)
    have c169_ : zB 83 24 0 5 N165_ := zB.fr hsN165_ p11_ (by decide) (by decide)
    have c170_ : zB 85 144 0 5 N165_ := zB.fr hsN165_ p12_ (by decide) (by decide)
    show zW l m_M_moveLine (zn Mz + 0, zw Mz + 0) N165_ 18 [some (.ref 81), some (.int (Int32.ofInt (ze Mz 81 4))), none, none, none] [] (zpV [3, 4, 5, 6, 7, 8, 11, 13, 20] [83, 85, 86, 87, 88] Mz (fun N => 0 ≤ ze N 81 3 ∧ ze N 81 3 ≤ ze N 81 2 ∧ zTv N ∧ 0 ≤ ze N 81 13 ∧ ze N 81 13 ≤ 4 ∧ zB 83 24 0 5 N ∧ zB 85 144 0 5 N ∧ (((1 ≤ ze N 81 7 ∧ zmu N = 0) ∨ (ze N 81 7 = 0 ∧ zmu N < zmu Mz ∧ zPm N ∧ zFin N)))))
    refine zw_aload_n (pc := 18) (n := 0) (x := 81) rfl d_M_moveLine_18 ?_
    refine zr_callV (hf_N165_.w hW) hf_N165_.x (pc := 19) [] [] l_M_183 (c_M_isGood l N165_ (hf_N165_.w hW) ) rfl rfl rfl (by decide) (Nat.le_of_ble_eq_true rfl) d_M_moveLine_19 ?_
    rintro _ N171_ ⟨v172_, rfl, ⟨hv172_a, hv172_b⟩, hsN171_, hp0_N171_⟩
    obtain rfl := hsN171_.eq.symm
    replace hp0_N171_ : ((v172_ = 1 ∧ ze N165_ 81 7 = 0) ∨ (v172_ = 0 ∧ ze N165_ 81 7 ≠ 0)) := hp0_N171_
    rcases hp0_N171_ with ⟨rfl, ha19_0_hp0_N171_⟩ | ⟨rfl, ha19_0_hp0_N171_⟩
    · skip
      exfalso; omega
    · skip
      show zW l m_M_moveLine (zn Mz + 0, zw Mz + 0) N165_ 22 [some (.ref 81), some (.int (Int32.ofInt (ze Mz 81 4))), none, none, none] [.int (Int32.ofInt 0)] (zpV [3, 4, 5, 6, 7, 8, 11, 13, 20] [83, 85, 86, 87, 88] Mz (fun N => 0 ≤ ze N 81 3 ∧ ze N 81 3 ≤ ze N 81 2 ∧ zTv N ∧ 0 ≤ ze N 81 13 ∧ ze N 81 13 ≤ 4 ∧ zB 83 24 0 5 N ∧ zB 85 144 0 5 N ∧ (((1 ≤ ze N 81 7 ∧ zmu N = 0) ∨ (ze N 81 7 = 0 ∧ zmu N < zmu Mz ∧ zPm N ∧ zFin N)))))
      refine zr_if_eq (pc := 22) (tgt := 29) ⟨(by decide), (by decide)⟩ (by decide) d_M_moveLine_22 (fun hc_22 => ?_) (fun hc_22 => ?_)
      · skip
        exact j_29 N165_ hb0_N165_ (show 0 ≤ ze N165_ 81 3 by first | assumption | omega) (show ze N165_ 81 3 ≤ ze N165_ 81 2 by first | assumption | omega) c167_ (show (1 ≤ ze N165_ 81 7 ∧ zmu N165_ = 0) ∨ (ze N165_ 81 7 = 0 ∧ zmu N165_ < zmu Mz ∧ ze Mz 81 13 ≤ 3 ∧ zKp Mz N165_ (6 * ze Mz 81 13)) from Or.inl (⟨(show 1 ≤ ze N165_ 81 7 by first | assumption | omega | exact hKj_), (show zmu N165_ = 0 by first | assumption | omega | exact hKj_)⟩))
      · skip
        exact absurd hc_22 (by decide)
set_option maxHeartbeats 40000000 in
theorem c_M_reads (l : Launch) (Mz : zMem) (hW : zMt Mz) (p0_ : 0 ≤ ze Mz 81 3) (p1_ : ze Mz 81 3 ≤ ze Mz 81 2) (p2_ : ze Mz 81 2 ≤ 700) (p3_ : zTv Mz) (p4_ : ze Mz 81 7 = 0) (p5_ : ze Mz 81 13 = 0) (p6_ : ze Mz 81 14 = 0) (p7_ : zB 83 24 0 5 Mz) (p8_ : zB 85 144 0 5 Mz) : zC l m_M_reads 0 0 [.ref 81] Mz (zpV [3, 4, 5, 6, 7, 8, 11, 12, 13, 14, 20, 25, 26, 38, 39, 41, 42, 43] [83, 85, 86, 87, 88, 89, 90, 91, 92, 93, 94, 95, 96, 97, 100, 101, 102] Mz (fun N => 0 ≤ ze N 81 13 ∧ ze N 81 13 ≤ 4 ∧ 0 ≤ ze N 81 14 ∧ ze N 81 14 ≤ 8 ∧ zB 83 24 0 5 N ∧ zB 85 144 0 5 N ∧ (((1 ≤ ze N 81 7 ∧ zmu N = 0) ∨ (ze N 81 7 = 0 ∧ 1 ≤ ze N 81 12 ∧ ze N 81 12 ≤ 6 ∧ zPm N ∧ zFin N ∧ (∃ T : zGT, T ∈ gTabs ∧ zGB T N)))))) := by
  refine zC_of (L0 := [some (.ref 81)]) md_M_reads (Nat.le_of_ble_eq_true rfl) rfl ?_ zQ0
  have hf : zFr [3, 4, 5, 6, 7, 8, 11, 12, 13, 14, 20, 25, 26, 38, 39, 41, 42, 43] [83, 85, 86, 87, 88, 89, 90, 91, 92, 93, 94, 95, 96, 97, 100, 101, 102] Mz Mz := zFr.rf
  have r_2 := ze_r Mz 81 2
  have r_3 := ze_r Mz 81 3
  have r_5 := ze_r Mz 81 5
  have r_7 := ze_r Mz 81 7
  have r_12 := ze_r Mz 81 12
  have r_13 := ze_r Mz 81 13
  have r_14 := ze_r Mz 81 14
  have j_15 : ∀ (N1_ : zMem) (hs2_ : zFr [7, 8] [] Mz N1_) (i3_ : 0 ≤ ze N1_ 81 3) (i4_ : ze N1_ 81 3 ≤ ze N1_ 81 2) (i5_ : zTv N1_) (i6_ : (1 ≤ ze N1_ 81 7 ∧ zmu N1_ = 0) ∨ (ze N1_ 81 7 = 0 ∧ ze N1_ 81 5 = 1)), zW l m_M_reads (zn Mz + 0, zw Mz + 0) N1_ 15 [some (.ref 81)] [] (zpV [3, 4, 5, 6, 7, 8, 11, 12, 13, 14, 20, 25, 26, 38, 39, 41, 42, 43] [83, 85, 86, 87, 88, 89, 90, 91, 92, 93, 94, 95, 96, 97, 100, 101, 102] Mz (fun N => 0 ≤ ze N 81 13 ∧ ze N 81 13 ≤ 4 ∧ 0 ≤ ze N 81 14 ∧ ze N 81 14 ≤ 8 ∧ zB 83 24 0 5 N ∧ zB 85 144 0 5 N ∧ (((1 ≤ ze N 81 7 ∧ zmu N = 0) ∨ (ze N 81 7 = 0 ∧ 1 ≤ ze N 81 12 ∧ ze N 81 12 ≤ 6 ∧ zPm N ∧ zFin N ∧ (∃ T : zGT, T ∈ gTabs ∧ zGB T N)))))) := by
    intro N1_ hs2_ i3_ i4_ i5_ i6_
    have hf_N1_ : zFr [3, 4, 5, 6, 7, 8, 11, 12, 13, 14, 20, 25, 26, 38, 39, 41, 42, 43] [83, 85, 86, 87, 88, 89, 90, 91, 92, 93, 94, 95, 96, 97, 100, 101, 102] Mz N1_ := hf.tr hs2_ (by decide) (by decide)
    have e2_N1_ : ze N1_ 81 2 = ze Mz 81 2 := hs2_.e (by decide)
    have e3_N1_ : ze N1_ 81 3 = ze Mz 81 3 := hs2_.e (by decide)
    have e5_N1_ : ze N1_ 81 5 = ze Mz 81 5 := hs2_.e (by decide)
    have r7_N1_ := ze_r N1_ 81 7
    have e12_N1_ : ze N1_ 81 12 = ze Mz 81 12 := hs2_.e (by decide)
    have e13_N1_ : ze N1_ 81 13 = ze Mz 81 13 := hs2_.e (by decide)
    have e14_N1_ : ze N1_ 81 14 = ze Mz 81 14 := hs2_.e (by decide)
    have c7_ : zB 83 24 0 5 N1_ := zB.fr hs2_ p7_ (by decide) (by decide)
    have c8_ : zB 85 144 0 5 N1_ := zB.fr hs2_ p8_ (by decide) (by decide)
    have zz2_N1_ : ze N1_ 81 2 = ze Mz 81 2 := hf_N1_.e (by decide)
    rcases i6_ with ⟨hl15_0_i6_, hl15_1_i6_⟩ | ⟨hl15_0_i6_, hl15_1_i6_⟩
    · skip
      refine zw_aload_n (pc := 15) (n := 0) (x := 81) rfl d_M_reads_15 ?_
      refine zr_callV (hf_N1_.w hW) hf_N1_.x (pc := 16) [] [] l_M_183 (c_M_isGood l N1_ (hf_N1_.w hW) ) rfl rfl rfl (by decide) (Nat.le_of_ble_eq_true rfl) d_M_reads_16 ?_
      rintro _ N9_ ⟨v10_, rfl, ⟨hv10_a, hv10_b⟩, hsN9_, hp0_N9_⟩
      obtain rfl := hsN9_.eq.symm
      replace hp0_N9_ : ((v10_ = 1 ∧ ze N1_ 81 7 = 0) ∨ (v10_ = 0 ∧ ze N1_ 81 7 ≠ 0)) := hp0_N9_
      rcases hp0_N9_ with ⟨rfl, ha16_0_hp0_N9_⟩ | ⟨rfl, ha16_0_hp0_N9_⟩
      · skip
        exfalso; omega
      · skip
        show zW l m_M_reads (zn Mz + 0, zw Mz + 0) N1_ 19 [some (.ref 81)] [.int (Int32.ofInt 0)] (zpV [3, 4, 5, 6, 7, 8, 11, 12, 13, 14, 20, 25, 26, 38, 39, 41, 42, 43] [83, 85, 86, 87, 88, 89, 90, 91, 92, 93, 94, 95, 96, 97, 100, 101, 102] Mz (fun N => 0 ≤ ze N 81 13 ∧ ze N 81 13 ≤ 4 ∧ 0 ≤ ze N 81 14 ∧ ze N 81 14 ≤ 8 ∧ zB 83 24 0 5 N ∧ zB 85 144 0 5 N ∧ (((1 ≤ ze N 81 7 ∧ zmu N = 0) ∨ (ze N 81 7 = 0 ∧ 1 ≤ ze N 81 12 ∧ ze N 81 12 ≤ 6 ∧ zPm N ∧ zFin N ∧ (∃ T : zGT, T ∈ gTabs ∧ zGB T N))))))
        refine zr_if_eq (pc := 19) (tgt := 26) ⟨(by decide), (by decide)⟩ (by decide) d_M_reads_19 (fun hc_19 => ?_) (fun hc_19 => ?_)
        · skip
          refine zw_aload_n (pc := 26) (n := 0) (x := 81) rfl d_M_reads_26 ?_
          refine zw_aload_n (pc := 27) (n := 0) (x := 81) rfl d_M_reads_27 ?_
          refine zw_iconst (pc := 28) (v := Int32.ofInt 1) (by decide) d_M_reads_28 ?_
          refine zw_bipush (pc := 29) (v := Int32.ofInt 6) (by decide) d_M_reads_29 ?_
          refine zr_callV (hf_N1_.w hW) hf_N1_.x (pc := 31) [.int (Int32.ofInt 1), .int (Int32.ofInt 6)] [.ref 81] l_M_322 (c_M_number l N1_ (hf_N1_.w hW) 1 (by decide) (by decide) 6 (by decide) (by decide) (show 0 ≤ ze N1_ 81 3 by first | assumption | omega) (show ze N1_ 81 3 ≤ ze N1_ 81 2 by first | assumption | omega) (show ze N1_ 81 2 ≤ 700 by first | assumption | omega) i5_ (show 0 ≤ ze N1_ 81 7 by first | assumption | omega)) rfl rfl rfl (by decide) (Nat.le_of_ble_eq_true rfl) d_M_reads_31 ?_
          rintro _ N11_ ⟨v12_, rfl, ⟨hv12_a, hv12_b⟩, hsN11_, ⟨hp0_N11_, hp1_N11_, hp2_N11_, hp3_N11_⟩⟩
          have hf_N11_ : zFr [3, 4, 5, 6, 7, 8, 11, 12, 13, 14, 20, 25, 26, 38, 39, 41, 42, 43] [83, 85, 86, 87, 88, 89, 90, 91, 92, 93, 94, 95, 96, 97, 100, 101, 102] Mz N11_ := hf_N1_.tr hsN11_ (by decide) (by decide)
          have e2_N11_ : ze N11_ 81 2 = ze N1_ 81 2 := hsN11_.e (by decide)
          have r3_N11_ := ze_r N11_ 81 3
          have r5_N11_ := ze_r N11_ 81 5
          have r7_N11_ := ze_r N11_ 81 7
          have e12_N11_ : ze N11_ 81 12 = ze N1_ 81 12 := hsN11_.e (by decide)
          have e13_N11_ : ze N11_ 81 13 = ze N1_ 81 13 := hsN11_.e (by decide)
          have e14_N11_ : ze N11_ 81 14 = ze N1_ 81 14 := hsN11_.e (by decide)
          have c13_ : zB 83 24 0 5 N11_ := zB.fr hsN11_ c7_ (by decide) (by decide)
          have c14_ : zB 85 144 0 5 N11_ := zB.fr hsN11_ c8_ (by decide) (by decide)
          rcases hp3_N11_ with ⟨ha31_0_hp3_N11_, ha31_1_hp3_N11_⟩ | ⟨ha31_0_hp3_N11_, ha31_1_hp3_N11_, ha31_2_hp3_N11_, ha31_3_hp3_N11_, ha31_4_hp3_N11_⟩
          · skip
            show zW l m_M_reads (zn Mz + 0, zw Mz + 0) N11_ 34 [some (.ref 81)] [.int (Int32.ofInt v12_), .ref 81] (zpV [3, 4, 5, 6, 7, 8, 11, 12, 13, 14, 20, 25, 26, 38, 39, 41, 42, 43] [83, 85, 86, 87, 88, 89, 90, 91, 92, 93, 94, 95, 96, 97, 100, 101, 102] Mz (fun N => 0 ≤ ze N 81 13 ∧ ze N 81 13 ≤ 4 ∧ 0 ≤ ze N 81 14 ∧ ze N 81 14 ≤ 8 ∧ zB 83 24 0 5 N ∧ zB 85 144 0 5 N ∧ (((1 ≤ ze N 81 7 ∧ zmu N = 0) ∨ (ze N 81 7 = 0 ∧ 1 ≤ ze N 81 12 ∧ ze N 81 12 ≤ 6 ∧ zPm N ∧ zFin N ∧ (∃ T : zGT, T ∈ gTabs ∧ zGB T N))))))
            refine zr_putI (hf_N11_.w hW) (pc := 34) f_M_115 rfl rfl ⟨by omega, by omega⟩ rfl rfl d_M_reads_34 (fun N15_ hsN15_ hvN15_ => ?_)
            have hf_N15_ : zFr [3, 4, 5, 6, 7, 8, 11, 12, 13, 14, 20, 25, 26, 38, 39, 41, 42, 43] [83, 85, 86, 87, 88, 89, 90, 91, 92, 93, 94, 95, 96, 97, 100, 101, 102] Mz N15_ := hf_N11_.tr hsN15_ (by decide) (by decide)
            have e2_N15_ : ze N15_ 81 2 = ze N11_ 81 2 := hsN15_.e (by decide)
            have e3_N15_ : ze N15_ 81 3 = ze N11_ 81 3 := hsN15_.e (by decide)
            have e5_N15_ : ze N15_ 81 5 = ze N11_ 81 5 := hsN15_.e (by decide)
            have e7_N15_ : ze N15_ 81 7 = ze N11_ 81 7 := hsN15_.e (by decide)
            have r12_N15_ := ze_r N15_ 81 12
            have e13_N15_ : ze N15_ 81 13 = ze N11_ 81 13 := hsN15_.e (by decide)
            have e14_N15_ : ze N15_ 81 14 = ze N11_ 81 14 := hsN15_.e (by decide)
            have qzmu_N15_ : zmu N15_ = zmu N11_ := zmu_f hsN15_ (by decide)
            have c16_ : zB 83 24 0 5 N15_ := zB.fr hsN15_ c13_ (by decide) (by decide)
            have c17_ : zB 85 144 0 5 N15_ := zB.fr hsN15_ c14_ (by decide) (by decide)
            have c18_ : zTv N15_ := zTv.fr hsN15_ hp2_N11_ (by decide) (by decide)
            refine zw_aload_n (pc := 37) (n := 0) (x := 81) rfl d_M_reads_37 ?_
            refine zw_bipush (pc := 38) (v := Int32.ofInt 59) (by decide) d_M_reads_38 ?_
            refine zr_callV (hf_N15_.w hW) hf_N15_.x (pc := 40) [.int (Int32.ofInt 59)] [] l_M_355 (c_M_must l N15_ (hf_N15_.w hW) 59 (by decide) (by decide) (show 0 ≤ ze N15_ 81 3 by first | assumption | omega) (show ze N15_ 81 3 ≤ ze N15_ 81 2 by first | assumption | omega) (show ze N15_ 81 2 ≤ 700 by first | assumption | omega) c18_ (show 0 ≤ ze N15_ 81 7 by first | assumption | omega)) rfl rfl rfl (by decide) (Nat.le_of_ble_eq_true rfl) d_M_reads_40 ?_
            rintro _ N19_ ⟨rfl, hsN19_, ⟨hp0_N19_, hp1_N19_, hp2_N19_, hp3_N19_⟩⟩
            have hf_N19_ : zFr [3, 4, 5, 6, 7, 8, 11, 12, 13, 14, 20, 25, 26, 38, 39, 41, 42, 43] [83, 85, 86, 87, 88, 89, 90, 91, 92, 93, 94, 95, 96, 97, 100, 101, 102] Mz N19_ := hf_N15_.tr hsN19_ (by decide) (by decide)
            have e2_N19_ : ze N19_ 81 2 = ze N15_ 81 2 := hsN19_.e (by decide)
            have r3_N19_ := ze_r N19_ 81 3
            have r5_N19_ := ze_r N19_ 81 5
            have r7_N19_ := ze_r N19_ 81 7
            have e12_N19_ : ze N19_ 81 12 = ze N15_ 81 12 := hsN19_.e (by decide)
            have e13_N19_ : ze N19_ 81 13 = ze N15_ 81 13 := hsN19_.e (by decide)
            have e14_N19_ : ze N19_ 81 14 = ze N15_ 81 14 := hsN19_.e (by decide)
            have c21_ : zB 83 24 0 5 N19_ := zB.fr hsN19_ c16_ (by decide) (by decide)
            have c22_ : zB 85 144 0 5 N19_ := zB.fr hsN19_ c17_ (by decide) (by decide)
            rcases hp3_N19_ with ⟨ha40_0_hp3_N19_, ha40_1_hp3_N19_⟩ | ⟨ha40_0_hp3_N19_, ha40_1_hp3_N19_, ha40_2_hp3_N19_⟩
            · skip
              show zW l m_M_reads (zn Mz + 0, zw Mz + 0) N19_ 43 [some (.ref 81)] [] (zpV [3, 4, 5, 6, 7, 8, 11, 12, 13, 14, 20, 25, 26, 38, 39, 41, 42, 43] [83, 85, 86, 87, 88, 89, 90, 91, 92, 93, 94, 95, 96, 97, 100, 101, 102] Mz (fun N => 0 ≤ ze N 81 13 ∧ ze N 81 13 ≤ 4 ∧ 0 ≤ ze N 81 14 ∧ ze N 81 14 ≤ 8 ∧ zB 83 24 0 5 N ∧ zB 85 144 0 5 N ∧ (((1 ≤ ze N 81 7 ∧ zmu N = 0) ∨ (ze N 81 7 = 0 ∧ 1 ≤ ze N 81 12 ∧ ze N 81 12 ≤ 6 ∧ zPm N ∧ zFin N ∧ (∃ T : zGT, T ∈ gTabs ∧ zGB T N))))))
              have lp_43 : ∀ (n : Nat) (N23_ : zMem) (hs24_ : zFr [3, 4, 5, 6, 7, 8, 11, 13, 20] [83, 85, 86, 87, 88] N19_ N23_) (i25_ : 0 ≤ ze N23_ 81 3) (i26_ : ze N23_ 81 3 ≤ ze N23_ 81 2) (i27_ : zTv N23_) (i28_ : 0 ≤ ze N23_ 81 13) (i29_ : ze N23_ 81 13 ≤ 4) (i30_ : 0 ≤ ze N23_ 81 14) (i31_ : ze N23_ 81 14 ≤ 8) (i32_ : (1 ≤ ze N23_ 81 7 ∧ zmu N23_ = 0) ∨ (ze N23_ 81 7 = 0 ∧ 1 ≤ ze N23_ 81 12 ∧ ze N23_ 81 12 ≤ 6 ∧ zPm N23_ ∧ zFin N23_)) (i33_ : zB 83 24 0 5 N23_) (i34_ : zB 85 144 0 5 N23_), (zmu N23_).toNat < n → zW l m_M_reads (zn Mz + 0, zw Mz + 0) N23_ 43 [some (.ref 81)] [] (zpV [3, 4, 5, 6, 7, 8, 11, 12, 13, 14, 20, 25, 26, 38, 39, 41, 42, 43] [83, 85, 86, 87, 88, 89, 90, 91, 92, 93, 94, 95, 96, 97, 100, 101, 102] Mz (fun N => 0 ≤ ze N 81 13 ∧ ze N 81 13 ≤ 4 ∧ 0 ≤ ze N 81 14 ∧ ze N 81 14 ≤ 8 ∧ zB 83 24 0 5 N ∧ zB 85 144 0 5 N ∧ (((1 ≤ ze N 81 7 ∧ zmu N = 0) ∨ (ze N 81 7 = 0 ∧ 1 ≤ ze N 81 12 ∧ ze N 81 12 ≤ 6 ∧ zPm N ∧ zFin N ∧ (∃ T : zGT, T ∈ gTabs ∧ zGB T N)))))) := by
                clear hs2_ i3_ i4_ i5_ hf_N1_ e2_N1_ e3_N1_ e5_N1_ r7_N1_ e12_N1_ e13_N1_ e14_N1_ c7_ c8_ zz2_N1_ hl15_0_i6_ hl15_1_i6_ hv10_a hv10_b ha16_0_hp0_N9_ hsN11_ hv12_a hv12_b hp0_N11_ hp1_N11_ hp2_N11_ hf_N11_ e2_N11_ r3_N11_ r5_N11_ r7_N11_ e12_N11_ e13_N11_ e14_N11_ c13_ c14_ ha31_0_hp3_N11_ ha31_1_hp3_N11_ hsN15_ hvN15_ hf_N15_ e2_N15_ e3_N15_ e5_N15_ e7_N15_ r12_N15_ e13_N15_ e14_N15_ qzmu_N15_ c16_ c17_ c18_ hsN19_ e2_N19_ e12_N19_ e13_N19_ e14_N19_
                intro n
                induction n with
                | zero =>
                  intro N23_ hs24_ i25_ i26_ i27_ i28_ i29_ i30_ i31_ i32_ i33_ i34_ h0
                  exact absurd h0 (Nat.not_lt_zero _)
                | succ n ih_43 =>
                  intro N23_ hs24_ i25_ i26_ i27_ i28_ i29_ i30_ i31_ i32_ i33_ i34_ hlt_43
                  have hf_N23_ : zFr [3, 4, 5, 6, 7, 8, 11, 12, 13, 14, 20, 25, 26, 38, 39, 41, 42, 43] [83, 85, 86, 87, 88, 89, 90, 91, 92, 93, 94, 95, 96, 97, 100, 101, 102] Mz N23_ := hf_N19_.tr hs24_ (by decide) (by decide)
                  have e2_N23_ : ze N23_ 81 2 = ze N19_ 81 2 := hs24_.e (by decide)
                  have r3_N23_ := ze_r N23_ 81 3
                  have r5_N23_ := ze_r N23_ 81 5
                  have r7_N23_ := ze_r N23_ 81 7
                  have e12_N23_ : ze N23_ 81 12 = ze N19_ 81 12 := hs24_.e (by decide)
                  have r13_N23_ := ze_r N23_ 81 13
                  have e14_N23_ : ze N23_ 81 14 = ze N19_ 81 14 := hs24_.e (by decide)
                  have zz2_N23_ : ze N23_ 81 2 = ze Mz 81 2 := hf_N23_.e (by decide)
                  rcases i32_ with ⟨hl43_0_i32_, hl43_1_i32_⟩ | ⟨hl43_0_i32_, hl43_1_i32_, hl43_2_i32_, hl43_3_i32_, hl43_4_i32_⟩
                  · skip
                    refine zw_aload_n (pc := 43) (n := 0) (x := 81) rfl d_M_reads_43 ?_
                    refine zr_ldc2 (pc := 44) (n := 1836021349) (by decide) k_M_177 d_M_reads_44 ?_
                    refine zr_callV (hf_N23_.w hW) hf_N23_.x (pc := 47) [.long (Int64.ofInt 1836021349)] [] l_M_312 (c_M_isWord l N23_ (hf_N23_.w hW) 1836021349 (by decide) (by decide)) rfl rfl rfl (by decide) (Nat.le_of_ble_eq_true rfl) d_M_reads_47 ?_
                    rintro _ N35_ ⟨v36_, rfl, ⟨hv36_a, hv36_b⟩, hsN35_, hp0_N35_⟩
                    obtain rfl := hsN35_.eq.symm
                    replace hp0_N35_ : ((v36_ = 1 ∧ ze N23_ 81 7 = 0 ∧ ze N23_ 81 5 = 1) ∨ (v36_ = 0)) := hp0_N35_
                    rcases hp0_N35_ with ⟨rfl, ha47_0_hp0_N35_, ha47_1_hp0_N35_⟩ | rfl
                    · skip
                      exfalso; omega
                    · skip
                      show zW l m_M_reads (zn Mz + 0, zw Mz + 0) N23_ 50 [some (.ref 81)] [.int (Int32.ofInt 0)] (zpV [3, 4, 5, 6, 7, 8, 11, 12, 13, 14, 20, 25, 26, 38, 39, 41, 42, 43] [83, 85, 86, 87, 88, 89, 90, 91, 92, 93, 94, 95, 96, 97, 100, 101, 102] Mz (fun N => 0 ≤ ze N 81 13 ∧ ze N 81 13 ≤ 4 ∧ 0 ≤ ze N 81 14 ∧ ze N 81 14 ≤ 8 ∧ zB 83 24 0 5 N ∧ zB 85 144 0 5 N ∧ (((1 ≤ ze N 81 7 ∧ zmu N = 0) ∨ (ze N 81 7 = 0 ∧ 1 ≤ ze N 81 12 ∧ ze N 81 12 ≤ 6 ∧ zPm N ∧ zFin N ∧ (∃ T : zGT, T ∈ gTabs ∧ zGB T N))))))
                      refine zr_if_eq (pc := 50) (tgt := 60) ⟨(by decide), (by decide)⟩ (by decide) d_M_reads_50 (fun hc_50 => ?_) (fun hc_50 => ?_)
                      · skip
                        refine zw_aload_n (pc := 60) (n := 0) (x := 81) rfl d_M_reads_60 ?_
                        refine zr_callV (hf_N23_.w hW) hf_N23_.x (pc := 61) [] [] l_M_183 (c_M_isGood l N23_ (hf_N23_.w hW) ) rfl rfl rfl (by decide) (Nat.le_of_ble_eq_true rfl) d_M_reads_61 ?_
                        rintro _ N37_ ⟨v38_, rfl, ⟨hv38_a, hv38_b⟩, hsN37_, hp0_N37_⟩
                        obtain rfl := hsN37_.eq.symm
                        replace hp0_N37_ : ((v38_ = 1 ∧ ze N23_ 81 7 = 0) ∨ (v38_ = 0 ∧ ze N23_ 81 7 ≠ 0)) := hp0_N37_
                        rcases hp0_N37_ with ⟨rfl, ha61_0_hp0_N37_⟩ | ⟨rfl, ha61_0_hp0_N37_⟩
                        · skip
                          exfalso; omega
                        · skip
                          show zW l m_M_reads (zn Mz + 0, zw Mz + 0) N23_ 64 [some (.ref 81)] [.int (Int32.ofInt 0)] (zpV [3, 4, 5, 6, 7, 8, 11, 12, 13, 14, 20, 25, 26, 38, 39, 41, 42, 43] [83, 85, 86, 87, 88, 89, 90, 91, 92, 93, 94, 95, 96, 97, 100, 101, 102] Mz (fun N => 0 ≤ ze N 81 13 ∧ ze N 81 13 ≤ 4 ∧ 0 ≤ ze N 81 14 ∧ ze N 81 14 ≤ 8 ∧ zB 83 24 0 5 N ∧ zB 85 144 0 5 N ∧ (((1 ≤ ze N 81 7 ∧ zmu N = 0) ∨ (ze N 81 7 = 0 ∧ 1 ≤ ze N 81 12 ∧ ze N 81 12 ≤ 6 ∧ zPm N ∧ zFin N ∧ (∃ T : zGT, T ∈ gTabs ∧ zGB T N))))))
                          refine zr_if_eq (pc := 64) (tgt := 71) ⟨(by decide), (by decide)⟩ (by decide) d_M_reads_64 (fun hc_64 => ?_) (fun hc_64 => ?_)
                          · skip
                            have lp_71 : ∀ (n : Nat) (N39_ : zMem) (hs40_ : zFr [3, 4, 5, 6, 7, 8, 11, 14, 38, 39, 41, 42, 43] [95, 96, 97, 100, 101, 102] N23_ N39_) (i41_ : 0 ≤ ze N39_ 81 3) (i42_ : ze N39_ 81 3 ≤ ze N39_ 81 2) (i43_ : zTv N39_) (i44_ : 0 ≤ ze N39_ 81 13) (i45_ : ze N39_ 81 13 ≤ 4) (i46_ : 0 ≤ ze N39_ 81 14) (i47_ : ze N39_ 81 14 ≤ 8) (i48_ : (1 ≤ ze N39_ 81 7 ∧ zmu N39_ = 0) ∨ (ze N39_ 81 7 = 0 ∧ 1 ≤ ze N39_ 81 12 ∧ ze N39_ 81 12 ≤ 6 ∧ zPm N39_ ∧ zFin N39_ ∧ (∃ T : zGT, T ∈ gTabs ∧ zGB T N39_))), (zmu N39_).toNat < n → zW l m_M_reads (zn Mz + 0, zw Mz + 0) N39_ 71 [some (.ref 81)] [] (zpV [3, 4, 5, 6, 7, 8, 11, 12, 13, 14, 20, 25, 26, 38, 39, 41, 42, 43] [83, 85, 86, 87, 88, 89, 90, 91, 92, 93, 94, 95, 96, 97, 100, 101, 102] Mz (fun N => 0 ≤ ze N 81 13 ∧ ze N 81 13 ≤ 4 ∧ 0 ≤ ze N 81 14 ∧ ze N 81 14 ≤ 8 ∧ zB 83 24 0 5 N ∧ zB 85 144 0 5 N ∧ (((1 ≤ ze N 81 7 ∧ zmu N = 0) ∨ (ze N 81 7 = 0 ∧ 1 ≤ ze N 81 12 ∧ ze N 81 12 ≤ 6 ∧ zPm N ∧ zFin N ∧ (∃ T : zGT, T ∈ gTabs ∧ zGB T N)))))) := by
                              clear hp0_N19_ hp1_N19_ hp2_N19_ hf_N19_ r3_N19_ r5_N19_ r7_N19_ c21_ c22_ ha40_0_hp3_N19_ ha40_1_hp3_N19_ hs24_ e2_N23_ e12_N23_ e14_N23_ hv36_a hv36_b hv38_a hv38_b
                              intro n
                              induction n with
                              | zero =>
                                intro N39_ hs40_ i41_ i42_ i43_ i44_ i45_ i46_ i47_ i48_ h0
                                exact absurd h0 (Nat.not_lt_zero _)
                              | succ n ih_71 =>
                                intro N39_ hs40_ i41_ i42_ i43_ i44_ i45_ i46_ i47_ i48_ hlt_71
                                have hf_N39_ : zFr [3, 4, 5, 6, 7, 8, 11, 12, 13, 14, 20, 25, 26, 38, 39, 41, 42, 43] [83, 85, 86, 87, 88, 89, 90, 91, 92, 93, 94, 95, 96, 97, 100, 101, 102] Mz N39_ := hf_N23_.tr hs40_ (by decide) (by decide)
                                have e2_N39_ : ze N39_ 81 2 = ze N23_ 81 2 := hs40_.e (by decide)
                                have r3_N39_ := ze_r N39_ 81 3
                                have r5_N39_ := ze_r N39_ 81 5
                                have r7_N39_ := ze_r N39_ 81 7
                                have e12_N39_ : ze N39_ 81 12 = ze N23_ 81 12 := hs40_.e (by decide)
                                have e13_N39_ : ze N39_ 81 13 = ze N23_ 81 13 := hs40_.e (by decide)
                                have r14_N39_ := ze_r N39_ 81 14
                                have c49_ : zB 83 24 0 5 N39_ := zB.fr hs40_ i33_ (by decide) (by decide)
                                have c50_ : zB 85 144 0 5 N39_ := zB.fr hs40_ i34_ (by decide) (by decide)
                                have zz2_N39_ : ze N39_ 81 2 = ze Mz 81 2 := hf_N39_.e (by decide)
                                rcases i48_ with ⟨hl71_0_i48_, hl71_1_i48_⟩ | ⟨hl71_0_i48_, hl71_1_i48_, hl71_2_i48_, hl71_3_i48_, hl71_4_i48_, hl71_5_i48_⟩
                                · skip
                                  refine zw_aload_n (pc := 71) (n := 0) (x := 81) rfl d_M_reads_71 ?_
                                  refine zr_ldc2 (pc := 72) (n := 7103860) (by decide) k_M_179 d_M_reads_72 ?_
                                  refine zr_callV (hf_N39_.w hW) hf_N39_.x (pc := 75) [.long (Int64.ofInt 7103860)] [] l_M_312 (c_M_isWord l N39_ (hf_N39_.w hW) 7103860 (by decide) (by decide)) rfl rfl rfl (by decide) (Nat.le_of_ble_eq_true rfl) d_M_reads_75 ?_
                                  rintro _ N51_ ⟨v52_, rfl, ⟨hv52_a, hv52_b⟩, hsN51_, hp0_N51_⟩
                                  obtain rfl := hsN51_.eq.symm
                                  replace hp0_N51_ : ((v52_ = 1 ∧ ze N39_ 81 7 = 0 ∧ ze N39_ 81 5 = 1) ∨ (v52_ = 0)) := hp0_N51_
                                  rcases hp0_N51_ with ⟨rfl, ha75_0_hp0_N51_, ha75_1_hp0_N51_⟩ | rfl
                                  · skip
                                    exfalso; omega
                                  · skip
                                    show zW l m_M_reads (zn Mz + 0, zw Mz + 0) N39_ 78 [some (.ref 81)] [.int (Int32.ofInt 0)] (zpV [3, 4, 5, 6, 7, 8, 11, 12, 13, 14, 20, 25, 26, 38, 39, 41, 42, 43] [83, 85, 86, 87, 88, 89, 90, 91, 92, 93, 94, 95, 96, 97, 100, 101, 102] Mz (fun N => 0 ≤ ze N 81 13 ∧ ze N 81 13 ≤ 4 ∧ 0 ≤ ze N 81 14 ∧ ze N 81 14 ≤ 8 ∧ zB 83 24 0 5 N ∧ zB 85 144 0 5 N ∧ (((1 ≤ ze N 81 7 ∧ zmu N = 0) ∨ (ze N 81 7 = 0 ∧ 1 ≤ ze N 81 12 ∧ ze N 81 12 ≤ 6 ∧ zPm N ∧ zFin N ∧ (∃ T : zGT, T ∈ gTabs ∧ zGB T N))))))
                                    refine zr_if_eq (pc := 78) (tgt := 88) ⟨(by decide), (by decide)⟩ (by decide) d_M_reads_78 (fun hc_78 => ?_) (fun hc_78 => ?_)
                                    · skip
                                      refine zw_aload_n (pc := 88) (n := 0) (x := 81) rfl d_M_reads_88 ?_
                                      refine zr_callV (hf_N39_.w hW) hf_N39_.x (pc := 89) [] [] l_M_183 (c_M_isGood l N39_ (hf_N39_.w hW) ) rfl rfl rfl (by decide) (Nat.le_of_ble_eq_true rfl) d_M_reads_89 ?_
                                      rintro _ N53_ ⟨v54_, rfl, ⟨hv54_a, hv54_b⟩, hsN53_, hp0_N53_⟩
                                      obtain rfl := hsN53_.eq.symm
                                      replace hp0_N53_ : ((v54_ = 1 ∧ ze N39_ 81 7 = 0) ∨ (v54_ = 0 ∧ ze N39_ 81 7 ≠ 0)) := hp0_N53_
                                      rcases hp0_N53_ with ⟨rfl, ha89_0_hp0_N53_⟩ | ⟨rfl, ha89_0_hp0_N53_⟩
                                      · skip
                                        exfalso; omega
                                      · skip
                                        show zW l m_M_reads (zn Mz + 0, zw Mz + 0) N39_ 92 [some (.ref 81)] [.int (Int32.ofInt 0)] (zpV [3, 4, 5, 6, 7, 8, 11, 12, 13, 14, 20, 25, 26, 38, 39, 41, 42, 43] [83, 85, 86, 87, 88, 89, 90, 91, 92, 93, 94, 95, 96, 97, 100, 101, 102] Mz (fun N => 0 ≤ ze N 81 13 ∧ ze N 81 13 ≤ 4 ∧ 0 ≤ ze N 81 14 ∧ ze N 81 14 ≤ 8 ∧ zB 83 24 0 5 N ∧ zB 85 144 0 5 N ∧ (((1 ≤ ze N 81 7 ∧ zmu N = 0) ∨ (ze N 81 7 = 0 ∧ 1 ≤ ze N 81 12 ∧ ze N 81 12 ≤ 6 ∧ zPm N ∧ zFin N ∧ (∃ T : zGT, T ∈ gTabs ∧ zGB T N))))))
                                        refine zr_if_eq (pc := 92) (tgt := 107) ⟨(by decide), (by decide)⟩ (by decide) d_M_reads_92 (fun hc_92 => ?_) (fun hc_92 => ?_)
                                        · skip
                                          have hz0 := zmu_s N39_
                                          exact zr_vret (pc := 107) rfl hf_N39_ ⟨(show 0 ≤ ze N39_ 81 13 by first | assumption | omega), (show ze N39_ 81 13 ≤ 4 by first | assumption | omega), (show 0 ≤ ze N39_ 81 14 by first | assumption | omega), (show ze N39_ 81 14 ≤ 8 by first | assumption | omega), c49_, c50_, (show ((1 ≤ ze N39_ 81 7 ∧ zmu N39_ = 0) ∨ (ze N39_ 81 7 = 0 ∧ 1 ≤ ze N39_ 81 12 ∧ ze N39_ 81 12 ≤ 6 ∧ zPm N39_ ∧ zFin N39_ ∧ (∃ T : zGT, T ∈ gTabs ∧ zGB T N39_))) from Or.inl (⟨(show 1 ≤ ze N39_ 81 7 by first | assumption | omega), (show zmu N39_ = 0 by first | assumption | omega)⟩))⟩ d_M_reads_107
                                        · skip
                                          exact absurd hc_92 (by decide)
                                    · skip
                                      exact absurd hc_78 (by decide)
                                · skip
                                  have hPm_ := (show zPm N39_ by assumption)
                                  have hFn_ := (show zFin N39_ by assumption)
                                  obtain ⟨T, hTt, hGB⟩ := (show ∃ T : zGT, T ∈ gTabs ∧ zGB T N39_ by assumption)
                                  have hB85_ : zB 85 144 0 5 N39_ := hGB.2.1
                                  have hO := gTabs_ok T hTt
                                  have hGd := zGB.d hO hGB
                                  have hz_N39_ := zmu_p N39_ (by omega) (by omega)
                                  refine zw_aload_n (pc := 71) (n := 0) (x := 81) rfl d_M_reads_71 ?_
                                  refine zr_ldc2 (pc := 72) (n := 7103860) (by decide) k_M_179 d_M_reads_72 ?_
                                  refine zr_callV (hf_N39_.w hW) hf_N39_.x (pc := 75) [.long (Int64.ofInt 7103860)] [] l_M_312 (c_M_isWord l N39_ (hf_N39_.w hW) 7103860 (by decide) (by decide)) rfl rfl rfl (by decide) (Nat.le_of_ble_eq_true rfl) d_M_reads_75 ?_
                                  rintro _ N55_ ⟨v56_, rfl, ⟨hv56_a, hv56_b⟩, hsN55_, hp0_N55_⟩
                                  obtain rfl := hsN55_.eq.symm
                                  replace hp0_N55_ : ((v56_ = 1 ∧ ze N39_ 81 7 = 0 ∧ ze N39_ 81 5 = 1) ∨ (v56_ = 0)) := hp0_N55_
                                  rcases hp0_N55_ with ⟨rfl, ha75_0_hp0_N55_, ha75_1_hp0_N55_⟩ | rfl
                                  · skip
                                    show zW l m_M_reads (zn Mz + 0, zw Mz + 0) N39_ 78 [some (.ref 81)] [.int (Int32.ofInt 1)] (zpV [3, 4, 5, 6, 7, 8, 11, 12, 13, 14, 20, 25, 26, 38, 39, 41, 42, 43] [83, 85, 86, 87, 88, 89, 90, 91, 92, 93, 94, 95, 96, 97, 100, 101, 102] Mz (fun N => 0 ≤ ze N 81 13 ∧ ze N 81 13 ≤ 4 ∧ 0 ≤ ze N 81 14 ∧ ze N 81 14 ≤ 8 ∧ zB 83 24 0 5 N ∧ zB 85 144 0 5 N ∧ (((1 ≤ ze N 81 7 ∧ zmu N = 0) ∨ (ze N 81 7 = 0 ∧ 1 ≤ ze N 81 12 ∧ ze N 81 12 ≤ 6 ∧ zPm N ∧ zFin N ∧ (∃ T : zGT, T ∈ gTabs ∧ zGB T N))))))
                                    refine zr_if_eq (pc := 78) (tgt := 88) ⟨(by decide), (by decide)⟩ (by decide) d_M_reads_78 (fun hc_78 => ?_) (fun hc_78 => ?_)
                                    · skip
                                      exact absurd hc_78 (by decide)
                                    · skip
                                      refine zw_aload_n (pc := 81) (n := 0) (x := 81) rfl d_M_reads_81 ?_
                                      refine zr_callV (hf_N39_.w hW) hf_N39_.x (pc := 82) [] [] l_M_364 (c_M_letLine l N39_ (hf_N39_.w hW) hGd (show 0 ≤ ze N39_ 81 3 by first | assumption | omega) (show ze N39_ 81 3 ≤ ze N39_ 81 2 by first | assumption | omega) (show ze N39_ 81 2 ≤ 700 by first | assumption | omega) i43_ (show ze N39_ 81 7 = 0 by first | assumption | omega) (show ze N39_ 81 5 = 1 by first | assumption | omega) (show 0 ≤ ze N39_ 81 14 by first | assumption | omega) (show ze N39_ 81 14 ≤ 8 by first | assumption | omega)) rfl rfl rfl (by decide) (Nat.le_of_ble_eq_true rfl) d_M_reads_82 ?_
                                      rintro _ N57_ ⟨rfl, hsN57_, ⟨hp0_N57_, hp1_N57_, hp2_N57_, hp3_N57_, hp4_N57_, hp5_N57_⟩⟩
                                      have hf_N57_ : zFr [3, 4, 5, 6, 7, 8, 11, 12, 13, 14, 20, 25, 26, 38, 39, 41, 42, 43] [83, 85, 86, 87, 88, 89, 90, 91, 92, 93, 94, 95, 96, 97, 100, 101, 102] Mz N57_ := hf_N39_.tr hsN57_ (by decide) (by decide)
                                      have hb0_N57_ : zFr [3, 4, 5, 6, 7, 8, 11, 14, 38, 39, 41, 42, 43] [95, 96, 97, 100, 101, 102] N23_ N57_ := hs40_.tr hsN57_ (by decide) (by decide)
                                      have e2_N57_ : ze N57_ 81 2 = ze N39_ 81 2 := hsN57_.e (by decide)
                                      have r3_N57_ := ze_r N57_ 81 3
                                      have r5_N57_ := ze_r N57_ 81 5
                                      have r7_N57_ := ze_r N57_ 81 7
                                      have e12_N57_ : ze N57_ 81 12 = ze N39_ 81 12 := hsN57_.e (by decide)
                                      have e13_N57_ : ze N57_ 81 13 = ze N39_ 81 13 := hsN57_.e (by decide)
                                      have r14_N57_ := ze_r N57_ 81 14
                                      have c59_ : zB 83 24 0 5 N57_ := zB.fr hsN57_ c49_ (by decide) (by decide)
                                      have c60_ : zB 85 144 0 5 N57_ := zB.fr hsN57_ hB85_ (by decide) (by decide)
                                      have c61_ : zPm N57_ := zPm.fr hsN57_ hPm_ (by decide) (by decide)
                                      have c62_ : zFin N57_ := zFin.fr hsN57_ hFn_ (by decide) (by decide)
                                      have c63_ : zGB T N57_ := zGB.fr hsN57_ hGB (by decide) (by decide)
                                      have c64_ : zGD N57_ := zGD.fr hsN57_ hGd (by decide) (by decide)
                                      rcases hp5_N57_ with ⟨ha82_0_hp5_N57_, ha82_1_hp5_N57_⟩ | ⟨ha82_0_hp5_N57_, ha82_1_hp5_N57_⟩
                                      · skip
                                        have hEx_ : ∃ T : zGT, T ∈ gTabs ∧ zGB T N57_ := ⟨T, hTt, c63_⟩
                                        show zW l m_M_reads (zn Mz + 0, zw Mz + 0) N57_ 85 [some (.ref 81)] [] (zpV [3, 4, 5, 6, 7, 8, 11, 12, 13, 14, 20, 25, 26, 38, 39, 41, 42, 43] [83, 85, 86, 87, 88, 89, 90, 91, 92, 93, 94, 95, 96, 97, 100, 101, 102] Mz (fun N => 0 ≤ ze N 81 13 ∧ ze N 81 13 ≤ 4 ∧ 0 ≤ ze N 81 14 ∧ ze N 81 14 ≤ 8 ∧ zB 83 24 0 5 N ∧ zB 85 144 0 5 N ∧ (((1 ≤ ze N 81 7 ∧ zmu N = 0) ∨ (ze N 81 7 = 0 ∧ 1 ≤ ze N 81 12 ∧ ze N 81 12 ≤ 6 ∧ zPm N ∧ zFin N ∧ (∃ T : zGT, T ∈ gTabs ∧ zGB T N))))))
                                        refine zw_goto (pc := 85) (tgt := 71) (by decide) d_M_reads_85 ?_
                                        exact ih_71 N57_ hb0_N57_ (show 0 ≤ ze N57_ 81 3 by first | assumption | omega) (show ze N57_ 81 3 ≤ ze N57_ 81 2 by first | assumption | omega) hp2_N57_ (show 0 ≤ ze N57_ 81 13 by first | assumption | omega) (show ze N57_ 81 13 ≤ 4 by first | assumption | omega) (show 0 ≤ ze N57_ 81 14 by first | assumption | omega) (show ze N57_ 81 14 ≤ 8 by first | assumption | omega) (show (1 ≤ ze N57_ 81 7 ∧ zmu N57_ = 0) ∨ (ze N57_ 81 7 = 0 ∧ 1 ≤ ze N57_ 81 12 ∧ ze N57_ 81 12 ≤ 6 ∧ zPm N57_ ∧ zFin N57_ ∧ (∃ T : zGT, T ∈ gTabs ∧ zGB T N57_)) from Or.inl (⟨(show 1 ≤ ze N57_ 81 7 by first | assumption | omega), (show zmu N57_ = 0 by first | assumption | omega)⟩)) (by omega)
                                      · skip
                                        have hEx_ : ∃ T : zGT, T ∈ gTabs ∧ zGB T N57_ := ⟨T, hTt, c63_⟩
                                        show zW l m_M_reads (zn Mz + 0, zw Mz + 0) N57_ 85 [some (.ref 81)] [] (zpV [3, 4, 5, 6, 7, 8, 11, 12, 13, 14, 20, 25, 26, 38, 39, 41, 42, 43] [83, 85, 86, 87, 88, 89, 90, 91, 92, 93, 94, 95, 96, 97, 100, 101, 102] Mz (fun N => 0 ≤ ze N 81 13 ∧ ze N 81 13 ≤ 4 ∧ 0 ≤ ze N 81 14 ∧ ze N 81 14 ≤ 8 ∧ zB 83 24 0 5 N ∧ zB 85 144 0 5 N ∧ (((1 ≤ ze N 81 7 ∧ zmu N = 0) ∨ (ze N 81 7 = 0 ∧ 1 ≤ ze N 81 12 ∧ ze N 81 12 ≤ 6 ∧ zPm N ∧ zFin N ∧ (∃ T : zGT, T ∈ gTabs ∧ zGB T N))))))
                                        refine zw_goto (pc := 85) (tgt := 71) (by decide) d_M_reads_85 ?_
                                        exact ih_71 N57_ hb0_N57_ (show 0 ≤ ze N57_ 81 3 by first | assumption | omega) (show ze N57_ 81 3 ≤ ze N57_ 81 2 by first | assumption | omega) hp2_N57_ (show 0 ≤ ze N57_ 81 13 by first | assumption | omega) (show ze N57_ 81 13 ≤ 4 by first | assumption | omega) (show 0 ≤ ze N57_ 81 14 by first | assumption | omega) (show ze N57_ 81 14 ≤ 8 by first | assumption | omega) (show (1 ≤ ze N57_ 81 7 ∧ zmu N57_ = 0) ∨ (ze N57_ 81 7 = 0 ∧ 1 ≤ ze N57_ 81 12 ∧ ze N57_ 81 12 ≤ 6 ∧ zPm N57_ ∧ zFin N57_ ∧ (∃ T : zGT, T ∈ gTabs ∧ zGB T N57_)) from Or.inr (⟨(show ze N57_ 81 7 = 0 by first | assumption | omega), (show 1 ≤ ze N57_ 81 12 by first | assumption | omega), (show ze N57_ 81 12 ≤ 6 by first | assumption | omega), (show zPm N57_ by first | assumption | omega), (show zFin N57_ by first | assumption | omega), (show (∃ T : zGT, T ∈ gTabs ∧ zGB T N57_) by first | assumption | omega)⟩)) (by omega)
                                  · skip
                                    show zW l m_M_reads (zn Mz + 0, zw Mz + 0) N39_ 78 [some (.ref 81)] [.int (Int32.ofInt 0)] (zpV [3, 4, 5, 6, 7, 8, 11, 12, 13, 14, 20, 25, 26, 38, 39, 41, 42, 43] [83, 85, 86, 87, 88, 89, 90, 91, 92, 93, 94, 95, 96, 97, 100, 101, 102] Mz (fun N => 0 ≤ ze N 81 13 ∧ ze N 81 13 ≤ 4 ∧ 0 ≤ ze N 81 14 ∧ ze N 81 14 ≤ 8 ∧ zB 83 24 0 5 N ∧ zB 85 144 0 5 N ∧ (((1 ≤ ze N 81 7 ∧ zmu N = 0) ∨ (ze N 81 7 = 0 ∧ 1 ≤ ze N 81 12 ∧ ze N 81 12 ≤ 6 ∧ zPm N ∧ zFin N ∧ (∃ T : zGT, T ∈ gTabs ∧ zGB T N))))))
                                    refine zr_if_eq (pc := 78) (tgt := 88) ⟨(by decide), (by decide)⟩ (by decide) d_M_reads_78 (fun hc_78 => ?_) (fun hc_78 => ?_)
                                    · skip
                                      refine zw_aload_n (pc := 88) (n := 0) (x := 81) rfl d_M_reads_88 ?_
                                      refine zr_callV (hf_N39_.w hW) hf_N39_.x (pc := 89) [] [] l_M_183 (c_M_isGood l N39_ (hf_N39_.w hW) ) rfl rfl rfl (by decide) (Nat.le_of_ble_eq_true rfl) d_M_reads_89 ?_
                                      rintro _ N65_ ⟨v66_, rfl, ⟨hv66_a, hv66_b⟩, hsN65_, hp0_N65_⟩
                                      obtain rfl := hsN65_.eq.symm
                                      replace hp0_N65_ : ((v66_ = 1 ∧ ze N39_ 81 7 = 0) ∨ (v66_ = 0 ∧ ze N39_ 81 7 ≠ 0)) := hp0_N65_
                                      rcases hp0_N65_ with ⟨rfl, ha89_0_hp0_N65_⟩ | ⟨rfl, ha89_0_hp0_N65_⟩
                                      · skip
                                        show zW l m_M_reads (zn Mz + 0, zw Mz + 0) N39_ 92 [some (.ref 81)] [.int (Int32.ofInt 1)] (zpV [3, 4, 5, 6, 7, 8, 11, 12, 13, 14, 20, 25, 26, 38, 39, 41, 42, 43] [83, 85, 86, 87, 88, 89, 90, 91, 92, 93, 94, 95, 96, 97, 100, 101, 102] Mz (fun N => 0 ≤ ze N 81 13 ∧ ze N 81 13 ≤ 4 ∧ 0 ≤ ze N 81 14 ∧ ze N 81 14 ≤ 8 ∧ zB 83 24 0 5 N ∧ zB 85 144 0 5 N ∧ (((1 ≤ ze N 81 7 ∧ zmu N = 0) ∨ (ze N 81 7 = 0 ∧ 1 ≤ ze N 81 12 ∧ ze N 81 12 ≤ 6 ∧ zPm N ∧ zFin N ∧ (∃ T : zGT, T ∈ gTabs ∧ zGB T N))))))
                                        refine zr_if_eq (pc := 92) (tgt := 107) ⟨(by decide), (by decide)⟩ (by decide) d_M_reads_92 (fun hc_92 => ?_) (fun hc_92 => ?_)
                                        · skip
                                          exact absurd hc_92 (by decide)
                                        · skip
                                          refine zw_aload_n (pc := 95) (n := 0) (x := 81) rfl d_M_reads_95 ?_
                                          refine zr_getI (hf_N39_.w hW) (pc := 96) f_M_155 rfl d_M_reads_96 ?_
                                          refine zr_if_eq (pc := 99) (tgt := 107) ⟨(ze_r N39_ 81 5).1, (ze_r N39_ 81 5).2⟩ (by decide) d_M_reads_99 (fun hc_99 => ?_) (fun hc_99 => ?_)
                                          · skip
                                            have hz0 := zmu_s N39_
                                            exact zr_vret (pc := 107) rfl hf_N39_ ⟨(show 0 ≤ ze N39_ 81 13 by first | assumption | omega), (show ze N39_ 81 13 ≤ 4 by first | assumption | omega), (show 0 ≤ ze N39_ 81 14 by first | assumption | omega), (show ze N39_ 81 14 ≤ 8 by first | assumption | omega), c49_, hB85_, (show ((1 ≤ ze N39_ 81 7 ∧ zmu N39_ = 0) ∨ (ze N39_ 81 7 = 0 ∧ 1 ≤ ze N39_ 81 12 ∧ ze N39_ 81 12 ≤ 6 ∧ zPm N39_ ∧ zFin N39_ ∧ (∃ T : zGT, T ∈ gTabs ∧ zGB T N39_))) from Or.inr (⟨(show ze N39_ 81 7 = 0 by first | assumption | omega), (show 1 ≤ ze N39_ 81 12 by first | assumption | omega), (show ze N39_ 81 12 ≤ 6 by first | assumption | omega), (show zPm N39_ by first | assumption | omega), (show zFin N39_ by first | assumption | omega), (show (∃ T : zGT, T ∈ gTabs ∧ zGB T N39_) by first | assumption | omega)⟩))⟩ d_M_reads_107
                                          · skip
                                            refine zw_aload_n (pc := 102) (n := 0) (x := 81) rfl d_M_reads_102 ?_
                                            refine zw_iconst (pc := 103) (v := Int32.ofInt 2) (by decide) d_M_reads_103 ?_
                                            refine zr_callV (hf_N39_.w hW) hf_N39_.x (pc := 104) [.int (Int32.ofInt 2)] [] l_M_190 (c_M_wrong l N39_ (hf_N39_.w hW) 2 (by decide) (by decide) (show ze N39_ 81 7 = 0 by first | assumption | omega) (show 1 ≤ 2 by first | assumption | omega)) rfl rfl rfl (by decide) (Nat.le_of_ble_eq_true rfl) d_M_reads_104 ?_
                                            rintro _ N67_ ⟨rfl, hsN67_, ⟨hp0_N67_, hp1_N67_⟩⟩
                                            have hf_N67_ : zFr [3, 4, 5, 6, 7, 8, 11, 12, 13, 14, 20, 25, 26, 38, 39, 41, 42, 43] [83, 85, 86, 87, 88, 89, 90, 91, 92, 93, 94, 95, 96, 97, 100, 101, 102] Mz N67_ := hf_N39_.tr hsN67_ (by decide) (by decide)
                                            have e2_N67_ : ze N67_ 81 2 = ze N39_ 81 2 := hsN67_.e (by decide)
                                            have e3_N67_ : ze N67_ 81 3 = ze N39_ 81 3 := hsN67_.e (by decide)
                                            have e5_N67_ : ze N67_ 81 5 = ze N39_ 81 5 := hsN67_.e (by decide)
                                            have r7_N67_ := ze_r N67_ 81 7
                                            have e12_N67_ : ze N67_ 81 12 = ze N39_ 81 12 := hsN67_.e (by decide)
                                            have e13_N67_ : ze N67_ 81 13 = ze N39_ 81 13 := hsN67_.e (by decide)
                                            have e14_N67_ : ze N67_ 81 14 = ze N39_ 81 14 := hsN67_.e (by decide)
                                            have c69_ : zB 83 24 0 5 N67_ := zB.fr hsN67_ c49_ (by decide) (by decide)
                                            have c70_ : zB 85 144 0 5 N67_ := zB.fr hsN67_ hB85_ (by decide) (by decide)
                                            have c71_ : zTv N67_ := zTv.fr hsN67_ i43_ (by decide) (by decide)
                                            have c72_ : zPm N67_ := zPm.fr hsN67_ hPm_ (by decide) (by decide)
                                            have c73_ : zFin N67_ := zFin.fr hsN67_ hFn_ (by decide) (by decide)
                                            have c74_ : zGB T N67_ := zGB.fr hsN67_ hGB (by decide) (by decide)
                                            have c75_ : zGD N67_ := zGD.fr hsN67_ hGd (by decide) (by decide)
                                            show zW l m_M_reads (zn Mz + 0, zw Mz + 0) N67_ 107 [some (.ref 81)] [] (zpV [3, 4, 5, 6, 7, 8, 11, 12, 13, 14, 20, 25, 26, 38, 39, 41, 42, 43] [83, 85, 86, 87, 88, 89, 90, 91, 92, 93, 94, 95, 96, 97, 100, 101, 102] Mz (fun N => 0 ≤ ze N 81 13 ∧ ze N 81 13 ≤ 4 ∧ 0 ≤ ze N 81 14 ∧ ze N 81 14 ≤ 8 ∧ zB 83 24 0 5 N ∧ zB 85 144 0 5 N ∧ (((1 ≤ ze N 81 7 ∧ zmu N = 0) ∨ (ze N 81 7 = 0 ∧ 1 ≤ ze N 81 12 ∧ ze N 81 12 ≤ 6 ∧ zPm N ∧ zFin N ∧ (∃ T : zGT, T ∈ gTabs ∧ zGB T N))))))
                                            have hz0 := zmu_s N67_
                                            exact zr_vret (pc := 107) rfl hf_N67_ ⟨(show 0 ≤ ze N67_ 81 13 by first | assumption | omega), (show ze N67_ 81 13 ≤ 4 by first | assumption | omega), (show 0 ≤ ze N67_ 81 14 by first | assumption | omega), (show ze N67_ 81 14 ≤ 8 by first | assumption | omega), c69_, c70_, (show ((1 ≤ ze N67_ 81 7 ∧ zmu N67_ = 0) ∨ (ze N67_ 81 7 = 0 ∧ 1 ≤ ze N67_ 81 12 ∧ ze N67_ 81 12 ≤ 6 ∧ zPm N67_ ∧ zFin N67_ ∧ (∃ T : zGT, T ∈ gTabs ∧ zGB T N67_))) from Or.inl (⟨(show 1 ≤ ze N67_ 81 7 by first | assumption | omega), (show zmu N67_ = 0 by first | assumption | omega)⟩))⟩ d_M_reads_107
                                      · skip
                                        exfalso; omega
                                    · skip
                                      exact absurd hc_78 (by decide)
                            exact lp_71 _ N23_ zFr.rf (show 0 ≤ ze N23_ 81 3 by first | assumption | omega) (show ze N23_ 81 3 ≤ ze N23_ 81 2 by first | assumption | omega) i27_ (show 0 ≤ ze N23_ 81 13 by first | assumption | omega) (show ze N23_ 81 13 ≤ 4 by first | assumption | omega) (show 0 ≤ ze N23_ 81 14 by first | assumption | omega) (show ze N23_ 81 14 ≤ 8 by first | assumption | omega) (show (1 ≤ ze N23_ 81 7 ∧ zmu N23_ = 0) ∨ (ze N23_ 81 7 = 0 ∧ 1 ≤ ze N23_ 81 12 ∧ ze N23_ 81 12 ≤ 6 ∧ zPm N23_ ∧ zFin N23_ ∧ (∃ T : zGT, T ∈ gTabs ∧ zGB T N23_)) from Or.inl (⟨(show 1 ≤ ze N23_ 81 7 by first | assumption | omega), (show zmu N23_ = 0 by first | assumption | omega)⟩)) (Nat.lt_succ_self _)
                          · skip
                            exact absurd hc_64 (by decide)
                      · skip
                        exact absurd hc_50 (by decide)
                  · skip
                    have hPm_ := (show zPm N23_ by assumption)
                    have hFn_ := (show zFin N23_ by assumption)
                    have hz_N23_ := zmu_p N23_ (by omega) (by omega)
                    refine zw_aload_n (pc := 43) (n := 0) (x := 81) rfl d_M_reads_43 ?_
                    refine zr_ldc2 (pc := 44) (n := 1836021349) (by decide) k_M_177 d_M_reads_44 ?_
                    refine zr_callV (hf_N23_.w hW) hf_N23_.x (pc := 47) [.long (Int64.ofInt 1836021349)] [] l_M_312 (c_M_isWord l N23_ (hf_N23_.w hW) 1836021349 (by decide) (by decide)) rfl rfl rfl (by decide) (Nat.le_of_ble_eq_true rfl) d_M_reads_47 ?_
                    rintro _ N76_ ⟨v77_, rfl, ⟨hv77_a, hv77_b⟩, hsN76_, hp0_N76_⟩
                    obtain rfl := hsN76_.eq.symm
                    replace hp0_N76_ : ((v77_ = 1 ∧ ze N23_ 81 7 = 0 ∧ ze N23_ 81 5 = 1) ∨ (v77_ = 0)) := hp0_N76_
                    rcases hp0_N76_ with ⟨rfl, ha47_0_hp0_N76_, ha47_1_hp0_N76_⟩ | rfl
                    · skip
                      show zW l m_M_reads (zn Mz + 0, zw Mz + 0) N23_ 50 [some (.ref 81)] [.int (Int32.ofInt 1)] (zpV [3, 4, 5, 6, 7, 8, 11, 12, 13, 14, 20, 25, 26, 38, 39, 41, 42, 43] [83, 85, 86, 87, 88, 89, 90, 91, 92, 93, 94, 95, 96, 97, 100, 101, 102] Mz (fun N => 0 ≤ ze N 81 13 ∧ ze N 81 13 ≤ 4 ∧ 0 ≤ ze N 81 14 ∧ ze N 81 14 ≤ 8 ∧ zB 83 24 0 5 N ∧ zB 85 144 0 5 N ∧ (((1 ≤ ze N 81 7 ∧ zmu N = 0) ∨ (ze N 81 7 = 0 ∧ 1 ≤ ze N 81 12 ∧ ze N 81 12 ≤ 6 ∧ zPm N ∧ zFin N ∧ (∃ T : zGT, T ∈ gTabs ∧ zGB T N))))))
                      refine zr_if_eq (pc := 50) (tgt := 60) ⟨(by decide), (by decide)⟩ (by decide) d_M_reads_50 (fun hc_50 => ?_) (fun hc_50 => ?_)
                      · skip
                        exact absurd hc_50 (by decide)
                      · skip
                        refine zw_aload_n (pc := 53) (n := 0) (x := 81) rfl d_M_reads_53 ?_
                        refine zr_callV (hf_N23_.w hW) hf_N23_.x (pc := 54) [] [] l_M_361 (c_M_moveLine l N23_ (hf_N23_.w hW) (show 0 ≤ ze N23_ 81 3 by first | assumption | omega) (show ze N23_ 81 3 ≤ ze N23_ 81 2 by first | assumption | omega) (show ze N23_ 81 2 ≤ 700 by first | assumption | omega) i27_ (show ze N23_ 81 7 = 0 by first | assumption | omega) (show ze N23_ 81 5 = 1 by first | assumption | omega) (show 1 ≤ ze N23_ 81 12 by first | assumption | omega) (show ze N23_ 81 12 ≤ 6 by first | assumption | omega) (show 0 ≤ ze N23_ 81 13 by first | assumption | omega) (show ze N23_ 81 13 ≤ 4 by first | assumption | omega) hPm_ i33_ i34_) rfl rfl rfl (by decide) (Nat.le_of_ble_eq_true rfl) d_M_reads_54 ?_
                        rintro _ N78_ ⟨rfl, hsN78_, ⟨hp0_N78_, hp1_N78_, hp2_N78_, hp3_N78_, hp4_N78_, hp5_N78_, hp6_N78_, hp7_N78_⟩⟩
                        have hf_N78_ : zFr [3, 4, 5, 6, 7, 8, 11, 12, 13, 14, 20, 25, 26, 38, 39, 41, 42, 43] [83, 85, 86, 87, 88, 89, 90, 91, 92, 93, 94, 95, 96, 97, 100, 101, 102] Mz N78_ := hf_N23_.tr hsN78_ (by decide) (by decide)
                        have hb0_N78_ : zFr [3, 4, 5, 6, 7, 8, 11, 13, 20] [83, 85, 86, 87, 88] N19_ N78_ := hs24_.tr hsN78_ (by decide) (by decide)
                        have e2_N78_ : ze N78_ 81 2 = ze N23_ 81 2 := hsN78_.e (by decide)
                        have r3_N78_ := ze_r N78_ 81 3
                        have r5_N78_ := ze_r N78_ 81 5
                        have r7_N78_ := ze_r N78_ 81 7
                        have e12_N78_ : ze N78_ 81 12 = ze N23_ 81 12 := hsN78_.e (by decide)
                        have r13_N78_ := ze_r N78_ 81 13
                        have e14_N78_ : ze N78_ 81 14 = ze N23_ 81 14 := hsN78_.e (by decide)
                        rcases hp7_N78_ with ⟨ha54_0_hp7_N78_, ha54_1_hp7_N78_⟩ | ⟨ha54_0_hp7_N78_, ha54_1_hp7_N78_, ha54_2_hp7_N78_, ha54_3_hp7_N78_⟩
                        · skip
                          show zW l m_M_reads (zn Mz + 0, zw Mz + 0) N78_ 57 [some (.ref 81)] [] (zpV [3, 4, 5, 6, 7, 8, 11, 12, 13, 14, 20, 25, 26, 38, 39, 41, 42, 43] [83, 85, 86, 87, 88, 89, 90, 91, 92, 93, 94, 95, 96, 97, 100, 101, 102] Mz (fun N => 0 ≤ ze N 81 13 ∧ ze N 81 13 ≤ 4 ∧ 0 ≤ ze N 81 14 ∧ ze N 81 14 ≤ 8 ∧ zB 83 24 0 5 N ∧ zB 85 144 0 5 N ∧ (((1 ≤ ze N 81 7 ∧ zmu N = 0) ∨ (ze N 81 7 = 0 ∧ 1 ≤ ze N 81 12 ∧ ze N 81 12 ≤ 6 ∧ zPm N ∧ zFin N ∧ (∃ T : zGT, T ∈ gTabs ∧ zGB T N))))))
                          refine zw_goto (pc := 57) (tgt := 43) (by decide) d_M_reads_57 ?_
                          exact ih_43 N78_ hb0_N78_ (show 0 ≤ ze N78_ 81 3 by first | assumption | omega) (show ze N78_ 81 3 ≤ ze N78_ 81 2 by first | assumption | omega) hp2_N78_ (show 0 ≤ ze N78_ 81 13 by first | assumption | omega) (show ze N78_ 81 13 ≤ 4 by first | assumption | omega) (show 0 ≤ ze N78_ 81 14 by first | assumption | omega) (show ze N78_ 81 14 ≤ 8 by first | assumption | omega) (show (1 ≤ ze N78_ 81 7 ∧ zmu N78_ = 0) ∨ (ze N78_ 81 7 = 0 ∧ 1 ≤ ze N78_ 81 12 ∧ ze N78_ 81 12 ≤ 6 ∧ zPm N78_ ∧ zFin N78_) from Or.inl (⟨(show 1 ≤ ze N78_ 81 7 by first | assumption | omega), (show zmu N78_ = 0 by first | assumption | omega)⟩)) hp5_N78_ hp6_N78_ (by omega)
                        · skip
                          show zW l m_M_reads (zn Mz + 0, zw Mz + 0) N78_ 57 [some (.ref 81)] [] (zpV [3, 4, 5, 6, 7, 8, 11, 12, 13, 14, 20, 25, 26, 38, 39, 41, 42, 43] [83, 85, 86, 87, 88, 89, 90, 91, 92, 93, 94, 95, 96, 97, 100, 101, 102] Mz (fun N => 0 ≤ ze N 81 13 ∧ ze N 81 13 ≤ 4 ∧ 0 ≤ ze N 81 14 ∧ ze N 81 14 ≤ 8 ∧ zB 83 24 0 5 N ∧ zB 85 144 0 5 N ∧ (((1 ≤ ze N 81 7 ∧ zmu N = 0) ∨ (ze N 81 7 = 0 ∧ 1 ≤ ze N 81 12 ∧ ze N 81 12 ≤ 6 ∧ zPm N ∧ zFin N ∧ (∃ T : zGT, T ∈ gTabs ∧ zGB T N))))))
                          refine zw_goto (pc := 57) (tgt := 43) (by decide) d_M_reads_57 ?_
                          exact ih_43 N78_ hb0_N78_ (show 0 ≤ ze N78_ 81 3 by first | assumption | omega) (show ze N78_ 81 3 ≤ ze N78_ 81 2 by first | assumption | omega) hp2_N78_ (show 0 ≤ ze N78_ 81 13 by first | assumption | omega) (show ze N78_ 81 13 ≤ 4 by first | assumption | omega) (show 0 ≤ ze N78_ 81 14 by first | assumption | omega) (show ze N78_ 81 14 ≤ 8 by first | assumption | omega) (show (1 ≤ ze N78_ 81 7 ∧ zmu N78_ = 0) ∨ (ze N78_ 81 7 = 0 ∧ 1 ≤ ze N78_ 81 12 ∧ ze N78_ 81 12 ≤ 6 ∧ zPm N78_ ∧ zFin N78_) from Or.inr (⟨(show ze N78_ 81 7 = 0 by first | assumption | omega), (show 1 ≤ ze N78_ 81 12 by first | assumption | omega), (show ze N78_ 81 12 ≤ 6 by first | assumption | omega), (show zPm N78_ by first | assumption | omega), (show zFin N78_ by first | assumption | omega)⟩)) hp5_N78_ hp6_N78_ (by omega)
                    · skip
                      show zW l m_M_reads (zn Mz + 0, zw Mz + 0) N23_ 50 [some (.ref 81)] [.int (Int32.ofInt 0)] (zpV [3, 4, 5, 6, 7, 8, 11, 12, 13, 14, 20, 25, 26, 38, 39, 41, 42, 43] [83, 85, 86, 87, 88, 89, 90, 91, 92, 93, 94, 95, 96, 97, 100, 101, 102] Mz (fun N => 0 ≤ ze N 81 13 ∧ ze N 81 13 ≤ 4 ∧ 0 ≤ ze N 81 14 ∧ ze N 81 14 ≤ 8 ∧ zB 83 24 0 5 N ∧ zB 85 144 0 5 N ∧ (((1 ≤ ze N 81 7 ∧ zmu N = 0) ∨ (ze N 81 7 = 0 ∧ 1 ≤ ze N 81 12 ∧ ze N 81 12 ≤ 6 ∧ zPm N ∧ zFin N ∧ (∃ T : zGT, T ∈ gTabs ∧ zGB T N))))))
                      refine zr_if_eq (pc := 50) (tgt := 60) ⟨(by decide), (by decide)⟩ (by decide) d_M_reads_50 (fun hc_50 => ?_) (fun hc_50 => ?_)
                      · skip
                        refine zw_aload_n (pc := 60) (n := 0) (x := 81) rfl d_M_reads_60 ?_
                        refine zr_callV (hf_N23_.w hW) hf_N23_.x (pc := 61) [] [] l_M_183 (c_M_isGood l N23_ (hf_N23_.w hW) ) rfl rfl rfl (by decide) (Nat.le_of_ble_eq_true rfl) d_M_reads_61 ?_
                        rintro _ N80_ ⟨v81_, rfl, ⟨hv81_a, hv81_b⟩, hsN80_, hp0_N80_⟩
                        obtain rfl := hsN80_.eq.symm
                        replace hp0_N80_ : ((v81_ = 1 ∧ ze N23_ 81 7 = 0) ∨ (v81_ = 0 ∧ ze N23_ 81 7 ≠ 0)) := hp0_N80_
                        rcases hp0_N80_ with ⟨rfl, ha61_0_hp0_N80_⟩ | ⟨rfl, ha61_0_hp0_N80_⟩
                        · skip
                          show zW l m_M_reads (zn Mz + 0, zw Mz + 0) N23_ 64 [some (.ref 81)] [.int (Int32.ofInt 1)] (zpV [3, 4, 5, 6, 7, 8, 11, 12, 13, 14, 20, 25, 26, 38, 39, 41, 42, 43] [83, 85, 86, 87, 88, 89, 90, 91, 92, 93, 94, 95, 96, 97, 100, 101, 102] Mz (fun N => 0 ≤ ze N 81 13 ∧ ze N 81 13 ≤ 4 ∧ 0 ≤ ze N 81 14 ∧ ze N 81 14 ≤ 8 ∧ zB 83 24 0 5 N ∧ zB 85 144 0 5 N ∧ (((1 ≤ ze N 81 7 ∧ zmu N = 0) ∨ (ze N 81 7 = 0 ∧ 1 ≤ ze N 81 12 ∧ ze N 81 12 ≤ 6 ∧ zPm N ∧ zFin N ∧ (∃ T : zGT, T ∈ gTabs ∧ zGB T N))))))
                          refine zr_if_eq (pc := 64) (tgt := 71) ⟨(by decide), (by decide)⟩ (by decide) d_M_reads_64 (fun hc_64 => ?_) (fun hc_64 => ?_)
                          · skip
                            exact absurd hc_64 (by decide)
                          · skip
                            refine zw_aload_n (pc := 67) (n := 0) (x := 81) rfl d_M_reads_67 ?_
                            refine zr_callV (hf_N23_.w hW) hf_N23_.x (pc := 68) [] [] l_M_118 (c_M_builds l N23_ (hf_N23_.w hW) (show 1 ≤ ze N23_ 81 12 by first | assumption | omega) (show ze N23_ 81 12 ≤ 6 by first | assumption | omega) (show 0 ≤ ze N23_ 81 13 by first | assumption | omega) (show ze N23_ 81 13 ≤ 4 by first | assumption | omega) hPm_ hFn_ i33_ i34_) rfl rfl rfl (by decide) (Nat.le_of_ble_eq_true rfl) d_M_reads_68 ?_
                            rintro _ N82_ ⟨rfl, hsN82_, hp0_N82_⟩
                            replace hp0_N82_ : ∃ T : zGT, T ∈ gTabs ∧ zGB T N82_ := hp0_N82_
                            have hf_N82_ : zFr [3, 4, 5, 6, 7, 8, 11, 12, 13, 14, 20, 25, 26, 38, 39, 41, 42, 43] [83, 85, 86, 87, 88, 89, 90, 91, 92, 93, 94, 95, 96, 97, 100, 101, 102] Mz N82_ := hf_N23_.tr hsN82_ (by decide) (by decide)
                            have e2_N82_ : ze N82_ 81 2 = ze N23_ 81 2 := hsN82_.e (by decide)
                            have e3_N82_ : ze N82_ 81 3 = ze N23_ 81 3 := hsN82_.e (by decide)
                            have e5_N82_ : ze N82_ 81 5 = ze N23_ 81 5 := hsN82_.e (by decide)
                            have e7_N82_ : ze N82_ 81 7 = ze N23_ 81 7 := hsN82_.e (by decide)
                            have e12_N82_ : ze N82_ 81 12 = ze N23_ 81 12 := hsN82_.e (by decide)
                            have e13_N82_ : ze N82_ 81 13 = ze N23_ 81 13 := hsN82_.e (by decide)
                            have e14_N82_ : ze N82_ 81 14 = ze N23_ 81 14 := hsN82_.e (by decide)
                            have qzmu_N82_ : zmu N82_ = zmu N23_ := zmu_f hsN82_ (by decide)
                            have c84_ : zTv N82_ := zTv.fr hsN82_ i27_ (by decide) (by decide)
                            have c85_ : zB 83 24 0 5 N82_ := zB.fr hsN82_ i33_ (by decide) (by decide)
                            have c86_ : zPm N82_ := zPm.fr hsN82_ hPm_ (by decide) (by decide)
                            have c87_ : zFin N82_ := zFin.fr hsN82_ hFn_ (by decide) (by decide)
                            show zW l m_M_reads (zn Mz + 0, zw Mz + 0) N82_ 71 [some (.ref 81)] [] (zpV [3, 4, 5, 6, 7, 8, 11, 12, 13, 14, 20, 25, 26, 38, 39, 41, 42, 43] [83, 85, 86, 87, 88, 89, 90, 91, 92, 93, 94, 95, 96, 97, 100, 101, 102] Mz (fun N => 0 ≤ ze N 81 13 ∧ ze N 81 13 ≤ 4 ∧ 0 ≤ ze N 81 14 ∧ ze N 81 14 ≤ 8 ∧ zB 83 24 0 5 N ∧ zB 85 144 0 5 N ∧ (((1 ≤ ze N 81 7 ∧ zmu N = 0) ∨ (ze N 81 7 = 0 ∧ 1 ≤ ze N 81 12 ∧ ze N 81 12 ≤ 6 ∧ zPm N ∧ zFin N ∧ (∃ T : zGT, T ∈ gTabs ∧ zGB T N))))))
                            obtain ⟨T, hTt, hGB⟩ := id hp0_N82_
                            have hB85_ : zB 85 144 0 5 N82_ := hGB.2.1
                            have hO := gTabs_ok T hTt
                            have hGd := zGB.d hO hGB
                            have lp_71 : ∀ (n : Nat) (N88_ : zMem) (hs89_ : zFr [3, 4, 5, 6, 7, 8, 11, 14, 38, 39, 41, 42, 43] [95, 96, 97, 100, 101, 102] N82_ N88_) (i90_ : 0 ≤ ze N88_ 81 3) (i91_ : ze N88_ 81 3 ≤ ze N88_ 81 2) (i92_ : zTv N88_) (i93_ : 0 ≤ ze N88_ 81 13) (i94_ : ze N88_ 81 13 ≤ 4) (i95_ : 0 ≤ ze N88_ 81 14) (i96_ : ze N88_ 81 14 ≤ 8) (i97_ : (1 ≤ ze N88_ 81 7 ∧ zmu N88_ = 0) ∨ (ze N88_ 81 7 = 0 ∧ 1 ≤ ze N88_ 81 12 ∧ ze N88_ 81 12 ≤ 6 ∧ zPm N88_ ∧ zFin N88_ ∧ (∃ T : zGT, T ∈ gTabs ∧ zGB T N88_))), (zmu N88_).toNat < n → zW l m_M_reads (zn Mz + 0, zw Mz + 0) N88_ 71 [some (.ref 81)] [] (zpV [3, 4, 5, 6, 7, 8, 11, 12, 13, 14, 20, 25, 26, 38, 39, 41, 42, 43] [83, 85, 86, 87, 88, 89, 90, 91, 92, 93, 94, 95, 96, 97, 100, 101, 102] Mz (fun N => 0 ≤ ze N 81 13 ∧ ze N 81 13 ≤ 4 ∧ 0 ≤ ze N 81 14 ∧ ze N 81 14 ≤ 8 ∧ zB 83 24 0 5 N ∧ zB 85 144 0 5 N ∧ (((1 ≤ ze N 81 7 ∧ zmu N = 0) ∨ (ze N 81 7 = 0 ∧ 1 ≤ ze N 81 12 ∧ ze N 81 12 ≤ 6 ∧ zPm N ∧ zFin N ∧ (∃ T : zGT, T ∈ gTabs ∧ zGB T N)))))) := by
                              clear hp0_N19_ hp1_N19_ hp2_N19_ hf_N19_ r3_N19_ r5_N19_ r7_N19_ c21_ c22_ ha40_0_hp3_N19_ ha40_1_hp3_N19_ hs24_ e2_N23_ e12_N23_ e14_N23_ hv77_a hv77_b hv81_a hv81_b
                              intro n
                              induction n with
                              | zero =>
                                intro N88_ hs89_ i90_ i91_ i92_ i93_ i94_ i95_ i96_ i97_ h0
                                exact absurd h0 (Nat.not_lt_zero _)
                              | succ n ih_71 =>
                                intro N88_ hs89_ i90_ i91_ i92_ i93_ i94_ i95_ i96_ i97_ hlt_71
                                have hf_N88_ : zFr [3, 4, 5, 6, 7, 8, 11, 12, 13, 14, 20, 25, 26, 38, 39, 41, 42, 43] [83, 85, 86, 87, 88, 89, 90, 91, 92, 93, 94, 95, 96, 97, 100, 101, 102] Mz N88_ := hf_N82_.tr hs89_ (by decide) (by decide)
                                have e2_N88_ : ze N88_ 81 2 = ze N82_ 81 2 := hs89_.e (by decide)
                                have r3_N88_ := ze_r N88_ 81 3
                                have r5_N88_ := ze_r N88_ 81 5
                                have r7_N88_ := ze_r N88_ 81 7
                                have e12_N88_ : ze N88_ 81 12 = ze N82_ 81 12 := hs89_.e (by decide)
                                have e13_N88_ : ze N88_ 81 13 = ze N82_ 81 13 := hs89_.e (by decide)
                                have r14_N88_ := ze_r N88_ 81 14
                                have c98_ : zB 83 24 0 5 N88_ := zB.fr hs89_ c85_ (by decide) (by decide)
                                have c99_ : zPm N88_ := zPm.fr hs89_ c86_ (by decide) (by decide)
                                have c100_ : zFin N88_ := zFin.fr hs89_ c87_ (by decide) (by decide)
                                have c101_ : zB 85 144 0 5 N88_ := zB.fr hs89_ hB85_ (by decide) (by decide)
                                have c102_ : zGB T N88_ := zGB.fr hs89_ hGB (by decide) (by decide)
                                have c103_ : zGD N88_ := zGD.fr hs89_ hGd (by decide) (by decide)
                                have zz2_N88_ : ze N88_ 81 2 = ze Mz 81 2 := hf_N88_.e (by decide)
                                rcases i97_ with ⟨hl71_0_i97_, hl71_1_i97_⟩ | ⟨hl71_0_i97_, hl71_1_i97_, hl71_2_i97_, hl71_3_i97_, hl71_4_i97_, hl71_5_i97_⟩
                                · skip
                                  refine zw_aload_n (pc := 71) (n := 0) (x := 81) rfl d_M_reads_71 ?_
                                  refine zr_ldc2 (pc := 72) (n := 7103860) (by decide) k_M_179 d_M_reads_72 ?_
                                  refine zr_callV (hf_N88_.w hW) hf_N88_.x (pc := 75) [.long (Int64.ofInt 7103860)] [] l_M_312 (c_M_isWord l N88_ (hf_N88_.w hW) 7103860 (by decide) (by decide)) rfl rfl rfl (by decide) (Nat.le_of_ble_eq_true rfl) d_M_reads_75 ?_
                                  rintro _ N104_ ⟨v105_, rfl, ⟨hv105_a, hv105_b⟩, hsN104_, hp0_N104_⟩
                                  obtain rfl := hsN104_.eq.symm
                                  replace hp0_N104_ : ((v105_ = 1 ∧ ze N88_ 81 7 = 0 ∧ ze N88_ 81 5 = 1) ∨ (v105_ = 0)) := hp0_N104_
                                  rcases hp0_N104_ with ⟨rfl, ha75_0_hp0_N104_, ha75_1_hp0_N104_⟩ | rfl
                                  · skip
                                    exfalso; omega
                                  · skip
                                    show zW l m_M_reads (zn Mz + 0, zw Mz + 0) N88_ 78 [some (.ref 81)] [.int (Int32.ofInt 0)] (zpV [3, 4, 5, 6, 7, 8, 11, 12, 13, 14, 20, 25, 26, 38, 39, 41, 42, 43] [83, 85, 86, 87, 88, 89, 90, 91, 92, 93, 94, 95, 96, 97, 100, 101, 102] Mz (fun N => 0 ≤ ze N 81 13 ∧ ze N 81 13 ≤ 4 ∧ 0 ≤ ze N 81 14 ∧ ze N 81 14 ≤ 8 ∧ zB 83 24 0 5 N ∧ zB 85 144 0 5 N ∧ (((1 ≤ ze N 81 7 ∧ zmu N = 0) ∨ (ze N 81 7 = 0 ∧ 1 ≤ ze N 81 12 ∧ ze N 81 12 ≤ 6 ∧ zPm N ∧ zFin N ∧ (∃ T : zGT, T ∈ gTabs ∧ zGB T N))))))
                                    refine zr_if_eq (pc := 78) (tgt := 88) ⟨(by decide), (by decide)⟩ (by decide) d_M_reads_78 (fun hc_78 => ?_) (fun hc_78 => ?_)
                                    · skip
                                      refine zw_aload_n (pc := 88) (n := 0) (x := 81) rfl d_M_reads_88 ?_
                                      refine zr_callV (hf_N88_.w hW) hf_N88_.x (pc := 89) [] [] l_M_183 (c_M_isGood l N88_ (hf_N88_.w hW) ) rfl rfl rfl (by decide) (Nat.le_of_ble_eq_true rfl) d_M_reads_89 ?_
                                      rintro _ N106_ ⟨v107_, rfl, ⟨hv107_a, hv107_b⟩, hsN106_, hp0_N106_⟩
                                      obtain rfl := hsN106_.eq.symm
                                      replace hp0_N106_ : ((v107_ = 1 ∧ ze N88_ 81 7 = 0) ∨ (v107_ = 0 ∧ ze N88_ 81 7 ≠ 0)) := hp0_N106_
                                      rcases hp0_N106_ with ⟨rfl, ha89_0_hp0_N106_⟩ | ⟨rfl, ha89_0_hp0_N106_⟩
                                      · skip
                                        exfalso; omega
                                      · skip
                                        show zW l m_M_reads (zn Mz + 0, zw Mz + 0) N88_ 92 [some (.ref 81)] [.int (Int32.ofInt 0)] (zpV [3, 4, 5, 6, 7, 8, 11, 12, 13, 14, 20, 25, 26, 38, 39, 41, 42, 43] [83, 85, 86, 87, 88, 89, 90, 91, 92, 93, 94, 95, 96, 97, 100, 101, 102] Mz (fun N => 0 ≤ ze N 81 13 ∧ ze N 81 13 ≤ 4 ∧ 0 ≤ ze N 81 14 ∧ ze N 81 14 ≤ 8 ∧ zB 83 24 0 5 N ∧ zB 85 144 0 5 N ∧ (((1 ≤ ze N 81 7 ∧ zmu N = 0) ∨ (ze N 81 7 = 0 ∧ 1 ≤ ze N 81 12 ∧ ze N 81 12 ≤ 6 ∧ zPm N ∧ zFin N ∧ (∃ T : zGT, T ∈ gTabs ∧ zGB T N))))))
                                        refine zr_if_eq (pc := 92) (tgt := 107) ⟨(by decide), (by decide)⟩ (by decide) d_M_reads_92 (fun hc_92 => ?_) (fun hc_92 => ?_)
                                        · skip
                                          have hz0 := zmu_s N88_
                                          exact zr_vret (pc := 107) rfl hf_N88_ ⟨(show 0 ≤ ze N88_ 81 13 by first | assumption | omega), (show ze N88_ 81 13 ≤ 4 by first | assumption | omega), (show 0 ≤ ze N88_ 81 14 by first | assumption | omega), (show ze N88_ 81 14 ≤ 8 by first | assumption | omega), c98_, c101_, (show ((1 ≤ ze N88_ 81 7 ∧ zmu N88_ = 0) ∨ (ze N88_ 81 7 = 0 ∧ 1 ≤ ze N88_ 81 12 ∧ ze N88_ 81 12 ≤ 6 ∧ zPm N88_ ∧ zFin N88_ ∧ (∃ T : zGT, T ∈ gTabs ∧ zGB T N88_))) from Or.inl (⟨(show 1 ≤ ze N88_ 81 7 by first | assumption | omega), (show zmu N88_ = 0 by first | assumption | omega)⟩))⟩ d_M_reads_107
                                        · skip
                                          exact absurd hc_92 (by decide)
                                    · skip
                                      exact absurd hc_78 (by decide)
                                · skip
                                  have hPm_ := (show zPm N88_ by assumption)
                                  have hFn_ := (show zFin N88_ by assumption)
                                  obtain ⟨T, hTt, hGB⟩ := (show ∃ T : zGT, T ∈ gTabs ∧ zGB T N88_ by assumption)
                                  have hB85_ : zB 85 144 0 5 N88_ := hGB.2.1
                                  have hO := gTabs_ok T hTt
                                  have hGd := zGB.d hO hGB
                                  have hz_N88_ := zmu_p N88_ (by omega) (by omega)
                                  refine zw_aload_n (pc := 71) (n := 0) (x := 81) rfl d_M_reads_71 ?_
                                  refine zr_ldc2 (pc := 72) (n := 7103860) (by decide) k_M_179 d_M_reads_72 ?_
                                  refine zr_callV (hf_N88_.w hW) hf_N88_.x (pc := 75) [.long (Int64.ofInt 7103860)] [] l_M_312 (c_M_isWord l N88_ (hf_N88_.w hW) 7103860 (by decide) (by decide)) rfl rfl rfl (by decide) (Nat.le_of_ble_eq_true rfl) d_M_reads_75 ?_
                                  rintro _ N108_ ⟨v109_, rfl, ⟨hv109_a, hv109_b⟩, hsN108_, hp0_N108_⟩
                                  obtain rfl := hsN108_.eq.symm
                                  replace hp0_N108_ : ((v109_ = 1 ∧ ze N88_ 81 7 = 0 ∧ ze N88_ 81 5 = 1) ∨ (v109_ = 0)) := hp0_N108_
                                  rcases hp0_N108_ with ⟨rfl, ha75_0_hp0_N108_, ha75_1_hp0_N108_⟩ | rfl
                                  · skip
                                    show zW l m_M_reads (zn Mz + 0, zw Mz + 0) N88_ 78 [some (.ref 81)] [.int (Int32.ofInt 1)] (zpV [3, 4, 5, 6, 7, 8, 11, 12, 13, 14, 20, 25, 26, 38, 39, 41, 42, 43] [83, 85, 86, 87, 88, 89, 90, 91, 92, 93, 94, 95, 96, 97, 100, 101, 102] Mz (fun N => 0 ≤ ze N 81 13 ∧ ze N 81 13 ≤ 4 ∧ 0 ≤ ze N 81 14 ∧ ze N 81 14 ≤ 8 ∧ zB 83 24 0 5 N ∧ zB 85 144 0 5 N ∧ (((1 ≤ ze N 81 7 ∧ zmu N = 0) ∨ (ze N 81 7 = 0 ∧ 1 ≤ ze N 81 12 ∧ ze N 81 12 ≤ 6 ∧ zPm N ∧ zFin N ∧ (∃ T : zGT, T ∈ gTabs ∧ zGB T N))))))
                                    refine zr_if_eq (pc := 78) (tgt := 88) ⟨(by decide), (by decide)⟩ (by decide) d_M_reads_78 (fun hc_78 => ?_) (fun hc_78 => ?_)
                                    · skip
                                      exact absurd hc_78 (by decide)
                                    · skip
                                      refine zw_aload_n (pc := 81) (n := 0) (x := 81) rfl d_M_reads_81 ?_
                                      refine zr_callV (hf_N88_.w hW) hf_N88_.x (pc := 82) [] [] l_M_364 (c_M_letLine l N88_ (hf_N88_.w hW) hGd (show 0 ≤ ze N88_ 81 3 by first | assumption | omega) (show ze N88_ 81 3 ≤ ze N88_ 81 2 by first | assumption | omega) (show ze N88_ 81 2 ≤ 700 by first | assumption | omega) i92_ (show ze N88_ 81 7 = 0 by first | assumption | omega) (show ze N88_ 81 5 = 1 by first | assumption | omega) (show 0 ≤ ze N88_ 81 14 by first | assumption | omega) (show ze N88_ 81 14 ≤ 8 by first | assumption | omega)) rfl rfl rfl (by decide) (Nat.le_of_ble_eq_true rfl) d_M_reads_82 ?_
                                      rintro _ N110_ ⟨rfl, hsN110_, ⟨hp0_N110_, hp1_N110_, hp2_N110_, hp3_N110_, hp4_N110_, hp5_N110_⟩⟩
                                      have hf_N110_ : zFr [3, 4, 5, 6, 7, 8, 11, 12, 13, 14, 20, 25, 26, 38, 39, 41, 42, 43] [83, 85, 86, 87, 88, 89, 90, 91, 92, 93, 94, 95, 96, 97, 100, 101, 102] Mz N110_ := hf_N88_.tr hsN110_ (by decide) (by decide)
                                      have hb0_N110_ : zFr [3, 4, 5, 6, 7, 8, 11, 14, 38, 39, 41, 42, 43] [95, 96, 97, 100, 101, 102] N82_ N110_ := hs89_.tr hsN110_ (by decide) (by decide)
                                      have e2_N110_ : ze N110_ 81 2 = ze N88_ 81 2 := hsN110_.e (by decide)
                                      have r3_N110_ := ze_r N110_ 81 3
                                      have r5_N110_ := ze_r N110_ 81 5
                                      have r7_N110_ := ze_r N110_ 81 7
                                      have e12_N110_ : ze N110_ 81 12 = ze N88_ 81 12 := hsN110_.e (by decide)
                                      have e13_N110_ : ze N110_ 81 13 = ze N88_ 81 13 := hsN110_.e (by decide)
                                      have r14_N110_ := ze_r N110_ 81 14
                                      have c112_ : zB 83 24 0 5 N110_ := zB.fr hsN110_ c98_ (by decide) (by decide)
                                      have c113_ : zPm N110_ := zPm.fr hsN110_ hPm_ (by decide) (by decide)
                                      have c114_ : zFin N110_ := zFin.fr hsN110_ hFn_ (by decide) (by decide)
                                      have c115_ : zB 85 144 0 5 N110_ := zB.fr hsN110_ hB85_ (by decide) (by decide)
                                      have c116_ : zGB T N110_ := zGB.fr hsN110_ hGB (by decide) (by decide)
                                      have c117_ : zGD N110_ := zGD.fr hsN110_ hGd (by decide) (by decide)
                                      rcases hp5_N110_ with ⟨ha82_0_hp5_N110_, ha82_1_hp5_N110_⟩ | ⟨ha82_0_hp5_N110_, ha82_1_hp5_N110_⟩
                                      · skip
                                        have hEx_ : ∃ T : zGT, T ∈ gTabs ∧ zGB T N110_ := ⟨T, hTt, c116_⟩
                                        show zW l m_M_reads (zn Mz + 0, zw Mz + 0) N110_ 85 [some (.ref 81)] [] (zpV [3, 4, 5, 6, 7, 8, 11, 12, 13, 14, 20, 25, 26, 38, 39, 41, 42, 43] [83, 85, 86, 87, 88, 89, 90, 91, 92, 93, 94, 95, 96, 97, 100, 101, 102] Mz (fun N => 0 ≤ ze N 81 13 ∧ ze N 81 13 ≤ 4 ∧ 0 ≤ ze N 81 14 ∧ ze N 81 14 ≤ 8 ∧ zB 83 24 0 5 N ∧ zB 85 144 0 5 N ∧ (((1 ≤ ze N 81 7 ∧ zmu N = 0) ∨ (ze N 81 7 = 0 ∧ 1 ≤ ze N 81 12 ∧ ze N 81 12 ≤ 6 ∧ zPm N ∧ zFin N ∧ (∃ T : zGT, T ∈ gTabs ∧ zGB T N))))))
                                        refine zw_goto (pc := 85) (tgt := 71) (by decide) d_M_reads_85 ?_
                                        exact ih_71 N110_ hb0_N110_ (show 0 ≤ ze N110_ 81 3 by first | assumption | omega) (show ze N110_ 81 3 ≤ ze N110_ 81 2 by first | assumption | omega) hp2_N110_ (show 0 ≤ ze N110_ 81 13 by first | assumption | omega) (show ze N110_ 81 13 ≤ 4 by first | assumption | omega) (show 0 ≤ ze N110_ 81 14 by first | assumption | omega) (show ze N110_ 81 14 ≤ 8 by first | assumption | omega) (show (1 ≤ ze N110_ 81 7 ∧ zmu N110_ = 0) ∨ (ze N110_ 81 7 = 0 ∧ 1 ≤ ze N110_ 81 12 ∧ ze N110_ 81 12 ≤ 6 ∧ zPm N110_ ∧ zFin N110_ ∧ (∃ T : zGT, T ∈ gTabs ∧ zGB T N110_)) from Or.inl (⟨(show 1 ≤ ze N110_ 81 7 by first | assumption | omega), (show zmu N110_ = 0 by first | assumption | omega)⟩)) (by omega)
                                      · skip
                                        have hEx_ : ∃ T : zGT, T ∈ gTabs ∧ zGB T N110_ := ⟨T, hTt, c116_⟩
                                        show zW l m_M_reads (zn Mz + 0, zw Mz + 0) N110_ 85 [some (.ref 81)] [] (zpV [3, 4, 5, 6, 7, 8, 11, 12, 13, 14, 20, 25, 26, 38, 39, 41, 42, 43] [83, 85, 86, 87, 88, 89, 90, 91, 92, 93, 94, 95, 96, 97, 100, 101, 102] Mz (fun N => 0 ≤ ze N 81 13 ∧ ze N 81 13 ≤ 4 ∧ 0 ≤ ze N 81 14 ∧ ze N 81 14 ≤ 8 ∧ zB 83 24 0 5 N ∧ zB 85 144 0 5 N ∧ (((1 ≤ ze N 81 7 ∧ zmu N = 0) ∨ (ze N 81 7 = 0 ∧ 1 ≤ ze N 81 12 ∧ ze N 81 12 ≤ 6 ∧ zPm N ∧ zFin N ∧ (∃ T : zGT, T ∈ gTabs ∧ zGB T N))))))
                                        refine zw_goto (pc := 85) (tgt := 71) (by decide) d_M_reads_85 ?_
                                        exact ih_71 N110_ hb0_N110_ (show 0 ≤ ze N110_ 81 3 by first | assumption | omega) (show ze N110_ 81 3 ≤ ze N110_ 81 2 by first | assumption | omega) hp2_N110_ (show 0 ≤ ze N110_ 81 13 by first | assumption | omega) (show ze N110_ 81 13 ≤ 4 by first | assumption | omega) (show 0 ≤ ze N110_ 81 14 by first | assumption | omega) (show ze N110_ 81 14 ≤ 8 by first | assumption | omega) (show (1 ≤ ze N110_ 81 7 ∧ zmu N110_ = 0) ∨ (ze N110_ 81 7 = 0 ∧ 1 ≤ ze N110_ 81 12 ∧ ze N110_ 81 12 ≤ 6 ∧ zPm N110_ ∧ zFin N110_ ∧ (∃ T : zGT, T ∈ gTabs ∧ zGB T N110_)) from Or.inr (⟨(show ze N110_ 81 7 = 0 by first | assumption | omega), (show 1 ≤ ze N110_ 81 12 by first | assumption | omega), (show ze N110_ 81 12 ≤ 6 by first | assumption | omega), (show zPm N110_ by first | assumption | omega), (show zFin N110_ by first | assumption | omega), (show (∃ T : zGT, T ∈ gTabs ∧ zGB T N110_) by first | assumption | omega)⟩)) (by omega)
                                  · skip
                                    show zW l m_M_reads (zn Mz + 0, zw Mz + 0) N88_ 78 [some (.ref 81)] [.int (Int32.ofInt 0)] (zpV [3, 4, 5, 6, 7, 8, 11, 12, 13, 14, 20, 25, 26, 38, 39, 41, 42, 43] [83, 85, 86, 87, 88, 89, 90, 91, 92, 93, 94, 95, 96, 97, 100, 101, 102] Mz (fun N => 0 ≤ ze N 81 13 ∧ ze N 81 13 ≤ 4 ∧ 0 ≤ ze N 81 14 ∧ ze N 81 14 ≤ 8 ∧ zB 83 24 0 5 N ∧ zB 85 144 0 5 N ∧ (((1 ≤ ze N 81 7 ∧ zmu N = 0) ∨ (ze N 81 7 = 0 ∧ 1 ≤ ze N 81 12 ∧ ze N 81 12 ≤ 6 ∧ zPm N ∧ zFin N ∧ (∃ T : zGT, T ∈ gTabs ∧ zGB T N))))))
                                    refine zr_if_eq (pc := 78) (tgt := 88) ⟨(by decide), (by decide)⟩ (by decide) d_M_reads_78 (fun hc_78 => ?_) (fun hc_78 => ?_)
                                    · skip
                                      refine zw_aload_n (pc := 88) (n := 0) (x := 81) rfl d_M_reads_88 ?_
                                      refine zr_callV (hf_N88_.w hW) hf_N88_.x (pc := 89) [] [] l_M_183 (c_M_isGood l N88_ (hf_N88_.w hW) ) rfl rfl rfl (by decide) (Nat.le_of_ble_eq_true rfl) d_M_reads_89 ?_
                                      rintro _ N118_ ⟨v119_, rfl, ⟨hv119_a, hv119_b⟩, hsN118_, hp0_N118_⟩
                                      obtain rfl := hsN118_.eq.symm
                                      replace hp0_N118_ : ((v119_ = 1 ∧ ze N88_ 81 7 = 0) ∨ (v119_ = 0 ∧ ze N88_ 81 7 ≠ 0)) := hp0_N118_
                                      rcases hp0_N118_ with ⟨rfl, ha89_0_hp0_N118_⟩ | ⟨rfl, ha89_0_hp0_N118_⟩
                                      · skip
                                        show zW l m_M_reads (zn Mz + 0, zw Mz + 0) N88_ 92 [some (.ref 81)] [.int (Int32.ofInt 1)] (zpV [3, 4, 5, 6, 7, 8, 11, 12, 13, 14, 20, 25, 26, 38, 39, 41, 42, 43] [83, 85, 86, 87, 88, 89, 90, 91, 92, 93, 94, 95, 96, 97, 100, 101, 102] Mz (fun N => 0 ≤ ze N 81 13 ∧ ze N 81 13 ≤ 4 ∧ 0 ≤ ze N 81 14 ∧ ze N 81 14 ≤ 8 ∧ zB 83 24 0 5 N ∧ zB 85 144 0 5 N ∧ (((1 ≤ ze N 81 7 ∧ zmu N = 0) ∨ (ze N 81 7 = 0 ∧ 1 ≤ ze N 81 12 ∧ ze N 81 12 ≤ 6 ∧ zPm N ∧ zFin N ∧ (∃ T : zGT, T ∈ gTabs ∧ zGB T N))))))
                                        refine zr_if_eq (pc := 92) (tgt := 107) ⟨(by decide), (by decide)⟩ (by decide) d_M_reads_92 (fun hc_92 => ?_) (fun hc_92 => ?_)
                                        · skip
                                          exact absurd hc_92 (by decide)
                                        · skip
                                          refine zw_aload_n (pc := 95) (n := 0) (x := 81) rfl d_M_reads_95 ?_
                                          refine zr_getI (hf_N88_.w hW) (pc := 96) f_M_155 rfl d_M_reads_96 ?_
                                          refine zr_if_eq (pc := 99) (tgt := 107) ⟨(ze_r N88_ 81 5).1, (ze_r N88_ 81 5).2⟩ (by decide) d_M_reads_99 (fun hc_99 => ?_) (fun hc_99 => ?_)
                                          · skip
                                            have hz0 := zmu_s N88_
                                            exact zr_vret (pc := 107) rfl hf_N88_ ⟨(show 0 ≤ ze N88_ 81 13 by first | assumption | omega), (show ze N88_ 81 13 ≤ 4 by first | assumption | omega), (show 0 ≤ ze N88_ 81 14 by first | assumption | omega), (show ze N88_ 81 14 ≤ 8 by first | assumption | omega), c98_, hB85_, (show ((1 ≤ ze N88_ 81 7 ∧ zmu N88_ = 0) ∨ (ze N88_ 81 7 = 0 ∧ 1 ≤ ze N88_ 81 12 ∧ ze N88_ 81 12 ≤ 6 ∧ zPm N88_ ∧ zFin N88_ ∧ (∃ T : zGT, T ∈ gTabs ∧ zGB T N88_))) from Or.inr (⟨(show ze N88_ 81 7 = 0 by first | assumption | omega), (show 1 ≤ ze N88_ 81 12 by first | assumption | omega), (show ze N88_ 81 12 ≤ 6 by first | assumption | omega), (show zPm N88_ by first | assumption | omega), (show zFin N88_ by first | assumption | omega), (show (∃ T : zGT, T ∈ gTabs ∧ zGB T N88_) by first | assumption | omega)⟩))⟩ d_M_reads_107
                                          · skip
                                            refine zw_aload_n (pc := 102) (n := 0) (x := 81) rfl d_M_reads_102 ?_
                                            refine zw_iconst (pc := 103) (v := Int32.ofInt 2) (by decide) d_M_reads_103 ?_
                                            refine zr_callV (hf_N88_.w hW) hf_N88_.x (pc := 104) [.int (Int32.ofInt 2)] [] l_M_190 (c_M_wrong l N88_ (hf_N88_.w hW) 2 (by decide) (by decide) (show ze N88_ 81 7 = 0 by first | assumption | omega) (show 1 ≤ 2 by first | assumption | omega)) rfl rfl rfl (by decide) (Nat.le_of_ble_eq_true rfl) d_M_reads_104 ?_
                                            rintro _ N120_ ⟨rfl, hsN120_, ⟨hp0_N120_, hp1_N120_⟩⟩
                                            have hf_N120_ : zFr [3, 4, 5, 6, 7, 8, 11, 12, 13, 14, 20, 25, 26, 38, 39, 41, 42, 43] [83, 85, 86, 87, 88, 89, 90, 91, 92, 93, 94, 95, 96, 97, 100, 101, 102] Mz N120_ := hf_N88_.tr hsN120_ (by decide) (by decide)
                                            have e2_N120_ : ze N120_ 81 2 = ze N88_ 81 2 := hsN120_.e (by decide)
                                            have e3_N120_ : ze N120_ 81 3 = ze N88_ 81 3 := hsN120_.e (by decide)
                                            have e5_N120_ : ze N120_ 81 5 = ze N88_ 81 5 := hsN120_.e (by decide)
                                            have r7_N120_ := ze_r N120_ 81 7
                                            have e12_N120_ : ze N120_ 81 12 = ze N88_ 81 12 := hsN120_.e (by decide)
                                            have e13_N120_ : ze N120_ 81 13 = ze N88_ 81 13 := hsN120_.e (by decide)
                                            have e14_N120_ : ze N120_ 81 14 = ze N88_ 81 14 := hsN120_.e (by decide)
                                            have c122_ : zB 83 24 0 5 N120_ := zB.fr hsN120_ c98_ (by decide) (by decide)
                                            have c123_ : zPm N120_ := zPm.fr hsN120_ hPm_ (by decide) (by decide)
                                            have c124_ : zFin N120_ := zFin.fr hsN120_ hFn_ (by decide) (by decide)
                                            have c125_ : zB 85 144 0 5 N120_ := zB.fr hsN120_ hB85_ (by decide) (by decide)
                                            have c126_ : zGB T N120_ := zGB.fr hsN120_ hGB (by decide) (by decide)
                                            have c127_ : zGD N120_ := zGD.fr hsN120_ hGd (by decide) (by decide)
                                            have c128_ : zTv N120_ := zTv.fr hsN120_ i92_ (by decide) (by decide)
                                            show zW l m_M_reads (zn Mz + 0, zw Mz + 0) N120_ 107 [some (.ref 81)] [] (zpV [3, 4, 5, 6, 7, 8, 11, 12, 13, 14, 20, 25, 26, 38, 39, 41, 42, 43] [83, 85, 86, 87, 88, 89, 90, 91, 92, 93, 94, 95, 96, 97, 100, 101, 102] Mz (fun N => 0 ≤ ze N 81 13 ∧ ze N 81 13 ≤ 4 ∧ 0 ≤ ze N 81 14 ∧ ze N 81 14 ≤ 8 ∧ zB 83 24 0 5 N ∧ zB 85 144 0 5 N ∧ (((1 ≤ ze N 81 7 ∧ zmu N = 0) ∨ (ze N 81 7 = 0 ∧ 1 ≤ ze N 81 12 ∧ ze N 81 12 ≤ 6 ∧ zPm N ∧ zFin N ∧ (∃ T : zGT, T ∈ gTabs ∧ zGB T N))))))
                                            have hz0 := zmu_s N120_
                                            exact zr_vret (pc := 107) rfl hf_N120_ ⟨(show 0 ≤ ze N120_ 81 13 by first | assumption | omega), (show ze N120_ 81 13 ≤ 4 by first | assumption | omega), (show 0 ≤ ze N120_ 81 14 by first | assumption | omega), (show ze N120_ 81 14 ≤ 8 by first | assumption | omega), c122_, c125_, (show ((1 ≤ ze N120_ 81 7 ∧ zmu N120_ = 0) ∨ (ze N120_ 81 7 = 0 ∧ 1 ≤ ze N120_ 81 12 ∧ ze N120_ 81 12 ≤ 6 ∧ zPm N120_ ∧ zFin N120_ ∧ (∃ T : zGT, T ∈ gTabs ∧ zGB T N120_))) from Or.inl (⟨(show 1 ≤ ze N120_ 81 7 by first | assumption | omega), (show zmu N120_ = 0 by first | assumption | omega)⟩))⟩ d_M_reads_107
                                      · skip
                                        exfalso; omega
                                    · skip
                                      exact absurd hc_78 (by decide)
                            exact lp_71 _ N82_ zFr.rf (show 0 ≤ ze N82_ 81 3 by first | assumption | omega) (show ze N82_ 81 3 ≤ ze N82_ 81 2 by first | assumption | omega) c84_ (show 0 ≤ ze N82_ 81 13 by first | assumption | omega) (show ze N82_ 81 13 ≤ 4 by first | assumption | omega) (show 0 ≤ ze N82_ 81 14 by first | assumption | omega) (show ze N82_ 81 14 ≤ 8 by first | assumption | omega) (show (1 ≤ ze N82_ 81 7 ∧ zmu N82_ = 0) ∨ (ze N82_ 81 7 = 0 ∧ 1 ≤ ze N82_ 81 12 ∧ ze N82_ 81 12 ≤ 6 ∧ zPm N82_ ∧ zFin N82_ ∧ (∃ T : zGT, T ∈ gTabs ∧ zGB T N82_)) from Or.inr (⟨(show ze N82_ 81 7 = 0 by first | assumption | omega), (show 1 ≤ ze N82_ 81 12 by first | assumption | omega), (show ze N82_ 81 12 ≤ 6 by first | assumption | omega), (show zPm N82_ by first | assumption | omega), (show zFin N82_ by first | assumption | omega), (show (∃ T : zGT, T ∈ gTabs ∧ zGB T N82_) by first | assumption | omega)⟩)) (Nat.lt_succ_self _)
                        · skip
                          exfalso; omega
                      · skip
                        exact absurd hc_50 (by decide)
              exact lp_43 _ N19_ zFr.rf (show 0 ≤ ze N19_ 81 3 by first | assumption | omega) (show ze N19_ 81 3 ≤ ze N19_ 81 2 by first | assumption | omega) hp2_N19_ (show 0 ≤ ze N19_ 81 13 by first | assumption | omega) (show ze N19_ 81 13 ≤ 4 by first | assumption | omega) (show 0 ≤ ze N19_ 81 14 by first | assumption | omega) (show ze N19_ 81 14 ≤ 8 by first | assumption | omega) (show (1 ≤ ze N19_ 81 7 ∧ zmu N19_ = 0) ∨ (ze N19_ 81 7 = 0 ∧ 1 ≤ ze N19_ 81 12 ∧ ze N19_ 81 12 ≤ 6 ∧ zPm N19_ ∧ zFin N19_) from Or.inl (⟨(show 1 ≤ ze N19_ 81 7 by first | assumption | omega | exact zPm_0 (by omega) | exact zFin_0 (by omega)), (show zmu N19_ = 0 by first | assumption | omega | exact zPm_0 (by omega) | exact zFin_0 (by omega))⟩)) c21_ c22_ (Nat.lt_succ_self _)
            · skip
              exfalso; omega
          · skip
            exfalso; omega
        · skip
          exact absurd hc_19 (by decide)
    · skip
      refine zw_aload_n (pc := 15) (n := 0) (x := 81) rfl d_M_reads_15 ?_
      refine zr_callV (hf_N1_.w hW) hf_N1_.x (pc := 16) [] [] l_M_183 (c_M_isGood l N1_ (hf_N1_.w hW) ) rfl rfl rfl (by decide) (Nat.le_of_ble_eq_true rfl) d_M_reads_16 ?_
      rintro _ N129_ ⟨v130_, rfl, ⟨hv130_a, hv130_b⟩, hsN129_, hp0_N129_⟩
      obtain rfl := hsN129_.eq.symm
      replace hp0_N129_ : ((v130_ = 1 ∧ ze N1_ 81 7 = 0) ∨ (v130_ = 0 ∧ ze N1_ 81 7 ≠ 0)) := hp0_N129_
      rcases hp0_N129_ with ⟨rfl, ha16_0_hp0_N129_⟩ | ⟨rfl, ha16_0_hp0_N129_⟩
      · skip
        show zW l m_M_reads (zn Mz + 0, zw Mz + 0) N1_ 19 [some (.ref 81)] [.int (Int32.ofInt 1)] (zpV [3, 4, 5, 6, 7, 8, 11, 12, 13, 14, 20, 25, 26, 38, 39, 41, 42, 43] [83, 85, 86, 87, 88, 89, 90, 91, 92, 93, 94, 95, 96, 97, 100, 101, 102] Mz (fun N => 0 ≤ ze N 81 13 ∧ ze N 81 13 ≤ 4 ∧ 0 ≤ ze N 81 14 ∧ ze N 81 14 ≤ 8 ∧ zB 83 24 0 5 N ∧ zB 85 144 0 5 N ∧ (((1 ≤ ze N 81 7 ∧ zmu N = 0) ∨ (ze N 81 7 = 0 ∧ 1 ≤ ze N 81 12 ∧ ze N 81 12 ≤ 6 ∧ zPm N ∧ zFin N ∧ (∃ T : zGT, T ∈ gTabs ∧ zGB T N))))))
        refine zr_if_eq (pc := 19) (tgt := 26) ⟨(by decide), (by decide)⟩ (by decide) d_M_reads_19 (fun hc_19 => ?_) (fun hc_19 => ?_)
        · skip
          exact absurd hc_19 (by decide)
        · skip
          refine zw_aload_n (pc := 22) (n := 0) (x := 81) rfl d_M_reads_22 ?_
          refine zr_callV (hf_N1_.w hW) hf_N1_.x (pc := 23) [] [] l_M_193 (c_M_goOn l N1_ (hf_N1_.w hW) (show 0 ≤ ze N1_ 81 3 by first | assumption | omega) (show ze N1_ 81 3 ≤ ze N1_ 81 2 by first | assumption | omega) (show ze N1_ 81 2 ≤ 700 by first | assumption | omega) (show ze N1_ 81 5 ≠ 0 by first | assumption | omega) (show ze N1_ 81 7 = 0 by first | assumption | omega)) rfl rfl rfl (by decide) (Nat.le_of_ble_eq_true rfl) d_M_reads_23 ?_
          rintro _ N131_ ⟨rfl, hsN131_, ⟨hp0_N131_, hp1_N131_, hp2_N131_, hp3_N131_, hp4_N131_⟩⟩
          have hf_N131_ : zFr [3, 4, 5, 6, 7, 8, 11, 12, 13, 14, 20, 25, 26, 38, 39, 41, 42, 43] [83, 85, 86, 87, 88, 89, 90, 91, 92, 93, 94, 95, 96, 97, 100, 101, 102] Mz N131_ := hf_N1_.tr hsN131_ (by decide) (by decide)
          have e2_N131_ : ze N131_ 81 2 = ze N1_ 81 2 := hsN131_.e (by decide)
          have r3_N131_ := ze_r N131_ 81 3
          have r5_N131_ := ze_r N131_ 81 5
          have e7_N131_ : ze N131_ 81 7 = ze N1_ 81 7 := hsN131_.e (by decide)
          have e12_N131_ : ze N131_ 81 12 = ze N1_ 81 12 := hsN131_.e (by decide)
          have e13_N131_ : ze N131_ 81 13 = ze N1_ 81 13 := hsN131_.e (by decide)
          have e14_N131_ : ze N131_ 81 14 = ze N1_ 81 14 := hsN131_.e (by decide)
          have c133_ : zB 83 24 0 5 N131_ := zB.fr hsN131_ c7_ (by decide) (by decide)
          have c134_ : zB 85 144 0 5 N131_ := zB.fr hsN131_ c8_ (by decide) (by decide)
          show zW l m_M_reads (zn Mz + 0, zw Mz + 0) N131_ 26 [some (.ref 81)] [] (zpV [3, 4, 5, 6, 7, 8, 11, 12, 13, 14, 20, 25, 26, 38, 39, 41, 42, 43] [83, 85, 86, 87, 88, 89, 90, 91, 92, 93, 94, 95, 96, 97, 100, 101, 102] Mz (fun N => 0 ≤ ze N 81 13 ∧ ze N 81 13 ≤ 4 ∧ 0 ≤ ze N 81 14 ∧ ze N 81 14 ≤ 8 ∧ zB 83 24 0 5 N ∧ zB 85 144 0 5 N ∧ (((1 ≤ ze N 81 7 ∧ zmu N = 0) ∨ (ze N 81 7 = 0 ∧ 1 ≤ ze N 81 12 ∧ ze N 81 12 ≤ 6 ∧ zPm N ∧ zFin N ∧ (∃ T : zGT, T ∈ gTabs ∧ zGB T N))))))
          refine zw_aload_n (pc := 26) (n := 0) (x := 81) rfl d_M_reads_26 ?_
          refine zw_aload_n (pc := 27) (n := 0) (x := 81) rfl d_M_reads_27 ?_
          refine zw_iconst (pc := 28) (v := Int32.ofInt 1) (by decide) d_M_reads_28 ?_
          refine zw_bipush (pc := 29) (v := Int32.ofInt 6) (by decide) d_M_reads_29 ?_
          refine zr_callV (hf_N131_.w hW) hf_N131_.x (pc := 31) [.int (Int32.ofInt 1), .int (Int32.ofInt 6)] [.ref 81] l_M_322 (c_M_number l N131_ (hf_N131_.w hW) 1 (by decide) (by decide) 6 (by decide) (by decide) (show 0 ≤ ze N131_ 81 3 by first | assumption | omega) (show ze N131_ 81 3 ≤ ze N131_ 81 2 by first | assumption | omega) (show ze N131_ 81 2 ≤ 700 by first | assumption | omega) hp2_N131_ (show 0 ≤ ze N131_ 81 7 by first | assumption | omega)) rfl rfl rfl (by decide) (Nat.le_of_ble_eq_true rfl) d_M_reads_31 ?_
          rintro _ N135_ ⟨v136_, rfl, ⟨hv136_a, hv136_b⟩, hsN135_, ⟨hp0_N135_, hp1_N135_, hp2_N135_, hp3_N135_⟩⟩
          have hf_N135_ : zFr [3, 4, 5, 6, 7, 8, 11, 12, 13, 14, 20, 25, 26, 38, 39, 41, 42, 43] [83, 85, 86, 87, 88, 89, 90, 91, 92, 93, 94, 95, 96, 97, 100, 101, 102] Mz N135_ := hf_N131_.tr hsN135_ (by decide) (by decide)
          have e2_N135_ : ze N135_ 81 2 = ze N131_ 81 2 := hsN135_.e (by decide)
          have r3_N135_ := ze_r N135_ 81 3
          have r5_N135_ := ze_r N135_ 81 5
          have r7_N135_ := ze_r N135_ 81 7
          have e12_N135_ : ze N135_ 81 12 = ze N131_ 81 12 := hsN135_.e (by decide)
          have e13_N135_ : ze N135_ 81 13 = ze N131_ 81 13 := hsN135_.e (by decide)
          have e14_N135_ : ze N135_ 81 14 = ze N131_ 81 14 := hsN135_.e (by decide)
          have c137_ : zB 83 24 0 5 N135_ := zB.fr hsN135_ c133_ (by decide) (by decide)
          have c138_ : zB 85 144 0 5 N135_ := zB.fr hsN135_ c134_ (by decide) (by decide)
          rcases hp3_N135_ with ⟨ha31_0_hp3_N135_, ha31_1_hp3_N135_⟩ | ⟨ha31_0_hp3_N135_, ha31_1_hp3_N135_, ha31_2_hp3_N135_, ha31_3_hp3_N135_, ha31_4_hp3_N135_⟩
          · skip
            show zW l m_M_reads (zn Mz + 0, zw Mz + 0) N135_ 34 [some (.ref 81)] [.int (Int32.ofInt v136_), .ref 81] (zpV [3, 4, 5, 6, 7, 8, 11, 12, 13, 14, 20, 25, 26, 38, 39, 41, 42, 43] [83, 85, 86, 87, 88, 89, 90, 91, 92, 93, 94, 95, 96, 97, 100, 101, 102] Mz (fun N => 0 ≤ ze N 81 13 ∧ ze N 81 13 ≤ 4 ∧ 0 ≤ ze N 81 14 ∧ ze N 81 14 ≤ 8 ∧ zB 83 24 0 5 N ∧ zB 85 144 0 5 N ∧ (((1 ≤ ze N 81 7 ∧ zmu N = 0) ∨ (ze N 81 7 = 0 ∧ 1 ≤ ze N 81 12 ∧ ze N 81 12 ≤ 6 ∧ zPm N ∧ zFin N ∧ (∃ T : zGT, T ∈ gTabs ∧ zGB T N))))))
            refine zr_putI (hf_N135_.w hW) (pc := 34) f_M_115 rfl rfl ⟨by omega, by omega⟩ rfl rfl d_M_reads_34 (fun N139_ hsN139_ hvN139_ => ?_)
            have hf_N139_ : zFr [3, 4, 5, 6, 7, 8, 11, 12, 13, 14, 20, 25, 26, 38, 39, 41, 42, 43] [83, 85, 86, 87, 88, 89, 90, 91, 92, 93, 94, 95, 96, 97, 100, 101, 102] Mz N139_ := hf_N135_.tr hsN139_ (by decide) (by decide)
            have e2_N139_ : ze N139_ 81 2 = ze N135_ 81 2 := hsN139_.e (by decide)
            have e3_N139_ : ze N139_ 81 3 = ze N135_ 81 3 := hsN139_.e (by decide)
            have e5_N139_ : ze N139_ 81 5 = ze N135_ 81 5 := hsN139_.e (by decide)
            have e7_N139_ : ze N139_ 81 7 = ze N135_ 81 7 := hsN139_.e (by decide)
            have r12_N139_ := ze_r N139_ 81 12
            have e13_N139_ : ze N139_ 81 13 = ze N135_ 81 13 := hsN139_.e (by decide)
            have e14_N139_ : ze N139_ 81 14 = ze N135_ 81 14 := hsN139_.e (by decide)
            have qzmu_N139_ : zmu N139_ = zmu N135_ := zmu_f hsN139_ (by decide)
            have c140_ : zB 83 24 0 5 N139_ := zB.fr hsN139_ c137_ (by decide) (by decide)
            have c141_ : zB 85 144 0 5 N139_ := zB.fr hsN139_ c138_ (by decide) (by decide)
            have c142_ : zTv N139_ := zTv.fr hsN139_ hp2_N135_ (by decide) (by decide)
            refine zw_aload_n (pc := 37) (n := 0) (x := 81) rfl d_M_reads_37 ?_
            refine zw_bipush (pc := 38) (v := Int32.ofInt 59) (by decide) d_M_reads_38 ?_
            refine zr_callV (hf_N139_.w hW) hf_N139_.x (pc := 40) [.int (Int32.ofInt 59)] [] l_M_355 (c_M_must l N139_ (hf_N139_.w hW) 59 (by decide) (by decide) (show 0 ≤ ze N139_ 81 3 by first | assumption | omega) (show ze N139_ 81 3 ≤ ze N139_ 81 2 by first | assumption | omega) (show ze N139_ 81 2 ≤ 700 by first | assumption | omega) c142_ (show 0 ≤ ze N139_ 81 7 by first | assumption | omega)) rfl rfl rfl (by decide) (Nat.le_of_ble_eq_true rfl) d_M_reads_40 ?_
            rintro _ N143_ ⟨rfl, hsN143_, ⟨hp0_N143_, hp1_N143_, hp2_N143_, hp3_N143_⟩⟩
            have hf_N143_ : zFr [3, 4, 5, 6, 7, 8, 11, 12, 13, 14, 20, 25, 26, 38, 39, 41, 42, 43] [83, 85, 86, 87, 88, 89, 90, 91, 92, 93, 94, 95, 96, 97, 100, 101, 102] Mz N143_ := hf_N139_.tr hsN143_ (by decide) (by decide)
            have e2_N143_ : ze N143_ 81 2 = ze N139_ 81 2 := hsN143_.e (by decide)
            have r3_N143_ := ze_r N143_ 81 3
            have r5_N143_ := ze_r N143_ 81 5
            have r7_N143_ := ze_r N143_ 81 7
            have e12_N143_ : ze N143_ 81 12 = ze N139_ 81 12 := hsN143_.e (by decide)
            have e13_N143_ : ze N143_ 81 13 = ze N139_ 81 13 := hsN143_.e (by decide)
            have e14_N143_ : ze N143_ 81 14 = ze N139_ 81 14 := hsN143_.e (by decide)
            have c145_ : zB 83 24 0 5 N143_ := zB.fr hsN143_ c140_ (by decide) (by decide)
            have c146_ : zB 85 144 0 5 N143_ := zB.fr hsN143_ c141_ (by decide) (by decide)
            rcases hp3_N143_ with ⟨ha40_0_hp3_N143_, ha40_1_hp3_N143_⟩ | ⟨ha40_0_hp3_N143_, ha40_1_hp3_N143_, ha40_2_hp3_N143_⟩
            · skip
              show zW l m_M_reads (zn Mz + 0, zw Mz + 0) N143_ 43 [some (.ref 81)] [] (zpV [3, 4, 5, 6, 7, 8, 11, 12, 13, 14, 20, 25, 26, 38, 39, 41, 42, 43] [83, 85, 86, 87, 88, 89, 90, 91, 92, 93, 94, 95, 96, 97, 100, 101, 102] Mz (fun N => 0 ≤ ze N 81 13 ∧ ze N 81 13 ≤ 4 ∧ 0 ≤ ze N 81 14 ∧ ze N 81 14 ≤ 8 ∧ zB 83 24 0 5 N ∧ zB 85 144 0 5 N ∧ (((1 ≤ ze N 81 7 ∧ zmu N = 0) ∨ (ze N 81 7 = 0 ∧ 1 ≤ ze N 81 12 ∧ ze N 81 12 ≤ 6 ∧ zPm N ∧ zFin N ∧ (∃ T : zGT, T ∈ gTabs ∧ zGB T N))))))
              have lp_43 : ∀ (n : Nat) (N147_ : zMem) (hs148_ : zFr [3, 4, 5, 6, 7, 8, 11, 13, 20] [83, 85, 86, 87, 88] N143_ N147_) (i149_ : 0 ≤ ze N147_ 81 3) (i150_ : ze N147_ 81 3 ≤ ze N147_ 81 2) (i151_ : zTv N147_) (i152_ : 0 ≤ ze N147_ 81 13) (i153_ : ze N147_ 81 13 ≤ 4) (i154_ : 0 ≤ ze N147_ 81 14) (i155_ : ze N147_ 81 14 ≤ 8) (i156_ : (1 ≤ ze N147_ 81 7 ∧ zmu N147_ = 0) ∨ (ze N147_ 81 7 = 0 ∧ 1 ≤ ze N147_ 81 12 ∧ ze N147_ 81 12 ≤ 6 ∧ zPm N147_ ∧ zFin N147_)) (i157_ : zB 83 24 0 5 N147_) (i158_ : zB 85 144 0 5 N147_), (zmu N147_).toNat < n → zW l m_M_reads (zn Mz + 0, zw Mz + 0) N147_ 43 [some (.ref 81)] [] (zpV [3, 4, 5, 6, 7, 8, 11, 12, 13, 14, 20, 25, 26, 38, 39, 41, 42, 43] [83, 85, 86, 87, 88, 89, 90, 91, 92, 93, 94, 95, 96, 97, 100, 101, 102] Mz (fun N => 0 ≤ ze N 81 13 ∧ ze N 81 13 ≤ 4 ∧ 0 ≤ ze N 81 14 ∧ ze N 81 14 ≤ 8 ∧ zB 83 24 0 5 N ∧ zB 85 144 0 5 N ∧ (((1 ≤ ze N 81 7 ∧ zmu N = 0) ∨ (ze N 81 7 = 0 ∧ 1 ≤ ze N 81 12 ∧ ze N 81 12 ≤ 6 ∧ zPm N ∧ zFin N ∧ (∃ T : zGT, T ∈ gTabs ∧ zGB T N)))))) := by
                clear hs2_ i3_ i4_ i5_ hf_N1_ e2_N1_ e3_N1_ e5_N1_ r7_N1_ e12_N1_ e13_N1_ e14_N1_ c7_ c8_ zz2_N1_ hl15_0_i6_ hl15_1_i6_ hv130_a hv130_b ha16_0_hp0_N129_ hsN131_ hp0_N131_ hp1_N131_ hp2_N131_ hp3_N131_ hp4_N131_ hf_N131_ e2_N131_ r3_N131_ r5_N131_ e7_N131_ e12_N131_ e13_N131_ e14_N131_ c133_ c134_ hsN135_ hv136_a hv136_b hp0_N135_ hp1_N135_ hp2_N135_ hf_N135_ e2_N135_ r3_N135_ r5_N135_ r7_N135_ e12_N135_ e13_N135_ e14_N135_ c137_ c138_ ha31_0_hp3_N135_ ha31_1_hp3_N135_ hsN139_ hvN139_ hf_N139_ e2_N139_ e3_N139_ e5_N139_ e7_N139_ r12_N139_ e13_N139_ e14_N139_ qzmu_N139_ c140_ c141_ c142_ hsN143_ e2_N143_ e12_N143_ e13_N143_ e14_N143_
                intro n
                induction n with
                | zero =>
                  intro N147_ hs148_ i149_ i150_ i151_ i152_ i153_ i154_ i155_ i156_ i157_ i158_ h0
                  exact absurd h0 (Nat.not_lt_zero _)
                | succ n ih_43 =>
                  intro N147_ hs148_ i149_ i150_ i151_ i152_ i153_ i154_ i155_ i156_ i157_ i158_ hlt_43
                  have hf_N147_ : zFr [3, 4, 5, 6, 7, 8, 11, 12, 13, 14, 20, 25, 26, 38, 39, 41, 42, 43] [83, 85, 86, 87, 88, 89, 90, 91, 92, 93, 94, 95, 96, 97, 100, 101, 102] Mz N147_ := hf_N143_.tr hs148_ (by decide) (by decide)
                  have e2_N147_ : ze N147_ 81 2 = ze N143_ 81 2 := hs148_.e (by decide)
                  have r3_N147_ := ze_r N147_ 81 3
                  have r5_N147_ := ze_r N147_ 81 5
                  have r7_N147_ := ze_r N147_ 81 7
                  have e12_N147_ : ze N147_ 81 12 = ze N143_ 81 12 := hs148_.e (by decide)
                  have r13_N147_ := ze_r N147_ 81 13
                  have e14_N147_ : ze N147_ 81 14 = ze N143_ 81 14 := hs148_.e (by decide)
                  have zz2_N147_ : ze N147_ 81 2 = ze Mz 81 2 := hf_N147_.e (by decide)
                  rcases i156_ with ⟨hl43_0_i156_, hl43_1_i156_⟩ | ⟨hl43_0_i156_, hl43_1_i156_, hl43_2_i156_, hl43_3_i156_, hl43_4_i156_⟩
                  · skip
                    refine zw_aload_n (pc := 43) (n := 0) (x := 81) rfl d_M_reads_43 ?_
                    refine zr_ldc2 (pc := 44) (n := 1836021349) (by decide) k_M_177 d_M_reads_44 ?_
                    refine zr_callV (hf_N147_.w hW) hf_N147_.x (pc := 47) [.long (Int64.ofInt 1836021349)] [] l_M_312 (c_M_isWord l N147_ (hf_N147_.w hW) 1836021349 (by decide) (by decide)) rfl rfl rfl (by decide) (Nat.le_of_ble_eq_true rfl) d_M_reads_47 ?_
                    rintro _ N159_ ⟨v160_, rfl, ⟨hv160_a, hv160_b⟩, hsN159_, hp0_N159_⟩
                    obtain rfl := hsN159_.eq.symm
                    replace hp0_N159_ : ((v160_ = 1 ∧ ze N147_ 81 7 = 0 ∧ ze N147_ 81 5 = 1) ∨ (v160_ = 0)) := hp0_N159_
                    rcases hp0_N159_ with ⟨rfl, ha47_0_hp0_N159_, ha47_1_hp0_N159_⟩ | rfl
                    · skip
                      exfalso; omega
                    · skip
                      show zW l m_M_reads (zn Mz + 0, zw Mz + 0) N147_ 50 [some (.ref 81)] [.int (Int32.ofInt 0)] (zpV [3, 4, 5, 6, 7, 8, 11, 12, 13, 14, 20, 25, 26, 38, 39, 41, 42, 43] [83, 85, 86, 87, 88, 89, 90, 91, 92, 93, 94, 95, 96, 97, 100, 101, 102] Mz (fun N => 0 ≤ ze N 81 13 ∧ ze N 81 13 ≤ 4 ∧ 0 ≤ ze N 81 14 ∧ ze N 81 14 ≤ 8 ∧ zB 83 24 0 5 N ∧ zB 85 144 0 5 N ∧ (((1 ≤ ze N 81 7 ∧ zmu N = 0) ∨ (ze N 81 7 = 0 ∧ 1 ≤ ze N 81 12 ∧ ze N 81 12 ≤ 6 ∧ zPm N ∧ zFin N ∧ (∃ T : zGT, T ∈ gTabs ∧ zGB T N))))))
                      refine zr_if_eq (pc := 50) (tgt := 60) ⟨(by decide), (by decide)⟩ (by decide) d_M_reads_50 (fun hc_50 => ?_) (fun hc_50 => ?_)
                      · skip
                        refine zw_aload_n (pc := 60) (n := 0) (x := 81) rfl d_M_reads_60 ?_
                        refine zr_callV (hf_N147_.w hW) hf_N147_.x (pc := 61) [] [] l_M_183 (c_M_isGood l N147_ (hf_N147_.w hW) ) rfl rfl rfl (by decide) (Nat.le_of_ble_eq_true rfl) d_M_reads_61 ?_
                        rintro _ N161_ ⟨v162_, rfl, ⟨hv162_a, hv162_b⟩, hsN161_, hp0_N161_⟩
                        obtain rfl := hsN161_.eq.symm
                        replace hp0_N161_ : ((v162_ = 1 ∧ ze N147_ 81 7 = 0) ∨ (v162_ = 0 ∧ ze N147_ 81 7 ≠ 0)) := hp0_N161_
                        rcases hp0_N161_ with ⟨rfl, ha61_0_hp0_N161_⟩ | ⟨rfl, ha61_0_hp0_N161_⟩
                        · skip
                          exfalso; omega
                        · skip
                          show zW l m_M_reads (zn Mz + 0, zw Mz + 0) N147_ 64 [some (.ref 81)] [.int (Int32.ofInt 0)] (zpV [3, 4, 5, 6, 7, 8, 11, 12, 13, 14, 20, 25, 26, 38, 39, 41, 42, 43] [83, 85, 86, 87, 88, 89, 90, 91, 92, 93, 94, 95, 96, 97, 100, 101, 102] Mz (fun N => 0 ≤ ze N 81 13 ∧ ze N 81 13 ≤ 4 ∧ 0 ≤ ze N 81 14 ∧ ze N 81 14 ≤ 8 ∧ zB 83 24 0 5 N ∧ zB 85 144 0 5 N ∧ (((1 ≤ ze N 81 7 ∧ zmu N = 0) ∨ (ze N 81 7 = 0 ∧ 1 ≤ ze N 81 12 ∧ ze N 81 12 ≤ 6 ∧ zPm N ∧ zFin N ∧ (∃ T : zGT, T ∈ gTabs ∧ zGB T N))))))
                          refine zr_if_eq (pc := 64) (tgt := 71) ⟨(by decide), (by decide)⟩ (by decide) d_M_reads_64 (fun hc_64 => ?_) (fun hc_64 => ?_)
                          · skip
                            have lp_71 : ∀ (n : Nat) (N163_ : zMem) (hs164_ : zFr [3, 4, 5, 6, 7, 8, 11, 14, 38, 39, 41, 42, 43] [95, 96, 97, 100, 101, 102] N147_ N163_) (i165_ : 0 ≤ ze N163_ 81 3) (i166_ : ze N163_ 81 3 ≤ ze N163_ 81 2) (i167_ : zTv N163_) (i168_ : 0 ≤ ze N163_ 81 13) (i169_ : ze N163_ 81 13 ≤ 4) (i170_ : 0 ≤ ze N163_ 81 14) (i171_ : ze N163_ 81 14 ≤ 8) (i172_ : (1 ≤ ze N163_ 81 7 ∧ zmu N163_ = 0) ∨ (ze N163_ 81 7 = 0 ∧ 1 ≤ ze N163_ 81 12 ∧ ze N163_ 81 12 ≤ 6 ∧ zPm N163_ ∧ zFin N163_ ∧ (∃ T : zGT, T ∈ gTabs ∧ zGB T N163_))), (zmu N163_).toNat < n → zW l m_M_reads (zn Mz + 0, zw Mz + 0) N163_ 71 [some (.ref 81)] [] (zpV [3, 4, 5, 6, 7, 8, 11, 12, 13, 14, 20, 25, 26, 38, 39, 41, 42, 43] [83, 85, 86, 87, 88, 89, 90, 91, 92, 93, 94, 95, 96, 97, 100, 101, 102] Mz (fun N => 0 ≤ ze N 81 13 ∧ ze N 81 13 ≤ 4 ∧ 0 ≤ ze N 81 14 ∧ ze N 81 14 ≤ 8 ∧ zB 83 24 0 5 N ∧ zB 85 144 0 5 N ∧ (((1 ≤ ze N 81 7 ∧ zmu N = 0) ∨ (ze N 81 7 = 0 ∧ 1 ≤ ze N 81 12 ∧ ze N 81 12 ≤ 6 ∧ zPm N ∧ zFin N ∧ (∃ T : zGT, T ∈ gTabs ∧ zGB T N)))))) := by
                              clear hp0_N143_ hp1_N143_ hp2_N143_ hf_N143_ r3_N143_ r5_N143_ r7_N143_ c145_ c146_ ha40_0_hp3_N143_ ha40_1_hp3_N143_ hs148_ e2_N147_ e12_N147_ e14_N147_ hv160_a hv160_b hv162_a hv162_b
                              intro n
                              induction n with
                              | zero =>
                                intro N163_ hs164_ i165_ i166_ i167_ i168_ i169_ i170_ i171_ i172_ h0
                                exact absurd h0 (Nat.not_lt_zero _)
                              | succ n ih_71 =>
                                intro N163_ hs164_ i165_ i166_ i167_ i168_ i169_ i170_ i171_ i172_ hlt_71
                                have hf_N163_ : zFr [3, 4, 5, 6, 7, 8, 11, 12, 13, 14, 20, 25, 26, 38, 39, 41, 42, 43] [83, 85, 86, 87, 88, 89, 90, 91, 92, 93, 94, 95, 96, 97, 100, 101, 102] Mz N163_ := hf_N147_.tr hs164_ (by decide) (by decide)
                                have e2_N163_ : ze N163_ 81 2 = ze N147_ 81 2 := hs164_.e (by decide)
                                have r3_N163_ := ze_r N163_ 81 3
                                have r5_N163_ := ze_r N163_ 81 5
                                have r7_N163_ := ze_r N163_ 81 7
                                have e12_N163_ : ze N163_ 81 12 = ze N147_ 81 12 := hs164_.e (by decide)
                                have e13_N163_ : ze N163_ 81 13 = ze N147_ 81 13 := hs164_.e (by decide)
                                have r14_N163_ := ze_r N163_ 81 14
                                have c173_ : zB 83 24 0 5 N163_ := zB.fr hs164_ i157_ (by decide) (by decide)
                                have c174_ : zB 85 144 0 5 N163_ := zB.fr hs164_ i158_ (by decide) (by decide)
                                have zz2_N163_ : ze N163_ 81 2 = ze Mz 81 2 := hf_N163_.e (by decide)
                                rcases i172_ with ⟨hl71_0_i172_, hl71_1_i172_⟩ | ⟨hl71_0_i172_, hl71_1_i172_, hl71_2_i172_, hl71_3_i172_, hl71_4_i172_, hl71_5_i172_⟩
                                · skip
                                  refine zw_aload_n (pc := 71) (n := 0) (x := 81) rfl d_M_reads_71 ?_
                                  refine zr_ldc2 (pc := 72) (n := 7103860) (by decide) k_M_179 d_M_reads_72 ?_
                                  refine zr_callV (hf_N163_.w hW) hf_N163_.x (pc := 75) [.long (Int64.ofInt 7103860)] [] l_M_312 (c_M_isWord l N163_ (hf_N163_.w hW) 7103860 (by decide) (by decide)) rfl rfl rfl (by decide) (Nat.le_of_ble_eq_true rfl) d_M_reads_75 ?_
                                  rintro _ N175_ ⟨v176_, rfl, ⟨hv176_a, hv176_b⟩, hsN175_, hp0_N175_⟩
                                  obtain rfl := hsN175_.eq.symm
                                  replace hp0_N175_ : ((v176_ = 1 ∧ ze N163_ 81 7 = 0 ∧ ze N163_ 81 5 = 1) ∨ (v176_ = 0)) := hp0_N175_
                                  rcases hp0_N175_ with ⟨rfl, ha75_0_hp0_N175_, ha75_1_hp0_N175_⟩ | rfl
                                  · skip
                                    exfalso; omega
                                  · skip
                                    show zW l m_M_reads (zn Mz + 0, zw Mz + 0) N163_ 78 [some (.ref 81)] [.int (Int32.ofInt 0)] (zpV [3, 4, 5, 6, 7, 8, 11, 12, 13, 14, 20, 25, 26, 38, 39, 41, 42, 43] [83, 85, 86, 87, 88, 89, 90, 91, 92, 93, 94, 95, 96, 97, 100, 101, 102] Mz (fun N => 0 ≤ ze N 81 13 ∧ ze N 81 13 ≤ 4 ∧ 0 ≤ ze N 81 14 ∧ ze N 81 14 ≤ 8 ∧ zB 83 24 0 5 N ∧ zB 85 144 0 5 N ∧ (((1 ≤ ze N 81 7 ∧ zmu N = 0) ∨ (ze N 81 7 = 0 ∧ 1 ≤ ze N 81 12 ∧ ze N 81 12 ≤ 6 ∧ zPm N ∧ zFin N ∧ (∃ T : zGT, T ∈ gTabs ∧ zGB T N))))))
                                    refine zr_if_eq (pc := 78) (tgt := 88) ⟨(by decide), (by decide)⟩ (by decide) d_M_reads_78 (fun hc_78 => ?_) (fun hc_78 => ?_)
                                    · skip
                                      refine zw_aload_n (pc := 88) (n := 0) (x := 81) rfl d_M_reads_88 ?_
                                      refine zr_callV (hf_N163_.w hW) hf_N163_.x (pc := 89) [] [] l_M_183 (c_M_isGood l N163_ (hf_N163_.w hW) ) rfl rfl rfl (by decide) (Nat.le_of_ble_eq_true rfl) d_M_reads_89 ?_
                                      rintro _ N177_ ⟨v178_, rfl, ⟨hv178_a, hv178_b⟩, hsN177_, hp0_N177_⟩
                                      obtain rfl := hsN177_.eq.symm
                                      replace hp0_N177_ : ((v178_ = 1 ∧ ze N163_ 81 7 = 0) ∨ (v178_ = 0 ∧ ze N163_ 81 7 ≠ 0)) := hp0_N177_
                                      rcases hp0_N177_ with ⟨rfl, ha89_0_hp0_N177_⟩ | ⟨rfl, ha89_0_hp0_N177_⟩
                                      · skip
                                        exfalso; omega
                                      · skip
                                        show zW l m_M_reads (zn Mz + 0, zw Mz + 0) N163_ 92 [some (.ref 81)] [.int (Int32.ofInt 0)] (zpV [3, 4, 5, 6, 7, 8, 11, 12, 13, 14, 20, 25, 26, 38, 39, 41, 42, 43] [83, 85, 86, 87, 88, 89, 90, 91, 92, 93, 94, 95, 96, 97, 100, 101, 102] Mz (fun N => 0 ≤ ze N 81 13 ∧ ze N 81 13 ≤ 4 ∧ 0 ≤ ze N 81 14 ∧ ze N 81 14 ≤ 8 ∧ zB 83 24 0 5 N ∧ zB 85 144 0 5 N ∧ (((1 ≤ ze N 81 7 ∧ zmu N = 0) ∨ (ze N 81 7 = 0 ∧ 1 ≤ ze N 81 12 ∧ ze N 81 12 ≤ 6 ∧ zPm N ∧ zFin N ∧ (∃ T : zGT, T ∈ gTabs ∧ zGB T N))))))
                                        refine zr_if_eq (pc := 92) (tgt := 107) ⟨(by decide), (by decide)⟩ (by decide) d_M_reads_92 (fun hc_92 => ?_) (fun hc_92 => ?_)
                                        · skip
                                          have hz0 := zmu_s N163_
                                          exact zr_vret (pc := 107) rfl hf_N163_ ⟨(show 0 ≤ ze N163_ 81 13 by first | assumption | omega), (show ze N163_ 81 13 ≤ 4 by first | assumption | omega), (show 0 ≤ ze N163_ 81 14 by first | assumption | omega), (show ze N163_ 81 14 ≤ 8 by first | assumption | omega), c173_, c174_, (show ((1 ≤ ze N163_ 81 7 ∧ zmu N163_ = 0) ∨ (ze N163_ 81 7 = 0 ∧ 1 ≤ ze N163_ 81 12 ∧ ze N163_ 81 12 ≤ 6 ∧ zPm N163_ ∧ zFin N163_ ∧ (∃ T : zGT, T ∈ gTabs ∧ zGB T N163_))) from Or.inl (⟨(show 1 ≤ ze N163_ 81 7 by first | assumption | omega), (show zmu N163_ = 0 by first | assumption | omega)⟩))⟩ d_M_reads_107
                                        · skip
                                          exact absurd hc_92 (by decide)
                                    · skip
                                      exact absurd hc_78 (by decide)
                                · skip
                                  have hPm_ := (show zPm N163_ by assumption)
                                  have hFn_ := (show zFin N163_ by assumption)
                                  obtain ⟨T, hTt, hGB⟩ := (show ∃ T : zGT, T ∈ gTabs ∧ zGB T N163_ by assumption)
                                  have hB85_ : zB 85 144 0 5 N163_ := hGB.2.1
                                  have hO := gTabs_ok T hTt
                                  have hGd := zGB.d hO hGB
                                  have hz_N163_ := zmu_p N163_ (by omega) (by omega)
                                  refine zw_aload_n (pc := 71) (n := 0) (x := 81) rfl d_M_reads_71 ?_
                                  refine zr_ldc2 (pc := 72) (n := 7103860) (by decide) k_M_179 d_M_reads_72 ?_
                                  refine zr_callV (hf_N163_.w hW) hf_N163_.x (pc := 75) [.long (Int64.ofInt 7103860)] [] l_M_312 (c_M_isWord l N163_ (hf_N163_.w hW) 7103860 (by decide) (by decide)) rfl rfl rfl (by decide) (Nat.le_of_ble_eq_true rfl) d_M_reads_75 ?_
                                  rintro _ N179_ ⟨v180_, rfl, ⟨hv180_a, hv180_b⟩, hsN179_, hp0_N179_⟩
                                  obtain rfl := hsN179_.eq.symm
                                  replace hp0_N179_ : ((v180_ = 1 ∧ ze N163_ 81 7 = 0 ∧ ze N163_ 81 5 = 1) ∨ (v180_ = 0)) := hp0_N179_
                                  rcases hp0_N179_ with ⟨rfl, ha75_0_hp0_N179_, ha75_1_hp0_N179_⟩ | rfl
                                  · skip
                                    show zW l m_M_reads (zn Mz + 0, zw Mz + 0) N163_ 78 [some (.ref 81)] [.int (Int32.ofInt 1)] (zpV [3, 4, 5, 6, 7, 8, 11, 12, 13, 14, 20, 25, 26, 38, 39, 41, 42, 43] [83, 85, 86, 87, 88, 89, 90, 91, 92, 93, 94, 95, 96, 97, 100, 101, 102] Mz (fun N => 0 ≤ ze N 81 13 ∧ ze N 81 13 ≤ 4 ∧ 0 ≤ ze N 81 14 ∧ ze N 81 14 ≤ 8 ∧ zB 83 24 0 5 N ∧ zB 85 144 0 5 N ∧ (((1 ≤ ze N 81 7 ∧ zmu N = 0) ∨ (ze N 81 7 = 0 ∧ 1 ≤ ze N 81 12 ∧ ze N 81 12 ≤ 6 ∧ zPm N ∧ zFin N ∧ (∃ T : zGT, T ∈ gTabs ∧ zGB T N))))))
                                    refine zr_if_eq (pc := 78) (tgt := 88) ⟨(by decide), (by decide)⟩ (by decide) d_M_reads_78 (fun hc_78 => ?_) (fun hc_78 => ?_)
                                    · skip
                                      exact absurd hc_78 (by decide)
                                    · skip
                                      refine zw_aload_n (pc := 81) (n := 0) (x := 81) rfl d_M_reads_81 ?_
                                      refine zr_callV (hf_N163_.w hW) hf_N163_.x (pc := 82) [] [] l_M_364 (c_M_letLine l N163_ (hf_N163_.w hW) hGd (show 0 ≤ ze N163_ 81 3 by first | assumption | omega) (show ze N163_ 81 3 ≤ ze N163_ 81 2 by first | assumption | omega) (show ze N163_ 81 2 ≤ 700 by first | assumption | omega) i167_ (show ze N163_ 81 7 = 0 by first | assumption | omega) (show ze N163_ 81 5 = 1 by first | assumption | omega) (show 0 ≤ ze N163_ 81 14 by first | assumption | omega) (show ze N163_ 81 14 ≤ 8 by first | assumption | omega)) rfl rfl rfl (by decide) (Nat.le_of_ble_eq_true rfl) d_M_reads_82 ?_
                                      rintro _ N181_ ⟨rfl, hsN181_, ⟨hp0_N181_, hp1_N181_, hp2_N181_, hp3_N181_, hp4_N181_, hp5_N181_⟩⟩
                                      have hf_N181_ : zFr [3, 4, 5, 6, 7, 8, 11, 12, 13, 14, 20, 25, 26, 38, 39, 41, 42, 43] [83, 85, 86, 87, 88, 89, 90, 91, 92, 93, 94, 95, 96, 97, 100, 101, 102] Mz N181_ := hf_N163_.tr hsN181_ (by decide) (by decide)
                                      have hb0_N181_ : zFr [3, 4, 5, 6, 7, 8, 11, 14, 38, 39, 41, 42, 43] [95, 96, 97, 100, 101, 102] N147_ N181_ := hs164_.tr hsN181_ (by decide) (by decide)
                                      have e2_N181_ : ze N181_ 81 2 = ze N163_ 81 2 := hsN181_.e (by decide)
                                      have r3_N181_ := ze_r N181_ 81 3
                                      have r5_N181_ := ze_r N181_ 81 5
                                      have r7_N181_ := ze_r N181_ 81 7
                                      have e12_N181_ : ze N181_ 81 12 = ze N163_ 81 12 := hsN181_.e (by decide)
                                      have e13_N181_ : ze N181_ 81 13 = ze N163_ 81 13 := hsN181_.e (by decide)
                                      have r14_N181_ := ze_r N181_ 81 14
                                      have c183_ : zB 83 24 0 5 N181_ := zB.fr hsN181_ c173_ (by decide) (by decide)
                                      have c184_ : zB 85 144 0 5 N181_ := zB.fr hsN181_ hB85_ (by decide) (by decide)
                                      have c185_ : zPm N181_ := zPm.fr hsN181_ hPm_ (by decide) (by decide)
                                      have c186_ : zFin N181_ := zFin.fr hsN181_ hFn_ (by decide) (by decide)
                                      have c187_ : zGB T N181_ := zGB.fr hsN181_ hGB (by decide) (by decide)
                                      have c188_ : zGD N181_ := zGD.fr hsN181_ hGd (by decide) (by decide)
                                      rcases hp5_N181_ with ⟨ha82_0_hp5_N181_, ha82_1_hp5_N181_⟩ | ⟨ha82_0_hp5_N181_, ha82_1_hp5_N181_⟩
                                      · skip
                                        have hEx_ : ∃ T : zGT, T ∈ gTabs ∧ zGB T N181_ := ⟨T, hTt, c187_⟩
                                        show zW l m_M_reads (zn Mz + 0, zw Mz + 0) N181_ 85 [some (.ref 81)] [] (zpV [3, 4, 5, 6, 7, 8, 11, 12, 13, 14, 20, 25, 26, 38, 39, 41, 42, 43] [83, 85, 86, 87, 88, 89, 90, 91, 92, 93, 94, 95, 96, 97, 100, 101, 102] Mz (fun N => 0 ≤ ze N 81 13 ∧ ze N 81 13 ≤ 4 ∧ 0 ≤ ze N 81 14 ∧ ze N 81 14 ≤ 8 ∧ zB 83 24 0 5 N ∧ zB 85 144 0 5 N ∧ (((1 ≤ ze N 81 7 ∧ zmu N = 0) ∨ (ze N 81 7 = 0 ∧ 1 ≤ ze N 81 12 ∧ ze N 81 12 ≤ 6 ∧ zPm N ∧ zFin N ∧ (∃ T : zGT, T ∈ gTabs ∧ zGB T N))))))
                                        refine zw_goto (pc := 85) (tgt := 71) (by decide) d_M_reads_85 ?_
                                        exact ih_71 N181_ hb0_N181_ (show 0 ≤ ze N181_ 81 3 by first | assumption | omega) (show ze N181_ 81 3 ≤ ze N181_ 81 2 by first | assumption | omega) hp2_N181_ (show 0 ≤ ze N181_ 81 13 by first | assumption | omega) (show ze N181_ 81 13 ≤ 4 by first | assumption | omega) (show 0 ≤ ze N181_ 81 14 by first | assumption | omega) (show ze N181_ 81 14 ≤ 8 by first | assumption | omega) (show (1 ≤ ze N181_ 81 7 ∧ zmu N181_ = 0) ∨ (ze N181_ 81 7 = 0 ∧ 1 ≤ ze N181_ 81 12 ∧ ze N181_ 81 12 ≤ 6 ∧ zPm N181_ ∧ zFin N181_ ∧ (∃ T : zGT, T ∈ gTabs ∧ zGB T N181_)) from Or.inl (⟨(show 1 ≤ ze N181_ 81 7 by first | assumption | omega), (show zmu N181_ = 0 by first | assumption | omega)⟩)) (by omega)
                                      · skip
                                        have hEx_ : ∃ T : zGT, T ∈ gTabs ∧ zGB T N181_ := ⟨T, hTt, c187_⟩
                                        show zW l m_M_reads (zn Mz + 0, zw Mz + 0) N181_ 85 [some (.ref 81)] [] (zpV [3, 4, 5, 6, 7, 8, 11, 12, 13, 14, 20, 25, 26, 38, 39, 41, 42, 43] [83, 85, 86, 87, 88, 89, 90, 91, 92, 93, 94, 95, 96, 97, 100, 101, 102] Mz (fun N => 0 ≤ ze N 81 13 ∧ ze N 81 13 ≤ 4 ∧ 0 ≤ ze N 81 14 ∧ ze N 81 14 ≤ 8 ∧ zB 83 24 0 5 N ∧ zB 85 144 0 5 N ∧ (((1 ≤ ze N 81 7 ∧ zmu N = 0) ∨ (ze N 81 7 = 0 ∧ 1 ≤ ze N 81 12 ∧ ze N 81 12 ≤ 6 ∧ zPm N ∧ zFin N ∧ (∃ T : zGT, T ∈ gTabs ∧ zGB T N))))))
                                        refine zw_goto (pc := 85) (tgt := 71) (by decide) d_M_reads_85 ?_
                                        exact ih_71 N181_ hb0_N181_ (show 0 ≤ ze N181_ 81 3 by first | assumption | omega) (show ze N181_ 81 3 ≤ ze N181_ 81 2 by first | assumption | omega) hp2_N181_ (show 0 ≤ ze N181_ 81 13 by first | assumption | omega) (show ze N181_ 81 13 ≤ 4 by first | assumption | omega) (show 0 ≤ ze N181_ 81 14 by first | assumption | omega) (show ze N181_ 81 14 ≤ 8 by first | assumption | omega) (show (1 ≤ ze N181_ 81 7 ∧ zmu N181_ = 0) ∨ (ze N181_ 81 7 = 0 ∧ 1 ≤ ze N181_ 81 12 ∧ ze N181_ 81 12 ≤ 6 ∧ zPm N181_ ∧ zFin N181_ ∧ (∃ T : zGT, T ∈ gTabs ∧ zGB T N181_)) from Or.inr (⟨(show ze N181_ 81 7 = 0 by first | assumption | omega), (show 1 ≤ ze N181_ 81 12 by first | assumption | omega), (show ze N181_ 81 12 ≤ 6 by first | assumption | omega), (show zPm N181_ by first | assumption | omega), (show zFin N181_ by first | assumption | omega), (show (∃ T : zGT, T ∈ gTabs ∧ zGB T N181_) by first | assumption | omega)⟩)) (by omega)
                                  · skip
                                    show zW l m_M_reads (zn Mz + 0, zw Mz + 0) N163_ 78 [some (.ref 81)] [.int (Int32.ofInt 0)] (zpV [3, 4, 5, 6, 7, 8, 11, 12, 13, 14, 20, 25, 26, 38, 39, 41, 42, 43] [83, 85, 86, 87, 88, 89, 90, 91, 92, 93, 94, 95, 96, 97, 100, 101, 102] Mz (fun N => 0 ≤ ze N 81 13 ∧ ze N 81 13 ≤ 4 ∧ 0 ≤ ze N 81 14 ∧ ze N 81 14 ≤ 8 ∧ zB 83 24 0 5 N ∧ zB 85 144 0 5 N ∧ (((1 ≤ ze N 81 7 ∧ zmu N = 0) ∨ (ze N 81 7 = 0 ∧ 1 ≤ ze N 81 12 ∧ ze N 81 12 ≤ 6 ∧ zPm N ∧ zFin N ∧ (∃ T : zGT, T ∈ gTabs ∧ zGB T N))))))
                                    refine zr_if_eq (pc := 78) (tgt := 88) ⟨(by decide), (by decide)⟩ (by decide) d_M_reads_78 (fun hc_78 => ?_) (fun hc_78 => ?_)
                                    · skip
                                      refine zw_aload_n (pc := 88) (n := 0) (x := 81) rfl d_M_reads_88 ?_
                                      refine zr_callV (hf_N163_.w hW) hf_N163_.x (pc := 89) [] [] l_M_183 (c_M_isGood l N163_ (hf_N163_.w hW) ) rfl rfl rfl (by decide) (Nat.le_of_ble_eq_true rfl) d_M_reads_89 ?_
                                      rintro _ N189_ ⟨v190_, rfl, ⟨hv190_a, hv190_b⟩, hsN189_, hp0_N189_⟩
                                      obtain rfl := hsN189_.eq.symm
                                      replace hp0_N189_ : ((v190_ = 1 ∧ ze N163_ 81 7 = 0) ∨ (v190_ = 0 ∧ ze N163_ 81 7 ≠ 0)) := hp0_N189_
                                      rcases hp0_N189_ with ⟨rfl, ha89_0_hp0_N189_⟩ | ⟨rfl, ha89_0_hp0_N189_⟩
                                      · skip
                                        show zW l m_M_reads (zn Mz + 0, zw Mz + 0) N163_ 92 [some (.ref 81)] [.int (Int32.ofInt 1)] (zpV [3, 4, 5, 6, 7, 8, 11, 12, 13, 14, 20, 25, 26, 38, 39, 41, 42, 43] [83, 85, 86, 87, 88, 89, 90, 91, 92, 93, 94, 95, 96, 97, 100, 101, 102] Mz (fun N => 0 ≤ ze N 81 13 ∧ ze N 81 13 ≤ 4 ∧ 0 ≤ ze N 81 14 ∧ ze N 81 14 ≤ 8 ∧ zB 83 24 0 5 N ∧ zB 85 144 0 5 N ∧ (((1 ≤ ze N 81 7 ∧ zmu N = 0) ∨ (ze N 81 7 = 0 ∧ 1 ≤ ze N 81 12 ∧ ze N 81 12 ≤ 6 ∧ zPm N ∧ zFin N ∧ (∃ T : zGT, T ∈ gTabs ∧ zGB T N))))))
                                        refine zr_if_eq (pc := 92) (tgt := 107) ⟨(by decide), (by decide)⟩ (by decide) d_M_reads_92 (fun hc_92 => ?_) (fun hc_92 => ?_)
                                        · skip
                                          exact absurd hc_92 (by decide)
                                        · skip
                                          refine zw_aload_n (pc := 95) (n := 0) (x := 81) rfl d_M_reads_95 ?_
                                          refine zr_getI (hf_N163_.w hW) (pc := 96) f_M_155 rfl d_M_reads_96 ?_
                                          refine zr_if_eq (pc := 99) (tgt := 107) ⟨(ze_r N163_ 81 5).1, (ze_r N163_ 81 5).2⟩ (by decide) d_M_reads_99 (fun hc_99 => ?_) (fun hc_99 => ?_)
                                          · skip
                                            have hz0 := zmu_s N163_
                                            exact zr_vret (pc := 107) rfl hf_N163_ ⟨(show 0 ≤ ze N163_ 81 13 by first | assumption | omega), (show ze N163_ 81 13 ≤ 4 by first | assumption | omega), (show 0 ≤ ze N163_ 81 14 by first | assumption | omega), (show ze N163_ 81 14 ≤ 8 by first | assumption | omega), c173_, hB85_, (show ((1 ≤ ze N163_ 81 7 ∧ zmu N163_ = 0) ∨ (ze N163_ 81 7 = 0 ∧ 1 ≤ ze N163_ 81 12 ∧ ze N163_ 81 12 ≤ 6 ∧ zPm N163_ ∧ zFin N163_ ∧ (∃ T : zGT, T ∈ gTabs ∧ zGB T N163_))) from Or.inr (⟨(show ze N163_ 81 7 = 0 by first | assumption | omega), (show 1 ≤ ze N163_ 81 12 by first | assumption | omega), (show ze N163_ 81 12 ≤ 6 by first | assumption | omega), (show zPm N163_ by first | assumption | omega), (show zFin N163_ by first | assumption | omega), (show (∃ T : zGT, T ∈ gTabs ∧ zGB T N163_) by first | assumption | omega)⟩))⟩ d_M_reads_107
                                          · skip
                                            refine zw_aload_n (pc := 102) (n := 0) (x := 81) rfl d_M_reads_102 ?_
                                            refine zw_iconst (pc := 103) (v := Int32.ofInt 2) (by decide) d_M_reads_103 ?_
                                            refine zr_callV (hf_N163_.w hW) hf_N163_.x (pc := 104) [.int (Int32.ofInt 2)] [] l_M_190 (c_M_wrong l N163_ (hf_N163_.w hW) 2 (by decide) (by decide) (show ze N163_ 81 7 = 0 by first | assumption | omega) (show 1 ≤ 2 by first | assumption | omega)) rfl rfl rfl (by decide) (Nat.le_of_ble_eq_true rfl) d_M_reads_104 ?_
                                            rintro _ N191_ ⟨rfl, hsN191_, ⟨hp0_N191_, hp1_N191_⟩⟩
                                            have hf_N191_ : zFr [3, 4, 5, 6, 7, 8, 11, 12, 13, 14, 20, 25, 26, 38, 39, 41, 42, 43] [83, 85, 86, 87, 88, 89, 90, 91, 92, 93, 94, 95, 96, 97, 100, 101, 102] Mz N191_ := hf_N163_.tr hsN191_ (by decide) (by decide)
                                            have e2_N191_ : ze N191_ 81 2 = ze N163_ 81 2 := hsN191_.e (by decide)
                                            have e3_N191_ : ze N191_ 81 3 = ze N163_ 81 3 := hsN191_.e (by decide)
                                            have e5_N191_ : ze N191_ 81 5 = ze N163_ 81 5 := hsN191_.e (by decide)
                                            have r7_N191_ := ze_r N191_ 81 7
                                            have e12_N191_ : ze N191_ 81 12 = ze N163_ 81 12 := hsN191_.e (by decide)
                                            have e13_N191_ : ze N191_ 81 13 = ze N163_ 81 13 := hsN191_.e (by decide)
                                            have e14_N191_ : ze N191_ 81 14 = ze N163_ 81 14 := hsN191_.e (by decide)
                                            have c193_ : zB 83 24 0 5 N191_ := zB.fr hsN191_ c173_ (by decide) (by decide)
                                            have c194_ : zB 85 144 0 5 N191_ := zB.fr hsN191_ hB85_ (by decide) (by decide)
                                            have c195_ : zTv N191_ := zTv.fr hsN191_ i167_ (by decide) (by decide)
                                            have c196_ : zPm N191_ := zPm.fr hsN191_ hPm_ (by decide) (by decide)
                                            have c197_ : zFin N191_ := zFin.fr hsN191_ hFn_ (by decide) (by decide)
                                            have c198_ : zGB T N191_ := zGB.fr hsN191_ hGB (by decide) (by decide)
                                            have c199_ : zGD N191_ := zGD.fr hsN191_ hGd (by decide) (by decide)
                                            show zW l m_M_reads (zn Mz + 0, zw Mz + 0) N191_ 107 [some (.ref 81)] [] (zpV [3, 4, 5, 6, 7, 8, 11, 12, 13, 14, 20, 25, 26, 38, 39, 41, 42, 43] [83, 85, 86, 87, 88, 89, 90, 91, 92, 93, 94, 95, 96, 97, 100, 101, 102] Mz (fun N => 0 ≤ ze N 81 13 ∧ ze N 81 13 ≤ 4 ∧ 0 ≤ ze N 81 14 ∧ ze N 81 14 ≤ 8 ∧ zB 83 24 0 5 N ∧ zB 85 144 0 5 N ∧ (((1 ≤ ze N 81 7 ∧ zmu N = 0) ∨ (ze N 81 7 = 0 ∧ 1 ≤ ze N 81 12 ∧ ze N 81 12 ≤ 6 ∧ zPm N ∧ zFin N ∧ (∃ T : zGT, T ∈ gTabs ∧ zGB T N))))))
                                            have hz0 := zmu_s N191_
                                            exact zr_vret (pc := 107) rfl hf_N191_ ⟨(show 0 ≤ ze N191_ 81 13 by first | assumption | omega), (show ze N191_ 81 13 ≤ 4 by first | assumption | omega), (show 0 ≤ ze N191_ 81 14 by first | assumption | omega), (show ze N191_ 81 14 ≤ 8 by first | assumption | omega), c193_, c194_, (show ((1 ≤ ze N191_ 81 7 ∧ zmu N191_ = 0) ∨ (ze N191_ 81 7 = 0 ∧ 1 ≤ ze N191_ 81 12 ∧ ze N191_ 81 12 ≤ 6 ∧ zPm N191_ ∧ zFin N191_ ∧ (∃ T : zGT, T ∈ gTabs ∧ zGB T N191_))) from Or.inl (⟨(show 1 ≤ ze N191_ 81 7 by first | assumption | omega), (show zmu N191_ = 0 by first | assumption | omega)⟩))⟩ d_M_reads_107
                                      · skip
                                        exfalso; omega
                                    · skip
                                      exact absurd hc_78 (by decide)
                            exact lp_71 _ N147_ zFr.rf (show 0 ≤ ze N147_ 81 3 by first | assumption | omega) (show ze N147_ 81 3 ≤ ze N147_ 81 2 by first | assumption | omega) i151_ (show 0 ≤ ze N147_ 81 13 by first | assumption | omega) (show ze N147_ 81 13 ≤ 4 by first | assumption | omega) (show 0 ≤ ze N147_ 81 14 by first | assumption | omega) (show ze N147_ 81 14 ≤ 8 by first | assumption | omega) (show (1 ≤ ze N147_ 81 7 ∧ zmu N147_ = 0) ∨ (ze N147_ 81 7 = 0 ∧ 1 ≤ ze N147_ 81 12 ∧ ze N147_ 81 12 ≤ 6 ∧ zPm N147_ ∧ zFin N147_ ∧ (∃ T : zGT, T ∈ gTabs ∧ zGB T N147_)) from Or.inl (⟨(show 1 ≤ ze N147_ 81 7 by first | assumption | omega), (show zmu N147_ = 0 by first | assumption | omega)⟩)) (Nat.lt_succ_self _)
                          · skip
                            exact absurd hc_64 (by decide)
                      · skip
                        exact absurd hc_50 (by decide)
                  · skip
                    have hPm_ := (show zPm N147_ by assumption)
                    have hFn_ := (show zFin N147_ by assumption)
                    have hz_N147_ := zmu_p N147_ (by omega) (by omega)
                    refine zw_aload_n (pc := 43) (n := 0) (x := 81) rfl d_M_reads_43 ?_
                    refine zr_ldc2 (pc := 44) (n := 1836021349) (by decide) k_M_177 d_M_reads_44 ?_
                    refine zr_callV (hf_N147_.w hW) hf_N147_.x (pc := 47) [.long (Int64.ofInt 1836021349)] [] l_M_312 (c_M_isWord l N147_ (hf_N147_.w hW) 1836021349 (by decide) (by decide)) rfl rfl rfl (by decide) (Nat.le_of_ble_eq_true rfl) d_M_reads_47 ?_
                    rintro _ N200_ ⟨v201_, rfl, ⟨hv201_a, hv201_b⟩, hsN200_, hp0_N200_⟩
                    obtain rfl := hsN200_.eq.symm
                    replace hp0_N200_ : ((v201_ = 1 ∧ ze N147_ 81 7 = 0 ∧ ze N147_ 81 5 = 1) ∨ (v201_ = 0)) := hp0_N200_
                    rcases hp0_N200_ with ⟨rfl, ha47_0_hp0_N200_, ha47_1_hp0_N200_⟩ | rfl
                    · skip
                      show zW l m_M_reads (zn Mz + 0, zw Mz + 0) N147_ 50 [some (.ref 81)] [.int (Int32.ofInt 1)] (zpV [3, 4, 5, 6, 7, 8, 11, 12, 13, 14, 20, 25, 26, 38, 39, 41, 42, 43] [83, 85, 86, 87, 88, 89, 90, 91, 92, 93, 94, 95, 96, 97, 100, 101, 102] Mz (fun N => 0 ≤ ze N 81 13 ∧ ze N 81 13 ≤ 4 ∧ 0 ≤ ze N 81 14 ∧ ze N 81 14 ≤ 8 ∧ zB 83 24 0 5 N ∧ zB 85 144 0 5 N ∧ (((1 ≤ ze N 81 7 ∧ zmu N = 0) ∨ (ze N 81 7 = 0 ∧ 1 ≤ ze N 81 12 ∧ ze N 81 12 ≤ 6 ∧ zPm N ∧ zFin N ∧ (∃ T : zGT, T ∈ gTabs ∧ zGB T N))))))
                      refine zr_if_eq (pc := 50) (tgt := 60) ⟨(by decide), (by decide)⟩ (by decide) d_M_reads_50 (fun hc_50 => ?_) (fun hc_50 => ?_)
                      · skip
                        exact absurd hc_50 (by decide)
                      · skip
                        refine zw_aload_n (pc := 53) (n := 0) (x := 81) rfl d_M_reads_53 ?_
                        refine zr_callV (hf_N147_.w hW) hf_N147_.x (pc := 54) [] [] l_M_361 (c_M_moveLine l N147_ (hf_N147_.w hW) (show 0 ≤ ze N147_ 81 3 by first | assumption | omega) (show ze N147_ 81 3 ≤ ze N147_ 81 2 by first | assumption | omega) (show ze N147_ 81 2 ≤ 700 by first | assumption | omega) i151_ (show ze N147_ 81 7 = 0 by first | assumption | omega) (show ze N147_ 81 5 = 1 by first | assumption | omega) (show 1 ≤ ze N147_ 81 12 by first | assumption | omega) (show ze N147_ 81 12 ≤ 6 by first | assumption | omega) (show 0 ≤ ze N147_ 81 13 by first | assumption | omega) (show ze N147_ 81 13 ≤ 4 by first | assumption | omega) hPm_ i157_ i158_) rfl rfl rfl (by decide) (Nat.le_of_ble_eq_true rfl) d_M_reads_54 ?_
                        rintro _ N202_ ⟨rfl, hsN202_, ⟨hp0_N202_, hp1_N202_, hp2_N202_, hp3_N202_, hp4_N202_, hp5_N202_, hp6_N202_, hp7_N202_⟩⟩
                        have hf_N202_ : zFr [3, 4, 5, 6, 7, 8, 11, 12, 13, 14, 20, 25, 26, 38, 39, 41, 42, 43] [83, 85, 86, 87, 88, 89, 90, 91, 92, 93, 94, 95, 96, 97, 100, 101, 102] Mz N202_ := hf_N147_.tr hsN202_ (by decide) (by decide)
                        have hb0_N202_ : zFr [3, 4, 5, 6, 7, 8, 11, 13, 20] [83, 85, 86, 87, 88] N143_ N202_ := hs148_.tr hsN202_ (by decide) (by decide)
                        have e2_N202_ : ze N202_ 81 2 = ze N147_ 81 2 := hsN202_.e (by decide)
                        have r3_N202_ := ze_r N202_ 81 3
                        have r5_N202_ := ze_r N202_ 81 5
                        have r7_N202_ := ze_r N202_ 81 7
                        have e12_N202_ : ze N202_ 81 12 = ze N147_ 81 12 := hsN202_.e (by decide)
                        have r13_N202_ := ze_r N202_ 81 13
                        have e14_N202_ : ze N202_ 81 14 = ze N147_ 81 14 := hsN202_.e (by decide)
                        rcases hp7_N202_ with ⟨ha54_0_hp7_N202_, ha54_1_hp7_N202_⟩ | ⟨ha54_0_hp7_N202_, ha54_1_hp7_N202_, ha54_2_hp7_N202_, ha54_3_hp7_N202_⟩
                        · skip
                          show zW l m_M_reads (zn Mz + 0, zw Mz + 0) N202_ 57 [some (.ref 81)] [] (zpV [3, 4, 5, 6, 7, 8, 11, 12, 13, 14, 20, 25, 26, 38, 39, 41, 42, 43] [83, 85, 86, 87, 88, 89, 90, 91, 92, 93, 94, 95, 96, 97, 100, 101, 102] Mz (fun N => 0 ≤ ze N 81 13 ∧ ze N 81 13 ≤ 4 ∧ 0 ≤ ze N 81 14 ∧ ze N 81 14 ≤ 8 ∧ zB 83 24 0 5 N ∧ zB 85 144 0 5 N ∧ (((1 ≤ ze N 81 7 ∧ zmu N = 0) ∨ (ze N 81 7 = 0 ∧ 1 ≤ ze N 81 12 ∧ ze N 81 12 ≤ 6 ∧ zPm N ∧ zFin N ∧ (∃ T : zGT, T ∈ gTabs ∧ zGB T N))))))
                          refine zw_goto (pc := 57) (tgt := 43) (by decide) d_M_reads_57 ?_
                          exact ih_43 N202_ hb0_N202_ (show 0 ≤ ze N202_ 81 3 by first | assumption | omega) (show ze N202_ 81 3 ≤ ze N202_ 81 2 by first | assumption | omega) hp2_N202_ (show 0 ≤ ze N202_ 81 13 by first | assumption | omega) (show ze N202_ 81 13 ≤ 4 by first | assumption | omega) (show 0 ≤ ze N202_ 81 14 by first | assumption | omega) (show ze N202_ 81 14 ≤ 8 by first | assumption | omega) (show (1 ≤ ze N202_ 81 7 ∧ zmu N202_ = 0) ∨ (ze N202_ 81 7 = 0 ∧ 1 ≤ ze N202_ 81 12 ∧ ze N202_ 81 12 ≤ 6 ∧ zPm N202_ ∧ zFin N202_) from Or.inl (⟨(show 1 ≤ ze N202_ 81 7 by first | assumption | omega), (show zmu N202_ = 0 by first | assumption | omega)⟩)) hp5_N202_ hp6_N202_ (by omega)
                        · skip
                          show zW l m_M_reads (zn Mz + 0, zw Mz + 0) N202_ 57 [some (.ref 81)] [] (zpV [3, 4, 5, 6, 7, 8, 11, 12, 13, 14, 20, 25, 26, 38, 39, 41, 42, 43] [83, 85, 86, 87, 88, 89, 90, 91, 92, 93, 94, 95, 96, 97, 100, 101, 102] Mz (fun N => 0 ≤ ze N 81 13 ∧ ze N 81 13 ≤ 4 ∧ 0 ≤ ze N 81 14 ∧ ze N 81 14 ≤ 8 ∧ zB 83 24 0 5 N ∧ zB 85 144 0 5 N ∧ (((1 ≤ ze N 81 7 ∧ zmu N = 0) ∨ (ze N 81 7 = 0 ∧ 1 ≤ ze N 81 12 ∧ ze N 81 12 ≤ 6 ∧ zPm N ∧ zFin N ∧ (∃ T : zGT, T ∈ gTabs ∧ zGB T N))))))
                          refine zw_goto (pc := 57) (tgt := 43) (by decide) d_M_reads_57 ?_
                          exact ih_43 N202_ hb0_N202_ (show 0 ≤ ze N202_ 81 3 by first | assumption | omega) (show ze N202_ 81 3 ≤ ze N202_ 81 2 by first | assumption | omega) hp2_N202_ (show 0 ≤ ze N202_ 81 13 by first | assumption | omega) (show ze N202_ 81 13 ≤ 4 by first | assumption | omega) (show 0 ≤ ze N202_ 81 14 by first | assumption | omega) (show ze N202_ 81 14 ≤ 8 by first | assumption | omega) (show (1 ≤ ze N202_ 81 7 ∧ zmu N202_ = 0) ∨ (ze N202_ 81 7 = 0 ∧ 1 ≤ ze N202_ 81 12 ∧ ze N202_ 81 12 ≤ 6 ∧ zPm N202_ ∧ zFin N202_) from Or.inr (⟨(show ze N202_ 81 7 = 0 by first | assumption | omega), (show 1 ≤ ze N202_ 81 12 by first | assumption | omega), (show ze N202_ 81 12 ≤ 6 by first | assumption | omega), (show zPm N202_ by first | assumption | omega), (show zFin N202_ by first | assumption | omega)⟩)) hp5_N202_ hp6_N202_ (by omega)
                    · skip
                      show zW l m_M_reads (zn Mz + 0, zw Mz + 0) N147_ 50 [some (.ref 81)] [.int (Int32.ofInt 0)] (zpV [3, 4, 5, 6, 7, 8, 11, 12, 13, 14, 20, 25, 26, 38, 39, 41, 42, 43] [83, 85, 86, 87, 88, 89, 90, 91, 92, 93, 94, 95, 96, 97, 100, 101, 102] Mz (fun N => 0 ≤ ze N 81 13 ∧ ze N 81 13 ≤ 4 ∧ 0 ≤ ze N 81 14 ∧ ze N 81 14 ≤ 8 ∧ zB 83 24 0 5 N ∧ zB 85 144 0 5 N ∧ (((1 ≤ ze N 81 7 ∧ zmu N = 0) ∨ (ze N 81 7 = 0 ∧ 1 ≤ ze N 81 12 ∧ ze N 81 12 ≤ 6 ∧ zPm N ∧ zFin N ∧ (∃ T : zGT, T ∈ gTabs ∧ zGB T N))))))
                      refine zr_if_eq (pc := 50) (tgt := 60) ⟨(by decide), (by decide)⟩ (by decide) d_M_reads_50 (fun hc_50 => ?_) (fun hc_50 => ?_)
                      · skip
                        refine zw_aload_n (pc := 60) (n := 0) (x := 81) rfl d_M_reads_60 ?_
                        refine zr_callV (hf_N147_.w hW) hf_N147_.x (pc := 61) [] [] l_M_183 (c_M_isGood l N147_ (hf_N147_.w hW) ) rfl rfl rfl (by decide) (Nat.le_of_ble_eq_true rfl) d_M_reads_61 ?_
                        rintro _ N204_ ⟨v205_, rfl, ⟨hv205_a, hv205_b⟩, hsN204_, hp0_N204_⟩
                        obtain rfl := hsN204_.eq.symm
                        replace hp0_N204_ : ((v205_ = 1 ∧ ze N147_ 81 7 = 0) ∨ (v205_ = 0 ∧ ze N147_ 81 7 ≠ 0)) := hp0_N204_
                        rcases hp0_N204_ with ⟨rfl, ha61_0_hp0_N204_⟩ | ⟨rfl, ha61_0_hp0_N204_⟩
                        · skip
                          show zW l m_M_reads (zn Mz + 0, zw Mz + 0) N147_ 64 [some (.ref 81)] [.int (Int32.ofInt 1)] (zpV [3, 4, 5, 6, 7, 8, 11, 12, 13, 14, 20, 25, 26, 38, 39, 41, 42, 43] [83, 85, 86, 87, 88, 89, 90, 91, 92, 93, 94, 95, 96, 97, 100, 101, 102] Mz (fun N => 0 ≤ ze N 81 13 ∧ ze N 81 13 ≤ 4 ∧ 0 ≤ ze N 81 14 ∧ ze N 81 14 ≤ 8 ∧ zB 83 24 0 5 N ∧ zB 85 144 0 5 N ∧ (((1 ≤ ze N 81 7 ∧ zmu N = 0) ∨ (ze N 81 7 = 0 ∧ 1 ≤ ze N 81 12 ∧ ze N 81 12 ≤ 6 ∧ zPm N ∧ zFin N ∧ (∃ T : zGT, T ∈ gTabs ∧ zGB T N))))))
                          refine zr_if_eq (pc := 64) (tgt := 71) ⟨(by decide), (by decide)⟩ (by decide) d_M_reads_64 (fun hc_64 => ?_) (fun hc_64 => ?_)
                          · skip
                            exact absurd hc_64 (by decide)
                          · skip
                            refine zw_aload_n (pc := 67) (n := 0) (x := 81) rfl d_M_reads_67 ?_
                            refine zr_callV (hf_N147_.w hW) hf_N147_.x (pc := 68) [] [] l_M_118 (c_M_builds l N147_ (hf_N147_.w hW) (show 1 ≤ ze N147_ 81 12 by first | assumption | omega) (show ze N147_ 81 12 ≤ 6 by first | assumption | omega) (show 0 ≤ ze N147_ 81 13 by first | assumption | omega) (show ze N147_ 81 13 ≤ 4 by first | assumption | omega) hPm_ hFn_ i157_ i158_) rfl rfl rfl (by decide) (Nat.le_of_ble_eq_true rfl) d_M_reads_68 ?_
                            rintro _ N206_ ⟨rfl, hsN206_, hp0_N206_⟩
                            replace hp0_N206_ : ∃ T : zGT, T ∈ gTabs ∧ zGB T N206_ := hp0_N206_
                            have hf_N206_ : zFr [3, 4, 5, 6, 7, 8, 11, 12, 13, 14, 20, 25, 26, 38, 39, 41, 42, 43] [83, 85, 86, 87, 88, 89, 90, 91, 92, 93, 94, 95, 96, 97, 100, 101, 102] Mz N206_ := hf_N147_.tr hsN206_ (by decide) (by decide)
                            have e2_N206_ : ze N206_ 81 2 = ze N147_ 81 2 := hsN206_.e (by decide)
                            have e3_N206_ : ze N206_ 81 3 = ze N147_ 81 3 := hsN206_.e (by decide)
                            have e5_N206_ : ze N206_ 81 5 = ze N147_ 81 5 := hsN206_.e (by decide)
                            have e7_N206_ : ze N206_ 81 7 = ze N147_ 81 7 := hsN206_.e (by decide)
                            have e12_N206_ : ze N206_ 81 12 = ze N147_ 81 12 := hsN206_.e (by decide)
                            have e13_N206_ : ze N206_ 81 13 = ze N147_ 81 13 := hsN206_.e (by decide)
                            have e14_N206_ : ze N206_ 81 14 = ze N147_ 81 14 := hsN206_.e (by decide)
                            have qzmu_N206_ : zmu N206_ = zmu N147_ := zmu_f hsN206_ (by decide)
                            have c208_ : zTv N206_ := zTv.fr hsN206_ i151_ (by decide) (by decide)
                            have c209_ : zB 83 24 0 5 N206_ := zB.fr hsN206_ i157_ (by decide) (by decide)
                            have c210_ : zPm N206_ := zPm.fr hsN206_ hPm_ (by decide) (by decide)
                            have c211_ : zFin N206_ := zFin.fr hsN206_ hFn_ (by decide) (by decide)
                            show zW l m_M_reads (zn Mz + 0, zw Mz + 0) N206_ 71 [some (.ref 81)] [] (zpV [3, 4, 5, 6, 7, 8, 11, 12, 13, 14, 20, 25, 26, 38, 39, 41, 42, 43] [83, 85, 86, 87, 88, 89, 90, 91, 92, 93, 94, 95, 96, 97, 100, 101, 102] Mz (fun N => 0 ≤ ze N 81 13 ∧ ze N 81 13 ≤ 4 ∧ 0 ≤ ze N 81 14 ∧ ze N 81 14 ≤ 8 ∧ zB 83 24 0 5 N ∧ zB 85 144 0 5 N ∧ (((1 ≤ ze N 81 7 ∧ zmu N = 0) ∨ (ze N 81 7 = 0 ∧ 1 ≤ ze N 81 12 ∧ ze N 81 12 ≤ 6 ∧ zPm N ∧ zFin N ∧ (∃ T : zGT, T ∈ gTabs ∧ zGB T N))))))
                            obtain ⟨T, hTt, hGB⟩ := id hp0_N206_
                            have hB85_ : zB 85 144 0 5 N206_ := hGB.2.1
                            have hO := gTabs_ok T hTt
                            have hGd := zGB.d hO hGB
                            have lp_71 : ∀ (n : Nat) (N212_ : zMem) (hs213_ : zFr [3, 4, 5, 6, 7, 8, 11, 14, 38, 39, 41, 42, 43] [95, 96, 97, 100, 101, 102] N206_ N212_) (i214_ : 0 ≤ ze N212_ 81 3) (i215_ : ze N212_ 81 3 ≤ ze N212_ 81 2) (i216_ : zTv N212_) (i217_ : 0 ≤ ze N212_ 81 13) (i218_ : ze N212_ 81 13 ≤ 4) (i219_ : 0 ≤ ze N212_ 81 14) (i220_ : ze N212_ 81 14 ≤ 8) (i221_ : (1 ≤ ze N212_ 81 7 ∧ zmu N212_ = 0) ∨ (ze N212_ 81 7 = 0 ∧ 1 ≤ ze N212_ 81 12 ∧ ze N212_ 81 12 ≤ 6 ∧ zPm N212_ ∧ zFin N212_ ∧ (∃ T : zGT, T ∈ gTabs ∧ zGB T N212_))), (zmu N212_).toNat < n → zW l m_M_reads (zn Mz + 0, zw Mz + 0) N212_ 71 [some (.ref 81)] [] (zpV [3, 4, 5, 6, 7, 8, 11, 12, 13, 14, 20, 25, 26, 38, 39, 41, 42, 43] [83, 85, 86, 87, 88, 89, 90, 91, 92, 93, 94, 95, 96, 97, 100, 101, 102] Mz (fun N => 0 ≤ ze N 81 13 ∧ ze N 81 13 ≤ 4 ∧ 0 ≤ ze N 81 14 ∧ ze N 81 14 ≤ 8 ∧ zB 83 24 0 5 N ∧ zB 85 144 0 5 N ∧ (((1 ≤ ze N 81 7 ∧ zmu N = 0) ∨ (ze N 81 7 = 0 ∧ 1 ≤ ze N 81 12 ∧ ze N 81 12 ≤ 6 ∧ zPm N ∧ zFin N ∧ (∃ T : zGT, T ∈ gTabs ∧ zGB T N)))))) := by
                              clear hp0_N143_ hp1_N143_ hp2_N143_ hf_N143_ r3_N143_ r5_N143_ r7_N143_ c145_ c146_ ha40_0_hp3_N143_ ha40_1_hp3_N143_ hs148_ e2_N147_ e12_N147_ e14_N147_ hv201_a hv201_b hv205_a hv205_b
                              intro n
                              induction n with
                              | zero =>
                                intro N212_ hs213_ i214_ i215_ i216_ i217_ i218_ i219_ i220_ i221_ h0
                                exact absurd h0 (Nat.not_lt_zero _)
                              | succ n ih_71 =>
                                intro N212_ hs213_ i214_ i215_ i216_ i217_ i218_ i219_ i220_ i221_ hlt_71
                                have hf_N212_ : zFr [3, 4, 5, 6, 7, 8, 11, 12, 13, 14, 20, 25, 26, 38, 39, 41, 42, 43] [83, 85, 86, 87, 88, 89, 90, 91, 92, 93, 94, 95, 96, 97, 100, 101, 102] Mz N212_ := hf_N206_.tr hs213_ (by decide) (by decide)
                                have e2_N212_ : ze N212_ 81 2 = ze N206_ 81 2 := hs213_.e (by decide)
                                have r3_N212_ := ze_r N212_ 81 3
                                have r5_N212_ := ze_r N212_ 81 5
                                have r7_N212_ := ze_r N212_ 81 7
                                have e12_N212_ : ze N212_ 81 12 = ze N206_ 81 12 := hs213_.e (by decide)
                                have e13_N212_ : ze N212_ 81 13 = ze N206_ 81 13 := hs213_.e (by decide)
                                have r14_N212_ := ze_r N212_ 81 14
                                have c222_ : zB 83 24 0 5 N212_ := zB.fr hs213_ c209_ (by decide) (by decide)
                                have c223_ : zPm N212_ := zPm.fr hs213_ c210_ (by decide) (by decide)
                                have c224_ : zFin N212_ := zFin.fr hs213_ c211_ (by decide) (by decide)
                                have c225_ : zB 85 144 0 5 N212_ := zB.fr hs213_ hB85_ (by decide) (by decide)
                                have c226_ : zGB T N212_ := zGB.fr hs213_ hGB (by decide) (by decide)
                                have c227_ : zGD N212_ := zGD.fr hs213_ hGd (by decide) (by decide)
                                have zz2_N212_ : ze N212_ 81 2 = ze Mz 81 2 := hf_N212_.e (by decide)
                                rcases i221_ with ⟨hl71_0_i221_, hl71_1_i221_⟩ | ⟨hl71_0_i221_, hl71_1_i221_, hl71_2_i221_, hl71_3_i221_, hl71_4_i221_, hl71_5_i221_⟩
                                · skip
                                  refine zw_aload_n (pc := 71) (n := 0) (x := 81) rfl d_M_reads_71 ?_
                                  refine zr_ldc2 (pc := 72) (n := 7103860) (by decide) k_M_179 d_M_reads_72 ?_
                                  refine zr_callV (hf_N212_.w hW) hf_N212_.x (pc := 75) [.long (Int64.ofInt 7103860)] [] l_M_312 (c_M_isWord l N212_ (hf_N212_.w hW) 7103860 (by decide) (by decide)) rfl rfl rfl (by decide) (Nat.le_of_ble_eq_true rfl) d_M_reads_75 ?_
                                  rintro _ N228_ ⟨v229_, rfl, ⟨hv229_a, hv229_b⟩, hsN228_, hp0_N228_⟩
                                  obtain rfl := hsN228_.eq.symm
                                  replace hp0_N228_ : ((v229_ = 1 ∧ ze N212_ 81 7 = 0 ∧ ze N212_ 81 5 = 1) ∨ (v229_ = 0)) := hp0_N228_
                                  rcases hp0_N228_ with ⟨rfl, ha75_0_hp0_N228_, ha75_1_hp0_N228_⟩ | rfl
                                  · skip
                                    exfalso; omega
                                  · skip
                                    show zW l m_M_reads (zn Mz + 0, zw Mz + 0) N212_ 78 [some (.ref 81)] [.int (Int32.ofInt 0)] (zpV [3, 4, 5, 6, 7, 8, 11, 12, 13, 14, 20, 25, 26, 38, 39, 41, 42, 43] [83, 85, 86, 87, 88, 89, 90, 91, 92, 93, 94, 95, 96, 97, 100, 101, 102] Mz (fun N => 0 ≤ ze N 81 13 ∧ ze N 81 13 ≤ 4 ∧ 0 ≤ ze N 81 14 ∧ ze N 81 14 ≤ 8 ∧ zB 83 24 0 5 N ∧ zB 85 144 0 5 N ∧ (((1 ≤ ze N 81 7 ∧ zmu N = 0) ∨ (ze N 81 7 = 0 ∧ 1 ≤ ze N 81 12 ∧ ze N 81 12 ≤ 6 ∧ zPm N ∧ zFin N ∧ (∃ T : zGT, T ∈ gTabs ∧ zGB T N))))))
                                    refine zr_if_eq (pc := 78) (tgt := 88) ⟨(by decide), (by decide)⟩ (by decide) d_M_reads_78 (fun hc_78 => ?_) (fun hc_78 => ?_)
                                    · skip
                                      refine zw_aload_n (pc := 88) (n := 0) (x := 81) rfl d_M_reads_88 ?_
                                      refine zr_callV (hf_N212_.w hW) hf_N212_.x (pc := 89) [] [] l_M_183 (c_M_isGood l N212_ (hf_N212_.w hW) ) rfl rfl rfl (by decide) (Nat.le_of_ble_eq_true rfl) d_M_reads_89 ?_
                                      rintro _ N230_ ⟨v231_, rfl, ⟨hv231_a, hv231_b⟩, hsN230_, hp0_N230_⟩
                                      obtain rfl := hsN230_.eq.symm
                                      replace hp0_N230_ : ((v231_ = 1 ∧ ze N212_ 81 7 = 0) ∨ (v231_ = 0 ∧ ze N212_ 81 7 ≠ 0)) := hp0_N230_
                                      rcases hp0_N230_ with ⟨rfl, ha89_0_hp0_N230_⟩ | ⟨rfl, ha89_0_hp0_N230_⟩
                                      · skip
                                        exfalso; omega
                                      · skip
                                        show zW l m_M_reads (zn Mz + 0, zw Mz + 0) N212_ 92 [some (.ref 81)] [.int (Int32.ofInt 0)] (zpV [3, 4, 5, 6, 7, 8, 11, 12, 13, 14, 20, 25, 26, 38, 39, 41, 42, 43] [83, 85, 86, 87, 88, 89, 90, 91, 92, 93, 94, 95, 96, 97, 100, 101, 102] Mz (fun N => 0 ≤ ze N 81 13 ∧ ze N 81 13 ≤ 4 ∧ 0 ≤ ze N 81 14 ∧ ze N 81 14 ≤ 8 ∧ zB 83 24 0 5 N ∧ zB 85 144 0 5 N ∧ (((1 ≤ ze N 81 7 ∧ zmu N = 0) ∨ (ze N 81 7 = 0 ∧ 1 ≤ ze N 81 12 ∧ ze N 81 12 ≤ 6 ∧ zPm N ∧ zFin N ∧ (∃ T : zGT, T ∈ gTabs ∧ zGB T N))))))
                                        refine zr_if_eq (pc := 92) (tgt := 107) ⟨(by decide), (by decide)⟩ (by decide) d_M_reads_92 (fun hc_92 => ?_) (fun hc_92 => ?_)
                                        · skip
                                          have hz0 := zmu_s N212_
                                          exact zr_vret (pc := 107) rfl hf_N212_ ⟨(show 0 ≤ ze N212_ 81 13 by first | assumption | omega), (show ze N212_ 81 13 ≤ 4 by first | assumption | omega), (show 0 ≤ ze N212_ 81 14 by first | assumption | omega), (show ze N212_ 81 14 ≤ 8 by first | assumption | omega), c222_, c225_, (show ((1 ≤ ze N212_ 81 7 ∧ zmu N212_ = 0) ∨ (ze N212_ 81 7 = 0 ∧ 1 ≤ ze N212_ 81 12 ∧ ze N212_ 81 12 ≤ 6 ∧ zPm N212_ ∧ zFin N212_ ∧ (∃ T : zGT, T ∈ gTabs ∧ zGB T N212_))) from Or.inl (⟨(show 1 ≤ ze N212_ 81 7 by first | assumption | omega), (show zmu N212_ = 0 by first | assumption | omega)⟩))⟩ d_M_reads_107
                                        · skip
                                          exact absurd hc_92 (by decide)
                                    · skip
                                      exact absurd hc_78 (by decide)
                                · skip
                                  have hPm_ := (show zPm N212_ by assumption)
                                  have hFn_ := (show zFin N212_ by assumption)
                                  obtain ⟨T, hTt, hGB⟩ := (show ∃ T : zGT, T ∈ gTabs ∧ zGB T N212_ by assumption)
                                  have hB85_ : zB 85 144 0 5 N212_ := hGB.2.1
                                  have hO := gTabs_ok T hTt
                                  have hGd := zGB.d hO hGB
                                  have hz_N212_ := zmu_p N212_ (by omega) (by omega)
                                  refine zw_aload_n (pc := 71) (n := 0) (x := 81) rfl d_M_reads_71 ?_
                                  refine zr_ldc2 (pc := 72) (n := 7103860) (by decide) k_M_179 d_M_reads_72 ?_
                                  refine zr_callV (hf_N212_.w hW) hf_N212_.x (pc := 75) [.long (Int64.ofInt 7103860)] [] l_M_312 (c_M_isWord l N212_ (hf_N212_.w hW) 7103860 (by decide) (by decide)) rfl rfl rfl (by decide) (Nat.le_of_ble_eq_true rfl) d_M_reads_75 ?_
                                  rintro _ N232_ ⟨v233_, rfl, ⟨hv233_a, hv233_b⟩, hsN232_, hp0_N232_⟩
                                  obtain rfl := hsN232_.eq.symm
                                  replace hp0_N232_ : ((v233_ = 1 ∧ ze N212_ 81 7 = 0 ∧ ze N212_ 81 5 = 1) ∨ (v233_ = 0)) := hp0_N232_
                                  rcases hp0_N232_ with ⟨rfl, ha75_0_hp0_N232_, ha75_1_hp0_N232_⟩ | rfl
                                  · skip
                                    show zW l m_M_reads (zn Mz + 0, zw Mz + 0) N212_ 78 [some (.ref 81)] [.int (Int32.ofInt 1)] (zpV [3, 4, 5, 6, 7, 8, 11, 12, 13, 14, 20, 25, 26, 38, 39, 41, 42, 43] [83, 85, 86, 87, 88, 89, 90, 91, 92, 93, 94, 95, 96, 97, 100, 101, 102] Mz (fun N => 0 ≤ ze N 81 13 ∧ ze N 81 13 ≤ 4 ∧ 0 ≤ ze N 81 14 ∧ ze N 81 14 ≤ 8 ∧ zB 83 24 0 5 N ∧ zB 85 144 0 5 N ∧ (((1 ≤ ze N 81 7 ∧ zmu N = 0) ∨ (ze N 81 7 = 0 ∧ 1 ≤ ze N 81 12 ∧ ze N 81 12 ≤ 6 ∧ zPm N ∧ zFin N ∧ (∃ T : zGT, T ∈ gTabs ∧ zGB T N))))))
                                    refine zr_if_eq (pc := 78) (tgt := 88) ⟨(by decide), (by decide)⟩ (by decide) d_M_reads_78 (fun hc_78 => ?_) (fun hc_78 => ?_)
                                    · skip
                                      exact absurd hc_78 (by decide)
                                    · skip
                                      refine zw_aload_n (pc := 81) (n := 0) (x := 81) rfl d_M_reads_81 ?_
                                      refine zr_callV (hf_N212_.w hW) hf_N212_.x (pc := 82) [] [] l_M_364 (c_M_letLine l N212_ (hf_N212_.w hW) hGd (show 0 ≤ ze N212_ 81 3 by first | assumption | omega) (show ze N212_ 81 3 ≤ ze N212_ 81 2 by first | assumption | omega) (show ze N212_ 81 2 ≤ 700 by first | assumption | omega) i216_ (show ze N212_ 81 7 = 0 by first | assumption | omega) (show ze N212_ 81 5 = 1 by first | assumption | omega) (show 0 ≤ ze N212_ 81 14 by first | assumption | omega) (show ze N212_ 81 14 ≤ 8 by first | assumption | omega)) rfl rfl rfl (by decide) (Nat.le_of_ble_eq_true rfl) d_M_reads_82 ?_
                                      rintro _ N234_ ⟨rfl, hsN234_, ⟨hp0_N234_, hp1_N234_, hp2_N234_, hp3_N234_, hp4_N234_, hp5_N234_⟩⟩
                                      have hf_N234_ : zFr [3, 4, 5, 6, 7, 8, 11, 12, 13, 14, 20, 25, 26, 38, 39, 41, 42, 43] [83, 85, 86, 87, 88, 89, 90, 91, 92, 93, 94, 95, 96, 97, 100, 101, 102] Mz N234_ := hf_N212_.tr hsN234_ (by decide) (by decide)
                                      have hb0_N234_ : zFr [3, 4, 5, 6, 7, 8, 11, 14, 38, 39, 41, 42, 43] [95, 96, 97, 100, 101, 102] N206_ N234_ := hs213_.tr hsN234_ (by decide) (by decide)
                                      have e2_N234_ : ze N234_ 81 2 = ze N212_ 81 2 := hsN234_.e (by decide)
                                      have r3_N234_ := ze_r N234_ 81 3
                                      have r5_N234_ := ze_r N234_ 81 5
                                      have r7_N234_ := ze_r N234_ 81 7
                                      have e12_N234_ : ze N234_ 81 12 = ze N212_ 81 12 := hsN234_.e (by decide)
                                      have e13_N234_ : ze N234_ 81 13 = ze N212_ 81 13 := hsN234_.e (by decide)
                                      have r14_N234_ := ze_r N234_ 81 14
                                      have c236_ : zB 83 24 0 5 N234_ := zB.fr hsN234_ c222_ (by decide) (by decide)
                                      have c237_ : zPm N234_ := zPm.fr hsN234_ hPm_ (by decide) (by decide)
                                      have c238_ : zFin N234_ := zFin.fr hsN234_ hFn_ (by decide) (by decide)
                                      have c239_ : zB 85 144 0 5 N234_ := zB.fr hsN234_ hB85_ (by decide) (by decide)
                                      have c240_ : zGB T N234_ := zGB.fr hsN234_ hGB (by decide) (by decide)
                                      have c241_ : zGD N234_ := zGD.fr hsN234_ hGd (by decide) (by decide)
                                      rcases hp5_N234_ with ⟨ha82_0_hp5_N234_, ha82_1_hp5_N234_⟩ | ⟨ha82_0_hp5_N234_, ha82_1_hp5_N234_⟩
                                      · skip
                                        have hEx_ : ∃ T : zGT, T ∈ gTabs ∧ zGB T N234_ := ⟨T, hTt, c240_⟩
                                        show zW l m_M_reads (zn Mz + 0, zw Mz + 0) N234_ 85 [some (.ref 81)] [] (zpV [3, 4, 5, 6, 7, 8, 11, 12, 13, 14, 20, 25, 26, 38, 39, 41, 42, 43] [83, 85, 86, 87, 88, 89, 90, 91, 92, 93, 94, 95, 96, 97, 100, 101, 102] Mz (fun N => 0 ≤ ze N 81 13 ∧ ze N 81 13 ≤ 4 ∧ 0 ≤ ze N 81 14 ∧ ze N 81 14 ≤ 8 ∧ zB 83 24 0 5 N ∧ zB 85 144 0 5 N ∧ (((1 ≤ ze N 81 7 ∧ zmu N = 0) ∨ (ze N 81 7 = 0 ∧ 1 ≤ ze N 81 12 ∧ ze N 81 12 ≤ 6 ∧ zPm N ∧ zFin N ∧ (∃ T : zGT, T ∈ gTabs ∧ zGB T N))))))
                                        refine zw_goto (pc := 85) (tgt := 71) (by decide) d_M_reads_85 ?_
                                        exact ih_71 N234_ hb0_N234_ (show 0 ≤ ze N234_ 81 3 by first | assumption | omega) (show ze N234_ 81 3 ≤ ze N234_ 81 2 by first | assumption | omega) hp2_N234_ (show 0 ≤ ze N234_ 81 13 by first | assumption | omega) (show ze N234_ 81 13 ≤ 4 by first | assumption | omega) (show 0 ≤ ze N234_ 81 14 by first | assumption | omega) (show ze N234_ 81 14 ≤ 8 by first | assumption | omega) (show (1 ≤ ze N234_ 81 7 ∧ zmu N234_ = 0) ∨ (ze N234_ 81 7 = 0 ∧ 1 ≤ ze N234_ 81 12 ∧ ze N234_ 81 12 ≤ 6 ∧ zPm N234_ ∧ zFin N234_ ∧ (∃ T : zGT, T ∈ gTabs ∧ zGB T N234_)) from Or.inl (⟨(show 1 ≤ ze N234_ 81 7 by first | assumption | omega), (show zmu N234_ = 0 by first | assumption | omega)⟩)) (by omega)
                                      · skip
                                        have hEx_ : ∃ T : zGT, T ∈ gTabs ∧ zGB T N234_ := ⟨T, hTt, c240_⟩
                                        show zW l m_M_reads (zn Mz + 0, zw Mz + 0) N234_ 85 [some (.ref 81)] [] (zpV [3, 4, 5, 6, 7, 8, 11, 12, 13, 14, 20, 25, 26, 38, 39, 41, 42, 43] [83, 85, 86, 87, 88, 89, 90, 91, 92, 93, 94, 95, 96, 97, 100, 101, 102] Mz (fun N => 0 ≤ ze N 81 13 ∧ ze N 81 13 ≤ 4 ∧ 0 ≤ ze N 81 14 ∧ ze N 81 14 ≤ 8 ∧ zB 83 24 0 5 N ∧ zB 85 144 0 5 N ∧ (((1 ≤ ze N 81 7 ∧ zmu N = 0) ∨ (ze N 81 7 = 0 ∧ 1 ≤ ze N 81 12 ∧ ze N 81 12 ≤ 6 ∧ zPm N ∧ zFin N ∧ (∃ T : zGT, T ∈ gTabs ∧ zGB T N))))))
                                        refine zw_goto (pc := 85) (tgt := 71) (by decide) d_M_reads_85 ?_
                                        exact ih_71 N234_ hb0_N234_ (show 0 ≤ ze N234_ 81 3 by first | assumption | omega) (show ze N234_ 81 3 ≤ ze N234_ 81 2 by first | assumption | omega) hp2_N234_ (show 0 ≤ ze N234_ 81 13 by first | assumption | omega) (show ze N234_ 81 13 ≤ 4 by first | assumption | omega) (show 0 ≤ ze N234_ 81 14 by first | assumption | omega) (show ze N234_ 81 14 ≤ 8 by first | assumption | omega) (show (1 ≤ ze N234_ 81 7 ∧ zmu N234_ = 0) ∨ (ze N234_ 81 7 = 0 ∧ 1 ≤ ze N234_ 81 12 ∧ ze N234_ 81 12 ≤ 6 ∧ zPm N234_ ∧ zFin N234_ ∧ (∃ T : zGT, T ∈ gTabs ∧ zGB T N234_)) from Or.inr (⟨(show ze N234_ 81 7 = 0 by first | assumption | omega), (show 1 ≤ ze N234_ 81 12 by first | assumption | omega), (show ze N234_ 81 12 ≤ 6 by first | assumption | omega), (show zPm N234_ by first | assumption | omega), (show zFin N234_ by first | assumption | omega), (show (∃ T : zGT, T ∈ gTabs ∧ zGB T N234_) by first | assumption | omega)⟩)) (by omega)
                                  · skip
                                    show zW l m_M_reads (zn Mz + 0, zw Mz + 0) N212_ 78 [some (.ref 81)] [.int (Int32.ofInt 0)] (zpV [3, 4, 5, 6, 7, 8, 11, 12, 13, 14, 20, 25, 26, 38, 39, 41, 42, 43] [83, 85, 86, 87, 88, 89, 90, 91, 92, 93, 94, 95, 96, 97, 100, 101, 102] Mz (fun N => 0 ≤ ze N 81 13 ∧ ze N 81 13 ≤ 4 ∧ 0 ≤ ze N 81 14 ∧ ze N 81 14 ≤ 8 ∧ zB 83 24 0 5 N ∧ zB 85 144 0 5 N ∧ (((1 ≤ ze N 81 7 ∧ zmu N = 0) ∨ (ze N 81 7 = 0 ∧ 1 ≤ ze N 81 12 ∧ ze N 81 12 ≤ 6 ∧ zPm N ∧ zFin N ∧ (∃ T : zGT, T ∈ gTabs ∧ zGB T N))))))
                                    refine zr_if_eq (pc := 78) (tgt := 88) ⟨(by decide), (by decide)⟩ (by decide) d_M_reads_78 (fun hc_78 => ?_) (fun hc_78 => ?_)
                                    · skip
                                      refine zw_aload_n (pc := 88) (n := 0) (x := 81) rfl d_M_reads_88 ?_
                                      refine zr_callV (hf_N212_.w hW) hf_N212_.x (pc := 89) [] [] l_M_183 (c_M_isGood l N212_ (hf_N212_.w hW) ) rfl rfl rfl (by decide) (Nat.le_of_ble_eq_true rfl) d_M_reads_89 ?_
                                      rintro _ N242_ ⟨v243_, rfl, ⟨hv243_a, hv243_b⟩, hsN242_, hp0_N242_⟩
                                      obtain rfl := hsN242_.eq.symm
                                      replace hp0_N242_ : ((v243_ = 1 ∧ ze N212_ 81 7 = 0) ∨ (v243_ = 0 ∧ ze N212_ 81 7 ≠ 0)) := hp0_N242_
                                      rcases hp0_N242_ with ⟨rfl, ha89_0_hp0_N242_⟩ | ⟨rfl, ha89_0_hp0_N242_⟩
                                      · skip
                                        show zW l m_M_reads (zn Mz + 0, zw Mz + 0) N212_ 92 [some (.ref 81)] [.int (Int32.ofInt 1)] (zpV [3, 4, 5, 6, 7, 8, 11, 12, 13, 14, 20, 25, 26, 38, 39, 41, 42, 43] [83, 85, 86, 87, 88, 89, 90, 91, 92, 93, 94, 95, 96, 97, 100, 101, 102] Mz (fun N => 0 ≤ ze N 81 13 ∧ ze N 81 13 ≤ 4 ∧ 0 ≤ ze N 81 14 ∧ ze N 81 14 ≤ 8 ∧ zB 83 24 0 5 N ∧ zB 85 144 0 5 N ∧ (((1 ≤ ze N 81 7 ∧ zmu N = 0) ∨ (ze N 81 7 = 0 ∧ 1 ≤ ze N 81 12 ∧ ze N 81 12 ≤ 6 ∧ zPm N ∧ zFin N ∧ (∃ T : zGT, T ∈ gTabs ∧ zGB T N))))))
                                        refine zr_if_eq (pc := 92) (tgt := 107) ⟨(by decide), (by decide)⟩ (by decide) d_M_reads_92 (fun hc_92 => ?_) (fun hc_92 => ?_)
                                        · skip
                                          exact absurd hc_92 (by decide)
                                        · skip
                                          refine zw_aload_n (pc := 95) (n := 0) (x := 81) rfl d_M_reads_95 ?_
                                          refine zr_getI (hf_N212_.w hW) (pc := 96) f_M_155 rfl d_M_reads_96 ?_
                                          refine zr_if_eq (pc := 99) (tgt := 107) ⟨(ze_r N212_ 81 5).1, (ze_r N212_ 81 5).2⟩ (by decide) d_M_reads_99 (fun hc_99 => ?_) (fun hc_99 => ?_)
                                          · skip
                                            have hz0 := zmu_s N212_
                                            exact zr_vret (pc := 107) rfl hf_N212_ ⟨(show 0 ≤ ze N212_ 81 13 by first | assumption | omega), (show ze N212_ 81 13 ≤ 4 by first | assumption | omega), (show 0 ≤ ze N212_ 81 14 by first | assumption | omega), (show ze N212_ 81 14 ≤ 8 by first | assumption | omega), c222_, hB85_, (show ((1 ≤ ze N212_ 81 7 ∧ zmu N212_ = 0) ∨ (ze N212_ 81 7 = 0 ∧ 1 ≤ ze N212_ 81 12 ∧ ze N212_ 81 12 ≤ 6 ∧ zPm N212_ ∧ zFin N212_ ∧ (∃ T : zGT, T ∈ gTabs ∧ zGB T N212_))) from Or.inr (⟨(show ze N212_ 81 7 = 0 by first | assumption | omega), (show 1 ≤ ze N212_ 81 12 by first | assumption | omega), (show ze N212_ 81 12 ≤ 6 by first | assumption | omega), (show zPm N212_ by first | assumption | omega), (show zFin N212_ by first | assumption | omega), (show (∃ T : zGT, T ∈ gTabs ∧ zGB T N212_) by first | assumption | omega)⟩))⟩ d_M_reads_107
                                          · skip
                                            refine zw_aload_n (pc := 102) (n := 0) (x := 81) rfl d_M_reads_102 ?_
                                            refine zw_iconst (pc := 103) (v := Int32.ofInt 2) (by decide) d_M_reads_103 ?_
                                            refine zr_callV (hf_N212_.w hW) hf_N212_.x (pc := 104) [.int (Int32.ofInt 2)] [] l_M_190 (c_M_wrong l N212_ (hf_N212_.w hW) 2 (by decide) (by decide) (show ze N212_ 81 7 = 0 by first | assumption | omega) (show 1 ≤ 2 by first | assumption | omega)) rfl rfl rfl (by decide) (Nat.le_of_ble_eq_true rfl) d_M_reads_104 ?_
                                            rintro _ N244_ ⟨rfl, hsN244_, ⟨hp0_N244_, hp1_N244_⟩⟩
                                            have hf_N244_ : zFr [3, 4, 5, 6, 7, 8, 11, 12, 13, 14, 20, 25, 26, 38, 39, 41, 42, 43] [83, 85, 86, 87, 88, 89, 90, 91, 92, 93, 94, 95, 96, 97, 100, 101, 102] Mz N244_ := hf_N212_.tr hsN244_ (by decide) (by decide)
                                            have e2_N244_ : ze N244_ 81 2 = ze N212_ 81 2 := hsN244_.e (by decide)
                                            have e3_N244_ : ze N244_ 81 3 = ze N212_ 81 3 := hsN244_.e (by decide)
                                            have e5_N244_ : ze N244_ 81 5 = ze N212_ 81 5 := hsN244_.e (by decide)
                                            have r7_N244_ := ze_r N244_ 81 7
                                            have e12_N244_ : ze N244_ 81 12 = ze N212_ 81 12 := hsN244_.e (by decide)
                                            have e13_N244_ : ze N244_ 81 13 = ze N212_ 81 13 := hsN244_.e (by decide)
                                            have e14_N244_ : ze N244_ 81 14 = ze N212_ 81 14 := hsN244_.e (by decide)
                                            have c246_ : zB 83 24 0 5 N244_ := zB.fr hsN244_ c222_ (by decide) (by decide)
                                            have c247_ : zPm N244_ := zPm.fr hsN244_ hPm_ (by decide) (by decide)
                                            have c248_ : zFin N244_ := zFin.fr hsN244_ hFn_ (by decide) (by decide)
                                            have c249_ : zB 85 144 0 5 N244_ := zB.fr hsN244_ hB85_ (by decide) (by decide)
                                            have c250_ : zGB T N244_ := zGB.fr hsN244_ hGB (by decide) (by decide)
                                            have c251_ : zGD N244_ := zGD.fr hsN244_ hGd (by decide) (by decide)
                                            have c252_ : zTv N244_ := zTv.fr hsN244_ i216_ (by decide) (by decide)
                                            show zW l m_M_reads (zn Mz + 0, zw Mz + 0) N244_ 107 [some (.ref 81)] [] (zpV [3, 4, 5, 6, 7, 8, 11, 12, 13, 14, 20, 25, 26, 38, 39, 41, 42, 43] [83, 85, 86, 87, 88, 89, 90, 91, 92, 93, 94, 95, 96, 97, 100, 101, 102] Mz (fun N => 0 ≤ ze N 81 13 ∧ ze N 81 13 ≤ 4 ∧ 0 ≤ ze N 81 14 ∧ ze N 81 14 ≤ 8 ∧ zB 83 24 0 5 N ∧ zB 85 144 0 5 N ∧ (((1 ≤ ze N 81 7 ∧ zmu N = 0) ∨ (ze N 81 7 = 0 ∧ 1 ≤ ze N 81 12 ∧ ze N 81 12 ≤ 6 ∧ zPm N ∧ zFin N ∧ (∃ T : zGT, T ∈ gTabs ∧ zGB T N))))))
                                            have hz0 := zmu_s N244_
                                            exact zr_vret (pc := 107) rfl hf_N244_ ⟨(show 0 ≤ ze N244_ 81 13 by first | assumption | omega), (show ze N244_ 81 13 ≤ 4 by first | assumption | omega), (show 0 ≤ ze N244_ 81 14 by first | assumption | omega), (show ze N244_ 81 14 ≤ 8 by first | assumption | omega), c246_, c249_, (show ((1 ≤ ze N244_ 81 7 ∧ zmu N244_ = 0) ∨ (ze N244_ 81 7 = 0 ∧ 1 ≤ ze N244_ 81 12 ∧ ze N244_ 81 12 ≤ 6 ∧ zPm N244_ ∧ zFin N244_ ∧ (∃ T : zGT, T ∈ gTabs ∧ zGB T N244_))) from Or.inl (⟨(show 1 ≤ ze N244_ 81 7 by first | assumption | omega), (show zmu N244_ = 0 by first | assumption | omega)⟩))⟩ d_M_reads_107
                                      · skip
                                        exfalso; omega
                                    · skip
                                      exact absurd hc_78 (by decide)
                            exact lp_71 _ N206_ zFr.rf (show 0 ≤ ze N206_ 81 3 by first | assumption | omega) (show ze N206_ 81 3 ≤ ze N206_ 81 2 by first | assumption | omega) c208_ (show 0 ≤ ze N206_ 81 13 by first | assumption | omega) (show ze N206_ 81 13 ≤ 4 by first | assumption | omega) (show 0 ≤ ze N206_ 81 14 by first | assumption | omega) (show ze N206_ 81 14 ≤ 8 by first | assumption | omega) (show (1 ≤ ze N206_ 81 7 ∧ zmu N206_ = 0) ∨ (ze N206_ 81 7 = 0 ∧ 1 ≤ ze N206_ 81 12 ∧ ze N206_ 81 12 ≤ 6 ∧ zPm N206_ ∧ zFin N206_ ∧ (∃ T : zGT, T ∈ gTabs ∧ zGB T N206_)) from Or.inr (⟨(show ze N206_ 81 7 = 0 by first | assumption | omega), (show 1 ≤ ze N206_ 81 12 by first | assumption | omega), (show ze N206_ 81 12 ≤ 6 by first | assumption | omega), (show zPm N206_ by first | assumption | omega), (show zFin N206_ by first | assumption | omega), (show (∃ T : zGT, T ∈ gTabs ∧ zGB T N206_) by first | assumption | omega)⟩)) (Nat.lt_succ_self _)
                        · skip
                          exfalso; omega
                      · skip
                        exact absurd hc_50 (by decide)
              exact lp_43 _ N143_ zFr.rf (show 0 ≤ ze N143_ 81 3 by first | assumption | omega) (show ze N143_ 81 3 ≤ ze N143_ 81 2 by first | assumption | omega) hp2_N143_ (show 0 ≤ ze N143_ 81 13 by first | assumption | omega) (show ze N143_ 81 13 ≤ 4 by first | assumption | omega) (show 0 ≤ ze N143_ 81 14 by first | assumption | omega) (show ze N143_ 81 14 ≤ 8 by first | assumption | omega) (show (1 ≤ ze N143_ 81 7 ∧ zmu N143_ = 0) ∨ (ze N143_ 81 7 = 0 ∧ 1 ≤ ze N143_ 81 12 ∧ ze N143_ 81 12 ≤ 6 ∧ zPm N143_ ∧ zFin N143_) from Or.inl (⟨(show 1 ≤ ze N143_ 81 7 by first | assumption | omega | exact zPm_0 (by omega) | exact zFin_0 (by omega)), (show zmu N143_ = 0 by first | assumption | omega | exact zPm_0 (by omega) | exact zFin_0 (by omega))⟩)) c145_ c146_ (Nat.lt_succ_self _)
            · skip
              exfalso; omega
          · skip
            show zW l m_M_reads (zn Mz + 0, zw Mz + 0) N135_ 34 [some (.ref 81)] [.int (Int32.ofInt v136_), .ref 81] (zpV [3, 4, 5, 6, 7, 8, 11, 12, 13, 14, 20, 25, 26, 38, 39, 41, 42, 43] [83, 85, 86, 87, 88, 89, 90, 91, 92, 93, 94, 95, 96, 97, 100, 101, 102] Mz (fun N => 0 ≤ ze N 81 13 ∧ ze N 81 13 ≤ 4 ∧ 0 ≤ ze N 81 14 ∧ ze N 81 14 ≤ 8 ∧ zB 83 24 0 5 N ∧ zB 85 144 0 5 N ∧ (((1 ≤ ze N 81 7 ∧ zmu N = 0) ∨ (ze N 81 7 = 0 ∧ 1 ≤ ze N 81 12 ∧ ze N 81 12 ≤ 6 ∧ zPm N ∧ zFin N ∧ (∃ T : zGT, T ∈ gTabs ∧ zGB T N))))))
            refine zr_putI (hf_N135_.w hW) (pc := 34) f_M_115 rfl rfl ⟨by omega, by omega⟩ rfl rfl d_M_reads_34 (fun N253_ hsN253_ hvN253_ => ?_)
            have hf_N253_ : zFr [3, 4, 5, 6, 7, 8, 11, 12, 13, 14, 20, 25, 26, 38, 39, 41, 42, 43] [83, 85, 86, 87, 88, 89, 90, 91, 92, 93, 94, 95, 96, 97, 100, 101, 102] Mz N253_ := hf_N135_.tr hsN253_ (by decide) (by decide)
            have e2_N253_ : ze N253_ 81 2 = ze N135_ 81 2 := hsN253_.e (by decide)
            have e3_N253_ : ze N253_ 81 3 = ze N135_ 81 3 := hsN253_.e (by decide)
            have e5_N253_ : ze N253_ 81 5 = ze N135_ 81 5 := hsN253_.e (by decide)
            have e7_N253_ : ze N253_ 81 7 = ze N135_ 81 7 := hsN253_.e (by decide)
            have r12_N253_ := ze_r N253_ 81 12
            have e13_N253_ : ze N253_ 81 13 = ze N135_ 81 13 := hsN253_.e (by decide)
            have e14_N253_ : ze N253_ 81 14 = ze N135_ 81 14 := hsN253_.e (by decide)
            have qzmu_N253_ : zmu N253_ = zmu N135_ := zmu_f hsN253_ (by decide)
            have c254_ : zB 83 24 0 5 N253_ := zB.fr hsN253_ c137_ (by decide) (by decide)
            have c255_ : zB 85 144 0 5 N253_ := zB.fr hsN253_ c138_ (by decide) (by decide)
            have c256_ : zTv N253_ := zTv.fr hsN253_ hp2_N135_ (by decide) (by decide)
            refine zw_aload_n (pc := 37) (n := 0) (x := 81) rfl d_M_reads_37 ?_
            refine zw_bipush (pc := 38) (v := Int32.ofInt 59) (by decide) d_M_reads_38 ?_
            refine zr_callV (hf_N253_.w hW) hf_N253_.x (pc := 40) [.int (Int32.ofInt 59)] [] l_M_355 (c_M_must l N253_ (hf_N253_.w hW) 59 (by decide) (by decide) (show 0 ≤ ze N253_ 81 3 by first | assumption | omega) (show ze N253_ 81 3 ≤ ze N253_ 81 2 by first | assumption | omega) (show ze N253_ 81 2 ≤ 700 by first | assumption | omega) c256_ (show 0 ≤ ze N253_ 81 7 by first | assumption | omega)) rfl rfl rfl (by decide) (Nat.le_of_ble_eq_true rfl) d_M_reads_40 ?_
            rintro _ N257_ ⟨rfl, hsN257_, ⟨hp0_N257_, hp1_N257_, hp2_N257_, hp3_N257_⟩⟩
            have hf_N257_ : zFr [3, 4, 5, 6, 7, 8, 11, 12, 13, 14, 20, 25, 26, 38, 39, 41, 42, 43] [83, 85, 86, 87, 88, 89, 90, 91, 92, 93, 94, 95, 96, 97, 100, 101, 102] Mz N257_ := hf_N253_.tr hsN257_ (by decide) (by decide)
            have e2_N257_ : ze N257_ 81 2 = ze N253_ 81 2 := hsN257_.e (by decide)
            have r3_N257_ := ze_r N257_ 81 3
            have r5_N257_ := ze_r N257_ 81 5
            have r7_N257_ := ze_r N257_ 81 7
            have e12_N257_ : ze N257_ 81 12 = ze N253_ 81 12 := hsN257_.e (by decide)
            have e13_N257_ : ze N257_ 81 13 = ze N253_ 81 13 := hsN257_.e (by decide)
            have e14_N257_ : ze N257_ 81 14 = ze N253_ 81 14 := hsN257_.e (by decide)
            have c259_ : zB 83 24 0 5 N257_ := zB.fr hsN257_ c254_ (by decide) (by decide)
            have c260_ : zB 85 144 0 5 N257_ := zB.fr hsN257_ c255_ (by decide) (by decide)
            rcases hp3_N257_ with ⟨ha40_0_hp3_N257_, ha40_1_hp3_N257_⟩ | ⟨ha40_0_hp3_N257_, ha40_1_hp3_N257_, ha40_2_hp3_N257_⟩
            · skip
              show zW l m_M_reads (zn Mz + 0, zw Mz + 0) N257_ 43 [some (.ref 81)] [] (zpV [3, 4, 5, 6, 7, 8, 11, 12, 13, 14, 20, 25, 26, 38, 39, 41, 42, 43] [83, 85, 86, 87, 88, 89, 90, 91, 92, 93, 94, 95, 96, 97, 100, 101, 102] Mz (fun N => 0 ≤ ze N 81 13 ∧ ze N 81 13 ≤ 4 ∧ 0 ≤ ze N 81 14 ∧ ze N 81 14 ≤ 8 ∧ zB 83 24 0 5 N ∧ zB 85 144 0 5 N ∧ (((1 ≤ ze N 81 7 ∧ zmu N = 0) ∨ (ze N 81 7 = 0 ∧ 1 ≤ ze N 81 12 ∧ ze N 81 12 ≤ 6 ∧ zPm N ∧ zFin N ∧ (∃ T : zGT, T ∈ gTabs ∧ zGB T N))))))
              have lp_43 : ∀ (n : Nat) (N261_ : zMem) (hs262_ : zFr [3, 4, 5, 6, 7, 8, 11, 13, 20] [83, 85, 86, 87, 88] N257_ N261_) (i263_ : 0 ≤ ze N261_ 81 3) (i264_ : ze N261_ 81 3 ≤ ze N261_ 81 2) (i265_ : zTv N261_) (i266_ : 0 ≤ ze N261_ 81 13) (i267_ : ze N261_ 81 13 ≤ 4) (i268_ : 0 ≤ ze N261_ 81 14) (i269_ : ze N261_ 81 14 ≤ 8) (i270_ : (1 ≤ ze N261_ 81 7 ∧ zmu N261_ = 0) ∨ (ze N261_ 81 7 = 0 ∧ 1 ≤ ze N261_ 81 12 ∧ ze N261_ 81 12 ≤ 6 ∧ zPm N261_ ∧ zFin N261_)) (i271_ : zB 83 24 0 5 N261_) (i272_ : zB 85 144 0 5 N261_), (zmu N261_).toNat < n → zW l m_M_reads (zn Mz + 0, zw Mz + 0) N261_ 43 [some (.ref 81)] [] (zpV [3, 4, 5, 6, 7, 8, 11, 12, 13, 14, 20, 25, 26, 38, 39, 41, 42, 43] [83, 85, 86, 87, 88, 89, 90, 91, 92, 93, 94, 95, 96, 97, 100, 101, 102] Mz (fun N => 0 ≤ ze N 81 13 ∧ ze N 81 13 ≤ 4 ∧ 0 ≤ ze N 81 14 ∧ ze N 81 14 ≤ 8 ∧ zB 83 24 0 5 N ∧ zB 85 144 0 5 N ∧ (((1 ≤ ze N 81 7 ∧ zmu N = 0) ∨ (ze N 81 7 = 0 ∧ 1 ≤ ze N 81 12 ∧ ze N 81 12 ≤ 6 ∧ zPm N ∧ zFin N ∧ (∃ T : zGT, T ∈ gTabs ∧ zGB T N)))))) := by
                clear hs2_ i3_ i4_ i5_ hf_N1_ e2_N1_ e3_N1_ e5_N1_ r7_N1_ e12_N1_ e13_N1_ e14_N1_ c7_ c8_ zz2_N1_ hl15_0_i6_ hl15_1_i6_ hv130_a hv130_b ha16_0_hp0_N129_ hsN131_ hp0_N131_ hp1_N131_ hp2_N131_ hp3_N131_ hp4_N131_ hf_N131_ e2_N131_ r3_N131_ r5_N131_ e7_N131_ e12_N131_ e13_N131_ e14_N131_ c133_ c134_ hsN135_ hv136_a hv136_b hp0_N135_ hp1_N135_ hp2_N135_ hf_N135_ e2_N135_ r3_N135_ r5_N135_ r7_N135_ e12_N135_ e13_N135_ e14_N135_ c137_ c138_ ha31_0_hp3_N135_ ha31_1_hp3_N135_ ha31_2_hp3_N135_ ha31_3_hp3_N135_ ha31_4_hp3_N135_ hsN253_ hvN253_ hf_N253_ e2_N253_ e3_N253_ e5_N253_ e7_N253_ r12_N253_ e13_N253_ e14_N253_ qzmu_N253_ c254_ c255_ c256_ hsN257_ e2_N257_ e12_N257_ e13_N257_ e14_N257_
                intro n
                induction n with
                | zero =>
                  intro N261_ hs262_ i263_ i264_ i265_ i266_ i267_ i268_ i269_ i270_ i271_ i272_ h0
                  exact absurd h0 (Nat.not_lt_zero _)
                | succ n ih_43 =>
                  intro N261_ hs262_ i263_ i264_ i265_ i266_ i267_ i268_ i269_ i270_ i271_ i272_ hlt_43
                  have hf_N261_ : zFr [3, 4, 5, 6, 7, 8, 11, 12, 13, 14, 20, 25, 26, 38, 39, 41, 42, 43] [83, 85, 86, 87, 88, 89, 90, 91, 92, 93, 94, 95, 96, 97, 100, 101, 102] Mz N261_ := hf_N257_.tr hs262_ (by decide) (by decide)
                  have e2_N261_ : ze N261_ 81 2 = ze N257_ 81 2 := hs262_.e (by decide)
                  have r3_N261_ := ze_r N261_ 81 3
                  have r5_N261_ := ze_r N261_ 81 5
                  have r7_N261_ := ze_r N261_ 81 7
                  have e12_N261_ : ze N261_ 81 12 = ze N257_ 81 12 := hs262_.e (by decide)
                  have r13_N261_ := ze_r N261_ 81 13
                  have e14_N261_ : ze N261_ 81 14 = ze N257_ 81 14 := hs262_.e (by decide)
                  have zz2_N261_ : ze N261_ 81 2 = ze Mz 81 2 := hf_N261_.e (by decide)
                  rcases i270_ with ⟨hl43_0_i270_, hl43_1_i270_⟩ | ⟨hl43_0_i270_, hl43_1_i270_, hl43_2_i270_, hl43_3_i270_, hl43_4_i270_⟩
                  · skip
                    refine zw_aload_n (pc := 43) (n := 0) (x := 81) rfl d_M_reads_43 ?_
                    refine zr_ldc2 (pc := 44) (n := 1836021349) (by decide) k_M_177 d_M_reads_44 ?_
                    refine zr_callV (hf_N261_.w hW) hf_N261_.x (pc := 47) [.long (Int64.ofInt 1836021349)] [] l_M_312 (c_M_isWord l N261_ (hf_N261_.w hW) 1836021349 (by decide) (by decide)) rfl rfl rfl (by decide) (Nat.le_of_ble_eq_true rfl) d_M_reads_47 ?_
                    rintro _ N273_ ⟨v274_, rfl, ⟨hv274_a, hv274_b⟩, hsN273_, hp0_N273_⟩
                    obtain rfl := hsN273_.eq.symm
                    replace hp0_N273_ : ((v274_ = 1 ∧ ze N261_ 81 7 = 0 ∧ ze N261_ 81 5 = 1) ∨ (v274_ = 0)) := hp0_N273_
                    rcases hp0_N273_ with ⟨rfl, ha47_0_hp0_N273_, ha47_1_hp0_N273_⟩ | rfl
                    · skip
                      exfalso; omega
                    · skip
                      show zW l m_M_reads (zn Mz + 0, zw Mz + 0) N261_ 50 [some (.ref 81)] [.int (Int32.ofInt 0)] (zpV [3, 4, 5, 6, 7, 8, 11, 12, 13, 14, 20, 25, 26, 38, 39, 41, 42, 43] [83, 85, 86, 87, 88, 89, 90, 91, 92, 93, 94, 95, 96, 97, 100, 101, 102] Mz (fun N => 0 ≤ ze N 81 13 ∧ ze N 81 13 ≤ 4 ∧ 0 ≤ ze N 81 14 ∧ ze N 81 14 ≤ 8 ∧ zB 83 24 0 5 N ∧ zB 85 144 0 5 N ∧ (((1 ≤ ze N 81 7 ∧ zmu N = 0) ∨ (ze N 81 7 = 0 ∧ 1 ≤ ze N 81 12 ∧ ze N 81 12 ≤ 6 ∧ zPm N ∧ zFin N ∧ (∃ T : zGT, T ∈ gTabs ∧ zGB T N))))))
                      refine zr_if_eq (pc := 50) (tgt := 60) ⟨(by decide), (by decide)⟩ (by decide) d_M_reads_50 (fun hc_50 => ?_) (fun hc_50 => ?_)
                      · skip
                        refine zw_aload_n (pc := 60) (n := 0) (x := 81) rfl d_M_reads_60 ?_
                        refine zr_callV (hf_N261_.w hW) hf_N261_.x (pc := 61) [] [] l_M_183 (c_M_isGood l N261_ (hf_N261_.w hW) ) rfl rfl rfl (by decide) (Nat.le_of_ble_eq_true rfl) d_M_reads_61 ?_
                        rintro _ N275_ ⟨v276_, rfl, ⟨hv276_a, hv276_b⟩, hsN275_, hp0_N275_⟩
                        obtain rfl := hsN275_.eq.symm
                        replace hp0_N275_ : ((v276_ = 1 ∧ ze N261_ 81 7 = 0) ∨ (v276_ = 0 ∧ ze N261_ 81 7 ≠ 0)) := hp0_N275_
                        rcases hp0_N275_ with ⟨rfl, ha61_0_hp0_N275_⟩ | ⟨rfl, ha61_0_hp0_N275_⟩
                        · skip
                          exfalso; omega
                        · skip
                          show zW l m_M_reads (zn Mz + 0, zw Mz + 0) N261_ 64 [some (.ref 81)] [.int (Int32.ofInt 0)] (zpV [3, 4, 5, 6, 7, 8, 11, 12, 13, 14, 20, 25, 26, 38, 39, 41, 42, 43] [83, 85, 86, 87, 88, 89, 90, 91, 92, 93, 94, 95, 96, 97, 100, 101, 102] Mz (fun N => 0 ≤ ze N 81 13 ∧ ze N 81 13 ≤ 4 ∧ 0 ≤ ze N 81 14 ∧ ze N 81 14 ≤ 8 ∧ zB 83 24 0 5 N ∧ zB 85 144 0 5 N ∧ (((1 ≤ ze N 81 7 ∧ zmu N = 0) ∨ (ze N 81 7 = 0 ∧ 1 ≤ ze N 81 12 ∧ ze N 81 12 ≤ 6 ∧ zPm N ∧ zFin N ∧ (∃ T : zGT, T ∈ gTabs ∧ zGB T N))))))
                          refine zr_if_eq (pc := 64) (tgt := 71) ⟨(by decide), (by decide)⟩ (by decide) d_M_reads_64 (fun hc_64 => ?_) (fun hc_64 => ?_)
                          · skip
                            have lp_71 : ∀ (n : Nat) (N277_ : zMem) (hs278_ : zFr [3, 4, 5, 6, 7, 8, 11, 14, 38, 39, 41, 42, 43] [95, 96, 97, 100, 101, 102] N261_ N277_) (i279_ : 0 ≤ ze N277_ 81 3) (i280_ : ze N277_ 81 3 ≤ ze N277_ 81 2) (i281_ : zTv N277_) (i282_ : 0 ≤ ze N277_ 81 13) (i283_ : ze N277_ 81 13 ≤ 4) (i284_ : 0 ≤ ze N277_ 81 14) (i285_ : ze N277_ 81 14 ≤ 8) (i286_ : (1 ≤ ze N277_ 81 7 ∧ zmu N277_ = 0) ∨ (ze N277_ 81 7 = 0 ∧ 1 ≤ ze N277_ 81 12 ∧ ze N277_ 81 12 ≤ 6 ∧ zPm N277_ ∧ zFin N277_ ∧ (∃ T : zGT, T ∈ gTabs ∧ zGB T N277_))), (zmu N277_).toNat < n → zW l m_M_reads (zn Mz + 0, zw Mz + 0) N277_ 71 [some (.ref 81)] [] (zpV [3, 4, 5, 6, 7, 8, 11, 12, 13, 14, 20, 25, 26, 38, 39, 41, 42, 43] [83, 85, 86, 87, 88, 89, 90, 91, 92, 93, 94, 95, 96, 97, 100, 101, 102] Mz (fun N => 0 ≤ ze N 81 13 ∧ ze N 81 13 ≤ 4 ∧ 0 ≤ ze N 81 14 ∧ ze N 81 14 ≤ 8 ∧ zB 83 24 0 5 N ∧ zB 85 144 0 5 N ∧ (((1 ≤ ze N 81 7 ∧ zmu N = 0) ∨ (ze N 81 7 = 0 ∧ 1 ≤ ze N 81 12 ∧ ze N 81 12 ≤ 6 ∧ zPm N ∧ zFin N ∧ (∃ T : zGT, T ∈ gTabs ∧ zGB T N)))))) := by
                              clear hp0_N257_ hp1_N257_ hp2_N257_ hf_N257_ r3_N257_ r5_N257_ r7_N257_ c259_ c260_ ha40_0_hp3_N257_ ha40_1_hp3_N257_ hs262_ e2_N261_ e12_N261_ e14_N261_ hv274_a hv274_b hv276_a hv276_b
                              intro n
                              induction n with
                              | zero =>
                                intro N277_ hs278_ i279_ i280_ i281_ i282_ i283_ i284_ i285_ i286_ h0
                                exact absurd h0 (Nat.not_lt_zero _)
                              | succ n ih_71 =>
                                intro N277_ hs278_ i279_ i280_ i281_ i282_ i283_ i284_ i285_ i286_ hlt_71
                                have hf_N277_ : zFr [3, 4, 5, 6, 7, 8, 11, 12, 13, 14, 20, 25, 26, 38, 39, 41, 42, 43] [83, 85, 86, 87, 88, 89, 90, 91, 92, 93, 94, 95, 96, 97, 100, 101, 102] Mz N277_ := hf_N261_.tr hs278_ (by decide) (by decide)
                                have e2_N277_ : ze N277_ 81 2 = ze N261_ 81 2 := hs278_.e (by decide)
                                have r3_N277_ := ze_r N277_ 81 3
                                have r5_N277_ := ze_r N277_ 81 5
                                have r7_N277_ := ze_r N277_ 81 7
                                have e12_N277_ : ze N277_ 81 12 = ze N261_ 81 12 := hs278_.e (by decide)
                                have e13_N277_ : ze N277_ 81 13 = ze N261_ 81 13 := hs278_.e (by decide)
                                have r14_N277_ := ze_r N277_ 81 14
                                have c287_ : zB 83 24 0 5 N277_ := zB.fr hs278_ i271_ (by decide) (by decide)
                                have c288_ : zB 85 144 0 5 N277_ := zB.fr hs278_ i272_ (by decide) (by decide)
                                have zz2_N277_ : ze N277_ 81 2 = ze Mz 81 2 := hf_N277_.e (by decide)
                                rcases i286_ with ⟨hl71_0_i286_, hl71_1_i286_⟩ | ⟨hl71_0_i286_, hl71_1_i286_, hl71_2_i286_, hl71_3_i286_, hl71_4_i286_, hl71_5_i286_⟩
                                · skip
                                  refine zw_aload_n (pc := 71) (n := 0) (x := 81) rfl d_M_reads_71 ?_
                                  refine zr_ldc2 (pc := 72) (n := 7103860) (by decide) k_M_179 d_M_reads_72 ?_
                                  refine zr_callV (hf_N277_.w hW) hf_N277_.x (pc := 75) [.long (Int64.ofInt 7103860)] [] l_M_312 (c_M_isWord l N277_ (hf_N277_.w hW) 7103860 (by decide) (by decide)) rfl rfl rfl (by decide) (Nat.le_of_ble_eq_true rfl) d_M_reads_75 ?_
                                  rintro _ N289_ ⟨v290_, rfl, ⟨hv290_a, hv290_b⟩, hsN289_, hp0_N289_⟩
                                  obtain rfl := hsN289_.eq.symm
                                  replace hp0_N289_ : ((v290_ = 1 ∧ ze N277_ 81 7 = 0 ∧ ze N277_ 81 5 = 1) ∨ (v290_ = 0)) := hp0_N289_
                                  rcases hp0_N289_ with ⟨rfl, ha75_0_hp0_N289_, ha75_1_hp0_N289_⟩ | rfl
                                  · skip
                                    exfalso; omega
                                  · skip
                                    show zW l m_M_reads (zn Mz + 0, zw Mz + 0) N277_ 78 [some (.ref 81)] [.int (Int32.ofInt 0)] (zpV [3, 4, 5, 6, 7, 8, 11, 12, 13, 14, 20, 25, 26, 38, 39, 41, 42, 43] [83, 85, 86, 87, 88, 89, 90, 91, 92, 93, 94, 95, 96, 97, 100, 101, 102] Mz (fun N => 0 ≤ ze N 81 13 ∧ ze N 81 13 ≤ 4 ∧ 0 ≤ ze N 81 14 ∧ ze N 81 14 ≤ 8 ∧ zB 83 24 0 5 N ∧ zB 85 144 0 5 N ∧ (((1 ≤ ze N 81 7 ∧ zmu N = 0) ∨ (ze N 81 7 = 0 ∧ 1 ≤ ze N 81 12 ∧ ze N 81 12 ≤ 6 ∧ zPm N ∧ zFin N ∧ (∃ T : zGT, T ∈ gTabs ∧ zGB T N))))))
                                    refine zr_if_eq (pc := 78) (tgt := 88) ⟨(by decide), (by decide)⟩ (by decide) d_M_reads_78 (fun hc_78 => ?_) (fun hc_78 => ?_)
                                    · skip
                                      refine zw_aload_n (pc := 88) (n := 0) (x := 81) rfl d_M_reads_88 ?_
                                      refine zr_callV (hf_N277_.w hW) hf_N277_.x (pc := 89) [] [] l_M_183 (c_M_isGood l N277_ (hf_N277_.w hW) ) rfl rfl rfl (by decide) (Nat.le_of_ble_eq_true rfl) d_M_reads_89 ?_
                                      rintro _ N291_ ⟨v292_, rfl, ⟨hv292_a, hv292_b⟩, hsN291_, hp0_N291_⟩
                                      obtain rfl := hsN291_.eq.symm
                                      replace hp0_N291_ : ((v292_ = 1 ∧ ze N277_ 81 7 = 0) ∨ (v292_ = 0 ∧ ze N277_ 81 7 ≠ 0)) := hp0_N291_
                                      rcases hp0_N291_ with ⟨rfl, ha89_0_hp0_N291_⟩ | ⟨rfl, ha89_0_hp0_N291_⟩
                                      · skip
                                        exfalso; omega
                                      · skip
                                        show zW l m_M_reads (zn Mz + 0, zw Mz + 0) N277_ 92 [some (.ref 81)] [.int (Int32.ofInt 0)] (zpV [3, 4, 5, 6, 7, 8, 11, 12, 13, 14, 20, 25, 26, 38, 39, 41, 42, 43] [83, 85, 86, 87, 88, 89, 90, 91, 92, 93, 94, 95, 96, 97, 100, 101, 102] Mz (fun N => 0 ≤ ze N 81 13 ∧ ze N 81 13 ≤ 4 ∧ 0 ≤ ze N 81 14 ∧ ze N 81 14 ≤ 8 ∧ zB 83 24 0 5 N ∧ zB 85 144 0 5 N ∧ (((1 ≤ ze N 81 7 ∧ zmu N = 0) ∨ (ze N 81 7 = 0 ∧ 1 ≤ ze N 81 12 ∧ ze N 81 12 ≤ 6 ∧ zPm N ∧ zFin N ∧ (∃ T : zGT, T ∈ gTabs ∧ zGB T N))))))
                                        refine zr_if_eq (pc := 92) (tgt := 107) ⟨(by decide), (by decide)⟩ (by decide) d_M_reads_92 (fun hc_92 => ?_) (fun hc_92 => ?_)
                                        · skip
                                          have hz0 := zmu_s N277_
                                          exact zr_vret (pc := 107) rfl hf_N277_ ⟨(show 0 ≤ ze N277_ 81 13 by first | assumption | omega), (show ze N277_ 81 13 ≤ 4 by first | assumption | omega), (show 0 ≤ ze N277_ 81 14 by first | assumption | omega), (show ze N277_ 81 14 ≤ 8 by first | assumption | omega), c287_, c288_, (show ((1 ≤ ze N277_ 81 7 ∧ zmu N277_ = 0) ∨ (ze N277_ 81 7 = 0 ∧ 1 ≤ ze N277_ 81 12 ∧ ze N277_ 81 12 ≤ 6 ∧ zPm N277_ ∧ zFin N277_ ∧ (∃ T : zGT, T ∈ gTabs ∧ zGB T N277_))) from Or.inl (⟨(show 1 ≤ ze N277_ 81 7 by first | assumption | omega), (show zmu N277_ = 0 by first | assumption | omega)⟩))⟩ d_M_reads_107
                                        · skip
                                          exact absurd hc_92 (by decide)
                                    · skip
                                      exact absurd hc_78 (by decide)
                                · skip
                                  have hPm_ := (show zPm N277_ by assumption)
                                  have hFn_ := (show zFin N277_ by assumption)
                                  obtain ⟨T, hTt, hGB⟩ := (show ∃ T : zGT, T ∈ gTabs ∧ zGB T N277_ by assumption)
                                  have hB85_ : zB 85 144 0 5 N277_ := hGB.2.1
                                  have hO := gTabs_ok T hTt
                                  have hGd := zGB.d hO hGB
                                  have hz_N277_ := zmu_p N277_ (by omega) (by omega)
                                  refine zw_aload_n (pc := 71) (n := 0) (x := 81) rfl d_M_reads_71 ?_
                                  refine zr_ldc2 (pc := 72) (n := 7103860) (by decide) k_M_179 d_M_reads_72 ?_
                                  refine zr_callV (hf_N277_.w hW) hf_N277_.x (pc := 75) [.long (Int64.ofInt 7103860)] [] l_M_312 (c_M_isWord l N277_ (hf_N277_.w hW) 7103860 (by decide) (by decide)) rfl rfl rfl (by decide) (Nat.le_of_ble_eq_true rfl) d_M_reads_75 ?_
                                  rintro _ N293_ ⟨v294_, rfl, ⟨hv294_a, hv294_b⟩, hsN293_, hp0_N293_⟩
                                  obtain rfl := hsN293_.eq.symm
                                  replace hp0_N293_ : ((v294_ = 1 ∧ ze N277_ 81 7 = 0 ∧ ze N277_ 81 5 = 1) ∨ (v294_ = 0)) := hp0_N293_
                                  rcases hp0_N293_ with ⟨rfl, ha75_0_hp0_N293_, ha75_1_hp0_N293_⟩ | rfl
                                  · skip
                                    show zW l m_M_reads (zn Mz + 0, zw Mz + 0) N277_ 78 [some (.ref 81)] [.int (Int32.ofInt 1)] (zpV [3, 4, 5, 6, 7, 8, 11, 12, 13, 14, 20, 25, 26, 38, 39, 41, 42, 43] [83, 85, 86, 87, 88, 89, 90, 91, 92, 93, 94, 95, 96, 97, 100, 101, 102] Mz (fun N => 0 ≤ ze N 81 13 ∧ ze N 81 13 ≤ 4 ∧ 0 ≤ ze N 81 14 ∧ ze N 81 14 ≤ 8 ∧ zB 83 24 0 5 N ∧ zB 85 144 0 5 N ∧ (((1 ≤ ze N 81 7 ∧ zmu N = 0) ∨ (ze N 81 7 = 0 ∧ 1 ≤ ze N 81 12 ∧ ze N 81 12 ≤ 6 ∧ zPm N ∧ zFin N ∧ (∃ T : zGT, T ∈ gTabs ∧ zGB T N))))))
                                    refine zr_if_eq (pc := 78) (tgt := 88) ⟨(by decide), (by decide)⟩ (by decide) d_M_reads_78 (fun hc_78 => ?_) (fun hc_78 => ?_)
                                    · skip
                                      exact absurd hc_78 (by decide)
                                    · skip
                                      refine zw_aload_n (pc := 81) (n := 0) (x := 81) rfl d_M_reads_81 ?_
                                      refine zr_callV (hf_N277_.w hW) hf_N277_.x (pc := 82) [] [] l_M_364 (c_M_letLine l N277_ (hf_N277_.w hW) hGd (show 0 ≤ ze N277_ 81 3 by first | assumption | omega) (show ze N277_ 81 3 ≤ ze N277_ 81 2 by first | assumption | omega) (show ze N277_ 81 2 ≤ 700 by first | assumption | omega) i281_ (show ze N277_ 81 7 = 0 by first | assumption | omega) (show ze N277_ 81 5 = 1 by first | assumption | omega) (show 0 ≤ ze N277_ 81 14 by first | assumption | omega) (show ze N277_ 81 14 ≤ 8 by first | assumption | omega)) rfl rfl rfl (by decide) (Nat.le_of_ble_eq_true rfl) d_M_reads_82 ?_
                                      rintro _ N295_ ⟨rfl, hsN295_, ⟨hp0_N295_, hp1_N295_, hp2_N295_, hp3_N295_, hp4_N295_, hp5_N295_⟩⟩
                                      have hf_N295_ : zFr [3, 4, 5, 6, 7, 8, 11, 12, 13, 14, 20, 25, 26, 38, 39, 41, 42, 43] [83, 85, 86, 87, 88, 89, 90, 91, 92, 93, 94, 95, 96, 97, 100, 101, 102] Mz N295_ := hf_N277_.tr hsN295_ (by decide) (by decide)
                                      have hb0_N295_ : zFr [3, 4, 5, 6, 7, 8, 11, 14, 38, 39, 41, 42, 43] [95, 96, 97, 100, 101, 102] N261_ N295_ := hs278_.tr hsN295_ (by decide) (by decide)
                                      have e2_N295_ : ze N295_ 81 2 = ze N277_ 81 2 := hsN295_.e (by decide)
                                      have r3_N295_ := ze_r N295_ 81 3
                                      have r5_N295_ := ze_r N295_ 81 5
                                      have r7_N295_ := ze_r N295_ 81 7
                                      have e12_N295_ : ze N295_ 81 12 = ze N277_ 81 12 := hsN295_.e (by decide)
                                      have e13_N295_ : ze N295_ 81 13 = ze N277_ 81 13 := hsN295_.e (by decide)
                                      have r14_N295_ := ze_r N295_ 81 14
                                      have c297_ : zB 83 24 0 5 N295_ := zB.fr hsN295_ c287_ (by decide) (by decide)
                                      have c298_ : zB 85 144 0 5 N295_ := zB.fr hsN295_ hB85_ (by decide) (by decide)
                                      have c299_ : zPm N295_ := zPm.fr hsN295_ hPm_ (by decide) (by decide)
                                      have c300_ : zFin N295_ := zFin.fr hsN295_ hFn_ (by decide) (by decide)
                                      have c301_ : zGB T N295_ := zGB.fr hsN295_ hGB (by decide) (by decide)
                                      have c302_ : zGD N295_ := zGD.fr hsN295_ hGd (by decide) (by decide)
                                      rcases hp5_N295_ with ⟨ha82_0_hp5_N295_, ha82_1_hp5_N295_⟩ | ⟨ha82_0_hp5_N295_, ha82_1_hp5_N295_⟩
                                      · skip
                                        have hEx_ : ∃ T : zGT, T ∈ gTabs ∧ zGB T N295_ := ⟨T, hTt, c301_⟩
                                        show zW l m_M_reads (zn Mz + 0, zw Mz + 0) N295_ 85 [some (.ref 81)] [] (zpV [3, 4, 5, 6, 7, 8, 11, 12, 13, 14, 20, 25, 26, 38, 39, 41, 42, 43] [83, 85, 86, 87, 88, 89, 90, 91, 92, 93, 94, 95, 96, 97, 100, 101, 102] Mz (fun N => 0 ≤ ze N 81 13 ∧ ze N 81 13 ≤ 4 ∧ 0 ≤ ze N 81 14 ∧ ze N 81 14 ≤ 8 ∧ zB 83 24 0 5 N ∧ zB 85 144 0 5 N ∧ (((1 ≤ ze N 81 7 ∧ zmu N = 0) ∨ (ze N 81 7 = 0 ∧ 1 ≤ ze N 81 12 ∧ ze N 81 12 ≤ 6 ∧ zPm N ∧ zFin N ∧ (∃ T : zGT, T ∈ gTabs ∧ zGB T N))))))
                                        refine zw_goto (pc := 85) (tgt := 71) (by decide) d_M_reads_85 ?_
                                        exact ih_71 N295_ hb0_N295_ (show 0 ≤ ze N295_ 81 3 by first | assumption | omega) (show ze N295_ 81 3 ≤ ze N295_ 81 2 by first | assumption | omega) hp2_N295_ (show 0 ≤ ze N295_ 81 13 by first | assumption | omega) (show ze N295_ 81 13 ≤ 4 by first | assumption | omega) (show 0 ≤ ze N295_ 81 14 by first | assumption | omega) (show ze N295_ 81 14 ≤ 8 by first | assumption | omega) (show (1 ≤ ze N295_ 81 7 ∧ zmu N295_ = 0) ∨ (ze N295_ 81 7 = 0 ∧ 1 ≤ ze N295_ 81 12 ∧ ze N295_ 81 12 ≤ 6 ∧ zPm N295_ ∧ zFin N295_ ∧ (∃ T : zGT, T ∈ gTabs ∧ zGB T N295_)) from Or.inl (⟨(show 1 ≤ ze N295_ 81 7 by first | assumption | omega), (show zmu N295_ = 0 by first | assumption | omega)⟩)) (by omega)
                                      · skip
                                        have hEx_ : ∃ T : zGT, T ∈ gTabs ∧ zGB T N295_ := ⟨T, hTt, c301_⟩
                                        show zW l m_M_reads (zn Mz + 0, zw Mz + 0) N295_ 85 [some (.ref 81)] [] (zpV [3, 4, 5, 6, 7, 8, 11, 12, 13, 14, 20, 25, 26, 38, 39, 41, 42, 43] [83, 85, 86, 87, 88, 89, 90, 91, 92, 93, 94, 95, 96, 97, 100, 101, 102] Mz (fun N => 0 ≤ ze N 81 13 ∧ ze N 81 13 ≤ 4 ∧ 0 ≤ ze N 81 14 ∧ ze N 81 14 ≤ 8 ∧ zB 83 24 0 5 N ∧ zB 85 144 0 5 N ∧ (((1 ≤ ze N 81 7 ∧ zmu N = 0) ∨ (ze N 81 7 = 0 ∧ 1 ≤ ze N 81 12 ∧ ze N 81 12 ≤ 6 ∧ zPm N ∧ zFin N ∧ (∃ T : zGT, T ∈ gTabs ∧ zGB T N))))))
                                        refine zw_goto (pc := 85) (tgt := 71) (by decide) d_M_reads_85 ?_
                                        exact ih_71 N295_ hb0_N295_ (show 0 ≤ ze N295_ 81 3 by first | assumption | omega) (show ze N295_ 81 3 ≤ ze N295_ 81 2 by first | assumption | omega) hp2_N295_ (show 0 ≤ ze N295_ 81 13 by first | assumption | omega) (show ze N295_ 81 13 ≤ 4 by first | assumption | omega) (show 0 ≤ ze N295_ 81 14 by first | assumption | omega) (show ze N295_ 81 14 ≤ 8 by first | assumption | omega) (show (1 ≤ ze N295_ 81 7 ∧ zmu N295_ = 0) ∨ (ze N295_ 81 7 = 0 ∧ 1 ≤ ze N295_ 81 12 ∧ ze N295_ 81 12 ≤ 6 ∧ zPm N295_ ∧ zFin N295_ ∧ (∃ T : zGT, T ∈ gTabs ∧ zGB T N295_)) from Or.inr (⟨(show ze N295_ 81 7 = 0 by first | assumption | omega), (show 1 ≤ ze N295_ 81 12 by first | assumption | omega), (show ze N295_ 81 12 ≤ 6 by first | assumption | omega), (show zPm N295_ by first | assumption | omega), (show zFin N295_ by first | assumption | omega), (show (∃ T : zGT, T ∈ gTabs ∧ zGB T N295_) by first | assumption | omega)⟩)) (by omega)
                                  · skip
                                    show zW l m_M_reads (zn Mz + 0, zw Mz + 0) N277_ 78 [some (.ref 81)] [.int (Int32.ofInt 0)] (zpV [3, 4, 5, 6, 7, 8, 11, 12, 13, 14, 20, 25, 26, 38, 39, 41, 42, 43] [83, 85, 86, 87, 88, 89, 90, 91, 92, 93, 94, 95, 96, 97, 100, 101, 102] Mz (fun N => 0 ≤ ze N 81 13 ∧ ze N 81 13 ≤ 4 ∧ 0 ≤ ze N 81 14 ∧ ze N 81 14 ≤ 8 ∧ zB 83 24 0 5 N ∧ zB 85 144 0 5 N ∧ (((1 ≤ ze N 81 7 ∧ zmu N = 0) ∨ (ze N 81 7 = 0 ∧ 1 ≤ ze N 81 12 ∧ ze N 81 12 ≤ 6 ∧ zPm N ∧ zFin N ∧ (∃ T : zGT, T ∈ gTabs ∧ zGB T N))))))
                                    refine zr_if_eq (pc := 78) (tgt := 88) ⟨(by decide), (by decide)⟩ (by decide) d_M_reads_78 (fun hc_78 => ?_) (fun hc_78 => ?_)
                                    · skip
                                      refine zw_aload_n (pc := 88) (n := 0) (x := 81) rfl d_M_reads_88 ?_
                                      refine zr_callV (hf_N277_.w hW) hf_N277_.x (pc := 89) [] [] l_M_183 (c_M_isGood l N277_ (hf_N277_.w hW) ) rfl rfl rfl (by decide) (Nat.le_of_ble_eq_true rfl) d_M_reads_89 ?_
                                      rintro _ N303_ ⟨v304_, rfl, ⟨hv304_a, hv304_b⟩, hsN303_, hp0_N303_⟩
                                      obtain rfl := hsN303_.eq.symm
                                      replace hp0_N303_ : ((v304_ = 1 ∧ ze N277_ 81 7 = 0) ∨ (v304_ = 0 ∧ ze N277_ 81 7 ≠ 0)) := hp0_N303_
                                      rcases hp0_N303_ with ⟨rfl, ha89_0_hp0_N303_⟩ | ⟨rfl, ha89_0_hp0_N303_⟩
                                      · skip
                                        show zW l m_M_reads (zn Mz + 0, zw Mz + 0) N277_ 92 [some (.ref 81)] [.int (Int32.ofInt 1)] (zpV [3, 4, 5, 6, 7, 8, 11, 12, 13, 14, 20, 25, 26, 38, 39, 41, 42, 43] [83, 85, 86, 87, 88, 89, 90, 91, 92, 93, 94, 95, 96, 97, 100, 101, 102] Mz (fun N => 0 ≤ ze N 81 13 ∧ ze N 81 13 ≤ 4 ∧ 0 ≤ ze N 81 14 ∧ ze N 81 14 ≤ 8 ∧ zB 83 24 0 5 N ∧ zB 85 144 0 5 N ∧ (((1 ≤ ze N 81 7 ∧ zmu N = 0) ∨ (ze N 81 7 = 0 ∧ 1 ≤ ze N 81 12 ∧ ze N 81 12 ≤ 6 ∧ zPm N ∧ zFin N ∧ (∃ T : zGT, T ∈ gTabs ∧ zGB T N))))))
                                        refine zr_if_eq (pc := 92) (tgt := 107) ⟨(by decide), (by decide)⟩ (by decide) d_M_reads_92 (fun hc_92 => ?_) (fun hc_92 => ?_)
                                        · skip
                                          exact absurd hc_92 (by decide)
                                        · skip
                                          refine zw_aload_n (pc := 95) (n := 0) (x := 81) rfl d_M_reads_95 ?_
                                          refine zr_getI (hf_N277_.w hW) (pc := 96) f_M_155 rfl d_M_reads_96 ?_
                                          refine zr_if_eq (pc := 99) (tgt := 107) ⟨(ze_r N277_ 81 5).1, (ze_r N277_ 81 5).2⟩ (by decide) d_M_reads_99 (fun hc_99 => ?_) (fun hc_99 => ?_)
                                          · skip
                                            have hz0 := zmu_s N277_
                                            exact zr_vret (pc := 107) rfl hf_N277_ ⟨(show 0 ≤ ze N277_ 81 13 by first | assumption | omega), (show ze N277_ 81 13 ≤ 4 by first | assumption | omega), (show 0 ≤ ze N277_ 81 14 by first | assumption | omega), (show ze N277_ 81 14 ≤ 8 by first | assumption | omega), c287_, hB85_, (show ((1 ≤ ze N277_ 81 7 ∧ zmu N277_ = 0) ∨ (ze N277_ 81 7 = 0 ∧ 1 ≤ ze N277_ 81 12 ∧ ze N277_ 81 12 ≤ 6 ∧ zPm N277_ ∧ zFin N277_ ∧ (∃ T : zGT, T ∈ gTabs ∧ zGB T N277_))) from Or.inr (⟨(show ze N277_ 81 7 = 0 by first | assumption | omega), (show 1 ≤ ze N277_ 81 12 by first | assumption | omega), (show ze N277_ 81 12 ≤ 6 by first | assumption | omega), (show zPm N277_ by first | assumption | omega), (show zFin N277_ by first | assumption | omega), (show (∃ T : zGT, T ∈ gTabs ∧ zGB T N277_) by first | assumption | omega)⟩))⟩ d_M_reads_107
                                          · skip
                                            refine zw_aload_n (pc := 102) (n := 0) (x := 81) rfl d_M_reads_102 ?_
                                            refine zw_iconst (pc := 103) (v := Int32.ofInt 2) (by decide) d_M_reads_103 ?_
                                            refine zr_callV (hf_N277_.w hW) hf_N277_.x (pc := 104) [.int (Int32.ofInt 2)] [] l_M_190 (c_M_wrong l N277_ (hf_N277_.w hW) 2 (by decide) (by decide) (show ze N277_ 81 7 = 0 by first | assumption | omega) (show 1 ≤ 2 by first | assumption | omega)) rfl rfl rfl (by decide) (Nat.le_of_ble_eq_true rfl) d_M_reads_104 ?_
                                            rintro _ N305_ ⟨rfl, hsN305_, ⟨hp0_N305_, hp1_N305_⟩⟩
                                            have hf_N305_ : zFr [3, 4, 5, 6, 7, 8, 11, 12, 13, 14, 20, 25, 26, 38, 39, 41, 42, 43] [83, 85, 86, 87, 88, 89, 90, 91, 92, 93, 94, 95, 96, 97, 100, 101, 102] Mz N305_ := hf_N277_.tr hsN305_ (by decide) (by decide)
                                            have e2_N305_ : ze N305_ 81 2 = ze N277_ 81 2 := hsN305_.e (by decide)
                                            have e3_N305_ : ze N305_ 81 3 = ze N277_ 81 3 := hsN305_.e (by decide)
                                            have e5_N305_ : ze N305_ 81 5 = ze N277_ 81 5 := hsN305_.e (by decide)
                                            have r7_N305_ := ze_r N305_ 81 7
                                            have e12_N305_ : ze N305_ 81 12 = ze N277_ 81 12 := hsN305_.e (by decide)
                                            have e13_N305_ : ze N305_ 81 13 = ze N277_ 81 13 := hsN305_.e (by decide)
                                            have e14_N305_ : ze N305_ 81 14 = ze N277_ 81 14 := hsN305_.e (by decide)
                                            have c307_ : zB 83 24 0 5 N305_ := zB.fr hsN305_ c287_ (by decide) (by decide)
                                            have c308_ : zB 85 144 0 5 N305_ := zB.fr hsN305_ hB85_ (by decide) (by decide)
                                            have c309_ : zTv N305_ := zTv.fr hsN305_ i281_ (by decide) (by decide)
                                            have c310_ : zPm N305_ := zPm.fr hsN305_ hPm_ (by decide) (by decide)
                                            have c311_ : zFin N305_ := zFin.fr hsN305_ hFn_ (by decide) (by decide)
                                            have c312_ : zGB T N305_ := zGB.fr hsN305_ hGB (by decide) (by decide)
                                            have c313_ : zGD N305_ := zGD.fr hsN305_ hGd (by decide) (by decide)
                                            show zW l m_M_reads (zn Mz + 0, zw Mz + 0) N305_ 107 [some (.ref 81)] [] (zpV [3, 4, 5, 6, 7, 8, 11, 12, 13, 14, 20, 25, 26, 38, 39, 41, 42, 43] [83, 85, 86, 87, 88, 89, 90, 91, 92, 93, 94, 95, 96, 97, 100, 101, 102] Mz (fun N => 0 ≤ ze N 81 13 ∧ ze N 81 13 ≤ 4 ∧ 0 ≤ ze N 81 14 ∧ ze N 81 14 ≤ 8 ∧ zB 83 24 0 5 N ∧ zB 85 144 0 5 N ∧ (((1 ≤ ze N 81 7 ∧ zmu N = 0) ∨ (ze N 81 7 = 0 ∧ 1 ≤ ze N 81 12 ∧ ze N 81 12 ≤ 6 ∧ zPm N ∧ zFin N ∧ (∃ T : zGT, T ∈ gTabs ∧ zGB T N))))))
                                            have hz0 := zmu_s N305_
                                            exact zr_vret (pc := 107) rfl hf_N305_ ⟨(show 0 ≤ ze N305_ 81 13 by first | assumption | omega), (show ze N305_ 81 13 ≤ 4 by first | assumption | omega), (show 0 ≤ ze N305_ 81 14 by first | assumption | omega), (show ze N305_ 81 14 ≤ 8 by first | assumption | omega), c307_, c308_, (show ((1 ≤ ze N305_ 81 7 ∧ zmu N305_ = 0) ∨ (ze N305_ 81 7 = 0 ∧ 1 ≤ ze N305_ 81 12 ∧ ze N305_ 81 12 ≤ 6 ∧ zPm N305_ ∧ zFin N305_ ∧ (∃ T : zGT, T ∈ gTabs ∧ zGB T N305_))) from Or.inl (⟨(show 1 ≤ ze N305_ 81 7 by first | assumption | omega), (show zmu N305_ = 0 by first | assumption | omega)⟩))⟩ d_M_reads_107
                                      · skip
                                        exfalso; omega
                                    · skip
                                      exact absurd hc_78 (by decide)
                            exact lp_71 _ N261_ zFr.rf (show 0 ≤ ze N261_ 81 3 by first | assumption | omega) (show ze N261_ 81 3 ≤ ze N261_ 81 2 by first | assumption | omega) i265_ (show 0 ≤ ze N261_ 81 13 by first | assumption | omega) (show ze N261_ 81 13 ≤ 4 by first | assumption | omega) (show 0 ≤ ze N261_ 81 14 by first | assumption | omega) (show ze N261_ 81 14 ≤ 8 by first | assumption | omega) (show (1 ≤ ze N261_ 81 7 ∧ zmu N261_ = 0) ∨ (ze N261_ 81 7 = 0 ∧ 1 ≤ ze N261_ 81 12 ∧ ze N261_ 81 12 ≤ 6 ∧ zPm N261_ ∧ zFin N261_ ∧ (∃ T : zGT, T ∈ gTabs ∧ zGB T N261_)) from Or.inl (⟨(show 1 ≤ ze N261_ 81 7 by first | assumption | omega), (show zmu N261_ = 0 by first | assumption | omega)⟩)) (Nat.lt_succ_self _)
                          · skip
                            exact absurd hc_64 (by decide)
                      · skip
                        exact absurd hc_50 (by decide)
                  · skip
                    have hPm_ := (show zPm N261_ by assumption)
                    have hFn_ := (show zFin N261_ by assumption)
                    have hz_N261_ := zmu_p N261_ (by omega) (by omega)
                    refine zw_aload_n (pc := 43) (n := 0) (x := 81) rfl d_M_reads_43 ?_
                    refine zr_ldc2 (pc := 44) (n := 1836021349) (by decide) k_M_177 d_M_reads_44 ?_
                    refine zr_callV (hf_N261_.w hW) hf_N261_.x (pc := 47) [.long (Int64.ofInt 1836021349)] [] l_M_312 (c_M_isWord l N261_ (hf_N261_.w hW) 1836021349 (by decide) (by decide)) rfl rfl rfl (by decide) (Nat.le_of_ble_eq_true rfl) d_M_reads_47 ?_
                    rintro _ N314_ ⟨v315_, rfl, ⟨hv315_a, hv315_b⟩, hsN314_, hp0_N314_⟩
                    obtain rfl := hsN314_.eq.symm
                    replace hp0_N314_ : ((v315_ = 1 ∧ ze N261_ 81 7 = 0 ∧ ze N261_ 81 5 = 1) ∨ (v315_ = 0)) := hp0_N314_
                    rcases hp0_N314_ with ⟨rfl, ha47_0_hp0_N314_, ha47_1_hp0_N314_⟩ | rfl
                    · skip
                      show zW l m_M_reads (zn Mz + 0, zw Mz + 0) N261_ 50 [some (.ref 81)] [.int (Int32.ofInt 1)] (zpV [3, 4, 5, 6, 7, 8, 11, 12, 13, 14, 20, 25, 26, 38, 39, 41, 42, 43] [83, 85, 86, 87, 88, 89, 90, 91, 92, 93, 94, 95, 96, 97, 100, 101, 102] Mz (fun N => 0 ≤ ze N 81 13 ∧ ze N 81 13 ≤ 4 ∧ 0 ≤ ze N 81 14 ∧ ze N 81 14 ≤ 8 ∧ zB 83 24 0 5 N ∧ zB 85 144 0 5 N ∧ (((1 ≤ ze N 81 7 ∧ zmu N = 0) ∨ (ze N 81 7 = 0 ∧ 1 ≤ ze N 81 12 ∧ ze N 81 12 ≤ 6 ∧ zPm N ∧ zFin N ∧ (∃ T : zGT, T ∈ gTabs ∧ zGB T N))))))
                      refine zr_if_eq (pc := 50) (tgt := 60) ⟨(by decide), (by decide)⟩ (by decide) d_M_reads_50 (fun hc_50 => ?_) (fun hc_50 => ?_)
                      · skip
                        exact absurd hc_50 (by decide)
                      · skip
                        refine zw_aload_n (pc := 53) (n := 0) (x := 81) rfl d_M_reads_53 ?_
                        refine zr_callV (hf_N261_.w hW) hf_N261_.x (pc := 54) [] [] l_M_361 (c_M_moveLine l N261_ (hf_N261_.w hW) (show 0 ≤ ze N261_ 81 3 by first | assumption | omega) (show ze N261_ 81 3 ≤ ze N261_ 81 2 by first | assumption | omega) (show ze N261_ 81 2 ≤ 700 by first | assumption | omega) i265_ (show ze N261_ 81 7 = 0 by first | assumption | omega) (show ze N261_ 81 5 = 1 by first | assumption | omega) (show 1 ≤ ze N261_ 81 12 by first | assumption | omega) (show ze N261_ 81 12 ≤ 6 by first | assumption | omega) (show 0 ≤ ze N261_ 81 13 by first | assumption | omega) (show ze N261_ 81 13 ≤ 4 by first | assumption | omega) hPm_ i271_ i272_) rfl rfl rfl (by decide) (Nat.le_of_ble_eq_true rfl) d_M_reads_54 ?_
                        rintro _ N316_ ⟨rfl, hsN316_, ⟨hp0_N316_, hp1_N316_, hp2_N316_, hp3_N316_, hp4_N316_, hp5_N316_, hp6_N316_, hp7_N316_⟩⟩
                        have hf_N316_ : zFr [3, 4, 5, 6, 7, 8, 11, 12, 13, 14, 20, 25, 26, 38, 39, 41, 42, 43] [83, 85, 86, 87, 88, 89, 90, 91, 92, 93, 94, 95, 96, 97, 100, 101, 102] Mz N316_ := hf_N261_.tr hsN316_ (by decide) (by decide)
                        have hb0_N316_ : zFr [3, 4, 5, 6, 7, 8, 11, 13, 20] [83, 85, 86, 87, 88] N257_ N316_ := hs262_.tr hsN316_ (by decide) (by decide)
                        have e2_N316_ : ze N316_ 81 2 = ze N261_ 81 2 := hsN316_.e (by decide)
                        have r3_N316_ := ze_r N316_ 81 3
                        have r5_N316_ := ze_r N316_ 81 5
                        have r7_N316_ := ze_r N316_ 81 7
                        have e12_N316_ : ze N316_ 81 12 = ze N261_ 81 12 := hsN316_.e (by decide)
                        have r13_N316_ := ze_r N316_ 81 13
                        have e14_N316_ : ze N316_ 81 14 = ze N261_ 81 14 := hsN316_.e (by decide)
                        rcases hp7_N316_ with ⟨ha54_0_hp7_N316_, ha54_1_hp7_N316_⟩ | ⟨ha54_0_hp7_N316_, ha54_1_hp7_N316_, ha54_2_hp7_N316_, ha54_3_hp7_N316_⟩
                        · skip
                          show zW l m_M_reads (zn Mz + 0, zw Mz + 0) N316_ 57 [some (.ref 81)] [] (zpV [3, 4, 5, 6, 7, 8, 11, 12, 13, 14, 20, 25, 26, 38, 39, 41, 42, 43] [83, 85, 86, 87, 88, 89, 90, 91, 92, 93, 94, 95, 96, 97, 100, 101, 102] Mz (fun N => 0 ≤ ze N 81 13 ∧ ze N 81 13 ≤ 4 ∧ 0 ≤ ze N 81 14 ∧ ze N 81 14 ≤ 8 ∧ zB 83 24 0 5 N ∧ zB 85 144 0 5 N ∧ (((1 ≤ ze N 81 7 ∧ zmu N = 0) ∨ (ze N 81 7 = 0 ∧ 1 ≤ ze N 81 12 ∧ ze N 81 12 ≤ 6 ∧ zPm N ∧ zFin N ∧ (∃ T : zGT, T ∈ gTabs ∧ zGB T N))))))
                          refine zw_goto (pc := 57) (tgt := 43) (by decide) d_M_reads_57 ?_
                          exact ih_43 N316_ hb0_N316_ (show 0 ≤ ze N316_ 81 3 by first | assumption | omega) (show ze N316_ 81 3 ≤ ze N316_ 81 2 by first | assumption | omega) hp2_N316_ (show 0 ≤ ze N316_ 81 13 by first | assumption | omega) (show ze N316_ 81 13 ≤ 4 by first | assumption | omega) (show 0 ≤ ze N316_ 81 14 by first | assumption | omega) (show ze N316_ 81 14 ≤ 8 by first | assumption | omega) (show (1 ≤ ze N316_ 81 7 ∧ zmu N316_ = 0) ∨ (ze N316_ 81 7 = 0 ∧ 1 ≤ ze N316_ 81 12 ∧ ze N316_ 81 12 ≤ 6 ∧ zPm N316_ ∧ zFin N316_) from Or.inl (⟨(show 1 ≤ ze N316_ 81 7 by first | assumption | omega), (show zmu N316_ = 0 by first | assumption | omega)⟩)) hp5_N316_ hp6_N316_ (by omega)
                        · skip
                          show zW l m_M_reads (zn Mz + 0, zw Mz + 0) N316_ 57 [some (.ref 81)] [] (zpV [3, 4, 5, 6, 7, 8, 11, 12, 13, 14, 20, 25, 26, 38, 39, 41, 42, 43] [83, 85, 86, 87, 88, 89, 90, 91, 92, 93, 94, 95, 96, 97, 100, 101, 102] Mz (fun N => 0 ≤ ze N 81 13 ∧ ze N 81 13 ≤ 4 ∧ 0 ≤ ze N 81 14 ∧ ze N 81 14 ≤ 8 ∧ zB 83 24 0 5 N ∧ zB 85 144 0 5 N ∧ (((1 ≤ ze N 81 7 ∧ zmu N = 0) ∨ (ze N 81 7 = 0 ∧ 1 ≤ ze N 81 12 ∧ ze N 81 12 ≤ 6 ∧ zPm N ∧ zFin N ∧ (∃ T : zGT, T ∈ gTabs ∧ zGB T N))))))
                          refine zw_goto (pc := 57) (tgt := 43) (by decide) d_M_reads_57 ?_
                          exact ih_43 N316_ hb0_N316_ (show 0 ≤ ze N316_ 81 3 by first | assumption | omega) (show ze N316_ 81 3 ≤ ze N316_ 81 2 by first | assumption | omega) hp2_N316_ (show 0 ≤ ze N316_ 81 13 by first | assumption | omega) (show ze N316_ 81 13 ≤ 4 by first | assumption | omega) (show 0 ≤ ze N316_ 81 14 by first | assumption | omega) (show ze N316_ 81 14 ≤ 8 by first | assumption | omega) (show (1 ≤ ze N316_ 81 7 ∧ zmu N316_ = 0) ∨ (ze N316_ 81 7 = 0 ∧ 1 ≤ ze N316_ 81 12 ∧ ze N316_ 81 12 ≤ 6 ∧ zPm N316_ ∧ zFin N316_) from Or.inr (⟨(show ze N316_ 81 7 = 0 by first | assumption | omega), (show 1 ≤ ze N316_ 81 12 by first | assumption | omega), (show ze N316_ 81 12 ≤ 6 by first | assumption | omega), (show zPm N316_ by first | assumption | omega), (show zFin N316_ by first | assumption | omega)⟩)) hp5_N316_ hp6_N316_ (by omega)
                    · skip
                      show zW l m_M_reads (zn Mz + 0, zw Mz + 0) N261_ 50 [some (.ref 81)] [.int (Int32.ofInt 0)] (zpV [3, 4, 5, 6, 7, 8, 11, 12, 13, 14, 20, 25, 26, 38, 39, 41, 42, 43] [83, 85, 86, 87, 88, 89, 90, 91, 92, 93, 94, 95, 96, 97, 100, 101, 102] Mz (fun N => 0 ≤ ze N 81 13 ∧ ze N 81 13 ≤ 4 ∧ 0 ≤ ze N 81 14 ∧ ze N 81 14 ≤ 8 ∧ zB 83 24 0 5 N ∧ zB 85 144 0 5 N ∧ (((1 ≤ ze N 81 7 ∧ zmu N = 0) ∨ (ze N 81 7 = 0 ∧ 1 ≤ ze N 81 12 ∧ ze N 81 12 ≤ 6 ∧ zPm N ∧ zFin N ∧ (∃ T : zGT, T ∈ gTabs ∧ zGB T N))))))
                      refine zr_if_eq (pc := 50) (tgt := 60) ⟨(by decide), (by decide)⟩ (by decide) d_M_reads_50 (fun hc_50 => ?_) (fun hc_50 => ?_)
                      · skip
                        refine zw_aload_n (pc := 60) (n := 0) (x := 81) rfl d_M_reads_60 ?_
                        refine zr_callV (hf_N261_.w hW) hf_N261_.x (pc := 61) [] [] l_M_183 (c_M_isGood l N261_ (hf_N261_.w hW) ) rfl rfl rfl (by decide) (Nat.le_of_ble_eq_true rfl) d_M_reads_61 ?_
                        rintro _ N318_ ⟨v319_, rfl, ⟨hv319_a, hv319_b⟩, hsN318_, hp0_N318_⟩
                        obtain rfl := hsN318_.eq.symm
                        replace hp0_N318_ : ((v319_ = 1 ∧ ze N261_ 81 7 = 0) ∨ (v319_ = 0 ∧ ze N261_ 81 7 ≠ 0)) := hp0_N318_
                        rcases hp0_N318_ with ⟨rfl, ha61_0_hp0_N318_⟩ | ⟨rfl, ha61_0_hp0_N318_⟩
                        · skip
                          show zW l m_M_reads (zn Mz + 0, zw Mz + 0) N261_ 64 [some (.ref 81)] [.int (Int32.ofInt 1)] (zpV [3, 4, 5, 6, 7, 8, 11, 12, 13, 14, 20, 25, 26, 38, 39, 41, 42, 43] [83, 85, 86, 87, 88, 89, 90, 91, 92, 93, 94, 95, 96, 97, 100, 101, 102] Mz (fun N => 0 ≤ ze N 81 13 ∧ ze N 81 13 ≤ 4 ∧ 0 ≤ ze N 81 14 ∧ ze N 81 14 ≤ 8 ∧ zB 83 24 0 5 N ∧ zB 85 144 0 5 N ∧ (((1 ≤ ze N 81 7 ∧ zmu N = 0) ∨ (ze N 81 7 = 0 ∧ 1 ≤ ze N 81 12 ∧ ze N 81 12 ≤ 6 ∧ zPm N ∧ zFin N ∧ (∃ T : zGT, T ∈ gTabs ∧ zGB T N))))))
                          refine zr_if_eq (pc := 64) (tgt := 71) ⟨(by decide), (by decide)⟩ (by decide) d_M_reads_64 (fun hc_64 => ?_) (fun hc_64 => ?_)
                          · skip
                            exact absurd hc_64 (by decide)
                          · skip
                            refine zw_aload_n (pc := 67) (n := 0) (x := 81) rfl d_M_reads_67 ?_
                            refine zr_callV (hf_N261_.w hW) hf_N261_.x (pc := 68) [] [] l_M_118 (c_M_builds l N261_ (hf_N261_.w hW) (show 1 ≤ ze N261_ 81 12 by first | assumption | omega) (show ze N261_ 81 12 ≤ 6 by first | assumption | omega) (show 0 ≤ ze N261_ 81 13 by first | assumption | omega) (show ze N261_ 81 13 ≤ 4 by first | assumption | omega) hPm_ hFn_ i271_ i272_) rfl rfl rfl (by decide) (Nat.le_of_ble_eq_true rfl) d_M_reads_68 ?_
                            rintro _ N320_ ⟨rfl, hsN320_, hp0_N320_⟩
                            replace hp0_N320_ : ∃ T : zGT, T ∈ gTabs ∧ zGB T N320_ := hp0_N320_
                            have hf_N320_ : zFr [3, 4, 5, 6, 7, 8, 11, 12, 13, 14, 20, 25, 26, 38, 39, 41, 42, 43] [83, 85, 86, 87, 88, 89, 90, 91, 92, 93, 94, 95, 96, 97, 100, 101, 102] Mz N320_ := hf_N261_.tr hsN320_ (by decide) (by decide)
                            have e2_N320_ : ze N320_ 81 2 = ze N261_ 81 2 := hsN320_.e (by decide)
                            have e3_N320_ : ze N320_ 81 3 = ze N261_ 81 3 := hsN320_.e (by decide)
                            have e5_N320_ : ze N320_ 81 5 = ze N261_ 81 5 := hsN320_.e (by decide)
                            have e7_N320_ : ze N320_ 81 7 = ze N261_ 81 7 := hsN320_.e (by decide)
                            have e12_N320_ : ze N320_ 81 12 = ze N261_ 81 12 := hsN320_.e (by decide)
                            have e13_N320_ : ze N320_ 81 13 = ze N261_ 81 13 := hsN320_.e (by decide)
                            have e14_N320_ : ze N320_ 81 14 = ze N261_ 81 14 := hsN320_.e (by decide)
                            have qzmu_N320_ : zmu N320_ = zmu N261_ := zmu_f hsN320_ (by decide)
                            have c322_ : zTv N320_ := zTv.fr hsN320_ i265_ (by decide) (by decide)
                            have c323_ : zB 83 24 0 5 N320_ := zB.fr hsN320_ i271_ (by decide) (by decide)
                            have c324_ : zPm N320_ := zPm.fr hsN320_ hPm_ (by decide) (by decide)
                            have c325_ : zFin N320_ := zFin.fr hsN320_ hFn_ (by decide) (by decide)
                            show zW l m_M_reads (zn Mz + 0, zw Mz + 0) N320_ 71 [some (.ref 81)] [] (zpV [3, 4, 5, 6, 7, 8, 11, 12, 13, 14, 20, 25, 26, 38, 39, 41, 42, 43] [83, 85, 86, 87, 88, 89, 90, 91, 92, 93, 94, 95, 96, 97, 100, 101, 102] Mz (fun N => 0 ≤ ze N 81 13 ∧ ze N 81 13 ≤ 4 ∧ 0 ≤ ze N 81 14 ∧ ze N 81 14 ≤ 8 ∧ zB 83 24 0 5 N ∧ zB 85 144 0 5 N ∧ (((1 ≤ ze N 81 7 ∧ zmu N = 0) ∨ (ze N 81 7 = 0 ∧ 1 ≤ ze N 81 12 ∧ ze N 81 12 ≤ 6 ∧ zPm N ∧ zFin N ∧ (∃ T : zGT, T ∈ gTabs ∧ zGB T N))))))
                            obtain ⟨T, hTt, hGB⟩ := id hp0_N320_
                            have hB85_ : zB 85 144 0 5 N320_ := hGB.2.1
                            have hO := gTabs_ok T hTt
                            have hGd := zGB.d hO hGB
                            have lp_71 : ∀ (n : Nat) (N326_ : zMem) (hs327_ : zFr [3, 4, 5, 6, 7, 8, 11, 14, 38, 39, 41, 42, 43] [95, 96, 97, 100, 101, 102] N320_ N326_) (i328_ : 0 ≤ ze N326_ 81 3) (i329_ : ze N326_ 81 3 ≤ ze N326_ 81 2) (i330_ : zTv N326_) (i331_ : 0 ≤ ze N326_ 81 13) (i332_ : ze N326_ 81 13 ≤ 4) (i333_ : 0 ≤ ze N326_ 81 14) (i334_ : ze N326_ 81 14 ≤ 8) (i335_ : (1 ≤ ze N326_ 81 7 ∧ zmu N326_ = 0) ∨ (ze N326_ 81 7 = 0 ∧ 1 ≤ ze N326_ 81 12 ∧ ze N326_ 81 12 ≤ 6 ∧ zPm N326_ ∧ zFin N326_ ∧ (∃ T : zGT, T ∈ gTabs ∧ zGB T N326_))), (zmu N326_).toNat < n → zW l m_M_reads (zn Mz + 0, zw Mz + 0) N326_ 71 [some (.ref 81)] [] (zpV [3, 4, 5, 6, 7, 8, 11, 12, 13, 14, 20, 25, 26, 38, 39, 41, 42, 43] [83, 85, 86, 87, 88, 89, 90, 91, 92, 93, 94, 95, 96, 97, 100, 101, 102] Mz (fun N => 0 ≤ ze N 81 13 ∧ ze N 81 13 ≤ 4 ∧ 0 ≤ ze N 81 14 ∧ ze N 81 14 ≤ 8 ∧ zB 83 24 0 5 N ∧ zB 85 144 0 5 N ∧ (((1 ≤ ze N 81 7 ∧ zmu N = 0) ∨ (ze N 81 7 = 0 ∧ 1 ≤ ze N 81 12 ∧ ze N 81 12 ≤ 6 ∧ zPm N ∧ zFin N ∧ (∃ T : zGT, T ∈ gTabs ∧ zGB T N)))))) := by
                              clear hp0_N257_ hp1_N257_ hp2_N257_ hf_N257_ r3_N257_ r5_N257_ r7_N257_ c259_ c260_ ha40_0_hp3_N257_ ha40_1_hp3_N257_ hs262_ e2_N261_ e12_N261_ e14_N261_ hv315_a hv315_b hv319_a hv319_b
                              intro n
                              induction n with
                              | zero =>
                                intro N326_ hs327_ i328_ i329_ i330_ i331_ i332_ i333_ i334_ i335_ h0
                                exact absurd h0 (Nat.not_lt_zero _)
                              | succ n ih_71 =>
                                intro N326_ hs327_ i328_ i329_ i330_ i331_ i332_ i333_ i334_ i335_ hlt_71
                                have hf_N326_ : zFr [3, 4, 5, 6, 7, 8, 11, 12, 13, 14, 20, 25, 26, 38, 39, 41, 42, 43] [83, 85, 86, 87, 88, 89, 90, 91, 92, 93, 94, 95, 96, 97, 100, 101, 102] Mz N326_ := hf_N320_.tr hs327_ (by decide) (by decide)
                                have e2_N326_ : ze N326_ 81 2 = ze N320_ 81 2 := hs327_.e (by decide)
                                have r3_N326_ := ze_r N326_ 81 3
                                have r5_N326_ := ze_r N326_ 81 5
                                have r7_N326_ := ze_r N326_ 81 7
                                have e12_N326_ : ze N326_ 81 12 = ze N320_ 81 12 := hs327_.e (by decide)
                                have e13_N326_ : ze N326_ 81 13 = ze N320_ 81 13 := hs327_.e (by decide)
                                have r14_N326_ := ze_r N326_ 81 14
                                have c336_ : zB 83 24 0 5 N326_ := zB.fr hs327_ c323_ (by decide) (by decide)
                                have c337_ : zPm N326_ := zPm.fr hs327_ c324_ (by decide) (by decide)
                                have c338_ : zFin N326_ := zFin.fr hs327_ c325_ (by decide) (by decide)
                                have c339_ : zB 85 144 0 5 N326_ := zB.fr hs327_ hB85_ (by decide) (by decide)
                                have c340_ : zGB T N326_ := zGB.fr hs327_ hGB (by decide) (by decide)
                                have c341_ : zGD N326_ := zGD.fr hs327_ hGd (by decide) (by decide)
                                have zz2_N326_ : ze N326_ 81 2 = ze Mz 81 2 := hf_N326_.e (by decide)
                                rcases i335_ with ⟨hl71_0_i335_, hl71_1_i335_⟩ | ⟨hl71_0_i335_, hl71_1_i335_, hl71_2_i335_, hl71_3_i335_, hl71_4_i335_, hl71_5_i335_⟩
                                · skip
                                  refine zw_aload_n (pc := 71) (n := 0) (x := 81) rfl d_M_reads_71 ?_
                                  refine zr_ldc2 (pc := 72) (n := 7103860) (by decide) k_M_179 d_M_reads_72 ?_
                                  refine zr_callV (hf_N326_.w hW) hf_N326_.x (pc := 75) [.long (Int64.ofInt 7103860)] [] l_M_312 (c_M_isWord l N326_ (hf_N326_.w hW) 7103860 (by decide) (by decide)) rfl rfl rfl (by decide) (Nat.le_of_ble_eq_true rfl) d_M_reads_75 ?_
                                  rintro _ N342_ ⟨v343_, rfl, ⟨hv343_a, hv343_b⟩, hsN342_, hp0_N342_⟩
                                  obtain rfl := hsN342_.eq.symm
                                  replace hp0_N342_ : ((v343_ = 1 ∧ ze N326_ 81 7 = 0 ∧ ze N326_ 81 5 = 1) ∨ (v343_ = 0)) := hp0_N342_
                                  rcases hp0_N342_ with ⟨rfl, ha75_0_hp0_N342_, ha75_1_hp0_N342_⟩ | rfl
                                  · skip
                                    exfalso; omega
                                  · skip
                                    show zW l m_M_reads (zn Mz + 0, zw Mz + 0) N326_ 78 [some (.ref 81)] [.int (Int32.ofInt 0)] (zpV [3, 4, 5, 6, 7, 8, 11, 12, 13, 14, 20, 25, 26, 38, 39, 41, 42, 43] [83, 85, 86, 87, 88, 89, 90, 91, 92, 93, 94, 95, 96, 97, 100, 101, 102] Mz (fun N => 0 ≤ ze N 81 13 ∧ ze N 81 13 ≤ 4 ∧ 0 ≤ ze N 81 14 ∧ ze N 81 14 ≤ 8 ∧ zB 83 24 0 5 N ∧ zB 85 144 0 5 N ∧ (((1 ≤ ze N 81 7 ∧ zmu N = 0) ∨ (ze N 81 7 = 0 ∧ 1 ≤ ze N 81 12 ∧ ze N 81 12 ≤ 6 ∧ zPm N ∧ zFin N ∧ (∃ T : zGT, T ∈ gTabs ∧ zGB T N))))))
                                    refine zr_if_eq (pc := 78) (tgt := 88) ⟨(by decide), (by decide)⟩ (by decide) d_M_reads_78 (fun hc_78 => ?_) (fun hc_78 => ?_)
                                    · skip
                                      refine zw_aload_n (pc := 88) (n := 0) (x := 81) rfl d_M_reads_88 ?_
                                      refine zr_callV (hf_N326_.w hW) hf_N326_.x (pc := 89) [] [] l_M_183 (c_M_isGood l N326_ (hf_N326_.w hW) ) rfl rfl rfl (by decide) (Nat.le_of_ble_eq_true rfl) d_M_reads_89 ?_
                                      rintro _ N344_ ⟨v345_, rfl, ⟨hv345_a, hv345_b⟩, hsN344_, hp0_N344_⟩
                                      obtain rfl := hsN344_.eq.symm
                                      replace hp0_N344_ : ((v345_ = 1 ∧ ze N326_ 81 7 = 0) ∨ (v345_ = 0 ∧ ze N326_ 81 7 ≠ 0)) := hp0_N344_
                                      rcases hp0_N344_ with ⟨rfl, ha89_0_hp0_N344_⟩ | ⟨rfl, ha89_0_hp0_N344_⟩
                                      · skip
                                        exfalso; omega
                                      · skip
                                        show zW l m_M_reads (zn Mz + 0, zw Mz + 0) N326_ 92 [some (.ref 81)] [.int (Int32.ofInt 0)] (zpV [3, 4, 5, 6, 7, 8, 11, 12, 13, 14, 20, 25, 26, 38, 39, 41, 42, 43] [83, 85, 86, 87, 88, 89, 90, 91, 92, 93, 94, 95, 96, 97, 100, 101, 102] Mz (fun N => 0 ≤ ze N 81 13 ∧ ze N 81 13 ≤ 4 ∧ 0 ≤ ze N 81 14 ∧ ze N 81 14 ≤ 8 ∧ zB 83 24 0 5 N ∧ zB 85 144 0 5 N ∧ (((1 ≤ ze N 81 7 ∧ zmu N = 0) ∨ (ze N 81 7 = 0 ∧ 1 ≤ ze N 81 12 ∧ ze N 81 12 ≤ 6 ∧ zPm N ∧ zFin N ∧ (∃ T : zGT, T ∈ gTabs ∧ zGB T N))))))
                                        refine zr_if_eq (pc := 92) (tgt := 107) ⟨(by decide), (by decide)⟩ (by decide) d_M_reads_92 (fun hc_92 => ?_) (fun hc_92 => ?_)
                                        · skip
                                          have hz0 := zmu_s N326_
                                          exact zr_vret (pc := 107) rfl hf_N326_ ⟨(show 0 ≤ ze N326_ 81 13 by first | assumption | omega), (show ze N326_ 81 13 ≤ 4 by first | assumption | omega), (show 0 ≤ ze N326_ 81 14 by first | assumption | omega), (show ze N326_ 81 14 ≤ 8 by first | assumption | omega), c336_, c339_, (show ((1 ≤ ze N326_ 81 7 ∧ zmu N326_ = 0) ∨ (ze N326_ 81 7 = 0 ∧ 1 ≤ ze N326_ 81 12 ∧ ze N326_ 81 12 ≤ 6 ∧ zPm N326_ ∧ zFin N326_ ∧ (∃ T : zGT, T ∈ gTabs ∧ zGB T N326_))) from Or.inl (⟨(show 1 ≤ ze N326_ 81 7 by first | assumption | omega), (show zmu N326_ = 0 by first | assumption | omega)⟩))⟩ d_M_reads_107
                                        · skip
                                          exact absurd hc_92 (by decide)
                                    · skip
                                      exact absurd hc_78 (by decide)
                                · skip
                                  have hPm_ := (show zPm N326_ by assumption)
                                  have hFn_ := (show zFin N326_ by assumption)
                                  obtain ⟨T, hTt, hGB⟩ := (show ∃ T : zGT, T ∈ gTabs ∧ zGB T N326_ by assumption)
                                  have hB85_ : zB 85 144 0 5 N326_ := hGB.2.1
                                  have hO := gTabs_ok T hTt
                                  have hGd := zGB.d hO hGB
                                  have hz_N326_ := zmu_p N326_ (by omega) (by omega)
                                  refine zw_aload_n (pc := 71) (n := 0) (x := 81) rfl d_M_reads_71 ?_
                                  refine zr_ldc2 (pc := 72) (n := 7103860) (by decide) k_M_179 d_M_reads_72 ?_
                                  refine zr_callV (hf_N326_.w hW) hf_N326_.x (pc := 75) [.long (Int64.ofInt 7103860)] [] l_M_312 (c_M_isWord l N326_ (hf_N326_.w hW) 7103860 (by decide) (by decide)) rfl rfl rfl (by decide) (Nat.le_of_ble_eq_true rfl) d_M_reads_75 ?_
                                  rintro _ N346_ ⟨v347_, rfl, ⟨hv347_a, hv347_b⟩, hsN346_, hp0_N346_⟩
                                  obtain rfl := hsN346_.eq.symm
                                  replace hp0_N346_ : ((v347_ = 1 ∧ ze N326_ 81 7 = 0 ∧ ze N326_ 81 5 = 1) ∨ (v347_ = 0)) := hp0_N346_
                                  rcases hp0_N346_ with ⟨rfl, ha75_0_hp0_N346_, ha75_1_hp0_N346_⟩ | rfl
                                  · skip
                                    show zW l m_M_reads (zn Mz + 0, zw Mz + 0) N326_ 78 [some (.ref 81)] [.int (Int32.ofInt 1)] (zpV [3, 4, 5, 6, 7, 8, 11, 12, 13, 14, 20, 25, 26, 38, 39, 41, 42, 43] [83, 85, 86, 87, 88, 89, 90, 91, 92, 93, 94, 95, 96, 97, 100, 101, 102] Mz (fun N => 0 ≤ ze N 81 13 ∧ ze N 81 13 ≤ 4 ∧ 0 ≤ ze N 81 14 ∧ ze N 81 14 ≤ 8 ∧ zB 83 24 0 5 N ∧ zB 85 144 0 5 N ∧ (((1 ≤ ze N 81 7 ∧ zmu N = 0) ∨ (ze N 81 7 = 0 ∧ 1 ≤ ze N 81 12 ∧ ze N 81 12 ≤ 6 ∧ zPm N ∧ zFin N ∧ (∃ T : zGT, T ∈ gTabs ∧ zGB T N))))))
                                    refine zr_if_eq (pc := 78) (tgt := 88) ⟨(by decide), (by decide)⟩ (by decide) d_M_reads_78 (fun hc_78 => ?_) (fun hc_78 => ?_)
                                    · skip
                                      exact absurd hc_78 (by decide)
                                    · skip
                                      refine zw_aload_n (pc := 81) (n := 0) (x := 81) rfl d_M_reads_81 ?_
                                      refine zr_callV (hf_N326_.w hW) hf_N326_.x (pc := 82) [] [] l_M_364 (c_M_letLine l N326_ (hf_N326_.w hW) hGd (show 0 ≤ ze N326_ 81 3 by first | assumption | omega) (show ze N326_ 81 3 ≤ ze N326_ 81 2 by first | assumption | omega) (show ze N326_ 81 2 ≤ 700 by first | assumption | omega) i330_ (show ze N326_ 81 7 = 0 by first | assumption | omega) (show ze N326_ 81 5 = 1 by first | assumption | omega) (show 0 ≤ ze N326_ 81 14 by first | assumption | omega) (show ze N326_ 81 14 ≤ 8 by first | assumption | omega)) rfl rfl rfl (by decide) (Nat.le_of_ble_eq_true rfl) d_M_reads_82 ?_
                                      rintro _ N348_ ⟨rfl, hsN348_, ⟨hp0_N348_, hp1_N348_, hp2_N348_, hp3_N348_, hp4_N348_, hp5_N348_⟩⟩
                                      have hf_N348_ : zFr [3, 4, 5, 6, 7, 8, 11, 12, 13, 14, 20, 25, 26, 38, 39, 41, 42, 43] [83, 85, 86, 87, 88, 89, 90, 91, 92, 93, 94, 95, 96, 97, 100, 101, 102] Mz N348_ := hf_N326_.tr hsN348_ (by decide) (by decide)
                                      have hb0_N348_ : zFr [3, 4, 5, 6, 7, 8, 11, 14, 38, 39, 41, 42, 43] [95, 96, 97, 100, 101, 102] N320_ N348_ := hs327_.tr hsN348_ (by decide) (by decide)
                                      have e2_N348_ : ze N348_ 81 2 = ze N326_ 81 2 := hsN348_.e (by decide)
                                      have r3_N348_ := ze_r N348_ 81 3
                                      have r5_N348_ := ze_r N348_ 81 5
                                      have r7_N348_ := ze_r N348_ 81 7
                                      have e12_N348_ : ze N348_ 81 12 = ze N326_ 81 12 := hsN348_.e (by decide)
                                      have e13_N348_ : ze N348_ 81 13 = ze N326_ 81 13 := hsN348_.e (by decide)
                                      have r14_N348_ := ze_r N348_ 81 14
                                      have c350_ : zB 83 24 0 5 N348_ := zB.fr hsN348_ c336_ (by decide) (by decide)
                                      have c351_ : zPm N348_ := zPm.fr hsN348_ hPm_ (by decide) (by decide)
                                      have c352_ : zFin N348_ := zFin.fr hsN348_ hFn_ (by decide) (by decide)
                                      have c353_ : zB 85 144 0 5 N348_ := zB.fr hsN348_ hB85_ (by decide) (by decide)
                                      have c354_ : zGB T N348_ := zGB.fr hsN348_ hGB (by decide) (by decide)
                                      have c355_ : zGD N348_ := zGD.fr hsN348_ hGd (by decide) (by decide)
                                      rcases hp5_N348_ with ⟨ha82_0_hp5_N348_, ha82_1_hp5_N348_⟩ | ⟨ha82_0_hp5_N348_, ha82_1_hp5_N348_⟩
                                      · skip
                                        have hEx_ : ∃ T : zGT, T ∈ gTabs ∧ zGB T N348_ := ⟨T, hTt, c354_⟩
                                        show zW l m_M_reads (zn Mz + 0, zw Mz + 0) N348_ 85 [some (.ref 81)] [] (zpV [3, 4, 5, 6, 7, 8, 11, 12, 13, 14, 20, 25, 26, 38, 39, 41, 42, 43] [83, 85, 86, 87, 88, 89, 90, 91, 92, 93, 94, 95, 96, 97, 100, 101, 102] Mz (fun N => 0 ≤ ze N 81 13 ∧ ze N 81 13 ≤ 4 ∧ 0 ≤ ze N 81 14 ∧ ze N 81 14 ≤ 8 ∧ zB 83 24 0 5 N ∧ zB 85 144 0 5 N ∧ (((1 ≤ ze N 81 7 ∧ zmu N = 0) ∨ (ze N 81 7 = 0 ∧ 1 ≤ ze N 81 12 ∧ ze N 81 12 ≤ 6 ∧ zPm N ∧ zFin N ∧ (∃ T : zGT, T ∈ gTabs ∧ zGB T N))))))
                                        refine zw_goto (pc := 85) (tgt := 71) (by decide) d_M_reads_85 ?_
                                        exact ih_71 N348_ hb0_N348_ (show 0 ≤ ze N348_ 81 3 by first | assumption | omega) (show ze N348_ 81 3 ≤ ze N348_ 81 2 by first | assumption | omega) hp2_N348_ (show 0 ≤ ze N348_ 81 13 by first | assumption | omega) (show ze N348_ 81 13 ≤ 4 by first | assumption | omega) (show 0 ≤ ze N348_ 81 14 by first | assumption | omega) (show ze N348_ 81 14 ≤ 8 by first | assumption | omega) (show (1 ≤ ze N348_ 81 7 ∧ zmu N348_ = 0) ∨ (ze N348_ 81 7 = 0 ∧ 1 ≤ ze N348_ 81 12 ∧ ze N348_ 81 12 ≤ 6 ∧ zPm N348_ ∧ zFin N348_ ∧ (∃ T : zGT, T ∈ gTabs ∧ zGB T N348_)) from Or.inl (⟨(show 1 ≤ ze N348_ 81 7 by first | assumption | omega), (show zmu N348_ = 0 by first | assumption | omega)⟩)) (by omega)
                                      · skip
                                        have hEx_ : ∃ T : zGT, T ∈ gTabs ∧ zGB T N348_ := ⟨T, hTt, c354_⟩
                                        show zW l m_M_reads (zn Mz + 0, zw Mz + 0) N348_ 85 [some (.ref 81)] [] (zpV [3, 4, 5, 6, 7, 8, 11, 12, 13, 14, 20, 25, 26, 38, 39, 41, 42, 43] [83, 85, 86, 87, 88, 89, 90, 91, 92, 93, 94, 95, 96, 97, 100, 101, 102] Mz (fun N => 0 ≤ ze N 81 13 ∧ ze N 81 13 ≤ 4 ∧ 0 ≤ ze N 81 14 ∧ ze N 81 14 ≤ 8 ∧ zB 83 24 0 5 N ∧ zB 85 144 0 5 N ∧ (((1 ≤ ze N 81 7 ∧ zmu N = 0) ∨ (ze N 81 7 = 0 ∧ 1 ≤ ze N 81 12 ∧ ze N 81 12 ≤ 6 ∧ zPm N ∧ zFin N ∧ (∃ T : zGT, T ∈ gTabs ∧ zGB T N))))))
                                        refine zw_goto (pc := 85) (tgt := 71) (by decide) d_M_reads_85 ?_
                                        exact ih_71 N348_ hb0_N348_ (show 0 ≤ ze N348_ 81 3 by first | assumption | omega) (show ze N348_ 81 3 ≤ ze N348_ 81 2 by first | assumption | omega) hp2_N348_ (show 0 ≤ ze N348_ 81 13 by first | assumption | omega) (show ze N348_ 81 13 ≤ 4 by first | assumption | omega) (show 0 ≤ ze N348_ 81 14 by first | assumption | omega) (show ze N348_ 81 14 ≤ 8 by first | assumption | omega) (show (1 ≤ ze N348_ 81 7 ∧ zmu N348_ = 0) ∨ (ze N348_ 81 7 = 0 ∧ 1 ≤ ze N348_ 81 12 ∧ ze N348_ 81 12 ≤ 6 ∧ zPm N348_ ∧ zFin N348_ ∧ (∃ T : zGT, T ∈ gTabs ∧ zGB T N348_)) from Or.inr (⟨(show ze N348_ 81 7 = 0 by first | assumption | omega), (show 1 ≤ ze N348_ 81 12 by first | assumption | omega), (show ze N348_ 81 12 ≤ 6 by first | assumption | omega), (show zPm N348_ by first | assumption | omega), (show zFin N348_ by first | assumption | omega), (show (∃ T : zGT, T ∈ gTabs ∧ zGB T N348_) by first | assumption | omega)⟩)) (by omega)
                                  · skip
                                    show zW l m_M_reads (zn Mz + 0, zw Mz + 0) N326_ 78 [some (.ref 81)] [.int (Int32.ofInt 0)] (zpV [3, 4, 5, 6, 7, 8, 11, 12, 13, 14, 20, 25, 26, 38, 39, 41, 42, 43] [83, 85, 86, 87, 88, 89, 90, 91, 92, 93, 94, 95, 96, 97, 100, 101, 102] Mz (fun N => 0 ≤ ze N 81 13 ∧ ze N 81 13 ≤ 4 ∧ 0 ≤ ze N 81 14 ∧ ze N 81 14 ≤ 8 ∧ zB 83 24 0 5 N ∧ zB 85 144 0 5 N ∧ (((1 ≤ ze N 81 7 ∧ zmu N = 0) ∨ (ze N 81 7 = 0 ∧ 1 ≤ ze N 81 12 ∧ ze N 81 12 ≤ 6 ∧ zPm N ∧ zFin N ∧ (∃ T : zGT, T ∈ gTabs ∧ zGB T N))))))
                                    refine zr_if_eq (pc := 78) (tgt := 88) ⟨(by decide), (by decide)⟩ (by decide) d_M_reads_78 (fun hc_78 => ?_) (fun hc_78 => ?_)
                                    · skip
                                      refine zw_aload_n (pc := 88) (n := 0) (x := 81) rfl d_M_reads_88 ?_
                                      refine zr_callV (hf_N326_.w hW) hf_N326_.x (pc := 89) [] [] l_M_183 (c_M_isGood l N326_ (hf_N326_.w hW) ) rfl rfl rfl (by decide) (Nat.le_of_ble_eq_true rfl) d_M_reads_89 ?_
                                      rintro _ N356_ ⟨v357_, rfl, ⟨hv357_a, hv357_b⟩, hsN356_, hp0_N356_⟩
                                      obtain rfl := hsN356_.eq.symm
                                      replace hp0_N356_ : ((v357_ = 1 ∧ ze N326_ 81 7 = 0) ∨ (v357_ = 0 ∧ ze N326_ 81 7 ≠ 0)) := hp0_N356_
                                      rcases hp0_N356_ with ⟨rfl, ha89_0_hp0_N356_⟩ | ⟨rfl, ha89_0_hp0_N356_⟩
                                      · skip
                                        show zW l m_M_reads (zn Mz + 0, zw Mz + 0) N326_ 92 [some (.ref 81)] [.int (Int32.ofInt 1)] (zpV [3, 4, 5, 6, 7, 8, 11, 12, 13, 14, 20, 25, 26, 38, 39, 41, 42, 43] [83, 85, 86, 87, 88, 89, 90, 91, 92, 93, 94, 95, 96, 97, 100, 101, 102] Mz (fun N => 0 ≤ ze N 81 13 ∧ ze N 81 13 ≤ 4 ∧ 0 ≤ ze N 81 14 ∧ ze N 81 14 ≤ 8 ∧ zB 83 24 0 5 N ∧ zB 85 144 0 5 N ∧ (((1 ≤ ze N 81 7 ∧ zmu N = 0) ∨ (ze N 81 7 = 0 ∧ 1 ≤ ze N 81 12 ∧ ze N 81 12 ≤ 6 ∧ zPm N ∧ zFin N ∧ (∃ T : zGT, T ∈ gTabs ∧ zGB T N))))))
                                        refine zr_if_eq (pc := 92) (tgt := 107) ⟨(by decide), (by decide)⟩ (by decide) d_M_reads_92 (fun hc_92 => ?_) (fun hc_92 => ?_)
                                        · skip
                                          exact absurd hc_92 (by decide)
                                        · skip
                                          refine zw_aload_n (pc := 95) (n := 0) (x := 81) rfl d_M_reads_95 ?_
                                          refine zr_getI (hf_N326_.w hW) (pc := 96) f_M_155 rfl d_M_reads_96 ?_
                                          refine zr_if_eq (pc := 99) (tgt := 107) ⟨(ze_r N326_ 81 5).1, (ze_r N326_ 81 5).2⟩ (by decide) d_M_reads_99 (fun hc_99 => ?_) (fun hc_99 => ?_)
                                          · skip
                                            have hz0 := zmu_s N326_
                                            exact zr_vret (pc := 107) rfl hf_N326_ ⟨(show 0 ≤ ze N326_ 81 13 by first | assumption | omega), (show ze N326_ 81 13 ≤ 4 by first | assumption | omega), (show 0 ≤ ze N326_ 81 14 by first | assumption | omega), (show ze N326_ 81 14 ≤ 8 by first | assumption | omega), c336_, hB85_, (show ((1 ≤ ze N326_ 81 7 ∧ zmu N326_ = 0) ∨ (ze N326_ 81 7 = 0 ∧ 1 ≤ ze N326_ 81 12 ∧ ze N326_ 81 12 ≤ 6 ∧ zPm N326_ ∧ zFin N326_ ∧ (∃ T : zGT, T ∈ gTabs ∧ zGB T N326_))) from Or.inr (⟨(show ze N326_ 81 7 = 0 by first | assumption | omega), (show 1 ≤ ze N326_ 81 12 by first | assumption | omega), (show ze N326_ 81 12 ≤ 6 by first | assumption | omega), (show zPm N326_ by first | assumption | omega), (show zFin N326_ by first | assumption | omega), (show (∃ T : zGT, T ∈ gTabs ∧ zGB T N326_) by first | assumption | omega)⟩))⟩ d_M_reads_107
                                          · skip
                                            refine zw_aload_n (pc := 102) (n := 0) (x := 81) rfl d_M_reads_102 ?_
                                            refine zw_iconst (pc := 103) (v := Int32.ofInt 2) (by decide) d_M_reads_103 ?_
                                            refine zr_callV (hf_N326_.w hW) hf_N326_.x (pc := 104) [.int (Int32.ofInt 2)] [] l_M_190 (c_M_wrong l N326_ (hf_N326_.w hW) 2 (by decide) (by decide) (show ze N326_ 81 7 = 0 by first | assumption | omega) (show 1 ≤ 2 by first | assumption | omega)) rfl rfl rfl (by decide) (Nat.le_of_ble_eq_true rfl) d_M_reads_104 ?_
                                            rintro _ N358_ ⟨rfl, hsN358_, ⟨hp0_N358_, hp1_N358_⟩⟩
                                            have hf_N358_ : zFr [3, 4, 5, 6, 7, 8, 11, 12, 13, 14, 20, 25, 26, 38, 39, 41, 42, 43] [83, 85, 86, 87, 88, 89, 90, 91, 92, 93, 94, 95, 96, 97, 100, 101, 102] Mz N358_ := hf_N326_.tr hsN358_ (by decide) (by decide)
                                            have e2_N358_ : ze N358_ 81 2 = ze N326_ 81 2 := hsN358_.e (by decide)
                                            have e3_N358_ : ze N358_ 81 3 = ze N326_ 81 3 := hsN358_.e (by decide)
                                            have e5_N358_ : ze N358_ 81 5 = ze N326_ 81 5 := hsN358_.e (by decide)
                                            have r7_N358_ := ze_r N358_ 81 7
                                            have e12_N358_ : ze N358_ 81 12 = ze N326_ 81 12 := hsN358_.e (by decide)
                                            have e13_N358_ : ze N358_ 81 13 = ze N326_ 81 13 := hsN358_.e (by decide)
                                            have e14_N358_ : ze N358_ 81 14 = ze N326_ 81 14 := hsN358_.e (by decide)
                                            have c360_ : zB 83 24 0 5 N358_ := zB.fr hsN358_ c336_ (by decide) (by decide)
                                            have c361_ : zPm N358_ := zPm.fr hsN358_ hPm_ (by decide) (by decide)
                                            have c362_ : zFin N358_ := zFin.fr hsN358_ hFn_ (by decide) (by decide)
                                            have c363_ : zB 85 144 0 5 N358_ := zB.fr hsN358_ hB85_ (by decide) (by decide)
                                            have c364_ : zGB T N358_ := zGB.fr hsN358_ hGB (by decide) (by decide)
                                            have c365_ : zGD N358_ := zGD.fr hsN358_ hGd (by decide) (by decide)
                                            have c366_ : zTv N358_ := zTv.fr hsN358_ i330_ (by decide) (by decide)
                                            show zW l m_M_reads (zn Mz + 0, zw Mz + 0) N358_ 107 [some (.ref 81)] [] (zpV [3, 4, 5, 6, 7, 8, 11, 12, 13, 14, 20, 25, 26, 38, 39, 41, 42, 43] [83, 85, 86, 87, 88, 89, 90, 91, 92, 93, 94, 95, 96, 97, 100, 101, 102] Mz (fun N => 0 ≤ ze N 81 13 ∧ ze N 81 13 ≤ 4 ∧ 0 ≤ ze N 81 14 ∧ ze N 81 14 ≤ 8 ∧ zB 83 24 0 5 N ∧ zB 85 144 0 5 N ∧ (((1 ≤ ze N 81 7 ∧ zmu N = 0) ∨ (ze N 81 7 = 0 ∧ 1 ≤ ze N 81 12 ∧ ze N 81 12 ≤ 6 ∧ zPm N ∧ zFin N ∧ (∃ T : zGT, T ∈ gTabs ∧ zGB T N))))))
                                            have hz0 := zmu_s N358_
                                            exact zr_vret (pc := 107) rfl hf_N358_ ⟨(show 0 ≤ ze N358_ 81 13 by first | assumption | omega), (show ze N358_ 81 13 ≤ 4 by first | assumption | omega), (show 0 ≤ ze N358_ 81 14 by first | assumption | omega), (show ze N358_ 81 14 ≤ 8 by first | assumption | omega), c360_, c363_, (show ((1 ≤ ze N358_ 81 7 ∧ zmu N358_ = 0) ∨ (ze N358_ 81 7 = 0 ∧ 1 ≤ ze N358_ 81 12 ∧ ze N358_ 81 12 ≤ 6 ∧ zPm N358_ ∧ zFin N358_ ∧ (∃ T : zGT, T ∈ gTabs ∧ zGB T N358_))) from Or.inl (⟨(show 1 ≤ ze N358_ 81 7 by first | assumption | omega), (show zmu N358_ = 0 by first | assumption | omega)⟩))⟩ d_M_reads_107
                                      · skip
                                        exfalso; omega
                                    · skip
                                      exact absurd hc_78 (by decide)
                            exact lp_71 _ N320_ zFr.rf (show 0 ≤ ze N320_ 81 3 by first | assumption | omega) (show ze N320_ 81 3 ≤ ze N320_ 81 2 by first | assumption | omega) c322_ (show 0 ≤ ze N320_ 81 13 by first | assumption | omega) (show ze N320_ 81 13 ≤ 4 by first | assumption | omega) (show 0 ≤ ze N320_ 81 14 by first | assumption | omega) (show ze N320_ 81 14 ≤ 8 by first | assumption | omega) (show (1 ≤ ze N320_ 81 7 ∧ zmu N320_ = 0) ∨ (ze N320_ 81 7 = 0 ∧ 1 ≤ ze N320_ 81 12 ∧ ze N320_ 81 12 ≤ 6 ∧ zPm N320_ ∧ zFin N320_ ∧ (∃ T : zGT, T ∈ gTabs ∧ zGB T N320_)) from Or.inr (⟨(show ze N320_ 81 7 = 0 by first | assumption | omega), (show 1 ≤ ze N320_ 81 12 by first | assumption | omega), (show ze N320_ 81 12 ≤ 6 by first | assumption | omega), (show zPm N320_ by first | assumption | omega), (show zFin N320_ by first | assumption | omega), (show (∃ T : zGT, T ∈ gTabs ∧ zGB T N320_) by first | assumption | omega)⟩)) (Nat.lt_succ_self _)
                        · skip
                          exfalso; omega
                      · skip
                        exact absurd hc_50 (by decide)
              exact lp_43 _ N257_ zFr.rf (show 0 ≤ ze N257_ 81 3 by first | assumption | omega) (show ze N257_ 81 3 ≤ ze N257_ 81 2 by first | assumption | omega) hp2_N257_ (show 0 ≤ ze N257_ 81 13 by first | assumption | omega) (show ze N257_ 81 13 ≤ 4 by first | assumption | omega) (show 0 ≤ ze N257_ 81 14 by first | assumption | omega) (show ze N257_ 81 14 ≤ 8 by first | assumption | omega) (show (1 ≤ ze N257_ 81 7 ∧ zmu N257_ = 0) ∨ (ze N257_ 81 7 = 0 ∧ 1 ≤ ze N257_ 81 12 ∧ ze N257_ 81 12 ≤ 6 ∧ zPm N257_ ∧ zFin N257_) from Or.inl (⟨(show 1 ≤ ze N257_ 81 7 by first | assumption | omega | exact zPm_0 (by omega) | exact zFin_0 (by omega)), (show zmu N257_ = 0 by first | assumption | omega | exact zPm_0 (by omega) | exact zFin_0 (by omega))⟩)) c259_ c260_ (Nat.lt_succ_self _)
            · skip
              show zW l m_M_reads (zn Mz + 0, zw Mz + 0) N257_ 43 [some (.ref 81)] [] (zpV [3, 4, 5, 6, 7, 8, 11, 12, 13, 14, 20, 25, 26, 38, 39, 41, 42, 43] [83, 85, 86, 87, 88, 89, 90, 91, 92, 93, 94, 95, 96, 97, 100, 101, 102] Mz (fun N => 0 ≤ ze N 81 13 ∧ ze N 81 13 ≤ 4 ∧ 0 ≤ ze N 81 14 ∧ ze N 81 14 ≤ 8 ∧ zB 83 24 0 5 N ∧ zB 85 144 0 5 N ∧ (((1 ≤ ze N 81 7 ∧ zmu N = 0) ∨ (ze N 81 7 = 0 ∧ 1 ≤ ze N 81 12 ∧ ze N 81 12 ≤ 6 ∧ zPm N ∧ zFin N ∧ (∃ T : zGT, T ∈ gTabs ∧ zGB T N))))))
              have lp_43 : ∀ (n : Nat) (N367_ : zMem) (hs368_ : zFr [3, 4, 5, 6, 7, 8, 11, 13, 20] [83, 85, 86, 87, 88] N257_ N367_) (i369_ : 0 ≤ ze N367_ 81 3) (i370_ : ze N367_ 81 3 ≤ ze N367_ 81 2) (i371_ : zTv N367_) (i372_ : 0 ≤ ze N367_ 81 13) (i373_ : ze N367_ 81 13 ≤ 4) (i374_ : 0 ≤ ze N367_ 81 14) (i375_ : ze N367_ 81 14 ≤ 8) (i376_ : (1 ≤ ze N367_ 81 7 ∧ zmu N367_ = 0) ∨ (ze N367_ 81 7 = 0 ∧ 1 ≤ ze N367_ 81 12 ∧ ze N367_ 81 12 ≤ 6 ∧ zPm N367_ ∧ zFin N367_)) (i377_ : zB 83 24 0 5 N367_) (i378_ : zB 85 144 0 5 N367_), (zmu N367_).toNat < n → zW l m_M_reads (zn Mz + 0, zw Mz + 0) N367_ 43 [some (.ref 81)] [] (zpV [3, 4, 5, 6, 7, 8, 11, 12, 13, 14, 20, 25, 26, 38, 39, 41, 42, 43] [83, 85, 86, 87, 88, 89, 90, 91, 92, 93, 94, 95, 96, 97, 100, 101, 102] Mz (fun N => 0 ≤ ze N 81 13 ∧ ze N 81 13 ≤ 4 ∧ 0 ≤ ze N 81 14 ∧ ze N 81 14 ≤ 8 ∧ zB 83 24 0 5 N ∧ zB 85 144 0 5 N ∧ (((1 ≤ ze N 81 7 ∧ zmu N = 0) ∨ (ze N 81 7 = 0 ∧ 1 ≤ ze N 81 12 ∧ ze N 81 12 ≤ 6 ∧ zPm N ∧ zFin N ∧ (∃ T : zGT, T ∈ gTabs ∧ zGB T N)))))) := by
                clear hs2_ i3_ i4_ i5_ hf_N1_ e2_N1_ e3_N1_ e5_N1_ r7_N1_ e12_N1_ e13_N1_ e14_N1_ c7_ c8_ zz2_N1_ hl15_0_i6_ hl15_1_i6_ hv130_a hv130_b ha16_0_hp0_N129_ hsN131_ hp0_N131_ hp1_N131_ hp2_N131_ hp3_N131_ hp4_N131_ hf_N131_ e2_N131_ r3_N131_ r5_N131_ e7_N131_ e12_N131_ e13_N131_ e14_N131_ c133_ c134_ hsN135_ hv136_a hv136_b hp0_N135_ hp1_N135_ hp2_N135_ hf_N135_ e2_N135_ r3_N135_ r5_N135_ r7_N135_ e12_N135_ e13_N135_ e14_N135_ c137_ c138_ ha31_0_hp3_N135_ ha31_1_hp3_N135_ ha31_2_hp3_N135_ ha31_3_hp3_N135_ ha31_4_hp3_N135_ hsN253_ hvN253_ hf_N253_ e2_N253_ e3_N253_ e5_N253_ e7_N253_ r12_N253_ e13_N253_ e14_N253_ qzmu_N253_ c254_ c255_ c256_ hsN257_ e2_N257_ e12_N257_ e13_N257_ e14_N257_ ha40_1_hp3_N257_ ha40_2_hp3_N257_
                intro n
                induction n with
                | zero =>
                  intro N367_ hs368_ i369_ i370_ i371_ i372_ i373_ i374_ i375_ i376_ i377_ i378_ h0
                  exact absurd h0 (Nat.not_lt_zero _)
                | succ n ih_43 =>
                  intro N367_ hs368_ i369_ i370_ i371_ i372_ i373_ i374_ i375_ i376_ i377_ i378_ hlt_43
                  have hf_N367_ : zFr [3, 4, 5, 6, 7, 8, 11, 12, 13, 14, 20, 25, 26, 38, 39, 41, 42, 43] [83, 85, 86, 87, 88, 89, 90, 91, 92, 93, 94, 95, 96, 97, 100, 101, 102] Mz N367_ := hf_N257_.tr hs368_ (by decide) (by decide)
                  have e2_N367_ : ze N367_ 81 2 = ze N257_ 81 2 := hs368_.e (by decide)
                  have r3_N367_ := ze_r N367_ 81 3
                  have r5_N367_ := ze_r N367_ 81 5
                  have r7_N367_ := ze_r N367_ 81 7
                  have e12_N367_ : ze N367_ 81 12 = ze N257_ 81 12 := hs368_.e (by decide)
                  have r13_N367_ := ze_r N367_ 81 13
                  have e14_N367_ : ze N367_ 81 14 = ze N257_ 81 14 := hs368_.e (by decide)
                  have zz2_N367_ : ze N367_ 81 2 = ze Mz 81 2 := hf_N367_.e (by decide)
                  rcases i376_ with ⟨hl43_0_i376_, hl43_1_i376_⟩ | ⟨hl43_0_i376_, hl43_1_i376_, hl43_2_i376_, hl43_3_i376_, hl43_4_i376_⟩
                  · skip
                    refine zw_aload_n (pc := 43) (n := 0) (x := 81) rfl d_M_reads_43 ?_
                    refine zr_ldc2 (pc := 44) (n := 1836021349) (by decide) k_M_177 d_M_reads_44 ?_
                    refine zr_callV (hf_N367_.w hW) hf_N367_.x (pc := 47) [.long (Int64.ofInt 1836021349)] [] l_M_312 (c_M_isWord l N367_ (hf_N367_.w hW) 1836021349 (by decide) (by decide)) rfl rfl rfl (by decide) (Nat.le_of_ble_eq_true rfl) d_M_reads_47 ?_
                    rintro _ N379_ ⟨v380_, rfl, ⟨hv380_a, hv380_b⟩, hsN379_, hp0_N379_⟩
                    obtain rfl := hsN379_.eq.symm
                    replace hp0_N379_ : ((v380_ = 1 ∧ ze N367_ 81 7 = 0 ∧ ze N367_ 81 5 = 1) ∨ (v380_ = 0)) := hp0_N379_
                    rcases hp0_N379_ with ⟨rfl, ha47_0_hp0_N379_, ha47_1_hp0_N379_⟩ | rfl
                    · skip
                      exfalso; omega
                    · skip
                      show zW l m_M_reads (zn Mz + 0, zw Mz + 0) N367_ 50 [some (.ref 81)] [.int (Int32.ofInt 0)] (zpV [3, 4, 5, 6, 7, 8, 11, 12, 13, 14, 20, 25, 26, 38, 39, 41, 42, 43] [83, 85, 86, 87, 88, 89, 90, 91, 92, 93, 94, 95, 96, 97, 100, 101, 102] Mz (fun N => 0 ≤ ze N 81 13 ∧ ze N 81 13 ≤ 4 ∧ 0 ≤ ze N 81 14 ∧ ze N 81 14 ≤ 8 ∧ zB 83 24 0 5 N ∧ zB 85 144 0 5 N ∧ (((1 ≤ ze N 81 7 ∧ zmu N = 0) ∨ (ze N 81 7 = 0 ∧ 1 ≤ ze N 81 12 ∧ ze N 81 12 ≤ 6 ∧ zPm N ∧ zFin N ∧ (∃ T : zGT, T ∈ gTabs ∧ zGB T N))))))
                      refine zr_if_eq (pc := 50) (tgt := 60) ⟨(by decide), (by decide)⟩ (by decide) d_M_reads_50 (fun hc_50 => ?_) (fun hc_50 => ?_)
                      · skip
                        refine zw_aload_n (pc := 60) (n := 0) (x := 81) rfl d_M_reads_60 ?_
                        refine zr_callV (hf_N367_.w hW) hf_N367_.x (pc := 61) [] [] l_M_183 (c_M_isGood l N367_ (hf_N367_.w hW) ) rfl rfl rfl (by decide) (Nat.le_of_ble_eq_true rfl) d_M_reads_61 ?_
                        rintro _ N381_ ⟨v382_, rfl, ⟨hv382_a, hv382_b⟩, hsN381_, hp0_N381_⟩
                        obtain rfl := hsN381_.eq.symm
                        replace hp0_N381_ : ((v382_ = 1 ∧ ze N367_ 81 7 = 0) ∨ (v382_ = 0 ∧ ze N367_ 81 7 ≠ 0)) := hp0_N381_
                        rcases hp0_N381_ with ⟨rfl, ha61_0_hp0_N381_⟩ | ⟨rfl, ha61_0_hp0_N381_⟩
                        · skip
                          exfalso; omega
                        · skip
                          show zW l m_M_reads (zn Mz + 0, zw Mz + 0) N367_ 64 [some (.ref 81)] [.int (Int32.ofInt 0)] (zpV [3, 4, 5, 6, 7, 8, 11, 12, 13, 14, 20, 25, 26, 38, 39, 41, 42, 43] [83, 85, 86, 87, 88, 89, 90, 91, 92, 93, 94, 95, 96, 97, 100, 101, 102] Mz (fun N => 0 ≤ ze N 81 13 ∧ ze N 81 13 ≤ 4 ∧ 0 ≤ ze N 81 14 ∧ ze N 81 14 ≤ 8 ∧ zB 83 24 0 5 N ∧ zB 85 144 0 5 N ∧ (((1 ≤ ze N 81 7 ∧ zmu N = 0) ∨ (ze N 81 7 = 0 ∧ 1 ≤ ze N 81 12 ∧ ze N 81 12 ≤ 6 ∧ zPm N ∧ zFin N ∧ (∃ T : zGT, T ∈ gTabs ∧ zGB T N))))))
                          refine zr_if_eq (pc := 64) (tgt := 71) ⟨(by decide), (by decide)⟩ (by decide) d_M_reads_64 (fun hc_64 => ?_) (fun hc_64 => ?_)
                          · skip
                            have lp_71 : ∀ (n : Nat) (N383_ : zMem) (hs384_ : zFr [3, 4, 5, 6, 7, 8, 11, 14, 38, 39, 41, 42, 43] [95, 96, 97, 100, 101, 102] N367_ N383_) (i385_ : 0 ≤ ze N383_ 81 3) (i386_ : ze N383_ 81 3 ≤ ze N383_ 81 2) (i387_ : zTv N383_) (i388_ : 0 ≤ ze N383_ 81 13) (i389_ : ze N383_ 81 13 ≤ 4) (i390_ : 0 ≤ ze N383_ 81 14) (i391_ : ze N383_ 81 14 ≤ 8) (i392_ : (1 ≤ ze N383_ 81 7 ∧ zmu N383_ = 0) ∨ (ze N383_ 81 7 = 0 ∧ 1 ≤ ze N383_ 81 12 ∧ ze N383_ 81 12 ≤ 6 ∧ zPm N383_ ∧ zFin N383_ ∧ (∃ T : zGT, T ∈ gTabs ∧ zGB T N383_))), (zmu N383_).toNat < n → zW l m_M_reads (zn Mz + 0, zw Mz + 0) N383_ 71 [some (.ref 81)] [] (zpV [3, 4, 5, 6, 7, 8, 11, 12, 13, 14, 20, 25, 26, 38, 39, 41, 42, 43] [83, 85, 86, 87, 88, 89, 90, 91, 92, 93, 94, 95, 96, 97, 100, 101, 102] Mz (fun N => 0 ≤ ze N 81 13 ∧ ze N 81 13 ≤ 4 ∧ 0 ≤ ze N 81 14 ∧ ze N 81 14 ≤ 8 ∧ zB 83 24 0 5 N ∧ zB 85 144 0 5 N ∧ (((1 ≤ ze N 81 7 ∧ zmu N = 0) ∨ (ze N 81 7 = 0 ∧ 1 ≤ ze N 81 12 ∧ ze N 81 12 ≤ 6 ∧ zPm N ∧ zFin N ∧ (∃ T : zGT, T ∈ gTabs ∧ zGB T N)))))) := by
                              clear hp0_N257_ hp1_N257_ hp2_N257_ hf_N257_ r3_N257_ r5_N257_ r7_N257_ c259_ c260_ ha40_0_hp3_N257_ hs368_ e2_N367_ e12_N367_ e14_N367_ hv380_a hv380_b hv382_a hv382_b
                              intro n
                              induction n with
                              | zero =>
                                intro N383_ hs384_ i385_ i386_ i387_ i388_ i389_ i390_ i391_ i392_ h0
                                exact absurd h0 (Nat.not_lt_zero _)
                              | succ n ih_71 =>
                                intro N383_ hs384_ i385_ i386_ i387_ i388_ i389_ i390_ i391_ i392_ hlt_71
                                have hf_N383_ : zFr [3, 4, 5, 6, 7, 8, 11, 12, 13, 14, 20, 25, 26, 38, 39, 41, 42, 43] [83, 85, 86, 87, 88, 89, 90, 91, 92, 93, 94, 95, 96, 97, 100, 101, 102] Mz N383_ := hf_N367_.tr hs384_ (by decide) (by decide)
                                have e2_N383_ : ze N383_ 81 2 = ze N367_ 81 2 := hs384_.e (by decide)
                                have r3_N383_ := ze_r N383_ 81 3
                                have r5_N383_ := ze_r N383_ 81 5
                                have r7_N383_ := ze_r N383_ 81 7
                                have e12_N383_ : ze N383_ 81 12 = ze N367_ 81 12 := hs384_.e (by decide)
                                have e13_N383_ : ze N383_ 81 13 = ze N367_ 81 13 := hs384_.e (by decide)
                                have r14_N383_ := ze_r N383_ 81 14
                                have c393_ : zB 83 24 0 5 N383_ := zB.fr hs384_ i377_ (by decide) (by decide)
                                have c394_ : zB 85 144 0 5 N383_ := zB.fr hs384_ i378_ (by decide) (by decide)
                                have zz2_N383_ : ze N383_ 81 2 = ze Mz 81 2 := hf_N383_.e (by decide)
                                rcases i392_ with ⟨hl71_0_i392_, hl71_1_i392_⟩ | ⟨hl71_0_i392_, hl71_1_i392_, hl71_2_i392_, hl71_3_i392_, hl71_4_i392_, hl71_5_i392_⟩
                                · skip
                                  refine zw_aload_n (pc := 71) (n := 0) (x := 81) rfl d_M_reads_71 ?_
                                  refine zr_ldc2 (pc := 72) (n := 7103860) (by decide) k_M_179 d_M_reads_72 ?_
                                  refine zr_callV (hf_N383_.w hW) hf_N383_.x (pc := 75) [.long (Int64.ofInt 7103860)] [] l_M_312 (c_M_isWord l N383_ (hf_N383_.w hW) 7103860 (by decide) (by decide)) rfl rfl rfl (by decide) (Nat.le_of_ble_eq_true rfl) d_M_reads_75 ?_
                                  rintro _ N395_ ⟨v396_, rfl, ⟨hv396_a, hv396_b⟩, hsN395_, hp0_N395_⟩
                                  obtain rfl := hsN395_.eq.symm
                                  replace hp0_N395_ : ((v396_ = 1 ∧ ze N383_ 81 7 = 0 ∧ ze N383_ 81 5 = 1) ∨ (v396_ = 0)) := hp0_N395_
                                  rcases hp0_N395_ with ⟨rfl, ha75_0_hp0_N395_, ha75_1_hp0_N395_⟩ | rfl
                                  · skip
                                    exfalso; omega
                                  · skip
                                    show zW l m_M_reads (zn Mz + 0, zw Mz + 0) N383_ 78 [some (.ref 81)] [.int (Int32.ofInt 0)] (zpV [3, 4, 5, 6, 7, 8, 11, 12, 13, 14, 20, 25, 26, 38, 39, 41, 42, 43] [83, 85, 86, 87, 88, 89, 90, 91, 92, 93, 94, 95, 96, 97, 100, 101, 102] Mz (fun N => 0 ≤ ze N 81 13 ∧ ze N 81 13 ≤ 4 ∧ 0 ≤ ze N 81 14 ∧ ze N 81 14 ≤ 8 ∧ zB 83 24 0 5 N ∧ zB 85 144 0 5 N ∧ (((1 ≤ ze N 81 7 ∧ zmu N = 0) ∨ (ze N 81 7 = 0 ∧ 1 ≤ ze N 81 12 ∧ ze N 81 12 ≤ 6 ∧ zPm N ∧ zFin N ∧ (∃ T : zGT, T ∈ gTabs ∧ zGB T N))))))
                                    refine zr_if_eq (pc := 78) (tgt := 88) ⟨(by decide), (by decide)⟩ (by decide) d_M_reads_78 (fun hc_78 => ?_) (fun hc_78 => ?_)
                                    · skip
                                      refine zw_aload_n (pc := 88) (n := 0) (x := 81) rfl d_M_reads_88 ?_
                                      refine zr_callV (hf_N383_.w hW) hf_N383_.x (pc := 89) [] [] l_M_183 (c_M_isGood l N383_ (hf_N383_.w hW) ) rfl rfl rfl (by decide) (Nat.le_of_ble_eq_true rfl) d_M_reads_89 ?_
                                      rintro _ N397_ ⟨v398_, rfl, ⟨hv398_a, hv398_b⟩, hsN397_, hp0_N397_⟩
                                      obtain rfl := hsN397_.eq.symm
                                      replace hp0_N397_ : ((v398_ = 1 ∧ ze N383_ 81 7 = 0) ∨ (v398_ = 0 ∧ ze N383_ 81 7 ≠ 0)) := hp0_N397_
                                      rcases hp0_N397_ with ⟨rfl, ha89_0_hp0_N397_⟩ | ⟨rfl, ha89_0_hp0_N397_⟩
                                      · skip
                                        exfalso; omega
                                      · skip
                                        show zW l m_M_reads (zn Mz + 0, zw Mz + 0) N383_ 92 [some (.ref 81)] [.int (Int32.ofInt 0)] (zpV [3, 4, 5, 6, 7, 8, 11, 12, 13, 14, 20, 25, 26, 38, 39, 41, 42, 43] [83, 85, 86, 87, 88, 89, 90, 91, 92, 93, 94, 95, 96, 97, 100, 101, 102] Mz (fun N => 0 ≤ ze N 81 13 ∧ ze N 81 13 ≤ 4 ∧ 0 ≤ ze N 81 14 ∧ ze N 81 14 ≤ 8 ∧ zB 83 24 0 5 N ∧ zB 85 144 0 5 N ∧ (((1 ≤ ze N 81 7 ∧ zmu N = 0) ∨ (ze N 81 7 = 0 ∧ 1 ≤ ze N 81 12 ∧ ze N 81 12 ≤ 6 ∧ zPm N ∧ zFin N ∧ (∃ T : zGT, T ∈ gTabs ∧ zGB T N))))))
                                        refine zr_if_eq (pc := 92) (tgt := 107) ⟨(by decide), (by decide)⟩ (by decide) d_M_reads_92 (fun hc_92 => ?_) (fun hc_92 => ?_)
                                        · skip
                                          have hz0 := zmu_s N383_
                                          exact zr_vret (pc := 107) rfl hf_N383_ ⟨(show 0 ≤ ze N383_ 81 13 by first | assumption | omega), (show ze N383_ 81 13 ≤ 4 by first | assumption | omega), (show 0 ≤ ze N383_ 81 14 by first | assumption | omega), (show ze N383_ 81 14 ≤ 8 by first | assumption | omega), c393_, c394_, (show ((1 ≤ ze N383_ 81 7 ∧ zmu N383_ = 0) ∨ (ze N383_ 81 7 = 0 ∧ 1 ≤ ze N383_ 81 12 ∧ ze N383_ 81 12 ≤ 6 ∧ zPm N383_ ∧ zFin N383_ ∧ (∃ T : zGT, T ∈ gTabs ∧ zGB T N383_))) from Or.inl (⟨(show 1 ≤ ze N383_ 81 7 by first | assumption | omega), (show zmu N383_ = 0 by first | assumption | omega)⟩))⟩ d_M_reads_107
                                        · skip
                                          exact absurd hc_92 (by decide)
                                    · skip
                                      exact absurd hc_78 (by decide)
                                · skip
                                  have hPm_ := (show zPm N383_ by assumption)
                                  have hFn_ := (show zFin N383_ by assumption)
                                  obtain ⟨T, hTt, hGB⟩ := (show ∃ T : zGT, T ∈ gTabs ∧ zGB T N383_ by assumption)
                                  have hB85_ : zB 85 144 0 5 N383_ := hGB.2.1
                                  have hO := gTabs_ok T hTt
                                  have hGd := zGB.d hO hGB
                                  have hz_N383_ := zmu_p N383_ (by omega) (by omega)
                                  refine zw_aload_n (pc := 71) (n := 0) (x := 81) rfl d_M_reads_71 ?_
                                  refine zr_ldc2 (pc := 72) (n := 7103860) (by decide) k_M_179 d_M_reads_72 ?_
                                  refine zr_callV (hf_N383_.w hW) hf_N383_.x (pc := 75) [.long (Int64.ofInt 7103860)] [] l_M_312 (c_M_isWord l N383_ (hf_N383_.w hW) 7103860 (by decide) (by decide)) rfl rfl rfl (by decide) (Nat.le_of_ble_eq_true rfl) d_M_reads_75 ?_
                                  rintro _ N399_ ⟨v400_, rfl, ⟨hv400_a, hv400_b⟩, hsN399_, hp0_N399_⟩
                                  obtain rfl := hsN399_.eq.symm
                                  replace hp0_N399_ : ((v400_ = 1 ∧ ze N383_ 81 7 = 0 ∧ ze N383_ 81 5 = 1) ∨ (v400_ = 0)) := hp0_N399_
                                  rcases hp0_N399_ with ⟨rfl, ha75_0_hp0_N399_, ha75_1_hp0_N399_⟩ | rfl
                                  · skip
                                    show zW l m_M_reads (zn Mz + 0, zw Mz + 0) N383_ 78 [some (.ref 81)] [.int (Int32.ofInt 1)] (zpV [3, 4, 5, 6, 7, 8, 11, 12, 13, 14, 20, 25, 26, 38, 39, 41, 42, 43] [83, 85, 86, 87, 88, 89, 90, 91, 92, 93, 94, 95, 96, 97, 100, 101, 102] Mz (fun N => 0 ≤ ze N 81 13 ∧ ze N 81 13 ≤ 4 ∧ 0 ≤ ze N 81 14 ∧ ze N 81 14 ≤ 8 ∧ zB 83 24 0 5 N ∧ zB 85 144 0 5 N ∧ (((1 ≤ ze N 81 7 ∧ zmu N = 0) ∨ (ze N 81 7 = 0 ∧ 1 ≤ ze N 81 12 ∧ ze N 81 12 ≤ 6 ∧ zPm N ∧ zFin N ∧ (∃ T : zGT, T ∈ gTabs ∧ zGB T N))))))
                                    refine zr_if_eq (pc := 78) (tgt := 88) ⟨(by decide), (by decide)⟩ (by decide) d_M_reads_78 (fun hc_78 => ?_) (fun hc_78 => ?_)
                                    · skip
                                      exact absurd hc_78 (by decide)
                                    · skip
                                      refine zw_aload_n (pc := 81) (n := 0) (x := 81) rfl d_M_reads_81 ?_
                                      refine zr_callV (hf_N383_.w hW) hf_N383_.x (pc := 82) [] [] l_M_364 (c_M_letLine l N383_ (hf_N383_.w hW) hGd (show 0 ≤ ze N383_ 81 3 by first | assumption | omega) (show ze N383_ 81 3 ≤ ze N383_ 81 2 by first | assumption | omega) (show ze N383_ 81 2 ≤ 700 by first | assumption | omega) i387_ (show ze N383_ 81 7 = 0 by first | assumption | omega) (show ze N383_ 81 5 = 1 by first | assumption | omega) (show 0 ≤ ze N383_ 81 14 by first | assumption | omega) (show ze N383_ 81 14 ≤ 8 by first | assumption | omega)) rfl rfl rfl (by decide) (Nat.le_of_ble_eq_true rfl) d_M_reads_82 ?_
                                      rintro _ N401_ ⟨rfl, hsN401_, ⟨hp0_N401_, hp1_N401_, hp2_N401_, hp3_N401_, hp4_N401_, hp5_N401_⟩⟩
                                      have hf_N401_ : zFr [3, 4, 5, 6, 7, 8, 11, 12, 13, 14, 20, 25, 26, 38, 39, 41, 42, 43] [83, 85, 86, 87, 88, 89, 90, 91, 92, 93, 94, 95, 96, 97, 100, 101, 102] Mz N401_ := hf_N383_.tr hsN401_ (by decide) (by decide)
                                      have hb0_N401_ : zFr [3, 4, 5, 6, 7, 8, 11, 14, 38, 39, 41, 42, 43] [95, 96, 97, 100, 101, 102] N367_ N401_ := hs384_.tr hsN401_ (by decide) (by decide)
                                      have e2_N401_ : ze N401_ 81 2 = ze N383_ 81 2 := hsN401_.e (by decide)
                                      have r3_N401_ := ze_r N401_ 81 3
                                      have r5_N401_ := ze_r N401_ 81 5
                                      have r7_N401_ := ze_r N401_ 81 7
                                      have e12_N401_ : ze N401_ 81 12 = ze N383_ 81 12 := hsN401_.e (by decide)
                                      have e13_N401_ : ze N401_ 81 13 = ze N383_ 81 13 := hsN401_.e (by decide)
                                      have r14_N401_ := ze_r N401_ 81 14
                                      have c403_ : zB 83 24 0 5 N401_ := zB.fr hsN401_ c393_ (by decide) (by decide)
                                      have c404_ : zB 85 144 0 5 N401_ := zB.fr hsN401_ hB85_ (by decide) (by decide)
                                      have c405_ : zPm N401_ := zPm.fr hsN401_ hPm_ (by decide) (by decide)
                                      have c406_ : zFin N401_ := zFin.fr hsN401_ hFn_ (by decide) (by decide)
                                      have c407_ : zGB T N401_ := zGB.fr hsN401_ hGB (by decide) (by decide)
                                      have c408_ : zGD N401_ := zGD.fr hsN401_ hGd (by decide) (by decide)
                                      rcases hp5_N401_ with ⟨ha82_0_hp5_N401_, ha82_1_hp5_N401_⟩ | ⟨ha82_0_hp5_N401_, ha82_1_hp5_N401_⟩
                                      · skip
                                        have hEx_ : ∃ T : zGT, T ∈ gTabs ∧ zGB T N401_ := ⟨T, hTt, c407_⟩
                                        show zW l m_M_reads (zn Mz + 0, zw Mz + 0) N401_ 85 [some (.ref 81)] [] (zpV [3, 4, 5, 6, 7, 8, 11, 12, 13, 14, 20, 25, 26, 38, 39, 41, 42, 43] [83, 85, 86, 87, 88, 89, 90, 91, 92, 93, 94, 95, 96, 97, 100, 101, 102] Mz (fun N => 0 ≤ ze N 81 13 ∧ ze N 81 13 ≤ 4 ∧ 0 ≤ ze N 81 14 ∧ ze N 81 14 ≤ 8 ∧ zB 83 24 0 5 N ∧ zB 85 144 0 5 N ∧ (((1 ≤ ze N 81 7 ∧ zmu N = 0) ∨ (ze N 81 7 = 0 ∧ 1 ≤ ze N 81 12 ∧ ze N 81 12 ≤ 6 ∧ zPm N ∧ zFin N ∧ (∃ T : zGT, T ∈ gTabs ∧ zGB T N))))))
                                        refine zw_goto (pc := 85) (tgt := 71) (by decide) d_M_reads_85 ?_
                                        exact ih_71 N401_ hb0_N401_ (show 0 ≤ ze N401_ 81 3 by first | assumption | omega) (show ze N401_ 81 3 ≤ ze N401_ 81 2 by first | assumption | omega) hp2_N401_ (show 0 ≤ ze N401_ 81 13 by first | assumption | omega) (show ze N401_ 81 13 ≤ 4 by first | assumption | omega) (show 0 ≤ ze N401_ 81 14 by first | assumption | omega) (show ze N401_ 81 14 ≤ 8 by first | assumption | omega) (show (1 ≤ ze N401_ 81 7 ∧ zmu N401_ = 0) ∨ (ze N401_ 81 7 = 0 ∧ 1 ≤ ze N401_ 81 12 ∧ ze N401_ 81 12 ≤ 6 ∧ zPm N401_ ∧ zFin N401_ ∧ (∃ T : zGT, T ∈ gTabs ∧ zGB T N401_)) from Or.inl (⟨(show 1 ≤ ze N401_ 81 7 by first | assumption | omega), (show zmu N401_ = 0 by first | assumption | omega)⟩)) (by omega)
                                      · skip
                                        have hEx_ : ∃ T : zGT, T ∈ gTabs ∧ zGB T N401_ := ⟨T, hTt, c407_⟩
                                        show zW l m_M_reads (zn Mz + 0, zw Mz + 0) N401_ 85 [some (.ref 81)] [] (zpV [3, 4, 5, 6, 7, 8, 11, 12, 13, 14, 20, 25, 26, 38, 39, 41, 42, 43] [83, 85, 86, 87, 88, 89, 90, 91, 92, 93, 94, 95, 96, 97, 100, 101, 102] Mz (fun N => 0 ≤ ze N 81 13 ∧ ze N 81 13 ≤ 4 ∧ 0 ≤ ze N 81 14 ∧ ze N 81 14 ≤ 8 ∧ zB 83 24 0 5 N ∧ zB 85 144 0 5 N ∧ (((1 ≤ ze N 81 7 ∧ zmu N = 0) ∨ (ze N 81 7 = 0 ∧ 1 ≤ ze N 81 12 ∧ ze N 81 12 ≤ 6 ∧ zPm N ∧ zFin N ∧ (∃ T : zGT, T ∈ gTabs ∧ zGB T N))))))
                                        refine zw_goto (pc := 85) (tgt := 71) (by decide) d_M_reads_85 ?_
                                        exact ih_71 N401_ hb0_N401_ (show 0 ≤ ze N401_ 81 3 by first | assumption | omega) (show ze N401_ 81 3 ≤ ze N401_ 81 2 by first | assumption | omega) hp2_N401_ (show 0 ≤ ze N401_ 81 13 by first | assumption | omega) (show ze N401_ 81 13 ≤ 4 by first | assumption | omega) (show 0 ≤ ze N401_ 81 14 by first | assumption | omega) (show ze N401_ 81 14 ≤ 8 by first | assumption | omega) (show (1 ≤ ze N401_ 81 7 ∧ zmu N401_ = 0) ∨ (ze N401_ 81 7 = 0 ∧ 1 ≤ ze N401_ 81 12 ∧ ze N401_ 81 12 ≤ 6 ∧ zPm N401_ ∧ zFin N401_ ∧ (∃ T : zGT, T ∈ gTabs ∧ zGB T N401_)) from Or.inr (⟨(show ze N401_ 81 7 = 0 by first | assumption | omega), (show 1 ≤ ze N401_ 81 12 by first | assumption | omega), (show ze N401_ 81 12 ≤ 6 by first | assumption | omega), (show zPm N401_ by first | assumption | omega), (show zFin N401_ by first | assumption | omega), (show (∃ T : zGT, T ∈ gTabs ∧ zGB T N401_) by first | assumption | omega)⟩)) (by omega)
                                  · skip
                                    show zW l m_M_reads (zn Mz + 0, zw Mz + 0) N383_ 78 [some (.ref 81)] [.int (Int32.ofInt 0)] (zpV [3, 4, 5, 6, 7, 8, 11, 12, 13, 14, 20, 25, 26, 38, 39, 41, 42, 43] [83, 85, 86, 87, 88, 89, 90, 91, 92, 93, 94, 95, 96, 97, 100, 101, 102] Mz (fun N => 0 ≤ ze N 81 13 ∧ ze N 81 13 ≤ 4 ∧ 0 ≤ ze N 81 14 ∧ ze N 81 14 ≤ 8 ∧ zB 83 24 0 5 N ∧ zB 85 144 0 5 N ∧ (((1 ≤ ze N 81 7 ∧ zmu N = 0) ∨ (ze N 81 7 = 0 ∧ 1 ≤ ze N 81 12 ∧ ze N 81 12 ≤ 6 ∧ zPm N ∧ zFin N ∧ (∃ T : zGT, T ∈ gTabs ∧ zGB T N))))))
                                    refine zr_if_eq (pc := 78) (tgt := 88) ⟨(by decide), (by decide)⟩ (by decide) d_M_reads_78 (fun hc_78 => ?_) (fun hc_78 => ?_)
                                    · skip
                                      refine zw_aload_n (pc := 88) (n := 0) (x := 81) rfl d_M_reads_88 ?_
                                      refine zr_callV (hf_N383_.w hW) hf_N383_.x (pc := 89) [] [] l_M_183 (c_M_isGood l N383_ (hf_N383_.w hW) ) rfl rfl rfl (by decide) (Nat.le_of_ble_eq_true rfl) d_M_reads_89 ?_
                                      rintro _ N409_ ⟨v410_, rfl, ⟨hv410_a, hv410_b⟩, hsN409_, hp0_N409_⟩
                                      obtain rfl := hsN409_.eq.symm
                                      replace hp0_N409_ : ((v410_ = 1 ∧ ze N383_ 81 7 = 0) ∨ (v410_ = 0 ∧ ze N383_ 81 7 ≠ 0)) := hp0_N409_
                                      rcases hp0_N409_ with ⟨rfl, ha89_0_hp0_N409_⟩ | ⟨rfl, ha89_0_hp0_N409_⟩
                                      · skip
                                        show zW l m_M_reads (zn Mz + 0, zw Mz + 0) N383_ 92 [some (.ref 81)] [.int (Int32.ofInt 1)] (zpV [3, 4, 5, 6, 7, 8, 11, 12, 13, 14, 20, 25, 26, 38, 39, 41, 42, 43] [83, 85, 86, 87, 88, 89, 90, 91, 92, 93, 94, 95, 96, 97, 100, 101, 102] Mz (fun N => 0 ≤ ze N 81 13 ∧ ze N 81 13 ≤ 4 ∧ 0 ≤ ze N 81 14 ∧ ze N 81 14 ≤ 8 ∧ zB 83 24 0 5 N ∧ zB 85 144 0 5 N ∧ (((1 ≤ ze N 81 7 ∧ zmu N = 0) ∨ (ze N 81 7 = 0 ∧ 1 ≤ ze N 81 12 ∧ ze N 81 12 ≤ 6 ∧ zPm N ∧ zFin N ∧ (∃ T : zGT, T ∈ gTabs ∧ zGB T N))))))
                                        refine zr_if_eq (pc := 92) (tgt := 107) ⟨(by decide), (by decide)⟩ (by decide) d_M_reads_92 (fun hc_92 => ?_) (fun hc_92 => ?_)
                                        · skip
                                          exact absurd hc_92 (by decide)
                                        · skip
                                          refine zw_aload_n (pc := 95) (n := 0) (x := 81) rfl d_M_reads_95 ?_
                                          refine zr_getI (hf_N383_.w hW) (pc := 96) f_M_155 rfl d_M_reads_96 ?_
                                          refine zr_if_eq (pc := 99) (tgt := 107) ⟨(ze_r N383_ 81 5).1, (ze_r N383_ 81 5).2⟩ (by decide) d_M_reads_99 (fun hc_99 => ?_) (fun hc_99 => ?_)
                                          · skip
                                            have hz0 := zmu_s N383_
                                            exact zr_vret (pc := 107) rfl hf_N383_ ⟨(show 0 ≤ ze N383_ 81 13 by first | assumption | omega), (show ze N383_ 81 13 ≤ 4 by first | assumption | omega), (show 0 ≤ ze N383_ 81 14 by first | assumption | omega), (show ze N383_ 81 14 ≤ 8 by first | assumption | omega), c393_, hB85_, (show ((1 ≤ ze N383_ 81 7 ∧ zmu N383_ = 0) ∨ (ze N383_ 81 7 = 0 ∧ 1 ≤ ze N383_ 81 12 ∧ ze N383_ 81 12 ≤ 6 ∧ zPm N383_ ∧ zFin N383_ ∧ (∃ T : zGT, T ∈ gTabs ∧ zGB T N383_))) from Or.inr (⟨(show ze N383_ 81 7 = 0 by first | assumption | omega), (show 1 ≤ ze N383_ 81 12 by first | assumption | omega), (show ze N383_ 81 12 ≤ 6 by first | assumption | omega), (show zPm N383_ by first | assumption | omega), (show zFin N383_ by first | assumption | omega), (show (∃ T : zGT, T ∈ gTabs ∧ zGB T N383_) by first | assumption | omega)⟩))⟩ d_M_reads_107
                                          · skip
                                            refine zw_aload_n (pc := 102) (n := 0) (x := 81) rfl d_M_reads_102 ?_
                                            refine zw_iconst (pc := 103) (v := Int32.ofInt 2) (by decide) d_M_reads_103 ?_
                                            refine zr_callV (hf_N383_.w hW) hf_N383_.x (pc := 104) [.int (Int32.ofInt 2)] [] l_M_190 (c_M_wrong l N383_ (hf_N383_.w hW) 2 (by decide) (by decide) (show ze N383_ 81 7 = 0 by first | assumption | omega) (show 1 ≤ 2 by first | assumption | omega)) rfl rfl rfl (by decide) (Nat.le_of_ble_eq_true rfl) d_M_reads_104 ?_
                                            rintro _ N411_ ⟨rfl, hsN411_, ⟨hp0_N411_, hp1_N411_⟩⟩
                                            have hf_N411_ : zFr [3, 4, 5, 6, 7, 8, 11, 12, 13, 14, 20, 25, 26, 38, 39, 41, 42, 43] [83, 85, 86, 87, 88, 89, 90, 91, 92, 93, 94, 95, 96, 97, 100, 101, 102] Mz N411_ := hf_N383_.tr hsN411_ (by decide) (by decide)
                                            have e2_N411_ : ze N411_ 81 2 = ze N383_ 81 2 := hsN411_.e (by decide)
                                            have e3_N411_ : ze N411_ 81 3 = ze N383_ 81 3 := hsN411_.e (by decide)
                                            have e5_N411_ : ze N411_ 81 5 = ze N383_ 81 5 := hsN411_.e (by decide)
                                            have r7_N411_ := ze_r N411_ 81 7
                                            have e12_N411_ : ze N411_ 81 12 = ze N383_ 81 12 := hsN411_.e (by decide)
                                            have e13_N411_ : ze N411_ 81 13 = ze N383_ 81 13 := hsN411_.e (by decide)
                                            have e14_N411_ : ze N411_ 81 14 = ze N383_ 81 14 := hsN411_.e (by decide)
                                            have c413_ : zB 83 24 0 5 N411_ := zB.fr hsN411_ c393_ (by decide) (by decide)
                                            have c414_ : zB 85 144 0 5 N411_ := zB.fr hsN411_ hB85_ (by decide) (by decide)
                                            have c415_ : zTv N411_ := zTv.fr hsN411_ i387_ (by decide) (by decide)
                                            have c416_ : zPm N411_ := zPm.fr hsN411_ hPm_ (by decide) (by decide)
                                            have c417_ : zFin N411_ := zFin.fr hsN411_ hFn_ (by decide) (by decide)
                                            have c418_ : zGB T N411_ := zGB.fr hsN411_ hGB (by decide) (by decide)
                                            have c419_ : zGD N411_ := zGD.fr hsN411_ hGd (by decide) (by decide)
                                            show zW l m_M_reads (zn Mz + 0, zw Mz + 0) N411_ 107 [some (.ref 81)] [] (zpV [3, 4, 5, 6, 7, 8, 11, 12, 13, 14, 20, 25, 26, 38, 39, 41, 42, 43] [83, 85, 86, 87, 88, 89, 90, 91, 92, 93, 94, 95, 96, 97, 100, 101, 102] Mz (fun N => 0 ≤ ze N 81 13 ∧ ze N 81 13 ≤ 4 ∧ 0 ≤ ze N 81 14 ∧ ze N 81 14 ≤ 8 ∧ zB 83 24 0 5 N ∧ zB 85 144 0 5 N ∧ (((1 ≤ ze N 81 7 ∧ zmu N = 0) ∨ (ze N 81 7 = 0 ∧ 1 ≤ ze N 81 12 ∧ ze N 81 12 ≤ 6 ∧ zPm N ∧ zFin N ∧ (∃ T : zGT, T ∈ gTabs ∧ zGB T N))))))
                                            have hz0 := zmu_s N411_
                                            exact zr_vret (pc := 107) rfl hf_N411_ ⟨(show 0 ≤ ze N411_ 81 13 by first | assumption | omega), (show ze N411_ 81 13 ≤ 4 by first | assumption | omega), (show 0 ≤ ze N411_ 81 14 by first | assumption | omega), (show ze N411_ 81 14 ≤ 8 by first | assumption | omega), c413_, c414_, (show ((1 ≤ ze N411_ 81 7 ∧ zmu N411_ = 0) ∨ (ze N411_ 81 7 = 0 ∧ 1 ≤ ze N411_ 81 12 ∧ ze N411_ 81 12 ≤ 6 ∧ zPm N411_ ∧ zFin N411_ ∧ (∃ T : zGT, T ∈ gTabs ∧ zGB T N411_))) from Or.inl (⟨(show 1 ≤ ze N411_ 81 7 by first | assumption | omega), (show zmu N411_ = 0 by first | assumption | omega)⟩))⟩ d_M_reads_107
                                      · skip
                                        exfalso; omega
                                    · skip
                                      exact absurd hc_78 (by decide)
                            exact lp_71 _ N367_ zFr.rf (show 0 ≤ ze N367_ 81 3 by first | assumption | omega) (show ze N367_ 81 3 ≤ ze N367_ 81 2 by first | assumption | omega) i371_ (show 0 ≤ ze N367_ 81 13 by first | assumption | omega) (show ze N367_ 81 13 ≤ 4 by first | assumption | omega) (show 0 ≤ ze N367_ 81 14 by first | assumption | omega) (show ze N367_ 81 14 ≤ 8 by first | assumption | omega) (show (1 ≤ ze N367_ 81 7 ∧ zmu N367_ = 0) ∨ (ze N367_ 81 7 = 0 ∧ 1 ≤ ze N367_ 81 12 ∧ ze N367_ 81 12 ≤ 6 ∧ zPm N367_ ∧ zFin N367_ ∧ (∃ T : zGT, T ∈ gTabs ∧ zGB T N367_)) from Or.inl (⟨(show 1 ≤ ze N367_ 81 7 by first | assumption | omega), (show zmu N367_ = 0 by first | assumption | omega)⟩)) (Nat.lt_succ_self _)
                          · skip
                            exact absurd hc_64 (by decide)
                      · skip
                        exact absurd hc_50 (by decide)
                  · skip
                    have hPm_ := (show zPm N367_ by assumption)
                    have hFn_ := (show zFin N367_ by assumption)
                    have hz_N367_ := zmu_p N367_ (by omega) (by omega)
                    refine zw_aload_n (pc := 43) (n := 0) (x := 81) rfl d_M_reads_43 ?_
                    refine zr_ldc2 (pc := 44) (n := 1836021349) (by decide) k_M_177 d_M_reads_44 ?_
                    refine zr_callV (hf_N367_.w hW) hf_N367_.x (pc := 47) [.long (Int64.ofInt 1836021349)] [] l_M_312 (c_M_isWord l N367_ (hf_N367_.w hW) 1836021349 (by decide) (by decide)) rfl rfl rfl (by decide) (Nat.le_of_ble_eq_true rfl) d_M_reads_47 ?_
                    rintro _ N420_ ⟨v421_, rfl, ⟨hv421_a, hv421_b⟩, hsN420_, hp0_N420_⟩
                    obtain rfl := hsN420_.eq.symm
                    replace hp0_N420_ : ((v421_ = 1 ∧ ze N367_ 81 7 = 0 ∧ ze N367_ 81 5 = 1) ∨ (v421_ = 0)) := hp0_N420_
                    rcases hp0_N420_ with ⟨rfl, ha47_0_hp0_N420_, ha47_1_hp0_N420_⟩ | rfl
                    · skip
                      show zW l m_M_reads (zn Mz + 0, zw Mz + 0) N367_ 50 [some (.ref 81)] [.int (Int32.ofInt 1)] (zpV [3, 4, 5, 6, 7, 8, 11, 12, 13, 14, 20, 25, 26, 38, 39, 41, 42, 43] [83, 85, 86, 87, 88, 89, 90, 91, 92, 93, 94, 95, 96, 97, 100, 101, 102] Mz (fun N => 0 ≤ ze N 81 13 ∧ ze N 81 13 ≤ 4 ∧ 0 ≤ ze N 81 14 ∧ ze N 81 14 ≤ 8 ∧ zB 83 24 0 5 N ∧ zB 85 144 0 5 N ∧ (((1 ≤ ze N 81 7 ∧ zmu N = 0) ∨ (ze N 81 7 = 0 ∧ 1 ≤ ze N 81 12 ∧ ze N 81 12 ≤ 6 ∧ zPm N ∧ zFin N ∧ (∃ T : zGT, T ∈ gTabs ∧ zGB T N))))))
                      refine zr_if_eq (pc := 50) (tgt := 60) ⟨(by decide), (by decide)⟩ (by decide) d_M_reads_50 (fun hc_50 => ?_) (fun hc_50 => ?_)
                      · skip
                        exact absurd hc_50 (by decide)
                      · skip
                        refine zw_aload_n (pc := 53) (n := 0) (x := 81) rfl d_M_reads_53 ?_
                        refine zr_callV (hf_N367_.w hW) hf_N367_.x (pc := 54) [] [] l_M_361 (c_M_moveLine l N367_ (hf_N367_.w hW) (show 0 ≤ ze N367_ 81 3 by first | assumption | omega) (show ze N367_ 81 3 ≤ ze N367_ 81 2 by first | assumption | omega) (show ze N367_ 81 2 ≤ 700 by first | assumption | omega) i371_ (show ze N367_ 81 7 = 0 by first | assumption | omega) (show ze N367_ 81 5 = 1 by first | assumption | omega) (show 1 ≤ ze N367_ 81 12 by first | assumption | omega) (show ze N367_ 81 12 ≤ 6 by first | assumption | omega) (show 0 ≤ ze N367_ 81 13 by first | assumption | omega) (show ze N367_ 81 13 ≤ 4 by first | assumption | omega) hPm_ i377_ i378_) rfl rfl rfl (by decide) (Nat.le_of_ble_eq_true rfl) d_M_reads_54 ?_
                        rintro _ N422_ ⟨rfl, hsN422_, ⟨hp0_N422_, hp1_N422_, hp2_N422_, hp3_N422_, hp4_N422_, hp5_N422_, hp6_N422_, hp7_N422_⟩⟩
                        have hf_N422_ : zFr [3, 4, 5, 6, 7, 8, 11, 12, 13, 14, 20, 25, 26, 38, 39, 41, 42, 43] [83, 85, 86, 87, 88, 89, 90, 91, 92, 93, 94, 95, 96, 97, 100, 101, 102] Mz N422_ := hf_N367_.tr hsN422_ (by decide) (by decide)
                        have hb0_N422_ : zFr [3, 4, 5, 6, 7, 8, 11, 13, 20] [83, 85, 86, 87, 88] N257_ N422_ := hs368_.tr hsN422_ (by decide) (by decide)
                        have e2_N422_ : ze N422_ 81 2 = ze N367_ 81 2 := hsN422_.e (by decide)
                        have r3_N422_ := ze_r N422_ 81 3
                        have r5_N422_ := ze_r N422_ 81 5
                        have r7_N422_ := ze_r N422_ 81 7
                        have e12_N422_ : ze N422_ 81 12 = ze N367_ 81 12 := hsN422_.e (by decide)
                        have r13_N422_ := ze_r N422_ 81 13
                        have e14_N422_ : ze N422_ 81 14 = ze N367_ 81 14 := hsN422_.e (by decide)
                        rcases hp7_N422_ with ⟨ha54_0_hp7_N422_, ha54_1_hp7_N422_⟩ | ⟨ha54_0_hp7_N422_, ha54_1_hp7_N422_, ha54_2_hp7_N422_, ha54_3_hp7_N422_⟩
                        · skip
                          show zW l m_M_reads (zn Mz + 0, zw Mz + 0) N422_ 57 [some (.ref 81)] [] (zpV [3, 4, 5, 6, 7, 8, 11, 12, 13, 14, 20, 25, 26, 38, 39, 41, 42, 43] [83, 85, 86, 87, 88, 89, 90, 91, 92, 93, 94, 95, 96, 97, 100, 101, 102] Mz (fun N => 0 ≤ ze N 81 13 ∧ ze N 81 13 ≤ 4 ∧ 0 ≤ ze N 81 14 ∧ ze N 81 14 ≤ 8 ∧ zB 83 24 0 5 N ∧ zB 85 144 0 5 N ∧ (((1 ≤ ze N 81 7 ∧ zmu N = 0) ∨ (ze N 81 7 = 0 ∧ 1 ≤ ze N 81 12 ∧ ze N 81 12 ≤ 6 ∧ zPm N ∧ zFin N ∧ (∃ T : zGT, T ∈ gTabs ∧ zGB T N))))))
                          refine zw_goto (pc := 57) (tgt := 43) (by decide) d_M_reads_57 ?_
                          exact ih_43 N422_ hb0_N422_ (show 0 ≤ ze N422_ 81 3 by first | assumption | omega) (show ze N422_ 81 3 ≤ ze N422_ 81 2 by first | assumption | omega) hp2_N422_ (show 0 ≤ ze N422_ 81 13 by first | assumption | omega) (show ze N422_ 81 13 ≤ 4 by first | assumption | omega) (show 0 ≤ ze N422_ 81 14 by first | assumption | omega) (show ze N422_ 81 14 ≤ 8 by first | assumption | omega) (show (1 ≤ ze N422_ 81 7 ∧ zmu N422_ = 0) ∨ (ze N422_ 81 7 = 0 ∧ 1 ≤ ze N422_ 81 12 ∧ ze N422_ 81 12 ≤ 6 ∧ zPm N422_ ∧ zFin N422_) from Or.inl (⟨(show 1 ≤ ze N422_ 81 7 by first | assumption | omega), (show zmu N422_ = 0 by first | assumption | omega)⟩)) hp5_N422_ hp6_N422_ (by omega)
                        · skip
                          show zW l m_M_reads (zn Mz + 0, zw Mz + 0) N422_ 57 [some (.ref 81)] [] (zpV [3, 4, 5, 6, 7, 8, 11, 12, 13, 14, 20, 25, 26, 38, 39, 41, 42, 43] [83, 85, 86, 87, 88, 89, 90, 91, 92, 93, 94, 95, 96, 97, 100, 101, 102] Mz (fun N => 0 ≤ ze N 81 13 ∧ ze N 81 13 ≤ 4 ∧ 0 ≤ ze N 81 14 ∧ ze N 81 14 ≤ 8 ∧ zB 83 24 0 5 N ∧ zB 85 144 0 5 N ∧ (((1 ≤ ze N 81 7 ∧ zmu N = 0) ∨ (ze N 81 7 = 0 ∧ 1 ≤ ze N 81 12 ∧ ze N 81 12 ≤ 6 ∧ zPm N ∧ zFin N ∧ (∃ T : zGT, T ∈ gTabs ∧ zGB T N))))))
                          refine zw_goto (pc := 57) (tgt := 43) (by decide) d_M_reads_57 ?_
                          exact ih_43 N422_ hb0_N422_ (show 0 ≤ ze N422_ 81 3 by first | assumption | omega) (show ze N422_ 81 3 ≤ ze N422_ 81 2 by first | assumption | omega) hp2_N422_ (show 0 ≤ ze N422_ 81 13 by first | assumption | omega) (show ze N422_ 81 13 ≤ 4 by first | assumption | omega) (show 0 ≤ ze N422_ 81 14 by first | assumption | omega) (show ze N422_ 81 14 ≤ 8 by first | assumption | omega) (show (1 ≤ ze N422_ 81 7 ∧ zmu N422_ = 0) ∨ (ze N422_ 81 7 = 0 ∧ 1 ≤ ze N422_ 81 12 ∧ ze N422_ 81 12 ≤ 6 ∧ zPm N422_ ∧ zFin N422_) from Or.inr (⟨(show ze N422_ 81 7 = 0 by first | assumption | omega), (show 1 ≤ ze N422_ 81 12 by first | assumption | omega), (show ze N422_ 81 12 ≤ 6 by first | assumption | omega), (show zPm N422_ by first | assumption | omega), (show zFin N422_ by first | assumption | omega)⟩)) hp5_N422_ hp6_N422_ (by omega)
                    · skip
                      show zW l m_M_reads (zn Mz + 0, zw Mz + 0) N367_ 50 [some (.ref 81)] [.int (Int32.ofInt 0)] (zpV [3, 4, 5, 6, 7, 8, 11, 12, 13, 14, 20, 25, 26, 38, 39, 41, 42, 43] [83, 85, 86, 87, 88, 89, 90, 91, 92, 93, 94, 95, 96, 97, 100, 101, 102] Mz (fun N => 0 ≤ ze N 81 13 ∧ ze N 81 13 ≤ 4 ∧ 0 ≤ ze N 81 14 ∧ ze N 81 14 ≤ 8 ∧ zB 83 24 0 5 N ∧ zB 85 144 0 5 N ∧ (((1 ≤ ze N 81 7 ∧ zmu N = 0) ∨ (ze N 81 7 = 0 ∧ 1 ≤ ze N 81 12 ∧ ze N 81 12 ≤ 6 ∧ zPm N ∧ zFin N ∧ (∃ T : zGT, T ∈ gTabs ∧ zGB T N))))))
                      refine zr_if_eq (pc := 50) (tgt := 60) ⟨(by decide), (by decide)⟩ (by decide) d_M_reads_50 (fun hc_50 => ?_) (fun hc_50 => ?_)
                      · skip
                        refine zw_aload_n (pc := 60) (n := 0) (x := 81) rfl d_M_reads_60 ?_
                        refine zr_callV (hf_N367_.w hW) hf_N367_.x (pc := 61) [] [] l_M_183 (c_M_isGood l N367_ (hf_N367_.w hW) ) rfl rfl rfl (by decide) (Nat.le_of_ble_eq_true rfl) d_M_reads_61 ?_
                        rintro _ N424_ ⟨v425_, rfl, ⟨hv425_a, hv425_b⟩, hsN424_, hp0_N424_⟩
                        obtain rfl := hsN424_.eq.symm
                        replace hp0_N424_ : ((v425_ = 1 ∧ ze N367_ 81 7 = 0) ∨ (v425_ = 0 ∧ ze N367_ 81 7 ≠ 0)) := hp0_N424_
                        rcases hp0_N424_ with ⟨rfl, ha61_0_hp0_N424_⟩ | ⟨rfl, ha61_0_hp0_N424_⟩
                        · skip
                          show zW l m_M_reads (zn Mz + 0, zw Mz + 0) N367_ 64 [some (.ref 81)] [.int (Int32.ofInt 1)] (zpV [3, 4, 5, 6, 7, 8, 11, 12, 13, 14, 20, 25, 26, 38, 39, 41, 42, 43] [83, 85, 86, 87, 88, 89, 90, 91, 92, 93, 94, 95, 96, 97, 100, 101, 102] Mz (fun N => 0 ≤ ze N 81 13 ∧ ze N 81 13 ≤ 4 ∧ 0 ≤ ze N 81 14 ∧ ze N 81 14 ≤ 8 ∧ zB 83 24 0 5 N ∧ zB 85 144 0 5 N ∧ (((1 ≤ ze N 81 7 ∧ zmu N = 0) ∨ (ze N 81 7 = 0 ∧ 1 ≤ ze N 81 12 ∧ ze N 81 12 ≤ 6 ∧ zPm N ∧ zFin N ∧ (∃ T : zGT, T ∈ gTabs ∧ zGB T N))))))
                          refine zr_if_eq (pc := 64) (tgt := 71) ⟨(by decide), (by decide)⟩ (by decide) d_M_reads_64 (fun hc_64 => ?_) (fun hc_64 => ?_)
                          · skip
                            exact absurd hc_64 (by decide)
                          · skip
                            refine zw_aload_n (pc := 67) (n := 0) (x := 81) rfl d_M_reads_67 ?_
                            refine zr_callV (hf_N367_.w hW) hf_N367_.x (pc := 68) [] [] l_M_118 (c_M_builds l N367_ (hf_N367_.w hW) (show 1 ≤ ze N367_ 81 12 by first | assumption | omega) (show ze N367_ 81 12 ≤ 6 by first | assumption | omega) (show 0 ≤ ze N367_ 81 13 by first | assumption | omega) (show ze N367_ 81 13 ≤ 4 by first | assumption | omega) hPm_ hFn_ i377_ i378_) rfl rfl rfl (by decide) (Nat.le_of_ble_eq_true rfl) d_M_reads_68 ?_
                            rintro _ N426_ ⟨rfl, hsN426_, hp0_N426_⟩
                            replace hp0_N426_ : ∃ T : zGT, T ∈ gTabs ∧ zGB T N426_ := hp0_N426_
                            have hf_N426_ : zFr [3, 4, 5, 6, 7, 8, 11, 12, 13, 14, 20, 25, 26, 38, 39, 41, 42, 43] [83, 85, 86, 87, 88, 89, 90, 91, 92, 93, 94, 95, 96, 97, 100, 101, 102] Mz N426_ := hf_N367_.tr hsN426_ (by decide) (by decide)
                            have e2_N426_ : ze N426_ 81 2 = ze N367_ 81 2 := hsN426_.e (by decide)
                            have e3_N426_ : ze N426_ 81 3 = ze N367_ 81 3 := hsN426_.e (by decide)
                            have e5_N426_ : ze N426_ 81 5 = ze N367_ 81 5 := hsN426_.e (by decide)
                            have e7_N426_ : ze N426_ 81 7 = ze N367_ 81 7 := hsN426_.e (by decide)
                            have e12_N426_ : ze N426_ 81 12 = ze N367_ 81 12 := hsN426_.e (by decide)
                            have e13_N426_ : ze N426_ 81 13 = ze N367_ 81 13 := hsN426_.e (by decide)
                            have e14_N426_ : ze N426_ 81 14 = ze N367_ 81 14 := hsN426_.e (by decide)
                            have qzmu_N426_ : zmu N426_ = zmu N367_ := zmu_f hsN426_ (by decide)
                            have c428_ : zTv N426_ := zTv.fr hsN426_ i371_ (by decide) (by decide)
                            have c429_ : zB 83 24 0 5 N426_ := zB.fr hsN426_ i377_ (by decide) (by decide)
                            have c430_ : zPm N426_ := zPm.fr hsN426_ hPm_ (by decide) (by decide)
                            have c431_ : zFin N426_ := zFin.fr hsN426_ hFn_ (by decide) (by decide)
                            show zW l m_M_reads (zn Mz + 0, zw Mz + 0) N426_ 71 [some (.ref 81)] [] (zpV [3, 4, 5, 6, 7, 8, 11, 12, 13, 14, 20, 25, 26, 38, 39, 41, 42, 43] [83, 85, 86, 87, 88, 89, 90, 91, 92, 93, 94, 95, 96, 97, 100, 101, 102] Mz (fun N => 0 ≤ ze N 81 13 ∧ ze N 81 13 ≤ 4 ∧ 0 ≤ ze N 81 14 ∧ ze N 81 14 ≤ 8 ∧ zB 83 24 0 5 N ∧ zB 85 144 0 5 N ∧ (((1 ≤ ze N 81 7 ∧ zmu N = 0) ∨ (ze N 81 7 = 0 ∧ 1 ≤ ze N 81 12 ∧ ze N 81 12 ≤ 6 ∧ zPm N ∧ zFin N ∧ (∃ T : zGT, T ∈ gTabs ∧ zGB T N))))))
                            obtain ⟨T, hTt, hGB⟩ := id hp0_N426_
                            have hB85_ : zB 85 144 0 5 N426_ := hGB.2.1
                            have hO := gTabs_ok T hTt
                            have hGd := zGB.d hO hGB
                            have lp_71 : ∀ (n : Nat) (N432_ : zMem) (hs433_ : zFr [3, 4, 5, 6, 7, 8, 11, 14, 38, 39, 41, 42, 43] [95, 96, 97, 100, 101, 102] N426_ N432_) (i434_ : 0 ≤ ze N432_ 81 3) (i435_ : ze N432_ 81 3 ≤ ze N432_ 81 2) (i436_ : zTv N432_) (i437_ : 0 ≤ ze N432_ 81 13) (i438_ : ze N432_ 81 13 ≤ 4) (i439_ : 0 ≤ ze N432_ 81 14) (i440_ : ze N432_ 81 14 ≤ 8) (i441_ : (1 ≤ ze N432_ 81 7 ∧ zmu N432_ = 0) ∨ (ze N432_ 81 7 = 0 ∧ 1 ≤ ze N432_ 81 12 ∧ ze N432_ 81 12 ≤ 6 ∧ zPm N432_ ∧ zFin N432_ ∧ (∃ T : zGT, T ∈ gTabs ∧ zGB T N432_))), (zmu N432_).toNat < n → zW l m_M_reads (zn Mz + 0, zw Mz + 0) N432_ 71 [some (.ref 81)] [] (zpV [3, 4, 5, 6, 7, 8, 11, 12, 13, 14, 20, 25, 26, 38, 39, 41, 42, 43] [83, 85, 86, 87, 88, 89, 90, 91, 92, 93, 94, 95, 96, 97, 100, 101, 102] Mz (fun N => 0 ≤ ze N 81 13 ∧ ze N 81 13 ≤ 4 ∧ 0 ≤ ze N 81 14 ∧ ze N 81 14 ≤ 8 ∧ zB 83 24 0 5 N ∧ zB 85 144 0 5 N ∧ (((1 ≤ ze N 81 7 ∧ zmu N = 0) ∨ (ze N 81 7 = 0 ∧ 1 ≤ ze N 81 12 ∧ ze N 81 12 ≤ 6 ∧ zPm N ∧ zFin N ∧ (∃ T : zGT, T ∈ gTabs ∧ zGB T N)))))) := by
                              clear hp0_N257_ hp1_N257_ hp2_N257_ hf_N257_ r3_N257_ r5_N257_ r7_N257_ c259_ c260_ ha40_0_hp3_N257_ hs368_ e2_N367_ e12_N367_ e14_N367_ hv421_a hv421_b hv425_a hv425_b
                              intro n
                              induction n with
                              | zero =>
                                intro N432_ hs433_ i434_ i435_ i436_ i437_ i438_ i439_ i440_ i441_ h0
                                exact absurd h0 (Nat.not_lt_zero _)
                              | succ n ih_71 =>
                                intro N432_ hs433_ i434_ i435_ i436_ i437_ i438_ i439_ i440_ i441_ hlt_71
                                have hf_N432_ : zFr [3, 4, 5, 6, 7, 8, 11, 12, 13, 14, 20, 25, 26, 38, 39, 41, 42, 43] [83, 85, 86, 87, 88, 89, 90, 91, 92, 93, 94, 95, 96, 97, 100, 101, 102] Mz N432_ := hf_N426_.tr hs433_ (by decide) (by decide)
                                have e2_N432_ : ze N432_ 81 2 = ze N426_ 81 2 := hs433_.e (by decide)
                                have r3_N432_ := ze_r N432_ 81 3
                                have r5_N432_ := ze_r N432_ 81 5
                                have r7_N432_ := ze_r N432_ 81 7
                                have e12_N432_ : ze N432_ 81 12 = ze N426_ 81 12 := hs433_.e (by decide)
                                have e13_N432_ : ze N432_ 81 13 = ze N426_ 81 13 := hs433_.e (by decide)
                                have r14_N432_ := ze_r N432_ 81 14
                                have c442_ : zB 83 24 0 5 N432_ := zB.fr hs433_ c429_ (by decide) (by decide)
                                have c443_ : zPm N432_ := zPm.fr hs433_ c430_ (by decide) (by decide)
                                have c444_ : zFin N432_ := zFin.fr hs433_ c431_ (by decide) (by decide)
                                have c445_ : zB 85 144 0 5 N432_ := zB.fr hs433_ hB85_ (by decide) (by decide)
                                have c446_ : zGB T N432_ := zGB.fr hs433_ hGB (by decide) (by decide)
                                have c447_ : zGD N432_ := zGD.fr hs433_ hGd (by decide) (by decide)
                                have zz2_N432_ : ze N432_ 81 2 = ze Mz 81 2 := hf_N432_.e (by decide)
                                rcases i441_ with ⟨hl71_0_i441_, hl71_1_i441_⟩ | ⟨hl71_0_i441_, hl71_1_i441_, hl71_2_i441_, hl71_3_i441_, hl71_4_i441_, hl71_5_i441_⟩
                                · skip
                                  refine zw_aload_n (pc := 71) (n := 0) (x := 81) rfl d_M_reads_71 ?_
                                  refine zr_ldc2 (pc := 72) (n := 7103860) (by decide) k_M_179 d_M_reads_72 ?_
                                  refine zr_callV (hf_N432_.w hW) hf_N432_.x (pc := 75) [.long (Int64.ofInt 7103860)] [] l_M_312 (c_M_isWord l N432_ (hf_N432_.w hW) 7103860 (by decide) (by decide)) rfl rfl rfl (by decide) (Nat.le_of_ble_eq_true rfl) d_M_reads_75 ?_
                                  rintro _ N448_ ⟨v449_, rfl, ⟨hv449_a, hv449_b⟩, hsN448_, hp0_N448_⟩
                                  obtain rfl := hsN448_.eq.symm
                                  replace hp0_N448_ : ((v449_ = 1 ∧ ze N432_ 81 7 = 0 ∧ ze N432_ 81 5 = 1) ∨ (v449_ = 0)) := hp0_N448_
                                  rcases hp0_N448_ with ⟨rfl, ha75_0_hp0_N448_, ha75_1_hp0_N448_⟩ | rfl
                                  · skip
                                    exfalso; omega
                                  · skip
                                    show zW l m_M_reads (zn Mz + 0, zw Mz + 0) N432_ 78 [some (.ref 81)] [.int (Int32.ofInt 0)] (zpV [3, 4, 5, 6, 7, 8, 11, 12, 13, 14, 20, 25, 26, 38, 39, 41, 42, 43] [83, 85, 86, 87, 88, 89, 90, 91, 92, 93, 94, 95, 96, 97, 100, 101, 102] Mz (fun N => 0 ≤ ze N 81 13 ∧ ze N 81 13 ≤ 4 ∧ 0 ≤ ze N 81 14 ∧ ze N 81 14 ≤ 8 ∧ zB 83 24 0 5 N ∧ zB 85 144 0 5 N ∧ (((1 ≤ ze N 81 7 ∧ zmu N = 0) ∨ (ze N 81 7 = 0 ∧ 1 ≤ ze N 81 12 ∧ ze N 81 12 ≤ 6 ∧ zPm N ∧ zFin N ∧ (∃ T : zGT, T ∈ gTabs ∧ zGB T N))))))
                                    refine zr_if_eq (pc := 78) (tgt := 88) ⟨(by decide), (by decide)⟩ (by decide) d_M_reads_78 (fun hc_78 => ?_) (fun hc_78 => ?_)
                                    · skip
                                      refine zw_aload_n (pc := 88) (n := 0) (x := 81) rfl d_M_reads_88 ?_
                                      refine zr_callV (hf_N432_.w hW) hf_N432_.x (pc := 89) [] [] l_M_183 (c_M_isGood l N432_ (hf_N432_.w hW) ) rfl rfl rfl (by decide) (Nat.le_of_ble_eq_true rfl) d_M_reads_89 ?_
                                      rintro _ N450_ ⟨v451_, rfl, ⟨hv451_a, hv451_b⟩, hsN450_, hp0_N450_⟩
                                      obtain rfl := hsN450_.eq.symm
                                      replace hp0_N450_ : ((v451_ = 1 ∧ ze N432_ 81 7 = 0) ∨ (v451_ = 0 ∧ ze N432_ 81 7 ≠ 0)) := hp0_N450_
                                      rcases hp0_N450_ with ⟨rfl, ha89_0_hp0_N450_⟩ | ⟨rfl, ha89_0_hp0_N450_⟩
                                      · skip
                                        exfalso; omega
                                      · skip
                                        show zW l m_M_reads (zn Mz + 0, zw Mz + 0) N432_ 92 [some (.ref 81)] [.int (Int32.ofInt 0)] (zpV [3, 4, 5, 6, 7, 8, 11, 12, 13, 14, 20, 25, 26, 38, 39, 41, 42, 43] [83, 85, 86, 87, 88, 89, 90, 91, 92, 93, 94, 95, 96, 97, 100, 101, 102] Mz (fun N => 0 ≤ ze N 81 13 ∧ ze N 81 13 ≤ 4 ∧ 0 ≤ ze N 81 14 ∧ ze N 81 14 ≤ 8 ∧ zB 83 24 0 5 N ∧ zB 85 144 0 5 N ∧ (((1 ≤ ze N 81 7 ∧ zmu N = 0) ∨ (ze N 81 7 = 0 ∧ 1 ≤ ze N 81 12 ∧ ze N 81 12 ≤ 6 ∧ zPm N ∧ zFin N ∧ (∃ T : zGT, T ∈ gTabs ∧ zGB T N))))))
                                        refine zr_if_eq (pc := 92) (tgt := 107) ⟨(by decide), (by decide)⟩ (by decide) d_M_reads_92 (fun hc_92 => ?_) (fun hc_92 => ?_)
                                        · skip
                                          have hz0 := zmu_s N432_
                                          exact zr_vret (pc := 107) rfl hf_N432_ ⟨(show 0 ≤ ze N432_ 81 13 by first | assumption | omega), (show ze N432_ 81 13 ≤ 4 by first | assumption | omega), (show 0 ≤ ze N432_ 81 14 by first | assumption | omega), (show ze N432_ 81 14 ≤ 8 by first | assumption | omega), c442_, c445_, (show ((1 ≤ ze N432_ 81 7 ∧ zmu N432_ = 0) ∨ (ze N432_ 81 7 = 0 ∧ 1 ≤ ze N432_ 81 12 ∧ ze N432_ 81 12 ≤ 6 ∧ zPm N432_ ∧ zFin N432_ ∧ (∃ T : zGT, T ∈ gTabs ∧ zGB T N432_))) from Or.inl (⟨(show 1 ≤ ze N432_ 81 7 by first | assumption | omega), (show zmu N432_ = 0 by first | assumption | omega)⟩))⟩ d_M_reads_107
                                        · skip
                                          exact absurd hc_92 (by decide)
                                    · skip
                                      exact absurd hc_78 (by decide)
                                · skip
                                  have hPm_ := (show zPm N432_ by assumption)
                                  have hFn_ := (show zFin N432_ by assumption)
                                  obtain ⟨T, hTt, hGB⟩ := (show ∃ T : zGT, T ∈ gTabs ∧ zGB T N432_ by assumption)
                                  have hB85_ : zB 85 144 0 5 N432_ := hGB.2.1
                                  have hO := gTabs_ok T hTt
                                  have hGd := zGB.d hO hGB
                                  have hz_N432_ := zmu_p N432_ (by omega) (by omega)
                                  refine zw_aload_n (pc := 71) (n := 0) (x := 81) rfl d_M_reads_71 ?_
                                  refine zr_ldc2 (pc := 72) (n := 7103860) (by decide) k_M_179 d_M_reads_72 ?_
                                  refine zr_callV (hf_N432_.w hW) hf_N432_.x (pc := 75) [.long (Int64.ofInt 7103860)] [] l_M_312 (c_M_isWord l N432_ (hf_N432_.w hW) 7103860 (by decide) (by decide)) rfl rfl rfl (by decide) (Nat.le_of_ble_eq_true rfl) d_M_reads_75 ?_
                                  rintro _ N452_ ⟨v453_, rfl, ⟨hv453_a, hv453_b⟩, hsN452_, hp0_N452_⟩
                                  obtain rfl := hsN452_.eq.symm
                                  replace hp0_N452_ : ((v453_ = 1 ∧ ze N432_ 81 7 = 0 ∧ ze N432_ 81 5 = 1) ∨ (v453_ = 0)) := hp0_N452_
                                  rcases hp0_N452_ with ⟨rfl, ha75_0_hp0_N452_, ha75_1_hp0_N452_⟩ | rfl
                                  · skip
                                    show zW l m_M_reads (zn Mz + 0, zw Mz + 0) N432_ 78 [some (.ref 81)] [.int (Int32.ofInt 1)] (zpV [3, 4, 5, 6, 7, 8, 11, 12, 13, 14, 20, 25, 26, 38, 39, 41, 42, 43] [83, 85, 86, 87, 88, 89, 90, 91, 92, 93, 94, 95, 96, 97, 100, 101, 102] Mz (fun N => 0 ≤ ze N 81 13 ∧ ze N 81 13 ≤ 4 ∧ 0 ≤ ze N 81 14 ∧ ze N 81 14 ≤ 8 ∧ zB 83 24 0 5 N ∧ zB 85 144 0 5 N ∧ (((1 ≤ ze N 81 7 ∧ zmu N = 0) ∨ (ze N 81 7 = 0 ∧ 1 ≤ ze N 81 12 ∧ ze N 81 12 ≤ 6 ∧ zPm N ∧ zFin N ∧ (∃ T : zGT, T ∈ gTabs ∧ zGB T N))))))
                                    refine zr_if_eq (pc := 78) (tgt := 88) ⟨(by decide), (by decide)⟩ (by decide) d_M_reads_78 (fun hc_78 => ?_) (fun hc_78 => ?_)
                                    · skip
                                      exact absurd hc_78 (by decide)
                                    · skip
                                      refine zw_aload_n (pc := 81) (n := 0) (x := 81) rfl d_M_reads_81 ?_
                                      refine zr_callV (hf_N432_.w hW) hf_N432_.x (pc := 82) [] [] l_M_364 (c_M_letLine l N432_ (hf_N432_.w hW) hGd (show 0 ≤ ze N432_ 81 3 by first | assumption | omega) (show ze N432_ 81 3 ≤ ze N432_ 81 2 by first | assumption | omega) (show ze N432_ 81 2 ≤ 700 by first | assumption | omega) i436_ (show ze N432_ 81 7 = 0 by first | assumption | omega) (show ze N432_ 81 5 = 1 by first | assumption | omega) (show 0 ≤ ze N432_ 81 14 by first | assumption | omega) (show ze N432_ 81 14 ≤ 8 by first | assumption | omega)) rfl rfl rfl (by decide) (Nat.le_of_ble_eq_true rfl) d_M_reads_82 ?_
                                      rintro _ N454_ ⟨rfl, hsN454_, ⟨hp0_N454_, hp1_N454_, hp2_N454_, hp3_N454_, hp4_N454_, hp5_N454_⟩⟩
                                      have hf_N454_ : zFr [3, 4, 5, 6, 7, 8, 11, 12, 13, 14, 20, 25, 26, 38, 39, 41, 42, 43] [83, 85, 86, 87, 88, 89, 90, 91, 92, 93, 94, 95, 96, 97, 100, 101, 102] Mz N454_ := hf_N432_.tr hsN454_ (by decide) (by decide)
                                      have hb0_N454_ : zFr [3, 4, 5, 6, 7, 8, 11, 14, 38, 39, 41, 42, 43] [95, 96, 97, 100, 101, 102] N426_ N454_ := hs433_.tr hsN454_ (by decide) (by decide)
                                      have e2_N454_ : ze N454_ 81 2 = ze N432_ 81 2 := hsN454_.e (by decide)
                                      have r3_N454_ := ze_r N454_ 81 3
                                      have r5_N454_ := ze_r N454_ 81 5
                                      have r7_N454_ := ze_r N454_ 81 7
                                      have e12_N454_ : ze N454_ 81 12 = ze N432_ 81 12 := hsN454_.e (by decide)
                                      have e13_N454_ : ze N454_ 81 13 = ze N432_ 81 13 := hsN454_.e (by decide)
                                      have r14_N454_ := ze_r N454_ 81 14
                                      have c456_ : zB 83 24 0 5 N454_ := zB.fr hsN454_ c442_ (by decide) (by decide)
                                      have c457_ : zPm N454_ := zPm.fr hsN454_ hPm_ (by decide) (by decide)
                                      have c458_ : zFin N454_ := zFin.fr hsN454_ hFn_ (by decide) (by decide)
                                      have c459_ : zB 85 144 0 5 N454_ := zB.fr hsN454_ hB85_ (by decide) (by decide)
                                      have c460_ : zGB T N454_ := zGB.fr hsN454_ hGB (by decide) (by decide)
                                      have c461_ : zGD N454_ := zGD.fr hsN454_ hGd (by decide) (by decide)
                                      rcases hp5_N454_ with ⟨ha82_0_hp5_N454_, ha82_1_hp5_N454_⟩ | ⟨ha82_0_hp5_N454_, ha82_1_hp5_N454_⟩
                                      · skip
                                        have hEx_ : ∃ T : zGT, T ∈ gTabs ∧ zGB T N454_ := ⟨T, hTt, c460_⟩
                                        show zW l m_M_reads (zn Mz + 0, zw Mz + 0) N454_ 85 [some (.ref 81)] [] (zpV [3, 4, 5, 6, 7, 8, 11, 12, 13, 14, 20, 25, 26, 38, 39, 41, 42, 43] [83, 85, 86, 87, 88, 89, 90, 91, 92, 93, 94, 95, 96, 97, 100, 101, 102] Mz (fun N => 0 ≤ ze N 81 13 ∧ ze N 81 13 ≤ 4 ∧ 0 ≤ ze N 81 14 ∧ ze N 81 14 ≤ 8 ∧ zB 83 24 0 5 N ∧ zB 85 144 0 5 N ∧ (((1 ≤ ze N 81 7 ∧ zmu N = 0) ∨ (ze N 81 7 = 0 ∧ 1 ≤ ze N 81 12 ∧ ze N 81 12 ≤ 6 ∧ zPm N ∧ zFin N ∧ (∃ T : zGT, T ∈ gTabs ∧ zGB T N))))))
                                        refine zw_goto (pc := 85) (tgt := 71) (by decide) d_M_reads_85 ?_
                                        exact ih_71 N454_ hb0_N454_ (show 0 ≤ ze N454_ 81 3 by first | assumption | omega) (show ze N454_ 81 3 ≤ ze N454_ 81 2 by first | assumption | omega) hp2_N454_ (show 0 ≤ ze N454_ 81 13 by first | assumption | omega) (show ze N454_ 81 13 ≤ 4 by first | assumption | omega) (show 0 ≤ ze N454_ 81 14 by first | assumption | omega) (show ze N454_ 81 14 ≤ 8 by first | assumption | omega) (show (1 ≤ ze N454_ 81 7 ∧ zmu N454_ = 0) ∨ (ze N454_ 81 7 = 0 ∧ 1 ≤ ze N454_ 81 12 ∧ ze N454_ 81 12 ≤ 6 ∧ zPm N454_ ∧ zFin N454_ ∧ (∃ T : zGT, T ∈ gTabs ∧ zGB T N454_)) from Or.inl (⟨(show 1 ≤ ze N454_ 81 7 by first | assumption | omega), (show zmu N454_ = 0 by first | assumption | omega)⟩)) (by omega)
                                      · skip
                                        have hEx_ : ∃ T : zGT, T ∈ gTabs ∧ zGB T N454_ := ⟨T, hTt, c460_⟩
                                        show zW l m_M_reads (zn Mz + 0, zw Mz + 0) N454_ 85 [some (.ref 81)] [] (zpV [3, 4, 5, 6, 7, 8, 11, 12, 13, 14, 20, 25, 26, 38, 39, 41, 42, 43] [83, 85, 86, 87, 88, 89, 90, 91, 92, 93, 94, 95, 96, 97, 100, 101, 102] Mz (fun N => 0 ≤ ze N 81 13 ∧ ze N 81 13 ≤ 4 ∧ 0 ≤ ze N 81 14 ∧ ze N 81 14 ≤ 8 ∧ zB 83 24 0 5 N ∧ zB 85 144 0 5 N ∧ (((1 ≤ ze N 81 7 ∧ zmu N = 0) ∨ (ze N 81 7 = 0 ∧ 1 ≤ ze N 81 12 ∧ ze N 81 12 ≤ 6 ∧ zPm N ∧ zFin N ∧ (∃ T : zGT, T ∈ gTabs ∧ zGB T N))))))
                                        refine zw_goto (pc := 85) (tgt := 71) (by decide) d_M_reads_85 ?_
                                        exact ih_71 N454_ hb0_N454_ (show 0 ≤ ze N454_ 81 3 by first | assumption | omega) (show ze N454_ 81 3 ≤ ze N454_ 81 2 by first | assumption | omega) hp2_N454_ (show 0 ≤ ze N454_ 81 13 by first | assumption | omega) (show ze N454_ 81 13 ≤ 4 by first | assumption | omega) (show 0 ≤ ze N454_ 81 14 by first | assumption | omega) (show ze N454_ 81 14 ≤ 8 by first | assumption | omega) (show (1 ≤ ze N454_ 81 7 ∧ zmu N454_ = 0) ∨ (ze N454_ 81 7 = 0 ∧ 1 ≤ ze N454_ 81 12 ∧ ze N454_ 81 12 ≤ 6 ∧ zPm N454_ ∧ zFin N454_ ∧ (∃ T : zGT, T ∈ gTabs ∧ zGB T N454_)) from Or.inr (⟨(show ze N454_ 81 7 = 0 by first | assumption | omega), (show 1 ≤ ze N454_ 81 12 by first | assumption | omega), (show ze N454_ 81 12 ≤ 6 by first | assumption | omega), (show zPm N454_ by first | assumption | omega), (show zFin N454_ by first | assumption | omega), (show (∃ T : zGT, T ∈ gTabs ∧ zGB T N454_) by first | assumption | omega)⟩)) (by omega)
                                  · skip
                                    show zW l m_M_reads (zn Mz + 0, zw Mz + 0) N432_ 78 [some (.ref 81)] [.int (Int32.ofInt 0)] (zpV [3, 4, 5, 6, 7, 8, 11, 12, 13, 14, 20, 25, 26, 38, 39, 41, 42, 43] [83, 85, 86, 87, 88, 89, 90, 91, 92, 93, 94, 95, 96, 97, 100, 101, 102] Mz (fun N => 0 ≤ ze N 81 13 ∧ ze N 81 13 ≤ 4 ∧ 0 ≤ ze N 81 14 ∧ ze N 81 14 ≤ 8 ∧ zB 83 24 0 5 N ∧ zB 85 144 0 5 N ∧ (((1 ≤ ze N 81 7 ∧ zmu N = 0) ∨ (ze N 81 7 = 0 ∧ 1 ≤ ze N 81 12 ∧ ze N 81 12 ≤ 6 ∧ zPm N ∧ zFin N ∧ (∃ T : zGT, T ∈ gTabs ∧ zGB T N))))))
                                    refine zr_if_eq (pc := 78) (tgt := 88) ⟨(by decide), (by decide)⟩ (by decide) d_M_reads_78 (fun hc_78 => ?_) (fun hc_78 => ?_)
                                    · skip
                                      refine zw_aload_n (pc := 88) (n := 0) (x := 81) rfl d_M_reads_88 ?_
                                      refine zr_callV (hf_N432_.w hW) hf_N432_.x (pc := 89) [] [] l_M_183 (c_M_isGood l N432_ (hf_N432_.w hW) ) rfl rfl rfl (by decide) (Nat.le_of_ble_eq_true rfl) d_M_reads_89 ?_
                                      rintro _ N462_ ⟨v463_, rfl, ⟨hv463_a, hv463_b⟩, hsN462_, hp0_N462_⟩
                                      obtain rfl := hsN462_.eq.symm
                                      replace hp0_N462_ : ((v463_ = 1 ∧ ze N432_ 81 7 = 0) ∨ (v463_ = 0 ∧ ze N432_ 81 7 ≠ 0)) := hp0_N462_
                                      rcases hp0_N462_ with ⟨rfl, ha89_0_hp0_N462_⟩ | ⟨rfl, ha89_0_hp0_N462_⟩
                                      · skip
                                        show zW l m_M_reads (zn Mz + 0, zw Mz + 0) N432_ 92 [some (.ref 81)] [.int (Int32.ofInt 1)] (zpV [3, 4, 5, 6, 7, 8, 11, 12, 13, 14, 20, 25, 26, 38, 39, 41, 42, 43] [83, 85, 86, 87, 88, 89, 90, 91, 92, 93, 94, 95, 96, 97, 100, 101, 102] Mz (fun N => 0 ≤ ze N 81 13 ∧ ze N 81 13 ≤ 4 ∧ 0 ≤ ze N 81 14 ∧ ze N 81 14 ≤ 8 ∧ zB 83 24 0 5 N ∧ zB 85 144 0 5 N ∧ (((1 ≤ ze N 81 7 ∧ zmu N = 0) ∨ (ze N 81 7 = 0 ∧ 1 ≤ ze N 81 12 ∧ ze N 81 12 ≤ 6 ∧ zPm N ∧ zFin N ∧ (∃ T : zGT, T ∈ gTabs ∧ zGB T N))))))
                                        refine zr_if_eq (pc := 92) (tgt := 107) ⟨(by decide), (by decide)⟩ (by decide) d_M_reads_92 (fun hc_92 => ?_) (fun hc_92 => ?_)
                                        · skip
                                          exact absurd hc_92 (by decide)
                                        · skip
                                          refine zw_aload_n (pc := 95) (n := 0) (x := 81) rfl d_M_reads_95 ?_
                                          refine zr_getI (hf_N432_.w hW) (pc := 96) f_M_155 rfl d_M_reads_96 ?_
                                          refine zr_if_eq (pc := 99) (tgt := 107) ⟨(ze_r N432_ 81 5).1, (ze_r N432_ 81 5).2⟩ (by decide) d_M_reads_99 (fun hc_99 => ?_) (fun hc_99 => ?_)
                                          · skip
                                            have hz0 := zmu_s N432_
                                            exact zr_vret (pc := 107) rfl hf_N432_ ⟨(show 0 ≤ ze N432_ 81 13 by first | assumption | omega), (show ze N432_ 81 13 ≤ 4 by first | assumption | omega), (show 0 ≤ ze N432_ 81 14 by first | assumption | omega), (show ze N432_ 81 14 ≤ 8 by first | assumption | omega), c442_, hB85_, (show ((1 ≤ ze N432_ 81 7 ∧ zmu N432_ = 0) ∨ (ze N432_ 81 7 = 0 ∧ 1 ≤ ze N432_ 81 12 ∧ ze N432_ 81 12 ≤ 6 ∧ zPm N432_ ∧ zFin N432_ ∧ (∃ T : zGT, T ∈ gTabs ∧ zGB T N432_))) from Or.inr (⟨(show ze N432_ 81 7 = 0 by first | assumption | omega), (show 1 ≤ ze N432_ 81 12 by first | assumption | omega), (show ze N432_ 81 12 ≤ 6 by first | assumption | omega), (show zPm N432_ by first | assumption | omega), (show zFin N432_ by first | assumption | omega), (show (∃ T : zGT, T ∈ gTabs ∧ zGB T N432_) by first | assumption | omega)⟩))⟩ d_M_reads_107
                                          · skip
                                            refine zw_aload_n (pc := 102) (n := 0) (x := 81) rfl d_M_reads_102 ?_
                                            refine zw_iconst (pc := 103) (v := Int32.ofInt 2) (by decide) d_M_reads_103 ?_
                                            refine zr_callV (hf_N432_.w hW) hf_N432_.x (pc := 104) [.int (Int32.ofInt 2)] [] l_M_190 (c_M_wrong l N432_ (hf_N432_.w hW) 2 (by decide) (by decide) (show ze N432_ 81 7 = 0 by first | assumption | omega) (show 1 ≤ 2 by first | assumption | omega)) rfl rfl rfl (by decide) (Nat.le_of_ble_eq_true rfl) d_M_reads_104 ?_
                                            rintro _ N464_ ⟨rfl, hsN464_, ⟨hp0_N464_, hp1_N464_⟩⟩
                                            have hf_N464_ : zFr [3, 4, 5, 6, 7, 8, 11, 12, 13, 14, 20, 25, 26, 38, 39, 41, 42, 43] [83, 85, 86, 87, 88, 89, 90, 91, 92, 93, 94, 95, 96, 97, 100, 101, 102] Mz N464_ := hf_N432_.tr hsN464_ (by decide) (by decide)
                                            have e2_N464_ : ze N464_ 81 2 = ze N432_ 81 2 := hsN464_.e (by decide)
                                            have e3_N464_ : ze N464_ 81 3 = ze N432_ 81 3 := hsN464_.e (by decide)
                                            have e5_N464_ : ze N464_ 81 5 = ze N432_ 81 5 := hsN464_.e (by decide)
                                            have r7_N464_ := ze_r N464_ 81 7
                                            have e12_N464_ : ze N464_ 81 12 = ze N432_ 81 12 := hsN464_.e (by decide)
                                            have e13_N464_ : ze N464_ 81 13 = ze N432_ 81 13 := hsN464_.e (by decide)
                                            have e14_N464_ : ze N464_ 81 14 = ze N432_ 81 14 := hsN464_.e (by decide)
                                            have c466_ : zB 83 24 0 5 N464_ := zB.fr hsN464_ c442_ (by decide) (by decide)
                                            have c467_ : zPm N464_ := zPm.fr hsN464_ hPm_ (by decide) (by decide)
                                            have c468_ : zFin N464_ := zFin.fr hsN464_ hFn_ (by decide) (by decide)
                                            have c469_ : zB 85 144 0 5 N464_ := zB.fr hsN464_ hB85_ (by decide) (by decide)
                                            have c470_ : zGB T N464_ := zGB.fr hsN464_ hGB (by decide) (by decide)
                                            have c471_ : zGD N464_ := zGD.fr hsN464_ hGd (by decide) (by decide)
                                            have c472_ : zTv N464_ := zTv.fr hsN464_ i436_ (by decide) (by decide)
                                            show zW l m_M_reads (zn Mz + 0, zw Mz + 0) N464_ 107 [some (.ref 81)] [] (zpV [3, 4, 5, 6, 7, 8, 11, 12, 13, 14, 20, 25, 26, 38, 39, 41, 42, 43] [83, 85, 86, 87, 88, 89, 90, 91, 92, 93, 94, 95, 96, 97, 100, 101, 102] Mz (fun N => 0 ≤ ze N 81 13 ∧ ze N 81 13 ≤ 4 ∧ 0 ≤ ze N 81 14 ∧ ze N 81 14 ≤ 8 ∧ zB 83 24 0 5 N ∧ zB 85 144 0 5 N ∧ (((1 ≤ ze N 81 7 ∧ zmu N = 0) ∨ (ze N 81 7 = 0 ∧ 1 ≤ ze N 81 12 ∧ ze N 81 12 ≤ 6 ∧ zPm N ∧ zFin N ∧ (∃ T : zGT, T ∈ gTabs ∧ zGB T N))))))
                                            have hz0 := zmu_s N464_
                                            exact zr_vret (pc := 107) rfl hf_N464_ ⟨(show 0 ≤ ze N464_ 81 13 by first | assumption | omega), (show ze N464_ 81 13 ≤ 4 by first | assumption | omega), (show 0 ≤ ze N464_ 81 14 by first | assumption | omega), (show ze N464_ 81 14 ≤ 8 by first | assumption | omega), c466_, c469_, (show ((1 ≤ ze N464_ 81 7 ∧ zmu N464_ = 0) ∨ (ze N464_ 81 7 = 0 ∧ 1 ≤ ze N464_ 81 12 ∧ ze N464_ 81 12 ≤ 6 ∧ zPm N464_ ∧ zFin N464_ ∧ (∃ T : zGT, T ∈ gTabs ∧ zGB T N464_))) from Or.inl (⟨(show 1 ≤ ze N464_ 81 7 by first | assumption | omega), (show zmu N464_ = 0 by first | assumption | omega)⟩))⟩ d_M_reads_107
                                      · skip
                                        exfalso; omega
                                    · skip
                                      exact absurd hc_78 (by decide)
                            exact lp_71 _ N426_ zFr.rf (show 0 ≤ ze N426_ 81 3 by first | assumption | omega) (show ze N426_ 81 3 ≤ ze N426_ 81 2 by first | assumption | omega) c428_ (show 0 ≤ ze N426_ 81 13 by first | assumption | omega) (show ze N426_ 81 13 ≤ 4 by first | assumption | omega) (show 0 ≤ ze N426_ 81 14 by first | assumption | omega) (show ze N426_ 81 14 ≤ 8 by first | assumption | omega) (show (1 ≤ ze N426_ 81 7 ∧ zmu N426_ = 0) ∨ (ze N426_ 81 7 = 0 ∧ 1 ≤ ze N426_ 81 12 ∧ ze N426_ 81 12 ≤ 6 ∧ zPm N426_ ∧ zFin N426_ ∧ (∃ T : zGT, T ∈ gTabs ∧ zGB T N426_)) from Or.inr (⟨(show ze N426_ 81 7 = 0 by first | assumption | omega), (show 1 ≤ ze N426_ 81 12 by first | assumption | omega), (show ze N426_ 81 12 ≤ 6 by first | assumption | omega), (show zPm N426_ by first | assumption | omega), (show zFin N426_ by first | assumption | omega), (show (∃ T : zGT, T ∈ gTabs ∧ zGB T N426_) by first | assumption | omega)⟩)) (Nat.lt_succ_self _)
                        · skip
                          exfalso; omega
                      · skip
                        exact absurd hc_50 (by decide)
              exact lp_43 _ N257_ zFr.rf (show 0 ≤ ze N257_ 81 3 by first | assumption | omega) (show ze N257_ 81 3 ≤ ze N257_ 81 2 by first | assumption | omega) hp2_N257_ (show 0 ≤ ze N257_ 81 13 by first | assumption | omega) (show ze N257_ 81 13 ≤ 4 by first | assumption | omega) (show 0 ≤ ze N257_ 81 14 by first | assumption | omega) (show ze N257_ 81 14 ≤ 8 by first | assumption | omega) (show (1 ≤ ze N257_ 81 7 ∧ zmu N257_ = 0) ∨ (ze N257_ 81 7 = 0 ∧ 1 ≤ ze N257_ 81 12 ∧ ze N257_ 81 12 ≤ 6 ∧ zPm N257_ ∧ zFin N257_) from Or.inr (⟨(show ze N257_ 81 7 = 0 by first | assumption | omega | exact zPm_0 (by omega) | exact zFin_0 (by omega)), (show 1 ≤ ze N257_ 81 12 by first | assumption | omega | exact zPm_0 (by omega) | exact zFin_0 (by omega)), (show ze N257_ 81 12 ≤ 6 by first | assumption | omega | exact zPm_0 (by omega) | exact zFin_0 (by omega)), (show zPm N257_ by first | assumption | omega | exact zPm_0 (by omega) | exact zFin_0 (by omega)), (show zFin N257_ by first | assumption | omega | exact zPm_0 (by omega) | exact zFin_0 (by omega))⟩)) c259_ c260_ (Nat.lt_succ_self _)
      · skip
        exfalso; omega
  refine zw_aload_n (pc := 0) (n := 0) (x := 81) rfl d_M_reads_0 ?_
  refine zr_ldc2 (pc := 1) (n := 123610792682867) (by decide) k_M_175 d_M_reads_1 ?_
  refine zr_callV (hf.w hW) hf.x (pc := 4) [.long (Int64.ofInt 123610792682867)] [] l_M_312 (c_M_isWord l Mz (hf.w hW) 123610792682867 (by decide) (by decide)) rfl rfl rfl (by decide) (Nat.le_of_ble_eq_true rfl) d_M_reads_4 ?_
  rintro _ N473_ ⟨v474_, rfl, ⟨hv474_a, hv474_b⟩, hsN473_, hp0_N473_⟩
  obtain rfl := hsN473_.eq.symm
  replace hp0_N473_ : ((v474_ = 1 ∧ ze Mz 81 7 = 0 ∧ ze Mz 81 5 = 1) ∨ (v474_ = 0)) := hp0_N473_
  rcases hp0_N473_ with ⟨rfl, ha4_0_hp0_N473_, ha4_1_hp0_N473_⟩ | rfl
  · skip
    show zW l m_M_reads (zn Mz + 0, zw Mz + 0) Mz 7 [some (.ref 81)] [.int (Int32.ofInt 1)] (zpV [3, 4, 5, 6, 7, 8, 11, 12, 13, 14, 20, 25, 26, 38, 39, 41, 42, 43] [83, 85, 86, 87, 88, 89, 90, 91, 92, 93, 94, 95, 96, 97, 100, 101, 102] Mz (fun N => 0 ≤ ze N 81 13 ∧ ze N 81 13 ≤ 4 ∧ 0 ≤ ze N 81 14 ∧ ze N 81 14 ≤ 8 ∧ zB 83 24 0 5 N ∧ zB 85 144 0 5 N ∧ (((1 ≤ ze N 81 7 ∧ zmu N = 0) ∨ (ze N 81 7 = 0 ∧ 1 ≤ ze N 81 12 ∧ ze N 81 12 ≤ 6 ∧ zPm N ∧ zFin N ∧ (∃ T : zGT, T ∈ gTabs ∧ zGB T N))))))
    refine zr_if_ne (pc := 7) (tgt := 15) ⟨(by decide), (by decide)⟩ (by decide) d_M_reads_7 (fun hc_7 => ?_) (fun hc_7 => ?_)
    · skip
      exact j_15 Mz zFr.rf (show 0 ≤ ze Mz 81 3 by first | assumption | omega) (show ze Mz 81 3 ≤ ze Mz 81 2 by first | assumption | omega) p3_ (show (1 ≤ ze Mz 81 7 ∧ zmu Mz = 0) ∨ (ze Mz 81 7 = 0 ∧ ze Mz 81 5 = 1) from Or.inr (⟨(show ze Mz 81 7 = 0 by first | assumption | omega), (show ze Mz 81 5 = 1 by first | assumption | omega)⟩))
    · skip
      exact absurd hc_7 (by decide)
  · skip
    show zW l m_M_reads (zn Mz + 0, zw Mz + 0) Mz 7 [some (.ref 81)] [.int (Int32.ofInt 0)] (zpV [3, 4, 5, 6, 7, 8, 11, 12, 13, 14, 20, 25, 26, 38, 39, 41, 42, 43] [83, 85, 86, 87, 88, 89, 90, 91, 92, 93, 94, 95, 96, 97, 100, 101, 102] Mz (fun N => 0 ≤ ze N 81 13 ∧ ze N 81 13 ≤ 4 ∧ 0 ≤ ze N 81 14 ∧ ze N 81 14 ≤ 8 ∧ zB 83 24 0 5 N ∧ zB 85 144 0 5 N ∧ (((1 ≤ ze N 81 7 ∧ zmu N = 0) ∨ (ze N 81 7 = 0 ∧ 1 ≤ ze N 81 12 ∧ ze N 81 12 ≤ 6 ∧ zPm N ∧ zFin N ∧ (∃ T : zGT, T ∈ gTabs ∧ zGB T N))))))
    refine zr_if_ne (pc := 7) (tgt := 15) ⟨(by decide), (by decide)⟩ (by decide) d_M_reads_7 (fun hc_7 => ?_) (fun hc_7 => ?_)
    · skip
      exact absurd hc_7 (by decide)
    · skip
      refine zw_aload_n (pc := 10) (n := 0) (x := 81) rfl d_M_reads_10 ?_
      refine zw_iconst (pc := 11) (v := Int32.ofInt 2) (by decide) d_M_reads_11 ?_
      refine zr_callV (hf.w hW) hf.x (pc := 12) [.int (Int32.ofInt 2)] [] l_M_190 (c_M_wrong l Mz (hf.w hW) 2 (by decide) (by decide) (show ze Mz 81 7 = 0 by first | assumption | omega) (show 1 ≤ 2 by first | assumption | omega)) rfl rfl rfl (by decide) (Nat.le_of_ble_eq_true rfl) d_M_reads_12 ?_
      rintro _ N475_ ⟨rfl, hsN475_, ⟨hp0_N475_, hp1_N475_⟩⟩
      have hf_N475_ : zFr [3, 4, 5, 6, 7, 8, 11, 12, 13, 14, 20, 25, 26, 38, 39, 41, 42, 43] [83, 85, 86, 87, 88, 89, 90, 91, 92, 93, 94, 95, 96, 97, 100, 101, 102] Mz N475_ := hf.tr hsN475_ (by decide) (by decide)
      have hb0_N475_ : zFr [7, 8] [] Mz N475_ := zFr.rf.tr hsN475_ (by decide) (by decide)
      have e2_N475_ : ze N475_ 81 2 = ze Mz 81 2 := hsN475_.e (by decide)
      have e3_N475_ : ze N475_ 81 3 = ze Mz 81 3 := hsN475_.e (by decide)
      have e5_N475_ : ze N475_ 81 5 = ze Mz 81 5 := hsN475_.e (by decide)
      have r7_N475_ := ze_r N475_ 81 7
      have e12_N475_ : ze N475_ 81 12 = ze Mz 81 12 := hsN475_.e (by decide)
      have e13_N475_ : ze N475_ 81 13 = ze Mz 81 13 := hsN475_.e (by decide)
      have e14_N475_ : ze N475_ 81 14 = ze Mz 81 14 := hsN475_.e (by decide)
      have c477_ : zTv N475_ := zTv.fr hsN475_ p3_ (by decide) (by decide)
      have c478_ : zB 83 24 0 5 N475_ := zB.fr hsN475_ p7_ (by decide) (by decide)
      have c479_ : zB 85 144 0 5 N475_ := zB.fr hsN475_ p8_ (by decide) (by decide)
      show zW l m_M_reads (zn Mz + 0, zw Mz + 0) N475_ 15 [some (.ref 81)] [] (zpV [3, 4, 5, 6, 7, 8, 11, 12, 13, 14, 20, 25, 26, 38, 39, 41, 42, 43] [83, 85, 86, 87, 88, 89, 90, 91, 92, 93, 94, 95, 96, 97, 100, 101, 102] Mz (fun N => 0 ≤ ze N 81 13 ∧ ze N 81 13 ≤ 4 ∧ 0 ≤ ze N 81 14 ∧ ze N 81 14 ≤ 8 ∧ zB 83 24 0 5 N ∧ zB 85 144 0 5 N ∧ (((1 ≤ ze N 81 7 ∧ zmu N = 0) ∨ (ze N 81 7 = 0 ∧ 1 ≤ ze N 81 12 ∧ ze N 81 12 ≤ 6 ∧ zPm N ∧ zFin N ∧ (∃ T : zGT, T ∈ gTabs ∧ zGB T N))))))
      exact j_15 N475_ hb0_N475_ (show 0 ≤ ze N475_ 81 3 by first | assumption | omega) (show ze N475_ 81 3 ≤ ze N475_ 81 2 by first | assumption | omega) c477_ (show (1 ≤ ze N475_ 81 7 ∧ zmu N475_ = 0) ∨ (ze N475_ 81 7 = 0 ∧ ze N475_ 81 5 = 1) from Or.inl (⟨(show 1 ≤ ze N475_ 81 7 by first | assumption | omega), (show zmu N475_ = 0 by first | assumption | omega)⟩))
