def zGD (M : zMem) : Prop := (1 ≤ ze M 81 20 ∧ ze M 81 20 ≤ 24 ∧ 1 ≤ ze M 81 25 ∧ ze M 81 25 ≤ 64 ∧ 1 ≤ ze M 81 26 ∧ ze M 81 26 ≤ 64) ∧ ∀ e : Int, 0 ≤ e → e < ze M 81 26 → ze M 93 (64 * e + e).toNat ≠ 0
theorem zGD.fr {S C : List Nat} {M N : zMem} (hf : zFr S C M N) (h : zGD M) (hs : 20 ∉ S ∧ 25 ∉ S ∧ 26 ∉ S) (hc : 93 ∉ C) : zGD N := by
  unfold zGD
  rw [hf.e hs.1, hf.e hs.2.1, hf.e hs.2.2]
  refine ⟨h.1, fun e h0 h1 => ?_⟩
  rw [hf.ie (by decide) hc]
  exact h.2 e h0 h1
def zctN (f : Nat → Int) : Nat → Int
  | 0 => 0
  | n + 1 => zctN f n + (if 2 ≤ f n then 1 else 0)
theorem zctN_b (f : Nat → Int) : ∀ n : Nat, 0 ≤ zctN f n ∧ zctN f n ≤ n
  | 0 => ⟨Int.le_refl _, Int.le_refl _⟩
  | n + 1 => by
    have := zctN_b f n
    unfold zctN
    split <;> omega
theorem zctN_c {f g : Nat → Int} : ∀ n : Nat, (∀ k, k < n → f k = g k) → zctN f n = zctN g n
  | 0, _ => rfl
  | n + 1, h => by
    unfold zctN
    rw [zctN_c n (fun k hk => h k (by omega)), h n (by omega)]
def zcw (M : zMem) : Int := zctN (ze M 100) (ze M 81 41).toNat
theorem zcw_f {S C : List Nat} {M N : zMem} (h : zFr S C M N) (hs : 41 ∉ S ∧ 100 ∉ C) : zcw N = zcw M := by
  unfold zcw
  rw [h.e hs.1]
  exact zctN_c _ (fun k _ => h.ie (by decide) hs.2 k)
theorem zcw_b (M : zMem) (h : 0 ≤ ze M 81 41) : 0 ≤ zcw M ∧ zcw M ≤ ze M 81 41 := by
  have := zctN_b (ze M 100) (ze M 81 41).toNat
  unfold zcw
  omega
theorem zcw_0 (M : zMem) (h : ze M 81 41 = 0) : zcw M = 0 := by
  unfold zcw
  rw [h]
  rfl
theorem zcw_up {M N : zMem} {i : Nat} (hw : ∀ k, k < i → ze N 100 k = ze M 100 k) (h1 : (ze M 81 41).toNat = i) (h2 : (ze N 81 41).toNat = i + 1) : zcw N = zcw M + (if 2 ≤ ze N 100 i then 1 else 0) := by
  unfold zcw
  rw [h1, h2]
  show zctN (ze N 100) i + _ = _
  rw [zctN_c i hw]
theorem zcw_dec {M N : zMem} (h : zFr [41] [] M N) (e : ze N 81 41 = ze M 81 41 - 1) (h0 : 1 ≤ ze M 81 41) : (2 ≤ ze M 100 (ze M 81 41 - 1).toNat ∧ zcw N = zcw M - 1) ∨ (ze M 100 (ze M 81 41 - 1).toNat < 2 ∧ zcw N = zcw M) := by
  have h1 := zcw_up (M := N) (N := M) (i := (ze M 81 41 - 1).toNat) (fun k _ => (h.ie (by decide) (by decide) k).symm) (by omega) (by omega)
  by_cases h2 : 2 ≤ ze M 100 (ze M 81 41 - 1).toNat
  · rw [if_pos h2] at h1
    exact Or.inl ⟨h2, by omega⟩
  · rw [if_neg h2] at h1
    exact Or.inr ⟨by omega, by omega⟩
theorem zcw_push {M N1 N2 : zMem} {w : Int} (h1 : N1 = zsI M 100 (ze M 81 41).toNat (Int32.ofInt w)) (h2 : zFr [41] [] N1 N2) (e : ze N2 81 41 = ze N1 81 41 + 1) (h0 : 0 ≤ ze M 81 41) (hw : zn32 w) : (2 ≤ w ∧ zcw N2 = zcw M + 1) ∨ (w < 2 ∧ zcw N2 = zcw M) := by
  have e1 : ze N1 81 41 = ze M 81 41 := by rw [h1]; exact (zFr.sA (by decide)).e (S := []) List.not_mem_nil
  have hg : ∀ k, ze N2 100 k = ze N1 100 k := fun k => h2.ie (by decide) (by decide) k
  have h3 := zcw_up (M := M) (N := N2) (i := (ze M 81 41).toNat) (fun k hk => by rw [hg, zs_oth h1 (by omega)]) rfl (by omega)
  rw [hg, zs_get h1 hw] at h3
  by_cases h2 : 2 ≤ w
  · rw [if_pos h2] at h3
    exact Or.inl ⟨h2, by omega⟩
  · rw [if_neg h2] at h3
    exact Or.inr ⟨by omega, by omega⟩
theorem zctN_lt {f : Nat → Int} : ∀ (n k : Nat), k < n → f k < 2 → zctN f n ≤ n - 1
  | 0, _, h, _ => by omega
  | n + 1, k, h, h2 => by
    unfold zctN
    have hb := zctN_b f n
    by_cases e : k = n
    · subst e
      rw [if_neg (by omega)]
      omega
    · have := zctN_lt n k (by omega) h2
      split <;> omega
theorem zct_lt {M : zMem} {k : Int} (h0 : 0 ≤ k) (h1 : k < ze M 81 41) (h2 : ze M 100 k.toNat < 2) : zcw M ≤ ze M 81 41 - 1 := by
  have := zctN_lt (f := ze M 100) (ze M 81 41).toNat k.toNat (by omega) h2
  unfold zcw
  omega
theorem zmu_p (M : zMem) (h : ze M 81 7 = 0) (h3 : ze M 81 3 ≤ ze M 81 2) : 1 ≤ zmu M := by
  have := zmu_s M
  omega
set_option maxHeartbeats 4000000 in
theorem c_M_countsUnit (l : Launch) (Mz : zMem) (hW : zMt Mz) (p0_ : 0 ≤ ze Mz 81 7) (p1_ : 0 ≤ ze Mz 81 43) (p2_ : ze Mz 81 43 ≤ 1000) : zC l m_M_countsUnit 0 0 [.ref 81] Mz (zpV [7, 8, 43] [] Mz (fun N => ze N 81 43 = ze Mz 81 43 + 1 ∧ (((1 ≤ ze N 81 7 ∧ zmu N = 0) ∨ (ze N 81 7 = 0 ∧ ze Mz 81 7 = 0 ∧ ze Mz 81 43 ≠ 30 ∧ zmu N = zmu Mz))))) := by
  refine zC_of (L0 := [some (.ref 81)]) md_M_countsUnit (Nat.le_of_ble_eq_true rfl) rfl ?_ zQ0
  have hf : zFr [7, 8, 43] [] Mz Mz := zFr.rf
  have r_7 := ze_r Mz 81 7
  have r_42 := ze_r Mz 81 42
  have r_43 := ze_r Mz 81 43
  refine zw_aload_n (pc := 0) (n := 0) (x := 81) rfl d_M_countsUnit_0 ?_
  refine zr_callV (hf.w hW) hf.x (pc := 1) [] [] l_M_183 (c_M_isGood l Mz (hf.w hW) ) rfl rfl rfl (by decide) (Nat.le_of_ble_eq_true rfl) d_M_countsUnit_1 ?_
  rintro _ N1_ ⟨v2_, rfl, ⟨hv2_a, hv2_b⟩, hsN1_, hp0_N1_⟩
  obtain rfl := hsN1_.eq.symm
  replace hp0_N1_ : ((v2_ = 1 ∧ ze Mz 81 7 = 0) ∨ (v2_ = 0 ∧ ze Mz 81 7 ≠ 0)) := hp0_N1_
  rcases hp0_N1_ with ⟨rfl, ha1_0_hp0_N1_⟩ | ⟨rfl, ha1_0_hp0_N1_⟩
  · skip
    show zW l m_M_countsUnit (zn Mz + 0, zw Mz + 0) Mz 4 [some (.ref 81)] [.int (Int32.ofInt 1)] (zpV [7, 8, 43] [] Mz (fun N => ze N 81 43 = ze Mz 81 43 + 1 ∧ (((1 ≤ ze N 81 7 ∧ zmu N = 0) ∨ (ze N 81 7 = 0 ∧ ze Mz 81 7 = 0 ∧ ze Mz 81 43 ≠ 30 ∧ zmu N = zmu Mz)))))
    refine zr_if_eq (pc := 4) (tgt := 30) ⟨by omega, by omega⟩ (by decide) d_M_countsUnit_4 (fun hc_4 => ?_) (fun hc_4 => ?_)
    · skip
      exact absurd hc_4 (by decide)
    · skip
      refine zw_aload_n (pc := 7) (n := 0) (x := 81) rfl d_M_countsUnit_7 ?_
      refine zr_getI (hf.w hW) (pc := 8) f_M_293 rfl d_M_countsUnit_8 ?_
      refine zw_bipush (pc := 11) (v := Int32.ofInt 30) (by decide) d_M_countsUnit_11 ?_
      refine zr_icmp_eq (pc := 13) (tgt := 25) ⟨by omega, by omega⟩ ⟨by omega, by omega⟩ (by decide) d_M_countsUnit_13 (fun hc_13 => ?_) (fun hc_13 => ?_)
      · skip
        refine zw_aload_n (pc := 25) (n := 0) (x := 81) rfl d_M_countsUnit_25 ?_
        refine zw_iconst (pc := 26) (v := Int32.ofInt 5) (by decide) d_M_countsUnit_26 ?_
        refine zr_callV (hf.w hW) hf.x (pc := 27) [.int (Int32.ofInt 5)] [] l_M_190 (c_M_wrong l Mz (hf.w hW) 5 (by omega) (by omega) (show ze Mz 81 7 = 0 by omega) (show 1 ≤ 5 by omega)) rfl rfl rfl (by decide) (Nat.le_of_ble_eq_true rfl) d_M_countsUnit_27 ?_
        rintro _ N3_ ⟨rfl, hsN3_, ⟨hp0_N3_, hp1_N3_⟩⟩
        have hf_N3_ : zFr [7, 8, 43] [] Mz N3_ := hf.tr hsN3_ (by decide) (by decide)
        have r7_N3_ := ze_r N3_ 81 7
        have e42_N3_ : ze N3_ 81 42 = ze Mz 81 42 := hsN3_.e (by decide)
        have e43_N3_ : ze N3_ 81 43 = ze Mz 81 43 := hsN3_.e (by decide)
        show zW l m_M_countsUnit (zn Mz + 0, zw Mz + 0) N3_ 30 [some (.ref 81)] [] (zpV [7, 8, 43] [] Mz (fun N => ze N 81 43 = ze Mz 81 43 + 1 ∧ (((1 ≤ ze N 81 7 ∧ zmu N = 0) ∨ (ze N 81 7 = 0 ∧ ze Mz 81 7 = 0 ∧ ze Mz 81 43 ≠ 30 ∧ zmu N = zmu Mz)))))
        refine zw_aload_n (pc := 30) (n := 0) (x := 81) rfl d_M_countsUnit_30 ?_
        refine zw_dup (pc := 31) rfl d_M_countsUnit_31 ?_
        refine zr_getI (hf_N3_.w hW) (pc := 32) f_M_293 rfl d_M_countsUnit_32 ?_
        refine zw_iconst (pc := 35) (v := Int32.ofInt 1) (by decide) d_M_countsUnit_35 ?_
        refine zr_iadd (pc := 36) d_M_countsUnit_36 ?_
        refine zr_putI (hf_N3_.w hW) (pc := 37) f_M_293 rfl rfl ⟨by omega, by omega⟩ rfl rfl d_M_countsUnit_37 (fun N5_ hsN5_ hvN5_ => ?_)
        have hf_N5_ : zFr [7, 8, 43] [] Mz N5_ := hf_N3_.tr hsN5_ (by decide) (by decide)
        have e7_N5_ : ze N5_ 81 7 = ze N3_ 81 7 := hsN5_.e (by decide)
        have e42_N5_ : ze N5_ 81 42 = ze N3_ 81 42 := hsN5_.e (by decide)
        have r43_N5_ := ze_r N5_ 81 43
        have qzmu_N5_ : zmu N5_ = zmu N3_ := zmu_f hsN5_ (by decide)
        have hz0 := zmu_s N5_
        exact zr_vret (pc := 40) rfl hf_N5_ ⟨(show ze N5_ 81 43 = ze Mz 81 43 + 1 by omega), (show ((1 ≤ ze N5_ 81 7 ∧ zmu N5_ = 0) ∨ (ze N5_ 81 7 = 0 ∧ ze Mz 81 7 = 0 ∧ ze Mz 81 43 ≠ 30 ∧ zmu N5_ = zmu Mz)) from Or.inl (⟨(show 1 ≤ ze N5_ 81 7 by omega), (show zmu N5_ = 0 by omega)⟩))⟩ d_M_countsUnit_40
      · skip
        refine zw_aload_n (pc := 16) (n := 0) (x := 81) rfl d_M_countsUnit_16 ?_
        refine zr_getI0 hf hW (pc := 17) (by decide) f_M_296 rfl d_M_countsUnit_17 ?_
        refine zw_bipush (pc := 20) (v := Int32.ofInt 6) (by decide) d_M_countsUnit_20 ?_
        refine zr_icmp_le (pc := 22) (tgt := 30) ⟨by omega, by omega⟩ ⟨by omega, by omega⟩ (by decide) d_M_countsUnit_22 (fun hc_22 => ?_) (fun hc_22 => ?_)
        · skip
          refine zw_aload_n (pc := 30) (n := 0) (x := 81) rfl d_M_countsUnit_30 ?_
          refine zw_dup (pc := 31) rfl d_M_countsUnit_31 ?_
          refine zr_getI (hf.w hW) (pc := 32) f_M_293 rfl d_M_countsUnit_32 ?_
          refine zw_iconst (pc := 35) (v := Int32.ofInt 1) (by decide) d_M_countsUnit_35 ?_
          refine zr_iadd (pc := 36) d_M_countsUnit_36 ?_
          refine zr_putI (hf.w hW) (pc := 37) f_M_293 rfl rfl ⟨by omega, by omega⟩ rfl rfl d_M_countsUnit_37 (fun N6_ hsN6_ hvN6_ => ?_)
          have hf_N6_ : zFr [7, 8, 43] [] Mz N6_ := hf.tr hsN6_ (by decide) (by decide)
          have e7_N6_ : ze N6_ 81 7 = ze Mz 81 7 := hsN6_.e (by decide)
          have e42_N6_ : ze N6_ 81 42 = ze Mz 81 42 := hsN6_.e (by decide)
          have r43_N6_ := ze_r N6_ 81 43
          have qzmu_N6_ : zmu N6_ = zmu Mz := zmu_f hsN6_ (by decide)
          have hz0 := zmu_s N6_
          exact zr_vret (pc := 40) rfl hf_N6_ ⟨(show ze N6_ 81 43 = ze Mz 81 43 + 1 by omega), (show ((1 ≤ ze N6_ 81 7 ∧ zmu N6_ = 0) ∨ (ze N6_ 81 7 = 0 ∧ ze Mz 81 7 = 0 ∧ ze Mz 81 43 ≠ 30 ∧ zmu N6_ = zmu Mz)) from Or.inr (⟨(show ze N6_ 81 7 = 0 by omega), (show ze Mz 81 7 = 0 by omega), (show ze Mz 81 43 ≠ 30 by omega), (show zmu N6_ = zmu Mz by omega)⟩))⟩ d_M_countsUnit_40
        · skip
          refine zw_aload_n (pc := 25) (n := 0) (x := 81) rfl d_M_countsUnit_25 ?_
          refine zw_iconst (pc := 26) (v := Int32.ofInt 5) (by decide) d_M_countsUnit_26 ?_
          refine zr_callV (hf.w hW) hf.x (pc := 27) [.int (Int32.ofInt 5)] [] l_M_190 (c_M_wrong l Mz (hf.w hW) 5 (by omega) (by omega) (show ze Mz 81 7 = 0 by omega) (show 1 ≤ 5 by omega)) rfl rfl rfl (by decide) (Nat.le_of_ble_eq_true rfl) d_M_countsUnit_27 ?_
          rintro _ N7_ ⟨rfl, hsN7_, ⟨hp0_N7_, hp1_N7_⟩⟩
          have hf_N7_ : zFr [7, 8, 43] [] Mz N7_ := hf.tr hsN7_ (by decide) (by decide)
          have r7_N7_ := ze_r N7_ 81 7
          have e42_N7_ : ze N7_ 81 42 = ze Mz 81 42 := hsN7_.e (by decide)
          have e43_N7_ : ze N7_ 81 43 = ze Mz 81 43 := hsN7_.e (by decide)
          show zW l m_M_countsUnit (zn Mz + 0, zw Mz + 0) N7_ 30 [some (.ref 81)] [] (zpV [7, 8, 43] [] Mz (fun N => ze N 81 43 = ze Mz 81 43 + 1 ∧ (((1 ≤ ze N 81 7 ∧ zmu N = 0) ∨ (ze N 81 7 = 0 ∧ ze Mz 81 7 = 0 ∧ ze Mz 81 43 ≠ 30 ∧ zmu N = zmu Mz)))))
          refine zw_aload_n (pc := 30) (n := 0) (x := 81) rfl d_M_countsUnit_30 ?_
          refine zw_dup (pc := 31) rfl d_M_countsUnit_31 ?_
          refine zr_getI (hf_N7_.w hW) (pc := 32) f_M_293 rfl d_M_countsUnit_32 ?_
          refine zw_iconst (pc := 35) (v := Int32.ofInt 1) (by decide) d_M_countsUnit_35 ?_
          refine zr_iadd (pc := 36) d_M_countsUnit_36 ?_
          refine zr_putI (hf_N7_.w hW) (pc := 37) f_M_293 rfl rfl ⟨by omega, by omega⟩ rfl rfl d_M_countsUnit_37 (fun N9_ hsN9_ hvN9_ => ?_)
          have hf_N9_ : zFr [7, 8, 43] [] Mz N9_ := hf_N7_.tr hsN9_ (by decide) (by decide)
          have e7_N9_ : ze N9_ 81 7 = ze N7_ 81 7 := hsN9_.e (by decide)
          have e42_N9_ : ze N9_ 81 42 = ze N7_ 81 42 := hsN9_.e (by decide)
          have r43_N9_ := ze_r N9_ 81 43
          have qzmu_N9_ : zmu N9_ = zmu N7_ := zmu_f hsN9_ (by decide)
          have hz0 := zmu_s N9_
          exact zr_vret (pc := 40) rfl hf_N9_ ⟨(show ze N9_ 81 43 = ze Mz 81 43 + 1 by omega), (show ((1 ≤ ze N9_ 81 7 ∧ zmu N9_ = 0) ∨ (ze N9_ 81 7 = 0 ∧ ze Mz 81 7 = 0 ∧ ze Mz 81 43 ≠ 30 ∧ zmu N9_ = zmu Mz)) from Or.inl (⟨(show 1 ≤ ze N9_ 81 7 by omega), (show zmu N9_ = 0 by omega)⟩))⟩ d_M_countsUnit_40
  · skip
    show zW l m_M_countsUnit (zn Mz + 0, zw Mz + 0) Mz 4 [some (.ref 81)] [.int (Int32.ofInt 0)] (zpV [7, 8, 43] [] Mz (fun N => ze N 81 43 = ze Mz 81 43 + 1 ∧ (((1 ≤ ze N 81 7 ∧ zmu N = 0) ∨ (ze N 81 7 = 0 ∧ ze Mz 81 7 = 0 ∧ ze Mz 81 43 ≠ 30 ∧ zmu N = zmu Mz)))))
    refine zr_if_eq (pc := 4) (tgt := 30) ⟨by omega, by omega⟩ (by decide) d_M_countsUnit_4 (fun hc_4 => ?_) (fun hc_4 => ?_)
    · skip
      refine zw_aload_n (pc := 30) (n := 0) (x := 81) rfl d_M_countsUnit_30 ?_
      refine zw_dup (pc := 31) rfl d_M_countsUnit_31 ?_
      refine zr_getI (hf.w hW) (pc := 32) f_M_293 rfl d_M_countsUnit_32 ?_
      refine zw_iconst (pc := 35) (v := Int32.ofInt 1) (by decide) d_M_countsUnit_35 ?_
      refine zr_iadd (pc := 36) d_M_countsUnit_36 ?_
      refine zr_putI (hf.w hW) (pc := 37) f_M_293 rfl rfl ⟨by omega, by omega⟩ rfl rfl d_M_countsUnit_37 (fun N10_ hsN10_ hvN10_ => ?_)
      have hf_N10_ : zFr [7, 8, 43] [] Mz N10_ := hf.tr hsN10_ (by decide) (by decide)
      have e7_N10_ : ze N10_ 81 7 = ze Mz 81 7 := hsN10_.e (by decide)
      have e42_N10_ : ze N10_ 81 42 = ze Mz 81 42 := hsN10_.e (by decide)
      have r43_N10_ := ze_r N10_ 81 43
      have qzmu_N10_ : zmu N10_ = zmu Mz := zmu_f hsN10_ (by decide)
      have hz0 := zmu_s N10_
      exact zr_vret (pc := 40) rfl hf_N10_ ⟨(show ze N10_ 81 43 = ze Mz 81 43 + 1 by omega), (show ((1 ≤ ze N10_ 81 7 ∧ zmu N10_ = 0) ∨ (ze N10_ 81 7 = 0 ∧ ze Mz 81 7 = 0 ∧ ze Mz 81 43 ≠ 30 ∧ zmu N10_ = zmu Mz)) from Or.inl (⟨(show 1 ≤ ze N10_ 81 7 by omega), (show zmu N10_ = 0 by omega)⟩))⟩ d_M_countsUnit_40
    · skip
      exact absurd hc_4 (by decide)
set_option maxHeartbeats 4000000 in
theorem c_M_nameAt (l : Launch) (Mz : zMem) (hW : zMt Mz) (p0_ : 0 ≤ ze Mz 81 14) (p1_ : ze Mz 81 14 ≤ 8) : zC l m_M_nameAt 0 0 [.ref 81] Mz (zpI [] [] Mz (fun v N => -1 ≤ v ∧ (v < ze Mz 81 14 ∨ v = -1))) := by
  refine zC_of (L0 := [some (.ref 81), none]) md_M_nameAt (Nat.le_of_ble_eq_true rfl) rfl ?_ zQ0
  have hf : zFr [] [] Mz Mz := zFr.rf
  have r_14 := ze_r Mz 81 14
  refine zw_iconst (pc := 0) (v := Int32.ofInt 0) (by decide) d_M_nameAt_0 ?_
  refine zw_istore_n (pc := 1) (i := 1) (L2 := [some (.ref 81), some (.int (Int32.ofInt 0))]) rfl (by decide) rfl d_M_nameAt_1 ?_
  have lp_2 : ∀ (n : Nat) (u1_ : Int) (hu1_a : -2147483648 ≤ u1_) (hu1_b : u1_ < 2147483648) (i2_ : 0 ≤ u1_), (ze Mz 81 14 - u1_).toNat < n → zW l m_M_nameAt (zn Mz + 0, zw Mz + 0) Mz 2 [some (.ref 81), some (.int (Int32.ofInt u1_))] [] (zpI [] [] Mz (fun v N => -1 ≤ v ∧ (v < ze Mz 81 14 ∨ v = -1))) := by
    intro n
    induction n with
    | zero =>
      intro u1_ hu1_a hu1_b i2_ h0
      exact absurd h0 (Nat.not_lt_zero _)
    | succ n ih_2 =>
      intro u1_ hu1_a hu1_b i2_ hlt_2
      refine zw_iload_n (pc := 2) (n := 1) (x := Int32.ofInt u1_) rfl d_M_nameAt_2 ?_
      refine zw_aload_n (pc := 3) (n := 0) (x := 81) rfl d_M_nameAt_3 ?_
      refine zr_getI0 hf hW (pc := 4) (by decide) f_M_299 rfl d_M_nameAt_4 ?_
      refine zr_icmp_ge (pc := 7) (tgt := 32) ⟨by omega, by omega⟩ ⟨by omega, by omega⟩ (by decide) d_M_nameAt_7 (fun hc_7 => ?_) (fun hc_7 => ?_)
      · skip
        refine zw_iconst (pc := 32) (v := Int32.ofInt (-1)) (by decide) d_M_nameAt_32 ?_
        exact zr_iret (pc := 33) (ty := .int) rfl rfl ⟨by omega, by omega⟩ hf ⟨(show -1 ≤ ((-1)) by omega), (show ((-1)) < ze Mz 81 14 ∨ ((-1)) = -1 by omega)⟩ d_M_nameAt_33
      · skip
        refine zw_aload_n (pc := 10) (n := 0) (x := 81) rfl d_M_nameAt_10 ?_
        refine zr_getF (r := 101) (hf.w hW) (pc := 11) f_M_75 rfl (zh_101 (hf.w hW)).1 d_M_nameAt_11 ?_
        refine zw_iload_n (pc := 14) (n := 1) (x := Int32.ofInt u1_) rfl d_M_nameAt_14 ?_
        refine zr_laldn (pc := 15) (zh_101 (hf.w hW)).2 (by decide) (by omega) (by omega) d_M_nameAt_15 (fun v3_ hv3_ hv3_a hv3_b => ?_)
        refine zw_aload_n (pc := 16) (n := 0) (x := 81) rfl d_M_nameAt_16 ?_
        refine zr_getJ (hf.w hW) (pc := 17) f_M_148 rfl d_M_nameAt_17 ?_
        have hr4_ := zg_r Mz 81 11
        refine zr_lcmp (pc := 20) ⟨by omega, by omega⟩ ⟨by omega, by omega⟩ d_M_nameAt_20 ?_
        have hr5_ := zcmp_s v3_ (zg Mz 81 11)
        refine zr_if_ne (pc := 21) (tgt := 26) ⟨by omega, by omega⟩ (by decide) d_M_nameAt_21 (fun hc_21 => ?_) (fun hc_21 => ?_)
        · skip
          refine zr_iinc (pc := 26) (i := 1) (a := u1_) (n := 1) (L2 := [some (.ref 81), some (.int (Int32.ofInt (u1_ + 1)))]) rfl (by decide) rfl d_M_nameAt_26 ?_
          refine zw_goto (pc := 29) (tgt := 2) (by decide) d_M_nameAt_29 ?_
          exact ih_2 (u1_ + 1) (by omega) (by omega) (show 0 ≤ (u1_ + 1) by omega) (by omega)
        · skip
          refine zw_iload_n (pc := 24) (n := 1) (x := Int32.ofInt u1_) rfl d_M_nameAt_24 ?_
          exact zr_iret (pc := 25) (ty := .int) rfl rfl ⟨by omega, by omega⟩ hf ⟨(show -1 ≤ u1_ by omega), (show u1_ < ze Mz 81 14 ∨ u1_ = -1 by omega)⟩ d_M_nameAt_25
  exact lp_2 _ 0 (by omega) (by omega) (show 0 ≤ 0 by omega) (Nat.lt_succ_self _)
set_option maxHeartbeats 4000000 in
theorem c_M_markAt_95 (l : Launch) (Mz : zMem) (hW : zMt Mz) (a1_ : Int) (ha1_a : -2147483648 ≤ a1_) (ha1_b : a1_ < 2147483648) (a2_ : Int) (ha2_a : -2147483648 ≤ a2_) (ha2_b : a2_ < 2147483648) (p0_ : zGD Mz) (p1_ : 0 ≤ a1_) (p2_ : a1_ ≤ 2496) (p3_ : 0 ≤ a2_) (p4_ : a2_ ≤ 63) : zC l m_M_markAt 0 0 [.ref 81, .ref 95, .int (Int32.ofInt a1_), .int (Int32.ofInt a2_)] Mz (zpJ [] [] Mz (fun v N => True)) := by
  refine zC_of (L0 := [some (.ref 81), some (.ref 95), some (.int (Int32.ofInt a1_)), some (.int (Int32.ofInt a2_)), none, none, none]) md_M_markAt (Nat.le_of_ble_eq_true rfl) rfl ?_ zQ0
  have hf : zFr [] [] Mz Mz := zFr.rf
  have r_26 := ze_r Mz 81 26
  have gb := p0_.1
  refine zw_lconst (pc := 0) (v := Int64.ofInt 0) (by decide) d_M_markAt_0 ?_
  refine zw_lstore (pc := 1) (i := 4) (L2 := [some (.ref 81), some (.ref 95), some (.int (Int32.ofInt a1_)), some (.int (Int32.ofInt a2_)), some (.long (Int64.ofInt 0)), none, none]) (by decide) rfl d_M_markAt_1 ?_
  refine zw_iconst (pc := 3) (v := Int32.ofInt 0) (by decide) d_M_markAt_3 ?_
  refine zw_istore (pc := 4) (i := 6) (L2 := [some (.ref 81), some (.ref 95), some (.int (Int32.ofInt a1_)), some (.int (Int32.ofInt a2_)), some (.long (Int64.ofInt 0)), none, some (.int (Int32.ofInt 0))]) (by decide) rfl d_M_markAt_4 ?_
  have lp_6 : ∀ (n : Nat) (u1_ : Int) (hu1_a : -9223372036854775808 ≤ u1_) (hu1_b : u1_ < 9223372036854775808) (u2_ : Int) (hu2_a : -2147483648 ≤ u2_) (hu2_b : u2_ < 2147483648) (i3_ : 0 ≤ u2_), (ze Mz 81 26 - u2_).toNat < n → zW l m_M_markAt (zn Mz + 0, zw Mz + 0) Mz 6 [some (.ref 81), some (.ref 95), some (.int (Int32.ofInt a1_)), some (.int (Int32.ofInt a2_)), some (.long (Int64.ofInt u1_)), none, some (.int (Int32.ofInt u2_))] [] (zpJ [] [] Mz (fun v N => True)) := by
    intro n
    induction n with
    | zero =>
      intro u1_ hu1_a hu1_b u2_ hu2_a hu2_b i3_ h0
      exact absurd h0 (Nat.not_lt_zero _)
    | succ n ih_6 =>
      intro u1_ hu1_a hu1_b u2_ hu2_a hu2_b i3_ hlt_6
      refine zw_iload (pc := 6) (i := 6) (x := Int32.ofInt u2_) rfl d_M_markAt_6 ?_
      refine zw_aload_n (pc := 8) (n := 0) (x := 81) rfl d_M_markAt_8 ?_
      refine zr_getI0 hf hW (pc := 9) (by decide) f_M_235 rfl d_M_markAt_9 ?_
      refine zr_icmp_ge (pc := 12) (tgt := 46) ⟨by omega, by omega⟩ ⟨by omega, by omega⟩ (by decide) d_M_markAt_12 (fun hc_12 => ?_) (fun hc_12 => ?_)
      · skip
        refine zw_lload (pc := 46) (i := 4) (x := Int64.ofInt u1_) rfl d_M_markAt_46 ?_
        exact zr_lret (pc := 48) rfl ⟨by omega, by omega⟩ hf trivial d_M_markAt_48
      · skip
        refine zw_lload (pc := 15) (i := 4) (x := Int64.ofInt u1_) rfl d_M_markAt_15 ?_
        refine zw_aload_n (pc := 17) (n := 1) (x := 95) rfl d_M_markAt_17 ?_
        refine zw_iload_n (pc := 18) (n := 2) (x := Int32.ofInt a1_) rfl d_M_markAt_18 ?_
        refine zw_iload (pc := 19) (i := 6) (x := Int32.ofInt u2_) rfl d_M_markAt_19 ?_
        refine zr_iadd (pc := 21) d_M_markAt_21 ?_
        refine zr_laldn (pc := 22) (zh_95 (hf.w hW)).2 (by decide) (by omega) (by omega) d_M_markAt_22 (fun v4_ hv4_ hv4_a hv4_b => ?_)
        refine zw_aload_n (pc := 23) (n := 0) (x := 81) rfl d_M_markAt_23 ?_
        refine zr_getF (r := 93) (hf.w hW) (pc := 24) f_M_50 rfl (zh_93 (hf.w hW)).1 d_M_markAt_24 ?_
        refine zw_bipush (pc := 27) (v := Int32.ofInt 64) (by decide) d_M_markAt_27 ?_
        refine zw_iload (pc := 29) (i := 6) (x := Int32.ofInt u2_) rfl d_M_markAt_29 ?_
        refine zr_imul (pc := 31) d_M_markAt_31 ?_
        refine zw_iload_n (pc := 32) (n := 3) (x := Int32.ofInt a2_) rfl d_M_markAt_32 ?_
        refine zr_iadd (pc := 33) d_M_markAt_33 ?_
        refine zr_ialdn (pc := 34) (zh_93 (hf.w hW)).2 (by decide) (by omega) (by omega) d_M_markAt_34 (fun v5_ hv5_ hv5_a hv5_b => ?_)
        refine zr_i2l (pc := 35) ⟨by omega, by omega⟩ d_M_markAt_35 ?_
        refine zr_lmul (pc := 36) d_M_markAt_36 ?_
        refine zr_ladd (pc := 37) d_M_markAt_37 ?_
        refine zr_nmJ (fun v6_ hv6_ => ?_)
        obtain ⟨hv6_a, hv6_b⟩ := hv6_
        refine zw_lstore (pc := 38) (i := 4) (L2 := [some (.ref 81), some (.ref 95), some (.int (Int32.ofInt a1_)), some (.int (Int32.ofInt a2_)), some (.long (Int64.ofInt v6_)), none, some (.int (Int32.ofInt u2_))]) (by decide) rfl d_M_markAt_38 ?_
        refine zr_iinc (pc := 40) (i := 6) (a := u2_) (n := 1) (L2 := [some (.ref 81), some (.ref 95), some (.int (Int32.ofInt a1_)), some (.int (Int32.ofInt a2_)), some (.long (Int64.ofInt v6_)), none, some (.int (Int32.ofInt (u2_ + 1)))]) rfl (by decide) rfl d_M_markAt_40 ?_
        refine zw_goto (pc := 43) (tgt := 6) (by decide) d_M_markAt_43 ?_
        exact ih_6 v6_ (by omega) (by omega) (u2_ + 1) (by omega) (by omega) (show 0 ≤ (u2_ + 1) by omega) (by omega)
  exact lp_6 _ 0 (by omega) (by omega) 0 (by omega) (by omega) (show 0 ≤ 0 by omega) (Nat.lt_succ_self _)
set_option maxHeartbeats 4000000 in
theorem c_M_isFit_95 (l : Launch) (Mz : zMem) (hW : zMt Mz) (a1_ : Int) (ha1_a : -2147483648 ≤ a1_) (ha1_b : a1_ < 2147483648) (p0_ : zGD Mz) (p1_ : 0 ≤ a1_) (p2_ : a1_ ≤ 2496) : zC l m_M_isFit 0 0 [.ref 81, .ref 95, .int (Int32.ofInt a1_)] Mz (zpI [] [] Mz (fun v N => ((v = 0 ∨ v = 1)))) := by
  refine zC_of (L0 := [some (.ref 81), some (.ref 95), some (.int (Int32.ofInt a1_)), none, none]) md_M_isFit (Nat.le_of_ble_eq_true rfl) rfl ?_ zQ0
  have hf : zFr [] [] Mz Mz := zFr.rf
  have r_26 := ze_r Mz 81 26
  have gb := p0_.1
  refine zw_iconst (pc := 0) (v := Int32.ofInt 1) (by decide) d_M_isFit_0 ?_
  refine zw_istore_n (pc := 1) (i := 3) (L2 := [some (.ref 81), some (.ref 95), some (.int (Int32.ofInt a1_)), some (.int (Int32.ofInt 1)), none]) rfl (by decide) rfl d_M_isFit_1 ?_
  refine zw_iconst (pc := 2) (v := Int32.ofInt 0) (by decide) d_M_isFit_2 ?_
  refine zw_istore (pc := 3) (i := 4) (L2 := [some (.ref 81), some (.ref 95), some (.int (Int32.ofInt a1_)), some (.int (Int32.ofInt 1)), some (.int (Int32.ofInt 0))]) (by decide) rfl d_M_isFit_3 ?_
  have lp_5 : ∀ (n : Nat) (u1_ : Int) (hu1_a : -2147483648 ≤ u1_) (hu1_b : u1_ < 2147483648) (hu1_z : u1_ = 0 ∨ u1_ = 1) (u2_ : Int) (hu2_a : -2147483648 ≤ u2_) (hu2_b : u2_ < 2147483648) (i3_ : 0 ≤ u2_), (ze Mz 81 26 - u2_).toNat < n → zW l m_M_isFit (zn Mz + 0, zw Mz + 0) Mz 5 [some (.ref 81), some (.ref 95), some (.int (Int32.ofInt a1_)), some (.int (Int32.ofInt u1_)), some (.int (Int32.ofInt u2_))] [] (zpI [] [] Mz (fun v N => ((v = 0 ∨ v = 1)))) := by
    intro n
    induction n with
    | zero =>
      intro u1_ hu1_a hu1_b hu1_z u2_ hu2_a hu2_b i3_ h0
      exact absurd h0 (Nat.not_lt_zero _)
    | succ n ih_5 =>
      intro u1_ hu1_a hu1_b hu1_z u2_ hu2_a hu2_b i3_ hlt_5
      refine zw_iload (pc := 5) (i := 4) (x := Int32.ofInt u2_) rfl d_M_isFit_5 ?_
      refine zw_aload_n (pc := 7) (n := 0) (x := 81) rfl d_M_isFit_7 ?_
      refine zr_getI0 hf hW (pc := 8) (by decide) f_M_235 rfl d_M_isFit_8 ?_
      refine zr_icmp_ge (pc := 11) (tgt := 48) ⟨by omega, by omega⟩ ⟨by omega, by omega⟩ (by decide) d_M_isFit_11 (fun hc_11 => ?_) (fun hc_11 => ?_)
      · skip
        refine zw_iconst (pc := 48) (v := Int32.ofInt 0) (by decide) d_M_isFit_48 ?_
        refine zw_istore (pc := 49) (i := 4) (L2 := [some (.ref 81), some (.ref 95), some (.int (Int32.ofInt a1_)), some (.int (Int32.ofInt u1_)), some (.int (Int32.ofInt 0))]) (by decide) rfl d_M_isFit_49 ?_
        have lp_51 : ∀ (n : Nat) (u4_ : Int) (hu4_a : -2147483648 ≤ u4_) (hu4_b : u4_ < 2147483648) (hu4_z : u4_ = 0 ∨ u4_ = 1) (u5_ : Int) (hu5_a : -2147483648 ≤ u5_) (hu5_b : u5_ < 2147483648) (i6_ : 0 ≤ u5_), (ze Mz 81 26 - u5_).toNat < n → zW l m_M_isFit (zn Mz + 0, zw Mz + 0) Mz 51 [some (.ref 81), some (.ref 95), some (.int (Int32.ofInt a1_)), some (.int (Int32.ofInt u4_)), some (.int (Int32.ofInt u5_))] [] (zpI [] [] Mz (fun v N => ((v = 0 ∨ v = 1)))) := by
          intro n
          induction n with
          | zero =>
            intro u4_ hu4_a hu4_b hu4_z u5_ hu5_a hu5_b i6_ h0
            exact absurd h0 (Nat.not_lt_zero _)
          | succ n ih_51 =>
            intro u4_ hu4_a hu4_b hu4_z u5_ hu5_a hu5_b i6_ hlt_51
            refine zw_iload (pc := 51) (i := 4) (x := Int32.ofInt u5_) rfl d_M_isFit_51 ?_
            refine zw_aload_n (pc := 53) (n := 0) (x := 81) rfl d_M_isFit_53 ?_
            refine zr_getI0 hf hW (pc := 54) (by decide) f_M_235 rfl d_M_isFit_54 ?_
            refine zr_icmp_ge (pc := 57) (tgt := 88) ⟨by omega, by omega⟩ ⟨by omega, by omega⟩ (by decide) d_M_isFit_57 (fun hc_57 => ?_) (fun hc_57 => ?_)
            · skip
              refine zw_iload_n (pc := 88) (n := 3) (x := Int32.ofInt u4_) rfl d_M_isFit_88 ?_
              exact zr_iret (pc := 89) (ty := .boolean) rfl (z_narB (by omega)) ⟨by omega, by omega⟩ hf (show (u4_ = 0 ∨ u4_ = 1) by omega) d_M_isFit_89
            · skip
              refine zw_iload_n (pc := 60) (n := 3) (x := Int32.ofInt u4_) rfl d_M_isFit_60 ?_
              refine zr_if_eq (pc := 61) (tgt := 88) ⟨by omega, by omega⟩ (by decide) d_M_isFit_61 (fun hc_61 => ?_) (fun hc_61 => ?_)
              · skip
                refine zw_iload_n (pc := 88) (n := 3) (x := Int32.ofInt u4_) rfl d_M_isFit_88 ?_
                exact zr_iret (pc := 89) (ty := .boolean) rfl (z_narB (by omega)) ⟨by omega, by omega⟩ hf (show (u4_ = 0 ∨ u4_ = 1) by omega) d_M_isFit_89
              · skip
                refine zw_aload_n (pc := 64) (n := 0) (x := 81) rfl d_M_isFit_64 ?_
                refine zw_aload_n (pc := 65) (n := 1) (x := 95) rfl d_M_isFit_65 ?_
                refine zw_iload_n (pc := 66) (n := 2) (x := Int32.ofInt a1_) rfl d_M_isFit_66 ?_
                refine zw_iload (pc := 67) (i := 4) (x := Int32.ofInt u5_) rfl d_M_isFit_67 ?_
                refine zr_callV (hf.w hW) hf.x (pc := 69) [.ref 95, .int (Int32.ofInt a1_), .int (Int32.ofInt u5_)] [] l_M_264 (c_M_markAt_95 l Mz (hf.w hW) a1_ (by omega) (by omega) u5_ (by omega) (by omega) p0_ (show 0 ≤ a1_ by omega) (show a1_ ≤ 2496 by omega) (show 0 ≤ u5_ by omega) (show u5_ ≤ 63 by omega)) rfl rfl rfl (by decide) (Nat.le_of_ble_eq_true rfl) d_M_isFit_69 ?_
                rintro _ N7_ ⟨v8_, rfl, ⟨hv8_a, hv8_b⟩, hsN7_, -⟩
                obtain rfl := hsN7_.eq.symm
                show zW l m_M_isFit (zn Mz + 0, zw Mz + 0) Mz 72 [some (.ref 81), some (.ref 95), some (.int (Int32.ofInt a1_)), some (.int (Int32.ofInt u4_)), some (.int (Int32.ofInt u5_))] [.long (Int64.ofInt v8_)] (zpI [] [] Mz (fun v N => ((v = 0 ∨ v = 1))))
                refine zr_ldc2 (pc := 72) (n := (-1000000000000)) (by decide) k_M_260 d_M_isFit_72 ?_
                refine zr_ldc2 (pc := 75) (n := 1000000000000) (by decide) k_M_262 d_M_isFit_75 ?_
                refine zr_callS hf.x (pc := 78) [.long (Int64.ofInt v8_), .long (Int64.ofInt ((-1000000000000))), .long (Int64.ofInt 1000000000000)] [] l_M_131 (c_M_isIn l Mz (hf.w hW) v8_ (by omega) (by omega) ((-1000000000000)) (by omega) (by omega) 1000000000000 (by omega) (by omega)) rfl rfl (by decide) (Nat.le_of_ble_eq_true rfl) d_M_isFit_78 ?_
                rintro _ N9_ ⟨v10_, rfl, ⟨hv10_a, hv10_b⟩, hsN9_, hp0_N9_⟩
                obtain rfl := hsN9_.eq.symm
                replace hp0_N9_ : ((v10_ = 1 ∧ ((-1000000000000)) ≤ v8_ ∧ v8_ ≤ 1000000000000) ∨ (v10_ = 0 ∧ (v8_ < ((-1000000000000)) ∨ 1000000000000 < v8_))) := hp0_N9_
                rcases hp0_N9_ with ⟨rfl, ha78_0_hp0_N9_, ha78_1_hp0_N9_⟩ | ⟨rfl, ha78_0_hp0_N9_⟩
                · skip
                  show zW l m_M_isFit (zn Mz + 0, zw Mz + 0) Mz 81 [some (.ref 81), some (.ref 95), some (.int (Int32.ofInt a1_)), some (.int (Int32.ofInt u4_)), some (.int (Int32.ofInt u5_))] [.int (Int32.ofInt 1)] (zpI [] [] Mz (fun v N => ((v = 0 ∨ v = 1))))
                  refine zw_istore_n (pc := 81) (i := 3) (L2 := [some (.ref 81), some (.ref 95), some (.int (Int32.ofInt a1_)), some (.int (Int32.ofInt 1)), some (.int (Int32.ofInt u5_))]) rfl (by decide) rfl d_M_isFit_81 ?_
                  refine zr_iinc (pc := 82) (i := 4) (a := u5_) (n := 1) (L2 := [some (.ref 81), some (.ref 95), some (.int (Int32.ofInt a1_)), some (.int (Int32.ofInt 1)), some (.int (Int32.ofInt (u5_ + 1)))]) rfl (by decide) rfl d_M_isFit_82 ?_
                  refine zw_goto (pc := 85) (tgt := 51) (by decide) d_M_isFit_85 ?_
                  exact ih_51 1 (by omega) (by omega) (by omega) (u5_ + 1) (by omega) (by omega) (show 0 ≤ (u5_ + 1) by omega) (by omega)
                · skip
                  show zW l m_M_isFit (zn Mz + 0, zw Mz + 0) Mz 81 [some (.ref 81), some (.ref 95), some (.int (Int32.ofInt a1_)), some (.int (Int32.ofInt u4_)), some (.int (Int32.ofInt u5_))] [.int (Int32.ofInt 0)] (zpI [] [] Mz (fun v N => ((v = 0 ∨ v = 1))))
                  refine zw_istore_n (pc := 81) (i := 3) (L2 := [some (.ref 81), some (.ref 95), some (.int (Int32.ofInt a1_)), some (.int (Int32.ofInt 0)), some (.int (Int32.ofInt u5_))]) rfl (by decide) rfl d_M_isFit_81 ?_
                  refine zr_iinc (pc := 82) (i := 4) (a := u5_) (n := 1) (L2 := [some (.ref 81), some (.ref 95), some (.int (Int32.ofInt a1_)), some (.int (Int32.ofInt 0)), some (.int (Int32.ofInt (u5_ + 1)))]) rfl (by decide) rfl d_M_isFit_82 ?_
                  refine zw_goto (pc := 85) (tgt := 51) (by decide) d_M_isFit_85 ?_
                  exact ih_51 0 (by omega) (by omega) (by omega) (u5_ + 1) (by omega) (by omega) (show 0 ≤ (u5_ + 1) by omega) (by omega)
        exact lp_51 _ u1_ (by omega) (by omega) (by omega) 0 (by omega) (by omega) (show 0 ≤ 0 by omega) (Nat.lt_succ_self _)
      · skip
        refine zw_iload_n (pc := 14) (n := 3) (x := Int32.ofInt u1_) rfl d_M_isFit_14 ?_
        refine zr_if_eq (pc := 15) (tgt := 40) ⟨by omega, by omega⟩ (by decide) d_M_isFit_15 (fun hc_15 => ?_) (fun hc_15 => ?_)
        · skip
          refine zw_iconst (pc := 40) (v := Int32.ofInt 0) (by decide) d_M_isFit_40 ?_
          refine zw_istore_n (pc := 41) (i := 3) (L2 := [some (.ref 81), some (.ref 95), some (.int (Int32.ofInt a1_)), some (.int (Int32.ofInt 0)), some (.int (Int32.ofInt u2_))]) rfl (by decide) rfl d_M_isFit_41 ?_
          refine zr_iinc (pc := 42) (i := 4) (a := u2_) (n := 1) (L2 := [some (.ref 81), some (.ref 95), some (.int (Int32.ofInt a1_)), some (.int (Int32.ofInt 0)), some (.int (Int32.ofInt (u2_ + 1)))]) rfl (by decide) rfl d_M_isFit_42 ?_
          refine zw_goto (pc := 45) (tgt := 5) (by decide) d_M_isFit_45 ?_
          exact ih_5 0 (by omega) (by omega) (by omega) (u2_ + 1) (by omega) (by omega) (show 0 ≤ (u2_ + 1) by omega) (by omega)
        · skip
          refine zw_aload_n (pc := 18) (n := 1) (x := 95) rfl d_M_isFit_18 ?_
          refine zw_iload_n (pc := 19) (n := 2) (x := Int32.ofInt a1_) rfl d_M_isFit_19 ?_
          refine zw_iload (pc := 20) (i := 4) (x := Int32.ofInt u2_) rfl d_M_isFit_20 ?_
          refine zr_iadd (pc := 22) d_M_isFit_22 ?_
          refine zr_laldn (pc := 23) (zh_95 (hf.w hW)).2 (by decide) (by omega) (by omega) d_M_isFit_23 (fun v11_ hv11_ hv11_a hv11_b => ?_)
          refine zr_ldc2 (pc := 24) (n := (-1000000000000)) (by decide) k_M_260 d_M_isFit_24 ?_
          refine zr_ldc2 (pc := 27) (n := 1000000000000) (by decide) k_M_262 d_M_isFit_27 ?_
          refine zr_callS hf.x (pc := 30) [.long (Int64.ofInt v11_), .long (Int64.ofInt ((-1000000000000))), .long (Int64.ofInt 1000000000000)] [] l_M_131 (c_M_isIn l Mz (hf.w hW) v11_ (by omega) (by omega) ((-1000000000000)) (by omega) (by omega) 1000000000000 (by omega) (by omega)) rfl rfl (by decide) (Nat.le_of_ble_eq_true rfl) d_M_isFit_30 ?_
          rintro _ N12_ ⟨v13_, rfl, ⟨hv13_a, hv13_b⟩, hsN12_, hp0_N12_⟩
          obtain rfl := hsN12_.eq.symm
          replace hp0_N12_ : ((v13_ = 1 ∧ ((-1000000000000)) ≤ v11_ ∧ v11_ ≤ 1000000000000) ∨ (v13_ = 0 ∧ (v11_ < ((-1000000000000)) ∨ 1000000000000 < v11_))) := hp0_N12_
          rcases hp0_N12_ with ⟨rfl, ha30_0_hp0_N12_, ha30_1_hp0_N12_⟩ | ⟨rfl, ha30_0_hp0_N12_⟩
          · skip
            show zW l m_M_isFit (zn Mz + 0, zw Mz + 0) Mz 33 [some (.ref 81), some (.ref 95), some (.int (Int32.ofInt a1_)), some (.int (Int32.ofInt u1_)), some (.int (Int32.ofInt u2_))] [.int (Int32.ofInt 1)] (zpI [] [] Mz (fun v N => ((v = 0 ∨ v = 1))))
            refine zr_if_eq (pc := 33) (tgt := 40) ⟨by omega, by omega⟩ (by decide) d_M_isFit_33 (fun hc_33 => ?_) (fun hc_33 => ?_)
            · skip
              exact absurd hc_33 (by decide)
            · skip
              refine zw_iconst (pc := 36) (v := Int32.ofInt 1) (by decide) d_M_isFit_36 ?_
              refine zw_goto (pc := 37) (tgt := 41) (by decide) d_M_isFit_37 ?_
              refine zw_istore_n (pc := 41) (i := 3) (L2 := [some (.ref 81), some (.ref 95), some (.int (Int32.ofInt a1_)), some (.int (Int32.ofInt 1)), some (.int (Int32.ofInt u2_))]) rfl (by decide) rfl d_M_isFit_41 ?_
              refine zr_iinc (pc := 42) (i := 4) (a := u2_) (n := 1) (L2 := [some (.ref 81), some (.ref 95), some (.int (Int32.ofInt a1_)), some (.int (Int32.ofInt 1)), some (.int (Int32.ofInt (u2_ + 1)))]) rfl (by decide) rfl d_M_isFit_42 ?_
              refine zw_goto (pc := 45) (tgt := 5) (by decide) d_M_isFit_45 ?_
              exact ih_5 1 (by omega) (by omega) (by omega) (u2_ + 1) (by omega) (by omega) (show 0 ≤ (u2_ + 1) by omega) (by omega)
          · skip
            show zW l m_M_isFit (zn Mz + 0, zw Mz + 0) Mz 33 [some (.ref 81), some (.ref 95), some (.int (Int32.ofInt a1_)), some (.int (Int32.ofInt u1_)), some (.int (Int32.ofInt u2_))] [.int (Int32.ofInt 0)] (zpI [] [] Mz (fun v N => ((v = 0 ∨ v = 1))))
            refine zr_if_eq (pc := 33) (tgt := 40) ⟨by omega, by omega⟩ (by decide) d_M_isFit_33 (fun hc_33 => ?_) (fun hc_33 => ?_)
            · skip
              refine zw_iconst (pc := 40) (v := Int32.ofInt 0) (by decide) d_M_isFit_40 ?_
              refine zw_istore_n (pc := 41) (i := 3) (L2 := [some (.ref 81), some (.ref 95), some (.int (Int32.ofInt a1_)), some (.int (Int32.ofInt 0)), some (.int (Int32.ofInt u2_))]) rfl (by decide) rfl d_M_isFit_41 ?_
              refine zr_iinc (pc := 42) (i := 4) (a := u2_) (n := 1) (L2 := [some (.ref 81), some (.ref 95), some (.int (Int32.ofInt a1_)), some (.int (Int32.ofInt 0)), some (.int (Int32.ofInt (u2_ + 1)))]) rfl (by decide) rfl d_M_isFit_42 ?_
              refine zw_goto (pc := 45) (tgt := 5) (by decide) d_M_isFit_45 ?_
              exact ih_5 0 (by omega) (by omega) (by omega) (u2_ + 1) (by omega) (by omega) (show 0 ≤ (u2_ + 1) by omega) (by omega)
            · skip
              exact absurd hc_33 (by decide)
  exact lp_5 _ 1 (by omega) (by omega) (by omega) 0 (by omega) (by omega) (show 0 ≤ 0 by omega) (Nat.lt_succ_self _)
set_option maxHeartbeats 4000000 in
theorem c_M_looks (l : Launch) (Mz : zMem) (hW : zMt Mz) (p0_ : zGD Mz) (p1_ : 1 ≤ ze Mz 81 38) (p2_ : ze Mz 81 38 ≤ 40) : zC l m_M_looks 0 0 [.ref 81] Mz (zpV [39] [95] Mz (fun N => True)) := by
  refine zC_of (L0 := [some (.ref 81), none]) md_M_looks (Nat.le_of_ble_eq_true rfl) rfl ?_ zQ0
  have hf : zFr [39] [95] Mz Mz := zFr.rf
  have r_26 := ze_r Mz 81 26
  have r_38 := ze_r Mz 81 38
  have r_39 := ze_r Mz 81 39
  have gb := p0_.1
  refine zw_aload_n (pc := 0) (n := 0) (x := 81) rfl d_M_looks_0 ?_
  refine zw_aload_n (pc := 1) (n := 0) (x := 81) rfl d_M_looks_1 ?_
  refine zr_getF (r := 95) (hf.w hW) (pc := 2) f_M_56 rfl (zh_95 (hf.w hW)).1 d_M_looks_2 ?_
  refine zw_bipush (pc := 5) (v := Int32.ofInt 64) (by decide) d_M_looks_5 ?_
  refine zw_aload_n (pc := 7) (n := 0) (x := 81) rfl d_M_looks_7 ?_
  refine zr_getI0 hf hW (pc := 8) (by decide) f_M_268 rfl d_M_looks_8 ?_
  refine zw_iconst (pc := 11) (v := Int32.ofInt 1) (by decide) d_M_looks_11 ?_
  refine zr_isub (pc := 12) d_M_looks_12 ?_
  refine zr_imul (pc := 13) d_M_looks_13 ?_
  refine zr_callV (hf.w hW) hf.x (pc := 14) [.ref 95, .int (Int32.ofInt (64 * ((ze Mz 81 38) - 1)))] [] l_M_271 (c_M_isFit_95 l Mz (hf.w hW) (64 * ((ze Mz 81 38) - 1)) (by omega) (by omega) p0_ (show 0 ≤ (64 * ((ze Mz 81 38) - 1)) by omega) (show (64 * ((ze Mz 81 38) - 1)) ≤ 2496 by omega)) rfl rfl rfl (by decide) (Nat.le_of_ble_eq_true rfl) d_M_looks_14 ?_
  rintro _ N1_ ⟨v2_, rfl, ⟨hv2_a, hv2_b⟩, hsN1_, hp0_N1_⟩
  obtain rfl := hsN1_.eq.symm
  replace hp0_N1_ : (v2_ = 0 ∨ v2_ = 1) := hp0_N1_
  show zW l m_M_looks (zn Mz + 0, zw Mz + 0) Mz 17 [some (.ref 81), none] [.int (Int32.ofInt v2_)] (zpV [39] [95] Mz (fun N => True))
  refine zr_if_eq (pc := 17) (tgt := 21) ⟨by omega, by omega⟩ (by decide) d_M_looks_17 (fun hc_17 => ?_) (fun hc_17 => ?_)
  · skip
    refine zw_aload_n (pc := 21) (n := 0) (x := 81) rfl d_M_looks_21 ?_
    refine zw_iconst (pc := 22) (v := Int32.ofInt 1) (by decide) d_M_looks_22 ?_
    refine zr_putI (hf.w hW) (pc := 23) f_M_275 rfl rfl ⟨by omega, by omega⟩ (z_narB (by omega)) (z_fitB (by omega)) d_M_looks_23 (fun N3_ hsN3_ hvN3_ => ?_)
    have hf_N3_ : zFr [39] [95] Mz N3_ := hf.tr hsN3_ (by decide) (by decide)
    have e26_N3_ : ze N3_ 81 26 = ze Mz 81 26 := hsN3_.e (by decide)
    have e38_N3_ : ze N3_ 81 38 = ze Mz 81 38 := hsN3_.e (by decide)
    have r39_N3_ := ze_r N3_ 81 39
    have c4_ : zGD N3_ := zGD.fr hsN3_ p0_ (by decide) (by decide)
    refine zw_iconst (pc := 26) (v := Int32.ofInt 0) (by decide) d_M_looks_26 ?_
    refine zw_istore_n (pc := 27) (i := 1) (L2 := [some (.ref 81), some (.int (Int32.ofInt 0))]) rfl (by decide) rfl d_M_looks_27 ?_
    have lp_28 : ∀ (n : Nat) (u5_ : Int) (hu5_a : -2147483648 ≤ u5_) (hu5_b : u5_ < 2147483648) (N6_ : zMem) (hs7_ : zFr [] [95] N3_ N6_) (i8_ : 0 ≤ u5_), (ze Mz 81 26 - u5_).toNat < n → zW l m_M_looks (zn Mz + 0, zw Mz + 0) N6_ 28 [some (.ref 81), some (.int (Int32.ofInt u5_))] [] (zpV [39] [95] Mz (fun N => True)) := by
      intro n
      induction n with
      | zero =>
        intro u5_ hu5_a hu5_b N6_ hs7_ i8_ h0
        exact absurd h0 (Nat.not_lt_zero _)
      | succ n ih_28 =>
        intro u5_ hu5_a hu5_b N6_ hs7_ i8_ hlt_28
        have hf_N6_ : zFr [39] [95] Mz N6_ := hf_N3_.tr hs7_ (by decide) (by decide)
        have e26_N6_ : ze N6_ 81 26 = ze N3_ 81 26 := hs7_.e (by decide)
        have e38_N6_ : ze N6_ 81 38 = ze N3_ 81 38 := hs7_.e (by decide)
        have e39_N6_ : ze N6_ 81 39 = ze N3_ 81 39 := hs7_.e (by decide)
        have c9_ : zGD N6_ := zGD.fr hs7_ c4_ (by decide) (by decide)
        refine zw_iload_n (pc := 28) (n := 1) (x := Int32.ofInt u5_) rfl d_M_looks_28 ?_
        refine zw_aload_n (pc := 29) (n := 0) (x := 81) rfl d_M_looks_29 ?_
        refine zr_getI0 hf_N6_ hW (pc := 30) (by decide) f_M_235 rfl d_M_looks_30 ?_
        refine zr_icmp_ge (pc := 33) (tgt := 59) ⟨by omega, by omega⟩ ⟨by omega, by omega⟩ (by decide) d_M_looks_33 (fun hc_33 => ?_) (fun hc_33 => ?_)
        · skip
          exact zr_vret (pc := 59) rfl hf_N6_ trivial d_M_looks_59
        · skip
          refine zw_aload_n (pc := 36) (n := 0) (x := 81) rfl d_M_looks_36 ?_
          refine zr_getF (r := 95) (hf_N6_.w hW) (pc := 37) f_M_56 rfl (zh_95 (hf_N6_.w hW)).1 d_M_looks_37 ?_
          refine zw_bipush (pc := 40) (v := Int32.ofInt 64) (by decide) d_M_looks_40 ?_
          refine zw_aload_n (pc := 42) (n := 0) (x := 81) rfl d_M_looks_42 ?_
          refine zr_getI0 hf_N6_ hW (pc := 43) (by decide) f_M_268 rfl d_M_looks_43 ?_
          refine zw_iconst (pc := 46) (v := Int32.ofInt 1) (by decide) d_M_looks_46 ?_
          refine zr_isub (pc := 47) d_M_looks_47 ?_
          refine zr_imul (pc := 48) d_M_looks_48 ?_
          refine zw_iload_n (pc := 49) (n := 1) (x := Int32.ofInt u5_) rfl d_M_looks_49 ?_
          refine zr_iadd (pc := 50) d_M_looks_50 ?_
          refine zw_lconst (pc := 51) (v := Int64.ofInt 0) (by decide) d_M_looks_51 ?_
          refine zr_last (pc := 52) (zh_95 (hf_N6_.w hW)).2 (by decide) (by decide) (by omega) (by omega) d_M_looks_52 (fun N10_ hN10_ hsN10_ => ?_)
          have hf_N10_ : zFr [39] [95] Mz N10_ := hf_N6_.tr hsN10_ (by decide) (by decide)
          have hb0_N10_ : zFr [] [95] N3_ N10_ := hs7_.tr hsN10_ (by decide) (by decide)
          have e26_N10_ : ze N10_ 81 26 = ze N6_ 81 26 := hsN10_.e (by decide)
          have e38_N10_ : ze N10_ 81 38 = ze N6_ 81 38 := hsN10_.e (by decide)
          have e39_N10_ : ze N10_ 81 39 = ze N6_ 81 39 := hsN10_.e (by decide)
          have c11_ : zGD N10_ := zGD.fr hsN10_ c9_ (by decide) (by decide)
          refine zr_iinc (pc := 53) (i := 1) (a := u5_) (n := 1) (L2 := [some (.ref 81), some (.int (Int32.ofInt (u5_ + 1)))]) rfl (by decide) rfl d_M_looks_53 ?_
          refine zw_goto (pc := 56) (tgt := 28) (by decide) d_M_looks_56 ?_
          exact ih_28 (u5_ + 1) (by omega) (by omega) N10_ hb0_N10_ (show 0 ≤ (u5_ + 1) by omega) (by omega)
    exact lp_28 _ 0 (by omega) (by omega) N3_ zFr.rf (show 0 ≤ 0 by omega) (Nat.lt_succ_self _)
  · skip
    exact zr_vret (pc := 20) rfl hf trivial d_M_looks_20
set_option maxHeartbeats 4000000 in
theorem c_M_lays (l : Launch) (Mz : zMem) (hW : zMt Mz) (a0_ : Int) (ha0_a : -2147483648 ≤ a0_) (ha0_b : a0_ < 2147483648) (a1_ : Int) (ha1_a : -9223372036854775808 ≤ a1_) (ha1_b : a1_ < 9223372036854775808) (p0_ : zGD Mz) (p1_ : 0 ≤ ze Mz 81 38) (p2_ : ze Mz 81 38 ≤ 39) : zC l m_M_lays 0 0 [.ref 81, .int (Int32.ofInt a0_), .long (Int64.ofInt a1_)] Mz (zpV [38, 39] [95] Mz (fun N => ze N 81 38 = ze Mz 81 38 + 1)) := by
  refine zC_of (L0 := [some (.ref 81), some (.int (Int32.ofInt a0_)), some (.long (Int64.ofInt a1_)), none, none]) md_M_lays (Nat.le_of_ble_eq_true rfl) rfl ?_ zQ0
  have hf : zFr [38, 39] [95] Mz Mz := zFr.rf
  have r_26 := ze_r Mz 81 26
  have r_38 := ze_r Mz 81 38
  have gb := p0_.1
  refine zw_iconst (pc := 0) (v := Int32.ofInt 0) (by decide) d_M_lays_0 ?_
  refine zw_istore (pc := 1) (i := 4) (L2 := [some (.ref 81), some (.int (Int32.ofInt a0_)), some (.long (Int64.ofInt a1_)), none, some (.int (Int32.ofInt 0))]) (by decide) rfl d_M_lays_1 ?_
  have lp_3 : ∀ (n : Nat) (u1_ : Int) (hu1_a : -2147483648 ≤ u1_) (hu1_b : u1_ < 2147483648) (N2_ : zMem) (hs3_ : zFr [] [95] Mz N2_) (i4_ : 0 ≤ u1_), (ze Mz 81 26 - u1_).toNat < n → zW l m_M_lays (zn Mz + 0, zw Mz + 0) N2_ 3 [some (.ref 81), some (.int (Int32.ofInt a0_)), some (.long (Int64.ofInt a1_)), none, some (.int (Int32.ofInt u1_))] [] (zpV [38, 39] [95] Mz (fun N => ze N 81 38 = ze Mz 81 38 + 1)) := by
    intro n
    induction n with
    | zero =>
      intro u1_ hu1_a hu1_b N2_ hs3_ i4_ h0
      exact absurd h0 (Nat.not_lt_zero _)
    | succ n ih_3 =>
      intro u1_ hu1_a hu1_b N2_ hs3_ i4_ hlt_3
      have hf_N2_ : zFr [38, 39] [95] Mz N2_ := hf.tr hs3_ (by decide) (by decide)
      have e26_N2_ : ze N2_ 81 26 = ze Mz 81 26 := hs3_.e (by decide)
      have e38_N2_ : ze N2_ 81 38 = ze Mz 81 38 := hs3_.e (by decide)
      have c5_ : zGD N2_ := zGD.fr hs3_ p0_ (by decide) (by decide)
      refine zw_iload (pc := 3) (i := 4) (x := Int32.ofInt u1_) rfl d_M_lays_3 ?_
      refine zw_aload_n (pc := 5) (n := 0) (x := 81) rfl d_M_lays_5 ?_
      refine zr_getI0 hf_N2_ hW (pc := 6) (by decide) f_M_235 rfl d_M_lays_6 ?_
      refine zr_icmp_ge (pc := 9) (tgt := 44) ⟨by omega, by omega⟩ ⟨by omega, by omega⟩ (by decide) d_M_lays_9 (fun hc_9 => ?_) (fun hc_9 => ?_)
      · skip
        refine zw_aload_n (pc := 44) (n := 0) (x := 81) rfl d_M_lays_44 ?_
        refine zw_dup (pc := 45) rfl d_M_lays_45 ?_
        refine zr_getI (hf_N2_.w hW) (pc := 46) f_M_268 rfl d_M_lays_46 ?_
        refine zw_iconst (pc := 49) (v := Int32.ofInt 1) (by decide) d_M_lays_49 ?_
        refine zr_iadd (pc := 50) d_M_lays_50 ?_
        refine zr_putI (hf_N2_.w hW) (pc := 51) f_M_268 rfl rfl ⟨by omega, by omega⟩ rfl rfl d_M_lays_51 (fun N6_ hsN6_ hvN6_ => ?_)
        have hf_N6_ : zFr [38, 39] [95] Mz N6_ := hf_N2_.tr hsN6_ (by decide) (by decide)
        have e26_N6_ : ze N6_ 81 26 = ze N2_ 81 26 := hsN6_.e (by decide)
        have r38_N6_ := ze_r N6_ 81 38
        have c7_ : zGD N6_ := zGD.fr hsN6_ c5_ (by decide) (by decide)
        refine zw_aload_n (pc := 54) (n := 0) (x := 81) rfl d_M_lays_54 ?_
        refine zr_callV (hf_N6_.w hW) hf_N6_.x (pc := 55) [] [] l_M_279 (c_M_looks l N6_ (hf_N6_.w hW) c7_ (show 1 ≤ ze N6_ 81 38 by omega) (show ze N6_ 81 38 ≤ 40 by omega)) rfl rfl rfl (by decide) (Nat.le_of_ble_eq_true rfl) d_M_lays_55 ?_
        rintro _ N8_ ⟨rfl, hsN8_, -⟩
        have hf_N8_ : zFr [38, 39] [95] Mz N8_ := hf_N6_.tr hsN8_ (by decide) (by decide)
        have e26_N8_ : ze N8_ 81 26 = ze N6_ 81 26 := hsN8_.e (by decide)
        have e38_N8_ : ze N8_ 81 38 = ze N6_ 81 38 := hsN8_.e (by decide)
        have c10_ : zGD N8_ := zGD.fr hsN8_ c7_ (by decide) (by decide)
        show zW l m_M_lays (zn Mz + 0, zw Mz + 0) N8_ 58 [some (.ref 81), some (.int (Int32.ofInt a0_)), some (.long (Int64.ofInt a1_)), none, some (.int (Int32.ofInt u1_))] [] (zpV [38, 39] [95] Mz (fun N => ze N 81 38 = ze Mz 81 38 + 1))
        exact zr_vret (pc := 58) rfl hf_N8_ (show ze N8_ 81 38 = ze Mz 81 38 + 1 by omega) d_M_lays_58
      · skip
        refine zw_aload_n (pc := 12) (n := 0) (x := 81) rfl d_M_lays_12 ?_
        refine zr_getF (r := 95) (hf_N2_.w hW) (pc := 13) f_M_56 rfl (zh_95 (hf_N2_.w hW)).1 d_M_lays_13 ?_
        refine zw_bipush (pc := 16) (v := Int32.ofInt 64) (by decide) d_M_lays_16 ?_
        refine zw_aload_n (pc := 18) (n := 0) (x := 81) rfl d_M_lays_18 ?_
        refine zr_getI (hf_N2_.w hW) (pc := 19) f_M_268 rfl d_M_lays_19 ?_
        refine zr_imul (pc := 22) d_M_lays_22 ?_
        refine zw_iload (pc := 23) (i := 4) (x := Int32.ofInt u1_) rfl d_M_lays_23 ?_
        refine zr_iadd (pc := 25) d_M_lays_25 ?_
        refine zw_iload (pc := 26) (i := 4) (x := Int32.ofInt u1_) rfl d_M_lays_26 ?_
        refine zw_iload_n (pc := 28) (n := 1) (x := Int32.ofInt a0_) rfl d_M_lays_28 ?_
        refine zr_icmp_ne (pc := 29) (tgt := 36) ⟨by omega, by omega⟩ ⟨by omega, by omega⟩ (by decide) d_M_lays_29 (fun hc_29 => ?_) (fun hc_29 => ?_)
        · skip
          refine zw_lconst (pc := 36) (v := Int64.ofInt 0) (by decide) d_M_lays_36 ?_
          refine zr_last (pc := 37) (zh_95 (hf_N2_.w hW)).2 (by decide) (by decide) (by omega) (by omega) d_M_lays_37 (fun N11_ hN11_ hsN11_ => ?_)
          have hf_N11_ : zFr [38, 39] [95] Mz N11_ := hf_N2_.tr hsN11_ (by decide) (by decide)
          have hb0_N11_ : zFr [] [95] Mz N11_ := hs3_.tr hsN11_ (by decide) (by decide)
          have e26_N11_ : ze N11_ 81 26 = ze N2_ 81 26 := hsN11_.e (by decide)
          have e38_N11_ : ze N11_ 81 38 = ze N2_ 81 38 := hsN11_.e (by decide)
          have c12_ : zGD N11_ := zGD.fr hsN11_ c5_ (by decide) (by decide)
          refine zr_iinc (pc := 38) (i := 4) (a := u1_) (n := 1) (L2 := [some (.ref 81), some (.int (Int32.ofInt a0_)), some (.long (Int64.ofInt a1_)), none, some (.int (Int32.ofInt (u1_ + 1)))]) rfl (by decide) rfl d_M_lays_38 ?_
          refine zw_goto (pc := 41) (tgt := 3) (by decide) d_M_lays_41 ?_
          exact ih_3 (u1_ + 1) (by omega) (by omega) N11_ hb0_N11_ (show 0 ≤ (u1_ + 1) by omega) (by omega)
        · skip
          refine zw_lload_n (pc := 32) (n := 2) (x := Int64.ofInt a1_) rfl d_M_lays_32 ?_
          refine zw_goto (pc := 33) (tgt := 37) (by decide) d_M_lays_33 ?_
          refine zr_last (pc := 37) (zh_95 (hf_N2_.w hW)).2 (by decide) (by decide) (by omega) (by omega) d_M_lays_37 (fun N13_ hN13_ hsN13_ => ?_)
          have hf_N13_ : zFr [38, 39] [95] Mz N13_ := hf_N2_.tr hsN13_ (by decide) (by decide)
          have hb0_N13_ : zFr [] [95] Mz N13_ := hs3_.tr hsN13_ (by decide) (by decide)
          have e26_N13_ : ze N13_ 81 26 = ze N2_ 81 26 := hsN13_.e (by decide)
          have e38_N13_ : ze N13_ 81 38 = ze N2_ 81 38 := hsN13_.e (by decide)
          have c14_ : zGD N13_ := zGD.fr hsN13_ c5_ (by decide) (by decide)
          refine zr_iinc (pc := 38) (i := 4) (a := u1_) (n := 1) (L2 := [some (.ref 81), some (.int (Int32.ofInt a0_)), some (.long (Int64.ofInt a1_)), none, some (.int (Int32.ofInt (u1_ + 1)))]) rfl (by decide) rfl d_M_lays_38 ?_
          refine zw_goto (pc := 41) (tgt := 3) (by decide) d_M_lays_41 ?_
          exact ih_3 (u1_ + 1) (by omega) (by omega) N13_ hb0_N13_ (show 0 ≤ (u1_ + 1) by omega) (by omega)
  exact lp_3 _ 0 (by omega) (by omega) Mz zFr.rf (show 0 ≤ 0 by omega) (Nat.lt_succ_self _)
set_option maxHeartbeats 4000000 in
theorem c_M_numbers_96_95 (l : Launch) (Mz : zMem) (hW : zMt Mz) (a2_ : Int) (ha2_a : -2147483648 ≤ a2_) (ha2_b : a2_ < 2147483648) (p0_ : zGD Mz) (p1_ : 0 ≤ a2_) (p2_ : a2_ ≤ 2496) : zC l m_M_numbers 0 0 [.ref 81, .ref 96, .ref 95, .int (Int32.ofInt a2_)] Mz (zpV [] [95] Mz (fun N => True)) := by
  refine zC_of (L0 := [some (.ref 81), some (.ref 96), some (.ref 95), some (.int (Int32.ofInt a2_)), none, none, none, none]) md_M_numbers (Nat.le_of_ble_eq_true rfl) rfl ?_ zQ0
  have hf : zFr [] [95] Mz Mz := zFr.rf
  have r_26 := ze_r Mz 81 26
  have gb := p0_.1
  refine zw_aload_n (pc := 0) (n := 0) (x := 81) rfl d_M_numbers_0 ?_
  refine zr_getI0 hf hW (pc := 1) (by decide) f_M_235 rfl d_M_numbers_1 ?_
  refine zw_iconst (pc := 4) (v := Int32.ofInt 1) (by decide) d_M_numbers_4 ?_
  refine zr_isub (pc := 5) d_M_numbers_5 ?_
  refine zw_istore (pc := 6) (i := 4) (L2 := [some (.ref 81), some (.ref 96), some (.ref 95), some (.int (Int32.ofInt a2_)), some (.int (Int32.ofInt ((ze Mz 81 26) - 1))), none, none, none]) (by decide) rfl d_M_numbers_6 ?_
  have lp_8 : ∀ (n : Nat) (u1_ : Int) (hu1_a : -2147483648 ≤ u1_) (hu1_b : u1_ < 2147483648) (N2_ : zMem) (hs3_ : zFr [] [95] Mz N2_) (i4_ : u1_ ≤ (ze Mz 81 26) - 1) (i5_ : u1_ ≥ -1), (u1_ + 1).toNat < n → zW l m_M_numbers (zn Mz + 0, zw Mz + 0) N2_ 8 [some (.ref 81), some (.ref 96), some (.ref 95), some (.int (Int32.ofInt a2_)), some (.int (Int32.ofInt u1_)), none, none, none] [] (zpV [] [95] Mz (fun N => True)) := by
    intro n
    induction n with
    | zero =>
      intro u1_ hu1_a hu1_b N2_ hs3_ i4_ i5_ h0
      exact absurd h0 (Nat.not_lt_zero _)
    | succ n ih_8 =>
      intro u1_ hu1_a hu1_b N2_ hs3_ i4_ i5_ hlt_8
      have hf_N2_ : zFr [] [95] Mz N2_ := hf.tr hs3_ (by decide) (by decide)
      have e26_N2_ : ze N2_ 81 26 = ze Mz 81 26 := hs3_.e (by decide)
      have c6_ : zGD N2_ := zGD.fr hs3_ p0_ (by decide) (by decide)
      refine zw_iload (pc := 8) (i := 4) (x := Int32.ofInt u1_) rfl d_M_numbers_8 ?_
      refine zr_if_lt (pc := 10) (tgt := 95) ⟨by omega, by omega⟩ (by decide) d_M_numbers_10 (fun hc_10 => ?_) (fun hc_10 => ?_)
      · skip
        exact zr_vret (pc := 95) rfl hf_N2_ trivial d_M_numbers_95
      · skip
        refine zw_aload_n (pc := 13) (n := 1) (x := 96) rfl d_M_numbers_13 ?_
        refine zw_iload (pc := 14) (i := 4) (x := Int32.ofInt u1_) rfl d_M_numbers_14 ?_
        refine zr_laldn (pc := 16) (zh_96 (hf_N2_.w hW)).2 (by decide) (by omega) (by omega) d_M_numbers_16 (fun v7_ hv7_ hv7_a hv7_b => ?_)
        rw [hf_N2_.jg (by decide) (by decide)] at hv7_
        refine zw_lstore (pc := 17) (i := 5) (L2 := [some (.ref 81), some (.ref 96), some (.ref 95), some (.int (Int32.ofInt a2_)), some (.int (Int32.ofInt u1_)), some (.long (Int64.ofInt v7_)), none, none]) (by decide) rfl d_M_numbers_17 ?_
        refine zw_iload (pc := 19) (i := 4) (x := Int32.ofInt u1_) rfl d_M_numbers_19 ?_
        refine zw_iconst (pc := 21) (v := Int32.ofInt 1) (by decide) d_M_numbers_21 ?_
        refine zr_iadd (pc := 22) d_M_numbers_22 ?_
        refine zw_istore (pc := 23) (i := 7) (L2 := [some (.ref 81), some (.ref 96), some (.ref 95), some (.int (Int32.ofInt a2_)), some (.int (Int32.ofInt u1_)), some (.long (Int64.ofInt v7_)), none, some (.int (Int32.ofInt (u1_ + 1)))]) (by decide) rfl d_M_numbers_23 ?_
        have lp_25 : ∀ (n : Nat) (u8_ : Int) (hu8_a : -9223372036854775808 ≤ u8_) (hu8_b : u8_ < 9223372036854775808) (u9_ : Int) (hu9_a : -2147483648 ≤ u9_) (hu9_b : u9_ < 2147483648) (i10_ : u1_ + 1 ≤ u9_), (ze Mz 81 26 - u9_).toNat < n → zW l m_M_numbers (zn Mz + 0, zw Mz + 0) N2_ 25 [some (.ref 81), some (.ref 96), some (.ref 95), some (.int (Int32.ofInt a2_)), some (.int (Int32.ofInt u1_)), some (.long (Int64.ofInt u8_)), none, some (.int (Int32.ofInt u9_))] [] (zpV [] [95] Mz (fun N => True)) := by
          intro n
          induction n with
          | zero =>
            intro u8_ hu8_a hu8_b u9_ hu9_a hu9_b i10_ h0
            exact absurd h0 (Nat.not_lt_zero _)
          | succ n ih_25 =>
            intro u8_ hu8_a hu8_b u9_ hu9_a hu9_b i10_ hlt_25
            refine zw_iload (pc := 25) (i := 7) (x := Int32.ofInt u9_) rfl d_M_numbers_25 ?_
            refine zw_aload_n (pc := 27) (n := 0) (x := 81) rfl d_M_numbers_27 ?_
            refine zr_getI0 hf_N2_ hW (pc := 28) (by decide) f_M_235 rfl d_M_numbers_28 ?_
            refine zr_icmp_ge (pc := 31) (tgt := 66) ⟨by omega, by omega⟩ ⟨by omega, by omega⟩ (by decide) d_M_numbers_31 (fun hc_31 => ?_) (fun hc_31 => ?_)
            · skip
              refine zw_aload_n (pc := 66) (n := 2) (x := 95) rfl d_M_numbers_66 ?_
              refine zw_iload_n (pc := 67) (n := 3) (x := Int32.ofInt a2_) rfl d_M_numbers_67 ?_
              refine zw_iload (pc := 68) (i := 4) (x := Int32.ofInt u1_) rfl d_M_numbers_68 ?_
              refine zr_iadd (pc := 70) d_M_numbers_70 ?_
              refine zw_lload (pc := 71) (i := 5) (x := Int64.ofInt u8_) rfl d_M_numbers_71 ?_
              refine zw_aload_n (pc := 73) (n := 0) (x := 81) rfl d_M_numbers_73 ?_
              refine zr_getF (r := 93) (hf_N2_.w hW) (pc := 74) f_M_50 rfl (zh_93 (hf_N2_.w hW)).1 d_M_numbers_74 ?_
              refine zw_bipush (pc := 77) (v := Int32.ofInt 64) (by decide) d_M_numbers_77 ?_
              refine zw_iload (pc := 79) (i := 4) (x := Int32.ofInt u1_) rfl d_M_numbers_79 ?_
              refine zr_imul (pc := 81) d_M_numbers_81 ?_
              refine zw_iload (pc := 82) (i := 4) (x := Int32.ofInt u1_) rfl d_M_numbers_82 ?_
              refine zr_iadd (pc := 84) d_M_numbers_84 ?_
              refine zr_ialdn (pc := 85) (zh_93 (hf_N2_.w hW)).2 (by decide) (by omega) (by omega) d_M_numbers_85 (fun v11_ hv11_ hv11_a hv11_b => ?_)
              rw [hf_N2_.ie (by decide) (by decide)] at hv11_
              refine zr_i2l (pc := 86) ⟨by omega, by omega⟩ d_M_numbers_86 ?_
              refine zr_ldiv (pc := 87) ⟨by omega, by omega⟩ (by rw [hv11_]; exact p0_.2 _ (by omega) (by omega)) d_M_numbers_87 ?_
              have hr12_ := zlquo_r u8_ v11_
              refine zr_last (pc := 88) (zh_95 (hf_N2_.w hW)).2 (by decide) (by decide) (by omega) (by omega) d_M_numbers_88 (fun N13_ hN13_ hsN13_ => ?_)
              have hf_N13_ : zFr [] [95] Mz N13_ := hf_N2_.tr hsN13_ (by decide) (by decide)
              have hb0_N13_ : zFr [] [95] Mz N13_ := hs3_.tr hsN13_ (by decide) (by decide)
              have e26_N13_ : ze N13_ 81 26 = ze N2_ 81 26 := hsN13_.e (by decide)
              have c14_ : zGD N13_ := zGD.fr hsN13_ c6_ (by decide) (by decide)
              refine zr_iinc (pc := 89) (i := 4) (a := u1_) (n := -1) (L2 := [some (.ref 81), some (.ref 96), some (.ref 95), some (.int (Int32.ofInt a2_)), some (.int (Int32.ofInt (u1_ + (-1)))), some (.long (Int64.ofInt u8_)), none, some (.int (Int32.ofInt u9_))]) rfl (by decide) rfl d_M_numbers_89 ?_
              refine zw_goto (pc := 92) (tgt := 8) (by decide) d_M_numbers_92 ?_
              refine zW_le [some (.ref 81), some (.ref 96), some (.ref 95), some (.int (Int32.ofInt a2_)), some (.int (Int32.ofInt (u1_ + (-1)))), none, none, none] (⟨rfl, rfl, rfl, rfl, rfl, trivial⟩) ?_
              exact ih_8 (u1_ + (-1)) (by omega) (by omega) N13_ hb0_N13_ (show (u1_ + (-1)) ≤ (ze Mz 81 26) - 1 by omega) (show (u1_ + (-1)) ≥ -1 by omega) (by omega)
            · skip
              refine zw_lload (pc := 34) (i := 5) (x := Int64.ofInt u8_) rfl d_M_numbers_34 ?_
              refine zw_aload_n (pc := 36) (n := 2) (x := 95) rfl d_M_numbers_36 ?_
              refine zw_iload_n (pc := 37) (n := 3) (x := Int32.ofInt a2_) rfl d_M_numbers_37 ?_
              refine zw_iload (pc := 38) (i := 7) (x := Int32.ofInt u9_) rfl d_M_numbers_38 ?_
              refine zr_iadd (pc := 40) d_M_numbers_40 ?_
              refine zr_laldn (pc := 41) (zh_95 (hf_N2_.w hW)).2 (by decide) (by omega) (by omega) d_M_numbers_41 (fun v15_ hv15_ hv15_a hv15_b => ?_)
              refine zw_aload_n (pc := 42) (n := 0) (x := 81) rfl d_M_numbers_42 ?_
              refine zr_getF (r := 93) (hf_N2_.w hW) (pc := 43) f_M_50 rfl (zh_93 (hf_N2_.w hW)).1 d_M_numbers_43 ?_
              refine zw_bipush (pc := 46) (v := Int32.ofInt 64) (by decide) d_M_numbers_46 ?_
              refine zw_iload (pc := 48) (i := 7) (x := Int32.ofInt u9_) rfl d_M_numbers_48 ?_
              refine zr_imul (pc := 50) d_M_numbers_50 ?_
              refine zw_iload (pc := 51) (i := 4) (x := Int32.ofInt u1_) rfl d_M_numbers_51 ?_
              refine zr_iadd (pc := 53) d_M_numbers_53 ?_
              refine zr_ialdn (pc := 54) (zh_93 (hf_N2_.w hW)).2 (by decide) (by omega) (by omega) d_M_numbers_54 (fun v16_ hv16_ hv16_a hv16_b => ?_)
              rw [hf_N2_.ie (by decide) (by decide)] at hv16_
              refine zr_i2l (pc := 55) ⟨by omega, by omega⟩ d_M_numbers_55 ?_
              refine zr_lmul (pc := 56) d_M_numbers_56 ?_
              refine zr_lsub (pc := 57) d_M_numbers_57 ?_
              refine zr_nmJ (fun v17_ hv17_ => ?_)
              obtain ⟨hv17_a, hv17_b⟩ := hv17_
              refine zw_lstore (pc := 58) (i := 5) (L2 := [some (.ref 81), some (.ref 96), some (.ref 95), some (.int (Int32.ofInt a2_)), some (.int (Int32.ofInt u1_)), some (.long (Int64.ofInt v17_)), none, some (.int (Int32.ofInt u9_))]) (by decide) rfl d_M_numbers_58 ?_
              refine zr_iinc (pc := 60) (i := 7) (a := u9_) (n := 1) (L2 := [some (.ref 81), some (.ref 96), some (.ref 95), some (.int (Int32.ofInt a2_)), some (.int (Int32.ofInt u1_)), some (.long (Int64.ofInt v17_)), none, some (.int (Int32.ofInt (u9_ + 1)))]) rfl (by decide) rfl d_M_numbers_60 ?_
              refine zw_goto (pc := 63) (tgt := 25) (by decide) d_M_numbers_63 ?_
              exact ih_25 v17_ (by omega) (by omega) (u9_ + 1) (by omega) (by omega) (show u1_ + 1 ≤ (u9_ + 1) by omega) (by omega)
        exact lp_25 _ v7_ (by omega) (by omega) (u1_ + 1) (by omega) (by omega) (show u1_ + 1 ≤ (u1_ + 1) by omega) (Nat.lt_succ_self _)
  exact lp_8 _ ((ze Mz 81 26) - 1) (by omega) (by omega) Mz zFr.rf (show ((ze Mz 81 26) - 1) ≤ (ze Mz 81 26) - 1 by omega) (show ((ze Mz 81 26) - 1) ≥ -1 by omega) (Nat.lt_succ_self _)
set_option maxHeartbeats 4000000 in
theorem c_M_marksOf_96 (l : Launch) (Mz : zMem) (hW : zMt Mz) (a0_ : Int) (ha0_a : -2147483648 ≤ a0_) (ha0_b : a0_ < 2147483648) (p0_ : zGD Mz) (p1_ : 0 ≤ a0_) (p2_ : a0_ ≤ 39) : zC l m_M_marksOf 0 0 [.ref 81, .int (Int32.ofInt a0_), .ref 96] Mz (zpV [] [96] Mz (fun N => True)) := by
  refine zC_of (L0 := [some (.ref 81), some (.int (Int32.ofInt a0_)), some (.ref 96), none]) md_M_marksOf (Nat.le_of_ble_eq_true rfl) rfl ?_ zQ0
  have hf : zFr [] [96] Mz Mz := zFr.rf
  have r_26 := ze_r Mz 81 26
  have gb := p0_.1
  refine zw_iconst (pc := 0) (v := Int32.ofInt 0) (by decide) d_M_marksOf_0 ?_
  refine zw_istore_n (pc := 1) (i := 3) (L2 := [some (.ref 81), some (.int (Int32.ofInt a0_)), some (.ref 96), some (.int (Int32.ofInt 0))]) rfl (by decide) rfl d_M_marksOf_1 ?_
  have lp_2 : ∀ (n : Nat) (u1_ : Int) (hu1_a : -2147483648 ≤ u1_) (hu1_b : u1_ < 2147483648) (N2_ : zMem) (hs3_ : zFr [] [96] Mz N2_) (i4_ : 0 ≤ u1_), (ze Mz 81 26 - u1_).toNat < n → zW l m_M_marksOf (zn Mz + 0, zw Mz + 0) N2_ 2 [some (.ref 81), some (.int (Int32.ofInt a0_)), some (.ref 96), some (.int (Int32.ofInt u1_))] [] (zpV [] [96] Mz (fun N => True)) := by
    intro n
    induction n with
    | zero =>
      intro u1_ hu1_a hu1_b N2_ hs3_ i4_ h0
      exact absurd h0 (Nat.not_lt_zero _)
    | succ n ih_2 =>
      intro u1_ hu1_a hu1_b N2_ hs3_ i4_ hlt_2
      have hf_N2_ : zFr [] [96] Mz N2_ := hf.tr hs3_ (by decide) (by decide)
      have e26_N2_ : ze N2_ 81 26 = ze Mz 81 26 := hs3_.e (by decide)
      have c5_ : zGD N2_ := zGD.fr hs3_ p0_ (by decide) (by decide)
      refine zw_iload_n (pc := 2) (n := 3) (x := Int32.ofInt u1_) rfl d_M_marksOf_2 ?_
      refine zw_aload_n (pc := 3) (n := 0) (x := 81) rfl d_M_marksOf_3 ?_
      refine zr_getI0 hf_N2_ hW (pc := 4) (by decide) f_M_235 rfl d_M_marksOf_4 ?_
      refine zr_icmp_ge (pc := 7) (tgt := 32) ⟨by omega, by omega⟩ ⟨by omega, by omega⟩ (by decide) d_M_marksOf_7 (fun hc_7 => ?_) (fun hc_7 => ?_)
      · skip
        exact zr_vret (pc := 32) rfl hf_N2_ trivial d_M_marksOf_32
      · skip
        refine zw_aload_n (pc := 10) (n := 2) (x := 96) rfl d_M_marksOf_10 ?_
        refine zw_iload_n (pc := 11) (n := 3) (x := Int32.ofInt u1_) rfl d_M_marksOf_11 ?_
        refine zw_aload_n (pc := 12) (n := 0) (x := 81) rfl d_M_marksOf_12 ?_
        refine zw_aload_n (pc := 13) (n := 0) (x := 81) rfl d_M_marksOf_13 ?_
        refine zr_getF (r := 95) (hf_N2_.w hW) (pc := 14) f_M_56 rfl (zh_95 (hf_N2_.w hW)).1 d_M_marksOf_14 ?_
        refine zw_bipush (pc := 17) (v := Int32.ofInt 64) (by decide) d_M_marksOf_17 ?_
        refine zw_iload_n (pc := 19) (n := 1) (x := Int32.ofInt a0_) rfl d_M_marksOf_19 ?_
        refine zr_imul (pc := 20) d_M_marksOf_20 ?_
        refine zw_iload_n (pc := 21) (n := 3) (x := Int32.ofInt u1_) rfl d_M_marksOf_21 ?_
        refine zr_callV (hf_N2_.w hW) hf_N2_.x (pc := 22) [.ref 95, .int (Int32.ofInt (64 * a0_)), .int (Int32.ofInt u1_)] [.int (Int32.ofInt u1_), .ref 96] l_M_264 (c_M_markAt_95 l N2_ (hf_N2_.w hW) (64 * a0_) (by omega) (by omega) u1_ (by omega) (by omega) c5_ (show 0 ≤ (64 * a0_) by omega) (show (64 * a0_) ≤ 2496 by omega) (show 0 ≤ u1_ by omega) (show u1_ ≤ 63 by omega)) rfl rfl rfl (by decide) (Nat.le_of_ble_eq_true rfl) d_M_marksOf_22 ?_
        rintro _ N6_ ⟨v7_, rfl, ⟨hv7_a, hv7_b⟩, hsN6_, -⟩
        obtain rfl := hsN6_.eq.symm
        show zW l m_M_marksOf (zn Mz + 0, zw Mz + 0) N2_ 25 [some (.ref 81), some (.int (Int32.ofInt a0_)), some (.ref 96), some (.int (Int32.ofInt u1_))] [.long (Int64.ofInt v7_), .int (Int32.ofInt u1_), .ref 96] (zpV [] [96] Mz (fun N => True))
        refine zr_last (pc := 25) (zh_96 (hf_N2_.w hW)).2 (by decide) (by decide) (by omega) (by omega) d_M_marksOf_25 (fun N8_ hN8_ hsN8_ => ?_)
        have hf_N8_ : zFr [] [96] Mz N8_ := hf_N2_.tr hsN8_ (by decide) (by decide)
        have hb0_N8_ : zFr [] [96] Mz N8_ := hs3_.tr hsN8_ (by decide) (by decide)
        have e26_N8_ : ze N8_ 81 26 = ze N2_ 81 26 := hsN8_.e (by decide)
        have c9_ : zGD N8_ := zGD.fr hsN8_ c5_ (by decide) (by decide)
        refine zr_iinc (pc := 26) (i := 3) (a := u1_) (n := 1) (L2 := [some (.ref 81), some (.int (Int32.ofInt a0_)), some (.ref 96), some (.int (Int32.ofInt (u1_ + 1)))]) rfl (by decide) rfl d_M_marksOf_26 ?_
        refine zw_goto (pc := 29) (tgt := 2) (by decide) d_M_marksOf_29 ?_
        exact ih_2 (u1_ + 1) (by omega) (by omega) N8_ hb0_N8_ (show 0 ≤ (u1_ + 1) by omega) (by omega)
  exact lp_2 _ 0 (by omega) (by omega) Mz zFr.rf (show 0 ≤ 0 by omega) (Nat.lt_succ_self _)
set_option maxHeartbeats 4000000 in
theorem c_M_marksOf_97 (l : Launch) (Mz : zMem) (hW : zMt Mz) (a0_ : Int) (ha0_a : -2147483648 ≤ a0_) (ha0_b : a0_ < 2147483648) (p0_ : zGD Mz) (p1_ : 0 ≤ a0_) (p2_ : a0_ ≤ 39) : zC l m_M_marksOf 0 0 [.ref 81, .int (Int32.ofInt a0_), .ref 97] Mz (zpV [] [97] Mz (fun N => True)) := by
  refine zC_of (L0 := [some (.ref 81), some (.int (Int32.ofInt a0_)), some (.ref 97), none]) md_M_marksOf (Nat.le_of_ble_eq_true rfl) rfl ?_ zQ0
  have hf : zFr [] [97] Mz Mz := zFr.rf
  have r_26 := ze_r Mz 81 26
  have gb := p0_.1
  refine zw_iconst (pc := 0) (v := Int32.ofInt 0) (by decide) d_M_marksOf_0 ?_
  refine zw_istore_n (pc := 1) (i := 3) (L2 := [some (.ref 81), some (.int (Int32.ofInt a0_)), some (.ref 97), some (.int (Int32.ofInt 0))]) rfl (by decide) rfl d_M_marksOf_1 ?_
  have lp_2 : ∀ (n : Nat) (u1_ : Int) (hu1_a : -2147483648 ≤ u1_) (hu1_b : u1_ < 2147483648) (N2_ : zMem) (hs3_ : zFr [] [97] Mz N2_) (i4_ : 0 ≤ u1_), (ze Mz 81 26 - u1_).toNat < n → zW l m_M_marksOf (zn Mz + 0, zw Mz + 0) N2_ 2 [some (.ref 81), some (.int (Int32.ofInt a0_)), some (.ref 97), some (.int (Int32.ofInt u1_))] [] (zpV [] [97] Mz (fun N => True)) := by
    intro n
    induction n with
    | zero =>
      intro u1_ hu1_a hu1_b N2_ hs3_ i4_ h0
      exact absurd h0 (Nat.not_lt_zero _)
    | succ n ih_2 =>
      intro u1_ hu1_a hu1_b N2_ hs3_ i4_ hlt_2
      have hf_N2_ : zFr [] [97] Mz N2_ := hf.tr hs3_ (by decide) (by decide)
      have e26_N2_ : ze N2_ 81 26 = ze Mz 81 26 := hs3_.e (by decide)
      have c5_ : zGD N2_ := zGD.fr hs3_ p0_ (by decide) (by decide)
      refine zw_iload_n (pc := 2) (n := 3) (x := Int32.ofInt u1_) rfl d_M_marksOf_2 ?_
      refine zw_aload_n (pc := 3) (n := 0) (x := 81) rfl d_M_marksOf_3 ?_
      refine zr_getI0 hf_N2_ hW (pc := 4) (by decide) f_M_235 rfl d_M_marksOf_4 ?_
      refine zr_icmp_ge (pc := 7) (tgt := 32) ⟨by omega, by omega⟩ ⟨by omega, by omega⟩ (by decide) d_M_marksOf_7 (fun hc_7 => ?_) (fun hc_7 => ?_)
      · skip
        exact zr_vret (pc := 32) rfl hf_N2_ trivial d_M_marksOf_32
      · skip
        refine zw_aload_n (pc := 10) (n := 2) (x := 97) rfl d_M_marksOf_10 ?_
        refine zw_iload_n (pc := 11) (n := 3) (x := Int32.ofInt u1_) rfl d_M_marksOf_11 ?_
        refine zw_aload_n (pc := 12) (n := 0) (x := 81) rfl d_M_marksOf_12 ?_
        refine zw_aload_n (pc := 13) (n := 0) (x := 81) rfl d_M_marksOf_13 ?_
        refine zr_getF (r := 95) (hf_N2_.w hW) (pc := 14) f_M_56 rfl (zh_95 (hf_N2_.w hW)).1 d_M_marksOf_14 ?_
        refine zw_bipush (pc := 17) (v := Int32.ofInt 64) (by decide) d_M_marksOf_17 ?_
        refine zw_iload_n (pc := 19) (n := 1) (x := Int32.ofInt a0_) rfl d_M_marksOf_19 ?_
        refine zr_imul (pc := 20) d_M_marksOf_20 ?_
        refine zw_iload_n (pc := 21) (n := 3) (x := Int32.ofInt u1_) rfl d_M_marksOf_21 ?_
        refine zr_callV (hf_N2_.w hW) hf_N2_.x (pc := 22) [.ref 95, .int (Int32.ofInt (64 * a0_)), .int (Int32.ofInt u1_)] [.int (Int32.ofInt u1_), .ref 97] l_M_264 (c_M_markAt_95 l N2_ (hf_N2_.w hW) (64 * a0_) (by omega) (by omega) u1_ (by omega) (by omega) c5_ (show 0 ≤ (64 * a0_) by omega) (show (64 * a0_) ≤ 2496 by omega) (show 0 ≤ u1_ by omega) (show u1_ ≤ 63 by omega)) rfl rfl rfl (by decide) (Nat.le_of_ble_eq_true rfl) d_M_marksOf_22 ?_
        rintro _ N6_ ⟨v7_, rfl, ⟨hv7_a, hv7_b⟩, hsN6_, -⟩
        obtain rfl := hsN6_.eq.symm
        show zW l m_M_marksOf (zn Mz + 0, zw Mz + 0) N2_ 25 [some (.ref 81), some (.int (Int32.ofInt a0_)), some (.ref 97), some (.int (Int32.ofInt u1_))] [.long (Int64.ofInt v7_), .int (Int32.ofInt u1_), .ref 97] (zpV [] [97] Mz (fun N => True))
        refine zr_last (pc := 25) (zh_97 (hf_N2_.w hW)).2 (by decide) (by decide) (by omega) (by omega) d_M_marksOf_25 (fun N8_ hN8_ hsN8_ => ?_)
        have hf_N8_ : zFr [] [97] Mz N8_ := hf_N2_.tr hsN8_ (by decide) (by decide)
        have hb0_N8_ : zFr [] [97] Mz N8_ := hs3_.tr hsN8_ (by decide) (by decide)
        have e26_N8_ : ze N8_ 81 26 = ze N2_ 81 26 := hsN8_.e (by decide)
        have c9_ : zGD N8_ := zGD.fr hsN8_ c5_ (by decide) (by decide)
        refine zr_iinc (pc := 26) (i := 3) (a := u1_) (n := 1) (L2 := [some (.ref 81), some (.int (Int32.ofInt a0_)), some (.ref 97), some (.int (Int32.ofInt (u1_ + 1)))]) rfl (by decide) rfl d_M_marksOf_26 ?_
        refine zw_goto (pc := 29) (tgt := 2) (by decide) d_M_marksOf_29 ?_
        exact ih_2 (u1_ + 1) (by omega) (by omega) N8_ hb0_N8_ (show 0 ≤ (u1_ + 1) by omega) (by omega)
  exact lp_2 _ 0 (by omega) (by omega) Mz zFr.rf (show 0 ≤ 0 by omega) (Nat.lt_succ_self _)
set_option maxHeartbeats 4000000 in
theorem c_M_multiplies (l : Launch) (Mz : zMem) (hW : zMt Mz) (p0_ : zGD Mz) : zC l m_M_multiplies 0 0 [.ref 81] Mz (zpV [39] [96] Mz (fun N => True)) := by
  refine zC_of (L0 := [some (.ref 81), none, none, none, none, none]) md_M_multiplies (Nat.le_of_ble_eq_true rfl) rfl ?_ zQ0
  have hf : zFr [39] [96] Mz Mz := zFr.rf
  have r_26 := ze_r Mz 81 26
  have r_39 := ze_r Mz 81 39
  have gb := p0_.1
  refine zw_iconst (pc := 0) (v := Int32.ofInt 0) (by decide) d_M_multiplies_0 ?_
  refine zw_istore_n (pc := 1) (i := 1) (L2 := [some (.ref 81), some (.int (Int32.ofInt 0)), none, none, none, none]) rfl (by decide) rfl d_M_multiplies_1 ?_
  have lp_2 : ∀ (n : Nat) (u1_ : Int) (hu1_a : -2147483648 ≤ u1_) (hu1_b : u1_ < 2147483648) (N2_ : zMem) (hs3_ : zFr [39] [96] Mz N2_) (i4_ : 0 ≤ u1_), (ze Mz 81 26 - u1_).toNat < n → zW l m_M_multiplies (zn Mz + 0, zw Mz + 0) N2_ 2 [some (.ref 81), some (.int (Int32.ofInt u1_)), none, none, none, none] [] (zpV [39] [96] Mz (fun N => True)) := by
    intro n
    induction n with
    | zero =>
      intro u1_ hu1_a hu1_b N2_ hs3_ i4_ h0
      exact absurd h0 (Nat.not_lt_zero _)
    | succ n ih_2 =>
      intro u1_ hu1_a hu1_b N2_ hs3_ i4_ hlt_2
      have hf_N2_ : zFr [39] [96] Mz N2_ := hf.tr hs3_ (by decide) (by decide)
      have e26_N2_ : ze N2_ 81 26 = ze Mz 81 26 := hs3_.e (by decide)
      have r39_N2_ := ze_r N2_ 81 39
      have c5_ : zGD N2_ := zGD.fr hs3_ p0_ (by decide) (by decide)
      refine zw_iload_n (pc := 2) (n := 1) (x := Int32.ofInt u1_) rfl d_M_multiplies_2 ?_
      refine zw_aload_n (pc := 3) (n := 0) (x := 81) rfl d_M_multiplies_3 ?_
      refine zr_getI0 hf_N2_ hW (pc := 4) (by decide) f_M_235 rfl d_M_multiplies_4 ?_
      refine zr_icmp_ge (pc := 7) (tgt := 125) ⟨by omega, by omega⟩ ⟨by omega, by omega⟩ (by decide) d_M_multiplies_7 (fun hc_7 => ?_) (fun hc_7 => ?_)
      · skip
        exact zr_vret (pc := 125) rfl hf_N2_ trivial d_M_multiplies_125
      · skip
        refine zw_aload_n (pc := 10) (n := 0) (x := 81) rfl d_M_multiplies_10 ?_
        refine zr_getF (r := 96) (hf_N2_.w hW) (pc := 11) f_M_60 rfl (zh_96 (hf_N2_.w hW)).1 d_M_multiplies_11 ?_
        refine zw_iload_n (pc := 14) (n := 1) (x := Int32.ofInt u1_) rfl d_M_multiplies_14 ?_
        refine zr_laldn (pc := 15) (zh_96 (hf_N2_.w hW)).2 (by decide) (by omega) (by omega) d_M_multiplies_15 (fun v6_ hv6_ hv6_a hv6_b => ?_)
        refine zw_lconst (pc := 16) (v := Int64.ofInt 0) (by decide) d_M_multiplies_16 ?_
        refine zr_lcmp (pc := 17) ⟨by omega, by omega⟩ ⟨by omega, by omega⟩ d_M_multiplies_17 ?_
        have hr7_ := zcmp_s v6_ 0
        refine zr_if_ge (pc := 18) (tgt := 31) ⟨by omega, by omega⟩ (by decide) d_M_multiplies_18 (fun hc_18 => ?_) (fun hc_18 => ?_)
        · skip
          refine zw_aload_n (pc := 31) (n := 0) (x := 81) rfl d_M_multiplies_31 ?_
          refine zr_getF (r := 96) (hf_N2_.w hW) (pc := 32) f_M_60 rfl (zh_96 (hf_N2_.w hW)).1 d_M_multiplies_32 ?_
          refine zw_iload_n (pc := 35) (n := 1) (x := Int32.ofInt u1_) rfl d_M_multiplies_35 ?_
          refine zr_laldn (pc := 36) (zh_96 (hf_N2_.w hW)).2 (by decide) (by omega) (by omega) d_M_multiplies_36 (fun v8_ hv8_ hv8_a hv8_b => ?_)
          refine zw_lstore_n (pc := 37) (i := 2) (L2 := [some (.ref 81), some (.int (Int32.ofInt u1_)), some (.long (Int64.ofInt v8_)), none, none, none]) rfl (by decide) rfl d_M_multiplies_37 ?_
          refine zw_aload_n (pc := 38) (n := 0) (x := 81) rfl d_M_multiplies_38 ?_
          refine zr_getF (r := 97) (hf_N2_.w hW) (pc := 39) f_M_63 rfl (zh_97 (hf_N2_.w hW)).1 d_M_multiplies_39 ?_
          refine zw_iload_n (pc := 42) (n := 1) (x := Int32.ofInt u1_) rfl d_M_multiplies_42 ?_
          refine zr_laldn (pc := 43) (zh_97 (hf_N2_.w hW)).2 (by decide) (by omega) (by omega) d_M_multiplies_43 (fun v9_ hv9_ hv9_a hv9_b => ?_)
          rw [hf_N2_.jg (by decide) (by decide)] at hv9_
          refine zw_lconst (pc := 44) (v := Int64.ofInt 0) (by decide) d_M_multiplies_44 ?_
          refine zr_lcmp (pc := 45) ⟨by omega, by omega⟩ ⟨by omega, by omega⟩ d_M_multiplies_45 ?_
          have hr10_ := zcmp_s v9_ 0
          refine zr_if_ge (pc := 46) (tgt := 59) ⟨by omega, by omega⟩ (by decide) d_M_multiplies_46 (fun hc_46 => ?_) (fun hc_46 => ?_)
          · skip
            refine zw_aload_n (pc := 59) (n := 0) (x := 81) rfl d_M_multiplies_59 ?_
            refine zr_getF (r := 97) (hf_N2_.w hW) (pc := 60) f_M_63 rfl (zh_97 (hf_N2_.w hW)).1 d_M_multiplies_60 ?_
            refine zw_iload_n (pc := 63) (n := 1) (x := Int32.ofInt u1_) rfl d_M_multiplies_63 ?_
            refine zr_laldn (pc := 64) (zh_97 (hf_N2_.w hW)).2 (by decide) (by omega) (by omega) d_M_multiplies_64 (fun v11_ hv11_ hv11_a hv11_b => ?_)
            rw [hf_N2_.jg (by decide) (by decide)] at hv11_
            refine zw_lstore (pc := 65) (i := 4) (L2 := [some (.ref 81), some (.int (Int32.ofInt u1_)), some (.long (Int64.ofInt v8_)), none, some (.long (Int64.ofInt v11_)), none]) (by decide) rfl d_M_multiplies_65 ?_
            refine zw_lload_n (pc := 67) (n := 2) (x := Int64.ofInt v8_) rfl d_M_multiplies_67 ?_
            refine zw_lconst (pc := 68) (v := Int64.ofInt 0) (by decide) d_M_multiplies_68 ?_
            refine zr_lcmp (pc := 69) ⟨by omega, by omega⟩ ⟨by omega, by omega⟩ d_M_multiplies_69 ?_
            have hr12_ := zcmp_s v8_ 0
            refine zr_if_le (pc := 70) (tgt := 89) ⟨by omega, by omega⟩ (by decide) d_M_multiplies_70 (fun hc_70 => ?_) (fun hc_70 => ?_)
            · skip
              refine zw_aload_n (pc := 89) (n := 0) (x := 81) rfl d_M_multiplies_89 ?_
              refine zr_getF (r := 96) (hf_N2_.w hW) (pc := 90) f_M_60 rfl (zh_96 (hf_N2_.w hW)).1 d_M_multiplies_90 ?_
              refine zw_iload_n (pc := 93) (n := 1) (x := Int32.ofInt u1_) rfl d_M_multiplies_93 ?_
              refine zw_aload_n (pc := 94) (n := 0) (x := 81) rfl d_M_multiplies_94 ?_
              refine zr_getI (hf_N2_.w hW) (pc := 95) f_M_275 rfl d_M_multiplies_95 ?_
              refine zr_if_eq (pc := 98) (tgt := 105) ⟨by omega, by omega⟩ (by decide) d_M_multiplies_98 (fun hc_98 => ?_) (fun hc_98 => ?_)
              · skip
                refine zw_aload_n (pc := 105) (n := 0) (x := 81) rfl d_M_multiplies_105 ?_
                refine zr_getF (r := 96) (hf_N2_.w hW) (pc := 106) f_M_60 rfl (zh_96 (hf_N2_.w hW)).1 d_M_multiplies_106 ?_
                refine zw_iload_n (pc := 109) (n := 1) (x := Int32.ofInt u1_) rfl d_M_multiplies_109 ?_
                refine zr_laldn (pc := 110) (zh_96 (hf_N2_.w hW)).2 (by decide) (by omega) (by omega) d_M_multiplies_110 (fun v13_ hv13_ hv13_a hv13_b => ?_)
                refine zw_aload_n (pc := 111) (n := 0) (x := 81) rfl d_M_multiplies_111 ?_
                refine zr_getF (r := 97) (hf_N2_.w hW) (pc := 112) f_M_63 rfl (zh_97 (hf_N2_.w hW)).1 d_M_multiplies_112 ?_
                refine zw_iload_n (pc := 115) (n := 1) (x := Int32.ofInt u1_) rfl d_M_multiplies_115 ?_
                refine zr_laldn (pc := 116) (zh_97 (hf_N2_.w hW)).2 (by decide) (by omega) (by omega) d_M_multiplies_116 (fun v14_ hv14_ hv14_a hv14_b => ?_)
                rw [hf_N2_.jg (by decide) (by decide)] at hv14_
                refine zr_lmul (pc := 117) d_M_multiplies_117 ?_
                refine zr_last (pc := 118) (zh_96 (hf_N2_.w hW)).2 (by decide) (by decide) (by omega) (by omega) d_M_multiplies_118 (fun N15_ hN15_ hsN15_ => ?_)
                have hf_N15_ : zFr [39] [96] Mz N15_ := hf_N2_.tr hsN15_ (by decide) (by decide)
                have hb0_N15_ : zFr [39] [96] Mz N15_ := hs3_.tr hsN15_ (by decide) (by decide)
                have e26_N15_ : ze N15_ 81 26 = ze N2_ 81 26 := hsN15_.e (by decide)
                have e39_N15_ : ze N15_ 81 39 = ze N2_ 81 39 := hsN15_.e (by decide)
                have c16_ : zGD N15_ := zGD.fr hsN15_ c5_ (by decide) (by decide)
                refine zr_iinc (pc := 119) (i := 1) (a := u1_) (n := 1) (L2 := [some (.ref 81), some (.int (Int32.ofInt (u1_ + 1))), some (.long (Int64.ofInt v8_)), none, some (.long (Int64.ofInt v11_)), none]) rfl (by decide) rfl d_M_multiplies_119 ?_
                refine zw_goto (pc := 122) (tgt := 2) (by decide) d_M_multiplies_122 ?_
                refine zW_le [some (.ref 81), some (.int (Int32.ofInt (u1_ + 1))), none, none, none, none] (⟨rfl, rfl, trivial⟩) ?_
                exact ih_2 (u1_ + 1) (by omega) (by omega) N15_ hb0_N15_ (show 0 ≤ (u1_ + 1) by omega) (by omega)
              · skip
                refine zw_lconst (pc := 101) (v := Int64.ofInt 0) (by decide) d_M_multiplies_101 ?_
                refine zw_goto (pc := 102) (tgt := 118) (by decide) d_M_multiplies_102 ?_
                refine zr_last (pc := 118) (zh_96 (hf_N2_.w hW)).2 (by decide) (by decide) (by omega) (by omega) d_M_multiplies_118 (fun N17_ hN17_ hsN17_ => ?_)
                have hf_N17_ : zFr [39] [96] Mz N17_ := hf_N2_.tr hsN17_ (by decide) (by decide)
                have hb0_N17_ : zFr [39] [96] Mz N17_ := hs3_.tr hsN17_ (by decide) (by decide)
                have e26_N17_ : ze N17_ 81 26 = ze N2_ 81 26 := hsN17_.e (by decide)
                have e39_N17_ : ze N17_ 81 39 = ze N2_ 81 39 := hsN17_.e (by decide)
                have c18_ : zGD N17_ := zGD.fr hsN17_ c5_ (by decide) (by decide)
                refine zr_iinc (pc := 119) (i := 1) (a := u1_) (n := 1) (L2 := [some (.ref 81), some (.int (Int32.ofInt (u1_ + 1))), some (.long (Int64.ofInt v8_)), none, some (.long (Int64.ofInt v11_)), none]) rfl (by decide) rfl d_M_multiplies_119 ?_
                refine zw_goto (pc := 122) (tgt := 2) (by decide) d_M_multiplies_122 ?_
                refine zW_le [some (.ref 81), some (.int (Int32.ofInt (u1_ + 1))), none, none, none, none] (⟨rfl, rfl, trivial⟩) ?_
                exact ih_2 (u1_ + 1) (by omega) (by omega) N17_ hb0_N17_ (show 0 ≤ (u1_ + 1) by omega) (by omega)
            · skip
              refine zw_lload (pc := 73) (i := 4) (x := Int64.ofInt v11_) rfl d_M_multiplies_73 ?_
              refine zr_ldc2 (pc := 75) (n := 1000000000000) (by decide) k_M_262 d_M_multiplies_75 ?_
              refine zw_lload_n (pc := 78) (n := 2) (x := Int64.ofInt v8_) rfl d_M_multiplies_78 ?_
              refine zr_ldiv (pc := 79) ⟨by omega, by omega⟩ (by omega) d_M_multiplies_79 ?_
              have hr19_ := zlquo_r 1000000000000 v8_
              refine zr_lcmp (pc := 80) ⟨by omega, by omega⟩ ⟨by omega, by omega⟩ d_M_multiplies_80 ?_
              have hr20_ := zcmp_s v11_ (zlquo 1000000000000 v8_)
              refine zr_if_le (pc := 81) (tgt := 89) ⟨by omega, by omega⟩ (by decide) d_M_multiplies_81 (fun hc_81 => ?_) (fun hc_81 => ?_)
              · skip
                refine zw_aload_n (pc := 89) (n := 0) (x := 81) rfl d_M_multiplies_89 ?_
                refine zr_getF (r := 96) (hf_N2_.w hW) (pc := 90) f_M_60 rfl (zh_96 (hf_N2_.w hW)).1 d_M_multiplies_90 ?_
                refine zw_iload_n (pc := 93) (n := 1) (x := Int32.ofInt u1_) rfl d_M_multiplies_93 ?_
                refine zw_aload_n (pc := 94) (n := 0) (x := 81) rfl d_M_multiplies_94 ?_
                refine zr_getI (hf_N2_.w hW) (pc := 95) f_M_275 rfl d_M_multiplies_95 ?_
                refine zr_if_eq (pc := 98) (tgt := 105) ⟨by omega, by omega⟩ (by decide) d_M_multiplies_98 (fun hc_98 => ?_) (fun hc_98 => ?_)
                · skip
                  refine zw_aload_n (pc := 105) (n := 0) (x := 81) rfl d_M_multiplies_105 ?_
                  refine zr_getF (r := 96) (hf_N2_.w hW) (pc := 106) f_M_60 rfl (zh_96 (hf_N2_.w hW)).1 d_M_multiplies_106 ?_
                  refine zw_iload_n (pc := 109) (n := 1) (x := Int32.ofInt u1_) rfl d_M_multiplies_109 ?_
                  refine zr_laldn (pc := 110) (zh_96 (hf_N2_.w hW)).2 (by decide) (by omega) (by omega) d_M_multiplies_110 (fun v21_ hv21_ hv21_a hv21_b => ?_)
                  refine zw_aload_n (pc := 111) (n := 0) (x := 81) rfl d_M_multiplies_111 ?_
                  refine zr_getF (r := 97) (hf_N2_.w hW) (pc := 112) f_M_63 rfl (zh_97 (hf_N2_.w hW)).1 d_M_multiplies_112 ?_
                  refine zw_iload_n (pc := 115) (n := 1) (x := Int32.ofInt u1_) rfl d_M_multiplies_115 ?_
                  refine zr_laldn (pc := 116) (zh_97 (hf_N2_.w hW)).2 (by decide) (by omega) (by omega) d_M_multiplies_116 (fun v22_ hv22_ hv22_a hv22_b => ?_)
                  rw [hf_N2_.jg (by decide) (by decide)] at hv22_
                  refine zr_lmul (pc := 117) d_M_multiplies_117 ?_
                  refine zr_last (pc := 118) (zh_96 (hf_N2_.w hW)).2 (by decide) (by decide) (by omega) (by omega) d_M_multiplies_118 (fun N23_ hN23_ hsN23_ => ?_)
                  have hf_N23_ : zFr [39] [96] Mz N23_ := hf_N2_.tr hsN23_ (by decide) (by decide)
                  have hb0_N23_ : zFr [39] [96] Mz N23_ := hs3_.tr hsN23_ (by decide) (by decide)
                  have e26_N23_ : ze N23_ 81 26 = ze N2_ 81 26 := hsN23_.e (by decide)
                  have e39_N23_ : ze N23_ 81 39 = ze N2_ 81 39 := hsN23_.e (by decide)
                  have c24_ : zGD N23_ := zGD.fr hsN23_ c5_ (by decide) (by decide)
                  refine zr_iinc (pc := 119) (i := 1) (a := u1_) (n := 1) (L2 := [some (.ref 81), some (.int (Int32.ofInt (u1_ + 1))), some (.long (Int64.ofInt v8_)), none, some (.long (Int64.ofInt v11_)), none]) rfl (by decide) rfl d_M_multiplies_119 ?_
                  refine zw_goto (pc := 122) (tgt := 2) (by decide) d_M_multiplies_122 ?_
                  refine zW_le [some (.ref 81), some (.int (Int32.ofInt (u1_ + 1))), none, none, none, none] (⟨rfl, rfl, trivial⟩) ?_
                  exact ih_2 (u1_ + 1) (by omega) (by omega) N23_ hb0_N23_ (show 0 ≤ (u1_ + 1) by omega) (by omega)
                · skip
                  refine zw_lconst (pc := 101) (v := Int64.ofInt 0) (by decide) d_M_multiplies_101 ?_
                  refine zw_goto (pc := 102) (tgt := 118) (by decide) d_M_multiplies_102 ?_
                  refine zr_last (pc := 118) (zh_96 (hf_N2_.w hW)).2 (by decide) (by decide) (by omega) (by omega) d_M_multiplies_118 (fun N25_ hN25_ hsN25_ => ?_)
                  have hf_N25_ : zFr [39] [96] Mz N25_ := hf_N2_.tr hsN25_ (by decide) (by decide)
                  have hb0_N25_ : zFr [39] [96] Mz N25_ := hs3_.tr hsN25_ (by decide) (by decide)
                  have e26_N25_ : ze N25_ 81 26 = ze N2_ 81 26 := hsN25_.e (by decide)
                  have e39_N25_ : ze N25_ 81 39 = ze N2_ 81 39 := hsN25_.e (by decide)
                  have c26_ : zGD N25_ := zGD.fr hsN25_ c5_ (by decide) (by decide)
                  refine zr_iinc (pc := 119) (i := 1) (a := u1_) (n := 1) (L2 := [some (.ref 81), some (.int (Int32.ofInt (u1_ + 1))), some (.long (Int64.ofInt v8_)), none, some (.long (Int64.ofInt v11_)), none]) rfl (by decide) rfl d_M_multiplies_119 ?_
                  refine zw_goto (pc := 122) (tgt := 2) (by decide) d_M_multiplies_122 ?_
                  refine zW_le [some (.ref 81), some (.int (Int32.ofInt (u1_ + 1))), none, none, none, none] (⟨rfl, rfl, trivial⟩) ?_
                  exact ih_2 (u1_ + 1) (by omega) (by omega) N25_ hb0_N25_ (show 0 ≤ (u1_ + 1) by omega) (by omega)
              · skip
                refine zw_aload_n (pc := 84) (n := 0) (x := 81) rfl d_M_multiplies_84 ?_
                refine zw_iconst (pc := 85) (v := Int32.ofInt 1) (by decide) d_M_multiplies_85 ?_
                refine zr_putI (hf_N2_.w hW) (pc := 86) f_M_275 rfl rfl ⟨by omega, by omega⟩ (z_narB (by omega)) (z_fitB (by omega)) d_M_multiplies_86 (fun N27_ hsN27_ hvN27_ => ?_)
                have hf_N27_ : zFr [39] [96] Mz N27_ := hf_N2_.tr hsN27_ (by decide) (by decide)
                have hb0_N27_ : zFr [39] [96] Mz N27_ := hs3_.tr hsN27_ (by decide) (by decide)
                have e26_N27_ : ze N27_ 81 26 = ze N2_ 81 26 := hsN27_.e (by decide)
                have r39_N27_ := ze_r N27_ 81 39
                have c28_ : zGD N27_ := zGD.fr hsN27_ c5_ (by decide) (by decide)
                refine zw_aload_n (pc := 89) (n := 0) (x := 81) rfl d_M_multiplies_89 ?_
                refine zr_getF (r := 96) (hf_N27_.w hW) (pc := 90) f_M_60 rfl (zh_96 (hf_N27_.w hW)).1 d_M_multiplies_90 ?_
                refine zw_iload_n (pc := 93) (n := 1) (x := Int32.ofInt u1_) rfl d_M_multiplies_93 ?_
                refine zw_aload_n (pc := 94) (n := 0) (x := 81) rfl d_M_multiplies_94 ?_
                refine zr_getI (hf_N27_.w hW) (pc := 95) f_M_275 rfl d_M_multiplies_95 ?_
                refine zr_if_eq (pc := 98) (tgt := 105) ⟨by omega, by omega⟩ (by decide) d_M_multiplies_98 (fun hc_98 => ?_) (fun hc_98 => ?_)
                · skip
                  refine zw_aload_n (pc := 105) (n := 0) (x := 81) rfl d_M_multiplies_105 ?_
                  refine zr_getF (r := 96) (hf_N27_.w hW) (pc := 106) f_M_60 rfl (zh_96 (hf_N27_.w hW)).1 d_M_multiplies_106 ?_
                  refine zw_iload_n (pc := 109) (n := 1) (x := Int32.ofInt u1_) rfl d_M_multiplies_109 ?_
                  refine zr_laldn (pc := 110) (zh_96 (hf_N27_.w hW)).2 (by decide) (by omega) (by omega) d_M_multiplies_110 (fun v29_ hv29_ hv29_a hv29_b => ?_)
                  refine zw_aload_n (pc := 111) (n := 0) (x := 81) rfl d_M_multiplies_111 ?_
                  refine zr_getF (r := 97) (hf_N27_.w hW) (pc := 112) f_M_63 rfl (zh_97 (hf_N27_.w hW)).1 d_M_multiplies_112 ?_
                  refine zw_iload_n (pc := 115) (n := 1) (x := Int32.ofInt u1_) rfl d_M_multiplies_115 ?_
                  refine zr_laldn (pc := 116) (zh_97 (hf_N27_.w hW)).2 (by decide) (by omega) (by omega) d_M_multiplies_116 (fun v30_ hv30_ hv30_a hv30_b => ?_)
                  rw [hf_N27_.jg (by decide) (by decide)] at hv30_
                  refine zr_lmul (pc := 117) d_M_multiplies_117 ?_
                  refine zr_last (pc := 118) (zh_96 (hf_N27_.w hW)).2 (by decide) (by decide) (by omega) (by omega) d_M_multiplies_118 (fun N31_ hN31_ hsN31_ => ?_)
                  have hf_N31_ : zFr [39] [96] Mz N31_ := hf_N27_.tr hsN31_ (by decide) (by decide)
                  have hb0_N31_ : zFr [39] [96] Mz N31_ := hb0_N27_.tr hsN31_ (by decide) (by decide)
                  have e26_N31_ : ze N31_ 81 26 = ze N27_ 81 26 := hsN31_.e (by decide)
                  have e39_N31_ : ze N31_ 81 39 = ze N27_ 81 39 := hsN31_.e (by decide)
                  have c32_ : zGD N31_ := zGD.fr hsN31_ c28_ (by decide) (by decide)
                  refine zr_iinc (pc := 119) (i := 1) (a := u1_) (n := 1) (L2 := [some (.ref 81), some (.int (Int32.ofInt (u1_ + 1))), some (.long (Int64.ofInt v8_)), none, some (.long (Int64.ofInt v11_)), none]) rfl (by decide) rfl d_M_multiplies_119 ?_
                  refine zw_goto (pc := 122) (tgt := 2) (by decide) d_M_multiplies_122 ?_
                  refine zW_le [some (.ref 81), some (.int (Int32.ofInt (u1_ + 1))), none, none, none, none] (⟨rfl, rfl, trivial⟩) ?_
                  exact ih_2 (u1_ + 1) (by omega) (by omega) N31_ hb0_N31_ (show 0 ≤ (u1_ + 1) by omega) (by omega)
                · skip
                  refine zw_lconst (pc := 101) (v := Int64.ofInt 0) (by decide) d_M_multiplies_101 ?_
                  refine zw_goto (pc := 102) (tgt := 118) (by decide) d_M_multiplies_102 ?_
                  refine zr_last (pc := 118) (zh_96 (hf_N27_.w hW)).2 (by decide) (by decide) (by omega) (by omega) d_M_multiplies_118 (fun N33_ hN33_ hsN33_ => ?_)
                  have hf_N33_ : zFr [39] [96] Mz N33_ := hf_N27_.tr hsN33_ (by decide) (by decide)
                  have hb0_N33_ : zFr [39] [96] Mz N33_ := hb0_N27_.tr hsN33_ (by decide) (by decide)
                  have e26_N33_ : ze N33_ 81 26 = ze N27_ 81 26 := hsN33_.e (by decide)
                  have e39_N33_ : ze N33_ 81 39 = ze N27_ 81 39 := hsN33_.e (by decide)
                  have c34_ : zGD N33_ := zGD.fr hsN33_ c28_ (by decide) (by decide)
                  refine zr_iinc (pc := 119) (i := 1) (a := u1_) (n := 1) (L2 := [some (.ref 81), some (.int (Int32.ofInt (u1_ + 1))), some (.long (Int64.ofInt v8_)), none, some (.long (Int64.ofInt v11_)), none]) rfl (by decide) rfl d_M_multiplies_119 ?_
                  refine zw_goto (pc := 122) (tgt := 2) (by decide) d_M_multiplies_122 ?_
                  refine zW_le [some (.ref 81), some (.int (Int32.ofInt (u1_ + 1))), none, none, none, none] (⟨rfl, rfl, trivial⟩) ?_
                  exact ih_2 (u1_ + 1) (by omega) (by omega) N33_ hb0_N33_ (show 0 ≤ (u1_ + 1) by omega) (by omega)
          · skip
            refine zw_aload_n (pc := 49) (n := 0) (x := 81) rfl d_M_multiplies_49 ?_
            refine zr_getF (r := 97) (hf_N2_.w hW) (pc := 50) f_M_63 rfl (zh_97 (hf_N2_.w hW)).1 d_M_multiplies_50 ?_
            refine zw_iload_n (pc := 53) (n := 1) (x := Int32.ofInt u1_) rfl d_M_multiplies_53 ?_
            refine zr_laldn (pc := 54) (zh_97 (hf_N2_.w hW)).2 (by decide) (by omega) (by omega) d_M_multiplies_54 (fun v35_ hv35_ hv35_a hv35_b => ?_)
            rw [hf_N2_.jg (by decide) (by decide)] at hv35_
            refine zr_lneg (pc := 55) d_M_multiplies_55 ?_
            refine zr_nmJ (fun v36_ hv36_ => ?_)
            obtain ⟨hv36_a, hv36_b⟩ := hv36_
            refine zw_goto (pc := 56) (tgt := 65) (by decide) d_M_multiplies_56 ?_
            refine zw_lstore (pc := 65) (i := 4) (L2 := [some (.ref 81), some (.int (Int32.ofInt u1_)), some (.long (Int64.ofInt v8_)), none, some (.long (Int64.ofInt v36_)), none]) (by decide) rfl d_M_multiplies_65 ?_
            refine zw_lload_n (pc := 67) (n := 2) (x := Int64.ofInt v8_) rfl d_M_multiplies_67 ?_
            refine zw_lconst (pc := 68) (v := Int64.ofInt 0) (by decide) d_M_multiplies_68 ?_
            refine zr_lcmp (pc := 69) ⟨by omega, by omega⟩ ⟨by omega, by omega⟩ d_M_multiplies_69 ?_
            have hr37_ := zcmp_s v8_ 0
            refine zr_if_le (pc := 70) (tgt := 89) ⟨by omega, by omega⟩ (by decide) d_M_multiplies_70 (fun hc_70 => ?_) (fun hc_70 => ?_)
            · skip
              refine zw_aload_n (pc := 89) (n := 0) (x := 81) rfl d_M_multiplies_89 ?_
              refine zr_getF (r := 96) (hf_N2_.w hW) (pc := 90) f_M_60 rfl (zh_96 (hf_N2_.w hW)).1 d_M_multiplies_90 ?_
              refine zw_iload_n (pc := 93) (n := 1) (x := Int32.ofInt u1_) rfl d_M_multiplies_93 ?_
              refine zw_aload_n (pc := 94) (n := 0) (x := 81) rfl d_M_multiplies_94 ?_
              refine zr_getI (hf_N2_.w hW) (pc := 95) f_M_275 rfl d_M_multiplies_95 ?_
              refine zr_if_eq (pc := 98) (tgt := 105) ⟨by omega, by omega⟩ (by decide) d_M_multiplies_98 (fun hc_98 => ?_) (fun hc_98 => ?_)
              · skip
                refine zw_aload_n (pc := 105) (n := 0) (x := 81) rfl d_M_multiplies_105 ?_
                refine zr_getF (r := 96) (hf_N2_.w hW) (pc := 106) f_M_60 rfl (zh_96 (hf_N2_.w hW)).1 d_M_multiplies_106 ?_
                refine zw_iload_n (pc := 109) (n := 1) (x := Int32.ofInt u1_) rfl d_M_multiplies_109 ?_
                refine zr_laldn (pc := 110) (zh_96 (hf_N2_.w hW)).2 (by decide) (by omega) (by omega) d_M_multiplies_110 (fun v38_ hv38_ hv38_a hv38_b => ?_)
                refine zw_aload_n (pc := 111) (n := 0) (x := 81) rfl d_M_multiplies_111 ?_
                refine zr_getF (r := 97) (hf_N2_.w hW) (pc := 112) f_M_63 rfl (zh_97 (hf_N2_.w hW)).1 d_M_multiplies_112 ?_
                refine zw_iload_n (pc := 115) (n := 1) (x := Int32.ofInt u1_) rfl d_M_multiplies_115 ?_
                refine zr_laldn (pc := 116) (zh_97 (hf_N2_.w hW)).2 (by decide) (by omega) (by omega) d_M_multiplies_116 (fun v39_ hv39_ hv39_a hv39_b => ?_)
                rw [hf_N2_.jg (by decide) (by decide)] at hv39_
                refine zr_lmul (pc := 117) d_M_multiplies_117 ?_
                refine zr_last (pc := 118) (zh_96 (hf_N2_.w hW)).2 (by decide) (by decide) (by omega) (by omega) d_M_multiplies_118 (fun N40_ hN40_ hsN40_ => ?_)
                have hf_N40_ : zFr [39] [96] Mz N40_ := hf_N2_.tr hsN40_ (by decide) (by decide)
                have hb0_N40_ : zFr [39] [96] Mz N40_ := hs3_.tr hsN40_ (by decide) (by decide)
                have e26_N40_ : ze N40_ 81 26 = ze N2_ 81 26 := hsN40_.e (by decide)
                have e39_N40_ : ze N40_ 81 39 = ze N2_ 81 39 := hsN40_.e (by decide)
                have c41_ : zGD N40_ := zGD.fr hsN40_ c5_ (by decide) (by decide)
                refine zr_iinc (pc := 119) (i := 1) (a := u1_) (n := 1) (L2 := [some (.ref 81), some (.int (Int32.ofInt (u1_ + 1))), some (.long (Int64.ofInt v8_)), none, some (.long (Int64.ofInt v36_)), none]) rfl (by decide) rfl d_M_multiplies_119 ?_
                refine zw_goto (pc := 122) (tgt := 2) (by decide) d_M_multiplies_122 ?_
                refine zW_le [some (.ref 81), some (.int (Int32.ofInt (u1_ + 1))), none, none, none, none] (⟨rfl, rfl, trivial⟩) ?_
                exact ih_2 (u1_ + 1) (by omega) (by omega) N40_ hb0_N40_ (show 0 ≤ (u1_ + 1) by omega) (by omega)
              · skip
                refine zw_lconst (pc := 101) (v := Int64.ofInt 0) (by decide) d_M_multiplies_101 ?_
                refine zw_goto (pc := 102) (tgt := 118) (by decide) d_M_multiplies_102 ?_
                refine zr_last (pc := 118) (zh_96 (hf_N2_.w hW)).2 (by decide) (by decide) (by omega) (by omega) d_M_multiplies_118 (fun N42_ hN42_ hsN42_ => ?_)
                have hf_N42_ : zFr [39] [96] Mz N42_ := hf_N2_.tr hsN42_ (by decide) (by decide)
                have hb0_N42_ : zFr [39] [96] Mz N42_ := hs3_.tr hsN42_ (by decide) (by decide)
                have e26_N42_ : ze N42_ 81 26 = ze N2_ 81 26 := hsN42_.e (by decide)
                have e39_N42_ : ze N42_ 81 39 = ze N2_ 81 39 := hsN42_.e (by decide)
                have c43_ : zGD N42_ := zGD.fr hsN42_ c5_ (by decide) (by decide)
                refine zr_iinc (pc := 119) (i := 1) (a := u1_) (n := 1) (L2 := [some (.ref 81), some (.int (Int32.ofInt (u1_ + 1))), some (.long (Int64.ofInt v8_)), none, some (.long (Int64.ofInt v36_)), none]) rfl (by decide) rfl d_M_multiplies_119 ?_
                refine zw_goto (pc := 122) (tgt := 2) (by decide) d_M_multiplies_122 ?_
                refine zW_le [some (.ref 81), some (.int (Int32.ofInt (u1_ + 1))), none, none, none, none] (⟨rfl, rfl, trivial⟩) ?_
                exact ih_2 (u1_ + 1) (by omega) (by omega) N42_ hb0_N42_ (show 0 ≤ (u1_ + 1) by omega) (by omega)
            · skip
              refine zw_lload (pc := 73) (i := 4) (x := Int64.ofInt v36_) rfl d_M_multiplies_73 ?_
              refine zr_ldc2 (pc := 75) (n := 1000000000000) (by decide) k_M_262 d_M_multiplies_75 ?_
              refine zw_lload_n (pc := 78) (n := 2) (x := Int64.ofInt v8_) rfl d_M_multiplies_78 ?_
              refine zr_ldiv (pc := 79) ⟨by omega, by omega⟩ (by omega) d_M_multiplies_79 ?_
              have hr44_ := zlquo_r 1000000000000 v8_
              refine zr_lcmp (pc := 80) ⟨by omega, by omega⟩ ⟨by omega, by omega⟩ d_M_multiplies_80 ?_
              have hr45_ := zcmp_s v36_ (zlquo 1000000000000 v8_)
              refine zr_if_le (pc := 81) (tgt := 89) ⟨by omega, by omega⟩ (by decide) d_M_multiplies_81 (fun hc_81 => ?_) (fun hc_81 => ?_)
              · skip
                refine zw_aload_n (pc := 89) (n := 0) (x := 81) rfl d_M_multiplies_89 ?_
                refine zr_getF (r := 96) (hf_N2_.w hW) (pc := 90) f_M_60 rfl (zh_96 (hf_N2_.w hW)).1 d_M_multiplies_90 ?_
                refine zw_iload_n (pc := 93) (n := 1) (x := Int32.ofInt u1_) rfl d_M_multiplies_93 ?_
                refine zw_aload_n (pc := 94) (n := 0) (x := 81) rfl d_M_multiplies_94 ?_
                refine zr_getI (hf_N2_.w hW) (pc := 95) f_M_275 rfl d_M_multiplies_95 ?_
                refine zr_if_eq (pc := 98) (tgt := 105) ⟨by omega, by omega⟩ (by decide) d_M_multiplies_98 (fun hc_98 => ?_) (fun hc_98 => ?_)
                · skip
                  refine zw_aload_n (pc := 105) (n := 0) (x := 81) rfl d_M_multiplies_105 ?_
                  refine zr_getF (r := 96) (hf_N2_.w hW) (pc := 106) f_M_60 rfl (zh_96 (hf_N2_.w hW)).1 d_M_multiplies_106 ?_
                  refine zw_iload_n (pc := 109) (n := 1) (x := Int32.ofInt u1_) rfl d_M_multiplies_109 ?_
                  refine zr_laldn (pc := 110) (zh_96 (hf_N2_.w hW)).2 (by decide) (by omega) (by omega) d_M_multiplies_110 (fun v46_ hv46_ hv46_a hv46_b => ?_)
                  refine zw_aload_n (pc := 111) (n := 0) (x := 81) rfl d_M_multiplies_111 ?_
                  refine zr_getF (r := 97) (hf_N2_.w hW) (pc := 112) f_M_63 rfl (zh_97 (hf_N2_.w hW)).1 d_M_multiplies_112 ?_
                  refine zw_iload_n (pc := 115) (n := 1) (x := Int32.ofInt u1_) rfl d_M_multiplies_115 ?_
                  refine zr_laldn (pc := 116) (zh_97 (hf_N2_.w hW)).2 (by decide) (by omega) (by omega) d_M_multiplies_116 (fun v47_ hv47_ hv47_a hv47_b => ?_)
                  rw [hf_N2_.jg (by decide) (by decide)] at hv47_
                  refine zr_lmul (pc := 117) d_M_multiplies_117 ?_
                  refine zr_last (pc := 118) (zh_96 (hf_N2_.w hW)).2 (by decide) (by decide) (by omega) (by omega) d_M_multiplies_118 (fun N48_ hN48_ hsN48_ => ?_)
                  have hf_N48_ : zFr [39] [96] Mz N48_ := hf_N2_.tr hsN48_ (by decide) (by decide)
                  have hb0_N48_ : zFr [39] [96] Mz N48_ := hs3_.tr hsN48_ (by decide) (by decide)
                  have e26_N48_ : ze N48_ 81 26 = ze N2_ 81 26 := hsN48_.e (by decide)
                  have e39_N48_ : ze N48_ 81 39 = ze N2_ 81 39 := hsN48_.e (by decide)
                  have c49_ : zGD N48_ := zGD.fr hsN48_ c5_ (by decide) (by decide)
                  refine zr_iinc (pc := 119) (i := 1) (a := u1_) (n := 1) (L2 := [some (.ref 81), some (.int (Int32.ofInt (u1_ + 1))), some (.long (Int64.ofInt v8_)), none, some (.long (Int64.ofInt v36_)), none]) rfl (by decide) rfl d_M_multiplies_119 ?_
                  refine zw_goto (pc := 122) (tgt := 2) (by decide) d_M_multiplies_122 ?_
                  refine zW_le [some (.ref 81), some (.int (Int32.ofInt (u1_ + 1))), none, none, none, none] (⟨rfl, rfl, trivial⟩) ?_
                  exact ih_2 (u1_ + 1) (by omega) (by omega) N48_ hb0_N48_ (show 0 ≤ (u1_ + 1) by omega) (by omega)
                · skip
                  refine zw_lconst (pc := 101) (v := Int64.ofInt 0) (by decide) d_M_multiplies_101 ?_
                  refine zw_goto (pc := 102) (tgt := 118) (by decide) d_M_multiplies_102 ?_
                  refine zr_last (pc := 118) (zh_96 (hf_N2_.w hW)).2 (by decide) (by decide) (by omega) (by omega) d_M_multiplies_118 (fun N50_ hN50_ hsN50_ => ?_)
                  have hf_N50_ : zFr [39] [96] Mz N50_ := hf_N2_.tr hsN50_ (by decide) (by decide)
                  have hb0_N50_ : zFr [39] [96] Mz N50_ := hs3_.tr hsN50_ (by decide) (by decide)
                  have e26_N50_ : ze N50_ 81 26 = ze N2_ 81 26 := hsN50_.e (by decide)
                  have e39_N50_ : ze N50_ 81 39 = ze N2_ 81 39 := hsN50_.e (by decide)
                  have c51_ : zGD N50_ := zGD.fr hsN50_ c5_ (by decide) (by decide)
                  refine zr_iinc (pc := 119) (i := 1) (a := u1_) (n := 1) (L2 := [some (.ref 81), some (.int (Int32.ofInt (u1_ + 1))), some (.long (Int64.ofInt v8_)), none, some (.long (Int64.ofInt v36_)), none]) rfl (by decide) rfl d_M_multiplies_119 ?_
                  refine zw_goto (pc := 122) (tgt := 2) (by decide) d_M_multiplies_122 ?_
                  refine zW_le [some (.ref 81), some (.int (Int32.ofInt (u1_ + 1))), none, none, none, none] (⟨rfl, rfl, trivial⟩) ?_
                  exact ih_2 (u1_ + 1) (by omega) (by omega) N50_ hb0_N50_ (show 0 ≤ (u1_ + 1) by omega) (by omega)
              · skip
                refine zw_aload_n (pc := 84) (n := 0) (x := 81) rfl d_M_multiplies_84 ?_
                refine zw_iconst (pc := 85) (v := Int32.ofInt 1) (by decide) d_M_multiplies_85 ?_
                refine zr_putI (hf_N2_.w hW) (pc := 86) f_M_275 rfl rfl ⟨by omega, by omega⟩ (z_narB (by omega)) (z_fitB (by omega)) d_M_multiplies_86 (fun N52_ hsN52_ hvN52_ => ?_)
                have hf_N52_ : zFr [39] [96] Mz N52_ := hf_N2_.tr hsN52_ (by decide) (by decide)
                have hb0_N52_ : zFr [39] [96] Mz N52_ := hs3_.tr hsN52_ (by decide) (by decide)
                have e26_N52_ : ze N52_ 81 26 = ze N2_ 81 26 := hsN52_.e (by decide)
                have r39_N52_ := ze_r N52_ 81 39
                have c53_ : zGD N52_ := zGD.fr hsN52_ c5_ (by decide) (by decide)
                refine zw_aload_n (pc := 89) (n := 0) (x := 81) rfl d_M_multiplies_89 ?_
                refine zr_getF (r := 96) (hf_N52_.w hW) (pc := 90) f_M_60 rfl (zh_96 (hf_N52_.w hW)).1 d_M_multiplies_90 ?_
                refine zw_iload_n (pc := 93) (n := 1) (x := Int32.ofInt u1_) rfl d_M_multiplies_93 ?_
                refine zw_aload_n (pc := 94) (n := 0) (x := 81) rfl d_M_multiplies_94 ?_
                refine zr_getI (hf_N52_.w hW) (pc := 95) f_M_275 rfl d_M_multiplies_95 ?_
                refine zr_if_eq (pc := 98) (tgt := 105) ⟨by omega, by omega⟩ (by decide) d_M_multiplies_98 (fun hc_98 => ?_) (fun hc_98 => ?_)
                · skip
                  refine zw_aload_n (pc := 105) (n := 0) (x := 81) rfl d_M_multiplies_105 ?_
                  refine zr_getF (r := 96) (hf_N52_.w hW) (pc := 106) f_M_60 rfl (zh_96 (hf_N52_.w hW)).1 d_M_multiplies_106 ?_
                  refine zw_iload_n (pc := 109) (n := 1) (x := Int32.ofInt u1_) rfl d_M_multiplies_109 ?_
                  refine zr_laldn (pc := 110) (zh_96 (hf_N52_.w hW)).2 (by decide) (by omega) (by omega) d_M_multiplies_110 (fun v54_ hv54_ hv54_a hv54_b => ?_)
                  refine zw_aload_n (pc := 111) (n := 0) (x := 81) rfl d_M_multiplies_111 ?_
                  refine zr_getF (r := 97) (hf_N52_.w hW) (pc := 112) f_M_63 rfl (zh_97 (hf_N52_.w hW)).1 d_M_multiplies_112 ?_
                  refine zw_iload_n (pc := 115) (n := 1) (x := Int32.ofInt u1_) rfl d_M_multiplies_115 ?_
                  refine zr_laldn (pc := 116) (zh_97 (hf_N52_.w hW)).2 (by decide) (by omega) (by omega) d_M_multiplies_116 (fun v55_ hv55_ hv55_a hv55_b => ?_)
                  rw [hf_N52_.jg (by decide) (by decide)] at hv55_
                  refine zr_lmul (pc := 117) d_M_multiplies_117 ?_
                  refine zr_last (pc := 118) (zh_96 (hf_N52_.w hW)).2 (by decide) (by decide) (by omega) (by omega) d_M_multiplies_118 (fun N56_ hN56_ hsN56_ => ?_)
                  have hf_N56_ : zFr [39] [96] Mz N56_ := hf_N52_.tr hsN56_ (by decide) (by decide)
                  have hb0_N56_ : zFr [39] [96] Mz N56_ := hb0_N52_.tr hsN56_ (by decide) (by decide)
                  have e26_N56_ : ze N56_ 81 26 = ze N52_ 81 26 := hsN56_.e (by decide)
                  have e39_N56_ : ze N56_ 81 39 = ze N52_ 81 39 := hsN56_.e (by decide)
                  have c57_ : zGD N56_ := zGD.fr hsN56_ c53_ (by decide) (by decide)
                  refine zr_iinc (pc := 119) (i := 1) (a := u1_) (n := 1) (L2 := [some (.ref 81), some (.int (Int32.ofInt (u1_ + 1))), some (.long (Int64.ofInt v8_)), none, some (.long (Int64.ofInt v36_)), none]) rfl (by decide) rfl d_M_multiplies_119 ?_
                  refine zw_goto (pc := 122) (tgt := 2) (by decide) d_M_multiplies_122 ?_
                  refine zW_le [some (.ref 81), some (.int (Int32.ofInt (u1_ + 1))), none, none, none, none] (⟨rfl, rfl, trivial⟩) ?_
                  exact ih_2 (u1_ + 1) (by omega) (by omega) N56_ hb0_N56_ (show 0 ≤ (u1_ + 1) by omega) (by omega)
                · skip
                  refine zw_lconst (pc := 101) (v := Int64.ofInt 0) (by decide) d_M_multiplies_101 ?_
                  refine zw_goto (pc := 102) (tgt := 118) (by decide) d_M_multiplies_102 ?_
                  refine zr_last (pc := 118) (zh_96 (hf_N52_.w hW)).2 (by decide) (by decide) (by omega) (by omega) d_M_multiplies_118 (fun N58_ hN58_ hsN58_ => ?_)
                  have hf_N58_ : zFr [39] [96] Mz N58_ := hf_N52_.tr hsN58_ (by decide) (by decide)
                  have hb0_N58_ : zFr [39] [96] Mz N58_ := hb0_N52_.tr hsN58_ (by decide) (by decide)
                  have e26_N58_ : ze N58_ 81 26 = ze N52_ 81 26 := hsN58_.e (by decide)
                  have e39_N58_ : ze N58_ 81 39 = ze N52_ 81 39 := hsN58_.e (by decide)
                  have c59_ : zGD N58_ := zGD.fr hsN58_ c53_ (by decide) (by decide)
                  refine zr_iinc (pc := 119) (i := 1) (a := u1_) (n := 1) (L2 := [some (.ref 81), some (.int (Int32.ofInt (u1_ + 1))), some (.long (Int64.ofInt v8_)), none, some (.long (Int64.ofInt v36_)), none]) rfl (by decide) rfl d_M_multiplies_119 ?_
                  refine zw_goto (pc := 122) (tgt := 2) (by decide) d_M_multiplies_122 ?_
                  refine zW_le [some (.ref 81), some (.int (Int32.ofInt (u1_ + 1))), none, none, none, none] (⟨rfl, rfl, trivial⟩) ?_
                  exact ih_2 (u1_ + 1) (by omega) (by omega) N58_ hb0_N58_ (show 0 ≤ (u1_ + 1) by omega) (by omega)
        · skip
          refine zw_aload_n (pc := 21) (n := 0) (x := 81) rfl d_M_multiplies_21 ?_
          refine zr_getF (r := 96) (hf_N2_.w hW) (pc := 22) f_M_60 rfl (zh_96 (hf_N2_.w hW)).1 d_M_multiplies_22 ?_
          refine zw_iload_n (pc := 25) (n := 1) (x := Int32.ofInt u1_) rfl d_M_multiplies_25 ?_
          refine zr_laldn (pc := 26) (zh_96 (hf_N2_.w hW)).2 (by decide) (by omega) (by omega) d_M_multiplies_26 (fun v60_ hv60_ hv60_a hv60_b => ?_)
          refine zr_lneg (pc := 27) d_M_multiplies_27 ?_
          refine zr_nmJ (fun v61_ hv61_ => ?_)
          obtain ⟨hv61_a, hv61_b⟩ := hv61_
          refine zw_goto (pc := 28) (tgt := 37) (by decide) d_M_multiplies_28 ?_
          refine zw_lstore_n (pc := 37) (i := 2) (L2 := [some (.ref 81), some (.int (Int32.ofInt u1_)), some (.long (Int64.ofInt v61_)), none, none, none]) rfl (by decide) rfl d_M_multiplies_37 ?_
          refine zw_aload_n (pc := 38) (n := 0) (x := 81) rfl d_M_multiplies_38 ?_
          refine zr_getF (r := 97) (hf_N2_.w hW) (pc := 39) f_M_63 rfl (zh_97 (hf_N2_.w hW)).1 d_M_multiplies_39 ?_
          refine zw_iload_n (pc := 42) (n := 1) (x := Int32.ofInt u1_) rfl d_M_multiplies_42 ?_
          refine zr_laldn (pc := 43) (zh_97 (hf_N2_.w hW)).2 (by decide) (by omega) (by omega) d_M_multiplies_43 (fun v62_ hv62_ hv62_a hv62_b => ?_)
          rw [hf_N2_.jg (by decide) (by decide)] at hv62_
          refine zw_lconst (pc := 44) (v := Int64.ofInt 0) (by decide) d_M_multiplies_44 ?_
          refine zr_lcmp (pc := 45) ⟨by omega, by omega⟩ ⟨by omega, by omega⟩ d_M_multiplies_45 ?_
          have hr63_ := zcmp_s v62_ 0
          refine zr_if_ge (pc := 46) (tgt := 59) ⟨by omega, by omega⟩ (by decide) d_M_multiplies_46 (fun hc_46 => ?_) (fun hc_46 => ?_)
          · skip
            refine zw_aload_n (pc := 59) (n := 0) (x := 81) rfl d_M_multiplies_59 ?_
            refine zr_getF (r := 97) (hf_N2_.w hW) (pc := 60) f_M_63 rfl (zh_97 (hf_N2_.w hW)).1 d_M_multiplies_60 ?_
            refine zw_iload_n (pc := 63) (n := 1) (x := Int32.ofInt u1_) rfl d_M_multiplies_63 ?_
            refine zr_laldn (pc := 64) (zh_97 (hf_N2_.w hW)).2 (by decide) (by omega) (by omega) d_M_multiplies_64 (fun v64_ hv64_ hv64_a hv64_b => ?_)
            rw [hf_N2_.jg (by decide) (by decide)] at hv64_
            refine zw_lstore (pc := 65) (i := 4) (L2 := [some (.ref 81), some (.int (Int32.ofInt u1_)), some (.long (Int64.ofInt v61_)), none, some (.long (Int64.ofInt v64_)), none]) (by decide) rfl d_M_multiplies_65 ?_
            refine zw_lload_n (pc := 67) (n := 2) (x := Int64.ofInt v61_) rfl d_M_multiplies_67 ?_
            refine zw_lconst (pc := 68) (v := Int64.ofInt 0) (by decide) d_M_multiplies_68 ?_
            refine zr_lcmp (pc := 69) ⟨by omega, by omega⟩ ⟨by omega, by omega⟩ d_M_multiplies_69 ?_
            have hr65_ := zcmp_s v61_ 0
            refine zr_if_le (pc := 70) (tgt := 89) ⟨by omega, by omega⟩ (by decide) d_M_multiplies_70 (fun hc_70 => ?_) (fun hc_70 => ?_)
            · skip
              refine zw_aload_n (pc := 89) (n := 0) (x := 81) rfl d_M_multiplies_89 ?_
              refine zr_getF (r := 96) (hf_N2_.w hW) (pc := 90) f_M_60 rfl (zh_96 (hf_N2_.w hW)).1 d_M_multiplies_90 ?_
              refine zw_iload_n (pc := 93) (n := 1) (x := Int32.ofInt u1_) rfl d_M_multiplies_93 ?_
              refine zw_aload_n (pc := 94) (n := 0) (x := 81) rfl d_M_multiplies_94 ?_
              refine zr_getI (hf_N2_.w hW) (pc := 95) f_M_275 rfl d_M_multiplies_95 ?_
              refine zr_if_eq (pc := 98) (tgt := 105) ⟨by omega, by omega⟩ (by decide) d_M_multiplies_98 (fun hc_98 => ?_) (fun hc_98 => ?_)
              · skip
                refine zw_aload_n (pc := 105) (n := 0) (x := 81) rfl d_M_multiplies_105 ?_
                refine zr_getF (r := 96) (hf_N2_.w hW) (pc := 106) f_M_60 rfl (zh_96 (hf_N2_.w hW)).1 d_M_multiplies_106 ?_
                refine zw_iload_n (pc := 109) (n := 1) (x := Int32.ofInt u1_) rfl d_M_multiplies_109 ?_
                refine zr_laldn (pc := 110) (zh_96 (hf_N2_.w hW)).2 (by decide) (by omega) (by omega) d_M_multiplies_110 (fun v66_ hv66_ hv66_a hv66_b => ?_)
                refine zw_aload_n (pc := 111) (n := 0) (x := 81) rfl d_M_multiplies_111 ?_
                refine zr_getF (r := 97) (hf_N2_.w hW) (pc := 112) f_M_63 rfl (zh_97 (hf_N2_.w hW)).1 d_M_multiplies_112 ?_
                refine zw_iload_n (pc := 115) (n := 1) (x := Int32.ofInt u1_) rfl d_M_multiplies_115 ?_
                refine zr_laldn (pc := 116) (zh_97 (hf_N2_.w hW)).2 (by decide) (by omega) (by omega) d_M_multiplies_116 (fun v67_ hv67_ hv67_a hv67_b => ?_)
                rw [hf_N2_.jg (by decide) (by decide)] at hv67_
                refine zr_lmul (pc := 117) d_M_multiplies_117 ?_
                refine zr_last (pc := 118) (zh_96 (hf_N2_.w hW)).2 (by decide) (by decide) (by omega) (by omega) d_M_multiplies_118 (fun N68_ hN68_ hsN68_ => ?_)
                have hf_N68_ : zFr [39] [96] Mz N68_ := hf_N2_.tr hsN68_ (by decide) (by decide)
                have hb0_N68_ : zFr [39] [96] Mz N68_ := hs3_.tr hsN68_ (by decide) (by decide)
                have e26_N68_ : ze N68_ 81 26 = ze N2_ 81 26 := hsN68_.e (by decide)
                have e39_N68_ : ze N68_ 81 39 = ze N2_ 81 39 := hsN68_.e (by decide)
                have c69_ : zGD N68_ := zGD.fr hsN68_ c5_ (by decide) (by decide)
                refine zr_iinc (pc := 119) (i := 1) (a := u1_) (n := 1) (L2 := [some (.ref 81), some (.int (Int32.ofInt (u1_ + 1))), some (.long (Int64.ofInt v61_)), none, some (.long (Int64.ofInt v64_)), none]) rfl (by decide) rfl d_M_multiplies_119 ?_
                refine zw_goto (pc := 122) (tgt := 2) (by decide) d_M_multiplies_122 ?_
                refine zW_le [some (.ref 81), some (.int (Int32.ofInt (u1_ + 1))), none, none, none, none] (⟨rfl, rfl, trivial⟩) ?_
                exact ih_2 (u1_ + 1) (by omega) (by omega) N68_ hb0_N68_ (show 0 ≤ (u1_ + 1) by omega) (by omega)
              · skip
                refine zw_lconst (pc := 101) (v := Int64.ofInt 0) (by decide) d_M_multiplies_101 ?_
                refine zw_goto (pc := 102) (tgt := 118) (by decide) d_M_multiplies_102 ?_
                refine zr_last (pc := 118) (zh_96 (hf_N2_.w hW)).2 (by decide) (by decide) (by omega) (by omega) d_M_multiplies_118 (fun N70_ hN70_ hsN70_ => ?_)
                have hf_N70_ : zFr [39] [96] Mz N70_ := hf_N2_.tr hsN70_ (by decide) (by decide)
                have hb0_N70_ : zFr [39] [96] Mz N70_ := hs3_.tr hsN70_ (by decide) (by decide)
                have e26_N70_ : ze N70_ 81 26 = ze N2_ 81 26 := hsN70_.e (by decide)
                have e39_N70_ : ze N70_ 81 39 = ze N2_ 81 39 := hsN70_.e (by decide)
                have c71_ : zGD N70_ := zGD.fr hsN70_ c5_ (by decide) (by decide)
                refine zr_iinc (pc := 119) (i := 1) (a := u1_) (n := 1) (L2 := [some (.ref 81), some (.int (Int32.ofInt (u1_ + 1))), some (.long (Int64.ofInt v61_)), none, some (.long (Int64.ofInt v64_)), none]) rfl (by decide) rfl d_M_multiplies_119 ?_
                refine zw_goto (pc := 122) (tgt := 2) (by decide) d_M_multiplies_122 ?_
                refine zW_le [some (.ref 81), some (.int (Int32.ofInt (u1_ + 1))), none, none, none, none] (⟨rfl, rfl, trivial⟩) ?_
                exact ih_2 (u1_ + 1) (by omega) (by omega) N70_ hb0_N70_ (show 0 ≤ (u1_ + 1) by omega) (by omega)
            · skip
              refine zw_lload (pc := 73) (i := 4) (x := Int64.ofInt v64_) rfl d_M_multiplies_73 ?_
              refine zr_ldc2 (pc := 75) (n := 1000000000000) (by decide) k_M_262 d_M_multiplies_75 ?_
              refine zw_lload_n (pc := 78) (n := 2) (x := Int64.ofInt v61_) rfl d_M_multiplies_78 ?_
              refine zr_ldiv (pc := 79) ⟨by omega, by omega⟩ (by omega) d_M_multiplies_79 ?_
              have hr72_ := zlquo_r 1000000000000 v61_
              refine zr_lcmp (pc := 80) ⟨by omega, by omega⟩ ⟨by omega, by omega⟩ d_M_multiplies_80 ?_
              have hr73_ := zcmp_s v64_ (zlquo 1000000000000 v61_)
              refine zr_if_le (pc := 81) (tgt := 89) ⟨by omega, by omega⟩ (by decide) d_M_multiplies_81 (fun hc_81 => ?_) (fun hc_81 => ?_)
              · skip
                refine zw_aload_n (pc := 89) (n := 0) (x := 81) rfl d_M_multiplies_89 ?_
                refine zr_getF (r := 96) (hf_N2_.w hW) (pc := 90) f_M_60 rfl (zh_96 (hf_N2_.w hW)).1 d_M_multiplies_90 ?_
                refine zw_iload_n (pc := 93) (n := 1) (x := Int32.ofInt u1_) rfl d_M_multiplies_93 ?_
                refine zw_aload_n (pc := 94) (n := 0) (x := 81) rfl d_M_multiplies_94 ?_
                refine zr_getI (hf_N2_.w hW) (pc := 95) f_M_275 rfl d_M_multiplies_95 ?_
                refine zr_if_eq (pc := 98) (tgt := 105) ⟨by omega, by omega⟩ (by decide) d_M_multiplies_98 (fun hc_98 => ?_) (fun hc_98 => ?_)
                · skip
                  refine zw_aload_n (pc := 105) (n := 0) (x := 81) rfl d_M_multiplies_105 ?_
                  refine zr_getF (r := 96) (hf_N2_.w hW) (pc := 106) f_M_60 rfl (zh_96 (hf_N2_.w hW)).1 d_M_multiplies_106 ?_
                  refine zw_iload_n (pc := 109) (n := 1) (x := Int32.ofInt u1_) rfl d_M_multiplies_109 ?_
                  refine zr_laldn (pc := 110) (zh_96 (hf_N2_.w hW)).2 (by decide) (by omega) (by omega) d_M_multiplies_110 (fun v74_ hv74_ hv74_a hv74_b => ?_)
                  refine zw_aload_n (pc := 111) (n := 0) (x := 81) rfl d_M_multiplies_111 ?_
                  refine zr_getF (r := 97) (hf_N2_.w hW) (pc := 112) f_M_63 rfl (zh_97 (hf_N2_.w hW)).1 d_M_multiplies_112 ?_
                  refine zw_iload_n (pc := 115) (n := 1) (x := Int32.ofInt u1_) rfl d_M_multiplies_115 ?_
                  refine zr_laldn (pc := 116) (zh_97 (hf_N2_.w hW)).2 (by decide) (by omega) (by omega) d_M_multiplies_116 (fun v75_ hv75_ hv75_a hv75_b => ?_)
                  rw [hf_N2_.jg (by decide) (by decide)] at hv75_
                  refine zr_lmul (pc := 117) d_M_multiplies_117 ?_
                  refine zr_last (pc := 118) (zh_96 (hf_N2_.w hW)).2 (by decide) (by decide) (by omega) (by omega) d_M_multiplies_118 (fun N76_ hN76_ hsN76_ => ?_)
                  have hf_N76_ : zFr [39] [96] Mz N76_ := hf_N2_.tr hsN76_ (by decide) (by decide)
                  have hb0_N76_ : zFr [39] [96] Mz N76_ := hs3_.tr hsN76_ (by decide) (by decide)
                  have e26_N76_ : ze N76_ 81 26 = ze N2_ 81 26 := hsN76_.e (by decide)
                  have e39_N76_ : ze N76_ 81 39 = ze N2_ 81 39 := hsN76_.e (by decide)
                  have c77_ : zGD N76_ := zGD.fr hsN76_ c5_ (by decide) (by decide)
                  refine zr_iinc (pc := 119) (i := 1) (a := u1_) (n := 1) (L2 := [some (.ref 81), some (.int (Int32.ofInt (u1_ + 1))), some (.long (Int64.ofInt v61_)), none, some (.long (Int64.ofInt v64_)), none]) rfl (by decide) rfl d_M_multiplies_119 ?_
                  refine zw_goto (pc := 122) (tgt := 2) (by decide) d_M_multiplies_122 ?_
                  refine zW_le [some (.ref 81), some (.int (Int32.ofInt (u1_ + 1))), none, none, none, none] (⟨rfl, rfl, trivial⟩) ?_
                  exact ih_2 (u1_ + 1) (by omega) (by omega) N76_ hb0_N76_ (show 0 ≤ (u1_ + 1) by omega) (by omega)
                · skip
                  refine zw_lconst (pc := 101) (v := Int64.ofInt 0) (by decide) d_M_multiplies_101 ?_
                  refine zw_goto (pc := 102) (tgt := 118) (by decide) d_M_multiplies_102 ?_
                  refine zr_last (pc := 118) (zh_96 (hf_N2_.w hW)).2 (by decide) (by decide) (by omega) (by omega) d_M_multiplies_118 (fun N78_ hN78_ hsN78_ => ?_)
                  have hf_N78_ : zFr [39] [96] Mz N78_ := hf_N2_.tr hsN78_ (by decide) (by decide)
                  have hb0_N78_ : zFr [39] [96] Mz N78_ := hs3_.tr hsN78_ (by decide) (by decide)
                  have e26_N78_ : ze N78_ 81 26 = ze N2_ 81 26 := hsN78_.e (by decide)
                  have e39_N78_ : ze N78_ 81 39 = ze N2_ 81 39 := hsN78_.e (by decide)
                  have c79_ : zGD N78_ := zGD.fr hsN78_ c5_ (by decide) (by decide)
                  refine zr_iinc (pc := 119) (i := 1) (a := u1_) (n := 1) (L2 := [some (.ref 81), some (.int (Int32.ofInt (u1_ + 1))), some (.long (Int64.ofInt v61_)), none, some (.long (Int64.ofInt v64_)), none]) rfl (by decide) rfl d_M_multiplies_119 ?_
                  refine zw_goto (pc := 122) (tgt := 2) (by decide) d_M_multiplies_122 ?_
                  refine zW_le [some (.ref 81), some (.int (Int32.ofInt (u1_ + 1))), none, none, none, none] (⟨rfl, rfl, trivial⟩) ?_
                  exact ih_2 (u1_ + 1) (by omega) (by omega) N78_ hb0_N78_ (show 0 ≤ (u1_ + 1) by omega) (by omega)
              · skip
                refine zw_aload_n (pc := 84) (n := 0) (x := 81) rfl d_M_multiplies_84 ?_
                refine zw_iconst (pc := 85) (v := Int32.ofInt 1) (by decide) d_M_multiplies_85 ?_
                refine zr_putI (hf_N2_.w hW) (pc := 86) f_M_275 rfl rfl ⟨by omega, by omega⟩ (z_narB (by omega)) (z_fitB (by omega)) d_M_multiplies_86 (fun N80_ hsN80_ hvN80_ => ?_)
                have hf_N80_ : zFr [39] [96] Mz N80_ := hf_N2_.tr hsN80_ (by decide) (by decide)
                have hb0_N80_ : zFr [39] [96] Mz N80_ := hs3_.tr hsN80_ (by decide) (by decide)
                have e26_N80_ : ze N80_ 81 26 = ze N2_ 81 26 := hsN80_.e (by decide)
                have r39_N80_ := ze_r N80_ 81 39
                have c81_ : zGD N80_ := zGD.fr hsN80_ c5_ (by decide) (by decide)
                refine zw_aload_n (pc := 89) (n := 0) (x := 81) rfl d_M_multiplies_89 ?_
                refine zr_getF (r := 96) (hf_N80_.w hW) (pc := 90) f_M_60 rfl (zh_96 (hf_N80_.w hW)).1 d_M_multiplies_90 ?_
                refine zw_iload_n (pc := 93) (n := 1) (x := Int32.ofInt u1_) rfl d_M_multiplies_93 ?_
                refine zw_aload_n (pc := 94) (n := 0) (x := 81) rfl d_M_multiplies_94 ?_
                refine zr_getI (hf_N80_.w hW) (pc := 95) f_M_275 rfl d_M_multiplies_95 ?_
                refine zr_if_eq (pc := 98) (tgt := 105) ⟨by omega, by omega⟩ (by decide) d_M_multiplies_98 (fun hc_98 => ?_) (fun hc_98 => ?_)
                · skip
                  refine zw_aload_n (pc := 105) (n := 0) (x := 81) rfl d_M_multiplies_105 ?_
                  refine zr_getF (r := 96) (hf_N80_.w hW) (pc := 106) f_M_60 rfl (zh_96 (hf_N80_.w hW)).1 d_M_multiplies_106 ?_
                  refine zw_iload_n (pc := 109) (n := 1) (x := Int32.ofInt u1_) rfl d_M_multiplies_109 ?_
                  refine zr_laldn (pc := 110) (zh_96 (hf_N80_.w hW)).2 (by decide) (by omega) (by omega) d_M_multiplies_110 (fun v82_ hv82_ hv82_a hv82_b => ?_)
                  refine zw_aload_n (pc := 111) (n := 0) (x := 81) rfl d_M_multiplies_111 ?_
                  refine zr_getF (r := 97) (hf_N80_.w hW) (pc := 112) f_M_63 rfl (zh_97 (hf_N80_.w hW)).1 d_M_multiplies_112 ?_
                  refine zw_iload_n (pc := 115) (n := 1) (x := Int32.ofInt u1_) rfl d_M_multiplies_115 ?_
                  refine zr_laldn (pc := 116) (zh_97 (hf_N80_.w hW)).2 (by decide) (by omega) (by omega) d_M_multiplies_116 (fun v83_ hv83_ hv83_a hv83_b => ?_)
                  rw [hf_N80_.jg (by decide) (by decide)] at hv83_
                  refine zr_lmul (pc := 117) d_M_multiplies_117 ?_
                  refine zr_last (pc := 118) (zh_96 (hf_N80_.w hW)).2 (by decide) (by decide) (by omega) (by omega) d_M_multiplies_118 (fun N84_ hN84_ hsN84_ => ?_)
                  have hf_N84_ : zFr [39] [96] Mz N84_ := hf_N80_.tr hsN84_ (by decide) (by decide)
                  have hb0_N84_ : zFr [39] [96] Mz N84_ := hb0_N80_.tr hsN84_ (by decide) (by decide)
                  have e26_N84_ : ze N84_ 81 26 = ze N80_ 81 26 := hsN84_.e (by decide)
                  have e39_N84_ : ze N84_ 81 39 = ze N80_ 81 39 := hsN84_.e (by decide)
                  have c85_ : zGD N84_ := zGD.fr hsN84_ c81_ (by decide) (by decide)
                  refine zr_iinc (pc := 119) (i := 1) (a := u1_) (n := 1) (L2 := [some (.ref 81), some (.int (Int32.ofInt (u1_ + 1))), some (.long (Int64.ofInt v61_)), none, some (.long (Int64.ofInt v64_)), none]) rfl (by decide) rfl d_M_multiplies_119 ?_
                  refine zw_goto (pc := 122) (tgt := 2) (by decide) d_M_multiplies_122 ?_
                  refine zW_le [some (.ref 81), some (.int (Int32.ofInt (u1_ + 1))), none, none, none, none] (⟨rfl, rfl, trivial⟩) ?_
                  exact ih_2 (u1_ + 1) (by omega) (by omega) N84_ hb0_N84_ (show 0 ≤ (u1_ + 1) by omega) (by omega)
                · skip
                  refine zw_lconst (pc := 101) (v := Int64.ofInt 0) (by decide) d_M_multiplies_101 ?_
                  refine zw_goto (pc := 102) (tgt := 118) (by decide) d_M_multiplies_102 ?_
                  refine zr_last (pc := 118) (zh_96 (hf_N80_.w hW)).2 (by decide) (by decide) (by omega) (by omega) d_M_multiplies_118 (fun N86_ hN86_ hsN86_ => ?_)
                  have hf_N86_ : zFr [39] [96] Mz N86_ := hf_N80_.tr hsN86_ (by decide) (by decide)
                  have hb0_N86_ : zFr [39] [96] Mz N86_ := hb0_N80_.tr hsN86_ (by decide) (by decide)
                  have e26_N86_ : ze N86_ 81 26 = ze N80_ 81 26 := hsN86_.e (by decide)
                  have e39_N86_ : ze N86_ 81 39 = ze N80_ 81 39 := hsN86_.e (by decide)
                  have c87_ : zGD N86_ := zGD.fr hsN86_ c81_ (by decide) (by decide)
                  refine zr_iinc (pc := 119) (i := 1) (a := u1_) (n := 1) (L2 := [some (.ref 81), some (.int (Int32.ofInt (u1_ + 1))), some (.long (Int64.ofInt v61_)), none, some (.long (Int64.ofInt v64_)), none]) rfl (by decide) rfl d_M_multiplies_119 ?_
                  refine zw_goto (pc := 122) (tgt := 2) (by decide) d_M_multiplies_122 ?_
                  refine zW_le [some (.ref 81), some (.int (Int32.ofInt (u1_ + 1))), none, none, none, none] (⟨rfl, rfl, trivial⟩) ?_
                  exact ih_2 (u1_ + 1) (by omega) (by omega) N86_ hb0_N86_ (show 0 ≤ (u1_ + 1) by omega) (by omega)
          · skip
            refine zw_aload_n (pc := 49) (n := 0) (x := 81) rfl d_M_multiplies_49 ?_
            refine zr_getF (r := 97) (hf_N2_.w hW) (pc := 50) f_M_63 rfl (zh_97 (hf_N2_.w hW)).1 d_M_multiplies_50 ?_
            refine zw_iload_n (pc := 53) (n := 1) (x := Int32.ofInt u1_) rfl d_M_multiplies_53 ?_
            refine zr_laldn (pc := 54) (zh_97 (hf_N2_.w hW)).2 (by decide) (by omega) (by omega) d_M_multiplies_54 (fun v88_ hv88_ hv88_a hv88_b => ?_)
            rw [hf_N2_.jg (by decide) (by decide)] at hv88_
            refine zr_lneg (pc := 55) d_M_multiplies_55 ?_
            refine zr_nmJ (fun v89_ hv89_ => ?_)
            obtain ⟨hv89_a, hv89_b⟩ := hv89_
            refine zw_goto (pc := 56) (tgt := 65) (by decide) d_M_multiplies_56 ?_
            refine zw_lstore (pc := 65) (i := 4) (L2 := [some (.ref 81), some (.int (Int32.ofInt u1_)), some (.long (Int64.ofInt v61_)), none, some (.long (Int64.ofInt v89_)), none]) (by decide) rfl d_M_multiplies_65 ?_
            refine zw_lload_n (pc := 67) (n := 2) (x := Int64.ofInt v61_) rfl d_M_multiplies_67 ?_
            refine zw_lconst (pc := 68) (v := Int64.ofInt 0) (by decide) d_M_multiplies_68 ?_
            refine zr_lcmp (pc := 69) ⟨by omega, by omega⟩ ⟨by omega, by omega⟩ d_M_multiplies_69 ?_
            have hr90_ := zcmp_s v61_ 0
            refine zr_if_le (pc := 70) (tgt := 89) ⟨by omega, by omega⟩ (by decide) d_M_multiplies_70 (fun hc_70 => ?_) (fun hc_70 => ?_)
            · skip
              refine zw_aload_n (pc := 89) (n := 0) (x := 81) rfl d_M_multiplies_89 ?_
              refine zr_getF (r := 96) (hf_N2_.w hW) (pc := 90) f_M_60 rfl (zh_96 (hf_N2_.w hW)).1 d_M_multiplies_90 ?_
              refine zw_iload_n (pc := 93) (n := 1) (x := Int32.ofInt u1_) rfl d_M_multiplies_93 ?_
              refine zw_aload_n (pc := 94) (n := 0) (x := 81) rfl d_M_multiplies_94 ?_
              refine zr_getI (hf_N2_.w hW) (pc := 95) f_M_275 rfl d_M_multiplies_95 ?_
              refine zr_if_eq (pc := 98) (tgt := 105) ⟨by omega, by omega⟩ (by decide) d_M_multiplies_98 (fun hc_98 => ?_) (fun hc_98 => ?_)
              · skip
                refine zw_aload_n (pc := 105) (n := 0) (x := 81) rfl d_M_multiplies_105 ?_
                refine zr_getF (r := 96) (hf_N2_.w hW) (pc := 106) f_M_60 rfl (zh_96 (hf_N2_.w hW)).1 d_M_multiplies_106 ?_
                refine zw_iload_n (pc := 109) (n := 1) (x := Int32.ofInt u1_) rfl d_M_multiplies_109 ?_
                refine zr_laldn (pc := 110) (zh_96 (hf_N2_.w hW)).2 (by decide) (by omega) (by omega) d_M_multiplies_110 (fun v91_ hv91_ hv91_a hv91_b => ?_)
                refine zw_aload_n (pc := 111) (n := 0) (x := 81) rfl d_M_multiplies_111 ?_
                refine zr_getF (r := 97) (hf_N2_.w hW) (pc := 112) f_M_63 rfl (zh_97 (hf_N2_.w hW)).1 d_M_multiplies_112 ?_
                refine zw_iload_n (pc := 115) (n := 1) (x := Int32.ofInt u1_) rfl d_M_multiplies_115 ?_
                refine zr_laldn (pc := 116) (zh_97 (hf_N2_.w hW)).2 (by decide) (by omega) (by omega) d_M_multiplies_116 (fun v92_ hv92_ hv92_a hv92_b => ?_)
                rw [hf_N2_.jg (by decide) (by decide)] at hv92_
                refine zr_lmul (pc := 117) d_M_multiplies_117 ?_
                refine zr_last (pc := 118) (zh_96 (hf_N2_.w hW)).2 (by decide) (by decide) (by omega) (by omega) d_M_multiplies_118 (fun N93_ hN93_ hsN93_ => ?_)
                have hf_N93_ : zFr [39] [96] Mz N93_ := hf_N2_.tr hsN93_ (by decide) (by decide)
                have hb0_N93_ : zFr [39] [96] Mz N93_ := hs3_.tr hsN93_ (by decide) (by decide)
                have e26_N93_ : ze N93_ 81 26 = ze N2_ 81 26 := hsN93_.e (by decide)
                have e39_N93_ : ze N93_ 81 39 = ze N2_ 81 39 := hsN93_.e (by decide)
                have c94_ : zGD N93_ := zGD.fr hsN93_ c5_ (by decide) (by decide)
                refine zr_iinc (pc := 119) (i := 1) (a := u1_) (n := 1) (L2 := [some (.ref 81), some (.int (Int32.ofInt (u1_ + 1))), some (.long (Int64.ofInt v61_)), none, some (.long (Int64.ofInt v89_)), none]) rfl (by decide) rfl d_M_multiplies_119 ?_
                refine zw_goto (pc := 122) (tgt := 2) (by decide) d_M_multiplies_122 ?_
                refine zW_le [some (.ref 81), some (.int (Int32.ofInt (u1_ + 1))), none, none, none, none] (⟨rfl, rfl, trivial⟩) ?_
                exact ih_2 (u1_ + 1) (by omega) (by omega) N93_ hb0_N93_ (show 0 ≤ (u1_ + 1) by omega) (by omega)
              · skip
                refine zw_lconst (pc := 101) (v := Int64.ofInt 0) (by decide) d_M_multiplies_101 ?_
                refine zw_goto (pc := 102) (tgt := 118) (by decide) d_M_multiplies_102 ?_
                refine zr_last (pc := 118) (zh_96 (hf_N2_.w hW)).2 (by decide) (by decide) (by omega) (by omega) d_M_multiplies_118 (fun N95_ hN95_ hsN95_ => ?_)
                have hf_N95_ : zFr [39] [96] Mz N95_ := hf_N2_.tr hsN95_ (by decide) (by decide)
                have hb0_N95_ : zFr [39] [96] Mz N95_ := hs3_.tr hsN95_ (by decide) (by decide)
                have e26_N95_ : ze N95_ 81 26 = ze N2_ 81 26 := hsN95_.e (by decide)
                have e39_N95_ : ze N95_ 81 39 = ze N2_ 81 39 := hsN95_.e (by decide)
                have c96_ : zGD N95_ := zGD.fr hsN95_ c5_ (by decide) (by decide)
                refine zr_iinc (pc := 119) (i := 1) (a := u1_) (n := 1) (L2 := [some (.ref 81), some (.int (Int32.ofInt (u1_ + 1))), some (.long (Int64.ofInt v61_)), none, some (.long (Int64.ofInt v89_)), none]) rfl (by decide) rfl d_M_multiplies_119 ?_
                refine zw_goto (pc := 122) (tgt := 2) (by decide) d_M_multiplies_122 ?_
                refine zW_le [some (.ref 81), some (.int (Int32.ofInt (u1_ + 1))), none, none, none, none] (⟨rfl, rfl, trivial⟩) ?_
                exact ih_2 (u1_ + 1) (by omega) (by omega) N95_ hb0_N95_ (show 0 ≤ (u1_ + 1) by omega) (by omega)
            · skip
              refine zw_lload (pc := 73) (i := 4) (x := Int64.ofInt v89_) rfl d_M_multiplies_73 ?_
              refine zr_ldc2 (pc := 75) (n := 1000000000000) (by decide) k_M_262 d_M_multiplies_75 ?_
              refine zw_lload_n (pc := 78) (n := 2) (x := Int64.ofInt v61_) rfl d_M_multiplies_78 ?_
              refine zr_ldiv (pc := 79) ⟨by omega, by omega⟩ (by omega) d_M_multiplies_79 ?_
              have hr97_ := zlquo_r 1000000000000 v61_
              refine zr_lcmp (pc := 80) ⟨by omega, by omega⟩ ⟨by omega, by omega⟩ d_M_multiplies_80 ?_
              have hr98_ := zcmp_s v89_ (zlquo 1000000000000 v61_)
              refine zr_if_le (pc := 81) (tgt := 89) ⟨by omega, by omega⟩ (by decide) d_M_multiplies_81 (fun hc_81 => ?_) (fun hc_81 => ?_)
              · skip
                refine zw_aload_n (pc := 89) (n := 0) (x := 81) rfl d_M_multiplies_89 ?_
                refine zr_getF (r := 96) (hf_N2_.w hW) (pc := 90) f_M_60 rfl (zh_96 (hf_N2_.w hW)).1 d_M_multiplies_90 ?_
                refine zw_iload_n (pc := 93) (n := 1) (x := Int32.ofInt u1_) rfl d_M_multiplies_93 ?_
                refine zw_aload_n (pc := 94) (n := 0) (x := 81) rfl d_M_multiplies_94 ?_
                refine zr_getI (hf_N2_.w hW) (pc := 95) f_M_275 rfl d_M_multiplies_95 ?_
                refine zr_if_eq (pc := 98) (tgt := 105) ⟨by omega, by omega⟩ (by decide) d_M_multiplies_98 (fun hc_98 => ?_) (fun hc_98 => ?_)
                · skip
                  refine zw_aload_n (pc := 105) (n := 0) (x := 81) rfl d_M_multiplies_105 ?_
                  refine zr_getF (r := 96) (hf_N2_.w hW) (pc := 106) f_M_60 rfl (zh_96 (hf_N2_.w hW)).1 d_M_multiplies_106 ?_
                  refine zw_iload_n (pc := 109) (n := 1) (x := Int32.ofInt u1_) rfl d_M_multiplies_109 ?_
                  refine zr_laldn (pc := 110) (zh_96 (hf_N2_.w hW)).2 (by decide) (by omega) (by omega) d_M_multiplies_110 (fun v99_ hv99_ hv99_a hv99_b => ?_)
                  refine zw_aload_n (pc := 111) (n := 0) (x := 81) rfl d_M_multiplies_111 ?_
                  refine zr_getF (r := 97) (hf_N2_.w hW) (pc := 112) f_M_63 rfl (zh_97 (hf_N2_.w hW)).1 d_M_multiplies_112 ?_
                  refine zw_iload_n (pc := 115) (n := 1) (x := Int32.ofInt u1_) rfl d_M_multiplies_115 ?_
                  refine zr_laldn (pc := 116) (zh_97 (hf_N2_.w hW)).2 (by decide) (by omega) (by omega) d_M_multiplies_116 (fun v100_ hv100_ hv100_a hv100_b => ?_)
                  rw [hf_N2_.jg (by decide) (by decide)] at hv100_
                  refine zr_lmul (pc := 117) d_M_multiplies_117 ?_
                  refine zr_last (pc := 118) (zh_96 (hf_N2_.w hW)).2 (by decide) (by decide) (by omega) (by omega) d_M_multiplies_118 (fun N101_ hN101_ hsN101_ => ?_)
                  have hf_N101_ : zFr [39] [96] Mz N101_ := hf_N2_.tr hsN101_ (by decide) (by decide)
                  have hb0_N101_ : zFr [39] [96] Mz N101_ := hs3_.tr hsN101_ (by decide) (by decide)
                  have e26_N101_ : ze N101_ 81 26 = ze N2_ 81 26 := hsN101_.e (by decide)
                  have e39_N101_ : ze N101_ 81 39 = ze N2_ 81 39 := hsN101_.e (by decide)
                  have c102_ : zGD N101_ := zGD.fr hsN101_ c5_ (by decide) (by decide)
                  refine zr_iinc (pc := 119) (i := 1) (a := u1_) (n := 1) (L2 := [some (.ref 81), some (.int (Int32.ofInt (u1_ + 1))), some (.long (Int64.ofInt v61_)), none, some (.long (Int64.ofInt v89_)), none]) rfl (by decide) rfl d_M_multiplies_119 ?_
                  refine zw_goto (pc := 122) (tgt := 2) (by decide) d_M_multiplies_122 ?_
                  refine zW_le [some (.ref 81), some (.int (Int32.ofInt (u1_ + 1))), none, none, none, none] (⟨rfl, rfl, trivial⟩) ?_
                  exact ih_2 (u1_ + 1) (by omega) (by omega) N101_ hb0_N101_ (show 0 ≤ (u1_ + 1) by omega) (by omega)
                · skip
                  refine zw_lconst (pc := 101) (v := Int64.ofInt 0) (by decide) d_M_multiplies_101 ?_
                  refine zw_goto (pc := 102) (tgt := 118) (by decide) d_M_multiplies_102 ?_
                  refine zr_last (pc := 118) (zh_96 (hf_N2_.w hW)).2 (by decide) (by decide) (by omega) (by omega) d_M_multiplies_118 (fun N103_ hN103_ hsN103_ => ?_)
                  have hf_N103_ : zFr [39] [96] Mz N103_ := hf_N2_.tr hsN103_ (by decide) (by decide)
                  have hb0_N103_ : zFr [39] [96] Mz N103_ := hs3_.tr hsN103_ (by decide) (by decide)
                  have e26_N103_ : ze N103_ 81 26 = ze N2_ 81 26 := hsN103_.e (by decide)
                  have e39_N103_ : ze N103_ 81 39 = ze N2_ 81 39 := hsN103_.e (by decide)
                  have c104_ : zGD N103_ := zGD.fr hsN103_ c5_ (by decide) (by decide)
                  refine zr_iinc (pc := 119) (i := 1) (a := u1_) (n := 1) (L2 := [some (.ref 81), some (.int (Int32.ofInt (u1_ + 1))), some (.long (Int64.ofInt v61_)), none, some (.long (Int64.ofInt v89_)), none]) rfl (by decide) rfl d_M_multiplies_119 ?_
                  refine zw_goto (pc := 122) (tgt := 2) (by decide) d_M_multiplies_122 ?_
                  refine zW_le [some (.ref 81), some (.int (Int32.ofInt (u1_ + 1))), none, none, none, none] (⟨rfl, rfl, trivial⟩) ?_
                  exact ih_2 (u1_ + 1) (by omega) (by omega) N103_ hb0_N103_ (show 0 ≤ (u1_ + 1) by omega) (by omega)
              · skip
                refine zw_aload_n (pc := 84) (n := 0) (x := 81) rfl d_M_multiplies_84 ?_
                refine zw_iconst (pc := 85) (v := Int32.ofInt 1) (by decide) d_M_multiplies_85 ?_
                refine zr_putI (hf_N2_.w hW) (pc := 86) f_M_275 rfl rfl ⟨by omega, by omega⟩ (z_narB (by omega)) (z_fitB (by omega)) d_M_multiplies_86 (fun N105_ hsN105_ hvN105_ => ?_)
                have hf_N105_ : zFr [39] [96] Mz N105_ := hf_N2_.tr hsN105_ (by decide) (by decide)
                have hb0_N105_ : zFr [39] [96] Mz N105_ := hs3_.tr hsN105_ (by decide) (by decide)
                have e26_N105_ : ze N105_ 81 26 = ze N2_ 81 26 := hsN105_.e (by decide)
                have r39_N105_ := ze_r N105_ 81 39
                have c106_ : zGD N105_ := zGD.fr hsN105_ c5_ (by decide) (by decide)
                refine zw_aload_n (pc := 89) (n := 0) (x := 81) rfl d_M_multiplies_89 ?_
                refine zr_getF (r := 96) (hf_N105_.w hW) (pc := 90) f_M_60 rfl (zh_96 (hf_N105_.w hW)).1 d_M_multiplies_90 ?_
                refine zw_iload_n (pc := 93) (n := 1) (x := Int32.ofInt u1_) rfl d_M_multiplies_93 ?_
                refine zw_aload_n (pc := 94) (n := 0) (x := 81) rfl d_M_multiplies_94 ?_
                refine zr_getI (hf_N105_.w hW) (pc := 95) f_M_275 rfl d_M_multiplies_95 ?_
                refine zr_if_eq (pc := 98) (tgt := 105) ⟨by omega, by omega⟩ (by decide) d_M_multiplies_98 (fun hc_98 => ?_) (fun hc_98 => ?_)
                · skip
                  refine zw_aload_n (pc := 105) (n := 0) (x := 81) rfl d_M_multiplies_105 ?_
                  refine zr_getF (r := 96) (hf_N105_.w hW) (pc := 106) f_M_60 rfl (zh_96 (hf_N105_.w hW)).1 d_M_multiplies_106 ?_
                  refine zw_iload_n (pc := 109) (n := 1) (x := Int32.ofInt u1_) rfl d_M_multiplies_109 ?_
                  refine zr_laldn (pc := 110) (zh_96 (hf_N105_.w hW)).2 (by decide) (by omega) (by omega) d_M_multiplies_110 (fun v107_ hv107_ hv107_a hv107_b => ?_)
                  refine zw_aload_n (pc := 111) (n := 0) (x := 81) rfl d_M_multiplies_111 ?_
                  refine zr_getF (r := 97) (hf_N105_.w hW) (pc := 112) f_M_63 rfl (zh_97 (hf_N105_.w hW)).1 d_M_multiplies_112 ?_
                  refine zw_iload_n (pc := 115) (n := 1) (x := Int32.ofInt u1_) rfl d_M_multiplies_115 ?_
                  refine zr_laldn (pc := 116) (zh_97 (hf_N105_.w hW)).2 (by decide) (by omega) (by omega) d_M_multiplies_116 (fun v108_ hv108_ hv108_a hv108_b => ?_)
                  rw [hf_N105_.jg (by decide) (by decide)] at hv108_
                  refine zr_lmul (pc := 117) d_M_multiplies_117 ?_
                  refine zr_last (pc := 118) (zh_96 (hf_N105_.w hW)).2 (by decide) (by decide) (by omega) (by omega) d_M_multiplies_118 (fun N109_ hN109_ hsN109_ => ?_)
                  have hf_N109_ : zFr [39] [96] Mz N109_ := hf_N105_.tr hsN109_ (by decide) (by decide)
                  have hb0_N109_ : zFr [39] [96] Mz N109_ := hb0_N105_.tr hsN109_ (by decide) (by decide)
                  have e26_N109_ : ze N109_ 81 26 = ze N105_ 81 26 := hsN109_.e (by decide)
                  have e39_N109_ : ze N109_ 81 39 = ze N105_ 81 39 := hsN109_.e (by decide)
                  have c110_ : zGD N109_ := zGD.fr hsN109_ c106_ (by decide) (by decide)
                  refine zr_iinc (pc := 119) (i := 1) (a := u1_) (n := 1) (L2 := [some (.ref 81), some (.int (Int32.ofInt (u1_ + 1))), some (.long (Int64.ofInt v61_)), none, some (.long (Int64.ofInt v89_)), none]) rfl (by decide) rfl d_M_multiplies_119 ?_
                  refine zw_goto (pc := 122) (tgt := 2) (by decide) d_M_multiplies_122 ?_
                  refine zW_le [some (.ref 81), some (.int (Int32.ofInt (u1_ + 1))), none, none, none, none] (⟨rfl, rfl, trivial⟩) ?_
                  exact ih_2 (u1_ + 1) (by omega) (by omega) N109_ hb0_N109_ (show 0 ≤ (u1_ + 1) by omega) (by omega)
                · skip
                  refine zw_lconst (pc := 101) (v := Int64.ofInt 0) (by decide) d_M_multiplies_101 ?_
                  refine zw_goto (pc := 102) (tgt := 118) (by decide) d_M_multiplies_102 ?_
                  refine zr_last (pc := 118) (zh_96 (hf_N105_.w hW)).2 (by decide) (by decide) (by omega) (by omega) d_M_multiplies_118 (fun N111_ hN111_ hsN111_ => ?_)
                  have hf_N111_ : zFr [39] [96] Mz N111_ := hf_N105_.tr hsN111_ (by decide) (by decide)
                  have hb0_N111_ : zFr [39] [96] Mz N111_ := hb0_N105_.tr hsN111_ (by decide) (by decide)
                  have e26_N111_ : ze N111_ 81 26 = ze N105_ 81 26 := hsN111_.e (by decide)
                  have e39_N111_ : ze N111_ 81 39 = ze N105_ 81 39 := hsN111_.e (by decide)
                  have c112_ : zGD N111_ := zGD.fr hsN111_ c106_ (by decide) (by decide)
                  refine zr_iinc (pc := 119) (i := 1) (a := u1_) (n := 1) (L2 := [some (.ref 81), some (.int (Int32.ofInt (u1_ + 1))), some (.long (Int64.ofInt v61_)), none, some (.long (Int64.ofInt v89_)), none]) rfl (by decide) rfl d_M_multiplies_119 ?_
                  refine zw_goto (pc := 122) (tgt := 2) (by decide) d_M_multiplies_122 ?_
                  refine zW_le [some (.ref 81), some (.int (Int32.ofInt (u1_ + 1))), none, none, none, none] (⟨rfl, rfl, trivial⟩) ?_
                  exact ih_2 (u1_ + 1) (by omega) (by omega) N111_ hb0_N111_ (show 0 ≤ (u1_ + 1) by omega) (by omega)
  exact lp_2 _ 0 (by omega) (by omega) Mz zFr.rf (show 0 ≤ 0 by omega) (Nat.lt_succ_self _)
set_option maxHeartbeats 4000000 in
theorem c_M_timesTwo (l : Launch) (Mz : zMem) (hW : zMt Mz) (p0_ : zGD Mz) (p1_ : 2 ≤ ze Mz 81 38) (p2_ : ze Mz 81 38 ≤ 40) : zC l m_M_timesTwo 0 0 [.ref 81] Mz (zpV [38, 39] [95, 96, 97] Mz (fun N => ze N 81 38 = ze Mz 81 38 - 1)) := by
  refine zC_of (L0 := [some (.ref 81)]) md_M_timesTwo (Nat.le_of_ble_eq_true rfl) rfl ?_ zQ0
  have hf : zFr [38, 39] [95, 96, 97] Mz Mz := zFr.rf
  have r_38 := ze_r Mz 81 38
  have gb := p0_.1
  refine zw_aload_n (pc := 0) (n := 0) (x := 81) rfl d_M_timesTwo_0 ?_
  refine zw_aload_n (pc := 1) (n := 0) (x := 81) rfl d_M_timesTwo_1 ?_
  refine zr_getI (hf.w hW) (pc := 2) f_M_268 rfl d_M_timesTwo_2 ?_
  refine zw_iconst (pc := 5) (v := Int32.ofInt 2) (by decide) d_M_timesTwo_5 ?_
  refine zr_isub (pc := 6) d_M_timesTwo_6 ?_
  refine zw_aload_n (pc := 7) (n := 0) (x := 81) rfl d_M_timesTwo_7 ?_
  refine zr_getF (r := 96) (hf.w hW) (pc := 8) f_M_60 rfl (zh_96 (hf.w hW)).1 d_M_timesTwo_8 ?_
  refine zr_callV (hf.w hW) hf.x (pc := 11) [.int (Int32.ofInt ((ze Mz 81 38) - 2)), .ref 96] [] l_M_282 (c_M_marksOf_96 l Mz (hf.w hW) ((ze Mz 81 38) - 2) (by omega) (by omega) p0_ (show 0 ≤ ((ze Mz 81 38) - 2) by omega) (show ((ze Mz 81 38) - 2) ≤ 39 by omega)) rfl rfl rfl (by decide) (Nat.le_of_ble_eq_true rfl) d_M_timesTwo_11 ?_
  rintro _ N1_ ⟨rfl, hsN1_, -⟩
  have hf_N1_ : zFr [38, 39] [95, 96, 97] Mz N1_ := hf.tr hsN1_ (by decide) (by decide)
  have e38_N1_ : ze N1_ 81 38 = ze Mz 81 38 := hsN1_.e (by decide)
  have c3_ : zGD N1_ := zGD.fr hsN1_ p0_ (by decide) (by decide)
  show zW l m_M_timesTwo (zn Mz + 0, zw Mz + 0) N1_ 14 [some (.ref 81)] [] (zpV [38, 39] [95, 96, 97] Mz (fun N => ze N 81 38 = ze Mz 81 38 - 1))
  refine zw_aload_n (pc := 14) (n := 0) (x := 81) rfl d_M_timesTwo_14 ?_
  refine zw_aload_n (pc := 15) (n := 0) (x := 81) rfl d_M_timesTwo_15 ?_
  refine zr_getI (hf_N1_.w hW) (pc := 16) f_M_268 rfl d_M_timesTwo_16 ?_
  refine zw_iconst (pc := 19) (v := Int32.ofInt 1) (by decide) d_M_timesTwo_19 ?_
  refine zr_isub (pc := 20) d_M_timesTwo_20 ?_
  refine zw_aload_n (pc := 21) (n := 0) (x := 81) rfl d_M_timesTwo_21 ?_
  refine zr_getF (r := 97) (hf_N1_.w hW) (pc := 22) f_M_63 rfl (zh_97 (hf_N1_.w hW)).1 d_M_timesTwo_22 ?_
  refine zr_callV (hf_N1_.w hW) hf_N1_.x (pc := 25) [.int (Int32.ofInt ((ze N1_ 81 38) - 1)), .ref 97] [] l_M_282 (c_M_marksOf_97 l N1_ (hf_N1_.w hW) ((ze N1_ 81 38) - 1) (by omega) (by omega) c3_ (show 0 ≤ ((ze N1_ 81 38) - 1) by omega) (show ((ze N1_ 81 38) - 1) ≤ 39 by omega)) rfl rfl rfl (by decide) (Nat.le_of_ble_eq_true rfl) d_M_timesTwo_25 ?_
  rintro _ N4_ ⟨rfl, hsN4_, -⟩
  have hf_N4_ : zFr [38, 39] [95, 96, 97] Mz N4_ := hf_N1_.tr hsN4_ (by decide) (by decide)
  have e38_N4_ : ze N4_ 81 38 = ze N1_ 81 38 := hsN4_.e (by decide)
  have c6_ : zGD N4_ := zGD.fr hsN4_ c3_ (by decide) (by decide)
  show zW l m_M_timesTwo (zn Mz + 0, zw Mz + 0) N4_ 28 [some (.ref 81)] [] (zpV [38, 39] [95, 96, 97] Mz (fun N => ze N 81 38 = ze Mz 81 38 - 1))
  refine zw_aload_n (pc := 28) (n := 0) (x := 81) rfl d_M_timesTwo_28 ?_
  refine zr_callV (hf_N4_.w hW) hf_N4_.x (pc := 29) [] [] l_M_286 (c_M_multiplies l N4_ (hf_N4_.w hW) c6_) rfl rfl rfl (by decide) (Nat.le_of_ble_eq_true rfl) d_M_timesTwo_29 ?_
  rintro _ N7_ ⟨rfl, hsN7_, -⟩
  have hf_N7_ : zFr [38, 39] [95, 96, 97] Mz N7_ := hf_N4_.tr hsN7_ (by decide) (by decide)
  have e38_N7_ : ze N7_ 81 38 = ze N4_ 81 38 := hsN7_.e (by decide)
  have c9_ : zGD N7_ := zGD.fr hsN7_ c6_ (by decide) (by decide)
  show zW l m_M_timesTwo (zn Mz + 0, zw Mz + 0) N7_ 32 [some (.ref 81)] [] (zpV [38, 39] [95, 96, 97] Mz (fun N => ze N 81 38 = ze Mz 81 38 - 1))
  refine zw_aload_n (pc := 32) (n := 0) (x := 81) rfl d_M_timesTwo_32 ?_
  refine zw_dup (pc := 33) rfl d_M_timesTwo_33 ?_
  refine zr_getI (hf_N7_.w hW) (pc := 34) f_M_268 rfl d_M_timesTwo_34 ?_
  refine zw_iconst (pc := 37) (v := Int32.ofInt 1) (by decide) d_M_timesTwo_37 ?_
  refine zr_isub (pc := 38) d_M_timesTwo_38 ?_
  refine zr_putI (hf_N7_.w hW) (pc := 39) f_M_268 rfl rfl ⟨by omega, by omega⟩ rfl rfl d_M_timesTwo_39 (fun N10_ hsN10_ hvN10_ => ?_)
  have hf_N10_ : zFr [38, 39] [95, 96, 97] Mz N10_ := hf_N7_.tr hsN10_ (by decide) (by decide)
  have r38_N10_ := ze_r N10_ 81 38
  have c11_ : zGD N10_ := zGD.fr hsN10_ c9_ (by decide) (by decide)
  refine zw_aload_n (pc := 42) (n := 0) (x := 81) rfl d_M_timesTwo_42 ?_
  refine zw_aload_n (pc := 43) (n := 0) (x := 81) rfl d_M_timesTwo_43 ?_
  refine zr_getF (r := 96) (hf_N10_.w hW) (pc := 44) f_M_60 rfl (zh_96 (hf_N10_.w hW)).1 d_M_timesTwo_44 ?_
  refine zw_aload_n (pc := 47) (n := 0) (x := 81) rfl d_M_timesTwo_47 ?_
  refine zr_getF (r := 95) (hf_N10_.w hW) (pc := 48) f_M_56 rfl (zh_95 (hf_N10_.w hW)).1 d_M_timesTwo_48 ?_
  refine zw_bipush (pc := 51) (v := Int32.ofInt 64) (by decide) d_M_timesTwo_51 ?_
  refine zw_aload_n (pc := 53) (n := 0) (x := 81) rfl d_M_timesTwo_53 ?_
  refine zr_getI (hf_N10_.w hW) (pc := 54) f_M_268 rfl d_M_timesTwo_54 ?_
  refine zw_iconst (pc := 57) (v := Int32.ofInt 1) (by decide) d_M_timesTwo_57 ?_
  refine zr_isub (pc := 58) d_M_timesTwo_58 ?_
  refine zr_imul (pc := 59) d_M_timesTwo_59 ?_
  refine zr_callV (hf_N10_.w hW) hf_N10_.x (pc := 60) [.ref 96, .ref 95, .int (Int32.ofInt (64 * ((ze N10_ 81 38) - 1)))] [] l_M_289 (c_M_numbers_96_95 l N10_ (hf_N10_.w hW) (64 * ((ze N10_ 81 38) - 1)) (by omega) (by omega) c11_ (show 0 ≤ (64 * ((ze N10_ 81 38) - 1)) by omega) (show (64 * ((ze N10_ 81 38) - 1)) ≤ 2496 by omega)) rfl rfl rfl (by decide) (Nat.le_of_ble_eq_true rfl) d_M_timesTwo_60 ?_
  rintro _ N12_ ⟨rfl, hsN12_, -⟩
  have hf_N12_ : zFr [38, 39] [95, 96, 97] Mz N12_ := hf_N10_.tr hsN12_ (by decide) (by decide)
  have e38_N12_ : ze N12_ 81 38 = ze N10_ 81 38 := hsN12_.e (by decide)
  have c14_ : zGD N12_ := zGD.fr hsN12_ c11_ (by decide) (by decide)
  show zW l m_M_timesTwo (zn Mz + 0, zw Mz + 0) N12_ 63 [some (.ref 81)] [] (zpV [38, 39] [95, 96, 97] Mz (fun N => ze N 81 38 = ze Mz 81 38 - 1))
  refine zw_aload_n (pc := 63) (n := 0) (x := 81) rfl d_M_timesTwo_63 ?_
  refine zr_callV (hf_N12_.w hW) hf_N12_.x (pc := 64) [] [] l_M_279 (c_M_looks l N12_ (hf_N12_.w hW) c14_ (show 1 ≤ ze N12_ 81 38 by omega) (show ze N12_ 81 38 ≤ 40 by omega)) rfl rfl rfl (by decide) (Nat.le_of_ble_eq_true rfl) d_M_timesTwo_64 ?_
  rintro _ N15_ ⟨rfl, hsN15_, -⟩
  have hf_N15_ : zFr [38, 39] [95, 96, 97] Mz N15_ := hf_N12_.tr hsN15_ (by decide) (by decide)
  have e38_N15_ : ze N15_ 81 38 = ze N12_ 81 38 := hsN15_.e (by decide)
  have c17_ : zGD N15_ := zGD.fr hsN15_ c14_ (by decide) (by decide)
  show zW l m_M_timesTwo (zn Mz + 0, zw Mz + 0) N15_ 67 [some (.ref 81)] [] (zpV [38, 39] [95, 96, 97] Mz (fun N => ze N 81 38 = ze Mz 81 38 - 1))
  exact zr_vret (pc := 67) rfl hf_N15_ (show ze N15_ 81 38 = ze Mz 81 38 - 1 by omega) d_M_timesTwo_67
set_option maxHeartbeats 4000000 in
theorem c_M_adds (l : Launch) (Mz : zMem) (hW : zMt Mz) (a0_ : Int) (ha0_a : -2147483648 ≤ a0_) (ha0_b : a0_ < 2147483648) (p0_ : zGD Mz) (p1_ : 2 ≤ ze Mz 81 38) (p2_ : ze Mz 81 38 ≤ 40) : zC l m_M_adds 0 0 [.ref 81, .int (Int32.ofInt a0_)] Mz (zpV [38, 39] [95] Mz (fun N => ze N 81 38 = ze Mz 81 38 - 1)) := by
  refine zC_of (L0 := [some (.ref 81), some (.int (Int32.ofInt a0_)), none]) md_M_adds (Nat.le_of_ble_eq_true rfl) rfl ?_ zQ0
  have hf : zFr [38, 39] [95] Mz Mz := zFr.rf
  have r_26 := ze_r Mz 81 26
  have r_38 := ze_r Mz 81 38
  have gb := p0_.1
  refine zw_iconst (pc := 0) (v := Int32.ofInt 0) (by decide) d_M_adds_0 ?_
  refine zw_istore_n (pc := 1) (i := 2) (L2 := [some (.ref 81), some (.int (Int32.ofInt a0_)), some (.int (Int32.ofInt 0))]) rfl (by decide) rfl d_M_adds_1 ?_
  have lp_2 : ∀ (n : Nat) (u1_ : Int) (hu1_a : -2147483648 ≤ u1_) (hu1_b : u1_ < 2147483648) (N2_ : zMem) (hs3_ : zFr [] [95] Mz N2_) (i4_ : 0 ≤ u1_), (ze Mz 81 26 - u1_).toNat < n → zW l m_M_adds (zn Mz + 0, zw Mz + 0) N2_ 2 [some (.ref 81), some (.int (Int32.ofInt a0_)), some (.int (Int32.ofInt u1_))] [] (zpV [38, 39] [95] Mz (fun N => ze N 81 38 = ze Mz 81 38 - 1)) := by
    intro n
    induction n with
    | zero =>
      intro u1_ hu1_a hu1_b N2_ hs3_ i4_ h0
      exact absurd h0 (Nat.not_lt_zero _)
    | succ n ih_2 =>
      intro u1_ hu1_a hu1_b N2_ hs3_ i4_ hlt_2
      have hf_N2_ : zFr [38, 39] [95] Mz N2_ := hf.tr hs3_ (by decide) (by decide)
      have e26_N2_ : ze N2_ 81 26 = ze Mz 81 26 := hs3_.e (by decide)
      have e38_N2_ : ze N2_ 81 38 = ze Mz 81 38 := hs3_.e (by decide)
      have c5_ : zGD N2_ := zGD.fr hs3_ p0_ (by decide) (by decide)
      refine zw_iload_n (pc := 2) (n := 2) (x := Int32.ofInt u1_) rfl d_M_adds_2 ?_
      refine zw_aload_n (pc := 3) (n := 0) (x := 81) rfl d_M_adds_3 ?_
      refine zr_getI0 hf_N2_ hW (pc := 4) (by decide) f_M_235 rfl d_M_adds_4 ?_
      refine zr_icmp_ge (pc := 7) (tgt := 54) ⟨by omega, by omega⟩ ⟨by omega, by omega⟩ (by decide) d_M_adds_7 (fun hc_7 => ?_) (fun hc_7 => ?_)
      · skip
        refine zw_aload_n (pc := 54) (n := 0) (x := 81) rfl d_M_adds_54 ?_
        refine zw_dup (pc := 55) rfl d_M_adds_55 ?_
        refine zr_getI (hf_N2_.w hW) (pc := 56) f_M_268 rfl d_M_adds_56 ?_
        refine zw_iconst (pc := 59) (v := Int32.ofInt 1) (by decide) d_M_adds_59 ?_
        refine zr_isub (pc := 60) d_M_adds_60 ?_
        refine zr_putI (hf_N2_.w hW) (pc := 61) f_M_268 rfl rfl ⟨by omega, by omega⟩ rfl rfl d_M_adds_61 (fun N6_ hsN6_ hvN6_ => ?_)
        have hf_N6_ : zFr [38, 39] [95] Mz N6_ := hf_N2_.tr hsN6_ (by decide) (by decide)
        have e26_N6_ : ze N6_ 81 26 = ze N2_ 81 26 := hsN6_.e (by decide)
        have r38_N6_ := ze_r N6_ 81 38
        have c7_ : zGD N6_ := zGD.fr hsN6_ c5_ (by decide) (by decide)
        refine zw_aload_n (pc := 64) (n := 0) (x := 81) rfl d_M_adds_64 ?_
        refine zr_callV (hf_N6_.w hW) hf_N6_.x (pc := 65) [] [] l_M_279 (c_M_looks l N6_ (hf_N6_.w hW) c7_ (show 1 ≤ ze N6_ 81 38 by omega) (show ze N6_ 81 38 ≤ 40 by omega)) rfl rfl rfl (by decide) (Nat.le_of_ble_eq_true rfl) d_M_adds_65 ?_
        rintro _ N8_ ⟨rfl, hsN8_, -⟩
        have hf_N8_ : zFr [38, 39] [95] Mz N8_ := hf_N6_.tr hsN8_ (by decide) (by decide)
        have e26_N8_ : ze N8_ 81 26 = ze N6_ 81 26 := hsN8_.e (by decide)
        have e38_N8_ : ze N8_ 81 38 = ze N6_ 81 38 := hsN8_.e (by decide)
        have c10_ : zGD N8_ := zGD.fr hsN8_ c7_ (by decide) (by decide)
        show zW l m_M_adds (zn Mz + 0, zw Mz + 0) N8_ 68 [some (.ref 81), some (.int (Int32.ofInt a0_)), some (.int (Int32.ofInt u1_))] [] (zpV [38, 39] [95] Mz (fun N => ze N 81 38 = ze Mz 81 38 - 1))
        exact zr_vret (pc := 68) rfl hf_N8_ (show ze N8_ 81 38 = ze Mz 81 38 - 1 by omega) d_M_adds_68
      · skip
        refine zw_aload_n (pc := 10) (n := 0) (x := 81) rfl d_M_adds_10 ?_
        refine zr_getF (r := 95) (hf_N2_.w hW) (pc := 11) f_M_56 rfl (zh_95 (hf_N2_.w hW)).1 d_M_adds_11 ?_
        refine zw_bipush (pc := 14) (v := Int32.ofInt 64) (by decide) d_M_adds_14 ?_
        refine zw_aload_n (pc := 16) (n := 0) (x := 81) rfl d_M_adds_16 ?_
        refine zr_getI (hf_N2_.w hW) (pc := 17) f_M_268 rfl d_M_adds_17 ?_
        refine zw_iconst (pc := 20) (v := Int32.ofInt 2) (by decide) d_M_adds_20 ?_
        refine zr_isub (pc := 21) d_M_adds_21 ?_
        refine zr_imul (pc := 22) d_M_adds_22 ?_
        refine zw_iload_n (pc := 23) (n := 2) (x := Int32.ofInt u1_) rfl d_M_adds_23 ?_
        refine zr_iadd (pc := 24) d_M_adds_24 ?_
        refine zw_dup2 (pc := 25) rfl rfl d_M_adds_25 ?_
        refine zr_laldn (pc := 26) (zh_95 (hf_N2_.w hW)).2 (by decide) (by omega) (by omega) d_M_adds_26 (fun v11_ hv11_ hv11_a hv11_b => ?_)
        refine zw_iload_n (pc := 27) (n := 1) (x := Int32.ofInt a0_) rfl d_M_adds_27 ?_
        refine zr_i2l (pc := 28) ⟨by omega, by omega⟩ d_M_adds_28 ?_
        refine zw_aload_n (pc := 29) (n := 0) (x := 81) rfl d_M_adds_29 ?_
        refine zr_getF (r := 95) (hf_N2_.w hW) (pc := 30) f_M_56 rfl (zh_95 (hf_N2_.w hW)).1 d_M_adds_30 ?_
        refine zw_bipush (pc := 33) (v := Int32.ofInt 64) (by decide) d_M_adds_33 ?_
        refine zw_aload_n (pc := 35) (n := 0) (x := 81) rfl d_M_adds_35 ?_
        refine zr_getI (hf_N2_.w hW) (pc := 36) f_M_268 rfl d_M_adds_36 ?_
        refine zw_iconst (pc := 39) (v := Int32.ofInt 1) (by decide) d_M_adds_39 ?_
        refine zr_isub (pc := 40) d_M_adds_40 ?_
        refine zr_imul (pc := 41) d_M_adds_41 ?_
        refine zw_iload_n (pc := 42) (n := 2) (x := Int32.ofInt u1_) rfl d_M_adds_42 ?_
        refine zr_iadd (pc := 43) d_M_adds_43 ?_
        refine zr_laldn (pc := 44) (zh_95 (hf_N2_.w hW)).2 (by decide) (by omega) (by omega) d_M_adds_44 (fun v12_ hv12_ hv12_a hv12_b => ?_)
        refine zr_lmul (pc := 45) d_M_adds_45 ?_
        refine zr_ladd (pc := 46) d_M_adds_46 ?_
        refine zr_last (pc := 47) (zh_95 (hf_N2_.w hW)).2 (by decide) (by decide) (by omega) (by omega) d_M_adds_47 (fun N13_ hN13_ hsN13_ => ?_)
        have hf_N13_ : zFr [38, 39] [95] Mz N13_ := hf_N2_.tr hsN13_ (by decide) (by decide)
        have hb0_N13_ : zFr [] [95] Mz N13_ := hs3_.tr hsN13_ (by decide) (by decide)
        have e26_N13_ : ze N13_ 81 26 = ze N2_ 81 26 := hsN13_.e (by decide)
        have e38_N13_ : ze N13_ 81 38 = ze N2_ 81 38 := hsN13_.e (by decide)
        have c14_ : zGD N13_ := zGD.fr hsN13_ c5_ (by decide) (by decide)
        refine zr_iinc (pc := 48) (i := 2) (a := u1_) (n := 1) (L2 := [some (.ref 81), some (.int (Int32.ofInt a0_)), some (.int (Int32.ofInt (u1_ + 1)))]) rfl (by decide) rfl d_M_adds_48 ?_
        refine zw_goto (pc := 51) (tgt := 2) (by decide) d_M_adds_51 ?_
        exact ih_2 (u1_ + 1) (by omega) (by omega) N13_ hb0_N13_ (show 0 ≤ (u1_ + 1) by omega) (by omega)
  exact lp_2 _ 0 (by omega) (by omega) Mz zFr.rf (show 0 ≤ 0 by omega) (Nat.lt_succ_self _)
set_option maxHeartbeats 4000000 in
theorem c_M_powers (l : Launch) (Mz : zMem) (hW : zMt Mz) (a0_ : Int) (ha0_a : -2147483648 ≤ a0_) (ha0_b : a0_ < 2147483648) (p0_ : zGD Mz) (p1_ : 1 ≤ ze Mz 81 38) (p2_ : ze Mz 81 38 ≤ 40) : zC l m_M_powers 0 0 [.ref 81, .int (Int32.ofInt a0_)] Mz (zpV [39] [95, 96, 97] Mz (fun N => True)) := by
  refine zC_of (L0 := [some (.ref 81), some (.int (Int32.ofInt a0_)), none]) md_M_powers (Nat.le_of_ble_eq_true rfl) rfl ?_ zQ0
  have hf : zFr [39] [95, 96, 97] Mz Mz := zFr.rf
  have r_26 := ze_r Mz 81 26
  have r_38 := ze_r Mz 81 38
  have gb := p0_.1
  refine zw_aload_n (pc := 0) (n := 0) (x := 81) rfl d_M_powers_0 ?_
  refine zw_aload_n (pc := 1) (n := 0) (x := 81) rfl d_M_powers_1 ?_
  refine zr_getI0 hf hW (pc := 2) (by decide) f_M_268 rfl d_M_powers_2 ?_
  refine zw_iconst (pc := 5) (v := Int32.ofInt 1) (by decide) d_M_powers_5 ?_
  refine zr_isub (pc := 6) d_M_powers_6 ?_
  refine zw_aload_n (pc := 7) (n := 0) (x := 81) rfl d_M_powers_7 ?_
  refine zr_getF (r := 97) (hf.w hW) (pc := 8) f_M_63 rfl (zh_97 (hf.w hW)).1 d_M_powers_8 ?_
  refine zr_callV (hf.w hW) hf.x (pc := 11) [.int (Int32.ofInt ((ze Mz 81 38) - 1)), .ref 97] [] l_M_282 (c_M_marksOf_97 l Mz (hf.w hW) ((ze Mz 81 38) - 1) (by omega) (by omega) p0_ (show 0 ≤ ((ze Mz 81 38) - 1) by omega) (show ((ze Mz 81 38) - 1) ≤ 39 by omega)) rfl rfl rfl (by decide) (Nat.le_of_ble_eq_true rfl) d_M_powers_11 ?_
  rintro _ N1_ ⟨rfl, hsN1_, -⟩
  have hf_N1_ : zFr [39] [95, 96, 97] Mz N1_ := hf.tr hsN1_ (by decide) (by decide)
  have e26_N1_ : ze N1_ 81 26 = ze Mz 81 26 := hsN1_.e (by decide)
  have e38_N1_ : ze N1_ 81 38 = ze Mz 81 38 := hsN1_.e (by decide)
  have c3_ : zGD N1_ := zGD.fr hsN1_ p0_ (by decide) (by decide)
  show zW l m_M_powers (zn Mz + 0, zw Mz + 0) N1_ 14 [some (.ref 81), some (.int (Int32.ofInt a0_)), none] [] (zpV [39] [95, 96, 97] Mz (fun N => True))
  refine zw_iconst (pc := 14) (v := Int32.ofInt 0) (by decide) d_M_powers_14 ?_
  refine zw_istore_n (pc := 15) (i := 2) (L2 := [some (.ref 81), some (.int (Int32.ofInt a0_)), some (.int (Int32.ofInt 0))]) rfl (by decide) rfl d_M_powers_15 ?_
  have lp_16 : ∀ (n : Nat) (u4_ : Int) (hu4_a : -2147483648 ≤ u4_) (hu4_b : u4_ < 2147483648) (N5_ : zMem) (hs6_ : zFr [] [96] N1_ N5_) (i7_ : 0 ≤ u4_), (ze Mz 81 26 - u4_).toNat < n → zW l m_M_powers (zn Mz + 0, zw Mz + 0) N5_ 16 [some (.ref 81), some (.int (Int32.ofInt a0_)), some (.int (Int32.ofInt u4_))] [] (zpV [39] [95, 96, 97] Mz (fun N => True)) := by
    intro n
    induction n with
    | zero =>
      intro u4_ hu4_a hu4_b N5_ hs6_ i7_ h0
      exact absurd h0 (Nat.not_lt_zero _)
    | succ n ih_16 =>
      intro u4_ hu4_a hu4_b N5_ hs6_ i7_ hlt_16
      have hf_N5_ : zFr [39] [95, 96, 97] Mz N5_ := hf_N1_.tr hs6_ (by decide) (by decide)
      have e26_N5_ : ze N5_ 81 26 = ze N1_ 81 26 := hs6_.e (by decide)
      have e38_N5_ : ze N5_ 81 38 = ze N1_ 81 38 := hs6_.e (by decide)
      have c8_ : zGD N5_ := zGD.fr hs6_ c3_ (by decide) (by decide)
      refine zw_iload_n (pc := 16) (n := 2) (x := Int32.ofInt u4_) rfl d_M_powers_16 ?_
      refine zw_aload_n (pc := 17) (n := 0) (x := 81) rfl d_M_powers_17 ?_
      refine zr_getI0 hf_N5_ hW (pc := 18) (by decide) f_M_235 rfl d_M_powers_18 ?_
      refine zr_icmp_ge (pc := 21) (tgt := 37) ⟨by omega, by omega⟩ ⟨by omega, by omega⟩ (by decide) d_M_powers_21 (fun hc_21 => ?_) (fun hc_21 => ?_)
      · skip
        refine zw_iconst (pc := 37) (v := Int32.ofInt 0) (by decide) d_M_powers_37 ?_
        refine zw_istore_n (pc := 38) (i := 2) (L2 := [some (.ref 81), some (.int (Int32.ofInt a0_)), some (.int (Int32.ofInt 0))]) rfl (by decide) rfl d_M_powers_38 ?_
        have lp_39 : ∀ (n : Nat) (u9_ : Int) (hu9_a : -2147483648 ≤ u9_) (hu9_b : u9_ < 2147483648) (N10_ : zMem) (hs11_ : zFr [39] [95, 96] N5_ N10_) (i12_ : 0 ≤ u9_), (a0_ - u9_).toNat < n → zW l m_M_powers (zn Mz + 0, zw Mz + 0) N10_ 39 [some (.ref 81), some (.int (Int32.ofInt a0_)), some (.int (Int32.ofInt u9_))] [] (zpV [39] [95, 96, 97] Mz (fun N => True)) := by
          intro n
          induction n with
          | zero =>
            intro u9_ hu9_a hu9_b N10_ hs11_ i12_ h0
            exact absurd h0 (Nat.not_lt_zero _)
          | succ n ih_39 =>
            intro u9_ hu9_a hu9_b N10_ hs11_ i12_ hlt_39
            have hf_N10_ : zFr [39] [95, 96, 97] Mz N10_ := hf_N5_.tr hs11_ (by decide) (by decide)
            have e26_N10_ : ze N10_ 81 26 = ze N5_ 81 26 := hs11_.e (by decide)
            have e38_N10_ : ze N10_ 81 38 = ze N5_ 81 38 := hs11_.e (by decide)
            have c13_ : zGD N10_ := zGD.fr hs11_ c8_ (by decide) (by decide)
            refine zw_iload_n (pc := 39) (n := 2) (x := Int32.ofInt u9_) rfl d_M_powers_39 ?_
            refine zw_iload_n (pc := 40) (n := 1) (x := Int32.ofInt a0_) rfl d_M_powers_40 ?_
            refine zr_icmp_ge (pc := 41) (tgt := 79) ⟨by omega, by omega⟩ ⟨by omega, by omega⟩ (by decide) d_M_powers_41 (fun hc_41 => ?_) (fun hc_41 => ?_)
            · skip
              refine zw_iload_n (pc := 79) (n := 1) (x := Int32.ofInt a0_) rfl d_M_powers_79 ?_
              refine zr_if_ne (pc := 80) (tgt := 104) ⟨by omega, by omega⟩ (by decide) d_M_powers_80 (fun hc_80 => ?_) (fun hc_80 => ?_)
              · skip
                exact zr_vret (pc := 104) rfl hf_N10_ trivial d_M_powers_104
              · skip
                refine zw_aload_n (pc := 83) (n := 0) (x := 81) rfl d_M_powers_83 ?_
                refine zw_aload_n (pc := 84) (n := 0) (x := 81) rfl d_M_powers_84 ?_
                refine zr_getF (r := 96) (hf_N10_.w hW) (pc := 85) f_M_60 rfl (zh_96 (hf_N10_.w hW)).1 d_M_powers_85 ?_
                refine zw_aload_n (pc := 88) (n := 0) (x := 81) rfl d_M_powers_88 ?_
                refine zr_getF (r := 95) (hf_N10_.w hW) (pc := 89) f_M_56 rfl (zh_95 (hf_N10_.w hW)).1 d_M_powers_89 ?_
                refine zw_bipush (pc := 92) (v := Int32.ofInt 64) (by decide) d_M_powers_92 ?_
                refine zw_aload_n (pc := 94) (n := 0) (x := 81) rfl d_M_powers_94 ?_
                refine zr_getI0 hf_N10_ hW (pc := 95) (by decide) f_M_268 rfl d_M_powers_95 ?_
                refine zw_iconst (pc := 98) (v := Int32.ofInt 1) (by decide) d_M_powers_98 ?_
                refine zr_isub (pc := 99) d_M_powers_99 ?_
                refine zr_imul (pc := 100) d_M_powers_100 ?_
                refine zr_callV (hf_N10_.w hW) hf_N10_.x (pc := 101) [.ref 96, .ref 95, .int (Int32.ofInt (64 * ((ze Mz 81 38) - 1)))] [] l_M_289 (c_M_numbers_96_95 l N10_ (hf_N10_.w hW) (64 * ((ze Mz 81 38) - 1)) (by omega) (by omega) c13_ (show 0 ≤ (64 * ((ze Mz 81 38) - 1)) by omega) (show (64 * ((ze Mz 81 38) - 1)) ≤ 2496 by omega)) rfl rfl rfl (by decide) (Nat.le_of_ble_eq_true rfl) d_M_powers_101 ?_
                rintro _ N14_ ⟨rfl, hsN14_, -⟩
                have hf_N14_ : zFr [39] [95, 96, 97] Mz N14_ := hf_N10_.tr hsN14_ (by decide) (by decide)
                have e26_N14_ : ze N14_ 81 26 = ze N10_ 81 26 := hsN14_.e (by decide)
                have e38_N14_ : ze N14_ 81 38 = ze N10_ 81 38 := hsN14_.e (by decide)
                have c16_ : zGD N14_ := zGD.fr hsN14_ c13_ (by decide) (by decide)
                show zW l m_M_powers (zn Mz + 0, zw Mz + 0) N14_ 104 [some (.ref 81), some (.int (Int32.ofInt a0_)), some (.int (Int32.ofInt u9_))] [] (zpV [39] [95, 96, 97] Mz (fun N => True))
                exact zr_vret (pc := 104) rfl hf_N14_ trivial d_M_powers_104
            · skip
              refine zw_aload_n (pc := 44) (n := 0) (x := 81) rfl d_M_powers_44 ?_
              refine zr_callV (hf_N10_.w hW) hf_N10_.x (pc := 45) [] [] l_M_286 (c_M_multiplies l N10_ (hf_N10_.w hW) c13_) rfl rfl rfl (by decide) (Nat.le_of_ble_eq_true rfl) d_M_powers_45 ?_
              rintro _ N17_ ⟨rfl, hsN17_, -⟩
              have hf_N17_ : zFr [39] [95, 96, 97] Mz N17_ := hf_N10_.tr hsN17_ (by decide) (by decide)
              have hb0_N17_ : zFr [39] [95, 96] N5_ N17_ := hs11_.tr hsN17_ (by decide) (by decide)
              have e26_N17_ : ze N17_ 81 26 = ze N10_ 81 26 := hsN17_.e (by decide)
              have e38_N17_ : ze N17_ 81 38 = ze N10_ 81 38 := hsN17_.e (by decide)
              have c19_ : zGD N17_ := zGD.fr hsN17_ c13_ (by decide) (by decide)
              show zW l m_M_powers (zn Mz + 0, zw Mz + 0) N17_ 48 [some (.ref 81), some (.int (Int32.ofInt a0_)), some (.int (Int32.ofInt u9_))] [] (zpV [39] [95, 96, 97] Mz (fun N => True))
              refine zw_aload_n (pc := 48) (n := 0) (x := 81) rfl d_M_powers_48 ?_
              refine zw_aload_n (pc := 49) (n := 0) (x := 81) rfl d_M_powers_49 ?_
              refine zr_getF (r := 96) (hf_N17_.w hW) (pc := 50) f_M_60 rfl (zh_96 (hf_N17_.w hW)).1 d_M_powers_50 ?_
              refine zw_aload_n (pc := 53) (n := 0) (x := 81) rfl d_M_powers_53 ?_
              refine zr_getF (r := 95) (hf_N17_.w hW) (pc := 54) f_M_56 rfl (zh_95 (hf_N17_.w hW)).1 d_M_powers_54 ?_
              refine zw_bipush (pc := 57) (v := Int32.ofInt 64) (by decide) d_M_powers_57 ?_
              refine zw_aload_n (pc := 59) (n := 0) (x := 81) rfl d_M_powers_59 ?_
              refine zr_getI0 hf_N17_ hW (pc := 60) (by decide) f_M_268 rfl d_M_powers_60 ?_
              refine zw_iconst (pc := 63) (v := Int32.ofInt 1) (by decide) d_M_powers_63 ?_
              refine zr_isub (pc := 64) d_M_powers_64 ?_
              refine zr_imul (pc := 65) d_M_powers_65 ?_
              refine zr_callV (hf_N17_.w hW) hf_N17_.x (pc := 66) [.ref 96, .ref 95, .int (Int32.ofInt (64 * ((ze Mz 81 38) - 1)))] [] l_M_289 (c_M_numbers_96_95 l N17_ (hf_N17_.w hW) (64 * ((ze Mz 81 38) - 1)) (by omega) (by omega) c19_ (show 0 ≤ (64 * ((ze Mz 81 38) - 1)) by omega) (show (64 * ((ze Mz 81 38) - 1)) ≤ 2496 by omega)) rfl rfl rfl (by decide) (Nat.le_of_ble_eq_true rfl) d_M_powers_66 ?_
              rintro _ N20_ ⟨rfl, hsN20_, -⟩
              have hf_N20_ : zFr [39] [95, 96, 97] Mz N20_ := hf_N17_.tr hsN20_ (by decide) (by decide)
              have hb0_N20_ : zFr [39] [95, 96] N5_ N20_ := hb0_N17_.tr hsN20_ (by decide) (by decide)
              have e26_N20_ : ze N20_ 81 26 = ze N17_ 81 26 := hsN20_.e (by decide)
              have e38_N20_ : ze N20_ 81 38 = ze N17_ 81 38 := hsN20_.e (by decide)
              have c22_ : zGD N20_ := zGD.fr hsN20_ c19_ (by decide) (by decide)
              show zW l m_M_powers (zn Mz + 0, zw Mz + 0) N20_ 69 [some (.ref 81), some (.int (Int32.ofInt a0_)), some (.int (Int32.ofInt u9_))] [] (zpV [39] [95, 96, 97] Mz (fun N => True))
              refine zw_aload_n (pc := 69) (n := 0) (x := 81) rfl d_M_powers_69 ?_
              refine zr_callV (hf_N20_.w hW) hf_N20_.x (pc := 70) [] [] l_M_279 (c_M_looks l N20_ (hf_N20_.w hW) c22_ (show 1 ≤ ze N20_ 81 38 by omega) (show ze N20_ 81 38 ≤ 40 by omega)) rfl rfl rfl (by decide) (Nat.le_of_ble_eq_true rfl) d_M_powers_70 ?_
              rintro _ N23_ ⟨rfl, hsN23_, -⟩
              have hf_N23_ : zFr [39] [95, 96, 97] Mz N23_ := hf_N20_.tr hsN23_ (by decide) (by decide)
              have hb0_N23_ : zFr [39] [95, 96] N5_ N23_ := hb0_N20_.tr hsN23_ (by decide) (by decide)
              have e26_N23_ : ze N23_ 81 26 = ze N20_ 81 26 := hsN23_.e (by decide)
              have e38_N23_ : ze N23_ 81 38 = ze N20_ 81 38 := hsN23_.e (by decide)
              have c25_ : zGD N23_ := zGD.fr hsN23_ c22_ (by decide) (by decide)
              show zW l m_M_powers (zn Mz + 0, zw Mz + 0) N23_ 73 [some (.ref 81), some (.int (Int32.ofInt a0_)), some (.int (Int32.ofInt u9_))] [] (zpV [39] [95, 96, 97] Mz (fun N => True))
              refine zr_iinc (pc := 73) (i := 2) (a := u9_) (n := 1) (L2 := [some (.ref 81), some (.int (Int32.ofInt a0_)), some (.int (Int32.ofInt (u9_ + 1)))]) rfl (by decide) rfl d_M_powers_73 ?_
              refine zw_goto (pc := 76) (tgt := 39) (by decide) d_M_powers_76 ?_
              exact ih_39 (u9_ + 1) (by omega) (by omega) N23_ hb0_N23_ (show 0 ≤ (u9_ + 1) by omega) (by omega)
        exact lp_39 _ 0 (by omega) (by omega) N5_ zFr.rf (show 0 ≤ 0 by omega) (Nat.lt_succ_self _)
      · skip
        refine zw_aload_n (pc := 24) (n := 0) (x := 81) rfl d_M_powers_24 ?_
        refine zr_getF (r := 96) (hf_N5_.w hW) (pc := 25) f_M_60 rfl (zh_96 (hf_N5_.w hW)).1 d_M_powers_25 ?_
        refine zw_iload_n (pc := 28) (n := 2) (x := Int32.ofInt u4_) rfl d_M_powers_28 ?_
        refine zw_lconst (pc := 29) (v := Int64.ofInt 1) (by decide) d_M_powers_29 ?_
        refine zr_last (pc := 30) (zh_96 (hf_N5_.w hW)).2 (by decide) (by decide) (by omega) (by omega) d_M_powers_30 (fun N26_ hN26_ hsN26_ => ?_)
        have hf_N26_ : zFr [39] [95, 96, 97] Mz N26_ := hf_N5_.tr hsN26_ (by decide) (by decide)
        have hb0_N26_ : zFr [] [96] N1_ N26_ := hs6_.tr hsN26_ (by decide) (by decide)
        have e26_N26_ : ze N26_ 81 26 = ze N5_ 81 26 := hsN26_.e (by decide)
        have e38_N26_ : ze N26_ 81 38 = ze N5_ 81 38 := hsN26_.e (by decide)
        have c27_ : zGD N26_ := zGD.fr hsN26_ c8_ (by decide) (by decide)
        refine zr_iinc (pc := 31) (i := 2) (a := u4_) (n := 1) (L2 := [some (.ref 81), some (.int (Int32.ofInt a0_)), some (.int (Int32.ofInt (u4_ + 1)))]) rfl (by decide) rfl d_M_powers_31 ?_
        refine zw_goto (pc := 34) (tgt := 16) (by decide) d_M_powers_34 ?_
        exact ih_16 (u4_ + 1) (by omega) (by omega) N26_ hb0_N26_ (show 0 ≤ (u4_ + 1) by omega) (by omega)
  exact lp_16 _ 0 (by omega) (by omega) N1_ zFr.rf (show 0 ≤ 0 by omega) (Nat.lt_succ_self _)
set_option maxHeartbeats 4000000 in
theorem c_M_negates (l : Launch) (Mz : zMem) (hW : zMt Mz) (p0_ : zGD Mz) (p1_ : 1 ≤ ze Mz 81 38) (p2_ : ze Mz 81 38 ≤ 40) : zC l m_M_negates 0 0 [.ref 81] Mz (zpV [] [95] Mz (fun N => True)) := by
  refine zC_of (L0 := [some (.ref 81), none]) md_M_negates (Nat.le_of_ble_eq_true rfl) rfl ?_ zQ0
  have hf : zFr [] [95] Mz Mz := zFr.rf
  have r_26 := ze_r Mz 81 26
  have r_38 := ze_r Mz 81 38
  have gb := p0_.1
  refine zw_iconst (pc := 0) (v := Int32.ofInt 0) (by decide) d_M_negates_0 ?_
  refine zw_istore_n (pc := 1) (i := 1) (L2 := [some (.ref 81), some (.int (Int32.ofInt 0))]) rfl (by decide) rfl d_M_negates_1 ?_
  have lp_2 : ∀ (n : Nat) (u1_ : Int) (hu1_a : -2147483648 ≤ u1_) (hu1_b : u1_ < 2147483648) (N2_ : zMem) (hs3_ : zFr [] [95] Mz N2_) (i4_ : 0 ≤ u1_), (ze Mz 81 26 - u1_).toNat < n → zW l m_M_negates (zn Mz + 0, zw Mz + 0) N2_ 2 [some (.ref 81), some (.int (Int32.ofInt u1_))] [] (zpV [] [95] Mz (fun N => True)) := by
    intro n
    induction n with
    | zero =>
      intro u1_ hu1_a hu1_b N2_ hs3_ i4_ h0
      exact absurd h0 (Nat.not_lt_zero _)
    | succ n ih_2 =>
      intro u1_ hu1_a hu1_b N2_ hs3_ i4_ hlt_2
      have hf_N2_ : zFr [] [95] Mz N2_ := hf.tr hs3_ (by decide) (by decide)
      have e26_N2_ : ze N2_ 81 26 = ze Mz 81 26 := hs3_.e (by decide)
      have e38_N2_ : ze N2_ 81 38 = ze Mz 81 38 := hs3_.e (by decide)
      have c5_ : zGD N2_ := zGD.fr hs3_ p0_ (by decide) (by decide)
      refine zw_iload_n (pc := 2) (n := 1) (x := Int32.ofInt u1_) rfl d_M_negates_2 ?_
      refine zw_aload_n (pc := 3) (n := 0) (x := 81) rfl d_M_negates_3 ?_
      refine zr_getI0 hf_N2_ hW (pc := 4) (by decide) f_M_235 rfl d_M_negates_4 ?_
      refine zr_icmp_ge (pc := 7) (tgt := 49) ⟨by omega, by omega⟩ ⟨by omega, by omega⟩ (by decide) d_M_negates_7 (fun hc_7 => ?_) (fun hc_7 => ?_)
      · skip
        exact zr_vret (pc := 49) rfl hf_N2_ trivial d_M_negates_49
      · skip
        refine zw_aload_n (pc := 10) (n := 0) (x := 81) rfl d_M_negates_10 ?_
        refine zr_getF (r := 95) (hf_N2_.w hW) (pc := 11) f_M_56 rfl (zh_95 (hf_N2_.w hW)).1 d_M_negates_11 ?_
        refine zw_bipush (pc := 14) (v := Int32.ofInt 64) (by decide) d_M_negates_14 ?_
        refine zw_aload_n (pc := 16) (n := 0) (x := 81) rfl d_M_negates_16 ?_
        refine zr_getI0 hf_N2_ hW (pc := 17) (by decide) f_M_268 rfl d_M_negates_17 ?_
        refine zw_iconst (pc := 20) (v := Int32.ofInt 1) (by decide) d_M_negates_20 ?_
        refine zr_isub (pc := 21) d_M_negates_21 ?_
        refine zr_imul (pc := 22) d_M_negates_22 ?_
        refine zw_iload_n (pc := 23) (n := 1) (x := Int32.ofInt u1_) rfl d_M_negates_23 ?_
        refine zr_iadd (pc := 24) d_M_negates_24 ?_
        refine zw_aload_n (pc := 25) (n := 0) (x := 81) rfl d_M_negates_25 ?_
        refine zr_getF (r := 95) (hf_N2_.w hW) (pc := 26) f_M_56 rfl (zh_95 (hf_N2_.w hW)).1 d_M_negates_26 ?_
        refine zw_bipush (pc := 29) (v := Int32.ofInt 64) (by decide) d_M_negates_29 ?_
        refine zw_aload_n (pc := 31) (n := 0) (x := 81) rfl d_M_negates_31 ?_
        refine zr_getI0 hf_N2_ hW (pc := 32) (by decide) f_M_268 rfl d_M_negates_32 ?_
        refine zw_iconst (pc := 35) (v := Int32.ofInt 1) (by decide) d_M_negates_35 ?_
        refine zr_isub (pc := 36) d_M_negates_36 ?_
        refine zr_imul (pc := 37) d_M_negates_37 ?_
        refine zw_iload_n (pc := 38) (n := 1) (x := Int32.ofInt u1_) rfl d_M_negates_38 ?_
        refine zr_iadd (pc := 39) d_M_negates_39 ?_
        refine zr_laldn (pc := 40) (zh_95 (hf_N2_.w hW)).2 (by decide) (by omega) (by omega) d_M_negates_40 (fun v6_ hv6_ hv6_a hv6_b => ?_)
        refine zr_lneg (pc := 41) d_M_negates_41 ?_
        refine zr_last (pc := 42) (zh_95 (hf_N2_.w hW)).2 (by decide) (by decide) (by omega) (by omega) d_M_negates_42 (fun N7_ hN7_ hsN7_ => ?_)
        have hf_N7_ : zFr [] [95] Mz N7_ := hf_N2_.tr hsN7_ (by decide) (by decide)
        have hb0_N7_ : zFr [] [95] Mz N7_ := hs3_.tr hsN7_ (by decide) (by decide)
        have e26_N7_ : ze N7_ 81 26 = ze N2_ 81 26 := hsN7_.e (by decide)
        have e38_N7_ : ze N7_ 81 38 = ze N2_ 81 38 := hsN7_.e (by decide)
        have c8_ : zGD N7_ := zGD.fr hsN7_ c5_ (by decide) (by decide)
        refine zr_iinc (pc := 43) (i := 1) (a := u1_) (n := 1) (L2 := [some (.ref 81), some (.int (Int32.ofInt (u1_ + 1)))]) rfl (by decide) rfl d_M_negates_43 ?_
        refine zw_goto (pc := 46) (tgt := 2) (by decide) d_M_negates_46 ?_
        exact ih_2 (u1_ + 1) (by omega) (by omega) N7_ hb0_N7_ (show 0 ≤ (u1_ + 1) by omega) (by omega)
  exact lp_2 _ 0 (by omega) (by omega) Mz zFr.rf (show 0 ≤ 0 by omega) (Nat.lt_succ_self _)
set_option maxHeartbeats 4000000 in
theorem c_M_isOpen (l : Launch) (Mz : zMem) (hW : zMt Mz) (p0_ : 0 ≤ ze Mz 81 41) (p1_ : ze Mz 81 41 ≤ 80) : zC l m_M_isOpen 0 0 [.ref 81] Mz (zpI [] [] Mz (fun v N => (((v = 1 ∧ zcw Mz ≤ ze Mz 81 41 - 1) ∨ (v = 0))))) := by
  refine zC_of (L0 := [some (.ref 81), none]) md_M_isOpen (Nat.le_of_ble_eq_true rfl) rfl ?_ zQ0
  have hf : zFr [] [] Mz Mz := zFr.rf
  have r_41 := ze_r Mz 81 41
  refine zw_iconst (pc := 0) (v := Int32.ofInt 0) (by decide) d_M_isOpen_0 ?_
  refine zw_istore_n (pc := 1) (i := 1) (L2 := [some (.ref 81), some (.int (Int32.ofInt 0))]) rfl (by decide) rfl d_M_isOpen_1 ?_
  have lp_2 : ∀ (n : Nat) (u1_ : Int) (hu1_a : -2147483648 ≤ u1_) (hu1_b : u1_ < 2147483648) (i2_ : 0 ≤ u1_), (ze Mz 81 41 - u1_).toNat < n → zW l m_M_isOpen (zn Mz + 0, zw Mz + 0) Mz 2 [some (.ref 81), some (.int (Int32.ofInt u1_))] [] (zpI [] [] Mz (fun v N => (((v = 1 ∧ zcw Mz ≤ ze Mz 81 41 - 1) ∨ (v = 0))))) := by
    intro n
    induction n with
    | zero =>
      intro u1_ hu1_a hu1_b i2_ h0
      exact absurd h0 (Nat.not_lt_zero _)
    | succ n ih_2 =>
      intro u1_ hu1_a hu1_b i2_ hlt_2
      refine zw_iload_n (pc := 2) (n := 1) (x := Int32.ofInt u1_) rfl d_M_isOpen_2 ?_
      refine zw_aload_n (pc := 3) (n := 0) (x := 81) rfl d_M_isOpen_3 ?_
      refine zr_getI0 hf hW (pc := 4) (by decide) f_M_305 rfl d_M_isOpen_4 ?_
      refine zr_icmp_ge (pc := 7) (tgt := 27) ⟨by omega, by omega⟩ ⟨by omega, by omega⟩ (by decide) d_M_isOpen_7 (fun hc_7 => ?_) (fun hc_7 => ?_)
      · skip
        refine zw_iconst (pc := 27) (v := Int32.ofInt 0) (by decide) d_M_isOpen_27 ?_
        exact zr_iret (pc := 28) (ty := .boolean) rfl (z_narB (by omega)) ⟨by omega, by omega⟩ hf (show ((0 = 1 ∧ zcw Mz ≤ ze Mz 81 41 - 1) ∨ (0 = 0)) from Or.inr ((show 0 = 0 by omega))) d_M_isOpen_28
      · skip
        refine zw_aload_n (pc := 10) (n := 0) (x := 81) rfl d_M_isOpen_10 ?_
        refine zr_getF (r := 100) (hf.w hW) (pc := 11) f_M_72 rfl (zh_100 (hf.w hW)).1 d_M_isOpen_11 ?_
        refine zw_iload_n (pc := 14) (n := 1) (x := Int32.ofInt u1_) rfl d_M_isOpen_14 ?_
        refine zr_ialdn (pc := 15) (zh_100 (hf.w hW)).2 (by decide) (by omega) (by omega) d_M_isOpen_15 (fun v3_ hv3_ hv3_a hv3_b => ?_)
        refine zr_if_ne (pc := 16) (tgt := 21) ⟨by omega, by omega⟩ (by decide) d_M_isOpen_16 (fun hc_16 => ?_) (fun hc_16 => ?_)
        · skip
          refine zr_iinc (pc := 21) (i := 1) (a := u1_) (n := 1) (L2 := [some (.ref 81), some (.int (Int32.ofInt (u1_ + 1)))]) rfl (by decide) rfl d_M_isOpen_21 ?_
          refine zw_goto (pc := 24) (tgt := 2) (by decide) d_M_isOpen_24 ?_
          exact ih_2 (u1_ + 1) (by omega) (by omega) (show 0 ≤ (u1_ + 1) by omega) (by omega)
        · skip
          refine zw_iconst (pc := 19) (v := Int32.ofInt 1) (by decide) d_M_isOpen_19 ?_
          exact zr_iret (pc := 20) (ty := .boolean) rfl (z_narB (by omega)) ⟨by omega, by omega⟩ hf (show ((1 = 1 ∧ zcw Mz ≤ ze Mz 81 41 - 1) ∨ (1 = 0)) from Or.inl (⟨(show 1 = 1 by first | omega | exact zct_lt (by omega) (by omega) (by omega)), (show zcw Mz ≤ ze Mz 81 41 - 1 by first | omega | exact zct_lt (by omega) (by omega) (by omega))⟩)) d_M_isOpen_20
  exact lp_2 _ 0 (by omega) (by omega) (show 0 ≤ 0 by omega) (Nat.lt_succ_self _)
set_option maxHeartbeats 4000000 in
theorem c_M_works (l : Launch) (Mz : zMem) (hW : zMt Mz) (a0_ : Int) (ha0_a : -2147483648 ≤ a0_) (ha0_b : a0_ < 2147483648) (p0_ : zGD Mz) (p1_ : 2 ≤ a0_) (p2_ : 0 ≤ ze Mz 81 41) (p3_ : ze Mz 81 41 ≤ 80) (p4_ : ze Mz 81 38 = zcw Mz + 1) (p5_ : ze Mz 81 38 ≤ 40) : zC l m_M_works 0 0 [.ref 81, .int (Int32.ofInt a0_)] Mz (zpV [38, 39, 41] [95, 96, 97] Mz (fun N => 0 ≤ ze N 81 41 ∧ ze N 81 41 ≤ ze Mz 81 41 ∧ ze N 81 38 = zcw N + 1 ∧ ze N 81 41 - zcw N = ze Mz 81 41 - zcw Mz ∧ ze N 81 38 ≤ ze Mz 81 38 ∧ ((ze N 81 41 = 0 ∨ ze Mz 100 (ze N 81 41 - 1).toNat < a0_)))) := by
  refine zC_of (L0 := [some (.ref 81), some (.int (Int32.ofInt a0_)), none]) md_M_works (Nat.le_of_ble_eq_true rfl) rfl ?_ zQ0
  have hf : zFr [38, 39, 41] [95, 96, 97] Mz Mz := zFr.rf
  have r_38 := ze_r Mz 81 38
  have r_41 := ze_r Mz 81 41
  have lp_0 : ∀ (n : Nat) (N1_ : zMem) (hs2_ : zFr [38, 39, 41] [95, 96, 97] Mz N1_) (i3_ : 0 ≤ ze N1_ 81 41) (i4_ : ze N1_ 81 41 ≤ ze Mz 81 41) (i5_ : ze N1_ 81 38 = zcw N1_ + 1) (i6_ : ze N1_ 81 41 - zcw N1_ = ze Mz 81 41 - zcw Mz) (i7_ : ze N1_ 81 38 ≤ ze Mz 81 38), (ze N1_ 81 41).toNat < n → zW l m_M_works (zn Mz + 0, zw Mz + 0) N1_ 0 [some (.ref 81), some (.int (Int32.ofInt a0_)), none] [] (zpV [38, 39, 41] [95, 96, 97] Mz (fun N => 0 ≤ ze N 81 41 ∧ ze N 81 41 ≤ ze Mz 81 41 ∧ ze N 81 38 = zcw N + 1 ∧ ze N 81 41 - zcw N = ze Mz 81 41 - zcw Mz ∧ ze N 81 38 ≤ ze Mz 81 38 ∧ ((ze N 81 41 = 0 ∨ ze Mz 100 (ze N 81 41 - 1).toNat < a0_)))) := by
    intro n
    induction n with
    | zero =>
      intro N1_ hs2_ i3_ i4_ i5_ i6_ i7_ h0
      exact absurd h0 (Nat.not_lt_zero _)
    | succ n ih_0 =>
      intro N1_ hs2_ i3_ i4_ i5_ i6_ i7_ hlt_0
      have hf_N1_ : zFr [38, 39, 41] [95, 96, 97] Mz N1_ := hf.tr hs2_ (by decide) (by decide)
      have r38_N1_ := ze_r N1_ 81 38
      have r41_N1_ := ze_r N1_ 81 41
      have c8_ : zGD N1_ := zGD.fr hs2_ p0_ (by decide) (by decide)
      refine zw_aload_n (pc := 0) (n := 0) (x := 81) rfl d_M_works_0 ?_
      refine zr_getI (hf_N1_.w hW) (pc := 1) f_M_305 rfl d_M_works_1 ?_
      refine zr_if_le (pc := 4) (tgt := 73) ⟨by omega, by omega⟩ (by decide) d_M_works_4 (fun hc_4 => ?_) (fun hc_4 => ?_)
      · skip
        exact zr_vret (pc := 73) rfl hf_N1_ ⟨(show 0 ≤ ze N1_ 81 41 by omega), (show ze N1_ 81 41 ≤ ze Mz 81 41 by omega), (show ze N1_ 81 38 = zcw N1_ + 1 by omega), (show ze N1_ 81 41 - zcw N1_ = ze Mz 81 41 - zcw Mz by omega), (show ze N1_ 81 38 ≤ ze Mz 81 38 by omega), (show (ze N1_ 81 41 = 0 ∨ ze Mz 100 (ze N1_ 81 41 - 1).toNat < a0_) by omega)⟩ d_M_works_73
      · skip
        refine zw_aload_n (pc := 7) (n := 0) (x := 81) rfl d_M_works_7 ?_
        refine zr_getF (r := 100) (hf_N1_.w hW) (pc := 8) f_M_72 rfl (zh_100 (hf_N1_.w hW)).1 d_M_works_8 ?_
        refine zw_aload_n (pc := 11) (n := 0) (x := 81) rfl d_M_works_11 ?_
        refine zr_getI (hf_N1_.w hW) (pc := 12) f_M_305 rfl d_M_works_12 ?_
        refine zw_iconst (pc := 15) (v := Int32.ofInt 1) (by decide) d_M_works_15 ?_
        refine zr_isub (pc := 16) d_M_works_16 ?_
        refine zr_ialdn (pc := 17) (zh_100 (hf_N1_.w hW)).2 (by decide) (by omega) (by omega) d_M_works_17 (fun v9_ hv9_ hv9_a hv9_b => ?_)
        rw [hf_N1_.ie (by decide) (by decide)] at hv9_
        refine zw_iload_n (pc := 18) (n := 1) (x := Int32.ofInt a0_) rfl d_M_works_18 ?_
        refine zr_icmp_lt (pc := 19) (tgt := 73) ⟨by omega, by omega⟩ ⟨by omega, by omega⟩ (by decide) d_M_works_19 (fun hc_19 => ?_) (fun hc_19 => ?_)
        · skip
          exact zr_vret (pc := 73) rfl hf_N1_ ⟨(show 0 ≤ ze N1_ 81 41 by omega), (show ze N1_ 81 41 ≤ ze Mz 81 41 by omega), (show ze N1_ 81 38 = zcw N1_ + 1 by omega), (show ze N1_ 81 41 - zcw N1_ = ze Mz 81 41 - zcw Mz by omega), (show ze N1_ 81 38 ≤ ze Mz 81 38 by omega), (show (ze N1_ 81 41 = 0 ∨ ze Mz 100 (ze N1_ 81 41 - 1).toNat < a0_) by omega)⟩ d_M_works_73
        · skip
          refine zw_aload_n (pc := 22) (n := 0) (x := 81) rfl d_M_works_22 ?_
          refine zr_getF (r := 100) (hf_N1_.w hW) (pc := 23) f_M_72 rfl (zh_100 (hf_N1_.w hW)).1 d_M_works_23 ?_
          refine zw_aload_n (pc := 26) (n := 0) (x := 81) rfl d_M_works_26 ?_
          refine zr_getI (hf_N1_.w hW) (pc := 27) f_M_305 rfl d_M_works_27 ?_
          refine zw_iconst (pc := 30) (v := Int32.ofInt 1) (by decide) d_M_works_30 ?_
          refine zr_isub (pc := 31) d_M_works_31 ?_
          refine zr_ialdn (pc := 32) (zh_100 (hf_N1_.w hW)).2 (by decide) (by omega) (by omega) d_M_works_32 (fun v10_ hv10_ hv10_a hv10_b => ?_)
          rw [hf_N1_.ie (by decide) (by decide)] at hv10_
          refine zw_istore_n (pc := 33) (i := 2) (L2 := [some (.ref 81), some (.int (Int32.ofInt a0_)), some (.int (Int32.ofInt v10_))]) rfl (by decide) rfl d_M_works_33 ?_
          refine zw_aload_n (pc := 34) (n := 0) (x := 81) rfl d_M_works_34 ?_
          refine zw_dup (pc := 35) rfl d_M_works_35 ?_
          refine zr_getI (hf_N1_.w hW) (pc := 36) f_M_305 rfl d_M_works_36 ?_
          refine zw_iconst (pc := 39) (v := Int32.ofInt 1) (by decide) d_M_works_39 ?_
          refine zr_isub (pc := 40) d_M_works_40 ?_
          refine zr_putI (hf_N1_.w hW) (pc := 41) f_M_305 rfl rfl ⟨by omega, by omega⟩ rfl rfl d_M_works_41 (fun N11_ hsN11_ hvN11_ => ?_)
          have hf_N11_ : zFr [38, 39, 41] [95, 96, 97] Mz N11_ := hf_N1_.tr hsN11_ (by decide) (by decide)
          have hb0_N11_ : zFr [38, 39, 41] [95, 96, 97] Mz N11_ := hs2_.tr hsN11_ (by decide) (by decide)
          have e38_N11_ : ze N11_ 81 38 = ze N1_ 81 38 := hsN11_.e (by decide)
          have r41_N11_ := ze_r N11_ 81 41
          have c12_ : zGD N11_ := zGD.fr hsN11_ c8_ (by decide) (by decide)
          have hd_N11_ := zcw_dec hsN11_ hvN11_ (by omega)
          have hy_N11_ := zcw_b N11_ (by omega)
          have hi_N11_ := hf_N1_.ie (q := 100) (by decide) (by decide) (ze N1_ 81 41 - 1).toNat
          refine zw_iload_n (pc := 44) (n := 2) (x := Int32.ofInt v10_) rfl d_M_works_44 ?_
          refine zw_iconst (pc := 45) (v := Int32.ofInt 4) (by decide) d_M_works_45 ?_
          refine zr_icmp_ne (pc := 46) (tgt := 56) ⟨by omega, by omega⟩ ⟨by omega, by omega⟩ (by decide) d_M_works_46 (fun hc_46 => ?_) (fun hc_46 => ?_)
          · skip
            refine zw_aload_n (pc := 56) (n := 0) (x := 81) rfl d_M_works_56 ?_
            refine zw_iload_n (pc := 57) (n := 2) (x := Int32.ofInt v10_) rfl d_M_works_57 ?_
            refine zw_iconst (pc := 58) (v := Int32.ofInt 2) (by decide) d_M_works_58 ?_
            refine zr_icmp_ne (pc := 59) (tgt := 66) ⟨by omega, by omega⟩ ⟨by omega, by omega⟩ (by decide) d_M_works_59 (fun hc_59 => ?_) (fun hc_59 => ?_)
            · skip
              refine zw_iconst (pc := 66) (v := Int32.ofInt (-1)) (by decide) d_M_works_66 ?_
              refine zr_callV (hf_N11_.w hW) hf_N11_.x (pc := 67) [.int (Int32.ofInt ((-1)))] [] l_M_334 (c_M_adds l N11_ (hf_N11_.w hW) ((-1)) (by omega) (by omega) c12_ (show 2 ≤ ze N11_ 81 38 by omega) (show ze N11_ 81 38 ≤ 40 by omega)) rfl rfl rfl (by decide) (Nat.le_of_ble_eq_true rfl) d_M_works_67 ?_
              rintro _ N13_ ⟨rfl, hsN13_, hp0_N13_⟩
              replace hp0_N13_ : ze N13_ 81 38 = ze N11_ 81 38 - 1 := hp0_N13_
              have hf_N13_ : zFr [38, 39, 41] [95, 96, 97] Mz N13_ := hf_N11_.tr hsN13_ (by decide) (by decide)
              have hb0_N13_ : zFr [38, 39, 41] [95, 96, 97] Mz N13_ := hb0_N11_.tr hsN13_ (by decide) (by decide)
              have r38_N13_ := ze_r N13_ 81 38
              have e41_N13_ : ze N13_ 81 41 = ze N11_ 81 41 := hsN13_.e (by decide)
              have qzcw_N13_ : zcw N13_ = zcw N11_ := zcw_f hsN13_ (by decide)
              have c15_ : zGD N13_ := zGD.fr hsN13_ c12_ (by decide) (by decide)
              show zW l m_M_works (zn Mz + 0, zw Mz + 0) N13_ 70 [some (.ref 81), some (.int (Int32.ofInt a0_)), some (.int (Int32.ofInt v10_))] [] (zpV [38, 39, 41] [95, 96, 97] Mz (fun N => 0 ≤ ze N 81 41 ∧ ze N 81 41 ≤ ze Mz 81 41 ∧ ze N 81 38 = zcw N + 1 ∧ ze N 81 41 - zcw N = ze Mz 81 41 - zcw Mz ∧ ze N 81 38 ≤ ze Mz 81 38 ∧ ((ze N 81 41 = 0 ∨ ze Mz 100 (ze N 81 41 - 1).toNat < a0_))))
              refine zw_goto (pc := 70) (tgt := 0) (by decide) d_M_works_70 ?_
              refine zW_le [some (.ref 81), some (.int (Int32.ofInt a0_)), none] (⟨rfl, rfl, trivial⟩) ?_
              exact ih_0 N13_ hb0_N13_ (show 0 ≤ ze N13_ 81 41 by omega) (show ze N13_ 81 41 ≤ ze Mz 81 41 by omega) (show ze N13_ 81 38 = zcw N13_ + 1 by omega) (show ze N13_ 81 41 - zcw N13_ = ze Mz 81 41 - zcw Mz by omega) (show ze N13_ 81 38 ≤ ze Mz 81 38 by omega) (by omega)
            · skip
              refine zw_iconst (pc := 62) (v := Int32.ofInt 1) (by decide) d_M_works_62 ?_
              refine zw_goto (pc := 63) (tgt := 67) (by decide) d_M_works_63 ?_
              refine zr_callV (hf_N11_.w hW) hf_N11_.x (pc := 67) [.int (Int32.ofInt 1)] [] l_M_334 (c_M_adds l N11_ (hf_N11_.w hW) 1 (by omega) (by omega) c12_ (show 2 ≤ ze N11_ 81 38 by omega) (show ze N11_ 81 38 ≤ 40 by omega)) rfl rfl rfl (by decide) (Nat.le_of_ble_eq_true rfl) d_M_works_67 ?_
              rintro _ N16_ ⟨rfl, hsN16_, hp0_N16_⟩
              replace hp0_N16_ : ze N16_ 81 38 = ze N11_ 81 38 - 1 := hp0_N16_
              have hf_N16_ : zFr [38, 39, 41] [95, 96, 97] Mz N16_ := hf_N11_.tr hsN16_ (by decide) (by decide)
              have hb0_N16_ : zFr [38, 39, 41] [95, 96, 97] Mz N16_ := hb0_N11_.tr hsN16_ (by decide) (by decide)
              have r38_N16_ := ze_r N16_ 81 38
              have e41_N16_ : ze N16_ 81 41 = ze N11_ 81 41 := hsN16_.e (by decide)
              have qzcw_N16_ : zcw N16_ = zcw N11_ := zcw_f hsN16_ (by decide)
              have c18_ : zGD N16_ := zGD.fr hsN16_ c12_ (by decide) (by decide)
              show zW l m_M_works (zn Mz + 0, zw Mz + 0) N16_ 70 [some (.ref 81), some (.int (Int32.ofInt a0_)), some (.int (Int32.ofInt v10_))] [] (zpV [38, 39, 41] [95, 96, 97] Mz (fun N => 0 ≤ ze N 81 41 ∧ ze N 81 41 ≤ ze Mz 81 41 ∧ ze N 81 38 = zcw N + 1 ∧ ze N 81 41 - zcw N = ze Mz 81 41 - zcw Mz ∧ ze N 81 38 ≤ ze Mz 81 38 ∧ ((ze N 81 41 = 0 ∨ ze Mz 100 (ze N 81 41 - 1).toNat < a0_))))
              refine zw_goto (pc := 70) (tgt := 0) (by decide) d_M_works_70 ?_
              refine zW_le [some (.ref 81), some (.int (Int32.ofInt a0_)), none] (⟨rfl, rfl, trivial⟩) ?_
              exact ih_0 N16_ hb0_N16_ (show 0 ≤ ze N16_ 81 41 by omega) (show ze N16_ 81 41 ≤ ze Mz 81 41 by omega) (show ze N16_ 81 38 = zcw N16_ + 1 by omega) (show ze N16_ 81 41 - zcw N16_ = ze Mz 81 41 - zcw Mz by omega) (show ze N16_ 81 38 ≤ ze Mz 81 38 by omega) (by omega)
          · skip
            refine zw_aload_n (pc := 49) (n := 0) (x := 81) rfl d_M_works_49 ?_
            refine zr_callV (hf_N11_.w hW) hf_N11_.x (pc := 50) [] [] l_M_331 (c_M_timesTwo l N11_ (hf_N11_.w hW) c12_ (show 2 ≤ ze N11_ 81 38 by omega) (show ze N11_ 81 38 ≤ 40 by omega)) rfl rfl rfl (by decide) (Nat.le_of_ble_eq_true rfl) d_M_works_50 ?_
            rintro _ N19_ ⟨rfl, hsN19_, hp0_N19_⟩
            replace hp0_N19_ : ze N19_ 81 38 = ze N11_ 81 38 - 1 := hp0_N19_
            have hf_N19_ : zFr [38, 39, 41] [95, 96, 97] Mz N19_ := hf_N11_.tr hsN19_ (by decide) (by decide)
            have hb0_N19_ : zFr [38, 39, 41] [95, 96, 97] Mz N19_ := hb0_N11_.tr hsN19_ (by decide) (by decide)
            have r38_N19_ := ze_r N19_ 81 38
            have e41_N19_ : ze N19_ 81 41 = ze N11_ 81 41 := hsN19_.e (by decide)
            have qzcw_N19_ : zcw N19_ = zcw N11_ := zcw_f hsN19_ (by decide)
            have c21_ : zGD N19_ := zGD.fr hsN19_ c12_ (by decide) (by decide)
            show zW l m_M_works (zn Mz + 0, zw Mz + 0) N19_ 53 [some (.ref 81), some (.int (Int32.ofInt a0_)), some (.int (Int32.ofInt v10_))] [] (zpV [38, 39, 41] [95, 96, 97] Mz (fun N => 0 ≤ ze N 81 41 ∧ ze N 81 41 ≤ ze Mz 81 41 ∧ ze N 81 38 = zcw N + 1 ∧ ze N 81 41 - zcw N = ze Mz 81 41 - zcw Mz ∧ ze N 81 38 ≤ ze Mz 81 38 ∧ ((ze N 81 41 = 0 ∨ ze Mz 100 (ze N 81 41 - 1).toNat < a0_))))
            refine zw_goto (pc := 53) (tgt := 70) (by decide) d_M_works_53 ?_
            refine zw_goto (pc := 70) (tgt := 0) (by decide) d_M_works_70 ?_
            refine zW_le [some (.ref 81), some (.int (Int32.ofInt a0_)), none] (⟨rfl, rfl, trivial⟩) ?_
            exact ih_0 N19_ hb0_N19_ (show 0 ≤ ze N19_ 81 41 by omega) (show ze N19_ 81 41 ≤ ze Mz 81 41 by omega) (show ze N19_ 81 38 = zcw N19_ + 1 by omega) (show ze N19_ 81 41 - zcw N19_ = ze Mz 81 41 - zcw Mz by omega) (show ze N19_ 81 38 ≤ ze Mz 81 38 by omega) (by omega)
  exact lp_0 _ Mz zFr.rf (show 0 ≤ ze Mz 81 41 by omega) (show ze Mz 81 41 ≤ ze Mz 81 41 by omega) (show ze Mz 81 38 = zcw Mz + 1 by omega) (show ze Mz 81 41 - zcw Mz = ze Mz 81 41 - zcw Mz by omega) (show ze Mz 81 38 ≤ ze Mz 81 38 by omega) (Nat.lt_succ_self _)
set_option maxHeartbeats 4000000 in
theorem c_M_closes (l : Launch) (Mz : zMem) (hW : zMt Mz) (p0_ : zGD Mz) (p1_ : 0 ≤ ze Mz 81 3) (p2_ : ze Mz 81 3 ≤ ze Mz 81 2) (p3_ : ze Mz 81 2 ≤ 700) (p4_ : zTv Mz) (p5_ : ze Mz 81 7 = 0) (p6_ : 1 ≤ ze Mz 81 38) (p7_ : ze Mz 81 38 ≤ 40) (p8_ : 0 ≤ ze Mz 81 41) (p9_ : ze Mz 81 41 ≤ 80) (p10_ : ze Mz 81 42 = ze Mz 81 41 - zcw Mz) : zC l m_M_closes 0 0 [.ref 81] Mz (zpV [3, 4, 5, 6, 7, 8, 11, 39, 41, 42] [95, 96, 97] Mz (fun N => 0 ≤ ze N 81 3 ∧ ze N 81 3 ≤ ze N 81 2 ∧ zTv N ∧ ze N 81 38 = ze Mz 81 38 ∧ 0 ≤ ze N 81 41 ∧ ze N 81 41 ≤ ze Mz 81 41 ∧ zcw N = zcw Mz ∧ ze N 81 42 = ze N 81 41 - zcw N ∧ (((1 ≤ ze N 81 7 ∧ zmu N = 0) ∨ (ze N 81 7 = 0 ∧ ze Mz 81 7 = 0 ∧ zmu N ≤ zmu Mz))))) := by
  refine zC_of (L0 := [some (.ref 81), none]) md_M_closes (Nat.le_of_ble_eq_true rfl) rfl ?_ zQ0
  have hf : zFr [3, 4, 5, 6, 7, 8, 11, 39, 41, 42] [95, 96, 97] Mz Mz := zFr.rf
  have r_2 := ze_r Mz 81 2
  have r_3 := ze_r Mz 81 3
  have r_5 := ze_r Mz 81 5
  have r_6 := ze_r Mz 81 6
  have r_7 := ze_r Mz 81 7
  have r_38 := ze_r Mz 81 38
  have r_41 := ze_r Mz 81 41
  have r_42 := ze_r Mz 81 42
  have hx := zcw_b Mz (by omega)
  refine zw_aload_n (pc := 0) (n := 0) (x := 81) rfl d_M_closes_0 ?_
  refine zw_bipush (pc := 1) (v := Int32.ofInt 94) (by decide) d_M_closes_1 ?_
  refine zr_callV (hf.w hW) hf.x (pc := 3) [.int (Int32.ofInt 94)] [] l_M_187 (c_M_isSignHere l Mz (hf.w hW) 94 (by omega) (by omega)) rfl rfl rfl (by decide) (Nat.le_of_ble_eq_true rfl) d_M_closes_3 ?_
  rintro _ N1_ ⟨v2_, rfl, ⟨hv2_a, hv2_b⟩, hsN1_, hp0_N1_⟩
  obtain rfl := hsN1_.eq.symm
  replace hp0_N1_ : ((v2_ = 1 ∧ ze Mz 81 7 = 0 ∧ ze Mz 81 5 = 3 ∧ ze Mz 81 6 = 94) ∨ (v2_ = 0)) := hp0_N1_
  rcases hp0_N1_ with ⟨rfl, ha3_0_hp0_N1_, ha3_1_hp0_N1_, ha3_2_hp0_N1_⟩ | rfl
  · skip
    show zW l m_M_closes (zn Mz + 0, zw Mz + 0) Mz 6 [some (.ref 81), none] [.int (Int32.ofInt 1)] (zpV [3, 4, 5, 6, 7, 8, 11, 39, 41, 42] [95, 96, 97] Mz (fun N => 0 ≤ ze N 81 3 ∧ ze N 81 3 ≤ ze N 81 2 ∧ zTv N ∧ ze N 81 38 = ze Mz 81 38 ∧ 0 ≤ ze N 81 41 ∧ ze N 81 41 ≤ ze Mz 81 41 ∧ zcw N = zcw Mz ∧ ze N 81 42 = ze N 81 41 - zcw N ∧ (((1 ≤ ze N 81 7 ∧ zmu N = 0) ∨ (ze N 81 7 = 0 ∧ ze Mz 81 7 = 0 ∧ zmu N ≤ zmu Mz)))))
    refine zr_if_eq (pc := 6) (tgt := 33) ⟨by omega, by omega⟩ (by decide) d_M_closes_6 (fun hc_6 => ?_) (fun hc_6 => ?_)
    · skip
      exact absurd hc_6 (by decide)
    · skip
      refine zw_aload_n (pc := 9) (n := 0) (x := 81) rfl d_M_closes_9 ?_
      refine zr_callV (hf.w hW) hf.x (pc := 10) [] [] l_M_193 (c_M_goOn l Mz (hf.w hW) (show 0 ≤ ze Mz 81 3 by omega) (show ze Mz 81 3 ≤ ze Mz 81 2 by omega) (show ze Mz 81 2 ≤ 700 by omega) (show ze Mz 81 5 ≠ 0 by omega) (show ze Mz 81 7 = 0 by omega)) rfl rfl rfl (by decide) (Nat.le_of_ble_eq_true rfl) d_M_closes_10 ?_
      rintro _ N3_ ⟨rfl, hsN3_, ⟨hp0_N3_, hp1_N3_, hp2_N3_, hp3_N3_, hp4_N3_⟩⟩
      have hf_N3_ : zFr [3, 4, 5, 6, 7, 8, 11, 39, 41, 42] [95, 96, 97] Mz N3_ := hf.tr hsN3_ (by decide) (by decide)
      have e2_N3_ : ze N3_ 81 2 = ze Mz 81 2 := hsN3_.e (by decide)
      have r3_N3_ := ze_r N3_ 81 3
      have r5_N3_ := ze_r N3_ 81 5
      have r6_N3_ := ze_r N3_ 81 6
      have e7_N3_ : ze N3_ 81 7 = ze Mz 81 7 := hsN3_.e (by decide)
      have e38_N3_ : ze N3_ 81 38 = ze Mz 81 38 := hsN3_.e (by decide)
      have e41_N3_ : ze N3_ 81 41 = ze Mz 81 41 := hsN3_.e (by decide)
      have e42_N3_ : ze N3_ 81 42 = ze Mz 81 42 := hsN3_.e (by decide)
      have qzcw_N3_ : zcw N3_ = zcw Mz := zcw_f hsN3_ (by decide)
      have c5_ : zGD N3_ := zGD.fr hsN3_ p0_ (by decide) (by decide)
      show zW l m_M_closes (zn Mz + 0, zw Mz + 0) N3_ 13 [some (.ref 81), none] [] (zpV [3, 4, 5, 6, 7, 8, 11, 39, 41, 42] [95, 96, 97] Mz (fun N => 0 ≤ ze N 81 3 ∧ ze N 81 3 ≤ ze N 81 2 ∧ zTv N ∧ ze N 81 38 = ze Mz 81 38 ∧ 0 ≤ ze N 81 41 ∧ ze N 81 41 ≤ ze Mz 81 41 ∧ zcw N = zcw Mz ∧ ze N 81 42 = ze N 81 41 - zcw N ∧ (((1 ≤ ze N 81 7 ∧ zmu N = 0) ∨ (ze N 81 7 = 0 ∧ ze Mz 81 7 = 0 ∧ zmu N ≤ zmu Mz)))))
      refine zw_aload_n (pc := 13) (n := 0) (x := 81) rfl d_M_closes_13 ?_
      refine zw_iconst (pc := 14) (v := Int32.ofInt 0) (by decide) d_M_closes_14 ?_
      refine zw_bipush (pc := 15) (v := Int32.ofInt 9) (by decide) d_M_closes_15 ?_
      refine zr_callV (hf_N3_.w hW) hf_N3_.x (pc := 17) [.int (Int32.ofInt 0), .int (Int32.ofInt 9)] [] l_M_322 (c_M_number l N3_ (hf_N3_.w hW) 0 (by omega) (by omega) 9 (by omega) (by omega) (show 0 ≤ ze N3_ 81 3 by omega) (show ze N3_ 81 3 ≤ ze N3_ 81 2 by omega) (show ze N3_ 81 2 ≤ 700 by omega) hp2_N3_ (show 0 ≤ ze N3_ 81 7 by omega)) rfl rfl rfl (by decide) (Nat.le_of_ble_eq_true rfl) d_M_closes_17 ?_
      rintro _ N6_ ⟨v7_, rfl, ⟨hv7_a, hv7_b⟩, hsN6_, ⟨hp0_N6_, hp1_N6_, hp2_N6_, hp3_N6_⟩⟩
      have hf_N6_ : zFr [3, 4, 5, 6, 7, 8, 11, 39, 41, 42] [95, 96, 97] Mz N6_ := hf_N3_.tr hsN6_ (by decide) (by decide)
      have e2_N6_ : ze N6_ 81 2 = ze N3_ 81 2 := hsN6_.e (by decide)
      have r3_N6_ := ze_r N6_ 81 3
      have r5_N6_ := ze_r N6_ 81 5
      have r6_N6_ := ze_r N6_ 81 6
      have r7_N6_ := ze_r N6_ 81 7
      have e38_N6_ : ze N6_ 81 38 = ze N3_ 81 38 := hsN6_.e (by decide)
      have e41_N6_ : ze N6_ 81 41 = ze N3_ 81 41 := hsN6_.e (by decide)
      have e42_N6_ : ze N6_ 81 42 = ze N3_ 81 42 := hsN6_.e (by decide)
      have qzcw_N6_ : zcw N6_ = zcw N3_ := zcw_f hsN6_ (by decide)
      have c8_ : zGD N6_ := zGD.fr hsN6_ c5_ (by decide) (by decide)
      rcases hp3_N6_ with ⟨ha17_0_hp3_N6_, ha17_1_hp3_N6_⟩ | ⟨ha17_0_hp3_N6_, ha17_1_hp3_N6_, ha17_2_hp3_N6_, ha17_3_hp3_N6_, ha17_4_hp3_N6_⟩
      · skip
        show zW l m_M_closes (zn Mz + 0, zw Mz + 0) N6_ 20 [some (.ref 81), none] [.int (Int32.ofInt v7_)] (zpV [3, 4, 5, 6, 7, 8, 11, 39, 41, 42] [95, 96, 97] Mz (fun N => 0 ≤ ze N 81 3 ∧ ze N 81 3 ≤ ze N 81 2 ∧ zTv N ∧ ze N 81 38 = ze Mz 81 38 ∧ 0 ≤ ze N 81 41 ∧ ze N 81 41 ≤ ze Mz 81 41 ∧ zcw N = zcw Mz ∧ ze N 81 42 = ze N 81 41 - zcw N ∧ (((1 ≤ ze N 81 7 ∧ zmu N = 0) ∨ (ze N 81 7 = 0 ∧ ze Mz 81 7 = 0 ∧ zmu N ≤ zmu Mz)))))
        refine zw_istore_n (pc := 20) (i := 1) (L2 := [some (.ref 81), some (.int (Int32.ofInt v7_))]) rfl (by decide) rfl d_M_closes_20 ?_
        refine zw_aload_n (pc := 21) (n := 0) (x := 81) rfl d_M_closes_21 ?_
        refine zr_callV (hf_N6_.w hW) hf_N6_.x (pc := 22) [] [] l_M_183 (c_M_isGood l N6_ (hf_N6_.w hW) ) rfl rfl rfl (by decide) (Nat.le_of_ble_eq_true rfl) d_M_closes_22 ?_
        rintro _ N9_ ⟨v10_, rfl, ⟨hv10_a, hv10_b⟩, hsN9_, hp0_N9_⟩
        obtain rfl := hsN9_.eq.symm
        replace hp0_N9_ : ((v10_ = 1 ∧ ze N6_ 81 7 = 0) ∨ (v10_ = 0 ∧ ze N6_ 81 7 ≠ 0)) := hp0_N9_
        rcases hp0_N9_ with ⟨rfl, ha22_0_hp0_N9_⟩ | ⟨rfl, ha22_0_hp0_N9_⟩
        · skip
          exfalso; omega
        · skip
          show zW l m_M_closes (zn Mz + 0, zw Mz + 0) N6_ 25 [some (.ref 81), some (.int (Int32.ofInt v7_))] [.int (Int32.ofInt 0)] (zpV [3, 4, 5, 6, 7, 8, 11, 39, 41, 42] [95, 96, 97] Mz (fun N => 0 ≤ ze N 81 3 ∧ ze N 81 3 ≤ ze N 81 2 ∧ zTv N ∧ ze N 81 38 = ze Mz 81 38 ∧ 0 ≤ ze N 81 41 ∧ ze N 81 41 ≤ ze Mz 81 41 ∧ zcw N = zcw Mz ∧ ze N 81 42 = ze N 81 41 - zcw N ∧ (((1 ≤ ze N 81 7 ∧ zmu N = 0) ∨ (ze N 81 7 = 0 ∧ ze Mz 81 7 = 0 ∧ zmu N ≤ zmu Mz)))))
          refine zr_if_eq (pc := 25) (tgt := 33) ⟨by omega, by omega⟩ (by decide) d_M_closes_25 (fun hc_25 => ?_) (fun hc_25 => ?_)
          · skip
            have lp_33 : ∀ (n : Nat) (N11_ : zMem) (hs12_ : zFr [41, 42] [95] N6_ N11_) (i13_ : 0 ≤ ze N11_ 81 41) (i14_ : ze N11_ 81 41 ≤ ze Mz 81 41) (i15_ : zcw N11_ = zcw Mz) (i16_ : ze N11_ 81 42 = ze N11_ 81 41 - zcw N11_), (ze N11_ 81 41).toNat < n → zW l m_M_closes (zn Mz + 0, zw Mz + 0) N11_ 33 [some (.ref 81), none] [] (zpV [3, 4, 5, 6, 7, 8, 11, 39, 41, 42] [95, 96, 97] Mz (fun N => 0 ≤ ze N 81 3 ∧ ze N 81 3 ≤ ze N 81 2 ∧ zTv N ∧ ze N 81 38 = ze Mz 81 38 ∧ 0 ≤ ze N 81 41 ∧ ze N 81 41 ≤ ze Mz 81 41 ∧ zcw N = zcw Mz ∧ ze N 81 42 = ze N 81 41 - zcw N ∧ (((1 ≤ ze N 81 7 ∧ zmu N = 0) ∨ (ze N 81 7 = 0 ∧ ze Mz 81 7 = 0 ∧ zmu N ≤ zmu Mz))))) := by
              intro n
              induction n with
              | zero =>
                intro N11_ hs12_ i13_ i14_ i15_ i16_ h0
                exact absurd h0 (Nat.not_lt_zero _)
              | succ n ih_33 =>
                intro N11_ hs12_ i13_ i14_ i15_ i16_ hlt_33
                have hf_N11_ : zFr [3, 4, 5, 6, 7, 8, 11, 39, 41, 42] [95, 96, 97] Mz N11_ := hf_N6_.tr hs12_ (by decide) (by decide)
                have e2_N11_ : ze N11_ 81 2 = ze N6_ 81 2 := hs12_.e (by decide)
                have e3_N11_ : ze N11_ 81 3 = ze N6_ 81 3 := hs12_.e (by decide)
                have e5_N11_ : ze N11_ 81 5 = ze N6_ 81 5 := hs12_.e (by decide)
                have e6_N11_ : ze N11_ 81 6 = ze N6_ 81 6 := hs12_.e (by decide)
                have e7_N11_ : ze N11_ 81 7 = ze N6_ 81 7 := hs12_.e (by decide)
                have e38_N11_ : ze N11_ 81 38 = ze N6_ 81 38 := hs12_.e (by decide)
                have r41_N11_ := ze_r N11_ 81 41
                have r42_N11_ := ze_r N11_ 81 42
                have qzmu_N11_ : zmu N11_ = zmu N6_ := zmu_f hs12_ (by decide)
                have c17_ : zGD N11_ := zGD.fr hs12_ c8_ (by decide) (by decide)
                have c18_ : zTv N11_ := zTv.fr hs12_ hp2_N6_ (by decide) (by decide)
                refine zw_aload_n (pc := 33) (n := 0) (x := 81) rfl d_M_closes_33 ?_
                refine zr_callV (hf_N11_.w hW) hf_N11_.x (pc := 34) [] [] l_M_183 (c_M_isGood l N11_ (hf_N11_.w hW) ) rfl rfl rfl (by decide) (Nat.le_of_ble_eq_true rfl) d_M_closes_34 ?_
                rintro _ N19_ ⟨v20_, rfl, ⟨hv20_a, hv20_b⟩, hsN19_, hp0_N19_⟩
                obtain rfl := hsN19_.eq.symm
                replace hp0_N19_ : ((v20_ = 1 ∧ ze N11_ 81 7 = 0) ∨ (v20_ = 0 ∧ ze N11_ 81 7 ≠ 0)) := hp0_N19_
                rcases hp0_N19_ with ⟨rfl, ha34_0_hp0_N19_⟩ | ⟨rfl, ha34_0_hp0_N19_⟩
                · skip
                  exfalso; omega
                · skip
                  show zW l m_M_closes (zn Mz + 0, zw Mz + 0) N11_ 37 [some (.ref 81), none] [.int (Int32.ofInt 0)] (zpV [3, 4, 5, 6, 7, 8, 11, 39, 41, 42] [95, 96, 97] Mz (fun N => 0 ≤ ze N 81 3 ∧ ze N 81 3 ≤ ze N 81 2 ∧ zTv N ∧ ze N 81 38 = ze Mz 81 38 ∧ 0 ≤ ze N 81 41 ∧ ze N 81 41 ≤ ze Mz 81 41 ∧ zcw N = zcw Mz ∧ ze N 81 42 = ze N 81 41 - zcw N ∧ (((1 ≤ ze N 81 7 ∧ zmu N = 0) ∨ (ze N 81 7 = 0 ∧ ze Mz 81 7 = 0 ∧ zmu N ≤ zmu Mz)))))
                  refine zr_if_eq (pc := 37) (tgt := 89) ⟨by omega, by omega⟩ (by decide) d_M_closes_37 (fun hc_37 => ?_) (fun hc_37 => ?_)
                  · skip
                    exact zr_vret (pc := 89) rfl hf_N11_ ⟨(show 0 ≤ ze N11_ 81 3 by omega), (show ze N11_ 81 3 ≤ ze N11_ 81 2 by omega), c18_, (show ze N11_ 81 38 = ze Mz 81 38 by omega), (show 0 ≤ ze N11_ 81 41 by omega), (show ze N11_ 81 41 ≤ ze Mz 81 41 by omega), (show zcw N11_ = zcw Mz by omega), (show ze N11_ 81 42 = ze N11_ 81 41 - zcw N11_ by omega), (show ((1 ≤ ze N11_ 81 7 ∧ zmu N11_ = 0) ∨ (ze N11_ 81 7 = 0 ∧ ze Mz 81 7 = 0 ∧ zmu N11_ ≤ zmu Mz)) from Or.inl (⟨(show 1 ≤ ze N11_ 81 7 by omega), (show zmu N11_ = 0 by omega)⟩))⟩ d_M_closes_89
                  · skip
                    exact absurd hc_37 (by decide)
            refine zW_le [some (.ref 81), none] (⟨rfl, trivial⟩) ?_
            exact lp_33 _ N6_ zFr.rf (show 0 ≤ ze N6_ 81 41 by omega) (show ze N6_ 81 41 ≤ ze Mz 81 41 by omega) (show zcw N6_ = zcw Mz by omega) (show ze N6_ 81 42 = ze N6_ 81 41 - zcw N6_ by omega) (Nat.lt_succ_self _)
          · skip
            exact absurd hc_25 (by decide)
      · skip
        show zW l m_M_closes (zn Mz + 0, zw Mz + 0) N6_ 20 [some (.ref 81), none] [.int (Int32.ofInt v7_)] (zpV [3, 4, 5, 6, 7, 8, 11, 39, 41, 42] [95, 96, 97] Mz (fun N => 0 ≤ ze N 81 3 ∧ ze N 81 3 ≤ ze N 81 2 ∧ zTv N ∧ ze N 81 38 = ze Mz 81 38 ∧ 0 ≤ ze N 81 41 ∧ ze N 81 41 ≤ ze Mz 81 41 ∧ zcw N = zcw Mz ∧ ze N 81 42 = ze N 81 41 - zcw N ∧ (((1 ≤ ze N 81 7 ∧ zmu N = 0) ∨ (ze N 81 7 = 0 ∧ ze Mz 81 7 = 0 ∧ zmu N ≤ zmu Mz)))))
        refine zw_istore_n (pc := 20) (i := 1) (L2 := [some (.ref 81), some (.int (Int32.ofInt v7_))]) rfl (by decide) rfl d_M_closes_20 ?_
        refine zw_aload_n (pc := 21) (n := 0) (x := 81) rfl d_M_closes_21 ?_
        refine zr_callV (hf_N6_.w hW) hf_N6_.x (pc := 22) [] [] l_M_183 (c_M_isGood l N6_ (hf_N6_.w hW) ) rfl rfl rfl (by decide) (Nat.le_of_ble_eq_true rfl) d_M_closes_22 ?_
        rintro _ N21_ ⟨v22_, rfl, ⟨hv22_a, hv22_b⟩, hsN21_, hp0_N21_⟩
        obtain rfl := hsN21_.eq.symm
        replace hp0_N21_ : ((v22_ = 1 ∧ ze N6_ 81 7 = 0) ∨ (v22_ = 0 ∧ ze N6_ 81 7 ≠ 0)) := hp0_N21_
        rcases hp0_N21_ with ⟨rfl, ha22_0_hp0_N21_⟩ | ⟨rfl, ha22_0_hp0_N21_⟩
        · skip
          show zW l m_M_closes (zn Mz + 0, zw Mz + 0) N6_ 25 [some (.ref 81), some (.int (Int32.ofInt v7_))] [.int (Int32.ofInt 1)] (zpV [3, 4, 5, 6, 7, 8, 11, 39, 41, 42] [95, 96, 97] Mz (fun N => 0 ≤ ze N 81 3 ∧ ze N 81 3 ≤ ze N 81 2 ∧ zTv N ∧ ze N 81 38 = ze Mz 81 38 ∧ 0 ≤ ze N 81 41 ∧ ze N 81 41 ≤ ze Mz 81 41 ∧ zcw N = zcw Mz ∧ ze N 81 42 = ze N 81 41 - zcw N ∧ (((1 ≤ ze N 81 7 ∧ zmu N = 0) ∨ (ze N 81 7 = 0 ∧ ze Mz 81 7 = 0 ∧ zmu N ≤ zmu Mz)))))
          refine zr_if_eq (pc := 25) (tgt := 33) ⟨by omega, by omega⟩ (by decide) d_M_closes_25 (fun hc_25 => ?_) (fun hc_25 => ?_)
          · skip
            exact absurd hc_25 (by decide)
          · skip
            refine zw_aload_n (pc := 28) (n := 0) (x := 81) rfl d_M_closes_28 ?_
            refine zw_iload_n (pc := 29) (n := 1) (x := Int32.ofInt v7_) rfl d_M_closes_29 ?_
            refine zr_callV (hf_N6_.w hW) hf_N6_.x (pc := 30) [.int (Int32.ofInt v7_)] [] l_M_325 (c_M_powers l N6_ (hf_N6_.w hW) v7_ (by omega) (by omega) c8_ (show 1 ≤ ze N6_ 81 38 by omega) (show ze N6_ 81 38 ≤ 40 by omega)) rfl rfl rfl (by decide) (Nat.le_of_ble_eq_true rfl) d_M_closes_30 ?_
            rintro _ N23_ ⟨rfl, hsN23_, -⟩
            have hf_N23_ : zFr [3, 4, 5, 6, 7, 8, 11, 39, 41, 42] [95, 96, 97] Mz N23_ := hf_N6_.tr hsN23_ (by decide) (by decide)
            have e2_N23_ : ze N23_ 81 2 = ze N6_ 81 2 := hsN23_.e (by decide)
            have e3_N23_ : ze N23_ 81 3 = ze N6_ 81 3 := hsN23_.e (by decide)
            have e5_N23_ : ze N23_ 81 5 = ze N6_ 81 5 := hsN23_.e (by decide)
            have e6_N23_ : ze N23_ 81 6 = ze N6_ 81 6 := hsN23_.e (by decide)
            have e7_N23_ : ze N23_ 81 7 = ze N6_ 81 7 := hsN23_.e (by decide)
            have e38_N23_ : ze N23_ 81 38 = ze N6_ 81 38 := hsN23_.e (by decide)
            have e41_N23_ : ze N23_ 81 41 = ze N6_ 81 41 := hsN23_.e (by decide)
            have e42_N23_ : ze N23_ 81 42 = ze N6_ 81 42 := hsN23_.e (by decide)
            have qzcw_N23_ : zcw N23_ = zcw N6_ := zcw_f hsN23_ (by decide)
            have qzmu_N23_ : zmu N23_ = zmu N6_ := zmu_f hsN23_ (by decide)
            have c25_ : zGD N23_ := zGD.fr hsN23_ c8_ (by decide) (by decide)
            have c26_ : zTv N23_ := zTv.fr hsN23_ hp2_N6_ (by decide) (by decide)
            show zW l m_M_closes (zn Mz + 0, zw Mz + 0) N23_ 33 [some (.ref 81), some (.int (Int32.ofInt v7_))] [] (zpV [3, 4, 5, 6, 7, 8, 11, 39, 41, 42] [95, 96, 97] Mz (fun N => 0 ≤ ze N 81 3 ∧ ze N 81 3 ≤ ze N 81 2 ∧ zTv N ∧ ze N 81 38 = ze Mz 81 38 ∧ 0 ≤ ze N 81 41 ∧ ze N 81 41 ≤ ze Mz 81 41 ∧ zcw N = zcw Mz ∧ ze N 81 42 = ze N 81 41 - zcw N ∧ (((1 ≤ ze N 81 7 ∧ zmu N = 0) ∨ (ze N 81 7 = 0 ∧ ze Mz 81 7 = 0 ∧ zmu N ≤ zmu Mz)))))
            have lp_33 : ∀ (n : Nat) (N27_ : zMem) (hs28_ : zFr [41, 42] [95] N23_ N27_) (i29_ : 0 ≤ ze N27_ 81 41) (i30_ : ze N27_ 81 41 ≤ ze Mz 81 41) (i31_ : zcw N27_ = zcw Mz) (i32_ : ze N27_ 81 42 = ze N27_ 81 41 - zcw N27_), (ze N27_ 81 41).toNat < n → zW l m_M_closes (zn Mz + 0, zw Mz + 0) N27_ 33 [some (.ref 81), none] [] (zpV [3, 4, 5, 6, 7, 8, 11, 39, 41, 42] [95, 96, 97] Mz (fun N => 0 ≤ ze N 81 3 ∧ ze N 81 3 ≤ ze N 81 2 ∧ zTv N ∧ ze N 81 38 = ze Mz 81 38 ∧ 0 ≤ ze N 81 41 ∧ ze N 81 41 ≤ ze Mz 81 41 ∧ zcw N = zcw Mz ∧ ze N 81 42 = ze N 81 41 - zcw N ∧ (((1 ≤ ze N 81 7 ∧ zmu N = 0) ∨ (ze N 81 7 = 0 ∧ ze Mz 81 7 = 0 ∧ zmu N ≤ zmu Mz))))) := by
              intro n
              induction n with
              | zero =>
                intro N27_ hs28_ i29_ i30_ i31_ i32_ h0
                exact absurd h0 (Nat.not_lt_zero _)
              | succ n ih_33 =>
                intro N27_ hs28_ i29_ i30_ i31_ i32_ hlt_33
                have hf_N27_ : zFr [3, 4, 5, 6, 7, 8, 11, 39, 41, 42] [95, 96, 97] Mz N27_ := hf_N23_.tr hs28_ (by decide) (by decide)
                have e2_N27_ : ze N27_ 81 2 = ze N23_ 81 2 := hs28_.e (by decide)
                have e3_N27_ : ze N27_ 81 3 = ze N23_ 81 3 := hs28_.e (by decide)
                have e5_N27_ : ze N27_ 81 5 = ze N23_ 81 5 := hs28_.e (by decide)
                have e6_N27_ : ze N27_ 81 6 = ze N23_ 81 6 := hs28_.e (by decide)
                have e7_N27_ : ze N27_ 81 7 = ze N23_ 81 7 := hs28_.e (by decide)
                have e38_N27_ : ze N27_ 81 38 = ze N23_ 81 38 := hs28_.e (by decide)
                have r41_N27_ := ze_r N27_ 81 41
                have r42_N27_ := ze_r N27_ 81 42
                have qzmu_N27_ : zmu N27_ = zmu N23_ := zmu_f hs28_ (by decide)
                have c33_ : zGD N27_ := zGD.fr hs28_ c25_ (by decide) (by decide)
                have c34_ : zTv N27_ := zTv.fr hs28_ c26_ (by decide) (by decide)
                refine zw_aload_n (pc := 33) (n := 0) (x := 81) rfl d_M_closes_33 ?_
                refine zr_callV (hf_N27_.w hW) hf_N27_.x (pc := 34) [] [] l_M_183 (c_M_isGood l N27_ (hf_N27_.w hW) ) rfl rfl rfl (by decide) (Nat.le_of_ble_eq_true rfl) d_M_closes_34 ?_
                rintro _ N35_ ⟨v36_, rfl, ⟨hv36_a, hv36_b⟩, hsN35_, hp0_N35_⟩
                obtain rfl := hsN35_.eq.symm
                replace hp0_N35_ : ((v36_ = 1 ∧ ze N27_ 81 7 = 0) ∨ (v36_ = 0 ∧ ze N27_ 81 7 ≠ 0)) := hp0_N35_
                rcases hp0_N35_ with ⟨rfl, ha34_0_hp0_N35_⟩ | ⟨rfl, ha34_0_hp0_N35_⟩
                · skip
                  show zW l m_M_closes (zn Mz + 0, zw Mz + 0) N27_ 37 [some (.ref 81), none] [.int (Int32.ofInt 1)] (zpV [3, 4, 5, 6, 7, 8, 11, 39, 41, 42] [95, 96, 97] Mz (fun N => 0 ≤ ze N 81 3 ∧ ze N 81 3 ≤ ze N 81 2 ∧ zTv N ∧ ze N 81 38 = ze Mz 81 38 ∧ 0 ≤ ze N 81 41 ∧ ze N 81 41 ≤ ze Mz 81 41 ∧ zcw N = zcw Mz ∧ ze N 81 42 = ze N 81 41 - zcw N ∧ (((1 ≤ ze N 81 7 ∧ zmu N = 0) ∨ (ze N 81 7 = 0 ∧ ze Mz 81 7 = 0 ∧ zmu N ≤ zmu Mz)))))
                  refine zr_if_eq (pc := 37) (tgt := 89) ⟨by omega, by omega⟩ (by decide) d_M_closes_37 (fun hc_37 => ?_) (fun hc_37 => ?_)
                  · skip
                    exact absurd hc_37 (by decide)
                  · skip
                    refine zw_aload_n (pc := 40) (n := 0) (x := 81) rfl d_M_closes_40 ?_
                    refine zr_getI (hf_N27_.w hW) (pc := 41) f_M_305 rfl d_M_closes_41 ?_
                    refine zr_if_le (pc := 44) (tgt := 89) ⟨by omega, by omega⟩ (by decide) d_M_closes_44 (fun hc_44 => ?_) (fun hc_44 => ?_)
                    · skip
                      exact zr_vret (pc := 89) rfl hf_N27_ ⟨(show 0 ≤ ze N27_ 81 3 by omega), (show ze N27_ 81 3 ≤ ze N27_ 81 2 by omega), c34_, (show ze N27_ 81 38 = ze Mz 81 38 by omega), (show 0 ≤ ze N27_ 81 41 by omega), (show ze N27_ 81 41 ≤ ze Mz 81 41 by omega), (show zcw N27_ = zcw Mz by omega), (show ze N27_ 81 42 = ze N27_ 81 41 - zcw N27_ by omega), (show ((1 ≤ ze N27_ 81 7 ∧ zmu N27_ = 0) ∨ (ze N27_ 81 7 = 0 ∧ ze Mz 81 7 = 0 ∧ zmu N27_ ≤ zmu Mz)) from Or.inr (⟨(show ze N27_ 81 7 = 0 by omega), (show ze Mz 81 7 = 0 by omega), (show zmu N27_ ≤ zmu Mz by omega)⟩))⟩ d_M_closes_89
                    · skip
                      refine zw_aload_n (pc := 47) (n := 0) (x := 81) rfl d_M_closes_47 ?_
                      refine zr_getF (r := 100) (hf_N27_.w hW) (pc := 48) f_M_72 rfl (zh_100 (hf_N27_.w hW)).1 d_M_closes_48 ?_
                      refine zw_aload_n (pc := 51) (n := 0) (x := 81) rfl d_M_closes_51 ?_
                      refine zr_getI (hf_N27_.w hW) (pc := 52) f_M_305 rfl d_M_closes_52 ?_
                      refine zw_iconst (pc := 55) (v := Int32.ofInt 1) (by decide) d_M_closes_55 ?_
                      refine zr_isub (pc := 56) d_M_closes_56 ?_
                      refine zr_ialdn (pc := 57) (zh_100 (hf_N27_.w hW)).2 (by decide) (by omega) (by omega) d_M_closes_57 (fun v37_ hv37_ hv37_a hv37_b => ?_)
                      rw [hf_N27_.ie (by decide) (by decide)] at hv37_
                      refine zw_iconst (pc := 58) (v := Int32.ofInt 1) (by decide) d_M_closes_58 ?_
                      refine zr_icmp_ne (pc := 59) (tgt := 89) ⟨by omega, by omega⟩ ⟨by omega, by omega⟩ (by decide) d_M_closes_59 (fun hc_59 => ?_) (fun hc_59 => ?_)
                      · skip
                        exact zr_vret (pc := 89) rfl hf_N27_ ⟨(show 0 ≤ ze N27_ 81 3 by omega), (show ze N27_ 81 3 ≤ ze N27_ 81 2 by omega), c34_, (show ze N27_ 81 38 = ze Mz 81 38 by omega), (show 0 ≤ ze N27_ 81 41 by omega), (show ze N27_ 81 41 ≤ ze Mz 81 41 by omega), (show zcw N27_ = zcw Mz by omega), (show ze N27_ 81 42 = ze N27_ 81 41 - zcw N27_ by omega), (show ((1 ≤ ze N27_ 81 7 ∧ zmu N27_ = 0) ∨ (ze N27_ 81 7 = 0 ∧ ze Mz 81 7 = 0 ∧ zmu N27_ ≤ zmu Mz)) from Or.inr (⟨(show ze N27_ 81 7 = 0 by omega), (show ze Mz 81 7 = 0 by omega), (show zmu N27_ ≤ zmu Mz by omega)⟩))⟩ d_M_closes_89
                      · skip
                        refine zw_aload_n (pc := 62) (n := 0) (x := 81) rfl d_M_closes_62 ?_
                        refine zr_callV (hf_N27_.w hW) hf_N27_.x (pc := 63) [] [] l_M_328 (c_M_negates l N27_ (hf_N27_.w hW) c33_ (show 1 ≤ ze N27_ 81 38 by omega) (show ze N27_ 81 38 ≤ 40 by omega)) rfl rfl rfl (by decide) (Nat.le_of_ble_eq_true rfl) d_M_closes_63 ?_
                        rintro _ N38_ ⟨rfl, hsN38_, -⟩
                        have hf_N38_ : zFr [3, 4, 5, 6, 7, 8, 11, 39, 41, 42] [95, 96, 97] Mz N38_ := hf_N27_.tr hsN38_ (by decide) (by decide)
                        have hb0_N38_ : zFr [41, 42] [95] N23_ N38_ := hs28_.tr hsN38_ (by decide) (by decide)
                        have e2_N38_ : ze N38_ 81 2 = ze N27_ 81 2 := hsN38_.e (by decide)
                        have e3_N38_ : ze N38_ 81 3 = ze N27_ 81 3 := hsN38_.e (by decide)
                        have e5_N38_ : ze N38_ 81 5 = ze N27_ 81 5 := hsN38_.e (by decide)
                        have e6_N38_ : ze N38_ 81 6 = ze N27_ 81 6 := hsN38_.e (by decide)
                        have e7_N38_ : ze N38_ 81 7 = ze N27_ 81 7 := hsN38_.e (by decide)
                        have e38_N38_ : ze N38_ 81 38 = ze N27_ 81 38 := hsN38_.e (by decide)
                        have e41_N38_ : ze N38_ 81 41 = ze N27_ 81 41 := hsN38_.e (by decide)
                        have e42_N38_ : ze N38_ 81 42 = ze N27_ 81 42 := hsN38_.e (by decide)
                        have qzcw_N38_ : zcw N38_ = zcw N27_ := zcw_f hsN38_ (by decide)
                        have qzmu_N38_ : zmu N38_ = zmu N27_ := zmu_f hsN38_ (by decide)
                        have c40_ : zGD N38_ := zGD.fr hsN38_ c33_ (by decide) (by decide)
                        have c41_ : zTv N38_ := zTv.fr hsN38_ c34_ (by decide) (by decide)
                        show zW l m_M_closes (zn Mz + 0, zw Mz + 0) N38_ 66 [some (.ref 81), none] [] (zpV [3, 4, 5, 6, 7, 8, 11, 39, 41, 42] [95, 96, 97] Mz (fun N => 0 ≤ ze N 81 3 ∧ ze N 81 3 ≤ ze N 81 2 ∧ zTv N ∧ ze N 81 38 = ze Mz 81 38 ∧ 0 ≤ ze N 81 41 ∧ ze N 81 41 ≤ ze Mz 81 41 ∧ zcw N = zcw Mz ∧ ze N 81 42 = ze N 81 41 - zcw N ∧ (((1 ≤ ze N 81 7 ∧ zmu N = 0) ∨ (ze N 81 7 = 0 ∧ ze Mz 81 7 = 0 ∧ zmu N ≤ zmu Mz)))))
                        refine zw_aload_n (pc := 66) (n := 0) (x := 81) rfl d_M_closes_66 ?_
                        refine zw_dup (pc := 67) rfl d_M_closes_67 ?_
                        refine zr_getI (hf_N38_.w hW) (pc := 68) f_M_305 rfl d_M_closes_68 ?_
                        refine zw_iconst (pc := 71) (v := Int32.ofInt 1) (by decide) d_M_closes_71 ?_
                        refine zr_isub (pc := 72) d_M_closes_72 ?_
                        refine zr_putI (hf_N38_.w hW) (pc := 73) f_M_305 rfl rfl ⟨by omega, by omega⟩ rfl rfl d_M_closes_73 (fun N42_ hsN42_ hvN42_ => ?_)
                        have hf_N42_ : zFr [3, 4, 5, 6, 7, 8, 11, 39, 41, 42] [95, 96, 97] Mz N42_ := hf_N38_.tr hsN42_ (by decide) (by decide)
                        have hb0_N42_ : zFr [41, 42] [95] N23_ N42_ := hb0_N38_.tr hsN42_ (by decide) (by decide)
                        have e2_N42_ : ze N42_ 81 2 = ze N38_ 81 2 := hsN42_.e (by decide)
                        have e3_N42_ : ze N42_ 81 3 = ze N38_ 81 3 := hsN42_.e (by decide)
                        have e5_N42_ : ze N42_ 81 5 = ze N38_ 81 5 := hsN42_.e (by decide)
                        have e6_N42_ : ze N42_ 81 6 = ze N38_ 81 6 := hsN42_.e (by decide)
                        have e7_N42_ : ze N42_ 81 7 = ze N38_ 81 7 := hsN42_.e (by decide)
                        have e38_N42_ : ze N42_ 81 38 = ze N38_ 81 38 := hsN42_.e (by decide)
                        have r41_N42_ := ze_r N42_ 81 41
                        have e42_N42_ : ze N42_ 81 42 = ze N38_ 81 42 := hsN42_.e (by decide)
                        have qzmu_N42_ : zmu N42_ = zmu N38_ := zmu_f hsN42_ (by decide)
                        have c43_ : zGD N42_ := zGD.fr hsN42_ c40_ (by decide) (by decide)
                        have c44_ : zTv N42_ := zTv.fr hsN42_ c41_ (by decide) (by decide)
                        have hd_N42_ := zcw_dec hsN42_ hvN42_ (by omega)
                        have hy_N42_ := zcw_b N42_ (by omega)
                        have hj_N42_ : (ze N38_ 81 41 - 1).toNat = (ze N27_ 81 41 - 1).toNat := by omega
                        rw [hj_N42_] at hd_N42_
                        have hi_N42_ := hf_N38_.ie (q := 100) (by decide) (by decide) (ze N27_ 81 41 - 1).toNat
                        refine zw_aload_n (pc := 76) (n := 0) (x := 81) rfl d_M_closes_76 ?_
                        refine zw_dup (pc := 77) rfl d_M_closes_77 ?_
                        refine zr_getI (hf_N42_.w hW) (pc := 78) f_M_296 rfl d_M_closes_78 ?_
                        refine zw_iconst (pc := 81) (v := Int32.ofInt 1) (by decide) d_M_closes_81 ?_
                        refine zr_isub (pc := 82) d_M_closes_82 ?_
                        refine zr_putI (hf_N42_.w hW) (pc := 83) f_M_296 rfl rfl ⟨by omega, by omega⟩ rfl rfl d_M_closes_83 (fun N45_ hsN45_ hvN45_ => ?_)
                        have hf_N45_ : zFr [3, 4, 5, 6, 7, 8, 11, 39, 41, 42] [95, 96, 97] Mz N45_ := hf_N42_.tr hsN45_ (by decide) (by decide)
                        have hb0_N45_ : zFr [41, 42] [95] N23_ N45_ := hb0_N42_.tr hsN45_ (by decide) (by decide)
                        have e2_N45_ : ze N45_ 81 2 = ze N42_ 81 2 := hsN45_.e (by decide)
                        have e3_N45_ : ze N45_ 81 3 = ze N42_ 81 3 := hsN45_.e (by decide)
                        have e5_N45_ : ze N45_ 81 5 = ze N42_ 81 5 := hsN45_.e (by decide)
                        have e6_N45_ : ze N45_ 81 6 = ze N42_ 81 6 := hsN45_.e (by decide)
                        have e7_N45_ : ze N45_ 81 7 = ze N42_ 81 7 := hsN45_.e (by decide)
                        have e38_N45_ : ze N45_ 81 38 = ze N42_ 81 38 := hsN45_.e (by decide)
                        have e41_N45_ : ze N45_ 81 41 = ze N42_ 81 41 := hsN45_.e (by decide)
                        have r42_N45_ := ze_r N45_ 81 42
                        have qzcw_N45_ : zcw N45_ = zcw N42_ := zcw_f hsN45_ (by decide)
                        have qzmu_N45_ : zmu N45_ = zmu N42_ := zmu_f hsN45_ (by decide)
                        have c46_ : zGD N45_ := zGD.fr hsN45_ c43_ (by decide) (by decide)
                        have c47_ : zTv N45_ := zTv.fr hsN45_ c44_ (by decide) (by decide)
                        refine zw_goto (pc := 86) (tgt := 33) (by decide) d_M_closes_86 ?_
                        exact ih_33 N45_ hb0_N45_ (show 0 ≤ ze N45_ 81 41 by omega) (show ze N45_ 81 41 ≤ ze Mz 81 41 by omega) (show zcw N45_ = zcw Mz by omega) (show ze N45_ 81 42 = ze N45_ 81 41 - zcw N45_ by omega) (by omega)
                · skip
                  exfalso; omega
            refine zW_le [some (.ref 81), none] (⟨rfl, trivial⟩) ?_
            exact lp_33 _ N23_ zFr.rf (show 0 ≤ ze N23_ 81 41 by omega) (show ze N23_ 81 41 ≤ ze Mz 81 41 by omega) (show zcw N23_ = zcw Mz by omega) (show ze N23_ 81 42 = ze N23_ 81 41 - zcw N23_ by omega) (Nat.lt_succ_self _)
        · skip
          exfalso; omega
  · skip
    show zW l m_M_closes (zn Mz + 0, zw Mz + 0) Mz 6 [some (.ref 81), none] [.int (Int32.ofInt 0)] (zpV [3, 4, 5, 6, 7, 8, 11, 39, 41, 42] [95, 96, 97] Mz (fun N => 0 ≤ ze N 81 3 ∧ ze N 81 3 ≤ ze N 81 2 ∧ zTv N ∧ ze N 81 38 = ze Mz 81 38 ∧ 0 ≤ ze N 81 41 ∧ ze N 81 41 ≤ ze Mz 81 41 ∧ zcw N = zcw Mz ∧ ze N 81 42 = ze N 81 41 - zcw N ∧ (((1 ≤ ze N 81 7 ∧ zmu N = 0) ∨ (ze N 81 7 = 0 ∧ ze Mz 81 7 = 0 ∧ zmu N ≤ zmu Mz)))))
    refine zr_if_eq (pc := 6) (tgt := 33) ⟨by omega, by omega⟩ (by decide) d_M_closes_6 (fun hc_6 => ?_) (fun hc_6 => ?_)
    · skip
      have lp_33 : ∀ (n : Nat) (N48_ : zMem) (hs49_ : zFr [41, 42] [95] Mz N48_) (i50_ : 0 ≤ ze N48_ 81 41) (i51_ : ze N48_ 81 41 ≤ ze Mz 81 41) (i52_ : zcw N48_ = zcw Mz) (i53_ : ze N48_ 81 42 = ze N48_ 81 41 - zcw N48_), (ze N48_ 81 41).toNat < n → zW l m_M_closes (zn Mz + 0, zw Mz + 0) N48_ 33 [some (.ref 81), none] [] (zpV [3, 4, 5, 6, 7, 8, 11, 39, 41, 42] [95, 96, 97] Mz (fun N => 0 ≤ ze N 81 3 ∧ ze N 81 3 ≤ ze N 81 2 ∧ zTv N ∧ ze N 81 38 = ze Mz 81 38 ∧ 0 ≤ ze N 81 41 ∧ ze N 81 41 ≤ ze Mz 81 41 ∧ zcw N = zcw Mz ∧ ze N 81 42 = ze N 81 41 - zcw N ∧ (((1 ≤ ze N 81 7 ∧ zmu N = 0) ∨ (ze N 81 7 = 0 ∧ ze Mz 81 7 = 0 ∧ zmu N ≤ zmu Mz))))) := by
        intro n
        induction n with
        | zero =>
          intro N48_ hs49_ i50_ i51_ i52_ i53_ h0
          exact absurd h0 (Nat.not_lt_zero _)
        | succ n ih_33 =>
          intro N48_ hs49_ i50_ i51_ i52_ i53_ hlt_33
          have hf_N48_ : zFr [3, 4, 5, 6, 7, 8, 11, 39, 41, 42] [95, 96, 97] Mz N48_ := hf.tr hs49_ (by decide) (by decide)
          have e2_N48_ : ze N48_ 81 2 = ze Mz 81 2 := hs49_.e (by decide)
          have e3_N48_ : ze N48_ 81 3 = ze Mz 81 3 := hs49_.e (by decide)
          have e5_N48_ : ze N48_ 81 5 = ze Mz 81 5 := hs49_.e (by decide)
          have e6_N48_ : ze N48_ 81 6 = ze Mz 81 6 := hs49_.e (by decide)
          have e7_N48_ : ze N48_ 81 7 = ze Mz 81 7 := hs49_.e (by decide)
          have e38_N48_ : ze N48_ 81 38 = ze Mz 81 38 := hs49_.e (by decide)
          have r41_N48_ := ze_r N48_ 81 41
          have r42_N48_ := ze_r N48_ 81 42
          have qzmu_N48_ : zmu N48_ = zmu Mz := zmu_f hs49_ (by decide)
          have c54_ : zGD N48_ := zGD.fr hs49_ p0_ (by decide) (by decide)
          have c55_ : zTv N48_ := zTv.fr hs49_ p4_ (by decide) (by decide)
          refine zw_aload_n (pc := 33) (n := 0) (x := 81) rfl d_M_closes_33 ?_
          refine zr_callV (hf_N48_.w hW) hf_N48_.x (pc := 34) [] [] l_M_183 (c_M_isGood l N48_ (hf_N48_.w hW) ) rfl rfl rfl (by decide) (Nat.le_of_ble_eq_true rfl) d_M_closes_34 ?_
          rintro _ N56_ ⟨v57_, rfl, ⟨hv57_a, hv57_b⟩, hsN56_, hp0_N56_⟩
          obtain rfl := hsN56_.eq.symm
          replace hp0_N56_ : ((v57_ = 1 ∧ ze N48_ 81 7 = 0) ∨ (v57_ = 0 ∧ ze N48_ 81 7 ≠ 0)) := hp0_N56_
          rcases hp0_N56_ with ⟨rfl, ha34_0_hp0_N56_⟩ | ⟨rfl, ha34_0_hp0_N56_⟩
          · skip
            show zW l m_M_closes (zn Mz + 0, zw Mz + 0) N48_ 37 [some (.ref 81), none] [.int (Int32.ofInt 1)] (zpV [3, 4, 5, 6, 7, 8, 11, 39, 41, 42] [95, 96, 97] Mz (fun N => 0 ≤ ze N 81 3 ∧ ze N 81 3 ≤ ze N 81 2 ∧ zTv N ∧ ze N 81 38 = ze Mz 81 38 ∧ 0 ≤ ze N 81 41 ∧ ze N 81 41 ≤ ze Mz 81 41 ∧ zcw N = zcw Mz ∧ ze N 81 42 = ze N 81 41 - zcw N ∧ (((1 ≤ ze N 81 7 ∧ zmu N = 0) ∨ (ze N 81 7 = 0 ∧ ze Mz 81 7 = 0 ∧ zmu N ≤ zmu Mz)))))
            refine zr_if_eq (pc := 37) (tgt := 89) ⟨by omega, by omega⟩ (by decide) d_M_closes_37 (fun hc_37 => ?_) (fun hc_37 => ?_)
            · skip
              exact absurd hc_37 (by decide)
            · skip
              refine zw_aload_n (pc := 40) (n := 0) (x := 81) rfl d_M_closes_40 ?_
              refine zr_getI (hf_N48_.w hW) (pc := 41) f_M_305 rfl d_M_closes_41 ?_
              refine zr_if_le (pc := 44) (tgt := 89) ⟨by omega, by omega⟩ (by decide) d_M_closes_44 (fun hc_44 => ?_) (fun hc_44 => ?_)
              · skip
                exact zr_vret (pc := 89) rfl hf_N48_ ⟨(show 0 ≤ ze N48_ 81 3 by omega), (show ze N48_ 81 3 ≤ ze N48_ 81 2 by omega), c55_, (show ze N48_ 81 38 = ze Mz 81 38 by omega), (show 0 ≤ ze N48_ 81 41 by omega), (show ze N48_ 81 41 ≤ ze Mz 81 41 by omega), (show zcw N48_ = zcw Mz by omega), (show ze N48_ 81 42 = ze N48_ 81 41 - zcw N48_ by omega), (show ((1 ≤ ze N48_ 81 7 ∧ zmu N48_ = 0) ∨ (ze N48_ 81 7 = 0 ∧ ze Mz 81 7 = 0 ∧ zmu N48_ ≤ zmu Mz)) from Or.inr (⟨(show ze N48_ 81 7 = 0 by omega), (show ze Mz 81 7 = 0 by omega), (show zmu N48_ ≤ zmu Mz by omega)⟩))⟩ d_M_closes_89
              · skip
                refine zw_aload_n (pc := 47) (n := 0) (x := 81) rfl d_M_closes_47 ?_
                refine zr_getF (r := 100) (hf_N48_.w hW) (pc := 48) f_M_72 rfl (zh_100 (hf_N48_.w hW)).1 d_M_closes_48 ?_
                refine zw_aload_n (pc := 51) (n := 0) (x := 81) rfl d_M_closes_51 ?_
                refine zr_getI (hf_N48_.w hW) (pc := 52) f_M_305 rfl d_M_closes_52 ?_
                refine zw_iconst (pc := 55) (v := Int32.ofInt 1) (by decide) d_M_closes_55 ?_
                refine zr_isub (pc := 56) d_M_closes_56 ?_
                refine zr_ialdn (pc := 57) (zh_100 (hf_N48_.w hW)).2 (by decide) (by omega) (by omega) d_M_closes_57 (fun v58_ hv58_ hv58_a hv58_b => ?_)
                rw [hf_N48_.ie (by decide) (by decide)] at hv58_
                refine zw_iconst (pc := 58) (v := Int32.ofInt 1) (by decide) d_M_closes_58 ?_
                refine zr_icmp_ne (pc := 59) (tgt := 89) ⟨by omega, by omega⟩ ⟨by omega, by omega⟩ (by decide) d_M_closes_59 (fun hc_59 => ?_) (fun hc_59 => ?_)
                · skip
                  exact zr_vret (pc := 89) rfl hf_N48_ ⟨(show 0 ≤ ze N48_ 81 3 by omega), (show ze N48_ 81 3 ≤ ze N48_ 81 2 by omega), c55_, (show ze N48_ 81 38 = ze Mz 81 38 by omega), (show 0 ≤ ze N48_ 81 41 by omega), (show ze N48_ 81 41 ≤ ze Mz 81 41 by omega), (show zcw N48_ = zcw Mz by omega), (show ze N48_ 81 42 = ze N48_ 81 41 - zcw N48_ by omega), (show ((1 ≤ ze N48_ 81 7 ∧ zmu N48_ = 0) ∨ (ze N48_ 81 7 = 0 ∧ ze Mz 81 7 = 0 ∧ zmu N48_ ≤ zmu Mz)) from Or.inr (⟨(show ze N48_ 81 7 = 0 by omega), (show ze Mz 81 7 = 0 by omega), (show zmu N48_ ≤ zmu Mz by omega)⟩))⟩ d_M_closes_89
                · skip
                  refine zw_aload_n (pc := 62) (n := 0) (x := 81) rfl d_M_closes_62 ?_
                  refine zr_callV (hf_N48_.w hW) hf_N48_.x (pc := 63) [] [] l_M_328 (c_M_negates l N48_ (hf_N48_.w hW) c54_ (show 1 ≤ ze N48_ 81 38 by omega) (show ze N48_ 81 38 ≤ 40 by omega)) rfl rfl rfl (by decide) (Nat.le_of_ble_eq_true rfl) d_M_closes_63 ?_
                  rintro _ N59_ ⟨rfl, hsN59_, -⟩
                  have hf_N59_ : zFr [3, 4, 5, 6, 7, 8, 11, 39, 41, 42] [95, 96, 97] Mz N59_ := hf_N48_.tr hsN59_ (by decide) (by decide)
                  have hb0_N59_ : zFr [41, 42] [95] Mz N59_ := hs49_.tr hsN59_ (by decide) (by decide)
                  have e2_N59_ : ze N59_ 81 2 = ze N48_ 81 2 := hsN59_.e (by decide)
                  have e3_N59_ : ze N59_ 81 3 = ze N48_ 81 3 := hsN59_.e (by decide)
                  have e5_N59_ : ze N59_ 81 5 = ze N48_ 81 5 := hsN59_.e (by decide)
                  have e6_N59_ : ze N59_ 81 6 = ze N48_ 81 6 := hsN59_.e (by decide)
                  have e7_N59_ : ze N59_ 81 7 = ze N48_ 81 7 := hsN59_.e (by decide)
                  have e38_N59_ : ze N59_ 81 38 = ze N48_ 81 38 := hsN59_.e (by decide)
                  have e41_N59_ : ze N59_ 81 41 = ze N48_ 81 41 := hsN59_.e (by decide)
                  have e42_N59_ : ze N59_ 81 42 = ze N48_ 81 42 := hsN59_.e (by decide)
                  have qzcw_N59_ : zcw N59_ = zcw N48_ := zcw_f hsN59_ (by decide)
                  have qzmu_N59_ : zmu N59_ = zmu N48_ := zmu_f hsN59_ (by decide)
                  have c61_ : zGD N59_ := zGD.fr hsN59_ c54_ (by decide) (by decide)
                  have c62_ : zTv N59_ := zTv.fr hsN59_ c55_ (by decide) (by decide)
                  show zW l m_M_closes (zn Mz + 0, zw Mz + 0) N59_ 66 [some (.ref 81), none] [] (zpV [3, 4, 5, 6, 7, 8, 11, 39, 41, 42] [95, 96, 97] Mz (fun N => 0 ≤ ze N 81 3 ∧ ze N 81 3 ≤ ze N 81 2 ∧ zTv N ∧ ze N 81 38 = ze Mz 81 38 ∧ 0 ≤ ze N 81 41 ∧ ze N 81 41 ≤ ze Mz 81 41 ∧ zcw N = zcw Mz ∧ ze N 81 42 = ze N 81 41 - zcw N ∧ (((1 ≤ ze N 81 7 ∧ zmu N = 0) ∨ (ze N 81 7 = 0 ∧ ze Mz 81 7 = 0 ∧ zmu N ≤ zmu Mz)))))
                  refine zw_aload_n (pc := 66) (n := 0) (x := 81) rfl d_M_closes_66 ?_
                  refine zw_dup (pc := 67) rfl d_M_closes_67 ?_
                  refine zr_getI (hf_N59_.w hW) (pc := 68) f_M_305 rfl d_M_closes_68 ?_
                  refine zw_iconst (pc := 71) (v := Int32.ofInt 1) (by decide) d_M_closes_71 ?_
                  refine zr_isub (pc := 72) d_M_closes_72 ?_
                  refine zr_putI (hf_N59_.w hW) (pc := 73) f_M_305 rfl rfl ⟨by omega, by omega⟩ rfl rfl d_M_closes_73 (fun N63_ hsN63_ hvN63_ => ?_)
                  have hf_N63_ : zFr [3, 4, 5, 6, 7, 8, 11, 39, 41, 42] [95, 96, 97] Mz N63_ := hf_N59_.tr hsN63_ (by decide) (by decide)
                  have hb0_N63_ : zFr [41, 42] [95] Mz N63_ := hb0_N59_.tr hsN63_ (by decide) (by decide)
                  have e2_N63_ : ze N63_ 81 2 = ze N59_ 81 2 := hsN63_.e (by decide)
                  have e3_N63_ : ze N63_ 81 3 = ze N59_ 81 3 := hsN63_.e (by decide)
                  have e5_N63_ : ze N63_ 81 5 = ze N59_ 81 5 := hsN63_.e (by decide)
                  have e6_N63_ : ze N63_ 81 6 = ze N59_ 81 6 := hsN63_.e (by decide)
                  have e7_N63_ : ze N63_ 81 7 = ze N59_ 81 7 := hsN63_.e (by decide)
                  have e38_N63_ : ze N63_ 81 38 = ze N59_ 81 38 := hsN63_.e (by decide)
                  have r41_N63_ := ze_r N63_ 81 41
                  have e42_N63_ : ze N63_ 81 42 = ze N59_ 81 42 := hsN63_.e (by decide)
                  have qzmu_N63_ : zmu N63_ = zmu N59_ := zmu_f hsN63_ (by decide)
                  have c64_ : zGD N63_ := zGD.fr hsN63_ c61_ (by decide) (by decide)
                  have c65_ : zTv N63_ := zTv.fr hsN63_ c62_ (by decide) (by decide)
                  have hd_N63_ := zcw_dec hsN63_ hvN63_ (by omega)
                  have hy_N63_ := zcw_b N63_ (by omega)
                  have hj_N63_ : (ze N59_ 81 41 - 1).toNat = (ze N48_ 81 41 - 1).toNat := by omega
                  rw [hj_N63_] at hd_N63_
                  have hi_N63_ := hf_N59_.ie (q := 100) (by decide) (by decide) (ze N48_ 81 41 - 1).toNat
                  refine zw_aload_n (pc := 76) (n := 0) (x := 81) rfl d_M_closes_76 ?_
                  refine zw_dup (pc := 77) rfl d_M_closes_77 ?_
                  refine zr_getI (hf_N63_.w hW) (pc := 78) f_M_296 rfl d_M_closes_78 ?_
                  refine zw_iconst (pc := 81) (v := Int32.ofInt 1) (by decide) d_M_closes_81 ?_
                  refine zr_isub (pc := 82) d_M_closes_82 ?_
                  refine zr_putI (hf_N63_.w hW) (pc := 83) f_M_296 rfl rfl ⟨by omega, by omega⟩ rfl rfl d_M_closes_83 (fun N66_ hsN66_ hvN66_ => ?_)
                  have hf_N66_ : zFr [3, 4, 5, 6, 7, 8, 11, 39, 41, 42] [95, 96, 97] Mz N66_ := hf_N63_.tr hsN66_ (by decide) (by decide)
                  have hb0_N66_ : zFr [41, 42] [95] Mz N66_ := hb0_N63_.tr hsN66_ (by decide) (by decide)
                  have e2_N66_ : ze N66_ 81 2 = ze N63_ 81 2 := hsN66_.e (by decide)
                  have e3_N66_ : ze N66_ 81 3 = ze N63_ 81 3 := hsN66_.e (by decide)
                  have e5_N66_ : ze N66_ 81 5 = ze N63_ 81 5 := hsN66_.e (by decide)
                  have e6_N66_ : ze N66_ 81 6 = ze N63_ 81 6 := hsN66_.e (by decide)
                  have e7_N66_ : ze N66_ 81 7 = ze N63_ 81 7 := hsN66_.e (by decide)
                  have e38_N66_ : ze N66_ 81 38 = ze N63_ 81 38 := hsN66_.e (by decide)
                  have e41_N66_ : ze N66_ 81 41 = ze N63_ 81 41 := hsN66_.e (by decide)
                  have r42_N66_ := ze_r N66_ 81 42
                  have qzcw_N66_ : zcw N66_ = zcw N63_ := zcw_f hsN66_ (by decide)
                  have qzmu_N66_ : zmu N66_ = zmu N63_ := zmu_f hsN66_ (by decide)
                  have c67_ : zGD N66_ := zGD.fr hsN66_ c64_ (by decide) (by decide)
                  have c68_ : zTv N66_ := zTv.fr hsN66_ c65_ (by decide) (by decide)
                  refine zw_goto (pc := 86) (tgt := 33) (by decide) d_M_closes_86 ?_
                  exact ih_33 N66_ hb0_N66_ (show 0 ≤ ze N66_ 81 41 by omega) (show ze N66_ 81 41 ≤ ze Mz 81 41 by omega) (show zcw N66_ = zcw Mz by omega) (show ze N66_ 81 42 = ze N66_ 81 41 - zcw N66_ by omega) (by omega)
          · skip
            show zW l m_M_closes (zn Mz + 0, zw Mz + 0) N48_ 37 [some (.ref 81), none] [.int (Int32.ofInt 0)] (zpV [3, 4, 5, 6, 7, 8, 11, 39, 41, 42] [95, 96, 97] Mz (fun N => 0 ≤ ze N 81 3 ∧ ze N 81 3 ≤ ze N 81 2 ∧ zTv N ∧ ze N 81 38 = ze Mz 81 38 ∧ 0 ≤ ze N 81 41 ∧ ze N 81 41 ≤ ze Mz 81 41 ∧ zcw N = zcw Mz ∧ ze N 81 42 = ze N 81 41 - zcw N ∧ (((1 ≤ ze N 81 7 ∧ zmu N = 0) ∨ (ze N 81 7 = 0 ∧ ze Mz 81 7 = 0 ∧ zmu N ≤ zmu Mz)))))
            refine zr_if_eq (pc := 37) (tgt := 89) ⟨by omega, by omega⟩ (by decide) d_M_closes_37 (fun hc_37 => ?_) (fun hc_37 => ?_)
            · skip
              exact zr_vret (pc := 89) rfl hf_N48_ ⟨(show 0 ≤ ze N48_ 81 3 by omega), (show ze N48_ 81 3 ≤ ze N48_ 81 2 by omega), c55_, (show ze N48_ 81 38 = ze Mz 81 38 by omega), (show 0 ≤ ze N48_ 81 41 by omega), (show ze N48_ 81 41 ≤ ze Mz 81 41 by omega), (show zcw N48_ = zcw Mz by omega), (show ze N48_ 81 42 = ze N48_ 81 41 - zcw N48_ by omega), (show ((1 ≤ ze N48_ 81 7 ∧ zmu N48_ = 0) ∨ (ze N48_ 81 7 = 0 ∧ ze Mz 81 7 = 0 ∧ zmu N48_ ≤ zmu Mz)) from Or.inl (⟨(show 1 ≤ ze N48_ 81 7 by omega), (show zmu N48_ = 0 by omega)⟩))⟩ d_M_closes_89
            · skip
              exact absurd hc_37 (by decide)
      exact lp_33 _ Mz zFr.rf (show 0 ≤ ze Mz 81 41 by omega) (show ze Mz 81 41 ≤ ze Mz 81 41 by omega) (show zcw Mz = zcw Mz by omega) (show ze Mz 81 42 = ze Mz 81 41 - zcw Mz by omega) (Nat.lt_succ_self _)
    · skip
      exact absurd hc_6 (by decide)
set_option maxHeartbeats 4000000 in
theorem c_M_waitsFor (l : Launch) (Mz : zMem) (hW : zMt Mz) (a0_ : Int) (ha0_a : -2147483648 ≤ a0_) (ha0_b : a0_ < 2147483648) (p0_ : zGD Mz) (p1_ : 0 ≤ ze Mz 81 3) (p2_ : ze Mz 81 3 ≤ ze Mz 81 2) (p3_ : ze Mz 81 2 ≤ 700) (p4_ : zTv Mz) (p5_ : ze Mz 81 7 = 0) (p6_ : ze Mz 81 5 ≠ 0) (p7_ : 2 ≤ a0_) (p8_ : a0_ ≤ 4) (p9_ : 0 ≤ ze Mz 81 41) (p10_ : ze Mz 81 41 ≤ 79) (p11_ : ze Mz 81 38 = zcw Mz + 1) (p12_ : ze Mz 81 38 ≤ 40) : zC l m_M_waitsFor 0 0 [.ref 81, .int (Int32.ofInt a0_)] Mz (zpV [3, 4, 5, 6, 11, 38, 39, 41] [95, 96, 97, 100] Mz (fun N => 0 ≤ ze N 81 3 ∧ ze N 81 3 ≤ ze N 81 2 ∧ zTv N ∧ ze N 81 38 = zcw N ∧ ze N 81 38 ≤ ze Mz 81 38 ∧ ze N 81 41 ≤ ze Mz 81 41 + 1 ∧ zmu N < zmu Mz ∧ ze N 81 41 - zcw N = ze Mz 81 41 - zcw Mz ∧ 0 ≤ ze N 81 41)) := by
  refine zC_of (L0 := [some (.ref 81), some (.int (Int32.ofInt a0_))]) md_M_waitsFor (Nat.le_of_ble_eq_true rfl) rfl ?_ zQ0
  have hf : zFr [3, 4, 5, 6, 11, 38, 39, 41] [95, 96, 97, 100] Mz Mz := zFr.rf
  have r_2 := ze_r Mz 81 2
  have r_3 := ze_r Mz 81 3
  have r_5 := ze_r Mz 81 5
  have r_7 := ze_r Mz 81 7
  have r_38 := ze_r Mz 81 38
  have r_41 := ze_r Mz 81 41
  refine zw_aload_n (pc := 0) (n := 0) (x := 81) rfl d_M_waitsFor_0 ?_
  refine zw_iload_n (pc := 1) (n := 1) (x := Int32.ofInt a0_) rfl d_M_waitsFor_1 ?_
  refine zw_iconst (pc := 2) (v := Int32.ofInt 4) (by decide) d_M_waitsFor_2 ?_
  refine zr_icmp_ne (pc := 3) (tgt := 10) ⟨by omega, by omega⟩ ⟨by omega, by omega⟩ (by decide) d_M_waitsFor_3 (fun hc_3 => ?_) (fun hc_3 => ?_)
  · skip
    refine zw_iconst (pc := 10) (v := Int32.ofInt 2) (by decide) d_M_waitsFor_10 ?_
    refine zr_callV (hf.w hW) hf.x (pc := 11) [.int (Int32.ofInt 2)] [] l_M_337 (c_M_works l Mz (hf.w hW) 2 (by omega) (by omega) p0_ (show 2 ≤ 2 by omega) (show 0 ≤ ze Mz 81 41 by omega) (show ze Mz 81 41 ≤ 80 by omega) (show ze Mz 81 38 = zcw Mz + 1 by omega) (show ze Mz 81 38 ≤ 40 by omega)) rfl rfl rfl (by decide) (Nat.le_of_ble_eq_true rfl) d_M_waitsFor_11 ?_
    rintro _ N1_ ⟨rfl, hsN1_, ⟨hp0_N1_, hp1_N1_, hp2_N1_, hp3_N1_, hp4_N1_, hp5_N1_⟩⟩
    have hf_N1_ : zFr [3, 4, 5, 6, 11, 38, 39, 41] [95, 96, 97, 100] Mz N1_ := hf.tr hsN1_ (by decide) (by decide)
    have e2_N1_ : ze N1_ 81 2 = ze Mz 81 2 := hsN1_.e (by decide)
    have e3_N1_ : ze N1_ 81 3 = ze Mz 81 3 := hsN1_.e (by decide)
    have e5_N1_ : ze N1_ 81 5 = ze Mz 81 5 := hsN1_.e (by decide)
    have e7_N1_ : ze N1_ 81 7 = ze Mz 81 7 := hsN1_.e (by decide)
    have r38_N1_ := ze_r N1_ 81 38
    have r41_N1_ := ze_r N1_ 81 41
    have qzmu_N1_ : zmu N1_ = zmu Mz := zmu_f hsN1_ (by decide)
    have c3_ : zGD N1_ := zGD.fr hsN1_ p0_ (by decide) (by decide)
    have c4_ : zTv N1_ := zTv.fr hsN1_ p4_ (by decide) (by decide)
    show zW l m_M_waitsFor (zn Mz + 0, zw Mz + 0) N1_ 14 [some (.ref 81), some (.int (Int32.ofInt a0_))] [] (zpV [3, 4, 5, 6, 11, 38, 39, 41] [95, 96, 97, 100] Mz (fun N => 0 ≤ ze N 81 3 ∧ ze N 81 3 ≤ ze N 81 2 ∧ zTv N ∧ ze N 81 38 = zcw N ∧ ze N 81 38 ≤ ze Mz 81 38 ∧ ze N 81 41 ≤ ze Mz 81 41 + 1 ∧ zmu N < zmu Mz ∧ ze N 81 41 - zcw N = ze Mz 81 41 - zcw Mz ∧ 0 ≤ ze N 81 41))
    refine zw_aload_n (pc := 14) (n := 0) (x := 81) rfl d_M_waitsFor_14 ?_
    refine zr_getF (r := 100) (hf_N1_.w hW) (pc := 15) f_M_72 rfl (zh_100 (hf_N1_.w hW)).1 d_M_waitsFor_15 ?_
    refine zw_aload_n (pc := 18) (n := 0) (x := 81) rfl d_M_waitsFor_18 ?_
    refine zr_getI (hf_N1_.w hW) (pc := 19) f_M_305 rfl d_M_waitsFor_19 ?_
    refine zw_iload_n (pc := 22) (n := 1) (x := Int32.ofInt a0_) rfl d_M_waitsFor_22 ?_
    refine zr_iast (pc := 23) (zh_100 (hf_N1_.w hW)).2 (by decide) (by decide) (by omega) (by omega) d_M_waitsFor_23 (fun N5_ hN5_ hsN5_ => ?_)
    have hf_N5_ : zFr [3, 4, 5, 6, 11, 38, 39, 41] [95, 96, 97, 100] Mz N5_ := hf_N1_.tr hsN5_ (by decide) (by decide)
    have e2_N5_ : ze N5_ 81 2 = ze N1_ 81 2 := hsN5_.e (by decide)
    have e3_N5_ : ze N5_ 81 3 = ze N1_ 81 3 := hsN5_.e (by decide)
    have e5_N5_ : ze N5_ 81 5 = ze N1_ 81 5 := hsN5_.e (by decide)
    have e7_N5_ : ze N5_ 81 7 = ze N1_ 81 7 := hsN5_.e (by decide)
    have e38_N5_ : ze N5_ 81 38 = ze N1_ 81 38 := hsN5_.e (by decide)
    have e41_N5_ : ze N5_ 81 41 = ze N1_ 81 41 := hsN5_.e (by decide)
    have qzmu_N5_ : zmu N5_ = zmu N1_ := zmu_f hsN5_ (by decide)
    have c6_ : zGD N5_ := zGD.fr hsN5_ c3_ (by decide) (by decide)
    have c7_ : zTv N5_ := zTv.fr hsN5_ c4_ (by decide) (by decide)
    refine zw_aload_n (pc := 24) (n := 0) (x := 81) rfl d_M_waitsFor_24 ?_
    refine zw_dup (pc := 25) rfl d_M_waitsFor_25 ?_
    refine zr_getI (hf_N5_.w hW) (pc := 26) f_M_305 rfl d_M_waitsFor_26 ?_
    refine zw_iconst (pc := 29) (v := Int32.ofInt 1) (by decide) d_M_waitsFor_29 ?_
    refine zr_iadd (pc := 30) d_M_waitsFor_30 ?_
    refine zr_putI (hf_N5_.w hW) (pc := 31) f_M_305 rfl rfl ⟨by omega, by omega⟩ rfl rfl d_M_waitsFor_31 (fun N8_ hsN8_ hvN8_ => ?_)
    have hf_N8_ : zFr [3, 4, 5, 6, 11, 38, 39, 41] [95, 96, 97, 100] Mz N8_ := hf_N5_.tr hsN8_ (by decide) (by decide)
    have e2_N8_ : ze N8_ 81 2 = ze N5_ 81 2 := hsN8_.e (by decide)
    have e3_N8_ : ze N8_ 81 3 = ze N5_ 81 3 := hsN8_.e (by decide)
    have e5_N8_ : ze N8_ 81 5 = ze N5_ 81 5 := hsN8_.e (by decide)
    have e7_N8_ : ze N8_ 81 7 = ze N5_ 81 7 := hsN8_.e (by decide)
    have e38_N8_ : ze N8_ 81 38 = ze N5_ 81 38 := hsN8_.e (by decide)
    have r41_N8_ := ze_r N8_ 81 41
    have qzmu_N8_ : zmu N8_ = zmu N5_ := zmu_f hsN8_ (by decide)
    have c9_ : zGD N8_ := zGD.fr hsN8_ c6_ (by decide) (by decide)
    have c10_ : zTv N8_ := zTv.fr hsN8_ c7_ (by decide) (by decide)
    have hp_N8_ := zcw_push hN5_ hsN8_ hvN8_ (by omega) ⟨by omega, by omega⟩
    refine zw_aload_n (pc := 34) (n := 0) (x := 81) rfl d_M_waitsFor_34 ?_
    refine zr_callV (hf_N8_.w hW) hf_N8_.x (pc := 35) [] [] l_M_193 (c_M_goOn l N8_ (hf_N8_.w hW) (show 0 ≤ ze N8_ 81 3 by omega) (show ze N8_ 81 3 ≤ ze N8_ 81 2 by omega) (show ze N8_ 81 2 ≤ 700 by omega) (show ze N8_ 81 5 ≠ 0 by omega) (show ze N8_ 81 7 = 0 by omega)) rfl rfl rfl (by decide) (Nat.le_of_ble_eq_true rfl) d_M_waitsFor_35 ?_
    rintro _ N11_ ⟨rfl, hsN11_, ⟨hp0_N11_, hp1_N11_, hp2_N11_, hp3_N11_, hp4_N11_⟩⟩
    have hf_N11_ : zFr [3, 4, 5, 6, 11, 38, 39, 41] [95, 96, 97, 100] Mz N11_ := hf_N8_.tr hsN11_ (by decide) (by decide)
    have e2_N11_ : ze N11_ 81 2 = ze N8_ 81 2 := hsN11_.e (by decide)
    have r3_N11_ := ze_r N11_ 81 3
    have r5_N11_ := ze_r N11_ 81 5
    have e7_N11_ : ze N11_ 81 7 = ze N8_ 81 7 := hsN11_.e (by decide)
    have e38_N11_ : ze N11_ 81 38 = ze N8_ 81 38 := hsN11_.e (by decide)
    have e41_N11_ : ze N11_ 81 41 = ze N8_ 81 41 := hsN11_.e (by decide)
    have qzcw_N11_ : zcw N11_ = zcw N8_ := zcw_f hsN11_ (by decide)
    have c13_ : zGD N11_ := zGD.fr hsN11_ c9_ (by decide) (by decide)
    show zW l m_M_waitsFor (zn Mz + 0, zw Mz + 0) N11_ 38 [some (.ref 81), some (.int (Int32.ofInt a0_))] [] (zpV [3, 4, 5, 6, 11, 38, 39, 41] [95, 96, 97, 100] Mz (fun N => 0 ≤ ze N 81 3 ∧ ze N 81 3 ≤ ze N 81 2 ∧ zTv N ∧ ze N 81 38 = zcw N ∧ ze N 81 38 ≤ ze Mz 81 38 ∧ ze N 81 41 ≤ ze Mz 81 41 + 1 ∧ zmu N < zmu Mz ∧ ze N 81 41 - zcw N = ze Mz 81 41 - zcw Mz ∧ 0 ≤ ze N 81 41))
    exact zr_vret (pc := 38) rfl hf_N11_ ⟨(show 0 ≤ ze N11_ 81 3 by omega), (show ze N11_ 81 3 ≤ ze N11_ 81 2 by omega), hp2_N11_, (show ze N11_ 81 38 = zcw N11_ by omega), (show ze N11_ 81 38 ≤ ze Mz 81 38 by omega), (show ze N11_ 81 41 ≤ ze Mz 81 41 + 1 by omega), (show zmu N11_ < zmu Mz by omega), (show ze N11_ 81 41 - zcw N11_ = ze Mz 81 41 - zcw Mz by omega), (show 0 ≤ ze N11_ 81 41 by omega)⟩ d_M_waitsFor_38
  · skip
    refine zw_iconst (pc := 6) (v := Int32.ofInt 4) (by decide) d_M_waitsFor_6 ?_
    refine zw_goto (pc := 7) (tgt := 11) (by decide) d_M_waitsFor_7 ?_
    refine zr_callV (hf.w hW) hf.x (pc := 11) [.int (Int32.ofInt 4)] [] l_M_337 (c_M_works l Mz (hf.w hW) 4 (by omega) (by omega) p0_ (show 2 ≤ 4 by omega) (show 0 ≤ ze Mz 81 41 by omega) (show ze Mz 81 41 ≤ 80 by omega) (show ze Mz 81 38 = zcw Mz + 1 by omega) (show ze Mz 81 38 ≤ 40 by omega)) rfl rfl rfl (by decide) (Nat.le_of_ble_eq_true rfl) d_M_waitsFor_11 ?_
    rintro _ N14_ ⟨rfl, hsN14_, ⟨hp0_N14_, hp1_N14_, hp2_N14_, hp3_N14_, hp4_N14_, hp5_N14_⟩⟩
    have hf_N14_ : zFr [3, 4, 5, 6, 11, 38, 39, 41] [95, 96, 97, 100] Mz N14_ := hf.tr hsN14_ (by decide) (by decide)
    have e2_N14_ : ze N14_ 81 2 = ze Mz 81 2 := hsN14_.e (by decide)
    have e3_N14_ : ze N14_ 81 3 = ze Mz 81 3 := hsN14_.e (by decide)
    have e5_N14_ : ze N14_ 81 5 = ze Mz 81 5 := hsN14_.e (by decide)
    have e7_N14_ : ze N14_ 81 7 = ze Mz 81 7 := hsN14_.e (by decide)
    have r38_N14_ := ze_r N14_ 81 38
    have r41_N14_ := ze_r N14_ 81 41
    have qzmu_N14_ : zmu N14_ = zmu Mz := zmu_f hsN14_ (by decide)
    have c16_ : zGD N14_ := zGD.fr hsN14_ p0_ (by decide) (by decide)
    have c17_ : zTv N14_ := zTv.fr hsN14_ p4_ (by decide) (by decide)
    show zW l m_M_waitsFor (zn Mz + 0, zw Mz + 0) N14_ 14 [some (.ref 81), some (.int (Int32.ofInt a0_))] [] (zpV [3, 4, 5, 6, 11, 38, 39, 41] [95, 96, 97, 100] Mz (fun N => 0 ≤ ze N 81 3 ∧ ze N 81 3 ≤ ze N 81 2 ∧ zTv N ∧ ze N 81 38 = zcw N ∧ ze N 81 38 ≤ ze Mz 81 38 ∧ ze N 81 41 ≤ ze Mz 81 41 + 1 ∧ zmu N < zmu Mz ∧ ze N 81 41 - zcw N = ze Mz 81 41 - zcw Mz ∧ 0 ≤ ze N 81 41))
    refine zw_aload_n (pc := 14) (n := 0) (x := 81) rfl d_M_waitsFor_14 ?_
    refine zr_getF (r := 100) (hf_N14_.w hW) (pc := 15) f_M_72 rfl (zh_100 (hf_N14_.w hW)).1 d_M_waitsFor_15 ?_
    refine zw_aload_n (pc := 18) (n := 0) (x := 81) rfl d_M_waitsFor_18 ?_
    refine zr_getI (hf_N14_.w hW) (pc := 19) f_M_305 rfl d_M_waitsFor_19 ?_
    refine zw_iload_n (pc := 22) (n := 1) (x := Int32.ofInt a0_) rfl d_M_waitsFor_22 ?_
    refine zr_iast (pc := 23) (zh_100 (hf_N14_.w hW)).2 (by decide) (by decide) (by omega) (by omega) d_M_waitsFor_23 (fun N18_ hN18_ hsN18_ => ?_)
    have hf_N18_ : zFr [3, 4, 5, 6, 11, 38, 39, 41] [95, 96, 97, 100] Mz N18_ := hf_N14_.tr hsN18_ (by decide) (by decide)
    have e2_N18_ : ze N18_ 81 2 = ze N14_ 81 2 := hsN18_.e (by decide)
    have e3_N18_ : ze N18_ 81 3 = ze N14_ 81 3 := hsN18_.e (by decide)
    have e5_N18_ : ze N18_ 81 5 = ze N14_ 81 5 := hsN18_.e (by decide)
    have e7_N18_ : ze N18_ 81 7 = ze N14_ 81 7 := hsN18_.e (by decide)
    have e38_N18_ : ze N18_ 81 38 = ze N14_ 81 38 := hsN18_.e (by decide)
    have e41_N18_ : ze N18_ 81 41 = ze N14_ 81 41 := hsN18_.e (by decide)
    have qzmu_N18_ : zmu N18_ = zmu N14_ := zmu_f hsN18_ (by decide)
    have c19_ : zGD N18_ := zGD.fr hsN18_ c16_ (by decide) (by decide)
    have c20_ : zTv N18_ := zTv.fr hsN18_ c17_ (by decide) (by decide)
    refine zw_aload_n (pc := 24) (n := 0) (x := 81) rfl d_M_waitsFor_24 ?_
    refine zw_dup (pc := 25) rfl d_M_waitsFor_25 ?_
    refine zr_getI (hf_N18_.w hW) (pc := 26) f_M_305 rfl d_M_waitsFor_26 ?_
    refine zw_iconst (pc := 29) (v := Int32.ofInt 1) (by decide) d_M_waitsFor_29 ?_
    refine zr_iadd (pc := 30) d_M_waitsFor_30 ?_
    refine zr_putI (hf_N18_.w hW) (pc := 31) f_M_305 rfl rfl ⟨by omega, by omega⟩ rfl rfl d_M_waitsFor_31 (fun N21_ hsN21_ hvN21_ => ?_)
    have hf_N21_ : zFr [3, 4, 5, 6, 11, 38, 39, 41] [95, 96, 97, 100] Mz N21_ := hf_N18_.tr hsN21_ (by decide) (by decide)
    have e2_N21_ : ze N21_ 81 2 = ze N18_ 81 2 := hsN21_.e (by decide)
    have e3_N21_ : ze N21_ 81 3 = ze N18_ 81 3 := hsN21_.e (by decide)
    have e5_N21_ : ze N21_ 81 5 = ze N18_ 81 5 := hsN21_.e (by decide)
    have e7_N21_ : ze N21_ 81 7 = ze N18_ 81 7 := hsN21_.e (by decide)
    have e38_N21_ : ze N21_ 81 38 = ze N18_ 81 38 := hsN21_.e (by decide)
    have r41_N21_ := ze_r N21_ 81 41
    have qzmu_N21_ : zmu N21_ = zmu N18_ := zmu_f hsN21_ (by decide)
    have c22_ : zGD N21_ := zGD.fr hsN21_ c19_ (by decide) (by decide)
    have c23_ : zTv N21_ := zTv.fr hsN21_ c20_ (by decide) (by decide)
    have hp_N21_ := zcw_push hN18_ hsN21_ hvN21_ (by omega) ⟨by omega, by omega⟩
    refine zw_aload_n (pc := 34) (n := 0) (x := 81) rfl d_M_waitsFor_34 ?_
    refine zr_callV (hf_N21_.w hW) hf_N21_.x (pc := 35) [] [] l_M_193 (c_M_goOn l N21_ (hf_N21_.w hW) (show 0 ≤ ze N21_ 81 3 by omega) (show ze N21_ 81 3 ≤ ze N21_ 81 2 by omega) (show ze N21_ 81 2 ≤ 700 by omega) (show ze N21_ 81 5 ≠ 0 by omega) (show ze N21_ 81 7 = 0 by omega)) rfl rfl rfl (by decide) (Nat.le_of_ble_eq_true rfl) d_M_waitsFor_35 ?_
    rintro _ N24_ ⟨rfl, hsN24_, ⟨hp0_N24_, hp1_N24_, hp2_N24_, hp3_N24_, hp4_N24_⟩⟩
    have hf_N24_ : zFr [3, 4, 5, 6, 11, 38, 39, 41] [95, 96, 97, 100] Mz N24_ := hf_N21_.tr hsN24_ (by decide) (by decide)
    have e2_N24_ : ze N24_ 81 2 = ze N21_ 81 2 := hsN24_.e (by decide)
    have r3_N24_ := ze_r N24_ 81 3
    have r5_N24_ := ze_r N24_ 81 5
    have e7_N24_ : ze N24_ 81 7 = ze N21_ 81 7 := hsN24_.e (by decide)
    have e38_N24_ : ze N24_ 81 38 = ze N21_ 81 38 := hsN24_.e (by decide)
    have e41_N24_ : ze N24_ 81 41 = ze N21_ 81 41 := hsN24_.e (by decide)
    have qzcw_N24_ : zcw N24_ = zcw N21_ := zcw_f hsN24_ (by decide)
    have c26_ : zGD N24_ := zGD.fr hsN24_ c22_ (by decide) (by decide)
    show zW l m_M_waitsFor (zn Mz + 0, zw Mz + 0) N24_ 38 [some (.ref 81), some (.int (Int32.ofInt a0_))] [] (zpV [3, 4, 5, 6, 11, 38, 39, 41] [95, 96, 97, 100] Mz (fun N => 0 ≤ ze N 81 3 ∧ ze N 81 3 ≤ ze N 81 2 ∧ zTv N ∧ ze N 81 38 = zcw N ∧ ze N 81 38 ≤ ze Mz 81 38 ∧ ze N 81 41 ≤ ze Mz 81 41 + 1 ∧ zmu N < zmu Mz ∧ ze N 81 41 - zcw N = ze Mz 81 41 - zcw Mz ∧ 0 ≤ ze N 81 41))
    exact zr_vret (pc := 38) rfl hf_N24_ ⟨(show 0 ≤ ze N24_ 81 3 by omega), (show ze N24_ 81 3 ≤ ze N24_ 81 2 by omega), hp2_N24_, (show ze N24_ 81 38 = zcw N24_ by omega), (show ze N24_ 81 38 ≤ ze Mz 81 38 by omega), (show ze N24_ 81 41 ≤ ze Mz 81 41 + 1 by omega), (show zmu N24_ < zmu Mz by omega), (show ze N24_ 81 41 - zcw N24_ = ze Mz 81 41 - zcw Mz by omega), (show 0 ≤ ze N24_ 81 41 by omega)⟩ d_M_waitsFor_38
set_option maxHeartbeats 4000000 in
theorem c_M_goesOn (l : Launch) (Mz : zMem) (hW : zMt Mz) (p0_ : zGD Mz) (p1_ : 0 ≤ ze Mz 81 3) (p2_ : ze Mz 81 3 ≤ ze Mz 81 2) (p3_ : ze Mz 81 2 ≤ 700) (p4_ : zTv Mz) (p5_ : ze Mz 81 7 = 0) (p6_ : 0 ≤ ze Mz 81 41) (p7_ : ze Mz 81 41 ≤ 79) (p8_ : ze Mz 81 38 = zcw Mz + 1) (p9_ : ze Mz 81 38 ≤ 40) : zC l m_M_goesOn 0 0 [.ref 81] Mz (zpI [3, 4, 5, 6, 11, 38, 39, 41] [95, 96, 97, 100] Mz (fun v N => 0 ≤ ze N 81 3 ∧ ze N 81 3 ≤ ze N 81 2 ∧ zTv N ∧ ze N 81 38 ≤ ze Mz 81 38 ∧ ze N 81 41 ≤ ze Mz 81 41 + 1 ∧ ze N 81 41 - zcw N = ze Mz 81 41 - zcw Mz ∧ 0 ≤ ze N 81 41 ∧ (((v = 1 ∧ ze N 81 38 = zcw N ∧ zmu N < zmu Mz) ∨ (v = 0 ∧ ze N 81 38 = zcw N + 1 ∧ zmu N = zmu Mz))))) := by
  refine zC_of (L0 := [some (.ref 81)]) md_M_goesOn (Nat.le_of_ble_eq_true rfl) rfl ?_ zQ0
  have hf : zFr [3, 4, 5, 6, 11, 38, 39, 41] [95, 96, 97, 100] Mz Mz := zFr.rf
  have r_2 := ze_r Mz 81 2
  have r_3 := ze_r Mz 81 3
  have r_5 := ze_r Mz 81 5
  have r_6 := ze_r Mz 81 6
  have r_7 := ze_r Mz 81 7
  have r_38 := ze_r Mz 81 38
  have r_41 := ze_r Mz 81 41
  refine zw_aload_n (pc := 0) (n := 0) (x := 81) rfl d_M_goesOn_0 ?_
  refine zw_bipush (pc := 1) (v := Int32.ofInt 42) (by decide) d_M_goesOn_1 ?_
  refine zr_callV (hf.w hW) hf.x (pc := 3) [.int (Int32.ofInt 42)] [] l_M_187 (c_M_isSignHere l Mz (hf.w hW) 42 (by omega) (by omega)) rfl rfl rfl (by decide) (Nat.le_of_ble_eq_true rfl) d_M_goesOn_3 ?_
  rintro _ N1_ ⟨v2_, rfl, ⟨hv2_a, hv2_b⟩, hsN1_, hp0_N1_⟩
  obtain rfl := hsN1_.eq.symm
  replace hp0_N1_ : ((v2_ = 1 ∧ ze Mz 81 7 = 0 ∧ ze Mz 81 5 = 3 ∧ ze Mz 81 6 = 42) ∨ (v2_ = 0)) := hp0_N1_
  rcases hp0_N1_ with ⟨rfl, ha3_0_hp0_N1_, ha3_1_hp0_N1_, ha3_2_hp0_N1_⟩ | rfl
  · skip
    show zW l m_M_goesOn (zn Mz + 0, zw Mz + 0) Mz 6 [some (.ref 81)] [.int (Int32.ofInt 1)] (zpI [3, 4, 5, 6, 11, 38, 39, 41] [95, 96, 97, 100] Mz (fun v N => 0 ≤ ze N 81 3 ∧ ze N 81 3 ≤ ze N 81 2 ∧ zTv N ∧ ze N 81 38 ≤ ze Mz 81 38 ∧ ze N 81 41 ≤ ze Mz 81 41 + 1 ∧ ze N 81 41 - zcw N = ze Mz 81 41 - zcw Mz ∧ 0 ≤ ze N 81 41 ∧ (((v = 1 ∧ ze N 81 38 = zcw N ∧ zmu N < zmu Mz) ∨ (v = 0 ∧ ze N 81 38 = zcw N + 1 ∧ zmu N = zmu Mz)))))
    refine zr_if_eq (pc := 6) (tgt := 16) ⟨by omega, by omega⟩ (by decide) d_M_goesOn_6 (fun hc_6 => ?_) (fun hc_6 => ?_)
    · skip
      exact absurd hc_6 (by decide)
    · skip
      refine zw_aload_n (pc := 9) (n := 0) (x := 81) rfl d_M_goesOn_9 ?_
      refine zw_iconst (pc := 10) (v := Int32.ofInt 4) (by decide) d_M_goesOn_10 ?_
      refine zr_callV (hf.w hW) hf.x (pc := 11) [.int (Int32.ofInt 4)] [] l_M_340 (c_M_waitsFor l Mz (hf.w hW) 4 (by omega) (by omega) p0_ (show 0 ≤ ze Mz 81 3 by omega) (show ze Mz 81 3 ≤ ze Mz 81 2 by omega) (show ze Mz 81 2 ≤ 700 by omega) p4_ (show ze Mz 81 7 = 0 by omega) (show ze Mz 81 5 ≠ 0 by omega) (show 2 ≤ 4 by omega) (show 4 ≤ 4 by omega) (show 0 ≤ ze Mz 81 41 by omega) (show ze Mz 81 41 ≤ 79 by omega) (show ze Mz 81 38 = zcw Mz + 1 by omega) (show ze Mz 81 38 ≤ 40 by omega)) rfl rfl rfl (by decide) (Nat.le_of_ble_eq_true rfl) d_M_goesOn_11 ?_
      rintro _ N3_ ⟨rfl, hsN3_, ⟨hp0_N3_, hp1_N3_, hp2_N3_, hp3_N3_, hp4_N3_, hp5_N3_, hp6_N3_, hp7_N3_, hp8_N3_⟩⟩
      have hf_N3_ : zFr [3, 4, 5, 6, 11, 38, 39, 41] [95, 96, 97, 100] Mz N3_ := hf.tr hsN3_ (by decide) (by decide)
      have e2_N3_ : ze N3_ 81 2 = ze Mz 81 2 := hsN3_.e (by decide)
      have r3_N3_ := ze_r N3_ 81 3
      have r5_N3_ := ze_r N3_ 81 5
      have r6_N3_ := ze_r N3_ 81 6
      have e7_N3_ : ze N3_ 81 7 = ze Mz 81 7 := hsN3_.e (by decide)
      have r38_N3_ := ze_r N3_ 81 38
      have r41_N3_ := ze_r N3_ 81 41
      have c5_ : zGD N3_ := zGD.fr hsN3_ p0_ (by decide) (by decide)
      show zW l m_M_goesOn (zn Mz + 0, zw Mz + 0) N3_ 14 [some (.ref 81)] [] (zpI [3, 4, 5, 6, 11, 38, 39, 41] [95, 96, 97, 100] Mz (fun v N => 0 ≤ ze N 81 3 ∧ ze N 81 3 ≤ ze N 81 2 ∧ zTv N ∧ ze N 81 38 ≤ ze Mz 81 38 ∧ ze N 81 41 ≤ ze Mz 81 41 + 1 ∧ ze N 81 41 - zcw N = ze Mz 81 41 - zcw Mz ∧ 0 ≤ ze N 81 41 ∧ (((v = 1 ∧ ze N 81 38 = zcw N ∧ zmu N < zmu Mz) ∨ (v = 0 ∧ ze N 81 38 = zcw N + 1 ∧ zmu N = zmu Mz)))))
      refine zw_iconst (pc := 14) (v := Int32.ofInt 1) (by decide) d_M_goesOn_14 ?_
      exact zr_iret (pc := 15) (ty := .boolean) rfl (z_narB (by omega)) ⟨by omega, by omega⟩ hf_N3_ ⟨(show 0 ≤ ze N3_ 81 3 by omega), (show ze N3_ 81 3 ≤ ze N3_ 81 2 by omega), hp2_N3_, (show ze N3_ 81 38 ≤ ze Mz 81 38 by omega), (show ze N3_ 81 41 ≤ ze Mz 81 41 + 1 by omega), (show ze N3_ 81 41 - zcw N3_ = ze Mz 81 41 - zcw Mz by omega), (show 0 ≤ ze N3_ 81 41 by omega), (show ((1 = 1 ∧ ze N3_ 81 38 = zcw N3_ ∧ zmu N3_ < zmu Mz) ∨ (1 = 0 ∧ ze N3_ 81 38 = zcw N3_ + 1 ∧ zmu N3_ = zmu Mz)) from Or.inl (⟨(show 1 = 1 by omega), (show ze N3_ 81 38 = zcw N3_ by omega), (show zmu N3_ < zmu Mz by omega)⟩))⟩ d_M_goesOn_15
  · skip
    show zW l m_M_goesOn (zn Mz + 0, zw Mz + 0) Mz 6 [some (.ref 81)] [.int (Int32.ofInt 0)] (zpI [3, 4, 5, 6, 11, 38, 39, 41] [95, 96, 97, 100] Mz (fun v N => 0 ≤ ze N 81 3 ∧ ze N 81 3 ≤ ze N 81 2 ∧ zTv N ∧ ze N 81 38 ≤ ze Mz 81 38 ∧ ze N 81 41 ≤ ze Mz 81 41 + 1 ∧ ze N 81 41 - zcw N = ze Mz 81 41 - zcw Mz ∧ 0 ≤ ze N 81 41 ∧ (((v = 1 ∧ ze N 81 38 = zcw N ∧ zmu N < zmu Mz) ∨ (v = 0 ∧ ze N 81 38 = zcw N + 1 ∧ zmu N = zmu Mz)))))
    refine zr_if_eq (pc := 6) (tgt := 16) ⟨by omega, by omega⟩ (by decide) d_M_goesOn_6 (fun hc_6 => ?_) (fun hc_6 => ?_)
    · skip
      refine zw_aload_n (pc := 16) (n := 0) (x := 81) rfl d_M_goesOn_16 ?_
      refine zw_bipush (pc := 17) (v := Int32.ofInt 43) (by decide) d_M_goesOn_17 ?_
      refine zr_callV (hf.w hW) hf.x (pc := 19) [.int (Int32.ofInt 43)] [] l_M_187 (c_M_isSignHere l Mz (hf.w hW) 43 (by omega) (by omega)) rfl rfl rfl (by decide) (Nat.le_of_ble_eq_true rfl) d_M_goesOn_19 ?_
      rintro _ N6_ ⟨v7_, rfl, ⟨hv7_a, hv7_b⟩, hsN6_, hp0_N6_⟩
      obtain rfl := hsN6_.eq.symm
      replace hp0_N6_ : ((v7_ = 1 ∧ ze Mz 81 7 = 0 ∧ ze Mz 81 5 = 3 ∧ ze Mz 81 6 = 43) ∨ (v7_ = 0)) := hp0_N6_
      rcases hp0_N6_ with ⟨rfl, ha19_0_hp0_N6_, ha19_1_hp0_N6_, ha19_2_hp0_N6_⟩ | rfl
      · skip
        show zW l m_M_goesOn (zn Mz + 0, zw Mz + 0) Mz 22 [some (.ref 81)] [.int (Int32.ofInt 1)] (zpI [3, 4, 5, 6, 11, 38, 39, 41] [95, 96, 97, 100] Mz (fun v N => 0 ≤ ze N 81 3 ∧ ze N 81 3 ≤ ze N 81 2 ∧ zTv N ∧ ze N 81 38 ≤ ze Mz 81 38 ∧ ze N 81 41 ≤ ze Mz 81 41 + 1 ∧ ze N 81 41 - zcw N = ze Mz 81 41 - zcw Mz ∧ 0 ≤ ze N 81 41 ∧ (((v = 1 ∧ ze N 81 38 = zcw N ∧ zmu N < zmu Mz) ∨ (v = 0 ∧ ze N 81 38 = zcw N + 1 ∧ zmu N = zmu Mz)))))
        refine zr_if_ne (pc := 22) (tgt := 34) ⟨by omega, by omega⟩ (by decide) d_M_goesOn_22 (fun hc_22 => ?_) (fun hc_22 => ?_)
        · skip
          refine zw_aload_n (pc := 34) (n := 0) (x := 81) rfl d_M_goesOn_34 ?_
          refine zw_aload_n (pc := 35) (n := 0) (x := 81) rfl d_M_goesOn_35 ?_
          refine zr_getI (hf.w hW) (pc := 36) f_M_152 rfl d_M_goesOn_36 ?_
          refine zw_bipush (pc := 39) (v := Int32.ofInt 43) (by decide) d_M_goesOn_39 ?_
          refine zr_icmp_ne (pc := 41) (tgt := 48) ⟨by omega, by omega⟩ ⟨by omega, by omega⟩ (by decide) d_M_goesOn_41 (fun hc_41 => ?_) (fun hc_41 => ?_)
          · skip
            refine zw_iconst (pc := 48) (v := Int32.ofInt 3) (by decide) d_M_goesOn_48 ?_
            refine zr_callV (hf.w hW) hf.x (pc := 49) [.int (Int32.ofInt 3)] [] l_M_340 (c_M_waitsFor l Mz (hf.w hW) 3 (by omega) (by omega) p0_ (show 0 ≤ ze Mz 81 3 by omega) (show ze Mz 81 3 ≤ ze Mz 81 2 by omega) (show ze Mz 81 2 ≤ 700 by omega) p4_ (show ze Mz 81 7 = 0 by omega) (show ze Mz 81 5 ≠ 0 by omega) (show 2 ≤ 3 by omega) (show 3 ≤ 4 by omega) (show 0 ≤ ze Mz 81 41 by omega) (show ze Mz 81 41 ≤ 79 by omega) (show ze Mz 81 38 = zcw Mz + 1 by omega) (show ze Mz 81 38 ≤ 40 by omega)) rfl rfl rfl (by decide) (Nat.le_of_ble_eq_true rfl) d_M_goesOn_49 ?_
            rintro _ N8_ ⟨rfl, hsN8_, ⟨hp0_N8_, hp1_N8_, hp2_N8_, hp3_N8_, hp4_N8_, hp5_N8_, hp6_N8_, hp7_N8_, hp8_N8_⟩⟩
            have hf_N8_ : zFr [3, 4, 5, 6, 11, 38, 39, 41] [95, 96, 97, 100] Mz N8_ := hf.tr hsN8_ (by decide) (by decide)
            have e2_N8_ : ze N8_ 81 2 = ze Mz 81 2 := hsN8_.e (by decide)
            have r3_N8_ := ze_r N8_ 81 3
            have r5_N8_ := ze_r N8_ 81 5
            have r6_N8_ := ze_r N8_ 81 6
            have e7_N8_ : ze N8_ 81 7 = ze Mz 81 7 := hsN8_.e (by decide)
            have r38_N8_ := ze_r N8_ 81 38
            have r41_N8_ := ze_r N8_ 81 41
            have c10_ : zGD N8_ := zGD.fr hsN8_ p0_ (by decide) (by decide)
            show zW l m_M_goesOn (zn Mz + 0, zw Mz + 0) N8_ 52 [some (.ref 81)] [] (zpI [3, 4, 5, 6, 11, 38, 39, 41] [95, 96, 97, 100] Mz (fun v N => 0 ≤ ze N 81 3 ∧ ze N 81 3 ≤ ze N 81 2 ∧ zTv N ∧ ze N 81 38 ≤ ze Mz 81 38 ∧ ze N 81 41 ≤ ze Mz 81 41 + 1 ∧ ze N 81 41 - zcw N = ze Mz 81 41 - zcw Mz ∧ 0 ≤ ze N 81 41 ∧ (((v = 1 ∧ ze N 81 38 = zcw N ∧ zmu N < zmu Mz) ∨ (v = 0 ∧ ze N 81 38 = zcw N + 1 ∧ zmu N = zmu Mz)))))
            refine zw_iconst (pc := 52) (v := Int32.ofInt 1) (by decide) d_M_goesOn_52 ?_
            exact zr_iret (pc := 53) (ty := .boolean) rfl (z_narB (by omega)) ⟨by omega, by omega⟩ hf_N8_ ⟨(show 0 ≤ ze N8_ 81 3 by omega), (show ze N8_ 81 3 ≤ ze N8_ 81 2 by omega), hp2_N8_, (show ze N8_ 81 38 ≤ ze Mz 81 38 by omega), (show ze N8_ 81 41 ≤ ze Mz 81 41 + 1 by omega), (show ze N8_ 81 41 - zcw N8_ = ze Mz 81 41 - zcw Mz by omega), (show 0 ≤ ze N8_ 81 41 by omega), (show ((1 = 1 ∧ ze N8_ 81 38 = zcw N8_ ∧ zmu N8_ < zmu Mz) ∨ (1 = 0 ∧ ze N8_ 81 38 = zcw N8_ + 1 ∧ zmu N8_ = zmu Mz)) from Or.inl (⟨(show 1 = 1 by omega), (show ze N8_ 81 38 = zcw N8_ by omega), (show zmu N8_ < zmu Mz by omega)⟩))⟩ d_M_goesOn_53
          · skip
            refine zw_iconst (pc := 44) (v := Int32.ofInt 2) (by decide) d_M_goesOn_44 ?_
            refine zw_goto (pc := 45) (tgt := 49) (by decide) d_M_goesOn_45 ?_
            refine zr_callV (hf.w hW) hf.x (pc := 49) [.int (Int32.ofInt 2)] [] l_M_340 (c_M_waitsFor l Mz (hf.w hW) 2 (by omega) (by omega) p0_ (show 0 ≤ ze Mz 81 3 by omega) (show ze Mz 81 3 ≤ ze Mz 81 2 by omega) (show ze Mz 81 2 ≤ 700 by omega) p4_ (show ze Mz 81 7 = 0 by omega) (show ze Mz 81 5 ≠ 0 by omega) (show 2 ≤ 2 by omega) (show 2 ≤ 4 by omega) (show 0 ≤ ze Mz 81 41 by omega) (show ze Mz 81 41 ≤ 79 by omega) (show ze Mz 81 38 = zcw Mz + 1 by omega) (show ze Mz 81 38 ≤ 40 by omega)) rfl rfl rfl (by decide) (Nat.le_of_ble_eq_true rfl) d_M_goesOn_49 ?_
            rintro _ N11_ ⟨rfl, hsN11_, ⟨hp0_N11_, hp1_N11_, hp2_N11_, hp3_N11_, hp4_N11_, hp5_N11_, hp6_N11_, hp7_N11_, hp8_N11_⟩⟩
            have hf_N11_ : zFr [3, 4, 5, 6, 11, 38, 39, 41] [95, 96, 97, 100] Mz N11_ := hf.tr hsN11_ (by decide) (by decide)
            have e2_N11_ : ze N11_ 81 2 = ze Mz 81 2 := hsN11_.e (by decide)
            have r3_N11_ := ze_r N11_ 81 3
            have r5_N11_ := ze_r N11_ 81 5
            have r6_N11_ := ze_r N11_ 81 6
            have e7_N11_ : ze N11_ 81 7 = ze Mz 81 7 := hsN11_.e (by decide)
            have r38_N11_ := ze_r N11_ 81 38
            have r41_N11_ := ze_r N11_ 81 41
            have c13_ : zGD N11_ := zGD.fr hsN11_ p0_ (by decide) (by decide)
            show zW l m_M_goesOn (zn Mz + 0, zw Mz + 0) N11_ 52 [some (.ref 81)] [] (zpI [3, 4, 5, 6, 11, 38, 39, 41] [95, 96, 97, 100] Mz (fun v N => 0 ≤ ze N 81 3 ∧ ze N 81 3 ≤ ze N 81 2 ∧ zTv N ∧ ze N 81 38 ≤ ze Mz 81 38 ∧ ze N 81 41 ≤ ze Mz 81 41 + 1 ∧ ze N 81 41 - zcw N = ze Mz 81 41 - zcw Mz ∧ 0 ≤ ze N 81 41 ∧ (((v = 1 ∧ ze N 81 38 = zcw N ∧ zmu N < zmu Mz) ∨ (v = 0 ∧ ze N 81 38 = zcw N + 1 ∧ zmu N = zmu Mz)))))
            refine zw_iconst (pc := 52) (v := Int32.ofInt 1) (by decide) d_M_goesOn_52 ?_
            exact zr_iret (pc := 53) (ty := .boolean) rfl (z_narB (by omega)) ⟨by omega, by omega⟩ hf_N11_ ⟨(show 0 ≤ ze N11_ 81 3 by omega), (show ze N11_ 81 3 ≤ ze N11_ 81 2 by omega), hp2_N11_, (show ze N11_ 81 38 ≤ ze Mz 81 38 by omega), (show ze N11_ 81 41 ≤ ze Mz 81 41 + 1 by omega), (show ze N11_ 81 41 - zcw N11_ = ze Mz 81 41 - zcw Mz by omega), (show 0 ≤ ze N11_ 81 41 by omega), (show ((1 = 1 ∧ ze N11_ 81 38 = zcw N11_ ∧ zmu N11_ < zmu Mz) ∨ (1 = 0 ∧ ze N11_ 81 38 = zcw N11_ + 1 ∧ zmu N11_ = zmu Mz)) from Or.inl (⟨(show 1 = 1 by omega), (show ze N11_ 81 38 = zcw N11_ by omega), (show zmu N11_ < zmu Mz by omega)⟩))⟩ d_M_goesOn_53
        · skip
          exact absurd hc_22 (by decide)
      · skip
        show zW l m_M_goesOn (zn Mz + 0, zw Mz + 0) Mz 22 [some (.ref 81)] [.int (Int32.ofInt 0)] (zpI [3, 4, 5, 6, 11, 38, 39, 41] [95, 96, 97, 100] Mz (fun v N => 0 ≤ ze N 81 3 ∧ ze N 81 3 ≤ ze N 81 2 ∧ zTv N ∧ ze N 81 38 ≤ ze Mz 81 38 ∧ ze N 81 41 ≤ ze Mz 81 41 + 1 ∧ ze N 81 41 - zcw N = ze Mz 81 41 - zcw Mz ∧ 0 ≤ ze N 81 41 ∧ (((v = 1 ∧ ze N 81 38 = zcw N ∧ zmu N < zmu Mz) ∨ (v = 0 ∧ ze N 81 38 = zcw N + 1 ∧ zmu N = zmu Mz)))))
        refine zr_if_ne (pc := 22) (tgt := 34) ⟨by omega, by omega⟩ (by decide) d_M_goesOn_22 (fun hc_22 => ?_) (fun hc_22 => ?_)
        · skip
          exact absurd hc_22 (by decide)
        · skip
          refine zw_aload_n (pc := 25) (n := 0) (x := 81) rfl d_M_goesOn_25 ?_
          refine zw_bipush (pc := 26) (v := Int32.ofInt 45) (by decide) d_M_goesOn_26 ?_
          refine zr_callV (hf.w hW) hf.x (pc := 28) [.int (Int32.ofInt 45)] [] l_M_187 (c_M_isSignHere l Mz (hf.w hW) 45 (by omega) (by omega)) rfl rfl rfl (by decide) (Nat.le_of_ble_eq_true rfl) d_M_goesOn_28 ?_
          rintro _ N14_ ⟨v15_, rfl, ⟨hv15_a, hv15_b⟩, hsN14_, hp0_N14_⟩
          obtain rfl := hsN14_.eq.symm
          replace hp0_N14_ : ((v15_ = 1 ∧ ze Mz 81 7 = 0 ∧ ze Mz 81 5 = 3 ∧ ze Mz 81 6 = 45) ∨ (v15_ = 0)) := hp0_N14_
          rcases hp0_N14_ with ⟨rfl, ha28_0_hp0_N14_, ha28_1_hp0_N14_, ha28_2_hp0_N14_⟩ | rfl
          · skip
            show zW l m_M_goesOn (zn Mz + 0, zw Mz + 0) Mz 31 [some (.ref 81)] [.int (Int32.ofInt 1)] (zpI [3, 4, 5, 6, 11, 38, 39, 41] [95, 96, 97, 100] Mz (fun v N => 0 ≤ ze N 81 3 ∧ ze N 81 3 ≤ ze N 81 2 ∧ zTv N ∧ ze N 81 38 ≤ ze Mz 81 38 ∧ ze N 81 41 ≤ ze Mz 81 41 + 1 ∧ ze N 81 41 - zcw N = ze Mz 81 41 - zcw Mz ∧ 0 ≤ ze N 81 41 ∧ (((v = 1 ∧ ze N 81 38 = zcw N ∧ zmu N < zmu Mz) ∨ (v = 0 ∧ ze N 81 38 = zcw N + 1 ∧ zmu N = zmu Mz)))))
            refine zr_if_eq (pc := 31) (tgt := 54) ⟨by omega, by omega⟩ (by decide) d_M_goesOn_31 (fun hc_31 => ?_) (fun hc_31 => ?_)
            · skip
              exact absurd hc_31 (by decide)
            · skip
              refine zw_aload_n (pc := 34) (n := 0) (x := 81) rfl d_M_goesOn_34 ?_
              refine zw_aload_n (pc := 35) (n := 0) (x := 81) rfl d_M_goesOn_35 ?_
              refine zr_getI (hf.w hW) (pc := 36) f_M_152 rfl d_M_goesOn_36 ?_
              refine zw_bipush (pc := 39) (v := Int32.ofInt 43) (by decide) d_M_goesOn_39 ?_
              refine zr_icmp_ne (pc := 41) (tgt := 48) ⟨by omega, by omega⟩ ⟨by omega, by omega⟩ (by decide) d_M_goesOn_41 (fun hc_41 => ?_) (fun hc_41 => ?_)
              · skip
                refine zw_iconst (pc := 48) (v := Int32.ofInt 3) (by decide) d_M_goesOn_48 ?_
                refine zr_callV (hf.w hW) hf.x (pc := 49) [.int (Int32.ofInt 3)] [] l_M_340 (c_M_waitsFor l Mz (hf.w hW) 3 (by omega) (by omega) p0_ (show 0 ≤ ze Mz 81 3 by omega) (show ze Mz 81 3 ≤ ze Mz 81 2 by omega) (show ze Mz 81 2 ≤ 700 by omega) p4_ (show ze Mz 81 7 = 0 by omega) (show ze Mz 81 5 ≠ 0 by omega) (show 2 ≤ 3 by omega) (show 3 ≤ 4 by omega) (show 0 ≤ ze Mz 81 41 by omega) (show ze Mz 81 41 ≤ 79 by omega) (show ze Mz 81 38 = zcw Mz + 1 by omega) (show ze Mz 81 38 ≤ 40 by omega)) rfl rfl rfl (by decide) (Nat.le_of_ble_eq_true rfl) d_M_goesOn_49 ?_
                rintro _ N16_ ⟨rfl, hsN16_, ⟨hp0_N16_, hp1_N16_, hp2_N16_, hp3_N16_, hp4_N16_, hp5_N16_, hp6_N16_, hp7_N16_, hp8_N16_⟩⟩
                have hf_N16_ : zFr [3, 4, 5, 6, 11, 38, 39, 41] [95, 96, 97, 100] Mz N16_ := hf.tr hsN16_ (by decide) (by decide)
                have e2_N16_ : ze N16_ 81 2 = ze Mz 81 2 := hsN16_.e (by decide)
                have r3_N16_ := ze_r N16_ 81 3
                have r5_N16_ := ze_r N16_ 81 5
                have r6_N16_ := ze_r N16_ 81 6
                have e7_N16_ : ze N16_ 81 7 = ze Mz 81 7 := hsN16_.e (by decide)
                have r38_N16_ := ze_r N16_ 81 38
                have r41_N16_ := ze_r N16_ 81 41
                have c18_ : zGD N16_ := zGD.fr hsN16_ p0_ (by decide) (by decide)
                show zW l m_M_goesOn (zn Mz + 0, zw Mz + 0) N16_ 52 [some (.ref 81)] [] (zpI [3, 4, 5, 6, 11, 38, 39, 41] [95, 96, 97, 100] Mz (fun v N => 0 ≤ ze N 81 3 ∧ ze N 81 3 ≤ ze N 81 2 ∧ zTv N ∧ ze N 81 38 ≤ ze Mz 81 38 ∧ ze N 81 41 ≤ ze Mz 81 41 + 1 ∧ ze N 81 41 - zcw N = ze Mz 81 41 - zcw Mz ∧ 0 ≤ ze N 81 41 ∧ (((v = 1 ∧ ze N 81 38 = zcw N ∧ zmu N < zmu Mz) ∨ (v = 0 ∧ ze N 81 38 = zcw N + 1 ∧ zmu N = zmu Mz)))))
                refine zw_iconst (pc := 52) (v := Int32.ofInt 1) (by decide) d_M_goesOn_52 ?_
                exact zr_iret (pc := 53) (ty := .boolean) rfl (z_narB (by omega)) ⟨by omega, by omega⟩ hf_N16_ ⟨(show 0 ≤ ze N16_ 81 3 by omega), (show ze N16_ 81 3 ≤ ze N16_ 81 2 by omega), hp2_N16_, (show ze N16_ 81 38 ≤ ze Mz 81 38 by omega), (show ze N16_ 81 41 ≤ ze Mz 81 41 + 1 by omega), (show ze N16_ 81 41 - zcw N16_ = ze Mz 81 41 - zcw Mz by omega), (show 0 ≤ ze N16_ 81 41 by omega), (show ((1 = 1 ∧ ze N16_ 81 38 = zcw N16_ ∧ zmu N16_ < zmu Mz) ∨ (1 = 0 ∧ ze N16_ 81 38 = zcw N16_ + 1 ∧ zmu N16_ = zmu Mz)) from Or.inl (⟨(show 1 = 1 by omega), (show ze N16_ 81 38 = zcw N16_ by omega), (show zmu N16_ < zmu Mz by omega)⟩))⟩ d_M_goesOn_53
              · skip
                refine zw_iconst (pc := 44) (v := Int32.ofInt 2) (by decide) d_M_goesOn_44 ?_
                refine zw_goto (pc := 45) (tgt := 49) (by decide) d_M_goesOn_45 ?_
                refine zr_callV (hf.w hW) hf.x (pc := 49) [.int (Int32.ofInt 2)] [] l_M_340 (c_M_waitsFor l Mz (hf.w hW) 2 (by omega) (by omega) p0_ (show 0 ≤ ze Mz 81 3 by omega) (show ze Mz 81 3 ≤ ze Mz 81 2 by omega) (show ze Mz 81 2 ≤ 700 by omega) p4_ (show ze Mz 81 7 = 0 by omega) (show ze Mz 81 5 ≠ 0 by omega) (show 2 ≤ 2 by omega) (show 2 ≤ 4 by omega) (show 0 ≤ ze Mz 81 41 by omega) (show ze Mz 81 41 ≤ 79 by omega) (show ze Mz 81 38 = zcw Mz + 1 by omega) (show ze Mz 81 38 ≤ 40 by omega)) rfl rfl rfl (by decide) (Nat.le_of_ble_eq_true rfl) d_M_goesOn_49 ?_
                rintro _ N19_ ⟨rfl, hsN19_, ⟨hp0_N19_, hp1_N19_, hp2_N19_, hp3_N19_, hp4_N19_, hp5_N19_, hp6_N19_, hp7_N19_, hp8_N19_⟩⟩
                have hf_N19_ : zFr [3, 4, 5, 6, 11, 38, 39, 41] [95, 96, 97, 100] Mz N19_ := hf.tr hsN19_ (by decide) (by decide)
                have e2_N19_ : ze N19_ 81 2 = ze Mz 81 2 := hsN19_.e (by decide)
                have r3_N19_ := ze_r N19_ 81 3
                have r5_N19_ := ze_r N19_ 81 5
                have r6_N19_ := ze_r N19_ 81 6
                have e7_N19_ : ze N19_ 81 7 = ze Mz 81 7 := hsN19_.e (by decide)
                have r38_N19_ := ze_r N19_ 81 38
                have r41_N19_ := ze_r N19_ 81 41
                have c21_ : zGD N19_ := zGD.fr hsN19_ p0_ (by decide) (by decide)
                show zW l m_M_goesOn (zn Mz + 0, zw Mz + 0) N19_ 52 [some (.ref 81)] [] (zpI [3, 4, 5, 6, 11, 38, 39, 41] [95, 96, 97, 100] Mz (fun v N => 0 ≤ ze N 81 3 ∧ ze N 81 3 ≤ ze N 81 2 ∧ zTv N ∧ ze N 81 38 ≤ ze Mz 81 38 ∧ ze N 81 41 ≤ ze Mz 81 41 + 1 ∧ ze N 81 41 - zcw N = ze Mz 81 41 - zcw Mz ∧ 0 ≤ ze N 81 41 ∧ (((v = 1 ∧ ze N 81 38 = zcw N ∧ zmu N < zmu Mz) ∨ (v = 0 ∧ ze N 81 38 = zcw N + 1 ∧ zmu N = zmu Mz)))))
                refine zw_iconst (pc := 52) (v := Int32.ofInt 1) (by decide) d_M_goesOn_52 ?_
                exact zr_iret (pc := 53) (ty := .boolean) rfl (z_narB (by omega)) ⟨by omega, by omega⟩ hf_N19_ ⟨(show 0 ≤ ze N19_ 81 3 by omega), (show ze N19_ 81 3 ≤ ze N19_ 81 2 by omega), hp2_N19_, (show ze N19_ 81 38 ≤ ze Mz 81 38 by omega), (show ze N19_ 81 41 ≤ ze Mz 81 41 + 1 by omega), (show ze N19_ 81 41 - zcw N19_ = ze Mz 81 41 - zcw Mz by omega), (show 0 ≤ ze N19_ 81 41 by omega), (show ((1 = 1 ∧ ze N19_ 81 38 = zcw N19_ ∧ zmu N19_ < zmu Mz) ∨ (1 = 0 ∧ ze N19_ 81 38 = zcw N19_ + 1 ∧ zmu N19_ = zmu Mz)) from Or.inl (⟨(show 1 = 1 by omega), (show ze N19_ 81 38 = zcw N19_ by omega), (show zmu N19_ < zmu Mz by omega)⟩))⟩ d_M_goesOn_53
          · skip
            show zW l m_M_goesOn (zn Mz + 0, zw Mz + 0) Mz 31 [some (.ref 81)] [.int (Int32.ofInt 0)] (zpI [3, 4, 5, 6, 11, 38, 39, 41] [95, 96, 97, 100] Mz (fun v N => 0 ≤ ze N 81 3 ∧ ze N 81 3 ≤ ze N 81 2 ∧ zTv N ∧ ze N 81 38 ≤ ze Mz 81 38 ∧ ze N 81 41 ≤ ze Mz 81 41 + 1 ∧ ze N 81 41 - zcw N = ze Mz 81 41 - zcw Mz ∧ 0 ≤ ze N 81 41 ∧ (((v = 1 ∧ ze N 81 38 = zcw N ∧ zmu N < zmu Mz) ∨ (v = 0 ∧ ze N 81 38 = zcw N + 1 ∧ zmu N = zmu Mz)))))
            refine zr_if_eq (pc := 31) (tgt := 54) ⟨by omega, by omega⟩ (by decide) d_M_goesOn_31 (fun hc_31 => ?_) (fun hc_31 => ?_)
            · skip
              refine zw_iconst (pc := 54) (v := Int32.ofInt 0) (by decide) d_M_goesOn_54 ?_
              exact zr_iret (pc := 55) (ty := .boolean) rfl (z_narB (by omega)) ⟨by omega, by omega⟩ hf ⟨(show 0 ≤ ze Mz 81 3 by omega), (show ze Mz 81 3 ≤ ze Mz 81 2 by omega), p4_, (show ze Mz 81 38 ≤ ze Mz 81 38 by omega), (show ze Mz 81 41 ≤ ze Mz 81 41 + 1 by omega), (show ze Mz 81 41 - zcw Mz = ze Mz 81 41 - zcw Mz by omega), (show 0 ≤ ze Mz 81 41 by omega), (show ((0 = 1 ∧ ze Mz 81 38 = zcw Mz ∧ zmu Mz < zmu Mz) ∨ (0 = 0 ∧ ze Mz 81 38 = zcw Mz + 1 ∧ zmu Mz = zmu Mz)) from Or.inr (⟨(show 0 = 0 by omega), (show ze Mz 81 38 = zcw Mz + 1 by omega), (show zmu Mz = zmu Mz by omega)⟩))⟩ d_M_goesOn_55
            · skip
              exact absurd hc_31 (by decide)
    · skip
      exact absurd hc_6 (by decide)
