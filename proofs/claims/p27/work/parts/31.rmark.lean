def zCos (T : zGT) (i F : Nat) (M : zMem) : Prop := ∀ x, x < gN T → ze M 94 (24 * i + x) = ((gcos T F x : Nat) : Int)
theorem zCos.g {T : zGT} {i F : Nat} {M : zMem} (h : zCos T i F M) {a x : Int} (ha : a.toNat = i) (a0 : 0 ≤ a) (x0 : 0 ≤ x) (x1 : x.toNat < gN T) : ze M 94 (24 * a + x).toNat = ((gcos T F x.toNat : Nat) : Int) := by
  rw [show (24 * a + x).toNat = 24 * i + x.toNat by omega]
  exact h _ x1
def gfxF (T : zGT) (F H : Nat) : Nat → Nat → Nat := fun x r => r + (gfx T F H x).toNat
theorem gmk_e (T : zGT) (F H : Nat) : gmk T F H = gup (gfxF T F H) 0 (gN T) := rfl
theorem gfx_t {T : zGT} {F H x : Nat} : gfx T F H x = true ↔ gcos T F x = x ∧ ∀ k, k < gN T → H.testBit k = true → gcos T F (gm T x k) = x := by
  unfold gfx
  rw [Bool.and_eq_true, beq_iff_eq, List.all_eq_true]
  constructor
  · rintro ⟨h1, h2⟩
    exact ⟨h1, fun k hk hb => by simpa using h2 k (gel_m.mpr ⟨hk, hb⟩)⟩
  · rintro ⟨h1, h2⟩
    exact ⟨h1, fun k hk => by simpa using h2 k (gel_m.mp hk).1 (gel_m.mp hk).2⟩
def zfxI (T : zGT) (F H x k : Nat) (is : Int) : Prop := (is = 1 ∧ gcos T F x = x ∧ ∀ k', k' < k → k' < gN T → H.testBit k' = true → gcos T F (gm T x k') = x) ∨ (is = 0 ∧ gfx T F H x = false)
theorem zfx_0t {T : zGT} {F H x : Nat} (h : gcos T F x = x) : zfxI T F H x 0 1 := Or.inl ⟨rfl, h, fun k' h1 => absurd h1 (by omega)⟩
theorem zfx_0f {T : zGT} {F H x k : Nat} (h : gcos T F x ≠ x) : zfxI T F H x k 0 := Or.inr ⟨rfl, by
  cases hg : gfx T F H x with
  | false => rfl
  | true => exact absurd (gfx_t.mp hg).1 h⟩
theorem zfx_s1 {T : zGT} {F H x : Nat} {s k is : Int} (hs : s.toNat = H) (hk : 0 ≤ k) (h : zfxI T F H x k.toNat is) (h1 : is ≠ 0) (hb : ¬ zbt s k ∨ gcos T F (gm T x k.toNat) = x) : zfxI T F H x (k + 1).toNat 1 := by
  rcases h with ⟨-, h2, h3⟩ | ⟨h2, -⟩
  · refine Or.inl ⟨rfl, h2, fun k' g1 g2 g3 => ?_⟩
    by_cases e : k' = k.toNat
    · subst e
      rcases hb with hb | hb
      · unfold zbt at hb
        rw [hs] at hb
        exact absurd g3 hb
      · exact hb
    · exact h3 k' (by omega) g2 g3
  · exact absurd h2 h1
theorem zfx_s0 {T : zGT} {F H x : Nat} {s k : Int} (hs : s.toNat = H) (hk : k.toNat < gN T) (hb : zbt s k) (hc : gcos T F (gm T x k.toNat) ≠ x) : zfxI T F H x (k + 1).toNat 0 := Or.inr ⟨rfl, by
  cases hg : gfx T F H x with
  | false => rfl
  | true =>
    unfold zbt at hb
    rw [hs] at hb
    exact absurd ((gfx_t.mp hg).2 _ hk hb) hc⟩
theorem zfx_e {T : zGT} {F H x k : Nat} {is : Int} (h : zfxI T F H x k is) (he : gN T ≤ k ∨ is = 0) : is = (((gfx T F H x).toNat : Nat) : Int) := by
  rcases h with ⟨h1, h2, h3⟩ | ⟨h1, h2⟩
  · rcases he with he | he
    · rw [gfx_t.mpr ⟨h2, fun k' g1 g2 => h3 k' (by omega) g1 g2⟩, h1]; rfl
    · omega
  · rw [h2, h1]; rfl
theorem gfx_s {T : zGT} {F H : Nat} {x r v : Int} (hx : 0 ≤ x) (hr : r = ((gup (gfxF T F H) 0 x.toNat : Nat) : Int)) (hv : v = (((gfx T F H x.toNat).toNat : Nat) : Int)) : r + v = ((gup (gfxF T F H) 0 (x + 1).toNat : Nat) : Int) := by
  rw [gup_s _ _ hx, hr, hv]
  rfl
def zky (a : Int) : Int := zcb a 31 * 16777216 + a
def zSo (M : zMem) (n : Int) : Prop := (∀ i j : Nat, i < j → (j : Int) < n → zky (ze M 91 i) < zky (ze M 91 j)) ∧ ∀ i : Nat, (i : Int) < n → 0 ≤ ze M 91 i ∧ ze M 91 i < 16777216
def zMv (M N : zMem) (n i a : Int) : Prop := (0 ≤ i ∧ i ≤ n) ∧ (∀ j : Nat, (j : Int) < i → ze N 91 j = ze M 91 j) ∧ (∀ j : Nat, i ≤ j → (j : Int) < n → ze N 91 (j + 1) = ze M 91 j) ∧ ∀ j : Nat, i ≤ j → (j : Int) < n → zky a < zky (ze M 91 j)
theorem zMv_0 {M : zMem} {n a : Int} (h : 0 ≤ n) : zMv M M n n a := ⟨⟨h, Int.le_refl _⟩, fun _ _ => rfl, fun j h1 h2 => by omega, fun j h1 h2 => by omega⟩
theorem zMv_s {M N P : zMem} {n i i' a v : Int} (h : zMv M N n i a) (hi : i' = i - 1) (h1 : 1 ≤ i) (hv : v = ze M 91 (i - 1).toNat) (hr : zn32 v) (hP : P = zsI N 91 i.toNat (Int32.ofInt v)) (hk : zky a < zky v) : zMv M P n i' a := by
  subst hi
  obtain ⟨⟨a1, a2⟩, a3, a4, a5⟩ := h
  refine ⟨⟨by omega, by omega⟩, fun j hj => ?_, fun j hj hj2 => ?_, fun j hj hj2 => ?_⟩
  · rw [zs_oth hP (by omega)]
    exact a3 j (by omega)
  · by_cases e : (j : Int) = i - 1
    · rw [show j + 1 = i.toNat by omega, zs_get hP hr, hv]
      congr 1
      omega
    · rw [zs_oth hP (by omega)]
      exact a4 j (by omega) hj2
  · by_cases e : (j : Int) = i - 1
    · rw [show j = (i - 1).toNat by omega, ← hv]
      exact hk
    · exact a5 j (by omega) hj2
theorem zMv_e {M N P : zMem} {n i a : Int} (hS : zSo M n) (h : zMv M N n i a) (ha : 0 ≤ a ∧ a < 16777216) (hl : i = 0 ∨ zky (ze M 91 (i - 1).toNat) < zky a) (hP : P = zsI N 91 i.toNat (Int32.ofInt a)) : zSo P (n + 1) ∧ ∀ y : Int, (∃ j : Nat, (j : Int) < n + 1 ∧ ze P 91 j = y) ↔ (y = a ∨ ∃ j : Nat, (j : Int) < n ∧ ze M 91 j = y) := by
  obtain ⟨⟨a1, a2⟩, a3, a4, a5⟩ := h
  have hr : zn32 a := ⟨by omega, by omega⟩
  have p1 : ∀ j : Nat, (j : Int) < i → ze P 91 j = ze M 91 j := fun j hj => by rw [zs_oth hP (by omega)]; exact a3 j hj
  have p2 : ze P 91 i.toNat = a := zs_get hP hr
  have p3 : ∀ j : Nat, i < (j : Int) → (j : Int) < n + 1 → ze P 91 j = ze M 91 (j - 1) := fun j hj hj2 => by
    rw [zs_oth hP (by omega)]
    have := a4 (j - 1) (by omega) (by omega)
    rw [show j - 1 + 1 = j by omega] at this
    exact this
  have lo : ∀ j : Nat, (j : Int) < i → zky (ze M 91 j) < zky a := fun j hj => by
    rcases hl with hl | hl
    · omega
    · by_cases e : (j : Int) = i - 1
      · rw [show j = (i - 1).toNat by omega]; exact hl
      · exact Int.lt_trans (hS.1 j (i - 1).toNat (by omega) (by omega)) hl
  refine ⟨⟨fun j k hjk hk => ?_, fun j hj => ?_⟩, fun y => ⟨?_, ?_⟩⟩
  · rcases Int.lt_trichotomy (j : Int) i with g | g | g
    · rw [p1 j g]
      rcases Int.lt_trichotomy (k : Int) i with g2 | g2 | g2
      · rw [p1 k g2]; exact hS.1 j k hjk (by omega)
      · rw [show k = i.toNat by omega, p2]; exact lo j g
      · rw [p3 k g2 hk]; exact Int.lt_trans (lo j g) (a5 (k - 1) (by omega) (by omega))
    · rw [show j = i.toNat by omega, p2, p3 k (by omega) hk]
      exact a5 (k - 1) (by omega) (by omega)
    · rw [p3 j g (by omega), p3 k (by omega) hk]
      exact hS.1 (j - 1) (k - 1) (by omega) (by omega)
  · rcases Int.lt_trichotomy (j : Int) i with g | g | g
    · rw [p1 j g]; exact hS.2 j (by omega)
    · rw [show j = i.toNat by omega, p2]; exact ha
    · rw [p3 j g hj]; exact hS.2 (j - 1) (by omega)
  · rintro ⟨j, hj, rfl⟩
    rcases Int.lt_trichotomy (j : Int) i with g | g | g
    · exact Or.inr ⟨j, by omega, (p1 j g).symm⟩
    · exact Or.inl (by rw [show j = i.toNat by omega, p2])
    · exact Or.inr ⟨j - 1, by omega, (p3 j g hj).symm⟩
  · rintro (rfl | ⟨j, hj, rfl⟩)
    · exact ⟨i.toNat, by omega, p2⟩
    · by_cases g : (j : Int) < i
      · exact ⟨j, by omega, p1 j g⟩
      · refine ⟨j + 1, by omega, ?_⟩
        have := p3 (j + 1) (by omega) (by omega)
        rwa [show j + 1 - 1 = j by omega] at this
theorem zky_lt {a b oa ob : Int} (ha : 0 ≤ a ∧ a < 16777216) (hb : 0 ≤ b ∧ b < 16777216) (ea : oa = zcb a 31) (eb : ob = zcb b 31) (h : oa < ob ∨ (oa = ob ∧ a < b)) : zky a < zky b := by
  unfold zky
  rw [← ea, ← eb]
  omega
theorem zSo_f {S C : List Nat} {M N : zMem} {n : Int} (h : zFr S C M N) (hc : 91 ∉ C) (hS : zSo M n) : zSo N n := by
  have e : ∀ k, ze N 91 k = ze M 91 k := fun k => h.ie (by decide) hc k
  refine ⟨fun i j h1 h2 => ?_, fun i h1 => ?_⟩
  · rw [e, e]; exact hS.1 i j h1 h2
  · rw [e]; exact hS.2 i h1
theorem zmem_f {S C : List Nat} {M N : zMem} {n y : Int} (h : zFr S C M N) (hc : 91 ∉ C) : (∃ j : Nat, (j : Int) < n ∧ ze N 91 j = y) ↔ (∃ j : Nat, (j : Int) < n ∧ ze M 91 j = y) := by
  have e : ∀ k, ze N 91 k = ze M 91 k := fun k => h.ie (by decide) hc k
  constructor
  · rintro ⟨j, h1, h2⟩
    exact ⟨j, h1, by rw [← e]; exact h2⟩
  · rintro ⟨j, h1, h2⟩
    exact ⟨j, h1, by rw [e]; exact h2⟩
set_option maxHeartbeats 4000000 in
theorem c_M_fixedOf (l : Launch) (Mz : zMem) (hW : zMt Mz) (a0_ : Int) (ha0_a : -2147483648 ≤ a0_) (ha0_b : a0_ < 2147483648) (a1_ : Int) (ha1_a : -2147483648 ≤ a1_) (ha1_b : a1_ < 2147483648) (T : zGT) (hG : gGd T) (F : Nat) (p0_ : zTab T Mz) (p1_ : 0 ≤ a0_) (p2_ : a0_ ≤ 63) (p3_ : 0 ≤ a1_) (p4_ : zCos T (a0_).toNat F Mz) : zC l m_M_fixedOf 0 0 [.ref 81, .int (Int32.ofInt a0_), .int (Int32.ofInt a1_)] Mz (zpI [] [] Mz (fun v N => v = ((gmk T F (a1_).toNat : Nat) : Int) ∧ 0 ≤ v ∧ v ≤ 24)) := by
  refine zC_of (L0 := [some (.ref 81), some (.int (Int32.ofInt a0_)), some (.int (Int32.ofInt a1_)), none, none, none, none]) md_M_fixedOf (Nat.le_of_ble_eq_true rfl) rfl ?_ zQ0
  have hf : zFr [] [] Mz Mz := zFr.rf
  have r_20 := ze_r Mz 81 20
  have gn := p0_.1
  have g1 := hG.1
  have g24 := hG.2.1
  refine zw_iconst (pc := 0) (v := Int32.ofInt 0) (by decide) (zdal_p dlC_M_fixedOf_44 (i := 0) rfl) ?_
  refine zw_istore_n (pc := 1) (i := 3) (L2 := [some (.ref 81), some (.int (Int32.ofInt a0_)), some (.int (Int32.ofInt a1_)), some (.int (Int32.ofInt 0)), none, none, none]) rfl (by decide) rfl (zdal_p dlC_M_fixedOf_44 (i := 1) rfl) ?_
  refine zw_iconst (pc := 2) (v := Int32.ofInt 0) (by decide) (zdal_p dlC_M_fixedOf_44 (i := 2) rfl) ?_
  refine zw_istore (pc := 3) (i := 4) (L2 := [some (.ref 81), some (.int (Int32.ofInt a0_)), some (.int (Int32.ofInt a1_)), some (.int (Int32.ofInt 0)), some (.int (Int32.ofInt 0)), none, none]) (by decide) rfl (zdal_p dlC_M_fixedOf_44 (i := 3) rfl) ?_
  have lp_5 : ∀ (n : Nat) (u1_ : Int) (hu1_a : -2147483648 ≤ u1_) (hu1_b : u1_ < 2147483648) (u2_ : Int) (hu2_a : -2147483648 ≤ u2_) (hu2_b : u2_ < 2147483648) (i3_ : 0 ≤ u2_) (i4_ : 0 ≤ u1_) (i5_ : u1_ ≤ u2_) (i6_ : u2_ ≤ ze Mz 81 20) (i7_ : u1_ = ((gup (gfxF T F (a1_).toNat) 0 (u2_).toNat : Nat) : Int)), (ze Mz 81 20 - u2_).toNat < n → zW l m_M_fixedOf (zn Mz + 0, zw Mz + 0) Mz 5 [some (.ref 81), some (.int (Int32.ofInt a0_)), some (.int (Int32.ofInt a1_)), some (.int (Int32.ofInt u1_)), some (.int (Int32.ofInt u2_)), none, none] [] (zpI [] [] Mz (fun v N => v = ((gmk T F (a1_).toNat : Nat) : Int) ∧ 0 ≤ v ∧ v ≤ 24)) := by
    intro n
    induction n with
    | zero =>
      intro u1_ hu1_a hu1_b u2_ hu2_a hu2_b i3_ i4_ i5_ i6_ i7_ h0
      exact absurd h0 (Nat.not_lt_zero _)
    | succ n ih_5 =>
      intro u1_ hu1_a hu1_b u2_ hu2_a hu2_b i3_ i4_ i5_ i6_ i7_ hlt_5
      refine zw_iload (pc := 5) (i := 4) (x := Int32.ofInt u2_) rfl (zdal_p dlC_M_fixedOf_44 (i := 4) rfl) ?_
      refine zw_aload_n (pc := 7) (n := 0) (x := 81) rfl (zdal_p dlC_M_fixedOf_44 (i := 5) rfl) ?_
      refine zr_getI0 hf hW (pc := 8) (by decide) f_M_196 rfl (zdal_p dlC_M_fixedOf_44 (i := 6) rfl) ?_
      refine zr_icmp_ge (pc := 11) (tgt := 114) ⟨hu2_a, hu2_b⟩ ⟨(ze_r Mz 81 20).1, (ze_r Mz 81 20).2⟩ (by decide) (zdal_p dlC_M_fixedOf_44 (i := 7) rfl) (fun hc_11 => ?_) (fun hc_11 => ?_)
      · skip
        refine zw_iload_n (pc := 114) (n := 3) (x := Int32.ofInt u1_) rfl (zdal_p dlC_M_fixedOf_46 (i := 12) rfl) ?_
        have he : (u2_).toNat = gN T := by omega
        exact zr_iret (pc := 115) (ty := .int) rfl rfl ⟨by omega, by omega⟩ hf ⟨(show u1_ = ((gmk T F (a1_).toNat : Nat) : Int) by rw [gmk_e, ← he]; assumption), (show 0 ≤ u1_ by first | assumption | omega), (show u1_ ≤ 24 by first | assumption | omega)⟩ (zdal_p dlC_M_fixedOf_46 (i := 13) rfl)
      · skip
        refine zw_aload_n (pc := 14) (n := 0) (x := 81) rfl (zdal_p dlC_M_fixedOf_44 (i := 8) rfl) ?_
        refine zr_getF (r := 94) (hf.w hW) (pc := 15) f_M_53 rfl (zh_94 (hf.w hW)).1 (zdal_p dlC_M_fixedOf_44 (i := 9) rfl) ?_
        refine zw_bipush (pc := 18) (v := Int32.ofInt 24) (by decide) (zdal_p dlC_M_fixedOf_44 (i := 10) rfl) ?_
        refine zw_iload_n (pc := 20) (n := 1) (x := Int32.ofInt a0_) rfl (zdal_p dlC_M_fixedOf_44 (i := 11) rfl) ?_
        refine zr_imul (pc := 21) (zdal_p dlC_M_fixedOf_44 (i := 12) rfl) ?_
        refine zw_iload (pc := 22) (i := 4) (x := Int32.ofInt u2_) rfl (zdal_p dlC_M_fixedOf_44 (i := 13) rfl) ?_
        refine zr_iadd (pc := 24) (zdal_p dlC_M_fixedOf_44 (i := 14) rfl) ?_
        refine zr_ialdn (pc := 25) (zh_94 (hf.w hW)).2 (by decide) (by omega) (by omega) (zdal_p dlC_M_fixedOf_44 (i := 15) rfl) (fun v8_ hv8_ hv8_a hv8_b => ?_)
        have hcv := p4_.g (a := a0_) (x := u2_) rfl (by omega) (by omega) (by omega)
        refine zw_iload (pc := 26) (i := 4) (x := Int32.ofInt u2_) rfl (zdal_p dlC_M_fixedOf_44 (i := 16) rfl) ?_
        refine zr_icmp_ne (pc := 28) (tgt := 35) ⟨hv8_a, hv8_b⟩ ⟨hu2_a, hu2_b⟩ (by decide) (zdal_p dlC_M_fixedOf_44 (i := 17) rfl) (fun hc_28 => ?_) (fun hc_28 => ?_)
        · skip
          refine zw_iconst (pc := 35) (v := Int32.ofInt 0) (by decide) (zdal_p dlC_M_fixedOf_44 (i := 20) rfl) ?_
          refine zw_istore (pc := 36) (i := 5) (L2 := [some (.ref 81), some (.int (Int32.ofInt a0_)), some (.int (Int32.ofInt a1_)), some (.int (Int32.ofInt u1_)), some (.int (Int32.ofInt u2_)), some (.int (Int32.ofInt 0)), none]) (by decide) rfl (zdal_p dlC_M_fixedOf_44 (i := 21) rfl) ?_
          refine zw_iconst (pc := 38) (v := Int32.ofInt 0) (by decide) (zdal_p dlC_M_fixedOf_44 (i := 22) rfl) ?_
          refine zw_istore (pc := 39) (i := 6) (L2 := [some (.ref 81), some (.int (Int32.ofInt a0_)), some (.int (Int32.ofInt a1_)), some (.int (Int32.ofInt u1_)), some (.int (Int32.ofInt u2_)), some (.int (Int32.ofInt 0)), some (.int (Int32.ofInt 0))]) (by decide) rfl (zdal_p dlC_M_fixedOf_44 (i := 23) rfl) ?_
          have hI : zfxI T F (a1_).toNat (u2_).toNat ((0 : Int)).toNat (0 : Int) := by first | exact zfx_0t (by omega) | exact zfx_0f (by omega)
          have lp_41 : ∀ (n : Nat) (u9_ : Int) (hu9_a : -2147483648 ≤ u9_) (hu9_b : u9_ < 2147483648) (hu9_z : u9_ = 0 ∨ u9_ = 1) (u10_ : Int) (hu10_a : -2147483648 ≤ u10_) (hu10_b : u10_ < 2147483648) (i11_ : 0 ≤ u10_) (i12_ : u10_ ≤ ze Mz 81 20) (i13_ : zfxI T F (a1_).toNat (u2_).toNat (u10_).toNat u9_), (ze Mz 81 20 - u10_).toNat < n → zW l m_M_fixedOf (zn Mz + 0, zw Mz + 0) Mz 41 [some (.ref 81), some (.int (Int32.ofInt a0_)), some (.int (Int32.ofInt a1_)), some (.int (Int32.ofInt u1_)), some (.int (Int32.ofInt u2_)), some (.int (Int32.ofInt u9_)), some (.int (Int32.ofInt u10_))] [] (zpI [] [] Mz (fun v N => v = ((gmk T F (a1_).toNat : Nat) : Int) ∧ 0 ≤ v ∧ v ≤ 24)) := by
            intro n
            induction n with
            | zero =>
              intro u9_ hu9_a hu9_b hu9_z u10_ hu10_a hu10_b i11_ i12_ i13_ h0
              exact absurd h0 (Nat.not_lt_zero _)
            | succ n ih_41 =>
              intro u9_ hu9_a hu9_b hu9_z u10_ hu10_a hu10_b i11_ i12_ i13_ hlt_41
              refine zw_iload (pc := 41) (i := 6) (x := Int32.ofInt u10_) rfl (zdal_p dlC_M_fixedOf_45 (i := 0) rfl) ?_
              refine zw_aload_n (pc := 43) (n := 0) (x := 81) rfl (zdal_p dlC_M_fixedOf_45 (i := 1) rfl) ?_
              refine zr_getI0 hf hW (pc := 44) (by decide) f_M_196 rfl (zdal_p dlC_M_fixedOf_45 (i := 2) rfl) ?_
              refine zr_icmp_ge (pc := 47) (tgt := 100) ⟨hu10_a, hu10_b⟩ ⟨(ze_r Mz 81 20).1, (ze_r Mz 81 20).2⟩ (by decide) (zdal_p dlC_M_fixedOf_45 (i := 3) rfl) (fun hc_47 => ?_) (fun hc_47 => ?_)
              · skip
                refine zw_iload_n (pc := 100) (n := 3) (x := Int32.ofInt u1_) rfl (zdal_p dlC_M_fixedOf_46 (i := 5) rfl) ?_
                refine zw_iload (pc := 101) (i := 5) (x := Int32.ofInt u9_) rfl (zdal_p dlC_M_fixedOf_46 (i := 6) rfl) ?_
                refine zr_callS hf.x (pc := 103) [.int (Int32.ofInt u9_)] [.int (Int32.ofInt u1_)] l_M_256 (c_M_truth l Mz (hf.w hW) u9_ hu9_a hu9_b (by omega)) rfl rfl (by decide) (Nat.le_of_ble_eq_true rfl) (zdal_p dlC_M_fixedOf_46 (i := 7) rfl) ?_
                rintro _ N14_ ⟨v15_, rfl, ⟨hv15_a, hv15_b⟩, hsN14_, hp0_N14_⟩
                obtain rfl := hsN14_.eq.symm
                replace hp0_N14_ : v15_ = u9_ := hp0_N14_
                show zW l m_M_fixedOf (zn Mz + 0, zw Mz + 0) Mz 106 [some (.ref 81), some (.int (Int32.ofInt a0_)), some (.int (Int32.ofInt a1_)), some (.int (Int32.ofInt u1_)), some (.int (Int32.ofInt u2_)), some (.int (Int32.ofInt u9_)), some (.int (Int32.ofInt u10_))] [.int (Int32.ofInt v15_), .int (Int32.ofInt u1_)] _
                have hE := zfx_e (show zfxI T F (a1_).toNat (u2_).toNat _ _ by assumption) (by omega)
                have hs := gfx_s (by omega) (show u1_ = ((gup (gfxF T F (a1_).toNat) 0 (u2_).toNat : Nat) : Int) by assumption) (v := v15_) (by omega)
                refine zr_iadd (pc := 106) (zdal_p dlC_M_fixedOf_46 (i := 8) rfl) ?_
                refine zw_istore_n (pc := 107) (i := 3) (L2 := [some (.ref 81), some (.int (Int32.ofInt a0_)), some (.int (Int32.ofInt a1_)), some (.int (Int32.ofInt (u1_ + v15_))), some (.int (Int32.ofInt u2_)), some (.int (Int32.ofInt u9_)), some (.int (Int32.ofInt u10_))]) rfl (by decide) rfl (zdal_p dlC_M_fixedOf_46 (i := 9) rfl) ?_
                refine zr_iinc (pc := 108) (i := 4) (a := u2_) (n := 1) (L2 := [some (.ref 81), some (.int (Int32.ofInt a0_)), some (.int (Int32.ofInt a1_)), some (.int (Int32.ofInt (u1_ + v15_))), some (.int (Int32.ofInt (u2_ + 1))), some (.int (Int32.ofInt u9_)), some (.int (Int32.ofInt u10_))]) rfl (by decide) rfl (zdal_p dlC_M_fixedOf_46 (i := 10) rfl) ?_
                refine zw_goto (pc := 111) (tgt := 5) (by decide) (zdal_p dlC_M_fixedOf_46 (i := 11) rfl) ?_
                refine zW_le [some (.ref 81), some (.int (Int32.ofInt a0_)), some (.int (Int32.ofInt a1_)), some (.int (Int32.ofInt (u1_ + v15_))), some (.int (Int32.ofInt (u2_ + 1))), none, none] (⟨rfl, rfl, rfl, rfl, rfl, trivial⟩) ?_
                exact ih_5 (u1_ + v15_) (by omega) (by omega) (u2_ + 1) (by omega) (by omega) (show 0 ≤ (u2_ + 1) by first | assumption | omega) (show 0 ≤ (u1_ + v15_) by first | assumption | omega) (show (u1_ + v15_) ≤ (u2_ + 1) by first | assumption | omega) (show (u2_ + 1) ≤ ze Mz 81 20 by first | assumption | omega) (show (u1_ + v15_) = ((gup (gfxF T F (a1_).toNat) 0 ((u2_ + 1)).toNat : Nat) : Int) by first | assumption | omega) (by omega)
              · skip
                refine zw_iload (pc := 50) (i := 5) (x := Int32.ofInt u9_) rfl (zdal_p dlC_M_fixedOf_45 (i := 4) rfl) ?_
                refine zr_if_eq (pc := 52) (tgt := 100) ⟨hu9_a, hu9_b⟩ (by decide) (zdal_p dlC_M_fixedOf_45 (i := 5) rfl) (fun hc_52 => ?_) (fun hc_52 => ?_)
                · skip
                  refine zw_iload_n (pc := 100) (n := 3) (x := Int32.ofInt u1_) rfl (zdal_p dlC_M_fixedOf_46 (i := 5) rfl) ?_
                  refine zw_iload (pc := 101) (i := 5) (x := Int32.ofInt u9_) rfl (zdal_p dlC_M_fixedOf_46 (i := 6) rfl) ?_
                  refine zr_callS hf.x (pc := 103) [.int (Int32.ofInt u9_)] [.int (Int32.ofInt u1_)] l_M_256 (c_M_truth l Mz (hf.w hW) u9_ hu9_a hu9_b (by omega)) rfl rfl (by decide) (Nat.le_of_ble_eq_true rfl) (zdal_p dlC_M_fixedOf_46 (i := 7) rfl) ?_
                  rintro _ N16_ ⟨v17_, rfl, ⟨hv17_a, hv17_b⟩, hsN16_, hp0_N16_⟩
                  obtain rfl := hsN16_.eq.symm
                  replace hp0_N16_ : v17_ = u9_ := hp0_N16_
                  show zW l m_M_fixedOf (zn Mz + 0, zw Mz + 0) Mz 106 [some (.ref 81), some (.int (Int32.ofInt a0_)), some (.int (Int32.ofInt a1_)), some (.int (Int32.ofInt u1_)), some (.int (Int32.ofInt u2_)), some (.int (Int32.ofInt u9_)), some (.int (Int32.ofInt u10_))] [.int (Int32.ofInt v17_), .int (Int32.ofInt u1_)] _
                  have hE := zfx_e (show zfxI T F (a1_).toNat (u2_).toNat _ _ by assumption) (by omega)
                  have hs := gfx_s (by omega) (show u1_ = ((gup (gfxF T F (a1_).toNat) 0 (u2_).toNat : Nat) : Int) by assumption) (v := v17_) (by omega)
                  refine zr_iadd (pc := 106) (zdal_p dlC_M_fixedOf_46 (i := 8) rfl) ?_
                  refine zw_istore_n (pc := 107) (i := 3) (L2 := [some (.ref 81), some (.int (Int32.ofInt a0_)), some (.int (Int32.ofInt a1_)), some (.int (Int32.ofInt (u1_ + v17_))), some (.int (Int32.ofInt u2_)), some (.int (Int32.ofInt u9_)), some (.int (Int32.ofInt u10_))]) rfl (by decide) rfl (zdal_p dlC_M_fixedOf_46 (i := 9) rfl) ?_
                  refine zr_iinc (pc := 108) (i := 4) (a := u2_) (n := 1) (L2 := [some (.ref 81), some (.int (Int32.ofInt a0_)), some (.int (Int32.ofInt a1_)), some (.int (Int32.ofInt (u1_ + v17_))), some (.int (Int32.ofInt (u2_ + 1))), some (.int (Int32.ofInt u9_)), some (.int (Int32.ofInt u10_))]) rfl (by decide) rfl (zdal_p dlC_M_fixedOf_46 (i := 10) rfl) ?_
                  refine zw_goto (pc := 111) (tgt := 5) (by decide) (zdal_p dlC_M_fixedOf_46 (i := 11) rfl) ?_
                  refine zW_le [some (.ref 81), some (.int (Int32.ofInt a0_)), some (.int (Int32.ofInt a1_)), some (.int (Int32.ofInt (u1_ + v17_))), some (.int (Int32.ofInt (u2_ + 1))), none, none] (⟨rfl, rfl, rfl, rfl, rfl, trivial⟩) ?_
                  exact ih_5 (u1_ + v17_) (by omega) (by omega) (u2_ + 1) (by omega) (by omega) (show 0 ≤ (u2_ + 1) by first | assumption | omega) (show 0 ≤ (u1_ + v17_) by first | assumption | omega) (show (u1_ + v17_) ≤ (u2_ + 1) by first | assumption | omega) (show (u2_ + 1) ≤ ze Mz 81 20 by first | assumption | omega) (show (u1_ + v17_) = ((gup (gfxF T F (a1_).toNat) 0 ((u2_ + 1)).toNat : Nat) : Int) by first | assumption | omega) (by omega)
                · skip
                  refine zw_iload_n (pc := 55) (n := 2) (x := Int32.ofInt a1_) rfl (zdal_p dlC_M_fixedOf_45 (i := 6) rfl) ?_
                  refine zw_iload (pc := 56) (i := 6) (x := Int32.ofInt u10_) rfl (zdal_p dlC_M_fixedOf_45 (i := 7) rfl) ?_
                  refine zr_callS hf.x (pc := 58) [.int (Int32.ofInt a1_), .int (Int32.ofInt u10_)] [] l_M_213 (c_M_holds l Mz (hf.w hW) a1_ ha1_a ha1_b u10_ hu10_a hu10_b (show 0 ≤ a1_ by first | assumption | omega) (show 0 ≤ u10_ by first | assumption | omega) (show u10_ < 32 by first | assumption | omega)) rfl rfl (by decide) (Nat.le_of_ble_eq_true rfl) (zdal_p dlC_M_fixedOf_45 (i := 8) rfl) ?_
                  rintro _ N18_ ⟨v19_, rfl, ⟨hv19_a, hv19_b⟩, hsN18_, hp0_N18_⟩
                  obtain rfl := hsN18_.eq.symm
                  replace hp0_N18_ : ((v19_ = 1 ∧ zbt a1_ u10_) ∨ (v19_ = 0 ∧ ¬ zbt a1_ u10_)) := hp0_N18_
                  rcases hp0_N18_ with ⟨rfl, ha58_0_hp0_N18_⟩ | ⟨rfl, ha58_0_hp0_N18_⟩
                  · skip
                    show zW l m_M_fixedOf (zn Mz + 0, zw Mz + 0) Mz 61 [some (.ref 81), some (.int (Int32.ofInt a0_)), some (.int (Int32.ofInt a1_)), some (.int (Int32.ofInt u1_)), some (.int (Int32.ofInt u2_)), some (.int (Int32.ofInt u9_)), some (.int (Int32.ofInt u10_))] [.int (Int32.ofInt 1)] _
                    refine zr_if_eq (pc := 61) (tgt := 87) ⟨(by decide), (by decide)⟩ (by decide) (zdal_p dlC_M_fixedOf_45 (i := 9) rfl) (fun hc_61 => ?_) (fun hc_61 => ?_)
                    · skip
                      exact absurd hc_61 (by decide)
                    · skip
                      refine zw_aload_n (pc := 64) (n := 0) (x := 81) rfl (zdal_p dlC_M_fixedOf_45 (i := 10) rfl) ?_
                      refine zr_getF (r := 94) (hf.w hW) (pc := 65) f_M_53 rfl (zh_94 (hf.w hW)).1 (zdal_p dlC_M_fixedOf_45 (i := 11) rfl) ?_
                      refine zw_bipush (pc := 68) (v := Int32.ofInt 24) (by decide) (zdal_p dlC_M_fixedOf_45 (i := 12) rfl) ?_
                      refine zw_iload_n (pc := 70) (n := 1) (x := Int32.ofInt a0_) rfl (zdal_p dlC_M_fixedOf_45 (i := 13) rfl) ?_
                      refine zr_imul (pc := 71) (zdal_p dlC_M_fixedOf_45 (i := 14) rfl) ?_
                      refine zw_aload_n (pc := 72) (n := 0) (x := 81) rfl (zdal_p dlC_M_fixedOf_45 (i := 15) rfl) ?_
                      refine zw_iload (pc := 73) (i := 4) (x := Int32.ofInt u2_) rfl (zdal_p dlC_M_fixedOf_45 (i := 16) rfl) ?_
                      refine zw_iload (pc := 75) (i := 6) (x := Int32.ofInt u10_) rfl (zdal_p dlC_M_fixedOf_45 (i := 17) rfl) ?_
                      refine zr_callV (hf.w hW) hf.x (pc := 77) [.int (Int32.ofInt u2_), .int (Int32.ofInt u10_)] [.int (Int32.ofInt (24 * a0_)), .ref 94] l_M_216 (c_M_by l Mz (hf.w hW) u2_ hu2_a hu2_b u10_ hu10_a hu10_b T hG p0_ (show 0 ≤ u2_ by first | assumption | omega) (show u2_ < ze Mz 81 20 by first | assumption | omega) (show 0 ≤ u10_ by first | assumption | omega) (show u10_ < ze Mz 81 20 by first | assumption | omega)) rfl rfl rfl (by decide) (Nat.le_of_ble_eq_true rfl) (zdal_p dlC_M_fixedOf_45 (i := 18) rfl) ?_
                      rintro _ N20_ ⟨v21_, rfl, ⟨hv21_a, hv21_b⟩, hsN20_, ⟨hp0_N20_, hp1_N20_, hp2_N20_⟩⟩
                      obtain rfl := hsN20_.eq.symm
                      show zW l m_M_fixedOf (zn Mz + 0, zw Mz + 0) Mz 80 [some (.ref 81), some (.int (Int32.ofInt a0_)), some (.int (Int32.ofInt a1_)), some (.int (Int32.ofInt u1_)), some (.int (Int32.ofInt u2_)), some (.int (Int32.ofInt u9_)), some (.int (Int32.ofInt u10_))] [.int (Int32.ofInt v21_), .int (Int32.ofInt (24 * a0_)), .ref 94] _
                      refine zr_toI (show v21_ = ((gm T (u2_).toNat (u10_).toNat : Nat) : Int) by assumption) ?_
                      refine zr_iadd (pc := 80) (zdal_p dlC_M_fixedOf_45 (i := 19) rfl) ?_
                      refine zr_ialdn (pc := 81) (zh_94 (hf.w hW)).2 (by decide) (by omega) (by omega) (zdal_p dlC_M_fixedOf_45 (i := 20) rfl) (fun v22_ hv22_ hv22_a hv22_b => ?_)
                      have hcw := p4_.g (a := a0_) (x := ((gm T (u2_).toNat (u10_).toNat : Nat) : Int)) rfl (by omega) (by omega) (by rw [Int.toNat_natCast]; exact hG.2.2.2 _ _ (by omega) (by omega))
                      rw [Int.toNat_natCast] at hcw
                      refine zw_iload (pc := 82) (i := 4) (x := Int32.ofInt u2_) rfl (zdal_p dlC_M_fixedOf_45 (i := 21) rfl) ?_
                      refine zr_icmp_ne (pc := 84) (tgt := 91) ⟨hv22_a, hv22_b⟩ ⟨hu2_a, hu2_b⟩ (by decide) (zdal_p dlC_M_fixedOf_45 (i := 22) rfl) (fun hc_84 => ?_) (fun hc_84 => ?_)
                      · skip
                        refine zw_iconst (pc := 91) (v := Int32.ofInt 0) (by decide) (zdal_p dlC_M_fixedOf_46 (i := 1) rfl) ?_
                        refine zw_istore (pc := 92) (i := 5) (L2 := [some (.ref 81), some (.int (Int32.ofInt a0_)), some (.int (Int32.ofInt a1_)), some (.int (Int32.ofInt u1_)), some (.int (Int32.ofInt u2_)), some (.int (Int32.ofInt 0)), some (.int (Int32.ofInt u10_))]) (by decide) rfl d_M_fixedOf_92 ?_
                        refine zr_iinc (pc := 94) (i := 6) (a := u10_) (n := 1) (L2 := [some (.ref 81), some (.int (Int32.ofInt a0_)), some (.int (Int32.ofInt a1_)), some (.int (Int32.ofInt u1_)), some (.int (Int32.ofInt u2_)), some (.int (Int32.ofInt 0)), some (.int (Int32.ofInt (u10_ + 1)))]) rfl (by decide) rfl d_M_fixedOf_94 ?_
                        refine zw_goto (pc := 97) (tgt := 41) (by decide) d_M_fixedOf_97 ?_
                        have hJ : zfxI T F (a1_).toNat (u2_).toNat ((u10_ + 1)).toNat (0 : Int) := by first | exact zfx_s1 rfl (by omega) (by assumption) (by omega) (Or.inl (by assumption)) | exact zfx_s1 rfl (by omega) (by assumption) (by omega) (Or.inr (by omega)) | exact zfx_s0 rfl (by omega) (by assumption) (by omega)
                        exact ih_41 0 (by decide) (by decide) (by omega) (u10_ + 1) (by omega) (by omega) (show 0 ≤ (u10_ + 1) by first | assumption | omega) (show (u10_ + 1) ≤ ze Mz 81 20 by first | assumption | omega) (show zfxI T F (a1_).toNat (u2_).toNat ((u10_ + 1)).toNat (0 : Int) by first | assumption | omega) (by omega)
                      · skip
                        refine zw_iconst (pc := 87) (v := Int32.ofInt 1) (by decide) (zdal_p dlC_M_fixedOf_45 (i := 23) rfl) ?_
                        refine zw_goto (pc := 88) (tgt := 92) (by decide) (zdal_p dlC_M_fixedOf_46 (i := 0) rfl) ?_
                        refine zw_istore (pc := 92) (i := 5) (L2 := [some (.ref 81), some (.int (Int32.ofInt a0_)), some (.int (Int32.ofInt a1_)), some (.int (Int32.ofInt u1_)), some (.int (Int32.ofInt u2_)), some (.int (Int32.ofInt 1)), some (.int (Int32.ofInt u10_))]) (by decide) rfl d_M_fixedOf_92 ?_
                        refine zr_iinc (pc := 94) (i := 6) (a := u10_) (n := 1) (L2 := [some (.ref 81), some (.int (Int32.ofInt a0_)), some (.int (Int32.ofInt a1_)), some (.int (Int32.ofInt u1_)), some (.int (Int32.ofInt u2_)), some (.int (Int32.ofInt 1)), some (.int (Int32.ofInt (u10_ + 1)))]) rfl (by decide) rfl d_M_fixedOf_94 ?_
                        refine zw_goto (pc := 97) (tgt := 41) (by decide) d_M_fixedOf_97 ?_
                        have hJ : zfxI T F (a1_).toNat (u2_).toNat ((u10_ + 1)).toNat (1 : Int) := by first | exact zfx_s1 rfl (by omega) (by assumption) (by omega) (Or.inl (by assumption)) | exact zfx_s1 rfl (by omega) (by assumption) (by omega) (Or.inr (by omega)) | exact zfx_s0 rfl (by omega) (by assumption) (by omega)
                        exact ih_41 1 (by decide) (by decide) (by omega) (u10_ + 1) (by omega) (by omega) (show 0 ≤ (u10_ + 1) by first | assumption | omega) (show (u10_ + 1) ≤ ze Mz 81 20 by first | assumption | omega) (show zfxI T F (a1_).toNat (u2_).toNat ((u10_ + 1)).toNat (1 : Int) by first | assumption | omega) (by omega)
                  · skip
                    show zW l m_M_fixedOf (zn Mz + 0, zw Mz + 0) Mz 61 [some (.ref 81), some (.int (Int32.ofInt a0_)), some (.int (Int32.ofInt a1_)), some (.int (Int32.ofInt u1_)), some (.int (Int32.ofInt u2_)), some (.int (Int32.ofInt u9_)), some (.int (Int32.ofInt u10_))] [.int (Int32.ofInt 0)] _
                    refine zr_if_eq (pc := 61) (tgt := 87) ⟨(by decide), (by decide)⟩ (by decide) (zdal_p dlC_M_fixedOf_45 (i := 9) rfl) (fun hc_61 => ?_) (fun hc_61 => ?_)
                    · skip
                      refine zw_iconst (pc := 87) (v := Int32.ofInt 1) (by decide) (zdal_p dlC_M_fixedOf_45 (i := 23) rfl) ?_
                      refine zw_goto (pc := 88) (tgt := 92) (by decide) (zdal_p dlC_M_fixedOf_46 (i := 0) rfl) ?_
                      refine zw_istore (pc := 92) (i := 5) (L2 := [some (.ref 81), some (.int (Int32.ofInt a0_)), some (.int (Int32.ofInt a1_)), some (.int (Int32.ofInt u1_)), some (.int (Int32.ofInt u2_)), some (.int (Int32.ofInt 1)), some (.int (Int32.ofInt u10_))]) (by decide) rfl d_M_fixedOf_92 ?_
                      refine zr_iinc (pc := 94) (i := 6) (a := u10_) (n := 1) (L2 := [some (.ref 81), some (.int (Int32.ofInt a0_)), some (.int (Int32.ofInt a1_)), some (.int (Int32.ofInt u1_)), some (.int (Int32.ofInt u2_)), some (.int (Int32.ofInt 1)), some (.int (Int32.ofInt (u10_ + 1)))]) rfl (by decide) rfl d_M_fixedOf_94 ?_
                      refine zw_goto (pc := 97) (tgt := 41) (by decide) d_M_fixedOf_97 ?_
                      have hJ : zfxI T F (a1_).toNat (u2_).toNat ((u10_ + 1)).toNat (1 : Int) := by first | exact zfx_s1 rfl (by omega) (by assumption) (by omega) (Or.inl (by assumption)) | exact zfx_s1 rfl (by omega) (by assumption) (by omega) (Or.inr (by omega)) | exact zfx_s0 rfl (by omega) (by assumption) (by omega)
                      exact ih_41 1 (by decide) (by decide) (by omega) (u10_ + 1) (by omega) (by omega) (show 0 ≤ (u10_ + 1) by first | assumption | omega) (show (u10_ + 1) ≤ ze Mz 81 20 by first | assumption | omega) (show zfxI T F (a1_).toNat (u2_).toNat ((u10_ + 1)).toNat (1 : Int) by first | assumption | omega) (by omega)
                    · skip
                      exact absurd hc_61 (by decide)
          exact lp_41 _ 0 (by decide) (by decide) (by omega) 0 (by decide) (by decide) (show 0 ≤ (0 : Int) by first | assumption | omega) (show (0 : Int) ≤ ze Mz 81 20 by first | assumption | omega) (show zfxI T F (a1_).toNat (u2_).toNat ((0 : Int)).toNat (0 : Int) by first | assumption | omega) (Nat.lt_succ_self _)
        · skip
          refine zw_iconst (pc := 31) (v := Int32.ofInt 1) (by decide) (zdal_p dlC_M_fixedOf_44 (i := 18) rfl) ?_
          refine zw_goto (pc := 32) (tgt := 36) (by decide) (zdal_p dlC_M_fixedOf_44 (i := 19) rfl) ?_
          refine zw_istore (pc := 36) (i := 5) (L2 := [some (.ref 81), some (.int (Int32.ofInt a0_)), some (.int (Int32.ofInt a1_)), some (.int (Int32.ofInt u1_)), some (.int (Int32.ofInt u2_)), some (.int (Int32.ofInt 1)), none]) (by decide) rfl (zdal_p dlC_M_fixedOf_44 (i := 21) rfl) ?_
          refine zw_iconst (pc := 38) (v := Int32.ofInt 0) (by decide) (zdal_p dlC_M_fixedOf_44 (i := 22) rfl) ?_
          refine zw_istore (pc := 39) (i := 6) (L2 := [some (.ref 81), some (.int (Int32.ofInt a0_)), some (.int (Int32.ofInt a1_)), some (.int (Int32.ofInt u1_)), some (.int (Int32.ofInt u2_)), some (.int (Int32.ofInt 1)), some (.int (Int32.ofInt 0))]) (by decide) rfl (zdal_p dlC_M_fixedOf_44 (i := 23) rfl) ?_
          have hI : zfxI T F (a1_).toNat (u2_).toNat ((0 : Int)).toNat (1 : Int) := by first | exact zfx_0t (by omega) | exact zfx_0f (by omega)
          have lp_41 : ∀ (n : Nat) (u23_ : Int) (hu23_a : -2147483648 ≤ u23_) (hu23_b : u23_ < 2147483648) (hu23_z : u23_ = 0 ∨ u23_ = 1) (u24_ : Int) (hu24_a : -2147483648 ≤ u24_) (hu24_b : u24_ < 2147483648) (i25_ : 0 ≤ u24_) (i26_ : u24_ ≤ ze Mz 81 20) (i27_ : zfxI T F (a1_).toNat (u2_).toNat (u24_).toNat u23_), (ze Mz 81 20 - u24_).toNat < n → zW l m_M_fixedOf (zn Mz + 0, zw Mz + 0) Mz 41 [some (.ref 81), some (.int (Int32.ofInt a0_)), some (.int (Int32.ofInt a1_)), some (.int (Int32.ofInt u1_)), some (.int (Int32.ofInt u2_)), some (.int (Int32.ofInt u23_)), some (.int (Int32.ofInt u24_))] [] (zpI [] [] Mz (fun v N => v = ((gmk T F (a1_).toNat : Nat) : Int) ∧ 0 ≤ v ∧ v ≤ 24)) := by
            intro n
            induction n with
            | zero =>
              intro u23_ hu23_a hu23_b hu23_z u24_ hu24_a hu24_b i25_ i26_ i27_ h0
              exact absurd h0 (Nat.not_lt_zero _)
            | succ n ih_41 =>
              intro u23_ hu23_a hu23_b hu23_z u24_ hu24_a hu24_b i25_ i26_ i27_ hlt_41
              refine zw_iload (pc := 41) (i := 6) (x := Int32.ofInt u24_) rfl (zdal_p dlC_M_fixedOf_45 (i := 0) rfl) ?_
              refine zw_aload_n (pc := 43) (n := 0) (x := 81) rfl (zdal_p dlC_M_fixedOf_45 (i := 1) rfl) ?_
              refine zr_getI0 hf hW (pc := 44) (by decide) f_M_196 rfl (zdal_p dlC_M_fixedOf_45 (i := 2) rfl) ?_
              refine zr_icmp_ge (pc := 47) (tgt := 100) ⟨hu24_a, hu24_b⟩ ⟨(ze_r Mz 81 20).1, (ze_r Mz 81 20).2⟩ (by decide) (zdal_p dlC_M_fixedOf_45 (i := 3) rfl) (fun hc_47 => ?_) (fun hc_47 => ?_)
              · skip
                refine zw_iload_n (pc := 100) (n := 3) (x := Int32.ofInt u1_) rfl (zdal_p dlC_M_fixedOf_46 (i := 5) rfl) ?_
                refine zw_iload (pc := 101) (i := 5) (x := Int32.ofInt u23_) rfl (zdal_p dlC_M_fixedOf_46 (i := 6) rfl) ?_
                refine zr_callS hf.x (pc := 103) [.int (Int32.ofInt u23_)] [.int (Int32.ofInt u1_)] l_M_256 (c_M_truth l Mz (hf.w hW) u23_ hu23_a hu23_b (by omega)) rfl rfl (by decide) (Nat.le_of_ble_eq_true rfl) (zdal_p dlC_M_fixedOf_46 (i := 7) rfl) ?_
                rintro _ N28_ ⟨v29_, rfl, ⟨hv29_a, hv29_b⟩, hsN28_, hp0_N28_⟩
                obtain rfl := hsN28_.eq.symm
                replace hp0_N28_ : v29_ = u23_ := hp0_N28_
                show zW l m_M_fixedOf (zn Mz + 0, zw Mz + 0) Mz 106 [some (.ref 81), some (.int (Int32.ofInt a0_)), some (.int (Int32.ofInt a1_)), some (.int (Int32.ofInt u1_)), some (.int (Int32.ofInt u2_)), some (.int (Int32.ofInt u23_)), some (.int (Int32.ofInt u24_))] [.int (Int32.ofInt v29_), .int (Int32.ofInt u1_)] _
                have hE := zfx_e (show zfxI T F (a1_).toNat (u2_).toNat _ _ by assumption) (by omega)
                have hs := gfx_s (by omega) (show u1_ = ((gup (gfxF T F (a1_).toNat) 0 (u2_).toNat : Nat) : Int) by assumption) (v := v29_) (by omega)
                refine zr_iadd (pc := 106) (zdal_p dlC_M_fixedOf_46 (i := 8) rfl) ?_
                refine zw_istore_n (pc := 107) (i := 3) (L2 := [some (.ref 81), some (.int (Int32.ofInt a0_)), some (.int (Int32.ofInt a1_)), some (.int (Int32.ofInt (u1_ + v29_))), some (.int (Int32.ofInt u2_)), some (.int (Int32.ofInt u23_)), some (.int (Int32.ofInt u24_))]) rfl (by decide) rfl (zdal_p dlC_M_fixedOf_46 (i := 9) rfl) ?_
                refine zr_iinc (pc := 108) (i := 4) (a := u2_) (n := 1) (L2 := [some (.ref 81), some (.int (Int32.ofInt a0_)), some (.int (Int32.ofInt a1_)), some (.int (Int32.ofInt (u1_ + v29_))), some (.int (Int32.ofInt (u2_ + 1))), some (.int (Int32.ofInt u23_)), some (.int (Int32.ofInt u24_))]) rfl (by decide) rfl (zdal_p dlC_M_fixedOf_46 (i := 10) rfl) ?_
                refine zw_goto (pc := 111) (tgt := 5) (by decide) (zdal_p dlC_M_fixedOf_46 (i := 11) rfl) ?_
                refine zW_le [some (.ref 81), some (.int (Int32.ofInt a0_)), some (.int (Int32.ofInt a1_)), some (.int (Int32.ofInt (u1_ + v29_))), some (.int (Int32.ofInt (u2_ + 1))), none, none] (⟨rfl, rfl, rfl, rfl, rfl, trivial⟩) ?_
                exact ih_5 (u1_ + v29_) (by omega) (by omega) (u2_ + 1) (by omega) (by omega) (show 0 ≤ (u2_ + 1) by first | assumption | omega) (show 0 ≤ (u1_ + v29_) by first | assumption | omega) (show (u1_ + v29_) ≤ (u2_ + 1) by first | assumption | omega) (show (u2_ + 1) ≤ ze Mz 81 20 by first | assumption | omega) (show (u1_ + v29_) = ((gup (gfxF T F (a1_).toNat) 0 ((u2_ + 1)).toNat : Nat) : Int) by first | assumption | omega) (by omega)
              · skip
                refine zw_iload (pc := 50) (i := 5) (x := Int32.ofInt u23_) rfl (zdal_p dlC_M_fixedOf_45 (i := 4) rfl) ?_
                refine zr_if_eq (pc := 52) (tgt := 100) ⟨hu23_a, hu23_b⟩ (by decide) (zdal_p dlC_M_fixedOf_45 (i := 5) rfl) (fun hc_52 => ?_) (fun hc_52 => ?_)
                · skip
                  refine zw_iload_n (pc := 100) (n := 3) (x := Int32.ofInt u1_) rfl (zdal_p dlC_M_fixedOf_46 (i := 5) rfl) ?_
                  refine zw_iload (pc := 101) (i := 5) (x := Int32.ofInt u23_) rfl (zdal_p dlC_M_fixedOf_46 (i := 6) rfl) ?_
                  refine zr_callS hf.x (pc := 103) [.int (Int32.ofInt u23_)] [.int (Int32.ofInt u1_)] l_M_256 (c_M_truth l Mz (hf.w hW) u23_ hu23_a hu23_b (by omega)) rfl rfl (by decide) (Nat.le_of_ble_eq_true rfl) (zdal_p dlC_M_fixedOf_46 (i := 7) rfl) ?_
                  rintro _ N30_ ⟨v31_, rfl, ⟨hv31_a, hv31_b⟩, hsN30_, hp0_N30_⟩
                  obtain rfl := hsN30_.eq.symm
                  replace hp0_N30_ : v31_ = u23_ := hp0_N30_
                  show zW l m_M_fixedOf (zn Mz + 0, zw Mz + 0) Mz 106 [some (.ref 81), some (.int (Int32.ofInt a0_)), some (.int (Int32.ofInt a1_)), some (.int (Int32.ofInt u1_)), some (.int (Int32.ofInt u2_)), some (.int (Int32.ofInt u23_)), some (.int (Int32.ofInt u24_))] [.int (Int32.ofInt v31_), .int (Int32.ofInt u1_)] _
                  have hE := zfx_e (show zfxI T F (a1_).toNat (u2_).toNat _ _ by assumption) (by omega)
                  have hs := gfx_s (by omega) (show u1_ = ((gup (gfxF T F (a1_).toNat) 0 (u2_).toNat : Nat) : Int) by assumption) (v := v31_) (by omega)
                  refine zr_iadd (pc := 106) (zdal_p dlC_M_fixedOf_46 (i := 8) rfl) ?_
                  refine zw_istore_n (pc := 107) (i := 3) (L2 := [some (.ref 81), some (.int (Int32.ofInt a0_)), some (.int (Int32.ofInt a1_)), some (.int (Int32.ofInt (u1_ + v31_))), some (.int (Int32.ofInt u2_)), some (.int (Int32.ofInt u23_)), some (.int (Int32.ofInt u24_))]) rfl (by decide) rfl (zdal_p dlC_M_fixedOf_46 (i := 9) rfl) ?_
                  refine zr_iinc (pc := 108) (i := 4) (a := u2_) (n := 1) (L2 := [some (.ref 81), some (.int (Int32.ofInt a0_)), some (.int (Int32.ofInt a1_)), some (.int (Int32.ofInt (u1_ + v31_))), some (.int (Int32.ofInt (u2_ + 1))), some (.int (Int32.ofInt u23_)), some (.int (Int32.ofInt u24_))]) rfl (by decide) rfl (zdal_p dlC_M_fixedOf_46 (i := 10) rfl) ?_
                  refine zw_goto (pc := 111) (tgt := 5) (by decide) (zdal_p dlC_M_fixedOf_46 (i := 11) rfl) ?_
                  refine zW_le [some (.ref 81), some (.int (Int32.ofInt a0_)), some (.int (Int32.ofInt a1_)), some (.int (Int32.ofInt (u1_ + v31_))), some (.int (Int32.ofInt (u2_ + 1))), none, none] (⟨rfl, rfl, rfl, rfl, rfl, trivial⟩) ?_
                  exact ih_5 (u1_ + v31_) (by omega) (by omega) (u2_ + 1) (by omega) (by omega) (show 0 ≤ (u2_ + 1) by first | assumption | omega) (show 0 ≤ (u1_ + v31_) by first | assumption | omega) (show (u1_ + v31_) ≤ (u2_ + 1) by first | assumption | omega) (show (u2_ + 1) ≤ ze Mz 81 20 by first | assumption | omega) (show (u1_ + v31_) = ((gup (gfxF T F (a1_).toNat) 0 ((u2_ + 1)).toNat : Nat) : Int) by first | assumption | omega) (by omega)
                · skip
                  refine zw_iload_n (pc := 55) (n := 2) (x := Int32.ofInt a1_) rfl (zdal_p dlC_M_fixedOf_45 (i := 6) rfl) ?_
                  refine zw_iload (pc := 56) (i := 6) (x := Int32.ofInt u24_) rfl (zdal_p dlC_M_fixedOf_45 (i := 7) rfl) ?_
                  refine zr_callS hf.x (pc := 58) [.int (Int32.ofInt a1_), .int (Int32.ofInt u24_)] [] l_M_213 (c_M_holds l Mz (hf.w hW) a1_ ha1_a ha1_b u24_ hu24_a hu24_b (show 0 ≤ a1_ by first | assumption | omega) (show 0 ≤ u24_ by first | assumption | omega) (show u24_ < 32 by first | assumption | omega)) rfl rfl (by decide) (Nat.le_of_ble_eq_true rfl) (zdal_p dlC_M_fixedOf_45 (i := 8) rfl) ?_
                  rintro _ N32_ ⟨v33_, rfl, ⟨hv33_a, hv33_b⟩, hsN32_, hp0_N32_⟩
                  obtain rfl := hsN32_.eq.symm
                  replace hp0_N32_ : ((v33_ = 1 ∧ zbt a1_ u24_) ∨ (v33_ = 0 ∧ ¬ zbt a1_ u24_)) := hp0_N32_
                  rcases hp0_N32_ with ⟨rfl, ha58_0_hp0_N32_⟩ | ⟨rfl, ha58_0_hp0_N32_⟩
                  · skip
                    show zW l m_M_fixedOf (zn Mz + 0, zw Mz + 0) Mz 61 [some (.ref 81), some (.int (Int32.ofInt a0_)), some (.int (Int32.ofInt a1_)), some (.int (Int32.ofInt u1_)), some (.int (Int32.ofInt u2_)), some (.int (Int32.ofInt u23_)), some (.int (Int32.ofInt u24_))] [.int (Int32.ofInt 1)] _
                    refine zr_if_eq (pc := 61) (tgt := 87) ⟨(by decide), (by decide)⟩ (by decide) (zdal_p dlC_M_fixedOf_45 (i := 9) rfl) (fun hc_61 => ?_) (fun hc_61 => ?_)
                    · skip
                      exact absurd hc_61 (by decide)
                    · skip
                      refine zw_aload_n (pc := 64) (n := 0) (x := 81) rfl (zdal_p dlC_M_fixedOf_45 (i := 10) rfl) ?_
                      refine zr_getF (r := 94) (hf.w hW) (pc := 65) f_M_53 rfl (zh_94 (hf.w hW)).1 (zdal_p dlC_M_fixedOf_45 (i := 11) rfl) ?_
                      refine zw_bipush (pc := 68) (v := Int32.ofInt 24) (by decide) (zdal_p dlC_M_fixedOf_45 (i := 12) rfl) ?_
                      refine zw_iload_n (pc := 70) (n := 1) (x := Int32.ofInt a0_) rfl (zdal_p dlC_M_fixedOf_45 (i := 13) rfl) ?_
                      refine zr_imul (pc := 71) (zdal_p dlC_M_fixedOf_45 (i := 14) rfl) ?_
                      refine zw_aload_n (pc := 72) (n := 0) (x := 81) rfl (zdal_p dlC_M_fixedOf_45 (i := 15) rfl) ?_
                      refine zw_iload (pc := 73) (i := 4) (x := Int32.ofInt u2_) rfl (zdal_p dlC_M_fixedOf_45 (i := 16) rfl) ?_
                      refine zw_iload (pc := 75) (i := 6) (x := Int32.ofInt u24_) rfl (zdal_p dlC_M_fixedOf_45 (i := 17) rfl) ?_
                      refine zr_callV (hf.w hW) hf.x (pc := 77) [.int (Int32.ofInt u2_), .int (Int32.ofInt u24_)] [.int (Int32.ofInt (24 * a0_)), .ref 94] l_M_216 (c_M_by l Mz (hf.w hW) u2_ hu2_a hu2_b u24_ hu24_a hu24_b T hG p0_ (show 0 ≤ u2_ by first | assumption | omega) (show u2_ < ze Mz 81 20 by first | assumption | omega) (show 0 ≤ u24_ by first | assumption | omega) (show u24_ < ze Mz 81 20 by first | assumption | omega)) rfl rfl rfl (by decide) (Nat.le_of_ble_eq_true rfl) (zdal_p dlC_M_fixedOf_45 (i := 18) rfl) ?_
                      rintro _ N34_ ⟨v35_, rfl, ⟨hv35_a, hv35_b⟩, hsN34_, ⟨hp0_N34_, hp1_N34_, hp2_N34_⟩⟩
                      obtain rfl := hsN34_.eq.symm
                      show zW l m_M_fixedOf (zn Mz + 0, zw Mz + 0) Mz 80 [some (.ref 81), some (.int (Int32.ofInt a0_)), some (.int (Int32.ofInt a1_)), some (.int (Int32.ofInt u1_)), some (.int (Int32.ofInt u2_)), some (.int (Int32.ofInt u23_)), some (.int (Int32.ofInt u24_))] [.int (Int32.ofInt v35_), .int (Int32.ofInt (24 * a0_)), .ref 94] _
                      refine zr_toI (show v35_ = ((gm T (u2_).toNat (u24_).toNat : Nat) : Int) by assumption) ?_
                      refine zr_iadd (pc := 80) (zdal_p dlC_M_fixedOf_45 (i := 19) rfl) ?_
                      refine zr_ialdn (pc := 81) (zh_94 (hf.w hW)).2 (by decide) (by omega) (by omega) (zdal_p dlC_M_fixedOf_45 (i := 20) rfl) (fun v36_ hv36_ hv36_a hv36_b => ?_)
                      have hcw := p4_.g (a := a0_) (x := ((gm T (u2_).toNat (u24_).toNat : Nat) : Int)) rfl (by omega) (by omega) (by rw [Int.toNat_natCast]; exact hG.2.2.2 _ _ (by omega) (by omega))
                      rw [Int.toNat_natCast] at hcw
                      refine zw_iload (pc := 82) (i := 4) (x := Int32.ofInt u2_) rfl (zdal_p dlC_M_fixedOf_45 (i := 21) rfl) ?_
                      refine zr_icmp_ne (pc := 84) (tgt := 91) ⟨hv36_a, hv36_b⟩ ⟨hu2_a, hu2_b⟩ (by decide) (zdal_p dlC_M_fixedOf_45 (i := 22) rfl) (fun hc_84 => ?_) (fun hc_84 => ?_)
                      · skip
                        refine zw_iconst (pc := 91) (v := Int32.ofInt 0) (by decide) (zdal_p dlC_M_fixedOf_46 (i := 1) rfl) ?_
                        refine zw_istore (pc := 92) (i := 5) (L2 := [some (.ref 81), some (.int (Int32.ofInt a0_)), some (.int (Int32.ofInt a1_)), some (.int (Int32.ofInt u1_)), some (.int (Int32.ofInt u2_)), some (.int (Int32.ofInt 0)), some (.int (Int32.ofInt u24_))]) (by decide) rfl d_M_fixedOf_92 ?_
                        refine zr_iinc (pc := 94) (i := 6) (a := u24_) (n := 1) (L2 := [some (.ref 81), some (.int (Int32.ofInt a0_)), some (.int (Int32.ofInt a1_)), some (.int (Int32.ofInt u1_)), some (.int (Int32.ofInt u2_)), some (.int (Int32.ofInt 0)), some (.int (Int32.ofInt (u24_ + 1)))]) rfl (by decide) rfl d_M_fixedOf_94 ?_
                        refine zw_goto (pc := 97) (tgt := 41) (by decide) d_M_fixedOf_97 ?_
                        have hJ : zfxI T F (a1_).toNat (u2_).toNat ((u24_ + 1)).toNat (0 : Int) := by first | exact zfx_s1 rfl (by omega) (by assumption) (by omega) (Or.inl (by assumption)) | exact zfx_s1 rfl (by omega) (by assumption) (by omega) (Or.inr (by omega)) | exact zfx_s0 rfl (by omega) (by assumption) (by omega)
                        exact ih_41 0 (by decide) (by decide) (by omega) (u24_ + 1) (by omega) (by omega) (show 0 ≤ (u24_ + 1) by first | assumption | omega) (show (u24_ + 1) ≤ ze Mz 81 20 by first | assumption | omega) (show zfxI T F (a1_).toNat (u2_).toNat ((u24_ + 1)).toNat (0 : Int) by first | assumption | omega) (by omega)
                      · skip
                        refine zw_iconst (pc := 87) (v := Int32.ofInt 1) (by decide) (zdal_p dlC_M_fixedOf_45 (i := 23) rfl) ?_
                        refine zw_goto (pc := 88) (tgt := 92) (by decide) (zdal_p dlC_M_fixedOf_46 (i := 0) rfl) ?_
                        refine zw_istore (pc := 92) (i := 5) (L2 := [some (.ref 81), some (.int (Int32.ofInt a0_)), some (.int (Int32.ofInt a1_)), some (.int (Int32.ofInt u1_)), some (.int (Int32.ofInt u2_)), some (.int (Int32.ofInt 1)), some (.int (Int32.ofInt u24_))]) (by decide) rfl d_M_fixedOf_92 ?_
                        refine zr_iinc (pc := 94) (i := 6) (a := u24_) (n := 1) (L2 := [some (.ref 81), some (.int (Int32.ofInt a0_)), some (.int (Int32.ofInt a1_)), some (.int (Int32.ofInt u1_)), some (.int (Int32.ofInt u2_)), some (.int (Int32.ofInt 1)), some (.int (Int32.ofInt (u24_ + 1)))]) rfl (by decide) rfl d_M_fixedOf_94 ?_
                        refine zw_goto (pc := 97) (tgt := 41) (by decide) d_M_fixedOf_97 ?_
                        have hJ : zfxI T F (a1_).toNat (u2_).toNat ((u24_ + 1)).toNat (1 : Int) := by first | exact zfx_s1 rfl (by omega) (by assumption) (by omega) (Or.inl (by assumption)) | exact zfx_s1 rfl (by omega) (by assumption) (by omega) (Or.inr (by omega)) | exact zfx_s0 rfl (by omega) (by assumption) (by omega)
                        exact ih_41 1 (by decide) (by decide) (by omega) (u24_ + 1) (by omega) (by omega) (show 0 ≤ (u24_ + 1) by first | assumption | omega) (show (u24_ + 1) ≤ ze Mz 81 20 by first | assumption | omega) (show zfxI T F (a1_).toNat (u2_).toNat ((u24_ + 1)).toNat (1 : Int) by first | assumption | omega) (by omega)
                  · skip
                    show zW l m_M_fixedOf (zn Mz + 0, zw Mz + 0) Mz 61 [some (.ref 81), some (.int (Int32.ofInt a0_)), some (.int (Int32.ofInt a1_)), some (.int (Int32.ofInt u1_)), some (.int (Int32.ofInt u2_)), some (.int (Int32.ofInt u23_)), some (.int (Int32.ofInt u24_))] [.int (Int32.ofInt 0)] _
                    refine zr_if_eq (pc := 61) (tgt := 87) ⟨(by decide), (by decide)⟩ (by decide) (zdal_p dlC_M_fixedOf_45 (i := 9) rfl) (fun hc_61 => ?_) (fun hc_61 => ?_)
                    · skip
                      refine zw_iconst (pc := 87) (v := Int32.ofInt 1) (by decide) (zdal_p dlC_M_fixedOf_45 (i := 23) rfl) ?_
                      refine zw_goto (pc := 88) (tgt := 92) (by decide) (zdal_p dlC_M_fixedOf_46 (i := 0) rfl) ?_
                      refine zw_istore (pc := 92) (i := 5) (L2 := [some (.ref 81), some (.int (Int32.ofInt a0_)), some (.int (Int32.ofInt a1_)), some (.int (Int32.ofInt u1_)), some (.int (Int32.ofInt u2_)), some (.int (Int32.ofInt 1)), some (.int (Int32.ofInt u24_))]) (by decide) rfl d_M_fixedOf_92 ?_
                      refine zr_iinc (pc := 94) (i := 6) (a := u24_) (n := 1) (L2 := [some (.ref 81), some (.int (Int32.ofInt a0_)), some (.int (Int32.ofInt a1_)), some (.int (Int32.ofInt u1_)), some (.int (Int32.ofInt u2_)), some (.int (Int32.ofInt 1)), some (.int (Int32.ofInt (u24_ + 1)))]) rfl (by decide) rfl d_M_fixedOf_94 ?_
                      refine zw_goto (pc := 97) (tgt := 41) (by decide) d_M_fixedOf_97 ?_
                      have hJ : zfxI T F (a1_).toNat (u2_).toNat ((u24_ + 1)).toNat (1 : Int) := by first | exact zfx_s1 rfl (by omega) (by assumption) (by omega) (Or.inl (by assumption)) | exact zfx_s1 rfl (by omega) (by assumption) (by omega) (Or.inr (by omega)) | exact zfx_s0 rfl (by omega) (by assumption) (by omega)
                      exact ih_41 1 (by decide) (by decide) (by omega) (u24_ + 1) (by omega) (by omega) (show 0 ≤ (u24_ + 1) by first | assumption | omega) (show (u24_ + 1) ≤ ze Mz 81 20 by first | assumption | omega) (show zfxI T F (a1_).toNat (u2_).toNat ((u24_ + 1)).toNat (1 : Int) by first | assumption | omega) (by omega)
                    · skip
                      exact absurd hc_61 (by decide)
          exact lp_41 _ 1 (by decide) (by decide) (by omega) 0 (by decide) (by decide) (show 0 ≤ (0 : Int) by first | assumption | omega) (show (0 : Int) ≤ ze Mz 81 20 by first | assumption | omega) (show zfxI T F (a1_).toNat (u2_).toNat ((0 : Int)).toNat (1 : Int) by first | assumption | omega) (Nat.lt_succ_self _)
  exact lp_5 _ 0 (by decide) (by decide) 0 (by decide) (by decide) (show 0 ≤ (0 : Int) by first | assumption | omega) (show 0 ≤ (0 : Int) by first | assumption | omega) (show (0 : Int) ≤ (0 : Int) by first | assumption | omega) (show (0 : Int) ≤ ze Mz 81 20 by first | assumption | omega) (show (0 : Int) = ((gup (gfxF T F (a1_).toNat) 0 ((0 : Int)).toNat : Nat) : Int) by rfl) (Nat.lt_succ_self _)
set_option maxHeartbeats 4000000 in
theorem c_M_comesSort (l : Launch) (Mz : zMem) (hW : zMt Mz) (a0_ : Int) (ha0_a : -2147483648 ≤ a0_) (ha0_b : a0_ < 2147483648) (p0_ : 0 ≤ ze Mz 81 26) (p1_ : ze Mz 81 26 ≤ 63) (p2_ : 0 ≤ a0_) (p3_ : a0_ < 16777216) (p4_ : zSo Mz (ze Mz 81 26)) (p5_ : ∀ i : Nat, (i : Int) < ze Mz 81 26 → ze Mz 91 i ≠ a0_) : zC l m_M_comesSort 0 0 [.ref 81, .int (Int32.ofInt a0_)] Mz (zpV [26] [91] Mz (fun N => ze N 81 26 = ze Mz 81 26 + 1 ∧ zSo N (ze N 81 26) ∧ (∀ y : Int, (∃ j : Nat, (j : Int) < ze N 81 26 ∧ ze N 91 j = y) ↔ (y = a0_ ∨ ∃ j : Nat, (j : Int) < ze Mz 81 26 ∧ ze Mz 91 j = y)))) := by
  refine zC_of (L0 := [some (.ref 81), some (.int (Int32.ofInt a0_)), none]) md_M_comesSort (Nat.le_of_ble_eq_true rfl) rfl ?_ zQ0
  have hf : zFr [26] [91] Mz Mz := zFr.rf
  have r_26 := ze_r Mz 81 26
  refine zw_aload_n (pc := 0) (n := 0) (x := 81) rfl (zdal_p dlC_M_comesSort_37 (i := 0) rfl) ?_
  refine zr_getI (hf.w hW) (pc := 1) f_M_235 rfl (zdal_p dlC_M_comesSort_37 (i := 1) rfl) ?_
  refine zw_istore_n (pc := 4) (i := 2) (L2 := [some (.ref 81), some (.int (Int32.ofInt a0_)), some (.int (Int32.ofInt (ze Mz 81 26)))]) rfl (by decide) rfl (zdal_p dlC_M_comesSort_37 (i := 2) rfl) ?_
  have hm0 := zMv_0 (M := Mz) (n := ze Mz 81 26) (a := a0_) (by omega)
  have lp_5 : ∀ (n : Nat) (u1_ : Int) (hu1_a : -2147483648 ≤ u1_) (hu1_b : u1_ < 2147483648) (N2_ : zMem) (hs3_ : zFr [] [91] Mz N2_) (i4_ : 0 ≤ u1_) (i5_ : u1_ ≤ ze Mz 81 26) (i6_ : zMv Mz N2_ (ze Mz 81 26) u1_ a0_), (u1_).toNat < n → zW l m_M_comesSort (zn Mz + 0, zw Mz + 0) N2_ 5 [some (.ref 81), some (.int (Int32.ofInt a0_)), some (.int (Int32.ofInt u1_))] [] (zpV [26] [91] Mz (fun N => ze N 81 26 = ze Mz 81 26 + 1 ∧ zSo N (ze N 81 26) ∧ (∀ y : Int, (∃ j : Nat, (j : Int) < ze N 81 26 ∧ ze N 91 j = y) ↔ (y = a0_ ∨ ∃ j : Nat, (j : Int) < ze Mz 81 26 ∧ ze Mz 91 j = y)))) := by
    intro n
    induction n with
    | zero =>
      intro u1_ hu1_a hu1_b N2_ hs3_ i4_ i5_ i6_ h0
      exact absurd h0 (Nat.not_lt_zero _)
    | succ n ih_5 =>
      intro u1_ hu1_a hu1_b N2_ hs3_ i4_ i5_ i6_ hlt_5
      have hf_N2_ : zFr [26] [91] Mz N2_ := hf.tr hs3_ (by decide) (by decide)
      have e26_N2_ : ze N2_ 81 26 = ze Mz 81 26 := hs3_.e (by decide)
      refine zw_iload_n (pc := 5) (n := 2) (x := Int32.ofInt u1_) rfl (zdal_p dlC_M_comesSort_37 (i := 3) rfl) ?_
      refine zr_if_le (pc := 6) (tgt := 77) ⟨hu1_a, hu1_b⟩ (by decide) (zdal_p dlC_M_comesSort_37 (i := 4) rfl) (fun hc_6 => ?_) (fun hc_6 => ?_)
      · skip
        have hl : u1_ = 0 ∨ zky (ze Mz 91 (u1_ - 1).toNat) < zky a0_ := by first | exact Or.inl (by omega) | exact Or.inr (zky_lt (oa := zcb (ze Mz 91 (u1_ - 1).toNat) 31) (ob := zcb a0_ 31) hb_x ⟨p2_, p3_⟩ rfl rfl (by omega))
        refine zw_aload_n (pc := 77) (n := 0) (x := 81) rfl (zdal_p dlC_M_comesSort_38 (i := 21) rfl) ?_
        refine zr_getF (r := 91) (hf_N2_.w hW) (pc := 78) f_M_44 rfl (zh_91 (hf_N2_.w hW)).1 (zdal_p dlC_M_comesSort_38 (i := 22) rfl) ?_
        refine zw_iload_n (pc := 81) (n := 2) (x := Int32.ofInt u1_) rfl (zdal_p dlC_M_comesSort_38 (i := 23) rfl) ?_
        refine zw_iload_n (pc := 82) (n := 1) (x := Int32.ofInt a0_) rfl (zdal_p dlC_M_comesSort_39 (i := 0) rfl) ?_
        refine zr_iast (pc := 83) (zh_91 (hf_N2_.w hW)).2 (by decide) (by decide) (by omega) (by omega) (zdal_p dlC_M_comesSort_39 (i := 1) rfl) (fun N7_ hN7_ hsN7_ => ?_)
        have hf_N7_ : zFr [26] [91] Mz N7_ := hf_N2_.tr hsN7_ (by decide) (by decide)
        have e26_N7_ : ze N7_ 81 26 = ze N2_ 81 26 := hsN7_.e (by decide)
        refine zw_aload_n (pc := 84) (n := 0) (x := 81) rfl (zdal_p dlC_M_comesSort_39 (i := 2) rfl) ?_
        refine zw_dup (pc := 85) rfl (zdal_p dlC_M_comesSort_39 (i := 3) rfl) ?_
        refine zr_getI (hf_N7_.w hW) (pc := 86) f_M_235 rfl (zdal_p dlC_M_comesSort_39 (i := 4) rfl) ?_
        refine zw_iconst (pc := 89) (v := Int32.ofInt 1) (by decide) (zdal_p dlC_M_comesSort_39 (i := 5) rfl) ?_
        refine zr_iadd (pc := 90) (zdal_p dlC_M_comesSort_39 (i := 6) rfl) ?_
        refine zr_putI (hf_N7_.w hW) (pc := 91) f_M_235 rfl rfl ⟨by omega, by omega⟩ rfl rfl (zdal_p dlC_M_comesSort_39 (i := 7) rfl) (fun N8_ hsN8_ hvN8_ => ?_)
        have hf_N8_ : zFr [26] [91] Mz N8_ := hf_N7_.tr hsN8_ (by decide) (by decide)
        have r26_N8_ := ze_r N8_ 81 26
        have hE := zMv_e p4_ (show zMv Mz N2_ (ze Mz 81 26) u1_ a0_ by assumption) ⟨p2_, p3_⟩ hl hN7_
        have hS2 := zSo_f hsN8_ (by decide) hE.1
        have hE2 := hE.2
        rw [show ze Mz 81 26 + 1 = ze N8_ 81 26 by omega] at hS2 hE2
        exact zr_vret (pc := 94) rfl hf_N8_ ⟨(show ze N8_ 81 26 = ze Mz 81 26 + 1 by first | assumption | omega), (show zSo N8_ (ze N8_ 81 26) by assumption), (show ∀ y : Int, (∃ j : Nat, (j : Int) < ze N8_ 81 26 ∧ ze N8_ 91 j = y) ↔ (y = a0_ ∨ ∃ j : Nat, (j : Int) < ze Mz 81 26 ∧ ze Mz 91 j = y) by intro y; rw [zmem_f hsN8_ (by decide)]; exact hE2 y)⟩ (zdal_p dlC_M_comesSort_39 (i := 8) rfl)
      · skip
        refine zw_aload_n (pc := 9) (n := 0) (x := 81) rfl (zdal_p dlC_M_comesSort_37 (i := 5) rfl) ?_
        refine zr_getF (r := 91) (hf_N2_.w hW) (pc := 10) f_M_44 rfl (zh_91 (hf_N2_.w hW)).1 (zdal_p dlC_M_comesSort_37 (i := 6) rfl) ?_
        refine zw_iload_n (pc := 13) (n := 2) (x := Int32.ofInt u1_) rfl (zdal_p dlC_M_comesSort_37 (i := 7) rfl) ?_
        refine zw_iconst (pc := 14) (v := Int32.ofInt 1) (by decide) (zdal_p dlC_M_comesSort_37 (i := 8) rfl) ?_
        refine zr_isub (pc := 15) (zdal_p dlC_M_comesSort_37 (i := 9) rfl) ?_
        refine zr_ialdn (pc := 16) (zh_91 (hf_N2_.w hW)).2 (by decide) (by omega) (by omega) (zdal_p dlC_M_comesSort_37 (i := 10) rfl) (fun v9_ hv9_ hv9_a hv9_b => ?_)
        have ha_x := (show zMv Mz N2_ (ze Mz 81 26) u1_ a0_ by assumption).2.1 (u1_ - 1).toNat (by omega)
        have hb_x := p4_.2 (u1_ - 1).toNat (by omega)
        have hn_x := p5_ (u1_ - 1).toNat (by omega)
        refine zr_toI (show v9_ = ze Mz 91 (u1_ - 1).toNat by omega) ?_
        refine zr_callS hf_N2_.x (pc := 17) [.int (Int32.ofInt (ze Mz 91 (u1_ - 1).toNat))] [] l_M_253 (c_M_ones l N2_ (hf_N2_.w hW) (ze Mz 91 (u1_ - 1).toNat) (by omega) (by omega) (show 0 ≤ (ze Mz 91 (u1_ - 1).toNat) by first | assumption | omega)) rfl rfl (by decide) (Nat.le_of_ble_eq_true rfl) (zdal_p dlC_M_comesSort_37 (i := 11) rfl) ?_
        rintro _ N10_ ⟨v11_, rfl, ⟨hv11_a, hv11_b⟩, hsN10_, ⟨hp0_N10_, hp1_N10_, hp2_N10_⟩⟩
        obtain rfl := hsN10_.eq.symm
        show zW l m_M_comesSort (zn Mz + 0, zw Mz + 0) N2_ 20 [some (.ref 81), some (.int (Int32.ofInt a0_)), some (.int (Int32.ofInt u1_))] [.int (Int32.ofInt v11_)] _
        refine zw_iload_n (pc := 20) (n := 1) (x := Int32.ofInt a0_) rfl (zdal_p dlC_M_comesSort_37 (i := 12) rfl) ?_
        refine zr_callS hf_N2_.x (pc := 21) [.int (Int32.ofInt a0_)] [.int (Int32.ofInt v11_)] l_M_253 (c_M_ones l N2_ (hf_N2_.w hW) a0_ ha0_a ha0_b (show 0 ≤ a0_ by first | assumption | omega)) rfl rfl (by decide) (Nat.le_of_ble_eq_true rfl) (zdal_p dlC_M_comesSort_37 (i := 13) rfl) ?_
        rintro _ N12_ ⟨v13_, rfl, ⟨hv13_a, hv13_b⟩, hsN12_, ⟨hp0_N12_, hp1_N12_, hp2_N12_⟩⟩
        obtain rfl := hsN12_.eq.symm
        show zW l m_M_comesSort (zn Mz + 0, zw Mz + 0) N2_ 24 [some (.ref 81), some (.int (Int32.ofInt a0_)), some (.int (Int32.ofInt u1_))] [.int (Int32.ofInt v13_), .int (Int32.ofInt v11_)] _
        refine zr_icmp_gt (pc := 24) (tgt := 57) ⟨hv11_a, hv11_b⟩ ⟨hv13_a, hv13_b⟩ (by decide) (zdal_p dlC_M_comesSort_37 (i := 14) rfl) (fun hc_24 => ?_) (fun hc_24 => ?_)
        · skip
          refine zw_aload_n (pc := 57) (n := 0) (x := 81) rfl (zdal_p dlC_M_comesSort_38 (i := 9) rfl) ?_
          refine zr_getF (r := 91) (hf_N2_.w hW) (pc := 58) f_M_44 rfl (zh_91 (hf_N2_.w hW)).1 (zdal_p dlC_M_comesSort_38 (i := 10) rfl) ?_
          refine zw_iload_n (pc := 61) (n := 2) (x := Int32.ofInt u1_) rfl (zdal_p dlC_M_comesSort_38 (i := 11) rfl) ?_
          refine zw_aload_n (pc := 62) (n := 0) (x := 81) rfl (zdal_p dlC_M_comesSort_38 (i := 12) rfl) ?_
          refine zr_getF (r := 91) (hf_N2_.w hW) (pc := 63) f_M_44 rfl (zh_91 (hf_N2_.w hW)).1 (zdal_p dlC_M_comesSort_38 (i := 13) rfl) ?_
          refine zw_iload_n (pc := 66) (n := 2) (x := Int32.ofInt u1_) rfl (zdal_p dlC_M_comesSort_38 (i := 14) rfl) ?_
          refine zw_iconst (pc := 67) (v := Int32.ofInt 1) (by decide) (zdal_p dlC_M_comesSort_38 (i := 15) rfl) ?_
          refine zr_isub (pc := 68) (zdal_p dlC_M_comesSort_38 (i := 16) rfl) ?_
          refine zr_ialdn (pc := 69) (zh_91 (hf_N2_.w hW)).2 (by decide) (by omega) (by omega) (zdal_p dlC_M_comesSort_38 (i := 17) rfl) (fun v14_ hv14_ hv14_a hv14_b => ?_)
          refine zr_toI (show v14_ = ze Mz 91 (u1_ - 1).toNat by omega) ?_
          refine zr_iast (pc := 70) (zh_91 (hf_N2_.w hW)).2 (by decide) (by decide) (by omega) (by omega) (zdal_p dlC_M_comesSort_38 (i := 18) rfl) (fun N15_ hN15_ hsN15_ => ?_)
          have hf_N15_ : zFr [26] [91] Mz N15_ := hf_N2_.tr hsN15_ (by decide) (by decide)
          have hb0_N15_ : zFr [] [91] Mz N15_ := hs3_.tr hsN15_ (by decide) (by decide)
          have e26_N15_ : ze N15_ 81 26 = ze N2_ 81 26 := hsN15_.e (by decide)
          refine zr_iinc (pc := 71) (i := 2) (a := u1_) (n := -1) (L2 := [some (.ref 81), some (.int (Int32.ofInt a0_)), some (.int (Int32.ofInt (u1_ + (-1))))]) rfl (by decide) rfl (zdal_p dlC_M_comesSort_38 (i := 19) rfl) ?_
          refine zw_goto (pc := 74) (tgt := 5) (by decide) (zdal_p dlC_M_comesSort_38 (i := 20) rfl) ?_
          have hz : zMv Mz N15_ (ze Mz 81 26) (u1_ + (-1)) a0_ := zMv_s (show zMv Mz N2_ (ze Mz 81 26) _ a0_ by assumption) (by omega) (by omega) rfl ⟨by omega, by omega⟩ hN15_ (zky_lt (oa := zcb a0_ 31) ⟨p2_, p3_⟩ hb_x rfl rfl (by omega))
          exact ih_5 (u1_ + (-1)) (by omega) (by omega) N15_ hb0_N15_ (show 0 ≤ (u1_ + (-1)) by first | assumption | omega) (show (u1_ + (-1)) ≤ ze Mz 81 26 by first | assumption | omega) (show zMv Mz N15_ (ze Mz 81 26) (u1_ + (-1)) a0_ by first | assumption | omega) (by omega)
        · skip
          refine zw_aload_n (pc := 27) (n := 0) (x := 81) rfl (zdal_p dlC_M_comesSort_37 (i := 15) rfl) ?_
          refine zr_getF (r := 91) (hf_N2_.w hW) (pc := 28) f_M_44 rfl (zh_91 (hf_N2_.w hW)).1 (zdal_p dlC_M_comesSort_37 (i := 16) rfl) ?_
          refine zw_iload_n (pc := 31) (n := 2) (x := Int32.ofInt u1_) rfl (zdal_p dlC_M_comesSort_37 (i := 17) rfl) ?_
          refine zw_iconst (pc := 32) (v := Int32.ofInt 1) (by decide) (zdal_p dlC_M_comesSort_37 (i := 18) rfl) ?_
          refine zr_isub (pc := 33) (zdal_p dlC_M_comesSort_37 (i := 19) rfl) ?_
          refine zr_ialdn (pc := 34) (zh_91 (hf_N2_.w hW)).2 (by decide) (by omega) (by omega) (zdal_p dlC_M_comesSort_37 (i := 20) rfl) (fun v16_ hv16_ hv16_a hv16_b => ?_)
          refine zr_toI (show v16_ = ze Mz 91 (u1_ - 1).toNat by omega) ?_
          refine zr_callS hf_N2_.x (pc := 35) [.int (Int32.ofInt (ze Mz 91 (u1_ - 1).toNat))] [] l_M_253 (c_M_ones l N2_ (hf_N2_.w hW) (ze Mz 91 (u1_ - 1).toNat) (by omega) (by omega) (show 0 ≤ (ze Mz 91 (u1_ - 1).toNat) by first | assumption | omega)) rfl rfl (by decide) (Nat.le_of_ble_eq_true rfl) (zdal_p dlC_M_comesSort_37 (i := 21) rfl) ?_
          rintro _ N17_ ⟨v18_, rfl, ⟨hv18_a, hv18_b⟩, hsN17_, ⟨hp0_N17_, hp1_N17_, hp2_N17_⟩⟩
          obtain rfl := hsN17_.eq.symm
          show zW l m_M_comesSort (zn Mz + 0, zw Mz + 0) N2_ 38 [some (.ref 81), some (.int (Int32.ofInt a0_)), some (.int (Int32.ofInt u1_))] [.int (Int32.ofInt v18_)] _
          refine zw_iload_n (pc := 38) (n := 1) (x := Int32.ofInt a0_) rfl (zdal_p dlC_M_comesSort_37 (i := 22) rfl) ?_
          refine zr_callS hf_N2_.x (pc := 39) [.int (Int32.ofInt a0_)] [.int (Int32.ofInt v18_)] l_M_253 (c_M_ones l N2_ (hf_N2_.w hW) a0_ ha0_a ha0_b (show 0 ≤ a0_ by first | assumption | omega)) rfl rfl (by decide) (Nat.le_of_ble_eq_true rfl) (zdal_p dlC_M_comesSort_37 (i := 23) rfl) ?_
          rintro _ N19_ ⟨v20_, rfl, ⟨hv20_a, hv20_b⟩, hsN19_, ⟨hp0_N19_, hp1_N19_, hp2_N19_⟩⟩
          obtain rfl := hsN19_.eq.symm
          show zW l m_M_comesSort (zn Mz + 0, zw Mz + 0) N2_ 42 [some (.ref 81), some (.int (Int32.ofInt a0_)), some (.int (Int32.ofInt u1_))] [.int (Int32.ofInt v20_), .int (Int32.ofInt v18_)] _
          refine zr_icmp_ne (pc := 42) (tgt := 77) ⟨hv18_a, hv18_b⟩ ⟨hv20_a, hv20_b⟩ (by decide) (zdal_p dlC_M_comesSort_38 (i := 0) rfl) (fun hc_42 => ?_) (fun hc_42 => ?_)
          · skip
            have hl : u1_ = 0 ∨ zky (ze Mz 91 (u1_ - 1).toNat) < zky a0_ := by first | exact Or.inl (by omega) | exact Or.inr (zky_lt (oa := zcb (ze Mz 91 (u1_ - 1).toNat) 31) (ob := zcb a0_ 31) hb_x ⟨p2_, p3_⟩ rfl rfl (by omega))
            refine zw_aload_n (pc := 77) (n := 0) (x := 81) rfl (zdal_p dlC_M_comesSort_38 (i := 21) rfl) ?_
            refine zr_getF (r := 91) (hf_N2_.w hW) (pc := 78) f_M_44 rfl (zh_91 (hf_N2_.w hW)).1 (zdal_p dlC_M_comesSort_38 (i := 22) rfl) ?_
            refine zw_iload_n (pc := 81) (n := 2) (x := Int32.ofInt u1_) rfl (zdal_p dlC_M_comesSort_38 (i := 23) rfl) ?_
            refine zw_iload_n (pc := 82) (n := 1) (x := Int32.ofInt a0_) rfl (zdal_p dlC_M_comesSort_39 (i := 0) rfl) ?_
            refine zr_iast (pc := 83) (zh_91 (hf_N2_.w hW)).2 (by decide) (by decide) (by omega) (by omega) (zdal_p dlC_M_comesSort_39 (i := 1) rfl) (fun N21_ hN21_ hsN21_ => ?_)
            have hf_N21_ : zFr [26] [91] Mz N21_ := hf_N2_.tr hsN21_ (by decide) (by decide)
            have e26_N21_ : ze N21_ 81 26 = ze N2_ 81 26 := hsN21_.e (by decide)
            refine zw_aload_n (pc := 84) (n := 0) (x := 81) rfl (zdal_p dlC_M_comesSort_39 (i := 2) rfl) ?_
            refine zw_dup (pc := 85) rfl (zdal_p dlC_M_comesSort_39 (i := 3) rfl) ?_
            refine zr_getI (hf_N21_.w hW) (pc := 86) f_M_235 rfl (zdal_p dlC_M_comesSort_39 (i := 4) rfl) ?_
            refine zw_iconst (pc := 89) (v := Int32.ofInt 1) (by decide) (zdal_p dlC_M_comesSort_39 (i := 5) rfl) ?_
            refine zr_iadd (pc := 90) (zdal_p dlC_M_comesSort_39 (i := 6) rfl) ?_
            refine zr_putI (hf_N21_.w hW) (pc := 91) f_M_235 rfl rfl ⟨by omega, by omega⟩ rfl rfl (zdal_p dlC_M_comesSort_39 (i := 7) rfl) (fun N22_ hsN22_ hvN22_ => ?_)
            have hf_N22_ : zFr [26] [91] Mz N22_ := hf_N21_.tr hsN22_ (by decide) (by decide)
            have r26_N22_ := ze_r N22_ 81 26
            have hE := zMv_e p4_ (show zMv Mz N2_ (ze Mz 81 26) u1_ a0_ by assumption) ⟨p2_, p3_⟩ hl hN21_
            have hS2 := zSo_f hsN22_ (by decide) hE.1
            have hE2 := hE.2
            rw [show ze Mz 81 26 + 1 = ze N22_ 81 26 by omega] at hS2 hE2
            exact zr_vret (pc := 94) rfl hf_N22_ ⟨(show ze N22_ 81 26 = ze Mz 81 26 + 1 by first | assumption | omega), (show zSo N22_ (ze N22_ 81 26) by assumption), (show ∀ y : Int, (∃ j : Nat, (j : Int) < ze N22_ 81 26 ∧ ze N22_ 91 j = y) ↔ (y = a0_ ∨ ∃ j : Nat, (j : Int) < ze Mz 81 26 ∧ ze Mz 91 j = y) by intro y; rw [zmem_f hsN22_ (by decide)]; exact hE2 y)⟩ (zdal_p dlC_M_comesSort_39 (i := 8) rfl)
          · skip
            refine zw_aload_n (pc := 45) (n := 0) (x := 81) rfl (zdal_p dlC_M_comesSort_38 (i := 1) rfl) ?_
            refine zr_getF (r := 91) (hf_N2_.w hW) (pc := 46) f_M_44 rfl (zh_91 (hf_N2_.w hW)).1 (zdal_p dlC_M_comesSort_38 (i := 2) rfl) ?_
            refine zw_iload_n (pc := 49) (n := 2) (x := Int32.ofInt u1_) rfl (zdal_p dlC_M_comesSort_38 (i := 3) rfl) ?_
            refine zw_iconst (pc := 50) (v := Int32.ofInt 1) (by decide) (zdal_p dlC_M_comesSort_38 (i := 4) rfl) ?_
            refine zr_isub (pc := 51) (zdal_p dlC_M_comesSort_38 (i := 5) rfl) ?_
            refine zr_ialdn (pc := 52) (zh_91 (hf_N2_.w hW)).2 (by decide) (by omega) (by omega) (zdal_p dlC_M_comesSort_38 (i := 6) rfl) (fun v23_ hv23_ hv23_a hv23_b => ?_)
            refine zr_toI (show v23_ = ze Mz 91 (u1_ - 1).toNat by omega) ?_
            refine zw_iload_n (pc := 53) (n := 1) (x := Int32.ofInt a0_) rfl (zdal_p dlC_M_comesSort_38 (i := 7) rfl) ?_
            refine zr_icmp_le (pc := 54) (tgt := 77) ⟨(by omega), (by omega)⟩ ⟨ha0_a, ha0_b⟩ (by decide) (zdal_p dlC_M_comesSort_38 (i := 8) rfl) (fun hc_54 => ?_) (fun hc_54 => ?_)
            · skip
              have hl : u1_ = 0 ∨ zky (ze Mz 91 (u1_ - 1).toNat) < zky a0_ := by first | exact Or.inl (by omega) | exact Or.inr (zky_lt (oa := zcb (ze Mz 91 (u1_ - 1).toNat) 31) (ob := zcb a0_ 31) hb_x ⟨p2_, p3_⟩ rfl rfl (by omega))
              refine zw_aload_n (pc := 77) (n := 0) (x := 81) rfl (zdal_p dlC_M_comesSort_38 (i := 21) rfl) ?_
              refine zr_getF (r := 91) (hf_N2_.w hW) (pc := 78) f_M_44 rfl (zh_91 (hf_N2_.w hW)).1 (zdal_p dlC_M_comesSort_38 (i := 22) rfl) ?_
              refine zw_iload_n (pc := 81) (n := 2) (x := Int32.ofInt u1_) rfl (zdal_p dlC_M_comesSort_38 (i := 23) rfl) ?_
              refine zw_iload_n (pc := 82) (n := 1) (x := Int32.ofInt a0_) rfl (zdal_p dlC_M_comesSort_39 (i := 0) rfl) ?_
              refine zr_iast (pc := 83) (zh_91 (hf_N2_.w hW)).2 (by decide) (by decide) (by omega) (by omega) (zdal_p dlC_M_comesSort_39 (i := 1) rfl) (fun N24_ hN24_ hsN24_ => ?_)
              have hf_N24_ : zFr [26] [91] Mz N24_ := hf_N2_.tr hsN24_ (by decide) (by decide)
              have e26_N24_ : ze N24_ 81 26 = ze N2_ 81 26 := hsN24_.e (by decide)
              refine zw_aload_n (pc := 84) (n := 0) (x := 81) rfl (zdal_p dlC_M_comesSort_39 (i := 2) rfl) ?_
              refine zw_dup (pc := 85) rfl (zdal_p dlC_M_comesSort_39 (i := 3) rfl) ?_
              refine zr_getI (hf_N24_.w hW) (pc := 86) f_M_235 rfl (zdal_p dlC_M_comesSort_39 (i := 4) rfl) ?_
              refine zw_iconst (pc := 89) (v := Int32.ofInt 1) (by decide) (zdal_p dlC_M_comesSort_39 (i := 5) rfl) ?_
              refine zr_iadd (pc := 90) (zdal_p dlC_M_comesSort_39 (i := 6) rfl) ?_
              refine zr_putI (hf_N24_.w hW) (pc := 91) f_M_235 rfl rfl ⟨by omega, by omega⟩ rfl rfl (zdal_p dlC_M_comesSort_39 (i := 7) rfl) (fun N25_ hsN25_ hvN25_ => ?_)
              have hf_N25_ : zFr [26] [91] Mz N25_ := hf_N24_.tr hsN25_ (by decide) (by decide)
              have r26_N25_ := ze_r N25_ 81 26
              have hE := zMv_e p4_ (show zMv Mz N2_ (ze Mz 81 26) u1_ a0_ by assumption) ⟨p2_, p3_⟩ hl hN24_
              have hS2 := zSo_f hsN25_ (by decide) hE.1
              have hE2 := hE.2
              rw [show ze Mz 81 26 + 1 = ze N25_ 81 26 by omega] at hS2 hE2
              exact zr_vret (pc := 94) rfl hf_N25_ ⟨(show ze N25_ 81 26 = ze Mz 81 26 + 1 by first | assumption | omega), (show zSo N25_ (ze N25_ 81 26) by assumption), (show ∀ y : Int, (∃ j : Nat, (j : Int) < ze N25_ 81 26 ∧ ze N25_ 91 j = y) ↔ (y = a0_ ∨ ∃ j : Nat, (j : Int) < ze Mz 81 26 ∧ ze Mz 91 j = y) by intro y; rw [zmem_f hsN25_ (by decide)]; exact hE2 y)⟩ (zdal_p dlC_M_comesSort_39 (i := 8) rfl)
            · skip
              refine zw_aload_n (pc := 57) (n := 0) (x := 81) rfl (zdal_p dlC_M_comesSort_38 (i := 9) rfl) ?_
              refine zr_getF (r := 91) (hf_N2_.w hW) (pc := 58) f_M_44 rfl (zh_91 (hf_N2_.w hW)).1 (zdal_p dlC_M_comesSort_38 (i := 10) rfl) ?_
              refine zw_iload_n (pc := 61) (n := 2) (x := Int32.ofInt u1_) rfl (zdal_p dlC_M_comesSort_38 (i := 11) rfl) ?_
              refine zw_aload_n (pc := 62) (n := 0) (x := 81) rfl (zdal_p dlC_M_comesSort_38 (i := 12) rfl) ?_
              refine zr_getF (r := 91) (hf_N2_.w hW) (pc := 63) f_M_44 rfl (zh_91 (hf_N2_.w hW)).1 (zdal_p dlC_M_comesSort_38 (i := 13) rfl) ?_
              refine zw_iload_n (pc := 66) (n := 2) (x := Int32.ofInt u1_) rfl (zdal_p dlC_M_comesSort_38 (i := 14) rfl) ?_
              refine zw_iconst (pc := 67) (v := Int32.ofInt 1) (by decide) (zdal_p dlC_M_comesSort_38 (i := 15) rfl) ?_
              refine zr_isub (pc := 68) (zdal_p dlC_M_comesSort_38 (i := 16) rfl) ?_
              refine zr_ialdn (pc := 69) (zh_91 (hf_N2_.w hW)).2 (by decide) (by omega) (by omega) (zdal_p dlC_M_comesSort_38 (i := 17) rfl) (fun v26_ hv26_ hv26_a hv26_b => ?_)
              refine zr_toI (show v26_ = ze Mz 91 (u1_ - 1).toNat by omega) ?_
              refine zr_iast (pc := 70) (zh_91 (hf_N2_.w hW)).2 (by decide) (by decide) (by omega) (by omega) (zdal_p dlC_M_comesSort_38 (i := 18) rfl) (fun N27_ hN27_ hsN27_ => ?_)
              have hf_N27_ : zFr [26] [91] Mz N27_ := hf_N2_.tr hsN27_ (by decide) (by decide)
              have hb0_N27_ : zFr [] [91] Mz N27_ := hs3_.tr hsN27_ (by decide) (by decide)
              have e26_N27_ : ze N27_ 81 26 = ze N2_ 81 26 := hsN27_.e (by decide)
              refine zr_iinc (pc := 71) (i := 2) (a := u1_) (n := -1) (L2 := [some (.ref 81), some (.int (Int32.ofInt a0_)), some (.int (Int32.ofInt (u1_ + (-1))))]) rfl (by decide) rfl (zdal_p dlC_M_comesSort_38 (i := 19) rfl) ?_
              refine zw_goto (pc := 74) (tgt := 5) (by decide) (zdal_p dlC_M_comesSort_38 (i := 20) rfl) ?_
              have hz : zMv Mz N27_ (ze Mz 81 26) (u1_ + (-1)) a0_ := zMv_s (show zMv Mz N2_ (ze Mz 81 26) _ a0_ by assumption) (by omega) (by omega) rfl ⟨by omega, by omega⟩ hN27_ (zky_lt (oa := zcb a0_ 31) ⟨p2_, p3_⟩ hb_x rfl rfl (by omega))
              exact ih_5 (u1_ + (-1)) (by omega) (by omega) N27_ hb0_N27_ (show 0 ≤ (u1_ + (-1)) by first | assumption | omega) (show (u1_ + (-1)) ≤ ze Mz 81 26 by first | assumption | omega) (show zMv Mz N27_ (ze Mz 81 26) (u1_ + (-1)) a0_ by first | assumption | omega) (by omega)
  exact lp_5 _ (ze Mz 81 26) (ze_r Mz 81 26).1 (ze_r Mz 81 26).2 Mz zFr.rf (show 0 ≤ (ze Mz 81 26) by first | assumption | omega) (show (ze Mz 81 26) ≤ ze Mz 81 26 by first | assumption | omega) (show zMv Mz Mz (ze Mz 81 26) (ze Mz 81 26) a0_ by first | assumption | omega) (Nat.lt_succ_self _)
