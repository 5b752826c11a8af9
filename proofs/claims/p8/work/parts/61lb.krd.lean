/-! orders of members -/
def gOr (T : zGT) (m v : Nat) : Prop := 1 ≤ v ∧ gpw T m (v - 1) = 0 ∧ ∀ k, k + 1 < v → gpw T m k ≠ 0
theorem gOr_u {T : zGT} {m v w : Nat} (h : gOr T m v) (h2 : gOr T m w) : v = w := by
  obtain ⟨a1, a2, a3⟩ := h
  obtain ⟨b1, b2, b3⟩ := h2
  rcases Nat.lt_trichotomy v w with g | g | g
  · exact absurd a2 (b3 (v - 1) (by omega))
  · exact g
  · exact absurd b2 (a3 (w - 1) (by omega))
theorem gpw_lt {T : zGT} (hG : gGd T) {m : Nat} (hm : m < gN T) : ∀ k, gpw T m k < gN T
  | 0 => hm
  | k + 1 => hG.2.2.2 _ _ (gpw_lt hG hm k) hm
theorem gpw_sh {T : zGT} {m i j : Nat} (h : gpw T m i = gpw T m j) : ∀ t, gpw T m (i + t) = gpw T m (j + t)
  | 0 => h
  | t + 1 => by
    show gm T (gpw T m (i + t)) m = gm T (gpw T m (j + t)) m
    rw [gpw_sh h t]
theorem gpw_le {T : zGT} {m : Nat} : ∀ n, (∃ k, k ≤ n ∧ gpw T m k = 0) → ∃ k, gpw T m k = 0 ∧ ∀ j, j < k → gpw T m j ≠ 0
  | 0, ⟨k, h1, h2⟩ => ⟨k, h2, fun j hj => by omega⟩
  | n + 1, ⟨k, h1, h2⟩ => by
    by_cases g : ∃ k, k ≤ n ∧ gpw T m k = 0
    · exact gpw_le n g
    · exact ⟨k, h2, fun j hj e => g ⟨j, by omega, e⟩⟩
theorem gOr_x {T : zGT} (hG : gGd T) (hX : gEx T) {m : Nat} (hm : m < gN T) : ∃ v, gOr T m v ∧ v ≤ 24 := by
  obtain ⟨K, -, hK⟩ := hX.1 m hm
  obtain ⟨k, h1, h2⟩ := gpw_le (T := T) (m := m) K ⟨K, Nat.le_refl _, hK⟩
  have hn : ((List.range (k + 1)).map (gpw T m)).Nodup := by
    rw [List.Nodup, List.pairwise_map]
    refine List.Pairwise.imp_of_mem ?_ (List.pairwise_lt_range (n := k + 1))
    intro a b ha hb hab e
    rw [List.mem_range] at ha hb
    have h3 := gpw_sh e (k - b)
    rw [show b + (k - b) = k by omega, h1] at h3
    exact h2 (a + (k - b)) (by omega) h3
  have h4 := nodup_len _ (List.range (gN T)) hn (fun x hx => by
    obtain ⟨i, -, rfl⟩ := List.mem_map.mp hx
    exact List.mem_range.mpr (gpw_lt hG hm i))
  rw [List.length_map, List.length_range, List.length_range] at h4
  have h5 := hG.2.1
  exact ⟨k + 1, ⟨by omega, h1, fun j hj => h2 j (by omega)⟩, by omega⟩
theorem gpw_t {T : zGT} {m : Nat} {v a b : Int} (h : v = ((gpw T m a.toNat : Nat) : Int)) (e : a = b) : v = ((gpw T m b.toNat : Nat) : Int) := by
  rw [← e]
  exact h
theorem gOr_0 {T : zGT} {m : Nat} {c x : Int} (c1 : 1 ≤ c) (hn : ∀ k : Nat, (k : Int) + 1 < c → gpw T m k ≠ 0) (hx : x = ((gpw T m (c - 1).toNat : Nat) : Int)) (he : x = 0) : gOr T m c.toNat := by
  refine ⟨by omega, ?_, fun k hk => hn k (by omega)⟩
  rw [show c.toNat - 1 = (c - 1).toNat by omega]
  omega
theorem gOr_e {T : zGT} {m V : Nat} {c x : Int} (hV : gOr T m V) (h24 : V ≤ 24) (c1 : 1 ≤ c) (hn : ∀ k : Nat, (k : Int) + 1 < c → gpw T m k ≠ 0) (hx : x = ((gpw T m (c - 1).toNat : Nat) : Int)) (he : x = 0 ∨ 24 ≤ c) : gOr T m c.toNat := by
  rcases he with he | he
  · exact gOr_0 c1 hn hx he
  · have hlt : c ≤ V := by
      rcases Int.lt_or_le (V : Int) c with g | g
      · have h1 := hV.1
        exact absurd hV.2.1 (hn (V - 1) (by omega))
      · exact g
    rw [show c.toNat = V by omega]
    exact hV
theorem gOr_n {T : zGT} {m : Nat} {c x : Int} (hn : ∀ k : Nat, (k : Int) + 1 < c → gpw T m k ≠ 0) (hx : x = ((gpw T m (c - 1).toNat : Nat) : Int)) (h : x ≠ 0) (c1 : 1 ≤ c) : ∀ k : Nat, (k : Int) + 1 < c + 1 → gpw T m k ≠ 0 := fun k hk => by
  by_cases e : (k : Int) + 1 < c
  · exact hn k e
  · rw [show k = (c - 1).toNat by omega]
    intro q
    rw [q] at hx
    exact h (by omega)
theorem gOr_q {T : zGT} {m : Nat} {v : Int} {w : Nat} (h : gOr T m v.toNat) (v0 : 1 ≤ v) : (v = (w : Int)) ↔ gOr T m w := by
  constructor
  · intro e
    rw [e, Int.toNat_natCast] at h
    exact h
  · intro h2
    have := gOr_u h h2
    omega
/-! what is alike, what is like -/
def gcmm (T : zGT) (x : Nat) : Nat → Prop := fun y => gm T x y = gm T y x
noncomputable def gAlk (T : zGT) : Nat → Nat
  | 0 => 0
  | x + 1 => gAlk T x + zct (gcmm T x) (gN T)
theorem gAlk_b {T : zGT} : ∀ x, gAlk T x ≤ x * gN T
  | 0 => Nat.zero_le _
  | x + 1 => by
    have ih := gAlk_b (T := T) x
    have h := zct_b (gcmm T x) (gN T)
    show gAlk T x + _ ≤ _
    rw [Nat.succ_mul]
    omega
theorem gAlk_s {T : zGT} {x c v : Int} (x0 : 0 ≤ x) (hc : c = ((gAlk T x.toNat : Nat) : Int)) (hv : v = ((zct (gcmm T x.toNat) (gN T) : Nat) : Int)) : c + v = ((gAlk T (x + 1).toNat : Nat) : Int) := by
  rw [show (x + 1).toNat = x.toNat + 1 by omega, hc, hv]
  show _ = ((gAlk T x.toNat + zct (gcmm T x.toNat) (gN T) : Nat) : Int)
  omega
theorem gAlk_l {T : zGT} (hG : gGd T) {x c : Int} (x1 : x ≤ gN T) (hc : c = ((gAlk T x.toNat : Nat) : Int)) : 0 ≤ c ∧ c ≤ 576 := by
  have h := gAlk_b (T := T) x.toNat
  have h2 := hG.2.1
  have h3 : x.toNat * gN T ≤ 24 * 24 := Nat.mul_le_mul (by omega) h2
  omega
noncomputable def glkF (T : zGT) (m : Nat) : Nat → Nat → Nat := fun g r => r ||| 2 ^ gm T (gm T (gi T g) m) g
theorem glk_lt {T : zGT} (hG : gGd T) {m : Nat} (hm : m < gN T) : ∀ k, k ≤ gN T → gup (glkF T m) 0 k < 2 ^ gN T
  | 0, _ => Nat.two_pow_pos _
  | k + 1, h => by
    have ih := glk_lt hG hm k (by omega)
    exact Nat.or_lt_two_pow ih (Nat.pow_lt_pow_right (by omega) (hG.2.2.2 _ _ (hG.2.2.2 _ _ (hG.2.2.1 _ (by omega)) hm) (by omega)))
theorem glk_s {T : zGT} (hG : gGd T) {m : Nat} (hm : m < gN T) {g x v : Int} (g0 : 0 ≤ g) (g1 : g < gN T) (hx : x = ((gup (glkF T m) 0 g.toNat : Nat) : Int)) (hv : v = ((gm T (gm T (gi T g.toNat) m) g.toNat : Nat) : Int)) : zor x (zshl 1 v) = ((gup (glkF T m) 0 (g + 1).toNat : Nat) : Int) := by
  have hl := glk_lt hG hm g.toNat (by omega)
  have h2 : 2 ^ gN T ≤ 2 ^ 24 := Nat.pow_le_pow_right (by omega) hG.2.1
  have h3 := hG.2.2.2 _ g.toNat (hG.2.2.2 (gi T g.toNat) m (hG.2.2.1 _ (by omega)) hm) (by omega)
  have h4 := hG.2.1
  rw [zorb (by omega) (by omega) (by omega) (by omega), show (g + 1).toNat = g.toNat + 1 by omega, hx, hv, Int.toNat_natCast, Int.toNat_natCast]
  rfl
theorem glk_r {T : zGT} (hG : gGd T) {m : Nat} (hm : m < gN T) {g x : Int} (g1 : g ≤ gN T) (hx : x = ((gup (glkF T m) 0 g.toNat : Nat) : Int)) : 0 ≤ x ∧ x < 16777216 := by
  have hl := glk_lt hG hm g.toNat (by omega)
  have h2 : 2 ^ gN T ≤ 2 ^ 24 := Nat.pow_le_pow_right (by omega) hG.2.1
  omega
/-! the centre -/
def gCe (T : zGT) (F k : Nat) : Nat → Prop := fun y => F.testBit y = true ∧ ∀ x, x < k → F.testBit x = true → gm T x y = gm T y x
def gCw (T : zGT) (F x : Nat) : Nat → Prop := fun y => F.testBit y = true ∧ gm T x y = gm T y x
theorem gCe_0 {T : zGT} {F n : Nat} (h : F < 2 ^ n) : F = zbq (gCe T F 0) n := Nat.eq_of_testBit_eq fun i => by
  rw [Bool.eq_iff_iff, zbq_t]
  constructor
  · intro hb
    exact ⟨gbit_lt h hb, hb, fun x hx => by omega⟩
  · intro hb
    exact hb.2.1
theorem gCe_s1 {T : zGT} {F n : Nat} {x c w : Int} (x0 : 0 ≤ x) (n24 : n ≤ 24) (hb : F.testBit x.toNat = true) (hc : c = ((zbq (gCe T F x.toNat) n : Nat) : Int)) (hw : w = ((zbq (gCw T F x.toNat) n : Nat) : Int)) : zand c w = ((zbq (gCe T F (x + 1).toNat) n : Nat) : Int) := by
  have h1 := zbq_lt (gCe T F x.toNat) n
  have h2 := zbq_lt (gCw T F x.toNat) n
  have h3 : 2 ^ n ≤ 2 ^ 24 := Nat.pow_le_pow_right (by omega) n24
  rw [hc, hw, zand_n _ _ (by omega) (by omega)]
  congr 1
  refine Nat.eq_of_testBit_eq fun i => ?_
  rw [Bool.eq_iff_iff, Nat.testBit_and, Bool.and_eq_true, zbq_t, zbq_t, zbq_t]
  unfold gCe gCw
  constructor
  · rintro ⟨⟨a1, a2, a3⟩, -, -, a4⟩
    refine ⟨a1, a2, fun y hy hyb => ?_⟩
    by_cases e : y = x.toNat
    · rw [e]
      exact a4
    · exact a3 y (by omega) hyb
  · rintro ⟨a1, a2, a3⟩
    exact ⟨⟨a1, a2, fun y hy hyb => a3 y (by omega) hyb⟩, a1, a2, a3 x.toNat (by omega) hb⟩
theorem gCe_s0 {T : zGT} {F n : Nat} {x c : Int} (x0 : 0 ≤ x) (hb : ¬ F.testBit x.toNat = true) (hc : c = ((zbq (gCe T F x.toNat) n : Nat) : Int)) : c = ((zbq (gCe T F (x + 1).toNat) n : Nat) : Int) := by
  rw [hc]
  congr 1
  refine zbq_c (fun y _ => ?_)
  unfold gCe
  constructor
  · rintro ⟨a2, a3⟩
    refine ⟨a2, fun z hz hzb => ?_⟩
    by_cases e : z = x.toNat
    · rw [e] at hzb
      exact absurd hzb hb
    · exact a3 z (by omega) hzb
  · rintro ⟨a2, a3⟩
    exact ⟨a2, fun z hz hzb => a3 z (by omega) hzb⟩
/-! truth as a bit -/
theorem zshl0 {k : Int} (k0 : 0 ≤ k) (k1 : k < 31) : zshl 0 k = 0 := by
  have h : ∀ k : Fin 31, zshl 0 ((k.val : Nat) : Int) = 0 := by decide +kernel
  have := h ⟨k.toNat, by omega⟩
  rw [show (((⟨k.toNat, by omega⟩ : Fin 31).val : Nat) : Int) = k by show ((k.toNat : Nat) : Int) = k; omega] at this
  exact this
theorem zor0 {x : Int} (h0 : 0 ≤ x) (h1 : x < 2147483648) : zor x 0 = x := by
  have := zor_n x.toNat 0 (by omega) (by omega)
  rw [Nat.or_zero] at this
  rw [show ((x.toNat : Nat) : Int) = x by omega] at this
  exact this
theorem zbq_T {p : Nat → Prop} {n : Nat} (hn : n ≤ 24) {k x t : Int} (k0 : 0 ≤ k) (k1 : k < n) (hx : x = ((zbq p k.toNat : Nat) : Int)) (h : (t = 1 ∧ p k.toNat) ∨ (t = 0 ∧ ¬ p k.toNat)) : zor x (zshl t k) = ((zbq p (k + 1).toNat : Nat) : Int) := by
  rcases h with ⟨rfl, h⟩ | ⟨rfl, h⟩
  · exact zbq_1 k0 (by omega) hx h
  · have hr := zbq_r hn (by omega) hx
    rw [zshl0 k0 (by omega), zor0 (by omega) (by omega)]
    exact zbq_0 k0 hx h
theorem zct_T {p : Nat → Prop} {k c t : Int} (k0 : 0 ≤ k) (hc : c = ((zct p k.toNat : Nat) : Int)) (h : (t = 1 ∧ p k.toNat) ∨ (t = 0 ∧ ¬ p k.toNat)) : c + t = ((zct p (k + 1).toNat : Nat) : Int) := by
  rcases h with ⟨rfl, h⟩ | ⟨rfl, h⟩
  · exact zct_1 k0 hc h
  · rw [Int.add_zero]
    exact zct_0 k0 hc h
theorem gAlk_t {T : zGT} {x k c t : Int} (k0 : 0 ≤ k) (hc : c = ((gAlk T x.toNat + zct (gcmm T x.toNat) k.toNat : Nat) : Int)) (h : (t = 1 ∧ gcmm T x.toNat k.toNat) ∨ (t = 0 ∧ ¬ gcmm T x.toNat k.toNat)) : c + t = ((gAlk T x.toNat + zct (gcmm T x.toNat) (k + 1).toNat : Nat) : Int) := by
  have := zct_T (p := gcmm T x.toNat) (c := ((zct (gcmm T x.toNat) k.toNat : Nat) : Int)) k0 rfl h
  omega
theorem gAlk_f {T : zGT} {x k c : Int} (x0 : 0 ≤ x) (hk : (gN T : Int) ≤ k ∧ k ≤ gN T) (hc : c = ((gAlk T x.toNat + zct (gcmm T x.toNat) k.toNat : Nat) : Int)) : c = ((gAlk T (x + 1).toNat : Nat) : Int) := by
  rw [show (x + 1).toNat = x.toNat + 1 by omega, hc, show k.toNat = gN T by omega]
  rfl
def zceI (T : zGT) (F : Nat) (x k is : Int) : Prop := (is = 1 ∧ F.testBit x.toNat = true ∧ ∀ y : Nat, (y : Int) < k → F.testBit y = true → gm T y x.toNat = gm T x.toNat y) ∨ (is = 0 ∧ ¬ gCe T F (gN T) x.toNat)
theorem zceI_1 {T : zGT} {F : Nat} {f x : Int} (hf : f = (F : Int)) (h : zbt f x) : zceI T F x 0 1 := by
  unfold zbt at h
  rw [hf, Int.toNat_natCast] at h
  exact Or.inl ⟨rfl, h, fun y hy => by omega⟩
theorem zceI_0 {T : zGT} {F : Nat} {f x : Int} (hf : f = (F : Int)) (h : ¬ zbt f x) : zceI T F x 0 0 := by
  unfold zbt at h
  rw [hf, Int.toNat_natCast] at h
  exact Or.inr ⟨rfl, fun q => h q.1⟩
theorem zceI_s {T : zGT} {F : Nat} {x k is is2 : Int} (h : zceI T F x k is) (h1 : is ≠ 0) (k0 : 0 ≤ k) (kn : k < gN T) (h2 : (is2 = 1 ∧ (¬ F.testBit k.toNat = true ∨ gm T x.toNat k.toNat = gm T k.toNat x.toNat)) ∨ (is2 = 0 ∧ F.testBit k.toNat = true ∧ gm T x.toNat k.toNat ≠ gm T k.toNat x.toNat)) : zceI T F x (k + 1) is2 := by
  rcases h with ⟨-, a2, a3⟩ | ⟨a1, -⟩
  · rcases h2 with ⟨b1, b2⟩ | ⟨b1, b2, b3⟩
    · refine Or.inl ⟨b1, a2, fun y hy hb => ?_⟩
      by_cases e : (y : Int) < k
      · exact a3 y e hb
      · rw [show y = k.toNat by omega] at hb ⊢
        rcases b2 with b2 | b2
        · exact absurd hb b2
        · exact b2.symm
    · exact Or.inr ⟨b1, fun q => b3 (q.2 k.toNat (by omega) b2).symm⟩
  · exact absurd a1 h1
theorem zceI_e {T : zGT} {F : Nat} {x k is : Int} (h : zceI T F x k is) (he : is = 0 ∨ (gN T : Int) ≤ k) : (is = 1 ∧ gCe T F (gN T) x.toNat) ∨ (is = 0 ∧ ¬ gCe T F (gN T) x.toNat) := by
  rcases h with ⟨a1, a2, a3⟩ | h
  · rcases he with he | he
    · omega
    · exact Or.inl ⟨a1, a2, fun y hy hb => a3 y (by omega) hb⟩
  · exact Or.inr h
theorem zbt_n {f k : Int} {F : Nat} (hf : f = (F : Int)) : zbt f k ↔ F.testBit k.toNat = true := by
  unfold zbt
  rw [hf, Int.toNat_natCast]
