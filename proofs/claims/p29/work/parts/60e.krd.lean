def gOr (T : zGT) (m v : Nat) : Prop := 1 ≤ v ∧ gpw T m (v - 1) = 0 ∧ ∀ k, k + 1 < v → gpw T m k ≠ 0
theorem gOr_u {T : zGT} {m v w : Nat} (h : gOr T m v) (h2 : gOr T m w) : v = w := by
  obtain ⟨a1, a2, a3⟩ := h
  obtain ⟨b1, b2, b3⟩ := h2
  rcases Nat.lt_trichotomy v w with g | g | g
  · exact absurd a2 (b3 (v - 1) (by omega))
  · exact g
  · exact absurd b2 (a3 (w - 1) (by omega))
theorem gpw_lt {T : zGT} (hG : gGd T) {m : Nat} (hm : m < gN T) : ∀ k, gpw T m k < gN T
  | 0 => hm
  | k + 1 => hG.2.2.2 _ _ (gpw_lt hG hm k) hm
theorem gpw_sh {T : zGT} {m i j : Nat} (h : gpw T m i = gpw T m j) : ∀ t, gpw T m (i + t) = gpw T m (j + t)
  | 0 => h
  | t + 1 => by
    show gm T (gpw T m (i + t)) m = gm T (gpw T m (j + t)) m
    rw [gpw_sh h t]
theorem gpw_le {T : zGT} {m : Nat} : ∀ n, (∃ k, k ≤ n ∧ gpw T m k = 0) → ∃ k, gpw T m k = 0 ∧ ∀ j, j < k → gpw T m j ≠ 0
  | 0, ⟨k, h1, h2⟩ => ⟨k, h2, fun j hj => by omega⟩
  | n + 1, ⟨k, h1, h2⟩ => by
    by_cases g : ∃ k, k ≤ n ∧ gpw T m k = 0
    · exact gpw_le n g
    · exact ⟨k, h2, fun j hj e => g ⟨j, by omega, e⟩⟩
theorem gOr_x {T : zGT} (hG : gGd T) (hX : gEx T) {m : Nat} (hm : m < gN T) : ∃ v, gOr T m v ∧ v ≤ 24 := by
  obtain ⟨K, -, hK⟩ := hX.1 m hm
  obtain ⟨k, h1, h2⟩ := gpw_le (T := T) (m := m) K ⟨K, Nat.le_refl _, hK⟩
  have hn : ((List.range (k + 1)).map (gpw T m)).Nodup := by
    rw [List.Nodup, List.pairwise_map]
    refine List.Pairwise.imp_of_mem ?_ (List.pairwise_lt_range (n := k + 1))
    intro a b ha hb hab e
    rw [List.mem_range] at ha hb
    have h3 := gpw_sh e (k - b)
    rw [show b + (k - b) = k by omega, h1] at h3
    exact h2 (a + (k - b)) (by omega) h3
  have h4 := nodup_len _ (List.range (gN T)) hn (fun x hx => by
    obtain ⟨i, -, rfl⟩ := List.mem_map.mp hx
    exact List.mem_range.mpr (gpw_lt hG hm i))
  rw [List.length_map, List.length_range, List.length_range] at h4
  have h5 := hG.2.1
  exact ⟨k + 1, ⟨by omega, h1, fun j hj => h2 j (by omega)⟩, by omega⟩
theorem gpw_t {T : zGT} {m : Nat} {v a b : Int} (h : v = ((gpw T m a.toNat : Nat) : Int)) (e : a = b) : v = ((gpw T m b.toNat : Nat) : Int) := by
  rw [← e]
  exact h
theorem gOr_0 {T : zGT} {m : Nat} {c x : Int} (c1 : 1 ≤ c) (hn : ∀ k : Nat, (k : Int) + 1 < c → gpw T m k ≠ 0) (hx : x = ((gpw T m (c - 1).toNat : Nat) : Int)) (he : x = 0) : gOr T m c.toNat := by
  refine ⟨by omega, ?_, fun k hk => hn k (by omega)⟩
  rw [show c.toNat - 1 = (c - 1).toNat by omega]
  omega
theorem gOr_e {T : zGT} {m V : Nat} {c x : Int} (hV : gOr T m V) (h24 : V ≤ 24) (c1 : 1 ≤ c) (hn : ∀ k : Nat, (k : Int) + 1 < c → gpw T m k ≠ 0) (hx : x = ((gpw T m (c - 1).toNat : Nat) : Int)) (he : x = 0 ∨ 24 ≤ c) : gOr T m c.toNat := by
  rcases he with he | he
  · exact gOr_0 c1 hn hx he
  · have hlt : c ≤ V := by
      rcases Int.lt_or_le (V : Int) c with g | g
      · have h1 := hV.1
        exact absurd hV.2.1 (hn (V - 1) (by omega))
      · exact g
    rw [show c.toNat = V by omega]
    exact hV
theorem gOr_n {T : zGT} {m : Nat} {c x : Int} (hn : ∀ k : Nat, (k : Int) + 1 < c → gpw T m k ≠ 0) (hx : x = ((gpw T m (c - 1).toNat : Nat) : Int)) (h : x ≠ 0) (c1 : 1 ≤ c) : ∀ k : Nat, (k : Int) + 1 < c + 1 → gpw T m k ≠ 0 := fun k hk => by
  by_cases e : (k : Int) + 1 < c
  · exact hn k e
  · rw [show k = (c - 1).toNat by omega]
    intro q
    rw [q] at hx
    exact h (by omega)
theorem gOr_q {T : zGT} {m : Nat} {v : Int} {w : Nat} (h : gOr T m v.toNat) (v0 : 1 ≤ v) : (v = (w : Int)) ↔ gOr T m w := by
  constructor
  · intro e
    rw [e, Int.toNat_natCast] at h
    exact h
  · intro h2
    have := gOr_u h h2
    omega
theorem zct_T {p : Nat → Prop} {k c t : Int} (k0 : 0 ≤ k) (hc : c = ((zct p k.toNat : Nat) : Int)) (h : (t = 1 ∧ p k.toNat) ∨ (t = 0 ∧ ¬ p k.toNat)) : c + t = ((zct p (k + 1).toNat : Nat) : Int) := by
  rcases h with ⟨rfl, h⟩ | ⟨rfl, h⟩
  · exact zct_1 k0 hc h
  · rw [Int.add_zero]
    exact zct_0 k0 hc h
