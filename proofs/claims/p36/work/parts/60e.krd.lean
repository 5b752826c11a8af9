def gOr (T : zGT) (m v : Nat) : Prop := 1 ≤ v ∧ gpw T m (v - 1) = 0 ∧ ∀ k, k + 1 < v → gpw T m k ≠ 0
theorem gpw_lt {T : zGT} (hG : gGd T) {m : Nat} (hm : m < gN T) : ∀ k, gpw T m k < gN T
  | 0 => hm
  | k + 1 => hG.2.2.2 _ _ (gpw_lt hG hm k) hm
theorem gpw_sh {T : zGT} {m i j : Nat} (h : gpw T m i = gpw T m j) : ∀ t, gpw T m (i + t) = gpw T m (j + t)
  | 0 => h
  | t + 1 => by
    show gm T (gpw T m (i + t)) m = gm T (gpw T m (j + t)) m
    rw [gpw_sh h t]
theorem gpw_le {T : zGT} {m : Nat} : ∀ n, (∃ k, k ≤ n ∧ gpw T m k = 0) → ∃ k, gpw T m k = 0 ∧ ∀ j, j < k → gpw T m j ≠ 0
  | 0, ⟨k, h1, h2⟩ => ⟨k, h2, fun j hj => by omega⟩
  | n + 1, ⟨k, h1, h2⟩ => by
    by_cases g : ∃ k, k ≤ n ∧ gpw T m k = 0
    · exact gpw_le n g
    · exact ⟨k, h2, fun j hj e => g ⟨j, by omega, e⟩⟩
theorem gOr_x {T : zGT} (hG : gGd T) (hX : gEx T) {m : Nat} (hm : m < gN T) : ∃ v, gOr T m v ∧ v ≤ 24 := by
  obtain ⟨K, -, hK⟩ := hX.1 m hm
  obtain ⟨k, h1, h2⟩ := gpw_le (T := T) (m := m) K ⟨K, Nat.le_refl _, hK⟩
  have hn : ((List.range (k + 1)).map (gpw T m)).Nodup := by
    rw [List.Nodup, List.pairwise_map]
    refine List.Pairwise.imp_of_mem ?_ (List.pairwise_lt_range (n := k + 1))
    intro a b ha hb hab e
    rw [List.mem_range] at ha hb
    have h3 := gpw_sh e (k - b)
    rw [show b + (k - b) = k by omega, h1] at h3
    exact h2 (a + (k - b)) (by omega) h3
  have h4 := nodup_len _ (List.range (gN T)) hn (fun x hx => by
    obtain ⟨i, -, rfl⟩ := List.mem_map.mp hx
    exact List.mem_range.mpr (gpw_lt hG hm i))
  rw [List.length_map, List.length_range, List.length_range] at h4
  have h5 := hG.2.1
  exact ⟨k + 1, ⟨by omega, h1, fun j hj => h2 j (by omega)⟩, by omega⟩
