theorem zct_ip {p : Nat → Prop} {g : Nat → Nat} {n : Nat} : ∀ V, (∀ k, k < V → p k → g k < n) → (∀ i j, i < j → j < V → p i → p j → g i ≠ g j) → zct (fun y => ∃ k, k < V ∧ p k ∧ g k = y) n = zct p V
  | 0, _, _ => zct_z (fun i _ q => by
    obtain ⟨k, hk, -⟩ := q
    omega)
  | V + 1, h1, h2 => by
    have ih := zct_ip V (fun k hk => h1 k (by omega)) (fun i j hij hj => h2 i j hij (by omega))
    by_cases hp : p V
    · rw [zct_t hp, ← ih, zct_c (q := fun y => (∃ k, k < V ∧ p k ∧ g k = y) ∨ y = g V) (fun i _ => ⟨fun q => by
        obtain ⟨k, hk, e0, e⟩ := q
        by_cases e2 : k = V
        · rw [e2] at e
          exact Or.inr e.symm
        · exact Or.inl ⟨k, by omega, e0, e⟩, fun q => by
        rcases q with ⟨k, hk, e0, e⟩ | e
        · exact ⟨k, by omega, e0, e⟩
        · exact ⟨V, by omega, hp, e.symm⟩⟩), zct_o1 (p := fun y => ∃ k, k < V ∧ p k ∧ g k = y) (fun q => by
        obtain ⟨k, hk, e0, e⟩ := q
        exact h2 k V hk (by omega) e0 hp e) n (h1 V (by omega) hp)]
    · rw [zct_f hp, ← ih]
      exact zct_c (fun i _ => ⟨fun q => by
        obtain ⟨k, hk, e0, e⟩ := q
        by_cases e2 : k = V
        · rw [e2] at e0
          exact absurd e0 hp
        · exact ⟨k, by omega, e0, e⟩, fun q => by
        obtain ⟨k, hk, e0, e⟩ := q
        exact ⟨k, by omega, e0, e⟩⟩)
section GRS
variable {T : zGT} {s H R g p : Nat}
theorem gcb_nz {x n : Nat} (hx : x < 2 ^ n) (hn : n ≤ 31) : gcb x = zct (fun i => x.testBit i = true) n := by
  have e : x = zbq (fun i => x.testBit i = true) n := Nat.eq_of_testBit_eq fun i => by
    rw [Bool.eq_iff_iff, zbq_t]
    exact ⟨fun h => ⟨gbit_lt hx h, h⟩, fun h => h.2⟩
  conv => lhs; rw [e]
  exact gcb_z _ hn
theorem gGr.rc (hA : gGr T) (hG : gGd T) {a x y : Nat} (ha : a < gN T) (hx : x < gN T) (hy : y < gN T) (e : gm T x a = gm T y a) : x = y := by
  have i1 := hA.2 a ha
  rw [← hA.1.2.2 x hx, ← hA.1.2.2 y hy, ← i1.2, ← hA.1.1 _ _ _ hx ha i1.1, ← hA.1.1 _ _ _ hy ha i1.1, e]
end GRS
