theorem zct_T {p : Nat → Prop} {k c t : Int} (k0 : 0 ≤ k) (hc : c = ((zct p k.toNat : Nat) : Int)) (h : (t = 1 ∧ p k.toNat) ∨ (t = 0 ∧ ¬ p k.toNat)) : c + t = ((zct p (k + 1).toNat : Nat) : Int) := by
  rcases h with ⟨rfl, h⟩ | ⟨rfl, h⟩
  · exact zct_1 k0 hc h
  · rw [Int.add_zero]
    exact zct_0 k0 hc h
