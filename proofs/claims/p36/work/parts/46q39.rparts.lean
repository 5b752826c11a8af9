theorem z6b {x y : Int} (x0 : 0 ≤ x) (x1 : x < 64) (y0 : 0 ≤ y) (y1 : y < 64) : 0 ≤ zor x y ∧ zor x y < 64 := by
  obtain ⟨m, rfl⟩ := Int.eq_ofNat_of_zero_le x0
  obtain ⟨n, rfl⟩ := Int.eq_ofNat_of_zero_le y0
  rw [zor_n m n (by omega) (by omega)]
  have := Nat.or_lt_two_pow (n := 6) (x := m) (y := n) (by omega) (by omega)
  omega
