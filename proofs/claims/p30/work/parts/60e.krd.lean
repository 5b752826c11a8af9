noncomputable def glkF (T : zGT) (m : Nat) : Nat → Nat → Nat := fun g r => r ||| 2 ^ gm T (gm T (gi T g) m) g
theorem glk_lt {T : zGT} (hG : gGd T) {m : Nat} (hm : m < gN T) : ∀ k, k ≤ gN T → gup (glkF T m) 0 k < 2 ^ gN T
  | 0, _ => Nat.two_pow_pos _
  | k + 1, h => by
    have ih := glk_lt hG hm k (by omega)
    exact Nat.or_lt_two_pow ih (Nat.pow_lt_pow_right (by omega) (hG.2.2.2 _ _ (hG.2.2.2 _ _ (hG.2.2.1 _ (by omega)) hm) (by omega)))
theorem glk_s {T : zGT} (hG : gGd T) {m : Nat} (hm : m < gN T) {g x v : Int} (g0 : 0 ≤ g) (g1 : g < gN T) (hx : x = ((gup (glkF T m) 0 g.toNat : Nat) : Int)) (hv : v = ((gm T (gm T (gi T g.toNat) m) g.toNat : Nat) : Int)) : zor x (zshl 1 v) = ((gup (glkF T m) 0 (g + 1).toNat : Nat) : Int) := by
  have hl := glk_lt hG hm g.toNat (by omega)
  have h2 : 2 ^ gN T ≤ 2 ^ 24 := Nat.pow_le_pow_right (by omega) hG.2.1
  have h3 := hG.2.2.2 _ g.toNat (hG.2.2.2 (gi T g.toNat) m (hG.2.2.1 _ (by omega)) hm) (by omega)
  have h4 := hG.2.1
  rw [zorb (by omega) (by omega) (by omega) (by omega), show (g + 1).toNat = g.toNat + 1 by omega, hx, hv, Int.toNat_natCast, Int.toNat_natCast]
  rfl
theorem glk_r {T : zGT} (hG : gGd T) {m : Nat} (hm : m < gN T) {g x : Int} (g1 : g ≤ gN T) (hx : x = ((gup (glkF T m) 0 g.toNat : Nat) : Int)) : 0 ≤ x ∧ x < 16777216 := by
  have hl := glk_lt hG hm g.toNat (by omega)
  have h2 : 2 ^ gN T ≤ 2 ^ 24 := Nat.pow_le_pow_right (by omega) hG.2.1
  omega
