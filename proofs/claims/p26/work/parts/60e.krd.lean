def gcmm (T : zGT) (x : Nat) : Nat → Prop := fun y => gm T x y = gm T y x
noncomputable def gAlk (T : zGT) : Nat → Nat
  | 0 => 0
  | x + 1 => gAlk T x + zct (gcmm T x) (gN T)
theorem gAlk_b {T : zGT} : ∀ x, gAlk T x ≤ x * gN T
  | 0 => Nat.zero_le _
  | x + 1 => by
    have ih := gAlk_b (T := T) x
    have h := zct_b (gcmm T x) (gN T)
    show gAlk T x + _ ≤ _
    rw [Nat.succ_mul]
    omega
theorem gAlk_s {T : zGT} {x c v : Int} (x0 : 0 ≤ x) (hc : c = ((gAlk T x.toNat : Nat) : Int)) (hv : v = ((zct (gcmm T x.toNat) (gN T) : Nat) : Int)) : c + v = ((gAlk T (x + 1).toNat : Nat) : Int) := by
  rw [show (x + 1).toNat = x.toNat + 1 by omega, hc, hv]
  show _ = ((gAlk T x.toNat + zct (gcmm T x.toNat) (gN T) : Nat) : Int)
  omega
theorem gAlk_l {T : zGT} (hG : gGd T) {x c : Int} (x1 : x ≤ gN T) (hc : c = ((gAlk T x.toNat : Nat) : Int)) : 0 ≤ c ∧ c ≤ 576 := by
  have h := gAlk_b (T := T) x.toNat
  have h2 := hG.2.1
  have h3 : x.toNat * gN T ≤ 24 * 24 := Nat.mul_le_mul (by omega) h2
  omega
def gCw (T : zGT) (F x : Nat) : Nat → Prop := fun y => F.testBit y = true ∧ gm T x y = gm T y x
theorem zct_T {p : Nat → Prop} {k c t : Int} (k0 : 0 ≤ k) (hc : c = ((zct p k.toNat : Nat) : Int)) (h : (t = 1 ∧ p k.toNat) ∨ (t = 0 ∧ ¬ p k.toNat)) : c + t = ((zct p (k + 1).toNat : Nat) : Int) := by
  rcases h with ⟨rfl, h⟩ | ⟨rfl, h⟩
  · exact zct_1 k0 hc h
  · rw [Int.add_zero]
    exact zct_0 k0 hc h
theorem gAlk_t {T : zGT} {x k c t : Int} (k0 : 0 ≤ k) (hc : c = ((gAlk T x.toNat + zct (gcmm T x.toNat) k.toNat : Nat) : Int)) (h : (t = 1 ∧ gcmm T x.toNat k.toNat) ∨ (t = 0 ∧ ¬ gcmm T x.toNat k.toNat)) : c + t = ((gAlk T x.toNat + zct (gcmm T x.toNat) (k + 1).toNat : Nat) : Int) := by
  have := zct_T (p := gcmm T x.toNat) (c := ((zct (gcmm T x.toNat) k.toNat : Nat) : Int)) k0 rfl h
  omega
theorem gAlk_f {T : zGT} {x k c : Int} (x0 : 0 ≤ x) (hk : (gN T : Int) ≤ k ∧ k ≤ gN T) (hc : c = ((gAlk T x.toNat + zct (gcmm T x.toNat) k.toNat : Nat) : Int)) : c = ((gAlk T (x + 1).toNat : Nat) : Int) := by
  rw [show (x + 1).toNat = x.toNat + 1 by omega, hc, show k.toNat = gN T by omega]
  rfl
