noncomputable def zPi (p : Prop) (a b : Nat) : Nat := @ite Nat p (Classical.propDecidable p) a b
theorem zPi_t {p : Prop} {a b : Nat} (h : p) : zPi p a b = a := by
  unfold zPi
  exact if_pos h
theorem zPi_f {p : Prop} {a b : Nat} (h : ¬ p) : zPi p a b = b := by
  unfold zPi
  exact if_neg h
noncomputable def zct (p : Nat → Prop) : Nat → Nat
  | 0 => 0
  | k + 1 => zPi (p k) (zct p k + 1) (zct p k)
theorem zct_t {p : Nat → Prop} {k : Nat} (h : p k) : zct p (k + 1) = zct p k + 1 := zPi_t h
theorem zct_f {p : Nat → Prop} {k : Nat} (h : ¬ p k) : zct p (k + 1) = zct p k := zPi_f h
noncomputable def zbq (p : Nat → Prop) : Nat → Nat
  | 0 => 0
  | k + 1 => zPi (p k) (zbq p k ||| 2 ^ k) (zbq p k)
theorem zbq_y {p : Nat → Prop} {k : Nat} (h : p k) : zbq p (k + 1) = zbq p k ||| 2 ^ k := zPi_t h
theorem zbq_n {p : Nat → Prop} {k : Nat} (h : ¬ p k) : zbq p (k + 1) = zbq p k := zPi_f h
theorem zbq_lt (p : Nat → Prop) : ∀ k, zbq p k < 2 ^ k
  | 0 => Nat.zero_lt_one
  | k + 1 => by
    have ih := zbq_lt p k
    have h2 : 2 ^ k < 2 ^ (k + 1) := Nat.pow_lt_pow_right (by omega) (by omega)
    by_cases h : p k
    · rw [zbq_y h]
      exact Nat.or_lt_two_pow (by omega) h2
    · rw [zbq_n h]
      omega
theorem zbq_t (p : Nat → Prop) : ∀ k i, (zbq p k).testBit i = true ↔ i < k ∧ p i
  | 0, i => by
    constructor
    · intro h
      have h0 : Nat.testBit 0 i = true := h
      rw [Nat.zero_testBit] at h0
      exact absurd h0 (by decide)
    · rintro ⟨h, -⟩
      omega
  | k + 1, i => by
    have ih := zbq_t p k i
    by_cases h : p k
    · rw [zbq_y h, Nat.testBit_or, Bool.or_eq_true, ih, Nat.testBit_two_pow, decide_eq_true_iff]
      constructor
      · rintro (h1 | h1)
        · exact ⟨by omega, h1.2⟩
        · exact ⟨by omega, by rw [← h1]; exact h⟩
      · rintro ⟨h1, h2⟩
        by_cases e : i = k
        · exact Or.inr e.symm
        · exact Or.inl ⟨by omega, h2⟩
    · rw [zbq_n h, ih]
      constructor
      · rintro ⟨h1, h2⟩
        exact ⟨by omega, h2⟩
      · rintro ⟨h1, h2⟩
        refine ⟨?_, h2⟩
        by_cases e : i = k
        · rw [e] at h2
          exact absurd h2 h
        · omega
theorem zbq_c {p q : Nat → Prop} : ∀ {k : Nat}, (∀ i, i < k → (p i ↔ q i)) → zbq p k = zbq q k
  | 0, _ => rfl
  | k + 1, h => by
    have ih := zbq_c (p := p) (q := q) (k := k) (fun i hi => h i (by omega))
    by_cases g : p k
    · rw [zbq_y g, zbq_y ((h k (by omega)).mp g), ih]
    · rw [zbq_n g, zbq_n (fun e => g ((h k (by omega)).mpr e)), ih]
theorem zbq_1 {p : Nat → Prop} {k x : Int} (k0 : 0 ≤ k) (k1 : k < 31) (hx : x = ((zbq p k.toNat : Nat) : Int)) (h : p k.toNat) : zor x (zshl 1 k) = ((zbq p (k + 1).toNat : Nat) : Int) := by
  have hb := zbq_lt p k.toNat
  have h2 : 2 ^ k.toNat ≤ 2 ^ 30 := Nat.pow_le_pow_right (by omega) (by omega)
  rw [zorb (by omega) (by omega) k0 k1, show (k + 1).toNat = k.toNat + 1 by omega, zbq_y h, hx, Int.toNat_natCast]
theorem zbq_0 {p : Nat → Prop} {k x : Int} (k0 : 0 ≤ k) (hx : x = ((zbq p k.toNat : Nat) : Int)) (h : ¬ p k.toNat) : x = ((zbq p (k + 1).toNat : Nat) : Int) := by
  rw [show (k + 1).toNat = k.toNat + 1 by omega, zbq_n h]
  exact hx
theorem zbq_r {p : Nat → Prop} {n : Nat} (hn : n ≤ 24) {k x : Int} (k1 : k ≤ n) (hx : x = ((zbq p k.toNat : Nat) : Int)) : 0 ≤ x ∧ x < 16777216 ∧ x.toNat < 2 ^ n := by
  have hb := zbq_lt p k.toNat
  have h2 : 2 ^ k.toNat ≤ 2 ^ n := Nat.pow_le_pow_right (by omega) (by omega)
  have h3 : 2 ^ n ≤ 2 ^ 24 := Nat.pow_le_pow_right (by omega) hn
  omega
