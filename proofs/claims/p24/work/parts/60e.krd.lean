def gCe (T : zGT) (F k : Nat) : Nat → Prop := fun y => F.testBit y = true ∧ ∀ x, x < k → F.testBit x = true → gm T x y = gm T y x
def gCw (T : zGT) (F x : Nat) : Nat → Prop := fun y => F.testBit y = true ∧ gm T x y = gm T y x
theorem gCe_0 {T : zGT} {F n : Nat} (h : F < 2 ^ n) : F = zbq (gCe T F 0) n := Nat.eq_of_testBit_eq fun i => by
  rw [Bool.eq_iff_iff, zbq_t]
  constructor
  · intro hb
    exact ⟨gbit_lt h hb, hb, fun x hx => by omega⟩
  · intro hb
    exact hb.2.1
theorem gCe_s1 {T : zGT} {F n : Nat} {x c w : Int} (x0 : 0 ≤ x) (n24 : n ≤ 24) (hb : F.testBit x.toNat = true) (hc : c = ((zbq (gCe T F x.toNat) n : Nat) : Int)) (hw : w = ((zbq (gCw T F x.toNat) n : Nat) : Int)) : zand c w = ((zbq (gCe T F (x + 1).toNat) n : Nat) : Int) := by
  have h1 := zbq_lt (gCe T F x.toNat) n
  have h2 := zbq_lt (gCw T F x.toNat) n
  have h3 : 2 ^ n ≤ 2 ^ 24 := Nat.pow_le_pow_right (by omega) n24
  rw [hc, hw, zand_n _ _ (by omega) (by omega)]
  congr 1
  refine Nat.eq_of_testBit_eq fun i => ?_
  rw [Bool.eq_iff_iff, Nat.testBit_and, Bool.and_eq_true, zbq_t, zbq_t, zbq_t]
  unfold gCe gCw
  constructor
  · rintro ⟨⟨a1, a2, a3⟩, -, -, a4⟩
    refine ⟨a1, a2, fun y hy hyb => ?_⟩
    by_cases e : y = x.toNat
    · rw [e]
      exact a4
    · exact a3 y (by omega) hyb
  · rintro ⟨a1, a2, a3⟩
    exact ⟨⟨a1, a2, fun y hy hyb => a3 y (by omega) hyb⟩, a1, a2, a3 x.toNat (by omega) hb⟩
theorem gCe_s0 {T : zGT} {F n : Nat} {x c : Int} (x0 : 0 ≤ x) (hb : ¬ F.testBit x.toNat = true) (hc : c = ((zbq (gCe T F x.toNat) n : Nat) : Int)) : c = ((zbq (gCe T F (x + 1).toNat) n : Nat) : Int) := by
  rw [hc]
  congr 1
  refine zbq_c (fun y _ => ?_)
  unfold gCe
  constructor
  · rintro ⟨a2, a3⟩
    refine ⟨a2, fun z hz hzb => ?_⟩
    by_cases e : z = x.toNat
    · rw [e] at hzb
      exact absurd hzb hb
    · exact a3 z (by omega) hzb
  · rintro ⟨a2, a3⟩
    exact ⟨a2, fun z hz hzb => a3 z (by omega) hzb⟩
theorem zshl0 {k : Int} (k0 : 0 ≤ k) (k1 : k < 31) : zshl 0 k = 0 := by
  have h : ∀ k : Fin 31, zshl 0 ((k.val : Nat) : Int) = 0 := by decide +kernel
  have := h ⟨k.toNat, by omega⟩
  rw [show (((⟨k.toNat, by omega⟩ : Fin 31).val : Nat) : Int) = k by show ((k.toNat : Nat) : Int) = k; omega] at this
  exact this
theorem zor0 {x : Int} (h0 : 0 ≤ x) (h1 : x < 2147483648) : zor x 0 = x := by
  have := zor_n x.toNat 0 (by omega) (by omega)
  rw [Nat.or_zero] at this
  rw [show ((x.toNat : Nat) : Int) = x by omega] at this
  exact this
theorem zbq_T {p : Nat → Prop} {n : Nat} (hn : n ≤ 24) {k x t : Int} (k0 : 0 ≤ k) (k1 : k < n) (hx : x = ((zbq p k.toNat : Nat) : Int)) (h : (t = 1 ∧ p k.toNat) ∨ (t = 0 ∧ ¬ p k.toNat)) : zor x (zshl t k) = ((zbq p (k + 1).toNat : Nat) : Int) := by
  rcases h with ⟨rfl, h⟩ | ⟨rfl, h⟩
  · exact zbq_1 k0 (by omega) hx h
  · have hr := zbq_r hn (by omega) hx
    rw [zshl0 k0 (by omega), zor0 (by omega) (by omega)]
    exact zbq_0 k0 hx h
def zceI (T : zGT) (F : Nat) (x k is : Int) : Prop := (is = 1 ∧ F.testBit x.toNat = true ∧ ∀ y : Nat, (y : Int) < k → F.testBit y = true → gm T y x.toNat = gm T x.toNat y) ∨ (is = 0 ∧ ¬ gCe T F (gN T) x.toNat)
theorem zceI_1 {T : zGT} {F : Nat} {f x : Int} (hf : f = (F : Int)) (h : zbt f x) : zceI T F x 0 1 := by
  unfold zbt at h
  rw [hf, Int.toNat_natCast] at h
  exact Or.inl ⟨rfl, h, fun y hy => by omega⟩
theorem zceI_0 {T : zGT} {F : Nat} {f x : Int} (hf : f = (F : Int)) (h : ¬ zbt f x) : zceI T F x 0 0 := by
  unfold zbt at h
  rw [hf, Int.toNat_natCast] at h
  exact Or.inr ⟨rfl, fun q => h q.1⟩
theorem zceI_s {T : zGT} {F : Nat} {x k is is2 : Int} (h : zceI T F x k is) (h1 : is ≠ 0) (k0 : 0 ≤ k) (kn : k < gN T) (h2 : (is2 = 1 ∧ (¬ F.testBit k.toNat = true ∨ gm T x.toNat k.toNat = gm T k.toNat x.toNat)) ∨ (is2 = 0 ∧ F.testBit k.toNat = true ∧ gm T x.toNat k.toNat ≠ gm T k.toNat x.toNat)) : zceI T F x (k + 1) is2 := by
  rcases h with ⟨-, a2, a3⟩ | ⟨a1, -⟩
  · rcases h2 with ⟨b1, b2⟩ | ⟨b1, b2, b3⟩
    · refine Or.inl ⟨b1, a2, fun y hy hb => ?_⟩
      by_cases e : (y : Int) < k
      · exact a3 y e hb
      · rw [show y = k.toNat by omega] at hb ⊢
        rcases b2 with b2 | b2
        · exact absurd hb b2
        · exact b2.symm
    · exact Or.inr ⟨b1, fun q => b3 (q.2 k.toNat (by omega) b2).symm⟩
  · exact absurd a1 h1
theorem zceI_e {T : zGT} {F : Nat} {x k is : Int} (h : zceI T F x k is) (he : is = 0 ∨ (gN T : Int) ≤ k) : (is = 1 ∧ gCe T F (gN T) x.toNat) ∨ (is = 0 ∧ ¬ gCe T F (gN T) x.toNat) := by
  rcases h with ⟨a1, a2, a3⟩ | h
  · rcases he with he | he
    · omega
    · exact Or.inl ⟨a1, a2, fun y hy hb => a3 y (by omega) hb⟩
  · exact Or.inr h
theorem zbt_n {f k : Int} {F : Nat} (hf : f = (F : Int)) : zbt f k ↔ F.testBit k.toNat = true := by
  unfold zbt
  rw [hf, Int.toNat_natCast]
