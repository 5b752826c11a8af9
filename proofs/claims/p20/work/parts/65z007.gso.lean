/-! more of the base, 7 -/
def gAb (T : zGT) (F : Nat) : Prop := ∀ a b, a < gN T → b < gN T → F.testBit a = true → F.testBit b = true → gm T a b = gm T b a
def gNb (T : zGT) (F : Nat) : Nat → Prop := fun g => gtr T F g = F
theorem zct_o1 {p : Nat → Prop} {a : Nat} (ha : ¬ p a) : ∀ n, a < n → zct (fun y => p y ∨ y = a) n = zct p n + 1
  | 0, h => absurd h (Nat.not_lt_zero a)
  | n + 1, h => by
    by_cases e : a = n
    · rw [← e] at h ⊢
      rw [zct_t (p := fun y => p y ∨ y = a) (Or.inr rfl), zct_f ha, zct_c (p := fun y => p y ∨ y = a) (q := p) (fun i hi => ⟨fun q => by
        rcases q with q | q
        · exact q
        · omega, Or.inl⟩)]
    · have ih := zct_o1 ha n (by omega)
      by_cases g : p n
      · rw [zct_t (p := fun y => p y ∨ y = a) (Or.inl g), zct_t g, ih]
      · rw [zct_f (p := fun y => p y ∨ y = a) (fun q => by
          rcases q with q | q
          · exact g q
          · omega), zct_f g, ih]
section GPW
variable {T : zGT} {x V F : Nat}
end GPW
def zAbI (T : zGT) (F : Nat) (x y : Int) : Prop := ∀ a b : Nat, ((a : Int) < x ∨ ((a : Int) = x ∧ (b : Int) < y)) → a < gN T → b < gN T → F.testBit a = true → F.testBit b = true → gm T a b = gm T b a
section ZAB
variable {T : zGT} {F : Nat} {x y : Int}
theorem zAbI_0 : zAbI T F 0 0 := fun a b h => by omega
theorem zAbI_s (x0 : 0 ≤ x) (y0 : 0 ≤ y) (h : zAbI T F x y) (h2 : ¬ F.testBit x.toNat = true ∨ ¬ F.testBit y.toNat = true ∨ gm T x.toNat y.toNat = gm T y.toNat x.toNat) : zAbI T F x (y + 1) := fun a b hab ha hb fa fb => by
  by_cases e : a = x.toNat ∧ b = y.toNat
  · obtain ⟨rfl, rfl⟩ := e
    rcases h2 with h2 | h2 | h2
    · exact absurd fa h2
    · exact absurd fb h2
    · exact h2
  · exact h a b (by omega) ha hb fa fb
theorem zAbI_f (hy : (gN T : Int) ≤ y) (h : zAbI T F x y) : zAbI T F (x + 1) 0 := fun a b hab ha hb fa fb => h a b (by omega) ha hb fa fb
theorem zAbI_e (hx : (gN T : Int) ≤ x) (h : zAbI T F x 0) : gAb T F := fun a b ha hb fa fb => h a b (by omega) ha hb fa fb
theorem gAb_c (hn : F < 2 ^ gN T) : zbq (gCe T F (gN T)) (gN T) = F ↔ gAb T F := by
  constructor
  · intro h a b ha hb fa fb
    rw [← h, zbq_t] at fb
    exact fb.2.2 a ha fa
  · intro h
    refine Nat.eq_of_testBit_eq fun i => ?_
    rw [Bool.eq_iff_iff, zbq_t]
    constructor
    · exact fun q => q.2.1
    · exact fun q => ⟨gbit_lt hn q, q, fun a ha fa => h a i ha (gbit_lt hn q) fa q⟩
end ZAB
