def gNb (T : zGT) (F : Nat) : Nat → Prop := fun g => gtr T F g = F
theorem zct_o1 {p : Nat → Prop} {a : Nat} (ha : ¬ p a) : ∀ n, a < n → zct (fun y => p y ∨ y = a) n = zct p n + 1
  | 0, h => absurd h (Nat.not_lt_zero a)
  | n + 1, h => by
    by_cases e : a = n
    · rw [← e] at h ⊢
      rw [zct_t (p := fun y => p y ∨ y = a) (Or.inr rfl), zct_f ha, zct_c (p := fun y => p y ∨ y = a) (q := p) (fun i hi => ⟨fun q => by
        rcases q with q | q
        · exact q
        · omega, Or.inl⟩)]
    · have ih := zct_o1 ha n (by omega)
      by_cases g : p n
      · rw [zct_t (p := fun y => p y ∨ y = a) (Or.inl g), zct_t g, ih]
      · rw [zct_f (p := fun y => p y ∨ y = a) (fun q => by
          rcases q with q | q
          · exact g q
          · omega), zct_f g, ih]
section GPW
variable {T : zGT} {x V F : Nat}
end GPW
section ZAB
variable {T : zGT} {F : Nat} {x y : Int}
end ZAB
