/-! more of the base, 6 -/
theorem gTb_c {mv : List Nat} {T : zGT} {c c' : Nat → Nat} (h : gTb mv c T) (h' : gTb mv c' T) : ∀ i, i < gN T → c i = c' i := by
  obtain ⟨a1, a2, a3, -⟩ := h
  obtain ⟨b1, b2, b3, -⟩ := h'
  have hset : ∀ y, (∃ i, i < gN T ∧ c i = y) ↔ (∃ i, i < gN T ∧ c' i = y) := fun y => (a2 y).symm.trans (b2 y)
  exact fun i hi => (gsort_u a3 b3 hset i hi).2
theorem zGc.dg {mv : List Nat} {P : Nat} {T : zGT} {d : Nat} {M : zMem} (h : zGc mv P T d M) (hP : P ≤ 6) {i p : Nat} (hi : i < gN T) (hp : p < P) : gdg (ze M (d + 5) i).toNat p = gdg (zCo P d M i) p := by
  show _ = gdg (zkc P (ze M (d + 5) i)) p
  rw [zkc_d (h.2.2 i hi) p (by omega), if_pos hp]
theorem zCdR.dg {P : Nat} {M : zMem} (hB : zB 85 144 0 5 M) {i p : Nat} (hi : i < 24) (hp : p < P) (hP : P ≤ 6) : ze M 85 (6 * i + p) = ((gdg (zrc M 85 i P) p : Nat) : Int) := by
  have hb : ∀ q : Nat, q < 6 → 0 ≤ ze M 85 (6 * i + q) ∧ ze M 85 (6 * i + q) ≤ 5 := fun q hq => by
    have := hB.g (e := ((6 * i + q : Nat) : Int)) (by omega) (by omega)
    rw [Int.toNat_natCast] at this
    exact this
  rw [zrc_d (fun q hq => by have := (hb q (by omega)).2; omega) p (by omega)]
  unfold zrd
  rw [if_pos (by omega)]
  have := (hb p (by omega)).1
  omega
def zImg (q : Nat → Prop) (g : Nat → Nat) (k : Nat) (x : Int) : Prop := (0 ≤ x ∧ x < 16777216) ∧ ∀ y, x.toNat.testBit y = true ↔ ∃ m, m < k ∧ q m ∧ g m = y
theorem zImg_0 {q : Nat → Prop} {g : Nat → Nat} : zImg q g 0 0 := by
  refine ⟨by omega, fun y => ?_⟩
  show Nat.testBit 0 y = true ↔ _
  rw [Nat.zero_testBit]
  constructor
  · intro h
    exact absurd h (by decide)
  · rintro ⟨m, hm, -⟩
    omega
theorem zImg_1 {q : Nat → Prop} {g : Nat → Nat} {k x v : Int} (k0 : 0 ≤ k) (h : zImg q g k.toNat x) (hq : q k.toNat) (hv : v = ((g k.toNat : Nat) : Int)) (h24 : g k.toNat < 24) : zImg q g (k + 1).toNat (zor x (zshl 1 v)) := by
  obtain ⟨⟨h1, h2⟩, h3⟩ := h
  rw [zorb h1 (by omega) (by omega) (by omega)]
  have hx : x.toNat < 2 ^ 24 := by omega
  have h4 : 2 ^ v.toNat < 2 ^ 24 := Nat.pow_lt_pow_right (by omega) (by omega)
  have h5 := Nat.or_lt_two_pow hx h4
  refine ⟨by omega, fun y => ?_⟩
  rw [Int.toNat_natCast, Nat.testBit_or, Bool.or_eq_true, h3 y, Nat.testBit_two_pow, decide_eq_true_iff]
  constructor
  · rintro (⟨m, a1, a2⟩ | a1)
    · exact ⟨m, by omega, a2⟩
    · exact ⟨k.toNat, by omega, hq, by omega⟩
  · rintro ⟨m, a1, a2, a3⟩
    by_cases e : m = k.toNat
    · rw [e] at a3
      exact Or.inr (by omega)
    · exact Or.inl ⟨m, by omega, a2, a3⟩
theorem zImg_n {q : Nat → Prop} {g : Nat → Nat} {k x : Int} (k0 : 0 ≤ k) (h : zImg q g k.toNat x) (hq : ¬ q k.toNat) : zImg q g (k + 1).toNat x := by
  refine ⟨h.1, fun y => (h.2 y).trans ⟨?_, ?_⟩⟩
  · rintro ⟨m, a1, a2⟩
    exact ⟨m, by omega, a2⟩
  · rintro ⟨m, a1, a2, a3⟩
    by_cases e : m = k.toNat
    · rw [e] at a2
      exact absurd a2 hq
    · exact ⟨m, by omega, a2, a3⟩
section ZMX
variable {T : zGT} {F : Nat} {x y r v : Int}
end ZMX
