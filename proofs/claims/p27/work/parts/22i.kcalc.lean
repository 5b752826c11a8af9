section ZKM
variable {d F : Nat} {K : Nat → Nat → Int} {Mz Nz Pz Qz : zMem} {e : Int}
theorem zneg_n (s : Int) : (fun k : Nat => if k < F then -zvc F d Mz s k else 0) = fun k => -zvc F d Mz s k := by
  funext k
  by_cases g : k < F
  · rw [if_pos g]
  · rw [if_neg g, zvc_n s k (by omega)]
    rfl
theorem zsgn_n1 {c : Int} (h : zcd c) (hc : c ≠ 126) : zsgn c ≠ 1 := by
  rcases h with rfl | rfl | rfl | rfl | rfl
  · decide
  · exact absurd rfl hc
  · decide
  · decide
  · decide
theorem zng_st (hS : zkS d Mz = 1 :: zkS d Nz) (hG : zkG d Nz = zkG d Mz) (h1 : 1 ≤ ze Mz (d + 33) 3) (h3 : ze Nz (d + 33) 3 = ze Mz (d + 33) 3) (hu : zvc F d Nz (20 + ze Mz (d + 33) 3) = fun k => -zvc F d Mz (20 + ze Mz (d + 33) 3) k) (h : ∀ t : Int, 21 ≤ t → t < 20 + ze Mz (d + 33) 3 → zvc F d Nz t = zvc F d Mz t) : zng (zkS d Mz) (zkW F d Mz) = zng (zkS d Nz) (zkW F d Nz) := by
  obtain ⟨vs, c1, c2⟩ := zkV_t (F := F) h1 h3 hu h
  rw [hS]
  unfold zkW
  rw [hG]
  cases zkG d Mz with
  | true => exact zng_s0 _
  | false =>
    show zng (1 :: zkS d Nz) (zkV F d Mz) = zng (zkS d Nz) (zkV F d Nz)
    rw [c1, c2]
    exact zng_s _ _ _
theorem zop_4 (v w : Nat → Int) : zop F K (zsgn 42) v w = zprd F K v w := rfl
theorem zop_a {c s : Int} (h : (c = 43 ∧ s = 1) ∨ (c = 45 ∧ s = -1)) (v w : Nat → Int) : zop F K (zsgn c) v w = fun k => v k + s * w k := by
  rcases h with ⟨rfl, rfl⟩ | ⟨rfl, rfl⟩
  · funext k
    show v k + w k = v k + 1 * w k
    rw [Int.one_mul]
  · funext k
    show v k - w k = v k + -1 * w k
    rw [Int.neg_one_mul]
    rfl
theorem zadd_n (s t c : Int) : (fun k : Nat => if k < F then zvc F d Mz s k + c * zvc F d Mz t k else 0) = fun k => zvc F d Mz s k + c * zvc F d Mz t k := by
  funext k
  by_cases g : k < F
  · rw [if_pos g]
  · rw [if_neg g, zvc_n s k (by omega), zvc_n t k (by omega), Int.mul_zero]
    rfl
theorem zrk_b {X y : Nat} {S1 S0 : List Nat} {W1 W0 : List (Nat → Int)} {G1 G0 : Bool} {A : zTr} (hi : A = zrk F K X S0.length (S0, W0, G0)) (hS : S0 = y :: S1) (hX : X ≤ y) (hT : (S1, W1, G1) = zwk1 F K (S0, W0, G0)) : A = zrk F K X S1.length (S1, W1, G1) := by
  rw [hi, hT, hS, List.length_cons]
  exact zrk_s hX
theorem zkS_h1 {x : Nat} (h : (zkS d Mz).head? = some x) : 1 ≤ ze Mz (d + 33) 2 ∧ zsgn (ze Mz (d + 35) (ze Mz (d + 33) 2 - 1).toNat) = x := by
  have h1 : 1 ≤ ze Mz (d + 33) 2 := by
    rcases Int.lt_or_le (ze Mz (d + 33) 2) 1 with g | g
    · rw [zkS_0 (by omega)] at h
      cases h
    · exact g
  refine ⟨h1, ?_⟩
  rw [zkS_h h1 rfl] at h
  injection h
theorem zsgn_0 {c : Int} (h : zcd c) (h0 : zsgn c = 0) : c = 40 := by
  rcases h with rfl | rfl | rfl | rfl | rfl
  · rfl
  all_goals exact absurd h0 (by decide)
theorem zwp_4 {y : Nat} (h : y < 4) (h1 : y ≠ 1) : zwp (zsgn 42) y := ⟨fun _ => ⟨h1, by omega⟩, fun g => absurd g (by decide)⟩
theorem zwp_2 {c : Int} {y : Nat} (hc : c = 43 ∨ c = 45) (h : y < 2) (h1 : y ≠ 1) : zwp (zsgn c) y := by
  refine ⟨fun g => ?_, fun _ => by omega⟩
  rcases hc with rfl | rfl
  · exact absurd g (by decide)
  · exact absurd g (by decide)
theorem zsgn_l4 {c : Int} (h : zcd c) (hc : c ≠ 42) : zsgn c < 4 := by
  rcases h with rfl | rfl | rfl | rfl | rfl
  · decide
  · decide
  · decide
  · decide
  · exact absurd rfl hc
def zDj (P Q : Prop) : Prop := P ∨ Q
def zD3 (c : Int) : Prop := c = 42 ∨ c = 43 ∨ c = 45
def zDf (c s : Int) : Prop := (c = 43 ∧ s = 1) ∨ (c = 45 ∧ s = -1)
theorem zD3_i {c : Int} (h : zcd c) (h1 : c ≠ 40) (h2 : c ≠ 126) : zD3 c := by
  rcases h with h | h | h | h | h
  · exact absurd h h1
  · exact absurd h h2
  · exact Or.inr (Or.inl h)
  · exact Or.inr (Or.inr h)
  · exact Or.inl h
theorem zD3_45 {c : Int} (h : zD3 c) (h1 : c ≠ 42) (h2 : c ≠ 43) : c = 45 := by
  rcases h with h | h | h
  · exact absurd h h1
  · exact absurd h h2
  · exact h
theorem zsgn_2 {c : Int} (h : zD3 c) : 2 ≤ zsgn c := by
  rcases h with rfl | rfl | rfl <;> decide
theorem zDf_s {c s : Int} (h : zDf c s) : s = 1 ∨ s = -1 := h.imp (fun g => g.2) (fun g => g.2)
theorem zDf_4 {c s : Int} (h : zDf c s) : zsgn c ≠ 4 := by
  rcases h with ⟨rfl, _⟩ | ⟨rfl, _⟩ <;> decide
end ZKM
