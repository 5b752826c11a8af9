def zGD (M : zMem) : Prop := (1 ≤ ze M 81 20 ∧ ze M 81 20 ≤ 24 ∧ 1 ≤ ze M 81 25 ∧ ze M 81 25 ≤ 64 ∧ 1 ≤ ze M 81 26 ∧ ze M 81 26 ≤ 64) ∧ ∀ e : Int, 0 ≤ e → e < ze M 81 26 → ze M 93 (64 * e + e).toNat ≠ 0
theorem zGD.fr {S C : List Nat} {M N : zMem} (hf : zFr S C M N) (h : zGD M) (hs : 20 ∉ S ∧ 25 ∉ S ∧ 26 ∉ S) (hc : 93 ∉ C) : zGD N := by
  unfold zGD
  rw [hf.e hs.1, hf.e hs.2.1, hf.e hs.2.2]
  refine ⟨h.1, fun e h0 h1 => ?_⟩
  rw [hf.ie (by decide) hc]
  exact h.2 e h0 h1
