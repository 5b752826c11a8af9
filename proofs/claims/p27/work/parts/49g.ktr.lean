theorem zFc.sp {d : Nat} {FA : List (Nat × Nat)} {CA : List Nat} {FR : List (Nat × Nat)} {CR : List Nat} {M N : zMem} {q j r : Nat} (h : zFc d FA CA FR CR M N) (h2 : zf M q j = some r) : zf N q j = some r := by
  rw [h.2.2.1]
  exact h2
theorem zNm_z {F d : Nat} {K : Nat → Nat → Int} {M : zMem} (h : ze M (d + 0) 6 = 0) : zNm [] F K d M := by
  refine ⟨by omega, ?_, fun k hk => absurd hk (by omega)⟩
  unfold zNl
  rw [h]
  rfl
def zSwp (d d2 : Nat) (M N : zMem) : Prop := N.1 = M.1 ∧ zsh N = zsh M ∧ (∀ q, 81 ≤ q → zi N q = zi M q ∧ zj N q = zj M q ∧ zf N q = zf M q) ∧ (zf N = zf M ∨ (zf N 0 2 = some (d + 0) ∧ zf N 0 3 = some (d2 + 0) ∧ ∀ q j, ¬ (q = 0 ∧ (j = 2 ∨ j = 3)) → zf N q j = zf M q j))
theorem zSwp_0 {d d2 : Nat} {FA : List (Nat × Nat)} {CA : List Nat} {FR : List (Nat × Nat)} {CR : List Nat} {M N : zMem} (h : zFc d FA CA FR CR M N) (hW : zKW d M) (hc : (∀ x ∈ FA, x.1 < 81) ∧ ∀ x ∈ CA, x < 81) : zSwp d d2 M N := by
  have hd := hW.2.1
  refine ⟨h.1, h.2.1, fun q hq => ?_, Or.inl h.2.2.1⟩
  have h2 := h.o (q := q) (Or.inr (by omega)) ⟨fun z => by have := hc.2 q z; omega, fun x hx e => by have := hc.1 x hx; omega⟩
  exact ⟨h2.1, h2.2, by rw [h.2.2.1]⟩
