def zWd (M : zMem) : Prop := (0 ≤ ze M 81 1 ∧ ze M 81 1 ≤ 700) ∧ (0 ≤ ze M 81 14 ∧ ze M 81 14 ≤ 8) ∧ (0 ≤ ze M 81 18 ∧ ze M 81 18 ≤ 8) ∧ (0 ≤ ze M 81 60 ∧ ze M 81 60 ≤ 12) ∧ (0 ≤ ze M 81 57 ∧ ze M 81 57 ≤ 65536) ∧ zIF M ∧ zB 83 24 0 5 M ∧ zB 110 65536 0 2147483647 M ∧ ∃ T : zGT, T ∈ gTabs ∧ zGB T M
theorem zWd.b {S C : List Nat} {M N : zMem} (h : zWd M) (hf : zFr S C M N) (hs : 14 ∉ S ∧ 18 ∉ S ∧ 16 ∉ S ∧ 17 ∉ S ∧ 20 ∉ S ∧ 25 ∉ S ∧ 26 ∉ S) (hc : 83 ∉ C ∧ 84 ∉ C ∧ 85 ∉ C ∧ 87 ∉ C ∧ 88 ∉ C ∧ 89 ∉ C ∧ 90 ∉ C ∧ 91 ∉ C ∧ 93 ∉ C ∧ 94 ∉ C) (h1 : 0 ≤ ze N 81 1 ∧ ze N 81 1 ≤ 700) (h60 : 0 ≤ ze N 81 60 ∧ ze N 81 60 ≤ 12) (h57 : 0 ≤ ze N 81 57 ∧ ze N 81 57 ≤ 65536) (h110 : zB 110 65536 0 2147483647 N) : zWd N := by
  obtain ⟨-, h14, h18, -, -, hI, h83, -, T, hT, hB⟩ := h
  obtain ⟨s1, s2, s3, s4, s5, s6, s7⟩ := hs
  obtain ⟨c1, c2, c3, c4, c5, c6, c7, c8, c9, c10⟩ := hc
  refine ⟨h1, by rw [hf.e s1]; exact h14, by rw [hf.e s2]; exact h18, h60, h57, hI.fr hf ⟨s3, s4⟩ c2, zB.fr hf h83 (by decide) c1, h110, T, hT, zGB.fr hf hB ⟨s5, s6, s7⟩ ⟨c3, c4, c5, c6, c7, c8, c9, c10⟩⟩
def zOl (M N : zMem) : Prop := N.1 = M.1 ∧ zsh N = zsh M ∧ zf N = zf M ∧ ∀ q, q < 81 → zi N q = zi M q ∧ zj N q = zj M q
theorem zFr.old {S C : List Nat} {M N : zMem} (hf : zFr S C M N) (hc : ∀ c ∈ C, 81 < c) : zOl M N := ⟨hf.1, hf.2.1, hf.2.2.1, fun q hq => hf.2.2.2.1 q (by omega) (fun h => by have := hc q h; omega)⟩
def zGo (M N : zMem) (k : Int) : Prop := zOl M N ∧ zMt N ∧ zWd N ∧ ze N 81 1 = k
theorem zmk_z {M : zMem} (h : zn M = 82) (h3 : ∀ j, zi M 81 j = 0) {j : Nat} (h8 : j ≠ 8) (h10 : j ≠ 10) (h12 : j ≠ 12) : ze (zmk M) 81 j = 0 := by
  unfold ze
  rw [(zmk_o M h).2.2 j, if_neg h12, if_neg h10, if_neg h8, h3]
  rfl
theorem zmk_b {M : zMem} {q n : Nat} {hi : Int} (e : zi (zmk M) q = fun _ => 0) (h : 0 ≤ hi) : zB q n 0 hi (zmk M) := fun k _ => by
  unfold ze
  rw [e]
  show (0 : Int) ≤ (0 : Int32).toInt ∧ (0 : Int32).toInt ≤ hi
  have e0 : (0 : Int32).toInt = 0 := by decide
  rw [e0]
  exact ⟨Int.le_refl _, h⟩
