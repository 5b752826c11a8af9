/-! what stands between two calls of the reference -/
def zWd (M : zMem) : Prop := (0 ≤ ze M 81 1 ∧ ze M 81 1 ≤ 700) ∧ (0 ≤ ze M 81 14 ∧ ze M 81 14 ≤ 8) ∧ (0 ≤ ze M 81 18 ∧ ze M 81 18 ≤ 8) ∧ (0 ≤ ze M 81 60 ∧ ze M 81 60 ≤ 12) ∧ (0 ≤ ze M 81 57 ∧ ze M 81 57 ≤ 65536) ∧ zIF M ∧ zB 83 24 0 5 M ∧ zB 110 65536 0 2147483647 M ∧ ∃ T : zGT, T ∈ gTabs ∧ zGB T M
theorem zWd.b {S C : List Nat} {M N : zMem} (h : zWd M) (hf : zFr S C M N) (hs : 14 ∉ S ∧ 18 ∉ S ∧ 16 ∉ S ∧ 17 ∉ S ∧ 20 ∉ S ∧ 25 ∉ S ∧ 26 ∉ S) (hc : 83 ∉ C ∧ 84 ∉ C ∧ 85 ∉ C ∧ 87 ∉ C ∧ 88 ∉ C ∧ 89 ∉ C ∧ 90 ∉ C ∧ 91 ∉ C ∧ 93 ∉ C ∧ 94 ∉ C) (h1 : 0 ≤ ze N 81 1 ∧ ze N 81 1 ≤ 700) (h60 : 0 ≤ ze N 81 60 ∧ ze N 81 60 ≤ 12) (h57 : 0 ≤ ze N 81 57 ∧ ze N 81 57 ≤ 65536) (h110 : zB 110 65536 0 2147483647 N) : zWd N := by
  obtain ⟨-, h14, h18, -, -, hI, h83, -, T, hT, hB⟩ := h
  obtain ⟨s1, s2, s3, s4, s5, s6, s7⟩ := hs
  obtain ⟨c1, c2, c3, c4, c5, c6, c7, c8, c9, c10⟩ := hc
  refine ⟨h1, by rw [hf.e s1]; exact h14, by rw [hf.e s2]; exact h18, h60, h57, hI.fr hf ⟨s3, s4⟩ c2, zB.fr hf h83 (by decide) c1, h110, T, hT, zGB.fr hf hB ⟨s5, s6, s7⟩ ⟨c3, c4, c5, c6, c7, c8, c9, c10⟩⟩
/-- old cells stay -/
def zOl (M N : zMem) : Prop := N.1 = M.1 ∧ zsh N = zsh M ∧ zf N = zf M ∧ ∀ q, q < 81 → zi N q = zi M q ∧ zj N q = zj M q
theorem zFr.old {S C : List Nat} {M N : zMem} (hf : zFr S C M N) (hc : ∀ c ∈ C, 81 < c) : zOl M N := ⟨hf.1, hf.2.1, hf.2.2.1, fun q hq => hf.2.2.2.1 q (by omega) (fun h => by have := hc q h; omega)⟩
def zGo (M N : zMem) (k : Int) : Prop := zOl M N ∧ zMt N ∧ zWd N ∧ ze N 81 1 = k
/-- a method of the reference, out of the world into it -/
def zWk (l : Launch) (k : zMeth) (n : Nat) (vs : List Value) (M : zMem) (c : Int) : Prop := ∃ Q' : Option Value → zMem → Prop, zC l k 0 0 vs M Q' ∧ ∀ r N, Q' r N → (∃ v : Value, r = some v ∧ v.category = n ∧ ∀ ad, zv ad v = v) ∧ zGo M N c
/-- a method of the reference that leaves the bytes alone -/
def zWk4 (l : Launch) (k : zMeth) (n : Nat) (vs : List Value) (M : zMem) : Prop := ∃ Q' : Option Value → zMem → Prop, zC l k 0 0 vs M Q' ∧ ∀ r N, Q' r N → (∃ v : Value, r = some v ∧ v.category = n ∧ ∀ ad, zv ad v = v) ∧ zGo M N (ze M 81 1) ∧ ∀ j : Nat, ze N 82 j = ze M 82 j
theorem w_feed (l : Launch) (M : zMem) (hM : zMt M) (h : zWd M) (x0 : Int32) (x1 : Int32) (x2 : Int32) (x3 : Int32) (x4 : Int32) : ∃ Q' : Option Value → zMem → Prop, zC l m_M_feed 0 0 [.ref 81, .int x0, .int x1, .int x2, .int x3, .int x4] M Q' ∧ ∀ r N, Q' r N → ∃ v : Int, r = some (.int (Int32.ofInt v)) ∧ ((700 < ze M 81 1 + 20 ∧ v = -1 ∧ zGo M N (ze M 81 1) ∧ ∀ j : Nat, ze N 82 j = ze M 82 j) ∨ (ze M 81 1 + 20 ≤ 700 ∧ v = ze M 81 1 + 20 ∧ zGo M N (ze M 81 1 + 20) ∧ ∀ j : Nat, ze N 82 j = zfd5 (fun j => ze M 82 j) (ze M 81 1) x0.toInt x1.toInt x2.toInt x3.toInt x4.toInt j)) := by
  obtain ⟨h1, h14, h18, h60, h57, hIF, h83, h110, T, hT, hB⟩ := id h
  have hO := gTabs_ok T hT
  have hX := gTabs_ex T hT
  obtain ⟨D, hD⟩ := hX.2.2.2.2.2
  have hi := hIF.1
  have hC := c_M_feedF l M hM x0.toInt (z32r x0).1 (z32r x0).2 x1.toInt (z32r x1).1 (z32r x1).2 x2.toInt (z32r x2).1 (z32r x2).2 x3.toInt (z32r x3).1 (z32r x3).2 x4.toInt (z32r x4).1 (z32r x4).2  (by omega) (by omega)
  simp only [Int32.ofInt_toInt] at hC
  refine ⟨_, hC, ?_⟩
  rintro r N ⟨v, rfl, hv, hf, hp⟩
  have hw : zWd N := zWd.b h hf (by decide) (by decide) ⟨by omega, by omega⟩ (by rw [hf.e (by decide)]; exact h60) (by rw [hf.e (by decide)]; exact h57) (zB.fr hf h110 (by decide) (by decide))
  refine ⟨v, rfl, ?_⟩
  rcases hp with ⟨a1, a2, a3, a4⟩ | ⟨a1, a2, a3, a4⟩
  · exact Or.inl ⟨a1, a2, ⟨hf.old (by decide), hf.w hM, hw, a3⟩, a4⟩
  · exact Or.inr ⟨a1, a2, ⟨hf.old (by decide), hf.w hM, hw, a3⟩, a4⟩
theorem w_end (l : Launch) (M : zMem) (hM : zMt M) (h : zWd M) (x0 : Int32) : ∃ Q' : Option Value → zMem → Prop, zC l m_M_end 0 0 [.ref 81, .int x0] M Q' ∧ ∀ r N, Q' r N → (∃ v : Int32, r = some (.int v)) ∧ (∀ j : Nat, ze N 82 j = ze M 82 j) ∧ (((x0.toInt < 0 ∨ ze M 81 1 < x0.toInt) ∧ zGo M N (ze M 81 1)) ∨ (0 ≤ x0.toInt ∧ x0.toInt ≤ ze M 81 1 ∧ zGo M N x0.toInt)) := by
  obtain ⟨h1, h14, h18, h60, h57, hIF, h83, h110, T, hT, hB⟩ := id h
  have hO := gTabs_ok T hT
  have hX := gTabs_ex T hT
  obtain ⟨D, hD⟩ := hX.2.2.2.2.2
  have hi := hIF.1
  have hC := c_M_end l M hM x0.toInt (z32r x0).1 (z32r x0).2  (by omega) (by omega)
  simp only [Int32.ofInt_toInt] at hC
  refine ⟨_, hC, ?_⟩
  rintro r N ⟨v, rfl, hv, hf, hp⟩
  have hw : zWd N := zWd.b h hf (by decide) (by decide) ⟨by omega, by omega⟩ (by rw [hf.e (by decide)]; exact h60) (by rw [hf.e (by decide)]; exact h57) (zB.fr hf h110 (by decide) (by decide))
  refine ⟨⟨_, rfl⟩, fun j => hf.ie (by decide) (by decide) j, ?_⟩
  rcases hp with ⟨a1, a2, a3⟩ | ⟨a1, a2, a3, a4⟩
  · exact Or.inl ⟨a1, hf.old (by decide), hf.w hM, hw, a3⟩
  · exact Or.inr ⟨a1, a2, hf.old (by decide), hf.w hM, hw, a4⟩
theorem w_troupe (l : Launch) (M : zMem) (hM : zMt M) (h : zWd M) (b : Nat → Int) (n : Nat) (hrp : zRp b n M) : ∃ Q' : Option Value → zMem → Prop, zC l m_M_troupe 0 0 [.ref 81] M Q' ∧ ∀ r N, Q' r N → ∃ v : Int, r = some (.int (Int32.ofInt v)) ∧ zTrA b n v ∧ zGo M N 0 := by
  obtain ⟨h1, h14, h18, h60, h57, hIF, h83, h110, T, hT, hB⟩ := id h
  have hO := gTabs_ok T hT
  have hX := gTabs_ex T hT
  obtain ⟨D, hD⟩ := hX.2.2.2.2.2
  have hi := hIF.1
  have hC := c_M_troupeF l M hM  b n hrp hIF (by omega) (by omega) h83 hB.2.1 (by omega) (by omega)
  refine ⟨_, hC, ?_⟩
  rintro r N ⟨v, rfl, hv, hf, p1, p2, p3, p4, p5, p6, p7, p8, p9, p10, p11⟩
  exact ⟨v, rfl, p11, hf.old (by decide), hf.w hM, ⟨⟨by omega, by omega⟩, ⟨p2, p3⟩, ⟨p4, p5⟩, ⟨p6, p7⟩, by rw [hf.e (by decide)]; exact h57, p8, p9, zB.fr hf h110 (by decide) (by decide), p10⟩, p1⟩
theorem w_fault (l : Launch) (M : zMem) (hM : zMt M) (h : zWd M) (x0 : Int32) : zWk4 l m_M_fault 1 [.ref 81, .int x0] M := by
  obtain ⟨h1, h14, h18, h60, h57, hIF, h83, h110, T, hT, hB⟩ := id h
  have hO := gTabs_ok T hT
  have hX := gTabs_ex T hT
  obtain ⟨D, hD⟩ := hX.2.2.2.2.2
  have hi := hIF.1
  have hC := c_M_fault l M hM x0.toInt (z32r x0).1 (z32r x0).2  
  simp only [Int32.ofInt_toInt] at hC
  refine ⟨_, hC, ?_⟩
  rintro r N ⟨v, rfl, hv, hf, hp⟩
  exact ⟨⟨_, rfl, rfl, fun _ => rfl⟩, ⟨hf.old (by decide), hf.w hM, zWd.b h hf (by decide) (by decide) (by rw [hf.e (by decide)]; exact h1) (by rw [hf.e (by decide)]; exact h60) (by rw [hf.e (by decide)]; exact h57) (zB.fr hf h110 (by decide) (by decide)), (hf.e (by decide))⟩, fun j => hf.ie (by decide) (by decide) j⟩
theorem w_about (l : Launch) (M : zMem) (hM : zMt M) (h : zWd M) (x0 : Int32) : zWk4 l m_M_about 1 [.ref 81, .int x0] M := by
  obtain ⟨h1, h14, h18, h60, h57, hIF, h83, h110, T, hT, hB⟩ := id h
  have hO := gTabs_ok T hT
  have hX := gTabs_ex T hT
  obtain ⟨D, hD⟩ := hX.2.2.2.2.2
  have hi := hIF.1
  have hC := c_M_about l M hM x0.toInt (z32r x0).1 (z32r x0).2 T hO hB
  simp only [Int32.ofInt_toInt] at hC
  refine ⟨_, hC, ?_⟩
  rintro r N ⟨v, rfl, hv, hf, hp⟩
  exact ⟨⟨_, rfl, rfl, fun _ => rfl⟩, ⟨hf.old (by decide), hf.w hM, zWd.b h hf (by decide) (by decide) (by rw [hf.e (by decide)]; exact h1) (by rw [hf.e (by decide)]; exact h60) (by rw [hf.e (by decide)]; exact h57) (zB.fr hf h110 (by decide) (by decide)), (hf.e (by decide))⟩, fun j => hf.ie (by decide) (by decide) j⟩
theorem w_moves (l : Launch) (M : zMem) (hM : zMt M) (h : zWd M) (x0 : Int32) (x1 : Int32) : zWk4 l m_M_moves 1 [.ref 81, .int x0, .int x1] M := by
  obtain ⟨h1, h14, h18, h60, h57, hIF, h83, h110, T, hT, hB⟩ := id h
  have hO := gTabs_ok T hT
  have hX := gTabs_ex T hT
  obtain ⟨D, hD⟩ := hX.2.2.2.2.2
  have hi := hIF.1
  have hC := c_M_moves l M hM x0.toInt (z32r x0).1 (z32r x0).2 x1.toInt (z32r x1).1 (z32r x1).2 T hO hB (by omega) (by omega)
  simp only [Int32.ofInt_toInt] at hC
  refine ⟨_, hC, ?_⟩
  rintro r N ⟨v, rfl, hv, hf, hp⟩
  exact ⟨⟨_, rfl, rfl, fun _ => rfl⟩, ⟨hf.old (by decide), hf.w hM, zWd.b h hf (by decide) (by decide) (by rw [hf.e (by decide)]; exact h1) (by rw [hf.e (by decide)]; exact h60) (by rw [hf.e (by decide)]; exact h57) (zB.fr hf h110 (by decide) (by decide)), (hf.e (by decide))⟩, fun j => hf.ie (by decide) (by decide) j⟩
theorem w_times (l : Launch) (M : zMem) (hM : zMt M) (h : zWd M) (x0 : Int32) (x1 : Int32) : zWk4 l m_M_times 1 [.ref 81, .int x0, .int x1] M := by
  obtain ⟨h1, h14, h18, h60, h57, hIF, h83, h110, T, hT, hB⟩ := id h
  have hO := gTabs_ok T hT
  have hX := gTabs_ex T hT
  obtain ⟨D, hD⟩ := hX.2.2.2.2.2
  have hi := hIF.1
  have hC := c_M_times l M hM x0.toInt (z32r x0).1 (z32r x0).2 x1.toInt (z32r x1).1 (z32r x1).2 T hO hB
  simp only [Int32.ofInt_toInt] at hC
  refine ⟨_, hC, ?_⟩
  rintro r N ⟨v, rfl, hv, hf, hp⟩
  exact ⟨⟨_, rfl, rfl, fun _ => rfl⟩, ⟨hf.old (by decide), hf.w hM, zWd.b h hf (by decide) (by decide) (by rw [hf.e (by decide)]; exact h1) (by rw [hf.e (by decide)]; exact h60) (by rw [hf.e (by decide)]; exact h57) (zB.fr hf h110 (by decide) (by decide)), (hf.e (by decide))⟩, fun j => hf.ie (by decide) (by decide) j⟩
theorem w_order (l : Launch) (M : zMem) (hM : zMt M) (h : zWd M) (x0 : Int32) : zWk4 l m_M_order 1 [.ref 81, .int x0] M := by
  obtain ⟨h1, h14, h18, h60, h57, hIF, h83, h110, T, hT, hB⟩ := id h
  have hO := gTabs_ok T hT
  have hX := gTabs_ex T hT
  obtain ⟨D, hD⟩ := hX.2.2.2.2.2
  have hi := hIF.1
  have hC := c_M_order l M hM x0.toInt (z32r x0).1 (z32r x0).2 T hO hX hB
  simp only [Int32.ofInt_toInt] at hC
  refine ⟨_, hC, ?_⟩
  rintro r N ⟨v, rfl, hv, hf, hp⟩
  exact ⟨⟨_, rfl, rfl, fun _ => rfl⟩, ⟨hf.old (by decide), hf.w hM, zWd.b h hf (by decide) (by decide) (by rw [hf.e (by decide)]; exact h1) (by rw [hf.e (by decide)]; exact h60) (by rw [hf.e (by decide)]; exact h57) (zB.fr hf h110 (by decide) (by decide)), (hf.e (by decide))⟩, fun j => hf.ie (by decide) (by decide) j⟩
theorem w_makesOf (l : Launch) (M : zMem) (hM : zMt M) (h : zWd M) (x0 : Int32) : zWk4 l m_M_makesOf 1 [.ref 81, .int x0] M := by
  obtain ⟨h1, h14, h18, h60, h57, hIF, h83, h110, T, hT, hB⟩ := id h
  have hO := gTabs_ok T hT
  have hX := gTabs_ex T hT
  obtain ⟨D, hD⟩ := hX.2.2.2.2.2
  have hi := hIF.1
  have hC := c_M_makesOf l M hM x0.toInt (z32r x0).1 (z32r x0).2 T hO hB
  simp only [Int32.ofInt_toInt] at hC
  refine ⟨_, hC, ?_⟩
  rintro r N ⟨v, rfl, hv, hf, hp⟩
  exact ⟨⟨_, rfl, rfl, fun _ => rfl⟩, ⟨hf.old (by decide), hf.w hM, zWd.b h hf (by decide) (by decide) (by rw [hf.e (by decide)]; exact h1) (by rw [hf.e (by decide)]; exact h60) (by rw [hf.e (by decide)]; exact h57) (zB.fr hf h110 (by decide) (by decide)), (hf.e (by decide))⟩, fun j => hf.ie (by decide) (by decide) j⟩
theorem w_sortOf (l : Launch) (M : zMem) (hM : zMt M) (h : zWd M) (x0 : Int32) : zWk4 l m_M_sortOf 1 [.ref 81, .int x0] M := by
  obtain ⟨h1, h14, h18, h60, h57, hIF, h83, h110, T, hT, hB⟩ := id h
  have hO := gTabs_ok T hT
  have hX := gTabs_ex T hT
  obtain ⟨D, hD⟩ := hX.2.2.2.2.2
  have hi := hIF.1
  have hC := c_M_sortOf l M hM x0.toInt (z32r x0).1 (z32r x0).2 T hO hB
  simp only [Int32.ofInt_toInt] at hC
  refine ⟨_, hC, ?_⟩
  rintro r N ⟨v, rfl, hv, hf, hp⟩
  exact ⟨⟨_, rfl, rfl, fun _ => rfl⟩, ⟨hf.old (by decide), hf.w hM, zWd.b h hf (by decide) (by decide) (by rw [hf.e (by decide)]; exact h1) (by rw [hf.e (by decide)]; exact h60) (by rw [hf.e (by decide)]; exact h57) (zB.fr hf h110 (by decide) (by decide)), (hf.e (by decide))⟩, fun j => hf.ie (by decide) (by decide) j⟩
theorem w_sort (l : Launch) (M : zMem) (hM : zMt M) (h : zWd M) (x0 : Int32) (x1 : Int32) : zWk4 l m_M_sort 1 [.ref 81, .int x0, .int x1] M := by
  obtain ⟨h1, h14, h18, h60, h57, hIF, h83, h110, T, hT, hB⟩ := id h
  have hO := gTabs_ok T hT
  have hX := gTabs_ex T hT
  obtain ⟨D, hD⟩ := hX.2.2.2.2.2
  have hi := hIF.1
  have hC := c_M_sort l M hM x0.toInt (z32r x0).1 (z32r x0).2 x1.toInt (z32r x1).1 (z32r x1).2 T hO hB
  simp only [Int32.ofInt_toInt] at hC
  refine ⟨_, hC, ?_⟩
  rintro r N ⟨v, rfl, hv, hf, hp⟩
  exact ⟨⟨_, rfl, rfl, fun _ => rfl⟩, ⟨hf.old (by decide), hf.w hM, zWd.b h hf (by decide) (by decide) (by rw [hf.e (by decide)]; exact h1) (by rw [hf.e (by decide)]; exact h60) (by rw [hf.e (by decide)]; exact h57) (zB.fr hf h110 (by decide) (by decide)), (hf.e (by decide))⟩, fun j => hf.ie (by decide) (by decide) j⟩
theorem w_within (l : Launch) (M : zMem) (hM : zMt M) (h : zWd M) (x0 : Int32) (x1 : Int32) : zWk4 l m_M_within 1 [.ref 81, .int x0, .int x1] M := by
  obtain ⟨h1, h14, h18, h60, h57, hIF, h83, h110, T, hT, hB⟩ := id h
  have hO := gTabs_ok T hT
  have hX := gTabs_ex T hT
  obtain ⟨D, hD⟩ := hX.2.2.2.2.2
  have hi := hIF.1
  have hC := c_M_within l M hM x0.toInt (z32r x0).1 (z32r x0).2 x1.toInt (z32r x1).1 (z32r x1).2 T hO hB
  simp only [Int32.ofInt_toInt] at hC
  refine ⟨_, hC, ?_⟩
  rintro r N ⟨v, rfl, hv, hf, hp⟩
  exact ⟨⟨_, rfl, rfl, fun _ => rfl⟩, ⟨hf.old (by decide), hf.w hM, zWd.b h hf (by decide) (by decide) (by rw [hf.e (by decide)]; exact h1) (by rw [hf.e (by decide)]; exact h60) (by rw [hf.e (by decide)]; exact h57) (zB.fr hf h110 (by decide) (by decide)), (hf.e (by decide))⟩, fun j => hf.ie (by decide) (by decide) j⟩
theorem w_mark (l : Launch) (M : zMem) (hM : zMt M) (h : zWd M) (x0 : Int32) (x1 : Int32) : zWk4 l m_M_mark 1 [.ref 81, .int x0, .int x1] M := by
  obtain ⟨h1, h14, h18, h60, h57, hIF, h83, h110, T, hT, hB⟩ := id h
  have hO := gTabs_ok T hT
  have hX := gTabs_ex T hT
  obtain ⟨D, hD⟩ := hX.2.2.2.2.2
  have hi := hIF.1
  have hC := c_M_mark l M hM x0.toInt (z32r x0).1 (z32r x0).2 x1.toInt (z32r x1).1 (z32r x1).2 T hO hB
  simp only [Int32.ofInt_toInt] at hC
  refine ⟨_, hC, ?_⟩
  rintro r N ⟨v, rfl, hv, hf, hp⟩
  exact ⟨⟨_, rfl, rfl, fun _ => rfl⟩, ⟨hf.old (by decide), hf.w hM, zWd.b h hf (by decide) (by decide) (by rw [hf.e (by decide)]; exact h1) (by rw [hf.e (by decide)]; exact h60) (by rw [hf.e (by decide)]; exact h57) (zB.fr hf h110 (by decide) (by decide)), (hf.e (by decide))⟩, fun j => hf.ie (by decide) (by decide) j⟩
theorem w_product (l : Launch) (M : zMem) (hM : zMt M) (h : zWd M) (x0 : Int32) (x1 : Int32) (x2 : Int32) : zWk4 l m_M_product 1 [.ref 81, .int x0, .int x1, .int x2] M := by
  obtain ⟨h1, h14, h18, h60, h57, hIF, h83, h110, T, hT, hB⟩ := id h
  have hO := gTabs_ok T hT
  have hX := gTabs_ex T hT
  obtain ⟨D, hD⟩ := hX.2.2.2.2.2
  have hi := hIF.1
  have hC := c_M_product l M hM x0.toInt (z32r x0).1 (z32r x0).2 x1.toInt (z32r x1).1 (z32r x1).2 x2.toInt (z32r x2).1 (z32r x2).2 T hO hB
  simp only [Int32.ofInt_toInt] at hC
  refine ⟨_, hC, ?_⟩
  rintro r N ⟨v, rfl, hv, hf, hp⟩
  exact ⟨⟨_, rfl, rfl, fun _ => rfl⟩, ⟨hf.old (by decide), hf.w hM, zWd.b h hf (by decide) (by decide) (by rw [hf.e (by decide)]; exact h1) (by rw [hf.e (by decide)]; exact h60) (by rw [hf.e (by decide)]; exact h57) (zB.fr hf h110 (by decide) (by decide)), (hf.e (by decide))⟩, fun j => hf.ie (by decide) (by decide) j⟩
theorem w_residue (l : Launch) (M : zMem) (hM : zMt M) (h : zWd M) (x0 : Int32) (x1 : Int32) : zWk4 l m_M_residue 1 [.ref 81, .int x0, .int x1] M := by
  obtain ⟨h1, h14, h18, h60, h57, hIF, h83, h110, T, hT, hB⟩ := id h
  have hO := gTabs_ok T hT
  have hX := gTabs_ex T hT
  obtain ⟨D, hD⟩ := hX.2.2.2.2.2
  have hi := hIF.1
  have hC := c_M_residue l M hM x0.toInt (z32r x0).1 (z32r x0).2 x1.toInt (z32r x1).1 (z32r x1).2 T hO hB
  simp only [Int32.ofInt_toInt] at hC
  refine ⟨_, hC, ?_⟩
  rintro r N ⟨v, rfl, hv, hf, hp⟩
  exact ⟨⟨_, rfl, rfl, fun _ => rfl⟩, ⟨hf.old (by decide), hf.w hM, zWd.b h hf (by decide) (by decide) (by rw [hf.e (by decide)]; exact h1) (by rw [hf.e (by decide)]; exact h60) (by rw [hf.e (by decide)]; exact h57) (zB.fr hf h110 (by decide) (by decide)), (hf.e (by decide))⟩, fun j => hf.ie (by decide) (by decide) j⟩
theorem w_block (l : Launch) (M : zMem) (hM : zMt M) (h : zWd M) (x0 : Int32) (x1 : Int32) : zWk4 l m_M_block 1 [.ref 81, .int x0, .int x1] M := by
  obtain ⟨h1, h14, h18, h60, h57, hIF, h83, h110, T, hT, hB⟩ := id h
  have hO := gTabs_ok T hT
  have hX := gTabs_ex T hT
  obtain ⟨D, hD⟩ := hX.2.2.2.2.2
  have hi := hIF.1
  have hC := c_M_block l M hM x0.toInt (z32r x0).1 (z32r x0).2 x1.toInt (z32r x1).1 (z32r x1).2 T hO hB
  simp only [Int32.ofInt_toInt] at hC
  refine ⟨_, hC, ?_⟩
  rintro r N ⟨v, rfl, hv, hf, hp⟩
  exact ⟨⟨_, rfl, rfl, fun _ => rfl⟩, ⟨hf.old (by decide), hf.w hM, zWd.b h hf (by decide) (by decide) (by rw [hf.e (by decide)]; exact h1) (by rw [hf.e (by decide)]; exact h60) (by rw [hf.e (by decide)]; exact h57) (zB.fr hf h110 (by decide) (by decide)), (hf.e (by decide))⟩, fun j => hf.ie (by decide) (by decide) j⟩
theorem w_keeper (l : Launch) (M : zMem) (hM : zMt M) (h : zWd M) (x0 : Int32) : zWk4 l m_M_keeper 1 [.ref 81, .int x0] M := by
  obtain ⟨h1, h14, h18, h60, h57, hIF, h83, h110, T, hT, hB⟩ := id h
  have hO := gTabs_ok T hT
  have hX := gTabs_ex T hT
  obtain ⟨D, hD⟩ := hX.2.2.2.2.2
  have hi := hIF.1
  have hC := c_M_keeper l M hM x0.toInt (z32r x0).1 (z32r x0).2 T hO hB (by omega) (by omega)
  simp only [Int32.ofInt_toInt] at hC
  refine ⟨_, hC, ?_⟩
  rintro r N ⟨v, rfl, hv, hf, hp⟩
  exact ⟨⟨_, rfl, rfl, fun _ => rfl⟩, ⟨hf.old (by decide), hf.w hM, zWd.b h hf (by decide) (by decide) (by rw [hf.e (by decide)]; exact h1) (by rw [hf.e (by decide)]; exact h60) (by rw [hf.e (by decide)]; exact h57) (zB.fr hf h110 (by decide) (by decide)), (hf.e (by decide))⟩, fun j => hf.ie (by decide) (by decide) j⟩
theorem w_orbit (l : Launch) (M : zMem) (hM : zMt M) (h : zWd M) (x0 : Int32) : zWk4 l m_M_orbit 1 [.ref 81, .int x0] M := by
  obtain ⟨h1, h14, h18, h60, h57, hIF, h83, h110, T, hT, hB⟩ := id h
  have hO := gTabs_ok T hT
  have hX := gTabs_ex T hT
  obtain ⟨D, hD⟩ := hX.2.2.2.2.2
  have hi := hIF.1
  have hC := c_M_orbit l M hM x0.toInt (z32r x0).1 (z32r x0).2 T hO hB (by omega) (by omega)
  simp only [Int32.ofInt_toInt] at hC
  refine ⟨_, hC, ?_⟩
  rintro r N ⟨v, rfl, hv, hf, hp⟩
  exact ⟨⟨_, rfl, rfl, fun _ => rfl⟩, ⟨hf.old (by decide), hf.w hM, zWd.b h hf (by decide) (by decide) (by rw [hf.e (by decide)]; exact h1) (by rw [hf.e (by decide)]; exact h60) (by rw [hf.e (by decide)]; exact h57) (zB.fr hf h110 (by decide) (by decide)), (hf.e (by decide))⟩, fun j => hf.ie (by decide) (by decide) j⟩
theorem w_coset (l : Launch) (M : zMem) (hM : zMt M) (h : zWd M) (x0 : Int32) (x1 : Int32) : zWk4 l m_M_coset 1 [.ref 81, .int x0, .int x1] M := by
  obtain ⟨h1, h14, h18, h60, h57, hIF, h83, h110, T, hT, hB⟩ := id h
  have hO := gTabs_ok T hT
  have hX := gTabs_ex T hT
  obtain ⟨D, hD⟩ := hX.2.2.2.2.2
  have hi := hIF.1
  have hC := c_M_coset l M hM x0.toInt (z32r x0).1 (z32r x0).2 x1.toInt (z32r x1).1 (z32r x1).2 T hO hB
  simp only [Int32.ofInt_toInt] at hC
  refine ⟨_, hC, ?_⟩
  rintro r N ⟨v, rfl, hv, hf, hp⟩
  exact ⟨⟨_, rfl, rfl, fun _ => rfl⟩, ⟨hf.old (by decide), hf.w hM, zWd.b h hf (by decide) (by decide) (by rw [hf.e (by decide)]; exact h1) (by rw [hf.e (by decide)]; exact h60) (by rw [hf.e (by decide)]; exact h57) (zB.fr hf h110 (by decide) (by decide)), (hf.e (by decide))⟩, fun j => hf.ie (by decide) (by decide) j⟩
theorem w_takes (l : Launch) (M : zMem) (hM : zMt M) (h : zWd M) (x0 : Int32) (x1 : Int32) (x2 : Int32) : zWk4 l m_M_takes 1 [.ref 81, .int x0, .int x1, .int x2] M := by
  obtain ⟨h1, h14, h18, h60, h57, hIF, h83, h110, T, hT, hB⟩ := id h
  have hO := gTabs_ok T hT
  have hX := gTabs_ex T hT
  obtain ⟨D, hD⟩ := hX.2.2.2.2.2
  have hi := hIF.1
  have hC := c_M_takes l M hM x0.toInt (z32r x0).1 (z32r x0).2 x1.toInt (z32r x1).1 (z32r x1).2 x2.toInt (z32r x2).1 (z32r x2).2 T hO hB
  simp only [Int32.ofInt_toInt] at hC
  refine ⟨_, hC, ?_⟩
  rintro r N ⟨v, rfl, hv, hf, hp⟩
  exact ⟨⟨_, rfl, rfl, fun _ => rfl⟩, ⟨hf.old (by decide), hf.w hM, zWd.b h hf (by decide) (by decide) (by rw [hf.e (by decide)]; exact h1) (by rw [hf.e (by decide)]; exact h60) (by rw [hf.e (by decide)]; exact h57) (zB.fr hf h110 (by decide) (by decide)), (hf.e (by decide))⟩, fun j => hf.ie (by decide) (by decide) j⟩
theorem w_moebius (l : Launch) (M : zMem) (hM : zMt M) (h : zWd M) (x0 : Int32) : zWk4 l m_M_moebius 1 [.ref 81, .int x0] M := by
  obtain ⟨h1, h14, h18, h60, h57, hIF, h83, h110, T, hT, hB⟩ := id h
  have hO := gTabs_ok T hT
  have hX := gTabs_ex T hT
  obtain ⟨D, hD⟩ := hX.2.2.2.2.2
  have hi := hIF.1
  have hC := c_M_moebius l M hM x0.toInt (z32r x0).1 (z32r x0).2 T hO hB
  simp only [Int32.ofInt_toInt] at hC
  refine ⟨_, hC, ?_⟩
  rintro r N ⟨v, rfl, hv, hf, hp⟩
  exact ⟨⟨_, rfl, rfl, fun _ => rfl⟩, ⟨hf.old (by decide), hf.w hM, zWd.b h hf (by decide) (by decide) (by rw [hf.e (by decide)]; exact h1) (by rw [hf.e (by decide)]; exact h60) (by rw [hf.e (by decide)]; exact h57) (zB.fr hf h110 (by decide) (by decide)), (hf.e (by decide))⟩, fun j => hf.ie (by decide) (by decide) j⟩
theorem w_mixed (l : Launch) (M : zMem) (hM : zMt M) (h : zWd M) (x0 : Int32) : zWk4 l m_M_mixed 1 [.ref 81, .int x0] M := by
  obtain ⟨h1, h14, h18, h60, h57, hIF, h83, h110, T, hT, hB⟩ := id h
  have hO := gTabs_ok T hT
  have hX := gTabs_ex T hT
  obtain ⟨D, hD⟩ := hX.2.2.2.2.2
  have hi := hIF.1
  have hC := c_M_mixed l M hM x0.toInt (z32r x0).1 (z32r x0).2 T hO hB
  simp only [Int32.ofInt_toInt] at hC
  refine ⟨_, hC, ?_⟩
  rintro r N ⟨v, rfl, hv, hf, hp⟩
  exact ⟨⟨_, rfl, rfl, fun _ => rfl⟩, ⟨hf.old (by decide), hf.w hM, zWd.b h hf (by decide) (by decide) (by rw [hf.e (by decide)]; exact h1) (by rw [hf.e (by decide)]; exact h60) (by rw [hf.e (by decide)]; exact h57) (zB.fr hf h110 (by decide) (by decide)), (hf.e (by decide))⟩, fun j => hf.ie (by decide) (by decide) j⟩
theorem w_centre (l : Launch) (M : zMem) (hM : zMt M) (h : zWd M) (x0 : Int32) : zWk4 l m_M_centre 1 [.ref 81, .int x0] M := by
  obtain ⟨h1, h14, h18, h60, h57, hIF, h83, h110, T, hT, hB⟩ := id h
  have hO := gTabs_ok T hT
  have hX := gTabs_ex T hT
  obtain ⟨D, hD⟩ := hX.2.2.2.2.2
  have hi := hIF.1
  have hC := c_M_centre l M hM x0.toInt (z32r x0).1 (z32r x0).2 T hO hB
  simp only [Int32.ofInt_toInt] at hC
  refine ⟨_, hC, ?_⟩
  rintro r N ⟨v, rfl, hv, hf, hp⟩
  exact ⟨⟨_, rfl, rfl, fun _ => rfl⟩, ⟨hf.old (by decide), hf.w hM, zWd.b h hf (by decide) (by decide) (by rw [hf.e (by decide)]; exact h1) (by rw [hf.e (by decide)]; exact h60) (by rw [hf.e (by decide)]; exact h57) (zB.fr hf h110 (by decide) (by decide)), (hf.e (by decide))⟩, fun j => hf.ie (by decide) (by decide) j⟩
theorem w_pairs (l : Launch) (M : zMem) (hM : zMt M) (h : zWd M) (x0 : Int32) (x1 : Int32) : zWk4 l m_M_pairs 1 [.ref 81, .int x0, .int x1] M := by
  obtain ⟨h1, h14, h18, h60, h57, hIF, h83, h110, T, hT, hB⟩ := id h
  have hO := gTabs_ok T hT
  have hX := gTabs_ex T hT
  obtain ⟨D, hD⟩ := hX.2.2.2.2.2
  have hi := hIF.1
  have hC := c_M_pairs l M hM x0.toInt (z32r x0).1 (z32r x0).2 x1.toInt (z32r x1).1 (z32r x1).2 T hO hB
  simp only [Int32.ofInt_toInt] at hC
  refine ⟨_, hC, ?_⟩
  rintro r N ⟨v, rfl, hv, hf, hp⟩
  exact ⟨⟨_, rfl, rfl, fun _ => rfl⟩, ⟨hf.old (by decide), hf.w hM, zWd.b h hf (by decide) (by decide) (by rw [hf.e (by decide)]; exact h1) (by rw [hf.e (by decide)]; exact h60) (by rw [hf.e (by decide)]; exact h57) (zB.fr hf h110 (by decide) (by decide)), (hf.e (by decide))⟩, fun j => hf.ie (by decide) (by decide) j⟩
theorem w_alike (l : Launch) (M : zMem) (hM : zMt M) (h : zWd M) : zWk4 l m_M_alike 1 [.ref 81] M := by
  obtain ⟨h1, h14, h18, h60, h57, hIF, h83, h110, T, hT, hB⟩ := id h
  have hO := gTabs_ok T hT
  have hX := gTabs_ex T hT
  obtain ⟨D, hD⟩ := hX.2.2.2.2.2
  have hi := hIF.1
  have hC := c_M_alike l M hM  T hO hB
  refine ⟨_, hC, ?_⟩
  rintro r N ⟨v, rfl, hv, hf, hp⟩
  exact ⟨⟨_, rfl, rfl, fun _ => rfl⟩, ⟨hf.old (by decide), hf.w hM, zWd.b h hf (by decide) (by decide) (by rw [hf.e (by decide)]; exact h1) (by rw [hf.e (by decide)]; exact h60) (by rw [hf.e (by decide)]; exact h57) (zB.fr hf h110 (by decide) (by decide)), (hf.e (by decide))⟩, fun j => hf.ie (by decide) (by decide) j⟩
theorem w_meet (l : Launch) (M : zMem) (hM : zMt M) (h : zWd M) (x0 : Int32) (x1 : Int32) : zWk4 l m_M_meet 1 [.ref 81, .int x0, .int x1] M := by
  obtain ⟨h1, h14, h18, h60, h57, hIF, h83, h110, T, hT, hB⟩ := id h
  have hO := gTabs_ok T hT
  have hX := gTabs_ex T hT
  obtain ⟨D, hD⟩ := hX.2.2.2.2.2
  have hi := hIF.1
  have hC := c_M_meet l M hM x0.toInt (z32r x0).1 (z32r x0).2 x1.toInt (z32r x1).1 (z32r x1).2 T hO hB
  simp only [Int32.ofInt_toInt] at hC
  refine ⟨_, hC, ?_⟩
  rintro r N ⟨v, rfl, hv, hf, hp⟩
  exact ⟨⟨_, rfl, rfl, fun _ => rfl⟩, ⟨hf.old (by decide), hf.w hM, zWd.b h hf (by decide) (by decide) (by rw [hf.e (by decide)]; exact h1) (by rw [hf.e (by decide)]; exact h60) (by rw [hf.e (by decide)]; exact h57) (zB.fr hf h110 (by decide) (by decide)), (hf.e (by decide))⟩, fun j => hf.ie (by decide) (by decide) j⟩
theorem w_join (l : Launch) (M : zMem) (hM : zMt M) (h : zWd M) (x0 : Int32) (x1 : Int32) : zWk4 l m_M_join 1 [.ref 81, .int x0, .int x1] M := by
  obtain ⟨h1, h14, h18, h60, h57, hIF, h83, h110, T, hT, hB⟩ := id h
  have hO := gTabs_ok T hT
  have hX := gTabs_ex T hT
  obtain ⟨D, hD⟩ := hX.2.2.2.2.2
  have hi := hIF.1
  have hC := c_M_join l M hM x0.toInt (z32r x0).1 (z32r x0).2 x1.toInt (z32r x1).1 (z32r x1).2 T hO hB
  simp only [Int32.ofInt_toInt] at hC
  refine ⟨_, hC, ?_⟩
  rintro r N ⟨v, rfl, hv, hf, hp⟩
  exact ⟨⟨_, rfl, rfl, fun _ => rfl⟩, ⟨hf.old (by decide), hf.w hM, zWd.b h hf (by decide) (by decide) (by rw [hf.e (by decide)]; exact h1) (by rw [hf.e (by decide)]; exact h60) (by rw [hf.e (by decide)]; exact h57) (zB.fr hf h110 (by decide) (by decide)), (hf.e (by decide))⟩, fun j => hf.ie (by decide) (by decide) j⟩
theorem w_orders (l : Launch) (M : zMem) (hM : zMt M) (h : zWd M) (x0 : Int32) : zWk4 l m_M_orders 1 [.ref 81, .int x0] M := by
  obtain ⟨h1, h14, h18, h60, h57, hIF, h83, h110, T, hT, hB⟩ := id h
  have hO := gTabs_ok T hT
  have hX := gTabs_ex T hT
  obtain ⟨D, hD⟩ := hX.2.2.2.2.2
  have hi := hIF.1
  have hC := c_M_orders l M hM x0.toInt (z32r x0).1 (z32r x0).2 T hO hX hB
  simp only [Int32.ofInt_toInt] at hC
  refine ⟨_, hC, ?_⟩
  rintro r N ⟨v, rfl, hv, hf, hp⟩
  exact ⟨⟨_, rfl, rfl, fun _ => rfl⟩, ⟨hf.old (by decide), hf.w hM, zWd.b h hf (by decide) (by decide) (by rw [hf.e (by decide)]; exact h1) (by rw [hf.e (by decide)]; exact h60) (by rw [hf.e (by decide)]; exact h57) (zB.fr hf h110 (by decide) (by decide)), (hf.e (by decide))⟩, fun j => hf.ie (by decide) (by decide) j⟩
theorem w_likes (l : Launch) (M : zMem) (hM : zMt M) (h : zWd M) (x0 : Int32) : zWk4 l m_M_likes 1 [.ref 81, .int x0] M := by
  obtain ⟨h1, h14, h18, h60, h57, hIF, h83, h110, T, hT, hB⟩ := id h
  have hO := gTabs_ok T hT
  have hX := gTabs_ex T hT
  obtain ⟨D, hD⟩ := hX.2.2.2.2.2
  have hi := hIF.1
  have hC := c_M_likes l M hM x0.toInt (z32r x0).1 (z32r x0).2 T hO hB
  simp only [Int32.ofInt_toInt] at hC
  refine ⟨_, hC, ?_⟩
  rintro r N ⟨v, rfl, hv, hf, hp⟩
  exact ⟨⟨_, rfl, rfl, fun _ => rfl⟩, ⟨hf.old (by decide), hf.w hM, zWd.b h hf (by decide) (by decide) (by rw [hf.e (by decide)]; exact h1) (by rw [hf.e (by decide)]; exact h60) (by rw [hf.e (by decide)]; exact h57) (zB.fr hf h110 (by decide) (by decide)), (hf.e (by decide))⟩, fun j => hf.ie (by decide) (by decide) j⟩
theorem w_peak (l : Launch) (M : zMem) (hM : zMt M) (h : zWd M) (x0 : Int32) (x1 : Int32) (x2 : Int32) : zWk4 l m_M_peak 1 [.ref 81, .int x0, .int x1, .int x2] M := by
  obtain ⟨h1, h14, h18, h60, h57, hIF, h83, h110, T, hT, hB⟩ := id h
  have hO := gTabs_ok T hT
  have hX := gTabs_ex T hT
  obtain ⟨D, hD⟩ := hX.2.2.2.2.2
  have hi := hIF.1
  have hC := c_M_peak l M hM x0.toInt (z32r x0).1 (z32r x0).2 x1.toInt (z32r x1).1 (z32r x1).2 x2.toInt (z32r x2).1 (z32r x2).2 T hO D hD hB
  simp only [Int32.ofInt_toInt] at hC
  refine ⟨_, hC, ?_⟩
  rintro r N ⟨v, rfl, hv, hf, hp⟩
  exact ⟨⟨_, rfl, rfl, fun _ => rfl⟩, ⟨hf.old (by decide), hf.w hM, zWd.b h hf (by decide) (by decide) (by rw [hf.e (by decide)]; exact h1) (by rw [hf.e (by decide)]; exact h60) (by rw [hf.e (by decide)]; exact h57) (zB.fr hf h110 (by decide) (by decide)), (hf.e (by decide))⟩, fun j => hf.ie (by decide) (by decide) j⟩
theorem w_local (l : Launch) (M : zMem) (hM : zMt M) (h : zWd M) (x0 : Int32) (x1 : Int32) (x2 : Int32) (x3 : Int32) : zWk4 l m_M_local 1 [.ref 81, .int x0, .int x1, .int x2, .int x3] M := by
  obtain ⟨h1, h14, h18, h60, h57, hIF, h83, h110, T, hT, hB⟩ := id h
  have hO := gTabs_ok T hT
  have hX := gTabs_ex T hT
  obtain ⟨D, hD⟩ := hX.2.2.2.2.2
  have hi := hIF.1
  have hC := c_M_local l M hM x0.toInt (z32r x0).1 (z32r x0).2 x1.toInt (z32r x1).1 (z32r x1).2 x2.toInt (z32r x2).1 (z32r x2).2 x3.toInt (z32r x3).1 (z32r x3).2 T hO D hD hB
  simp only [Int32.ofInt_toInt] at hC
  refine ⟨_, hC, ?_⟩
  rintro r N ⟨v, rfl, hv, hf, hp⟩
  exact ⟨⟨_, rfl, rfl, fun _ => rfl⟩, ⟨hf.old (by decide), hf.w hM, zWd.b h hf (by decide) (by decide) (by rw [hf.e (by decide)]; exact h1) (by rw [hf.e (by decide)]; exact h60) (by rw [hf.e (by decide)]; exact h57) (zB.fr hf h110 (by decide) (by decide)), (hf.e (by decide))⟩, fun j => hf.ie (by decide) (by decide) j⟩
theorem w_units (l : Launch) (M : zMem) (hM : zMt M) (h : zWd M) : zWk4 l m_M_units 1 [.ref 81] M := by
  obtain ⟨h1, h14, h18, h60, h57, hIF, h83, h110, T, hT, hB⟩ := id h
  have hO := gTabs_ok T hT
  have hX := gTabs_ex T hT
  obtain ⟨D, hD⟩ := hX.2.2.2.2.2
  have hi := hIF.1
  have hC := c_M_units l M hM  T hO hX hB h110 (by omega) (by omega)
  refine ⟨_, hC, ?_⟩
  rintro r N ⟨v, rfl, hv, hf, hp⟩
  exact ⟨⟨_, rfl, rfl, fun _ => rfl⟩, ⟨hf.old (by decide), hf.w hM, zWd.b h hf (by decide) (by decide) (by rw [hf.e (by decide)]; exact h1) (by rw [hf.e (by decide)]; exact h60) ⟨by omega, by omega⟩ hp.1, (hf.e (by decide))⟩, fun j => hf.ie (by decide) (by decide) j⟩
theorem w_unit (l : Launch) (M : zMem) (hM : zMt M) (h : zWd M) (x0 : Int32) (x1 : Int32) : zWk4 l m_M_unit 1 [.ref 81, .int x0, .int x1] M := by
  obtain ⟨h1, h14, h18, h60, h57, hIF, h83, h110, T, hT, hB⟩ := id h
  have hO := gTabs_ok T hT
  have hX := gTabs_ex T hT
  obtain ⟨D, hD⟩ := hX.2.2.2.2.2
  have hi := hIF.1
  have hC := c_M_unit l M hM x0.toInt (z32r x0).1 (z32r x0).2 x1.toInt (z32r x1).1 (z32r x1).2 T hO hX hB h110 (by omega) (by omega)
  simp only [Int32.ofInt_toInt] at hC
  refine ⟨_, hC, ?_⟩
  rintro r N ⟨v, rfl, hv, hf, hp⟩
  exact ⟨⟨_, rfl, rfl, fun _ => rfl⟩, ⟨hf.old (by decide), hf.w hM, zWd.b h hf (by decide) (by decide) (by rw [hf.e (by decide)]; exact h1) (by rw [hf.e (by decide)]; exact h60) ⟨by omega, by omega⟩ hp.1, (hf.e (by decide))⟩, fun j => hf.ie (by decide) (by decide) j⟩
theorem w_named (l : Launch) (M : zMem) (hM : zMt M) (h : zWd M) (x0 : Int32) (x1 : Int32) : zWk4 l m_M_named 2 [.ref 81, .int x0, .int x1] M := by
  obtain ⟨h1, h14, h18, h60, h57, hIF, h83, h110, T, hT, hB⟩ := id h
  have hO := gTabs_ok T hT
  have hX := gTabs_ex T hT
  obtain ⟨D, hD⟩ := hX.2.2.2.2.2
  have hi := hIF.1
  have hC := c_M_named l M hM x0.toInt (z32r x0).1 (z32r x0).2 x1.toInt (z32r x1).1 (z32r x1).2 T hO hB (by omega) (by omega)
  simp only [Int32.ofInt_toInt] at hC
  refine ⟨_, hC, ?_⟩
  rintro r N ⟨v, rfl, hv, hf, hp⟩
  exact ⟨⟨_, rfl, rfl, fun _ => rfl⟩, ⟨hf.old (by decide), hf.w hM, zWd.b h hf (by decide) (by decide) (by rw [hf.e (by decide)]; exact h1) (by rw [hf.e (by decide)]; exact h60) (by rw [hf.e (by decide)]; exact h57) (zB.fr hf h110 (by decide) (by decide)), (hf.e (by decide))⟩, fun j => hf.ie (by decide) (by decide) j⟩
theorem w_has (l : Launch) (M : zMem) (hM : zMt M) (h : zWd M) (x0 : Int32) : zWk4 l m_M_has 2 [.ref 81, .int x0] M := by
  obtain ⟨h1, h14, h18, h60, h57, hIF, h83, h110, T, hT, hB⟩ := id h
  have hO := gTabs_ok T hT
  have hX := gTabs_ex T hT
  obtain ⟨D, hD⟩ := hX.2.2.2.2.2
  have hi := hIF.1
  have hC := c_M_has l M hM x0.toInt (z32r x0).1 (z32r x0).2 T hO hB
  simp only [Int32.ofInt_toInt] at hC
  refine ⟨_, hC, ?_⟩
  rintro r N ⟨v, rfl, hv, hf, hp⟩
  exact ⟨⟨_, rfl, rfl, fun _ => rfl⟩, ⟨hf.old (by decide), hf.w hM, zWd.b h hf (by decide) (by decide) (by rw [hf.e (by decide)]; exact h1) (by rw [hf.e (by decide)]; exact h60) (by rw [hf.e (by decide)]; exact h57) (zB.fr hf h110 (by decide) (by decide)), (hf.e (by decide))⟩, fun j => hf.ie (by decide) (by decide) j⟩
theorem w_marked (l : Launch) (M : zMem) (hM : zMt M) (h : zWd M) (x0 : Int32) : zWk4 l m_M_marked 2 [.ref 81, .int x0] M := by
  obtain ⟨h1, h14, h18, h60, h57, hIF, h83, h110, T, hT, hB⟩ := id h
  have hO := gTabs_ok T hT
  have hX := gTabs_ex T hT
  obtain ⟨D, hD⟩ := hX.2.2.2.2.2
  have hi := hIF.1
  have hC := c_M_marked l M hM x0.toInt (z32r x0).1 (z32r x0).2 T hO hB
  simp only [Int32.ofInt_toInt] at hC
  refine ⟨_, hC, ?_⟩
  rintro r N ⟨v, rfl, hv, hf, hp⟩
  exact ⟨⟨_, rfl, rfl, fun _ => rfl⟩, ⟨hf.old (by decide), hf.w hM, zWd.b h hf (by decide) (by decide) (by rw [hf.e (by decide)]; exact h1) (by rw [hf.e (by decide)]; exact h60) (by rw [hf.e (by decide)]; exact h57) (zB.fr hf h110 (by decide) (by decide)), (hf.e (by decide))⟩, fun j => hf.ie (by decide) (by decide) j⟩
theorem w_character (l : Launch) (M : zMem) (hM : zMt M) (h : zWd M) (x0 : Int32) : zWk4 l m_M_character 2 [.ref 81, .int x0] M := by
  obtain ⟨h1, h14, h18, h60, h57, hIF, h83, h110, T, hT, hB⟩ := id h
  have hO := gTabs_ok T hT
  have hX := gTabs_ex T hT
  obtain ⟨D, hD⟩ := hX.2.2.2.2.2
  have hi := hIF.1
  have hC := c_M_character l M hM x0.toInt (z32r x0).1 (z32r x0).2 T hO hB
  simp only [Int32.ofInt_toInt] at hC
  refine ⟨_, hC, ?_⟩
  rintro r N ⟨v, rfl, hv, hf, hp⟩
  exact ⟨⟨_, rfl, rfl, fun _ => rfl⟩, ⟨hf.old (by decide), hf.w hM, zWd.b h hf (by decide) (by decide) (by rw [hf.e (by decide)]; exact h1) (by rw [hf.e (by decide)]; exact h60) (by rw [hf.e (by decide)]; exact h57) (zB.fr hf h110 (by decide) (by decide)), (hf.e (by decide))⟩, fun j => hf.ie (by decide) (by decide) j⟩
theorem w_parts (l : Launch) (M : zMem) (hM : zMt M) (h : zWd M) : zWk4 l m_M_parts 1 [.ref 81] M := by
  obtain ⟨h1, h14, h18, h60, h57, hIF, h83, h110, T, hT, hB⟩ := id h
  have hO := gTabs_ok T hT
  have hX := gTabs_ex T hT
  obtain ⟨D, hD⟩ := hX.2.2.2.2.2
  have hi := hIF.1
  have hC := c_M_parts l M hM  T hO hB
  refine ⟨_, hC, ?_⟩
  rintro r N ⟨v, rfl, hv, hf, hp⟩
  exact ⟨⟨_, rfl, rfl, fun _ => rfl⟩, ⟨hf.old (by decide), hf.w hM, zWd.b h hf (by decide) (by decide) (by rw [hf.e (by decide)]; exact h1) (by rw [hf.e (by decide)]; exact h60) (by rw [hf.e (by decide)]; exact h57) (zB.fr hf h110 (by decide) (by decide)), (hf.e (by decide))⟩, fun j => hf.ie (by decide) (by decide) j⟩
theorem w_congruence (l : Launch) (M : zMem) (hM : zMt M) (h : zWd M) (x0 : Int32) : zWk4 l m_M_congruence 2 [.ref 81, .int x0] M := by
  obtain ⟨h1, h14, h18, h60, h57, hIF, h83, h110, T, hT, hB⟩ := id h
  have hO := gTabs_ok T hT
  have hX := gTabs_ex T hT
  obtain ⟨D, hD⟩ := hX.2.2.2.2.2
  have hi := hIF.1
  have hC := c_M_congruence l M hM x0.toInt (z32r x0).1 (z32r x0).2 T hO hX hB
  simp only [Int32.ofInt_toInt] at hC
  refine ⟨_, hC, ?_⟩
  rintro r N ⟨v, rfl, hv, hf, hp⟩
  exact ⟨⟨_, rfl, rfl, fun _ => rfl⟩, ⟨hf.old (by decide), hf.w hM, zWd.b h hf (by decide) (by decide) (by rw [hf.e (by decide)]; exact h1) (by rw [hf.e (by decide)]; exact h60) (by rw [hf.e (by decide)]; exact h57) (zB.fr hf h110 (by decide) (by decide)), (hf.e (by decide))⟩, fun j => hf.ie (by decide) (by decide) j⟩
theorem w_is (l : Launch) (M : zMem) (hM : zMt M) (h : zWd M) (x0 : Int32) : zWk4 l m_M_is 1 [.ref 81, .int x0] M := by
  obtain ⟨h1, h14, h18, h60, h57, hIF, h83, h110, T, hT, hB⟩ := id h
  have hO := gTabs_ok T hT
  have hX := gTabs_ex T hT
  obtain ⟨D, hD⟩ := hX.2.2.2.2.2
  have hi := hIF.1
  have hC := c_M_is l M hM x0.toInt (z32r x0).1 (z32r x0).2 T hO hB
  simp only [Int32.ofInt_toInt] at hC
  refine ⟨_, hC, ?_⟩
  rintro r N ⟨v, rfl, hv, hf, hp⟩
  exact ⟨⟨_, rfl, rfl, fun _ => rfl⟩, ⟨hf.old (by decide), hf.w hM, zWd.b h hf (by decide) (by decide) (by rw [hf.e (by decide)]; exact h1) (by rw [hf.e (by decide)]; exact h60) (by rw [hf.e (by decide)]; exact h57) (zB.fr hf h110 (by decide) (by decide)), (hf.e (by decide))⟩, fun j => hf.ie (by decide) (by decide) j⟩
theorem w_makes (l : Launch) (M : zMem) (hM : zMt M) (h : zWd M) : zWk l m_M_makes 1 [.ref 81] M 0 := by
  obtain ⟨h1, h14, h18, h60, h57, hIF, h83, h110, T, hT, hB⟩ := id h
  have hO := gTabs_ok T hT
  have hX := gTabs_ex T hT
  obtain ⟨D, hD⟩ := hX.2.2.2.2.2
  have hi := hIF.1
  have hC := c_M_makes l M hM  T hO hB (by omega) (by omega) (by omega) (by omega) (by omega) (by omega)
  refine ⟨_, hC, ?_⟩
  rintro r N ⟨v, rfl, hv, hf, hp⟩
  exact ⟨⟨_, rfl, rfl, fun _ => rfl⟩, hf.old (by decide), hf.w hM, zWd.b h hf (by decide) (by decide) ⟨by omega, by omega⟩ ⟨by omega, by omega⟩ (by rw [hf.e (by decide)]; exact h57) (zB.fr hf h110 (by decide) (by decide)), (by omega)⟩
theorem w_take (l : Launch) (M : zMem) (hM : zMt M) (h : zWd M) (x0 : Int32) (x1 : Int32) : zWk4 l m_M_take 1 [.ref 81, .int x0, .int x1] M := by
  obtain ⟨h1, h14, h18, h60, h57, hIF, h83, h110, T, hT, hB⟩ := id h
  have hO := gTabs_ok T hT
  have hX := gTabs_ex T hT
  obtain ⟨D, hD⟩ := hX.2.2.2.2.2
  have hi := hIF.1
  have hC := c_M_take l M hM x0.toInt (z32r x0).1 (z32r x0).2 x1.toInt (z32r x1).1 (z32r x1).2 T hO hB (by omega) (by omega) (by omega) (by omega)
  simp only [Int32.ofInt_toInt] at hC
  refine ⟨_, hC, ?_⟩
  rintro r N ⟨v, rfl, hv, hf, hp⟩
  exact ⟨⟨_, rfl, rfl, fun _ => rfl⟩, ⟨hf.old (by decide), hf.w hM, zWd.b h hf (by decide) (by decide) (by rw [hf.e (by decide)]; exact h1) ⟨by omega, by omega⟩ (by rw [hf.e (by decide)]; exact h57) (zB.fr hf h110 (by decide) (by decide)), (hf.e (by decide))⟩, fun j => hf.ie (by decide) (by decide) j⟩
theorem w_marks (l : Launch) (M : zMem) (hM : zMt M) (h : zWd M) : zWk l m_M_marks 1 [.ref 81] M 0 := by
  obtain ⟨h1, h14, h18, h60, h57, hIF, h83, h110, T, hT, hB⟩ := id h
  have hO := gTabs_ok T hT
  have hX := gTabs_ex T hT
  obtain ⟨D, hD⟩ := hX.2.2.2.2.2
  have hi := hIF.1
  have hC := c_M_marks l M hM  T hO hX hB (by omega) (by omega) (by omega) (by omega)
  refine ⟨_, hC, ?_⟩
  rintro r N ⟨v, rfl, hv, hf, hp⟩
  exact ⟨⟨_, rfl, rfl, fun _ => rfl⟩, hf.old (by decide), hf.w hM, zWd.b h hf (by decide) (by decide) ⟨by omega, by omega⟩ ⟨by omega, by omega⟩ (by rw [hf.e (by decide)]; exact h57) (zB.fr hf h110 (by decide) (by decide)), (by omega)⟩
theorem w_uses (l : Launch) (M : zMem) (hM : zMt M) (h : zWd M) (x0 : Int32) : zWk4 l m_M_uses 1 [.ref 81, .int x0] M := by
  obtain ⟨h1, h14, h18, h60, h57, hIF, h83, h110, T, hT, hB⟩ := id h
  have hO := gTabs_ok T hT
  have hX := gTabs_ex T hT
  obtain ⟨D, hD⟩ := hX.2.2.2.2.2
  have hi := hIF.1
  have hC := c_M_uses l M hM x0.toInt (z32r x0).1 (z32r x0).2 T hO hB (by omega) (by omega) (by omega) (by omega)
  simp only [Int32.ofInt_toInt] at hC
  refine ⟨_, hC, ?_⟩
  rintro r N ⟨v, rfl, hv, hf, hp⟩
  exact ⟨⟨_, rfl, rfl, fun _ => rfl⟩, ⟨hf.old (by decide), hf.w hM, zWd.b h hf (by decide) (by decide) (by rw [hf.e (by decide)]; exact h1) ⟨by omega, by omega⟩ (by rw [hf.e (by decide)]; exact h57) (zB.fr hf h110 (by decide) (by decide)), (hf.e (by decide))⟩, fun j => hf.ie (by decide) (by decide) j⟩
theorem w_grows (l : Launch) (M : zMem) (hM : zMt M) (h : zWd M) (x0 : Int32) (x1 : Int32) (x2 : Int32) : zWk4 l m_M_grows 2 [.ref 81, .int x0, .int x1, .int x2] M := by
  obtain ⟨h1, h14, h18, h60, h57, hIF, h83, h110, T, hT, hB⟩ := id h
  have hO := gTabs_ok T hT
  have hX := gTabs_ex T hT
  obtain ⟨D, hD⟩ := hX.2.2.2.2.2
  have hi := hIF.1
  have hC := c_M_grows l M hM x0.toInt (z32r x0).1 (z32r x0).2 x1.toInt (z32r x1).1 (z32r x1).2 x2.toInt (z32r x2).1 (z32r x2).2 T hO hB (by omega) (by omega)
  simp only [Int32.ofInt_toInt] at hC
  refine ⟨_, hC, ?_⟩
  rintro r N ⟨v, rfl, hv, hf, hp⟩
  exact ⟨⟨_, rfl, rfl, fun _ => rfl⟩, ⟨hf.old (by decide), hf.w hM, zWd.b h hf (by decide) (by decide) (by rw [hf.e (by decide)]; exact h1) ⟨by omega, by omega⟩ (by rw [hf.e (by decide)]; exact h57) (zB.fr hf h110 (by decide) (by decide)), (hf.e (by decide))⟩, fun j => hf.ie (by decide) (by decide) j⟩
theorem w_undo (l : Launch) (M : zMem) (hM : zMt M) (h : zWd M) : zWk4 l m_M_undo 1 [.ref 81] M := by
  obtain ⟨h1, h14, h18, h60, h57, hIF, h83, h110, T, hT, hB⟩ := id h
  have hO := gTabs_ok T hT
  have hX := gTabs_ex T hT
  obtain ⟨D, hD⟩ := hX.2.2.2.2.2
  have hi := hIF.1
  have hC := c_M_undo l M hM   (by omega) (by omega)
  refine ⟨_, hC, ?_⟩
  rintro r N ⟨v, rfl, hv, hf, hp⟩
  exact ⟨⟨_, rfl, rfl, fun _ => rfl⟩, ⟨hf.old (by decide), hf.w hM, zWd.b h hf (by decide) (by decide) (by rw [hf.e (by decide)]; exact h1) ⟨by omega, by omega⟩ (by rw [hf.e (by decide)]; exact h57) (zB.fr hf h110 (by decide) (by decide)), (hf.e (by decide))⟩, fun j => hf.ie (by decide) (by decide) j⟩
theorem zmk_z {M : zMem} (h : zn M = 82) (h3 : ∀ j, zi M 81 j = 0) {j : Nat} (h8 : j ≠ 8) (h10 : j ≠ 10) (h12 : j ≠ 12) : ze (zmk M) 81 j = 0 := by
  unfold ze
  rw [(zmk_o M h).2.2 j, if_neg h12, if_neg h10, if_neg h8, h3]
  rfl
theorem zmk_b {M : zMem} {q n : Nat} {hi : Int} (e : zi (zmk M) q = fun _ => 0) (h : 0 ≤ hi) : zB q n 0 hi (zmk M) := fun k _ => by
  unfold ze
  rw [e]
  show (0 : Int) ≤ (0 : Int32).toInt ∧ (0 : Int32).toInt ≤ hi
  have e0 : (0 : Int32).toInt = 0 := by decide
  rw [e0]
  exact ⟨Int.le_refl _, h⟩
theorem w_init (l : Launch) (M : zMem) (h : zn M = 82) (h2 : (zsh M 81).1 = 14) (h3 : ∀ j, zi M 81 j = 0) : zC l m_M_init 32 78111 [.ref 81] M (fun r N => r = none ∧ zOl (zmk M) N ∧ zMt N ∧ zWd N ∧ ze N 81 1 = 0) := by
  have nw := zmk_nw M
  refine zC_of (L0 := [some (.ref 81)]) md_M_init (Nat.le_of_ble_eq_true rfl) rfl ?_ (fun r N hq _ => by
    have e := hq.2.1.1
    unfold zn zw at nw ⊢
    rw [e]
    exact nw)
  refine k_Mpre l _ _ M h h2 (by show 114 ≤ zn M + 32; omega) (Nat.le_refl _) ?_
  have hW := zmk_t M h h2
  have e12 : ze (zmk M) 81 12 = 1 := by
    unfold ze
    rw [(zmk_o M h).2.2 12, if_pos rfl]
    rfl
  have e13 : ze (zmk M) 81 13 = 0 := zmk_z h h3 (by decide) (by decide) (by decide)
  have e14 : ze (zmk M) 81 14 = 0 := zmk_z h h3 (by decide) (by decide) (by decide)
  have e57 : ze (zmk M) 81 57 = 0 := zmk_z h h3 (by decide) (by decide) (by decide)
  have e1 : ze (zmk M) 81 1 = 0 := zmk_z h h3 (by decide) (by decide) (by decide)
  have b83 : zB 83 24 0 5 (zmk M) := zmk_b (zmk_a83 M h).2.2.1 (by decide)
  have b85 : zB 85 144 0 5 (zmk M) := zmk_b (zmk_a85 M h).2.2.1 (by decide)
  have b110 : zB 110 65536 0 2147483647 (zmk M) := zmk_b (zmk_a110 M h).2.2.1 (by decide)
  have hX : zn (zmk M) ≤ zn M + 32 ∧ zw (zmk M) ≤ zw M + 78111 := by omega
  refine zw_aload_n (pc := 287) (n := 0) (x := 81) rfl d_M_init_287 ?_
  refine zr_callV hW hX (pc := 288) [] [] l_M_118 (c_M_builds l (zmk M) hW (by omega) (by omega) (by omega) (by omega) (zPm_0 e13) (zFin_0 e13) b83 b85) rfl rfl rfl (by decide) (Nat.le_of_ble_eq_true rfl) d_M_init_288 ?_
  rintro _ N1 ⟨rfl, hf1, T, hT, hB⟩
  have hW1 := hf1.w hW
  have hX1 : zn N1 ≤ zn M + 32 ∧ zw N1 ≤ zw M + 78111 := by
    have e := hf1.1
    unfold zn zw at hX ⊢
    rw [e]
    exact hX
  have q12 : ze N1 81 12 = ze (zmk M) 81 12 := hf1.e (by decide)
  have q13 : ze N1 81 13 = ze (zmk M) 81 13 := hf1.e (by decide)
  have q14 : ze N1 81 14 = ze (zmk M) 81 14 := hf1.e (by decide)
  refine zw_aload_n (pc := 291) (n := 0) (x := 81) rfl d_M_init_291 ?_
  refine zr_callV hW1 hX1 (pc := 292) [] [] l_M_121 (c_M_inForce l N1 hW1 (by omega) (by omega) (by omega) (by omega) (zPm_0 (by omega)) (zFin_0 (by omega)) (zB.fr hf1 b83 (by decide) (by decide)) (by omega) (by omega)) rfl rfl rfl (by decide) (Nat.le_of_ble_eq_true rfl) d_M_init_292 ?_
  rintro _ N2 ⟨rfl, hf2, p1, p2, p3, p4⟩
  have q1 : ze N2 81 1 = 0 := (hf2.e (by decide)).trans ((hf1.e (by decide)).trans e1)
  have q142 : ze N2 81 14 = 0 := (hf2.e (by decide)).trans (q14.trans e14)
  have q57 : ze N2 81 57 = 0 := (hf2.e (by decide)).trans ((hf1.e (by decide)).trans e57)
  have o1 := hf1.old (by decide)
  have o2 := hf2.old (by decide)
  refine zw_vret (S := []) (pc := 295) rfl d_M_init_295 ⟨rfl, ⟨o2.1.trans o1.1, o2.2.1.trans o1.2.1, o2.2.2.1.trans o1.2.2.1, fun q hq => ⟨(o2.2.2.2 q hq).1.trans (o1.2.2.2 q hq).1, (o2.2.2.2 q hq).2.trans (o1.2.2.2 q hq).2⟩⟩, hf2.w hW1, ⟨⟨by omega, by omega⟩, ⟨by omega, by omega⟩, ⟨p3, p4⟩, ⟨by omega, by omega⟩, ⟨by omega, by omega⟩, p1, zB.fr hf2 (zB.fr hf1 b83 (by decide) (by decide)) (by decide) (by decide), zB.fr hf2 (zB.fr hf1 b110 (by decide) (by decide)) (by decide) (by decide), T, hT, zGB.fr hf2 hB (by decide) (by decide)⟩, q1⟩
