def zWk8 (l : Launch) (k : zMeth) (n : Nat) (vs : List Value) (M : zMem) : Prop := ∃ Q' : Option Value → zMem → Prop, zC l k 0 0 vs M Q' ∧ ∀ r N, Q' r N → (∃ v : Value, r = some v ∧ v.category = n ∧ ∀ ad, zv ad v = v) ∧ zGo M N (ze M 81 1) ∧ (∀ j : Nat, ze N 82 j = ze M 82 j) ∧ ∀ P mv T, zRSu P mv T M → zRSu P mv T N
def zWk9 (l : Launch) (k : zMeth) (n : Nat) (vs : List Value) (M : zMem) : Prop := ∃ Q' : Option Value → zMem → Prop, zC l k 0 0 vs M Q' ∧ ∀ r N, Q' r N → (∃ v : Value, r = some v ∧ v.category = n ∧ ∀ ad, zv ad v = v) ∧ zGo M N 0 ∧ ∀ P mv T, zRSu P mv T M → zRSu P mv T N
def zfR (P : Nat) (mv : List Nat) (T : zGT) (a b : Int) (v : Int) : Prop := zfUt T a b v
theorem zfR_u {P : Nat} {mv : List Nat} {T : zGT} {a b : Int} {v w : Int} (_ : T ∈ gTabs) (h : zfR P mv T a b v) (h2 : zfR P mv T a b w) : v = w := zfUt_u h h2
theorem w8_feed (l : Launch) (M : zMem) (hM : zMt M) (h : zWd M) (x0 : Int32) (x1 : Int32) (x2 : Int32) (x3 : Int32) (x4 : Int32) : ∃ Q' : Option Value → zMem → Prop, zC l m_M_feed 0 0 [.ref 81, .int x0, .int x1, .int x2, .int x3, .int x4] M Q' ∧ ∀ r N, Q' r N → ∃ v : Int, r = some (.int (Int32.ofInt v)) ∧ (∀ P mv T, zRSu P mv T M → zRSu P mv T N) ∧ ((700 < ze M 81 1 + 20 ∧ v = -1 ∧ zGo M N (ze M 81 1) ∧ ∀ j : Nat, ze N 82 j = ze M 82 j) ∨ (ze M 81 1 + 20 ≤ 700 ∧ v = ze M 81 1 + 20 ∧ zGo M N (ze M 81 1 + 20) ∧ ∀ j : Nat, ze N 82 j = zfd5 (fun j => ze M 82 j) (ze M 81 1) x0.toInt x1.toInt x2.toInt x3.toInt x4.toInt j)) := by
  obtain ⟨h1, h14, h18, h60, h57, hIF, h83, h110, T, hT, hB⟩ := id h
  have hO := gTabs_ok T hT
  have hX := gTabs_ex T hT
  obtain ⟨D, hD⟩ := hX.2.2.2.2.2
  have hi := hIF.1
  have hC := c_M_feedF l M hM x0.toInt (z32r x0).1 (z32r x0).2 x1.toInt (z32r x1).1 (z32r x1).2 x2.toInt (z32r x2).1 (z32r x2).2 x3.toInt (z32r x3).1 (z32r x3).2 x4.toInt (z32r x4).1 (z32r x4).2  (by omega) (by omega)
  simp only [Int32.ofInt_toInt] at hC
  refine ⟨_, hC, ?_⟩
  rintro r N ⟨v, rfl, hv, hf, hp⟩
  have hw : zWd N := zWd.b h hf (by decide) (by decide) ⟨by omega, by omega⟩ (by rw [hf.e (by decide)]; exact h60) (by rw [hf.e (by decide)]; exact h57) (zB.fr hf h110 (by decide) (by decide))
  refine ⟨v, rfl, fun _ _ _ hs_ => zRSu.fr hf hs_ (by decide) (by decide), ?_⟩
  rcases hp with ⟨a1, a2, a3, a4⟩ | ⟨a1, a2, a3, a4⟩
  · exact Or.inl ⟨a1, a2, ⟨hf.old (by decide), hf.w hM, hw, a3⟩, a4⟩
  · exact Or.inr ⟨a1, a2, ⟨hf.old (by decide), hf.w hM, hw, a3⟩, a4⟩
theorem w8_end (l : Launch) (M : zMem) (hM : zMt M) (h : zWd M) (x0 : Int32) : ∃ Q' : Option Value → zMem → Prop, zC l m_M_end 0 0 [.ref 81, .int x0] M Q' ∧ ∀ r N, Q' r N → (∃ v : Int32, r = some (.int v)) ∧ (∀ P mv T, zRSu P mv T M → zRSu P mv T N) ∧ (∀ j : Nat, ze N 82 j = ze M 82 j) ∧ (((x0.toInt < 0 ∨ ze M 81 1 < x0.toInt) ∧ zGo M N (ze M 81 1)) ∨ (0 ≤ x0.toInt ∧ x0.toInt ≤ ze M 81 1 ∧ zGo M N x0.toInt)) := by
  obtain ⟨h1, h14, h18, h60, h57, hIF, h83, h110, T, hT, hB⟩ := id h
  have hO := gTabs_ok T hT
  have hX := gTabs_ex T hT
  obtain ⟨D, hD⟩ := hX.2.2.2.2.2
  have hi := hIF.1
  have hC := c_M_end l M hM x0.toInt (z32r x0).1 (z32r x0).2  (by omega) (by omega)
  simp only [Int32.ofInt_toInt] at hC
  refine ⟨_, hC, ?_⟩
  rintro r N ⟨v, rfl, hv, hf, hp⟩
  have hw : zWd N := zWd.b h hf (by decide) (by decide) ⟨by omega, by omega⟩ (by rw [hf.e (by decide)]; exact h60) (by rw [hf.e (by decide)]; exact h57) (zB.fr hf h110 (by decide) (by decide))
  refine ⟨⟨_, rfl⟩, fun _ _ _ hs_ => zRSu.fr hf hs_ (by decide) (by decide), fun j => hf.ie (by decide) (by decide) j, ?_⟩
  rcases hp with ⟨a1, a2, a3⟩ | ⟨a1, a2, a3, a4⟩
  · exact Or.inl ⟨a1, hf.old (by decide), hf.w hM, hw, a3⟩
  · exact Or.inr ⟨a1, a2, hf.old (by decide), hf.w hM, hw, a4⟩
theorem w8_troupe (l : Launch) (M : zMem) (hM : zMt M) (h : zWd M) (b : Nat → Int) (n : Nat) (hrp : zRp b n M) (P0 : Nat) (mv0 : List Nat) (T0 : zGT) (hs0 : zRSu P0 mv0 T0 M) : ∃ Q' : Option Value → zMem → Prop, zC l m_M_troupe 0 0 [.ref 81] M Q' ∧ ∀ r N, Q' r N → (∃ v : Value, r = some v ∧ v.category = 1 ∧ ∀ ad, zv ad v = v) ∧ zGo M N 0 ∧ ((zTrB b n (zru zpB b n 0) ∧ ∀ P mv T, zRSu P mv T M → zRSu P mv T N) ∨ ∃ P mv T, zTrP b n (zru zpB b n 0) P mv T ∧ zRSu P mv T N) := by
  obtain ⟨h1, h14, h18, h60, h57, hIF, h83, h110, T, hT, hB⟩ := id h
  have hO := gTabs_ok T hT
  have hX := gTabs_ex T hT
  obtain ⟨D, hD⟩ := hX.2.2.2.2.2
  have hi := hIF.1
  obtain ⟨hT0, hTm0, hB0, h160, hmq0, hCd0, nm0, hnm0, hni0⟩ := id hs0.1
  have hO0 := gTabs_ok T0 hT0
  have hF0 : (gF T0).length ≤ 64 := by have := (gT_zTA hT0).1.2; omega
  have hC := c_M_troupeU l M hM  b n (zMvF M) (gF T0).length (gmkI T0) hF0 nm0 hrp hIF (by omega) (by omega) h83 hB.2.1 (by omega) (by omega) rfl hni0
  refine ⟨_, hC, ?_⟩
  rintro r N ⟨v, rfl, hv, hf, p1, p2, p3, p4, p5, p6, p7, p8, p9, p10, p11, p12⟩
  refine ⟨⟨_, rfl, rfl, fun _ => rfl⟩, ⟨hf.old (by decide), hf.w hM, ⟨⟨by omega, by omega⟩, ⟨p2, p3⟩, ⟨p4, p5⟩, ⟨p6, p7⟩, by rw [hf.e (by decide)]; exact h57, p8, p9, zB.fr hf h110 (by decide) (by decide), p10⟩, p1⟩, ?_⟩
  rcases p11 with ⟨-, hb, ⟨T1, t1, t2, t3, t6⟩, hq, h16, u1, u2, -, -⟩ | ⟨P, mv, T1, nm1, t1, -, t3, t4, t5, t6, u1, u2, -, -⟩
  · refine Or.inl ⟨hb, fun P mv T2 hs => ?_⟩
    obtain ⟨a1, a2, a3, a4, a5, a6, -⟩ := hs.1
    have e : zMvF M = mv := a5
    subst e
    obtain rfl := zTm_uq a2 t3
    have hTq : zTm (zMvF M) T0 := by
      rw [show zMvF M = mv0 from hmq0]
      exact hTm0
    obtain rfl := zTm_uq hTq t3
    exact ⟨⟨t1, t3, t2, by rw [h16]; exact a4, hq, t6.p a4.symm, nm0, u1.t, u2⟩, Or.inl p12⟩
  · refine Or.inr ⟨P, mv, T1, t1.p, ?_⟩
    obtain ⟨q, q2, q3, c1, c2, c3, c4, c5⟩ := t1
    exact ⟨⟨c3, c4, t3, t5, t4, t6, nm1, u1.t, u2⟩, Or.inl p12⟩
theorem w8_fault (l : Launch) (M : zMem) (hM : zMt M) (h : zWd M) (x0 : Int32) : zWk8 l m_M_fault 1 [.ref 81, .int x0] M := by
  obtain ⟨h1, h14, h18, h60, h57, hIF, h83, h110, T, hT, hB⟩ := id h
  have hO := gTabs_ok T hT
  have hX := gTabs_ex T hT
  obtain ⟨D, hD⟩ := hX.2.2.2.2.2
  have hi := hIF.1
  have hC := c_M_fault l M hM x0.toInt (z32r x0).1 (z32r x0).2  
  simp only [Int32.ofInt_toInt] at hC
  refine ⟨_, hC, ?_⟩
  rintro r N ⟨v, rfl, hv, hf, hp⟩
  exact ⟨⟨_, rfl, rfl, fun _ => rfl⟩, ⟨hf.old (by decide), hf.w hM, zWd.b h hf (by decide) (by decide) (by rw [hf.e (by decide)]; exact h1) (by rw [hf.e (by decide)]; exact h60) (by rw [hf.e (by decide)]; exact h57) (zB.fr hf h110 (by decide) (by decide)), (hf.e (by decide))⟩, fun j => hf.ie (by decide) (by decide) j, fun _ _ _ hs_ => zRSu.fr hf hs_ (by decide) (by decide)⟩
theorem w8_about (l : Launch) (M : zMem) (hM : zMt M) (h : zWd M) (x0 : Int32) : zWk8 l m_M_about 1 [.ref 81, .int x0] M := by
  obtain ⟨h1, h14, h18, h60, h57, hIF, h83, h110, T, hT, hB⟩ := id h
  have hO := gTabs_ok T hT
  have hX := gTabs_ex T hT
  obtain ⟨D, hD⟩ := hX.2.2.2.2.2
  have hi := hIF.1
  have hC := c_M_about l M hM x0.toInt (z32r x0).1 (z32r x0).2 T hO hB
  simp only [Int32.ofInt_toInt] at hC
  refine ⟨_, hC, ?_⟩
  rintro r N ⟨v, rfl, hv, hf, hp⟩
  exact ⟨⟨_, rfl, rfl, fun _ => rfl⟩, ⟨hf.old (by decide), hf.w hM, zWd.b h hf (by decide) (by decide) (by rw [hf.e (by decide)]; exact h1) (by rw [hf.e (by decide)]; exact h60) (by rw [hf.e (by decide)]; exact h57) (zB.fr hf h110 (by decide) (by decide)), (hf.e (by decide))⟩, fun j => hf.ie (by decide) (by decide) j, fun _ _ _ hs_ => zRSu.fr hf hs_ (by decide) (by decide)⟩
theorem w8_moves (l : Launch) (M : zMem) (hM : zMt M) (h : zWd M) (x0 : Int32) (x1 : Int32) : zWk8 l m_M_moves 1 [.ref 81, .int x0, .int x1] M := by
  obtain ⟨h1, h14, h18, h60, h57, hIF, h83, h110, T, hT, hB⟩ := id h
  have hO := gTabs_ok T hT
  have hX := gTabs_ex T hT
  obtain ⟨D, hD⟩ := hX.2.2.2.2.2
  have hi := hIF.1
  have hC := c_M_moves l M hM x0.toInt (z32r x0).1 (z32r x0).2 x1.toInt (z32r x1).1 (z32r x1).2 T hO hB (by omega) (by omega)
  simp only [Int32.ofInt_toInt] at hC
  refine ⟨_, hC, ?_⟩
  rintro r N ⟨v, rfl, hv, hf, hp⟩
  exact ⟨⟨_, rfl, rfl, fun _ => rfl⟩, ⟨hf.old (by decide), hf.w hM, zWd.b h hf (by decide) (by decide) (by rw [hf.e (by decide)]; exact h1) (by rw [hf.e (by decide)]; exact h60) (by rw [hf.e (by decide)]; exact h57) (zB.fr hf h110 (by decide) (by decide)), (hf.e (by decide))⟩, fun j => hf.ie (by decide) (by decide) j, fun _ _ _ hs_ => zRSu.fr hf hs_ (by decide) (by decide)⟩
theorem w8_times (l : Launch) (M : zMem) (hM : zMt M) (h : zWd M) (x0 : Int32) (x1 : Int32) : zWk8 l m_M_times 1 [.ref 81, .int x0, .int x1] M := by
  obtain ⟨h1, h14, h18, h60, h57, hIF, h83, h110, T, hT, hB⟩ := id h
  have hO := gTabs_ok T hT
  have hX := gTabs_ex T hT
  obtain ⟨D, hD⟩ := hX.2.2.2.2.2
  have hi := hIF.1
  have hC := c_M_times l M hM x0.toInt (z32r x0).1 (z32r x0).2 x1.toInt (z32r x1).1 (z32r x1).2 T hO hB
  simp only [Int32.ofInt_toInt] at hC
  refine ⟨_, hC, ?_⟩
  rintro r N ⟨v, rfl, hv, hf, hp⟩
  exact ⟨⟨_, rfl, rfl, fun _ => rfl⟩, ⟨hf.old (by decide), hf.w hM, zWd.b h hf (by decide) (by decide) (by rw [hf.e (by decide)]; exact h1) (by rw [hf.e (by decide)]; exact h60) (by rw [hf.e (by decide)]; exact h57) (zB.fr hf h110 (by decide) (by decide)), (hf.e (by decide))⟩, fun j => hf.ie (by decide) (by decide) j, fun _ _ _ hs_ => zRSu.fr hf hs_ (by decide) (by decide)⟩
theorem w8_order (l : Launch) (M : zMem) (hM : zMt M) (h : zWd M) (x0 : Int32) : zWk8 l m_M_order 1 [.ref 81, .int x0] M := by
  obtain ⟨h1, h14, h18, h60, h57, hIF, h83, h110, T, hT, hB⟩ := id h
  have hO := gTabs_ok T hT
  have hX := gTabs_ex T hT
  obtain ⟨D, hD⟩ := hX.2.2.2.2.2
  have hi := hIF.1
  have hC := c_M_order l M hM x0.toInt (z32r x0).1 (z32r x0).2 T hO hX hB
  simp only [Int32.ofInt_toInt] at hC
  refine ⟨_, hC, ?_⟩
  rintro r N ⟨v, rfl, hv, hf, hp⟩
  exact ⟨⟨_, rfl, rfl, fun _ => rfl⟩, ⟨hf.old (by decide), hf.w hM, zWd.b h hf (by decide) (by decide) (by rw [hf.e (by decide)]; exact h1) (by rw [hf.e (by decide)]; exact h60) (by rw [hf.e (by decide)]; exact h57) (zB.fr hf h110 (by decide) (by decide)), (hf.e (by decide))⟩, fun j => hf.ie (by decide) (by decide) j, fun _ _ _ hs_ => zRSu.fr hf hs_ (by decide) (by decide)⟩
theorem w8_makesOf (l : Launch) (M : zMem) (hM : zMt M) (h : zWd M) (x0 : Int32) : zWk8 l m_M_makesOf 1 [.ref 81, .int x0] M := by
  obtain ⟨h1, h14, h18, h60, h57, hIF, h83, h110, T, hT, hB⟩ := id h
  have hO := gTabs_ok T hT
  have hX := gTabs_ex T hT
  obtain ⟨D, hD⟩ := hX.2.2.2.2.2
  have hi := hIF.1
  have hC := c_M_makesOf l M hM x0.toInt (z32r x0).1 (z32r x0).2 T hO hB
  simp only [Int32.ofInt_toInt] at hC
  refine ⟨_, hC, ?_⟩
  rintro r N ⟨v, rfl, hv, hf, hp⟩
  exact ⟨⟨_, rfl, rfl, fun _ => rfl⟩, ⟨hf.old (by decide), hf.w hM, zWd.b h hf (by decide) (by decide) (by rw [hf.e (by decide)]; exact h1) (by rw [hf.e (by decide)]; exact h60) (by rw [hf.e (by decide)]; exact h57) (zB.fr hf h110 (by decide) (by decide)), (hf.e (by decide))⟩, fun j => hf.ie (by decide) (by decide) j, fun _ _ _ hs_ => zRSu.fr hf hs_ (by decide) (by decide)⟩
theorem w8_sortOf (l : Launch) (M : zMem) (hM : zMt M) (h : zWd M) (x0 : Int32) : zWk8 l m_M_sortOf 1 [.ref 81, .int x0] M := by
  obtain ⟨h1, h14, h18, h60, h57, hIF, h83, h110, T, hT, hB⟩ := id h
  have hO := gTabs_ok T hT
  have hX := gTabs_ex T hT
  obtain ⟨D, hD⟩ := hX.2.2.2.2.2
  have hi := hIF.1
  have hC := c_M_sortOf l M hM x0.toInt (z32r x0).1 (z32r x0).2 T hO hB
  simp only [Int32.ofInt_toInt] at hC
  refine ⟨_, hC, ?_⟩
  rintro r N ⟨v, rfl, hv, hf, hp⟩
  exact ⟨⟨_, rfl, rfl, fun _ => rfl⟩, ⟨hf.old (by decide), hf.w hM, zWd.b h hf (by decide) (by decide) (by rw [hf.e (by decide)]; exact h1) (by rw [hf.e (by decide)]; exact h60) (by rw [hf.e (by decide)]; exact h57) (zB.fr hf h110 (by decide) (by decide)), (hf.e (by decide))⟩, fun j => hf.ie (by decide) (by decide) j, fun _ _ _ hs_ => zRSu.fr hf hs_ (by decide) (by decide)⟩
theorem w8_sort (l : Launch) (M : zMem) (hM : zMt M) (h : zWd M) (x0 : Int32) (x1 : Int32) : zWk8 l m_M_sort 1 [.ref 81, .int x0, .int x1] M := by
  obtain ⟨h1, h14, h18, h60, h57, hIF, h83, h110, T, hT, hB⟩ := id h
  have hO := gTabs_ok T hT
  have hX := gTabs_ex T hT
  obtain ⟨D, hD⟩ := hX.2.2.2.2.2
  have hi := hIF.1
  have hC := c_M_sort l M hM x0.toInt (z32r x0).1 (z32r x0).2 x1.toInt (z32r x1).1 (z32r x1).2 T hO hB
  simp only [Int32.ofInt_toInt] at hC
  refine ⟨_, hC, ?_⟩
  rintro r N ⟨v, rfl, hv, hf, hp⟩
  exact ⟨⟨_, rfl, rfl, fun _ => rfl⟩, ⟨hf.old (by decide), hf.w hM, zWd.b h hf (by decide) (by decide) (by rw [hf.e (by decide)]; exact h1) (by rw [hf.e (by decide)]; exact h60) (by rw [hf.e (by decide)]; exact h57) (zB.fr hf h110 (by decide) (by decide)), (hf.e (by decide))⟩, fun j => hf.ie (by decide) (by decide) j, fun _ _ _ hs_ => zRSu.fr hf hs_ (by decide) (by decide)⟩
theorem w8_within (l : Launch) (M : zMem) (hM : zMt M) (h : zWd M) (x0 : Int32) (x1 : Int32) : zWk8 l m_M_within 1 [.ref 81, .int x0, .int x1] M := by
  obtain ⟨h1, h14, h18, h60, h57, hIF, h83, h110, T, hT, hB⟩ := id h
  have hO := gTabs_ok T hT
  have hX := gTabs_ex T hT
  obtain ⟨D, hD⟩ := hX.2.2.2.2.2
  have hi := hIF.1
  have hC := c_M_within l M hM x0.toInt (z32r x0).1 (z32r x0).2 x1.toInt (z32r x1).1 (z32r x1).2 T hO hB
  simp only [Int32.ofInt_toInt] at hC
  refine ⟨_, hC, ?_⟩
  rintro r N ⟨v, rfl, hv, hf, hp⟩
  exact ⟨⟨_, rfl, rfl, fun _ => rfl⟩, ⟨hf.old (by decide), hf.w hM, zWd.b h hf (by decide) (by decide) (by rw [hf.e (by decide)]; exact h1) (by rw [hf.e (by decide)]; exact h60) (by rw [hf.e (by decide)]; exact h57) (zB.fr hf h110 (by decide) (by decide)), (hf.e (by decide))⟩, fun j => hf.ie (by decide) (by decide) j, fun _ _ _ hs_ => zRSu.fr hf hs_ (by decide) (by decide)⟩
theorem w8_mark (l : Launch) (M : zMem) (hM : zMt M) (h : zWd M) (x0 : Int32) (x1 : Int32) : zWk8 l m_M_mark 1 [.ref 81, .int x0, .int x1] M := by
  obtain ⟨h1, h14, h18, h60, h57, hIF, h83, h110, T, hT, hB⟩ := id h
  have hO := gTabs_ok T hT
  have hX := gTabs_ex T hT
  obtain ⟨D, hD⟩ := hX.2.2.2.2.2
  have hi := hIF.1
  have hC := c_M_mark l M hM x0.toInt (z32r x0).1 (z32r x0).2 x1.toInt (z32r x1).1 (z32r x1).2 T hO hB
  simp only [Int32.ofInt_toInt] at hC
  refine ⟨_, hC, ?_⟩
  rintro r N ⟨v, rfl, hv, hf, hp⟩
  exact ⟨⟨_, rfl, rfl, fun _ => rfl⟩, ⟨hf.old (by decide), hf.w hM, zWd.b h hf (by decide) (by decide) (by rw [hf.e (by decide)]; exact h1) (by rw [hf.e (by decide)]; exact h60) (by rw [hf.e (by decide)]; exact h57) (zB.fr hf h110 (by decide) (by decide)), (hf.e (by decide))⟩, fun j => hf.ie (by decide) (by decide) j, fun _ _ _ hs_ => zRSu.fr hf hs_ (by decide) (by decide)⟩
theorem w8_product (l : Launch) (M : zMem) (hM : zMt M) (h : zWd M) (x0 : Int32) (x1 : Int32) (x2 : Int32) : zWk8 l m_M_product 1 [.ref 81, .int x0, .int x1, .int x2] M := by
  obtain ⟨h1, h14, h18, h60, h57, hIF, h83, h110, T, hT, hB⟩ := id h
  have hO := gTabs_ok T hT
  have hX := gTabs_ex T hT
  obtain ⟨D, hD⟩ := hX.2.2.2.2.2
  have hi := hIF.1
  have hC := c_M_product l M hM x0.toInt (z32r x0).1 (z32r x0).2 x1.toInt (z32r x1).1 (z32r x1).2 x2.toInt (z32r x2).1 (z32r x2).2 T hO hB
  simp only [Int32.ofInt_toInt] at hC
  refine ⟨_, hC, ?_⟩
  rintro r N ⟨v, rfl, hv, hf, hp⟩
  exact ⟨⟨_, rfl, rfl, fun _ => rfl⟩, ⟨hf.old (by decide), hf.w hM, zWd.b h hf (by decide) (by decide) (by rw [hf.e (by decide)]; exact h1) (by rw [hf.e (by decide)]; exact h60) (by rw [hf.e (by decide)]; exact h57) (zB.fr hf h110 (by decide) (by decide)), (hf.e (by decide))⟩, fun j => hf.ie (by decide) (by decide) j, fun _ _ _ hs_ => zRSu.fr hf hs_ (by decide) (by decide)⟩
theorem w8_residue (l : Launch) (M : zMem) (hM : zMt M) (h : zWd M) (x0 : Int32) (x1 : Int32) : zWk8 l m_M_residue 1 [.ref 81, .int x0, .int x1] M := by
  obtain ⟨h1, h14, h18, h60, h57, hIF, h83, h110, T, hT, hB⟩ := id h
  have hO := gTabs_ok T hT
  have hX := gTabs_ex T hT
  obtain ⟨D, hD⟩ := hX.2.2.2.2.2
  have hi := hIF.1
  have hC := c_M_residue l M hM x0.toInt (z32r x0).1 (z32r x0).2 x1.toInt (z32r x1).1 (z32r x1).2 T hO hB
  simp only [Int32.ofInt_toInt] at hC
  refine ⟨_, hC, ?_⟩
  rintro r N ⟨v, rfl, hv, hf, hp⟩
  exact ⟨⟨_, rfl, rfl, fun _ => rfl⟩, ⟨hf.old (by decide), hf.w hM, zWd.b h hf (by decide) (by decide) (by rw [hf.e (by decide)]; exact h1) (by rw [hf.e (by decide)]; exact h60) (by rw [hf.e (by decide)]; exact h57) (zB.fr hf h110 (by decide) (by decide)), (hf.e (by decide))⟩, fun j => hf.ie (by decide) (by decide) j, fun _ _ _ hs_ => zRSu.fr hf hs_ (by decide) (by decide)⟩
theorem w8_block (l : Launch) (M : zMem) (hM : zMt M) (h : zWd M) (x0 : Int32) (x1 : Int32) : zWk8 l m_M_block 1 [.ref 81, .int x0, .int x1] M := by
  obtain ⟨h1, h14, h18, h60, h57, hIF, h83, h110, T, hT, hB⟩ := id h
  have hO := gTabs_ok T hT
  have hX := gTabs_ex T hT
  obtain ⟨D, hD⟩ := hX.2.2.2.2.2
  have hi := hIF.1
  have hC := c_M_block l M hM x0.toInt (z32r x0).1 (z32r x0).2 x1.toInt (z32r x1).1 (z32r x1).2 T hO hB
  simp only [Int32.ofInt_toInt] at hC
  refine ⟨_, hC, ?_⟩
  rintro r N ⟨v, rfl, hv, hf, hp⟩
  exact ⟨⟨_, rfl, rfl, fun _ => rfl⟩, ⟨hf.old (by decide), hf.w hM, zWd.b h hf (by decide) (by decide) (by rw [hf.e (by decide)]; exact h1) (by rw [hf.e (by decide)]; exact h60) (by rw [hf.e (by decide)]; exact h57) (zB.fr hf h110 (by decide) (by decide)), (hf.e (by decide))⟩, fun j => hf.ie (by decide) (by decide) j, fun _ _ _ hs_ => zRSu.fr hf hs_ (by decide) (by decide)⟩
theorem w8_keeper (l : Launch) (M : zMem) (hM : zMt M) (h : zWd M) (x0 : Int32) : zWk8 l m_M_keeper 1 [.ref 81, .int x0] M := by
  obtain ⟨h1, h14, h18, h60, h57, hIF, h83, h110, T, hT, hB⟩ := id h
  have hO := gTabs_ok T hT
  have hX := gTabs_ex T hT
  obtain ⟨D, hD⟩ := hX.2.2.2.2.2
  have hi := hIF.1
  have hC := c_M_keeper l M hM x0.toInt (z32r x0).1 (z32r x0).2 T hO hB (by omega) (by omega)
  simp only [Int32.ofInt_toInt] at hC
  refine ⟨_, hC, ?_⟩
  rintro r N ⟨v, rfl, hv, hf, hp⟩
  exact ⟨⟨_, rfl, rfl, fun _ => rfl⟩, ⟨hf.old (by decide), hf.w hM, zWd.b h hf (by decide) (by decide) (by rw [hf.e (by decide)]; exact h1) (by rw [hf.e (by decide)]; exact h60) (by rw [hf.e (by decide)]; exact h57) (zB.fr hf h110 (by decide) (by decide)), (hf.e (by decide))⟩, fun j => hf.ie (by decide) (by decide) j, fun _ _ _ hs_ => zRSu.fr hf hs_ (by decide) (by decide)⟩
theorem w8_orbit (l : Launch) (M : zMem) (hM : zMt M) (h : zWd M) (x0 : Int32) : zWk8 l m_M_orbit 1 [.ref 81, .int x0] M := by
  obtain ⟨h1, h14, h18, h60, h57, hIF, h83, h110, T, hT, hB⟩ := id h
  have hO := gTabs_ok T hT
  have hX := gTabs_ex T hT
  obtain ⟨D, hD⟩ := hX.2.2.2.2.2
  have hi := hIF.1
  have hC := c_M_orbit l M hM x0.toInt (z32r x0).1 (z32r x0).2 T hO hB (by omega) (by omega)
  simp only [Int32.ofInt_toInt] at hC
  refine ⟨_, hC, ?_⟩
  rintro r N ⟨v, rfl, hv, hf, hp⟩
  exact ⟨⟨_, rfl, rfl, fun _ => rfl⟩, ⟨hf.old (by decide), hf.w hM, zWd.b h hf (by decide) (by decide) (by rw [hf.e (by decide)]; exact h1) (by rw [hf.e (by decide)]; exact h60) (by rw [hf.e (by decide)]; exact h57) (zB.fr hf h110 (by decide) (by decide)), (hf.e (by decide))⟩, fun j => hf.ie (by decide) (by decide) j, fun _ _ _ hs_ => zRSu.fr hf hs_ (by decide) (by decide)⟩
theorem w8_coset (l : Launch) (M : zMem) (hM : zMt M) (h : zWd M) (x0 : Int32) (x1 : Int32) : zWk8 l m_M_coset 1 [.ref 81, .int x0, .int x1] M := by
  obtain ⟨h1, h14, h18, h60, h57, hIF, h83, h110, T, hT, hB⟩ := id h
  have hO := gTabs_ok T hT
  have hX := gTabs_ex T hT
  obtain ⟨D, hD⟩ := hX.2.2.2.2.2
  have hi := hIF.1
  have hC := c_M_coset l M hM x0.toInt (z32r x0).1 (z32r x0).2 x1.toInt (z32r x1).1 (z32r x1).2 T hO hB
  simp only [Int32.ofInt_toInt] at hC
  refine ⟨_, hC, ?_⟩
  rintro r N ⟨v, rfl, hv, hf, hp⟩
  exact ⟨⟨_, rfl, rfl, fun _ => rfl⟩, ⟨hf.old (by decide), hf.w hM, zWd.b h hf (by decide) (by decide) (by rw [hf.e (by decide)]; exact h1) (by rw [hf.e (by decide)]; exact h60) (by rw [hf.e (by decide)]; exact h57) (zB.fr hf h110 (by decide) (by decide)), (hf.e (by decide))⟩, fun j => hf.ie (by decide) (by decide) j, fun _ _ _ hs_ => zRSu.fr hf hs_ (by decide) (by decide)⟩
theorem w8_takes (l : Launch) (M : zMem) (hM : zMt M) (h : zWd M) (x0 : Int32) (x1 : Int32) (x2 : Int32) : zWk8 l m_M_takes 1 [.ref 81, .int x0, .int x1, .int x2] M := by
  obtain ⟨h1, h14, h18, h60, h57, hIF, h83, h110, T, hT, hB⟩ := id h
  have hO := gTabs_ok T hT
  have hX := gTabs_ex T hT
  obtain ⟨D, hD⟩ := hX.2.2.2.2.2
  have hi := hIF.1
  have hC := c_M_takes l M hM x0.toInt (z32r x0).1 (z32r x0).2 x1.toInt (z32r x1).1 (z32r x1).2 x2.toInt (z32r x2).1 (z32r x2).2 T hO hB
  simp only [Int32.ofInt_toInt] at hC
  refine ⟨_, hC, ?_⟩
  rintro r N ⟨v, rfl, hv, hf, hp⟩
  exact ⟨⟨_, rfl, rfl, fun _ => rfl⟩, ⟨hf.old (by decide), hf.w hM, zWd.b h hf (by decide) (by decide) (by rw [hf.e (by decide)]; exact h1) (by rw [hf.e (by decide)]; exact h60) (by rw [hf.e (by decide)]; exact h57) (zB.fr hf h110 (by decide) (by decide)), (hf.e (by decide))⟩, fun j => hf.ie (by decide) (by decide) j, fun _ _ _ hs_ => zRSu.fr hf hs_ (by decide) (by decide)⟩
theorem w8_moebius (l : Launch) (M : zMem) (hM : zMt M) (h : zWd M) (x0 : Int32) : zWk8 l m_M_moebius 1 [.ref 81, .int x0] M := by
  obtain ⟨h1, h14, h18, h60, h57, hIF, h83, h110, T, hT, hB⟩ := id h
  have hO := gTabs_ok T hT
  have hX := gTabs_ex T hT
  obtain ⟨D, hD⟩ := hX.2.2.2.2.2
  have hi := hIF.1
  have hC := c_M_moebius l M hM x0.toInt (z32r x0).1 (z32r x0).2 T hO hB
  simp only [Int32.ofInt_toInt] at hC
  refine ⟨_, hC, ?_⟩
  rintro r N ⟨v, rfl, hv, hf, hp⟩
  exact ⟨⟨_, rfl, rfl, fun _ => rfl⟩, ⟨hf.old (by decide), hf.w hM, zWd.b h hf (by decide) (by decide) (by rw [hf.e (by decide)]; exact h1) (by rw [hf.e (by decide)]; exact h60) (by rw [hf.e (by decide)]; exact h57) (zB.fr hf h110 (by decide) (by decide)), (hf.e (by decide))⟩, fun j => hf.ie (by decide) (by decide) j, fun _ _ _ hs_ => zRSu.fr hf hs_ (by decide) (by decide)⟩
theorem w8_mixed (l : Launch) (M : zMem) (hM : zMt M) (h : zWd M) (x0 : Int32) : zWk8 l m_M_mixed 1 [.ref 81, .int x0] M := by
  obtain ⟨h1, h14, h18, h60, h57, hIF, h83, h110, T, hT, hB⟩ := id h
  have hO := gTabs_ok T hT
  have hX := gTabs_ex T hT
  obtain ⟨D, hD⟩ := hX.2.2.2.2.2
  have hi := hIF.1
  have hC := c_M_mixed l M hM x0.toInt (z32r x0).1 (z32r x0).2 T hO hB
  simp only [Int32.ofInt_toInt] at hC
  refine ⟨_, hC, ?_⟩
  rintro r N ⟨v, rfl, hv, hf, hp⟩
  exact ⟨⟨_, rfl, rfl, fun _ => rfl⟩, ⟨hf.old (by decide), hf.w hM, zWd.b h hf (by decide) (by decide) (by rw [hf.e (by decide)]; exact h1) (by rw [hf.e (by decide)]; exact h60) (by rw [hf.e (by decide)]; exact h57) (zB.fr hf h110 (by decide) (by decide)), (hf.e (by decide))⟩, fun j => hf.ie (by decide) (by decide) j, fun _ _ _ hs_ => zRSu.fr hf hs_ (by decide) (by decide)⟩
theorem w8_centre (l : Launch) (M : zMem) (hM : zMt M) (h : zWd M) (x0 : Int32) : zWk8 l m_M_centre 1 [.ref 81, .int x0] M := by
  obtain ⟨h1, h14, h18, h60, h57, hIF, h83, h110, T, hT, hB⟩ := id h
  have hO := gTabs_ok T hT
  have hX := gTabs_ex T hT
  obtain ⟨D, hD⟩ := hX.2.2.2.2.2
  have hi := hIF.1
  have hC := c_M_centre l M hM x0.toInt (z32r x0).1 (z32r x0).2 T hO hB
  simp only [Int32.ofInt_toInt] at hC
  refine ⟨_, hC, ?_⟩
  rintro r N ⟨v, rfl, hv, hf, hp⟩
  exact ⟨⟨_, rfl, rfl, fun _ => rfl⟩, ⟨hf.old (by decide), hf.w hM, zWd.b h hf (by decide) (by decide) (by rw [hf.e (by decide)]; exact h1) (by rw [hf.e (by decide)]; exact h60) (by rw [hf.e (by decide)]; exact h57) (zB.fr hf h110 (by decide) (by decide)), (hf.e (by decide))⟩, fun j => hf.ie (by decide) (by decide) j, fun _ _ _ hs_ => zRSu.fr hf hs_ (by decide) (by decide)⟩
theorem w8_pairs (l : Launch) (M : zMem) (hM : zMt M) (h : zWd M) (x0 : Int32) (x1 : Int32) : zWk8 l m_M_pairs 1 [.ref 81, .int x0, .int x1] M := by
  obtain ⟨h1, h14, h18, h60, h57, hIF, h83, h110, T, hT, hB⟩ := id h
  have hO := gTabs_ok T hT
  have hX := gTabs_ex T hT
  obtain ⟨D, hD⟩ := hX.2.2.2.2.2
  have hi := hIF.1
  have hC := c_M_pairs l M hM x0.toInt (z32r x0).1 (z32r x0).2 x1.toInt (z32r x1).1 (z32r x1).2 T hO hB
  simp only [Int32.ofInt_toInt] at hC
  refine ⟨_, hC, ?_⟩
  rintro r N ⟨v, rfl, hv, hf, hp⟩
  exact ⟨⟨_, rfl, rfl, fun _ => rfl⟩, ⟨hf.old (by decide), hf.w hM, zWd.b h hf (by decide) (by decide) (by rw [hf.e (by decide)]; exact h1) (by rw [hf.e (by decide)]; exact h60) (by rw [hf.e (by decide)]; exact h57) (zB.fr hf h110 (by decide) (by decide)), (hf.e (by decide))⟩, fun j => hf.ie (by decide) (by decide) j, fun _ _ _ hs_ => zRSu.fr hf hs_ (by decide) (by decide)⟩
theorem w8_alike (l : Launch) (M : zMem) (hM : zMt M) (h : zWd M) : zWk8 l m_M_alike 1 [.ref 81] M := by
  obtain ⟨h1, h14, h18, h60, h57, hIF, h83, h110, T, hT, hB⟩ := id h
  have hO := gTabs_ok T hT
  have hX := gTabs_ex T hT
  obtain ⟨D, hD⟩ := hX.2.2.2.2.2
  have hi := hIF.1
  have hC := c_M_alike l M hM  T hO hB
  refine ⟨_, hC, ?_⟩
  rintro r N ⟨v, rfl, hv, hf, hp⟩
  exact ⟨⟨_, rfl, rfl, fun _ => rfl⟩, ⟨hf.old (by decide), hf.w hM, zWd.b h hf (by decide) (by decide) (by rw [hf.e (by decide)]; exact h1) (by rw [hf.e (by decide)]; exact h60) (by rw [hf.e (by decide)]; exact h57) (zB.fr hf h110 (by decide) (by decide)), (hf.e (by decide))⟩, fun j => hf.ie (by decide) (by decide) j, fun _ _ _ hs_ => zRSu.fr hf hs_ (by decide) (by decide)⟩
theorem w8_meet (l : Launch) (M : zMem) (hM : zMt M) (h : zWd M) (x0 : Int32) (x1 : Int32) : zWk8 l m_M_meet 1 [.ref 81, .int x0, .int x1] M := by
  obtain ⟨h1, h14, h18, h60, h57, hIF, h83, h110, T, hT, hB⟩ := id h
  have hO := gTabs_ok T hT
  have hX := gTabs_ex T hT
  obtain ⟨D, hD⟩ := hX.2.2.2.2.2
  have hi := hIF.1
  have hC := c_M_meet l M hM x0.toInt (z32r x0).1 (z32r x0).2 x1.toInt (z32r x1).1 (z32r x1).2 T hO hB
  simp only [Int32.ofInt_toInt] at hC
  refine ⟨_, hC, ?_⟩
  rintro r N ⟨v, rfl, hv, hf, hp⟩
  exact ⟨⟨_, rfl, rfl, fun _ => rfl⟩, ⟨hf.old (by decide), hf.w hM, zWd.b h hf (by decide) (by decide) (by rw [hf.e (by decide)]; exact h1) (by rw [hf.e (by decide)]; exact h60) (by rw [hf.e (by decide)]; exact h57) (zB.fr hf h110 (by decide) (by decide)), (hf.e (by decide))⟩, fun j => hf.ie (by decide) (by decide) j, fun _ _ _ hs_ => zRSu.fr hf hs_ (by decide) (by decide)⟩
theorem w8_join (l : Launch) (M : zMem) (hM : zMt M) (h : zWd M) (x0 : Int32) (x1 : Int32) : zWk8 l m_M_join 1 [.ref 81, .int x0, .int x1] M := by
  obtain ⟨h1, h14, h18, h60, h57, hIF, h83, h110, T, hT, hB⟩ := id h
  have hO := gTabs_ok T hT
  have hX := gTabs_ex T hT
  obtain ⟨D, hD⟩ := hX.2.2.2.2.2
  have hi := hIF.1
  have hC := c_M_join l M hM x0.toInt (z32r x0).1 (z32r x0).2 x1.toInt (z32r x1).1 (z32r x1).2 T hO hB
  simp only [Int32.ofInt_toInt] at hC
  refine ⟨_, hC, ?_⟩
  rintro r N ⟨v, rfl, hv, hf, hp⟩
  exact ⟨⟨_, rfl, rfl, fun _ => rfl⟩, ⟨hf.old (by decide), hf.w hM, zWd.b h hf (by decide) (by decide) (by rw [hf.e (by decide)]; exact h1) (by rw [hf.e (by decide)]; exact h60) (by rw [hf.e (by decide)]; exact h57) (zB.fr hf h110 (by decide) (by decide)), (hf.e (by decide))⟩, fun j => hf.ie (by decide) (by decide) j, fun _ _ _ hs_ => zRSu.fr hf hs_ (by decide) (by decide)⟩
theorem w8_orders (l : Launch) (M : zMem) (hM : zMt M) (h : zWd M) (x0 : Int32) : zWk8 l m_M_orders 1 [.ref 81, .int x0] M := by
  obtain ⟨h1, h14, h18, h60, h57, hIF, h83, h110, T, hT, hB⟩ := id h
  have hO := gTabs_ok T hT
  have hX := gTabs_ex T hT
  obtain ⟨D, hD⟩ := hX.2.2.2.2.2
  have hi := hIF.1
  have hC := c_M_orders l M hM x0.toInt (z32r x0).1 (z32r x0).2 T hO hX hB
  simp only [Int32.ofInt_toInt] at hC
  refine ⟨_, hC, ?_⟩
  rintro r N ⟨v, rfl, hv, hf, hp⟩
  exact ⟨⟨_, rfl, rfl, fun _ => rfl⟩, ⟨hf.old (by decide), hf.w hM, zWd.b h hf (by decide) (by decide) (by rw [hf.e (by decide)]; exact h1) (by rw [hf.e (by decide)]; exact h60) (by rw [hf.e (by decide)]; exact h57) (zB.fr hf h110 (by decide) (by decide)), (hf.e (by decide))⟩, fun j => hf.ie (by decide) (by decide) j, fun _ _ _ hs_ => zRSu.fr hf hs_ (by decide) (by decide)⟩
theorem w8_likes (l : Launch) (M : zMem) (hM : zMt M) (h : zWd M) (x0 : Int32) : zWk8 l m_M_likes 1 [.ref 81, .int x0] M := by
  obtain ⟨h1, h14, h18, h60, h57, hIF, h83, h110, T, hT, hB⟩ := id h
  have hO := gTabs_ok T hT
  have hX := gTabs_ex T hT
  obtain ⟨D, hD⟩ := hX.2.2.2.2.2
  have hi := hIF.1
  have hC := c_M_likes l M hM x0.toInt (z32r x0).1 (z32r x0).2 T hO hB
  simp only [Int32.ofInt_toInt] at hC
  refine ⟨_, hC, ?_⟩
  rintro r N ⟨v, rfl, hv, hf, hp⟩
  exact ⟨⟨_, rfl, rfl, fun _ => rfl⟩, ⟨hf.old (by decide), hf.w hM, zWd.b h hf (by decide) (by decide) (by rw [hf.e (by decide)]; exact h1) (by rw [hf.e (by decide)]; exact h60) (by rw [hf.e (by decide)]; exact h57) (zB.fr hf h110 (by decide) (by decide)), (hf.e (by decide))⟩, fun j => hf.ie (by decide) (by decide) j, fun _ _ _ hs_ => zRSu.fr hf hs_ (by decide) (by decide)⟩
theorem w8_peak (l : Launch) (M : zMem) (hM : zMt M) (h : zWd M) (x0 : Int32) (x1 : Int32) (x2 : Int32) : zWk8 l m_M_peak 1 [.ref 81, .int x0, .int x1, .int x2] M := by
  obtain ⟨h1, h14, h18, h60, h57, hIF, h83, h110, T, hT, hB⟩ := id h
  have hO := gTabs_ok T hT
  have hX := gTabs_ex T hT
  obtain ⟨D, hD⟩ := hX.2.2.2.2.2
  have hi := hIF.1
  have hC := c_M_peak l M hM x0.toInt (z32r x0).1 (z32r x0).2 x1.toInt (z32r x1).1 (z32r x1).2 x2.toInt (z32r x2).1 (z32r x2).2 T hO D hD hB
  simp only [Int32.ofInt_toInt] at hC
  refine ⟨_, hC, ?_⟩
  rintro r N ⟨v, rfl, hv, hf, hp⟩
  exact ⟨⟨_, rfl, rfl, fun _ => rfl⟩, ⟨hf.old (by decide), hf.w hM, zWd.b h hf (by decide) (by decide) (by rw [hf.e (by decide)]; exact h1) (by rw [hf.e (by decide)]; exact h60) (by rw [hf.e (by decide)]; exact h57) (zB.fr hf h110 (by decide) (by decide)), (hf.e (by decide))⟩, fun j => hf.ie (by decide) (by decide) j, fun _ _ _ hs_ => zRSu.fr hf hs_ (by decide) (by decide)⟩
theorem w8_local (l : Launch) (M : zMem) (hM : zMt M) (h : zWd M) (x0 : Int32) (x1 : Int32) (x2 : Int32) (x3 : Int32) : zWk8 l m_M_local 1 [.ref 81, .int x0, .int x1, .int x2, .int x3] M := by
  obtain ⟨h1, h14, h18, h60, h57, hIF, h83, h110, T, hT, hB⟩ := id h
  have hO := gTabs_ok T hT
  have hX := gTabs_ex T hT
  obtain ⟨D, hD⟩ := hX.2.2.2.2.2
  have hi := hIF.1
  have hC := c_M_local l M hM x0.toInt (z32r x0).1 (z32r x0).2 x1.toInt (z32r x1).1 (z32r x1).2 x2.toInt (z32r x2).1 (z32r x2).2 x3.toInt (z32r x3).1 (z32r x3).2 T hO D hD hB
  simp only [Int32.ofInt_toInt] at hC
  refine ⟨_, hC, ?_⟩
  rintro r N ⟨v, rfl, hv, hf, hp⟩
  exact ⟨⟨_, rfl, rfl, fun _ => rfl⟩, ⟨hf.old (by decide), hf.w hM, zWd.b h hf (by decide) (by decide) (by rw [hf.e (by decide)]; exact h1) (by rw [hf.e (by decide)]; exact h60) (by rw [hf.e (by decide)]; exact h57) (zB.fr hf h110 (by decide) (by decide)), (hf.e (by decide))⟩, fun j => hf.ie (by decide) (by decide) j, fun _ _ _ hs_ => zRSu.fr hf hs_ (by decide) (by decide)⟩
theorem w8_units (l : Launch) (M : zMem) (hM : zMt M) (h : zWd M) (P : Nat) (mv : List Nat) (T : zGT) (hs : zRSu P mv T M) : ∃ Q' : Option Value → zMem → Prop, zC l m_M_units 0 0 [.ref 81] M Q' ∧ ∀ r N, Q' r N → (∃ v : Value, r = some v ∧ v.category = 1 ∧ ∀ ad, zv ad v = v) ∧ zGo M N (ze M 81 1) ∧ (∀ j : Nat, ze N 82 j = ze M 82 j) ∧ ∀ P mv T, zRSu P mv T M → zRSu P mv T N := by
  obtain ⟨h1, h14, h18, h60, h57, hIF, h83, h110, -⟩ := id h
  obtain ⟨hT, hTm, hB, h16, hmq, hCd, -⟩ := id hs.1
  have hP1 : 1 ≤ P := by have := hIF.1.1.1; omega
  have hP6 : P ≤ 6 := by have := hIF.1.1.2; omega
  have hmq2 : zMvF M = mv := hmq
  have hpm : ∀ g ∈ mv, gpm g := fun g hg => hIF.2.2.1 g (by rw [hmq2]; exact hg)
  have hGr := hTm.gr hpm
  have hO := gTabs_ok T hT
  have hX := gTabs_ex T hT
  obtain ⟨D, hD⟩ := hX.2.2.2.2.2
  have hi := hIF.1
  have hC := c_M_unitsS l M hM  T hO hX hT hGr hB h110 (by omega) (by omega) hs.2 
  refine ⟨_, hC, ?_⟩
  rintro r N ⟨v, rfl, hv, hf, hp⟩
  obtain ⟨p1, p2, p3, p4, p5, p6⟩ := hp
  have hyw : zyW T N := Or.inr ⟨p5, ⟨p2, p3⟩, p6⟩
  have hr8 : ∀ P mv T, zRSu P mv T M → zRSu P mv T N := fun P' mv' T' hs_ => by
    have e1 : zMvF M = mv := hs.1.2.2.2.2.1
    have e2 : zMvF M = mv' := hs_.1.2.2.2.2.1
    have e3 : mv' = mv := e2.symm.trans e1
    have e4 : T' = T := zTm_uq (by rw [← e3]; exact hs_.1.2.1) hs.1.2.1
    refine ⟨zRS.fr hf hs_.1 (by decide) (by decide), ?_⟩
    rw [e4]
    exact hyw
  exact ⟨⟨_, rfl, rfl, fun _ => rfl⟩, ⟨hf.old (by decide), hf.w hM, zWd.b h hf (by decide) (by decide) (by rw [hf.e (by decide)]; exact h1) (by rw [hf.e (by decide)]; exact h60) ⟨p2, p3⟩ p1, hf.e (by decide)⟩, fun j => hf.ie (by decide) (by decide) j, hr8⟩
theorem w8_unit (l : Launch) (M : zMem) (hM : zMt M) (h : zWd M) (P : Nat) (mv : List Nat) (T : zGT) (hs : zRSu P mv T M) (x0 : Int32) (x1 : Int32) : ∃ Q' : Option Value → zMem → Prop, zC l m_M_unit 0 0 [.ref 81, .int x0, .int x1] M Q' ∧ ∀ r N, Q' r N → (∃ v : Int, r = some (.int (Int32.ofInt v)) ∧ zfR P mv T x0.toInt x1.toInt v) ∧ zGo M N (ze M 81 1) ∧ (∀ j : Nat, ze N 82 j = ze M 82 j) ∧ ∀ P mv T, zRSu P mv T M → zRSu P mv T N := by
  obtain ⟨h1, h14, h18, h60, h57, hIF, h83, h110, -⟩ := id h
  obtain ⟨hT, hTm, hB, h16, hmq, hCd, -⟩ := id hs.1
  have hP1 : 1 ≤ P := by have := hIF.1.1.1; omega
  have hP6 : P ≤ 6 := by have := hIF.1.1.2; omega
  have hmq2 : zMvF M = mv := hmq
  have hpm : ∀ g ∈ mv, gpm g := fun g hg => hIF.2.2.1 g (by rw [hmq2]; exact hg)
  have hGr := hTm.gr hpm
  have hO := gTabs_ok T hT
  have hX := gTabs_ex T hT
  obtain ⟨D, hD⟩ := hX.2.2.2.2.2
  have hi := hIF.1
  have hC := c_M_unitS l M hM x0.toInt (z32r x0).1 (z32r x0).2 x1.toInt (z32r x1).1 (z32r x1).2 T hO hX hT hGr hB h110 (by omega) (by omega) hs.2 
  simp only [Int32.ofInt_toInt] at hC
  refine ⟨_, hC, ?_⟩
  rintro r N ⟨v, rfl, hv, hf, hp⟩
  obtain ⟨p1, p2, p3, p4, p5, p6⟩ := hp
  have hyw : zyW T N := p5.imp id (fun q => ⟨q.1, ⟨p2, p3⟩, q.2⟩)
  have hr8 : ∀ P mv T, zRSu P mv T M → zRSu P mv T N := fun P' mv' T' hs_ => by
    have e1 : zMvF M = mv := hs.1.2.2.2.2.1
    have e2 : zMvF M = mv' := hs_.1.2.2.2.2.1
    have e3 : mv' = mv := e2.symm.trans e1
    have e4 : T' = T := zTm_uq (by rw [← e3]; exact hs_.1.2.1) hs.1.2.1
    refine ⟨zRS.fr hf hs_.1 (by decide) (by decide), ?_⟩
    rw [e4]
    exact hyw
  exact ⟨⟨v, rfl, by
    rcases p6 with q | q
    · rcases p4 with ⟨c1, c2⟩ | ⟨c1, c2⟩
      · exact absurd c1.2 q
      · exact Or.inl ⟨q, c2⟩
    · exact Or.inr ⟨_, zuw N, p2, zyO_y hT hGr q.2, p4⟩⟩, ⟨hf.old (by decide), hf.w hM, zWd.b h hf (by decide) (by decide) (by rw [hf.e (by decide)]; exact h1) (by rw [hf.e (by decide)]; exact h60) ⟨p2, p3⟩ p1, hf.e (by decide)⟩, fun j => hf.ie (by decide) (by decide) j, hr8⟩
theorem w8_named (l : Launch) (M : zMem) (hM : zMt M) (h : zWd M) (x0 : Int32) (x1 : Int32) : zWk8 l m_M_named 2 [.ref 81, .int x0, .int x1] M := by
  obtain ⟨h1, h14, h18, h60, h57, hIF, h83, h110, T, hT, hB⟩ := id h
  have hO := gTabs_ok T hT
  have hX := gTabs_ex T hT
  obtain ⟨D, hD⟩ := hX.2.2.2.2.2
  have hi := hIF.1
  have hC := c_M_named l M hM x0.toInt (z32r x0).1 (z32r x0).2 x1.toInt (z32r x1).1 (z32r x1).2 T hO hB (by omega) (by omega)
  simp only [Int32.ofInt_toInt] at hC
  refine ⟨_, hC, ?_⟩
  rintro r N ⟨v, rfl, hv, hf, hp⟩
  exact ⟨⟨_, rfl, rfl, fun _ => rfl⟩, ⟨hf.old (by decide), hf.w hM, zWd.b h hf (by decide) (by decide) (by rw [hf.e (by decide)]; exact h1) (by rw [hf.e (by decide)]; exact h60) (by rw [hf.e (by decide)]; exact h57) (zB.fr hf h110 (by decide) (by decide)), (hf.e (by decide))⟩, fun j => hf.ie (by decide) (by decide) j, fun _ _ _ hs_ => zRSu.fr hf hs_ (by decide) (by decide)⟩
theorem w8_has (l : Launch) (M : zMem) (hM : zMt M) (h : zWd M) (x0 : Int32) : zWk8 l m_M_has 2 [.ref 81, .int x0] M := by
  obtain ⟨h1, h14, h18, h60, h57, hIF, h83, h110, T, hT, hB⟩ := id h
  have hO := gTabs_ok T hT
  have hX := gTabs_ex T hT
  obtain ⟨D, hD⟩ := hX.2.2.2.2.2
  have hi := hIF.1
  have hC := c_M_has l M hM x0.toInt (z32r x0).1 (z32r x0).2 T hO hB
  simp only [Int32.ofInt_toInt] at hC
  refine ⟨_, hC, ?_⟩
  rintro r N ⟨v, rfl, hv, hf, hp⟩
  exact ⟨⟨_, rfl, rfl, fun _ => rfl⟩, ⟨hf.old (by decide), hf.w hM, zWd.b h hf (by decide) (by decide) (by rw [hf.e (by decide)]; exact h1) (by rw [hf.e (by decide)]; exact h60) (by rw [hf.e (by decide)]; exact h57) (zB.fr hf h110 (by decide) (by decide)), (hf.e (by decide))⟩, fun j => hf.ie (by decide) (by decide) j, fun _ _ _ hs_ => zRSu.fr hf hs_ (by decide) (by decide)⟩
theorem w8_marked (l : Launch) (M : zMem) (hM : zMt M) (h : zWd M) (x0 : Int32) : zWk8 l m_M_marked 2 [.ref 81, .int x0] M := by
  obtain ⟨h1, h14, h18, h60, h57, hIF, h83, h110, T, hT, hB⟩ := id h
  have hO := gTabs_ok T hT
  have hX := gTabs_ex T hT
  obtain ⟨D, hD⟩ := hX.2.2.2.2.2
  have hi := hIF.1
  have hC := c_M_marked l M hM x0.toInt (z32r x0).1 (z32r x0).2 T hO hB
  simp only [Int32.ofInt_toInt] at hC
  refine ⟨_, hC, ?_⟩
  rintro r N ⟨v, rfl, hv, hf, hp⟩
  exact ⟨⟨_, rfl, rfl, fun _ => rfl⟩, ⟨hf.old (by decide), hf.w hM, zWd.b h hf (by decide) (by decide) (by rw [hf.e (by decide)]; exact h1) (by rw [hf.e (by decide)]; exact h60) (by rw [hf.e (by decide)]; exact h57) (zB.fr hf h110 (by decide) (by decide)), (hf.e (by decide))⟩, fun j => hf.ie (by decide) (by decide) j, fun _ _ _ hs_ => zRSu.fr hf hs_ (by decide) (by decide)⟩
theorem w8_character (l : Launch) (M : zMem) (hM : zMt M) (h : zWd M) (x0 : Int32) : zWk8 l m_M_character 2 [.ref 81, .int x0] M := by
  obtain ⟨h1, h14, h18, h60, h57, hIF, h83, h110, T, hT, hB⟩ := id h
  have hO := gTabs_ok T hT
  have hX := gTabs_ex T hT
  obtain ⟨D, hD⟩ := hX.2.2.2.2.2
  have hi := hIF.1
  have hC := c_M_character l M hM x0.toInt (z32r x0).1 (z32r x0).2 T hO hB
  simp only [Int32.ofInt_toInt] at hC
  refine ⟨_, hC, ?_⟩
  rintro r N ⟨v, rfl, hv, hf, hp⟩
  exact ⟨⟨_, rfl, rfl, fun _ => rfl⟩, ⟨hf.old (by decide), hf.w hM, zWd.b h hf (by decide) (by decide) (by rw [hf.e (by decide)]; exact h1) (by rw [hf.e (by decide)]; exact h60) (by rw [hf.e (by decide)]; exact h57) (zB.fr hf h110 (by decide) (by decide)), (hf.e (by decide))⟩, fun j => hf.ie (by decide) (by decide) j, fun _ _ _ hs_ => zRSu.fr hf hs_ (by decide) (by decide)⟩
theorem w8_parts (l : Launch) (M : zMem) (hM : zMt M) (h : zWd M) : zWk8 l m_M_parts 1 [.ref 81] M := by
  obtain ⟨h1, h14, h18, h60, h57, hIF, h83, h110, T, hT, hB⟩ := id h
  have hO := gTabs_ok T hT
  have hX := gTabs_ex T hT
  obtain ⟨D, hD⟩ := hX.2.2.2.2.2
  have hi := hIF.1
  have hC := c_M_parts l M hM  T hO hB
  refine ⟨_, hC, ?_⟩
  rintro r N ⟨v, rfl, hv, hf, hp⟩
  exact ⟨⟨_, rfl, rfl, fun _ => rfl⟩, ⟨hf.old (by decide), hf.w hM, zWd.b h hf (by decide) (by decide) (by rw [hf.e (by decide)]; exact h1) (by rw [hf.e (by decide)]; exact h60) (by rw [hf.e (by decide)]; exact h57) (zB.fr hf h110 (by decide) (by decide)), (hf.e (by decide))⟩, fun j => hf.ie (by decide) (by decide) j, fun _ _ _ hs_ => zRSu.fr hf hs_ (by decide) (by decide)⟩
theorem w8_congruence (l : Launch) (M : zMem) (hM : zMt M) (h : zWd M) (x0 : Int32) : zWk8 l m_M_congruence 2 [.ref 81, .int x0] M := by
  obtain ⟨h1, h14, h18, h60, h57, hIF, h83, h110, T, hT, hB⟩ := id h
  have hO := gTabs_ok T hT
  have hX := gTabs_ex T hT
  obtain ⟨D, hD⟩ := hX.2.2.2.2.2
  have hi := hIF.1
  have hC := c_M_congruence l M hM x0.toInt (z32r x0).1 (z32r x0).2 T hO hX hB
  simp only [Int32.ofInt_toInt] at hC
  refine ⟨_, hC, ?_⟩
  rintro r N ⟨v, rfl, hv, hf, hp⟩
  exact ⟨⟨_, rfl, rfl, fun _ => rfl⟩, ⟨hf.old (by decide), hf.w hM, zWd.b h hf (by decide) (by decide) (by rw [hf.e (by decide)]; exact h1) (by rw [hf.e (by decide)]; exact h60) (by rw [hf.e (by decide)]; exact h57) (zB.fr hf h110 (by decide) (by decide)), (hf.e (by decide))⟩, fun j => hf.ie (by decide) (by decide) j, fun _ _ _ hs_ => zRSu.fr hf hs_ (by decide) (by decide)⟩
theorem w8_is (l : Launch) (M : zMem) (hM : zMt M) (h : zWd M) (x0 : Int32) : zWk8 l m_M_is 1 [.ref 81, .int x0] M := by
  obtain ⟨h1, h14, h18, h60, h57, hIF, h83, h110, T, hT, hB⟩ := id h
  have hO := gTabs_ok T hT
  have hX := gTabs_ex T hT
  obtain ⟨D, hD⟩ := hX.2.2.2.2.2
  have hi := hIF.1
  have hC := c_M_is l M hM x0.toInt (z32r x0).1 (z32r x0).2 T hO hB
  simp only [Int32.ofInt_toInt] at hC
  refine ⟨_, hC, ?_⟩
  rintro r N ⟨v, rfl, hv, hf, hp⟩
  exact ⟨⟨_, rfl, rfl, fun _ => rfl⟩, ⟨hf.old (by decide), hf.w hM, zWd.b h hf (by decide) (by decide) (by rw [hf.e (by decide)]; exact h1) (by rw [hf.e (by decide)]; exact h60) (by rw [hf.e (by decide)]; exact h57) (zB.fr hf h110 (by decide) (by decide)), (hf.e (by decide))⟩, fun j => hf.ie (by decide) (by decide) j, fun _ _ _ hs_ => zRSu.fr hf hs_ (by decide) (by decide)⟩
theorem w8_makes (l : Launch) (M : zMem) (hM : zMt M) (h : zWd M) (b : Nat → Int) (n : Nat) (hrp : zRp b n M) (P0 : Nat) (mv0 : List Nat) (T0 : zGT) (hs0 : zRSu P0 mv0 T0 M) : zWk9 l m_M_makes 1 [.ref 81] M := by
  obtain ⟨h1, h14, h18, h60, h57, hIF, h83, h110, T, hT, hB⟩ := id h
  have hO := gTabs_ok T hT
  have hX := gTabs_ex T hT
  obtain ⟨D, hD⟩ := hX.2.2.2.2.2
  have hi := hIF.1
  obtain ⟨hT0, hTm0, hB0, h160, hmq0, hCd0, nm0, hnm0, hni0⟩ := id hs0.1
  have hO0 := gTabs_ok T0 hT0
  have hF0 : (gF T0).length ≤ 64 := by have := (gT_zTA hT0).1.2; omega
  have hC := c_M_makesN l M hM  T0 hO0 hT0 b n nm0 hB0 hrp hnm0.t (by omega) (by omega)
  refine ⟨_, hC, ?_⟩
  rintro r N ⟨v, rfl, hv, hf, hp⟩
  obtain ⟨p1, p2, p3, -⟩ := hp
  exact ⟨⟨_, rfl, rfl, fun _ => rfl⟩, ⟨hf.old (by decide), hf.w hM, zWd.b h hf (by decide) (by decide) ⟨by omega, by omega⟩ ⟨by omega, by omega⟩ (by rw [hf.e (by decide)]; exact h57) (zB.fr hf h110 (by decide) (by decide)), (by omega)⟩, fun _ _ _ hs_ => zRSu.fr hf hs_ (by decide) (by decide)⟩
theorem w8_take (l : Launch) (M : zMem) (hM : zMt M) (h : zWd M) (x0 : Int32) (x1 : Int32) : zWk8 l m_M_take 1 [.ref 81, .int x0, .int x1] M := by
  obtain ⟨h1, h14, h18, h60, h57, hIF, h83, h110, T, hT, hB⟩ := id h
  have hO := gTabs_ok T hT
  have hX := gTabs_ex T hT
  obtain ⟨D, hD⟩ := hX.2.2.2.2.2
  have hi := hIF.1
  have hC := c_M_take l M hM x0.toInt (z32r x0).1 (z32r x0).2 x1.toInt (z32r x1).1 (z32r x1).2 T hO hB (by omega) (by omega) (by omega) (by omega)
  simp only [Int32.ofInt_toInt] at hC
  refine ⟨_, hC, ?_⟩
  rintro r N ⟨v, rfl, hv, hf, hp⟩
  exact ⟨⟨_, rfl, rfl, fun _ => rfl⟩, ⟨hf.old (by decide), hf.w hM, zWd.b h hf (by decide) (by decide) (by rw [hf.e (by decide)]; exact h1) ⟨by omega, by omega⟩ (by rw [hf.e (by decide)]; exact h57) (zB.fr hf h110 (by decide) (by decide)), (hf.e (by decide))⟩, fun j => hf.ie (by decide) (by decide) j, fun _ _ _ hs_ => zRSu.fr hf hs_ (by decide) (by decide)⟩
theorem w8_marks (l : Launch) (M : zMem) (hM : zMt M) (h : zWd M) : zWk9 l m_M_marks 1 [.ref 81] M := by
  obtain ⟨h1, h14, h18, h60, h57, hIF, h83, h110, T, hT, hB⟩ := id h
  have hO := gTabs_ok T hT
  have hX := gTabs_ex T hT
  obtain ⟨D, hD⟩ := hX.2.2.2.2.2
  have hi := hIF.1
  have hC := c_M_marks l M hM  T hO hX hB (by omega) (by omega) (by omega) (by omega)
  refine ⟨_, hC, ?_⟩
  rintro r N ⟨v, rfl, hv, hf, hp⟩
  exact ⟨⟨_, rfl, rfl, fun _ => rfl⟩, ⟨hf.old (by decide), hf.w hM, zWd.b h hf (by decide) (by decide) ⟨by omega, by omega⟩ ⟨by omega, by omega⟩ (by rw [hf.e (by decide)]; exact h57) (zB.fr hf h110 (by decide) (by decide)), (by omega)⟩, fun _ _ _ hs_ => zRSu.fr hf hs_ (by decide) (by decide)⟩
theorem w8_uses (l : Launch) (M : zMem) (hM : zMt M) (h : zWd M) (x0 : Int32) : zWk8 l m_M_uses 1 [.ref 81, .int x0] M := by
  obtain ⟨h1, h14, h18, h60, h57, hIF, h83, h110, T, hT, hB⟩ := id h
  have hO := gTabs_ok T hT
  have hX := gTabs_ex T hT
  obtain ⟨D, hD⟩ := hX.2.2.2.2.2
  have hi := hIF.1
  have hC := c_M_uses l M hM x0.toInt (z32r x0).1 (z32r x0).2 T hO hB (by omega) (by omega) (by omega) (by omega)
  simp only [Int32.ofInt_toInt] at hC
  refine ⟨_, hC, ?_⟩
  rintro r N ⟨v, rfl, hv, hf, hp⟩
  exact ⟨⟨_, rfl, rfl, fun _ => rfl⟩, ⟨hf.old (by decide), hf.w hM, zWd.b h hf (by decide) (by decide) (by rw [hf.e (by decide)]; exact h1) ⟨by omega, by omega⟩ (by rw [hf.e (by decide)]; exact h57) (zB.fr hf h110 (by decide) (by decide)), (hf.e (by decide))⟩, fun j => hf.ie (by decide) (by decide) j, fun _ _ _ hs_ => zRSu.fr hf hs_ (by decide) (by decide)⟩
theorem w8_grows (l : Launch) (M : zMem) (hM : zMt M) (h : zWd M) (x0 : Int32) (x1 : Int32) (x2 : Int32) : zWk8 l m_M_grows 2 [.ref 81, .int x0, .int x1, .int x2] M := by
  obtain ⟨h1, h14, h18, h60, h57, hIF, h83, h110, T, hT, hB⟩ := id h
  have hO := gTabs_ok T hT
  have hX := gTabs_ex T hT
  obtain ⟨D, hD⟩ := hX.2.2.2.2.2
  have hi := hIF.1
  have hC := c_M_grows l M hM x0.toInt (z32r x0).1 (z32r x0).2 x1.toInt (z32r x1).1 (z32r x1).2 x2.toInt (z32r x2).1 (z32r x2).2 T hO hB (by omega) (by omega)
  simp only [Int32.ofInt_toInt] at hC
  refine ⟨_, hC, ?_⟩
  rintro r N ⟨v, rfl, hv, hf, hp⟩
  exact ⟨⟨_, rfl, rfl, fun _ => rfl⟩, ⟨hf.old (by decide), hf.w hM, zWd.b h hf (by decide) (by decide) (by rw [hf.e (by decide)]; exact h1) ⟨by omega, by omega⟩ (by rw [hf.e (by decide)]; exact h57) (zB.fr hf h110 (by decide) (by decide)), (hf.e (by decide))⟩, fun j => hf.ie (by decide) (by decide) j, fun _ _ _ hs_ => zRSu.fr hf hs_ (by decide) (by decide)⟩
theorem w8_undo (l : Launch) (M : zMem) (hM : zMt M) (h : zWd M) : zWk8 l m_M_undo 1 [.ref 81] M := by
  obtain ⟨h1, h14, h18, h60, h57, hIF, h83, h110, T, hT, hB⟩ := id h
  have hO := gTabs_ok T hT
  have hX := gTabs_ex T hT
  obtain ⟨D, hD⟩ := hX.2.2.2.2.2
  have hi := hIF.1
  have hC := c_M_undo l M hM   (by omega) (by omega)
  refine ⟨_, hC, ?_⟩
  rintro r N ⟨v, rfl, hv, hf, hp⟩
  exact ⟨⟨_, rfl, rfl, fun _ => rfl⟩, ⟨hf.old (by decide), hf.w hM, zWd.b h hf (by decide) (by decide) (by rw [hf.e (by decide)]; exact h1) ⟨by omega, by omega⟩ (by rw [hf.e (by decide)]; exact h57) (zB.fr hf h110 (by decide) (by decide)), (hf.e (by decide))⟩, fun j => hf.ie (by decide) (by decide) j, fun _ _ _ hs_ => zRSu.fr hf hs_ (by decide) (by decide)⟩
