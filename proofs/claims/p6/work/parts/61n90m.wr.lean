def zWkA (l : Launch) (k : zMeth) (n : Nat) (vs : List Value) (M : zMem) : Prop := ∃ Q' : Option Value → zMem → Prop, zC l k 0 0 vs M Q' ∧ ∀ r N, Q' r N → (∃ v : Value, r = some v ∧ v.category = n ∧ ∀ ad, zv ad v = v) ∧ zGo M N (ze M 81 1) ∧ (∀ j : Nat, ze N 82 j = ze M 82 j) ∧ ∀ P mv T nm s, zRXn P mv T nm s M → zRXn P mv T nm s N
def zfR (P : Nat) (mv : List Nat) (T : zGT) (nm : List (Int × (Nat → Int))) (s : zSg) (ta : Int) (a : Int) (v : Int) : Prop := zfAb P mv T nm s ta a v
theorem zfR_u {P : Nat} {mv : List Nat} {T : zGT} {nm : List (Int × (Nat → Int))} {s : zSg} {ta : Int} {a : Int} {v w : Int} (h : zfR P mv T nm s ta a v) (h2 : zfR P mv T nm s ta a w) : v = w := by
  unfold zfR at h h2
  exact zfAb_u h h2
theorem w9_feed (l : Launch) (M : zMem) (hM : zMt M) (h : zWd M) (x0 : Int32) (x1 : Int32) (x2 : Int32) (x3 : Int32) (x4 : Int32) : ∃ Q' : Option Value → zMem → Prop, zC l m_M_feed 0 0 [.ref 81, .int x0, .int x1, .int x2, .int x3, .int x4] M Q' ∧ ∀ r N, Q' r N → ∃ v : Int, r = some (.int (Int32.ofInt v)) ∧ (∀ P mv T nm s, zRXn P mv T nm s M → zRXn P mv T nm s N) ∧ ((700 < ze M 81 1 + 20 ∧ v = -1 ∧ zGo M N (ze M 81 1) ∧ ∀ j : Nat, ze N 82 j = ze M 82 j) ∨ (ze M 81 1 + 20 ≤ 700 ∧ v = ze M 81 1 + 20 ∧ zGo M N (ze M 81 1 + 20) ∧ ∀ j : Nat, ze N 82 j = zfd5 (fun j => ze M 82 j) (ze M 81 1) x0.toInt x1.toInt x2.toInt x3.toInt x4.toInt j)) := by
  obtain ⟨h1, h14, h18, h60, h57, hIF, h83, h110, T, hT, hB⟩ := id h
  have hO := gTabs_ok T hT
  have hX := gTabs_ex T hT
  obtain ⟨D, hD⟩ := hX.2.2.2.2.2
  have hi := hIF.1
  have hC := c_M_feedF l M hM x0.toInt (z32r x0).1 (z32r x0).2 x1.toInt (z32r x1).1 (z32r x1).2 x2.toInt (z32r x2).1 (z32r x2).2 x3.toInt (z32r x3).1 (z32r x3).2 x4.toInt (z32r x4).1 (z32r x4).2  (by omega) (by omega)
  simp only [Int32.ofInt_toInt] at hC
  refine ⟨_, hC, ?_⟩
  rintro r N ⟨v, rfl, hv, hf, hp⟩
  have hw : zWd N := zWd.b h hf (by decide) (by decide) ⟨by omega, by omega⟩ (by rw [hf.e (by decide)]; exact h60) (by rw [hf.e (by decide)]; exact h57) (zB.fr hf h110 (by decide) (by decide))
  refine ⟨v, rfl, fun _ _ _ _ _ hs_ => zRXn.fr hf hs_ (by decide) (by decide), ?_⟩
  rcases hp with ⟨a1, a2, a3, a4⟩ | ⟨a1, a2, a3, a4⟩
  · exact Or.inl ⟨a1, a2, ⟨hf.old (by decide), hf.w hM, hw, a3⟩, a4⟩
  · exact Or.inr ⟨a1, a2, ⟨hf.old (by decide), hf.w hM, hw, a3⟩, a4⟩
theorem w9_end (l : Launch) (M : zMem) (hM : zMt M) (h : zWd M) (x0 : Int32) : ∃ Q' : Option Value → zMem → Prop, zC l m_M_end 0 0 [.ref 81, .int x0] M Q' ∧ ∀ r N, Q' r N → (∃ v : Int32, r = some (.int v)) ∧ (∀ P mv T nm s, zRXn P mv T nm s M → zRXn P mv T nm s N) ∧ (∀ j : Nat, ze N 82 j = ze M 82 j) ∧ (((x0.toInt < 0 ∨ ze M 81 1 < x0.toInt) ∧ zGo M N (ze M 81 1)) ∨ (0 ≤ x0.toInt ∧ x0.toInt ≤ ze M 81 1 ∧ zGo M N x0.toInt)) := by
  obtain ⟨h1, h14, h18, h60, h57, hIF, h83, h110, T, hT, hB⟩ := id h
  have hO := gTabs_ok T hT
  have hX := gTabs_ex T hT
  obtain ⟨D, hD⟩ := hX.2.2.2.2.2
  have hi := hIF.1
  have hC := c_M_end l M hM x0.toInt (z32r x0).1 (z32r x0).2  (by omega) (by omega)
  simp only [Int32.ofInt_toInt] at hC
  refine ⟨_, hC, ?_⟩
  rintro r N ⟨v, rfl, hv, hf, hp⟩
  have hw : zWd N := zWd.b h hf (by decide) (by decide) ⟨by omega, by omega⟩ (by rw [hf.e (by decide)]; exact h60) (by rw [hf.e (by decide)]; exact h57) (zB.fr hf h110 (by decide) (by decide))
  refine ⟨⟨_, rfl⟩, fun _ _ _ _ _ hs_ => zRXn.fr hf hs_ (by decide) (by decide), fun j => hf.ie (by decide) (by decide) j, ?_⟩
  rcases hp with ⟨a1, a2, a3⟩ | ⟨a1, a2, a3, a4⟩
  · exact Or.inl ⟨a1, hf.old (by decide), hf.w hM, hw, a3⟩
  · exact Or.inr ⟨a1, a2, hf.old (by decide), hf.w hM, hw, a4⟩
theorem w9_troupe (l : Launch) (M : zMem) (hM : zMt M) (h : zWd M) (b : Nat → Int) (n : Nat) (hrp : zRp b n M) (P : Nat) (mv : List Nat) (T : zGT) (nm : List (Int × (Nat → Int))) (s : zSg) (hx : zRXn P mv T nm s M) (hb : zSB (gF T).length s) : ∃ Q' : Option Value → zMem → Prop, zC l m_M_troupe 0 0 [.ref 81] M Q' ∧ ∀ r N, Q' r N → (∃ v : Value, r = some v ∧ v.category = 1 ∧ ∀ ad, zv ad v = v) ∧ zGo M N 0 ∧ ((zTrB b n (zru zpB b n 0) ∧ zRXn P mv T nm s N) ∨ ∃ P mv T nm, zTrN b n (zru zpB b n 0) P mv T nm ∧ zRXn P mv T nm zS00 N) := by
  obtain ⟨h1, h14, h18, h60, h57, hIF, h83, h110, -⟩ := id h
  obtain ⟨hrs, hnm, hni, hsr⟩ := id hx
  obtain ⟨hT, hTm, hB, h16, hmq, hCd, -⟩ := id hrs
  have hP1 : 1 ≤ P := by have := hIF.1.1.1; omega
  have hP6 : P ≤ 6 := by have := hIF.1.1.2; omega
  have hmq2 : zMvF M = mv := hmq
  have hpm : ∀ g ∈ mv, gpm g := fun g hg => hIF.2.2.1 g (by rw [hmq2]; exact hg)
  have hGr := hTm.gr hpm
  have hF64 : (gF T).length ≤ 64 := by have := (gT_zTA hT).1.2; omega
  have hO := gTabs_ok T hT
  have hX := gTabs_ex T hT
  obtain ⟨D, hD⟩ := hX.2.2.2.2.2
  have hi := hIF.1
  have hC := c_M_troupeN l M hM  b n (zMvF M) (gF T).length (gmkI T) hF64 nm hrp hIF (by omega) (by omega) h83 hB.2.1 (by omega) (by omega) rfl hni
  refine ⟨_, hC, ?_⟩
  rintro r N ⟨v, rfl, hv, hf, p1, p2, p3, p4, p5, p6, p7, p8, p9, p10, p11⟩
  refine ⟨⟨_, rfl, rfl, fun _ => rfl⟩, ⟨hf.old (by decide), hf.w hM, ⟨⟨by omega, by omega⟩, ⟨p2, p3⟩, ⟨p4, p5⟩, ⟨p6, p7⟩, by rw [hf.e (by decide)]; exact h57, p8, p9, zB.fr hf h110 (by decide) (by decide), p10⟩, p1⟩, ?_⟩
  rcases p11 with ⟨-, hb2, ⟨T1, t1, t2, t3, t6⟩, hq, h162, u1, u2, u3, u4⟩ | ⟨P1, mv1, T1, nm1, t1, -, t3, t4, t5, t6, u1, u2, u3, u4⟩
  · refine Or.inl ⟨hb2, ?_⟩
    rw [hmq2] at t3 t6 hq
    obtain rfl := zTm_uq hTm t3
    have g111 : ∀ j : Nat, zg N 111 j = zg M 111 j := fun j => hf.jg (by decide) (by decide) j
    exact ⟨⟨t1, t3, t2, by rw [h162]; exact h16, hq, t6.p h16.symm, nm, u1.t, u2⟩, u1.t, u2, ⟨by rw [u4]; exact hsr.1.1, hsr.1.2⟩, fun k hk => (u3 k).trans (hsr.2.1 k hk), fun m k hm hk => (g111 _).trans (hsr.2.2 m k hm hk)⟩
  · refine Or.inr ⟨P1, mv1, T1, nm1, t1, ?_⟩
    obtain ⟨q, q2, q3, c1, c2, c3, c4, c5⟩ := id t1
    have hF : (gF T1).length ≤ 64 := by have := (gT_zTA c3).1.2; omega
    exact ⟨⟨c3, c4, t3, t5, t4, t6, nm1, u1.t, u2⟩, u1.t, u2, ⟨by rw [u4]; rfl, Nat.zero_le _⟩, fun k hk => u3.2 k (by omega), fun m k hm _ => absurd hm (Nat.not_lt_zero m)⟩
theorem w9_fault (l : Launch) (M : zMem) (hM : zMt M) (h : zWd M) (x0 : Int32) : zWkA l m_M_fault 1 [.ref 81, .int x0] M := by
  obtain ⟨h1, h14, h18, h60, h57, hIF, h83, h110, T, hT, hB⟩ := id h
  have hO := gTabs_ok T hT
  have hX := gTabs_ex T hT
  obtain ⟨D, hD⟩ := hX.2.2.2.2.2
  have hi := hIF.1
  have hC := c_M_fault l M hM x0.toInt (z32r x0).1 (z32r x0).2  
  simp only [Int32.ofInt_toInt] at hC
  refine ⟨_, hC, ?_⟩
  rintro r N ⟨v, rfl, hv, hf, hp⟩
  exact ⟨⟨_, rfl, rfl, fun _ => rfl⟩, ⟨hf.old (by decide), hf.w hM, zWd.b h hf (by decide) (by decide) (by rw [hf.e (by decide)]; exact h1) (by rw [hf.e (by decide)]; exact h60) (by rw [hf.e (by decide)]; exact h57) (zB.fr hf h110 (by decide) (by decide)), hf.e (by decide)⟩, fun j => hf.ie (by decide) (by decide) j, fun _ _ _ _ _ hs_ => zRXn.fr hf hs_ (by decide) (by decide)⟩
theorem w9_about (l : Launch) (M : zMem) (hM : zMt M) (h : zWd M) (P : Nat) (mv : List Nat) (T : zGT) (nm : List (Int × (Nat → Int))) (s : zSg) (hx : zRXn P mv T nm s M) (hb : zSB (gF T).length s) (x0 : Int32) : ∃ Q' : Option Value → zMem → Prop, zC l m_M_about 0 0 [.ref 81, .int x0] M Q' ∧ ∀ r N, Q' r N → (∃ v : Int, r = some (.int (Int32.ofInt v)) ∧ zfR P mv T nm s (ze M 81 1) x0.toInt v) ∧ zGo M N (ze M 81 1) ∧ (∀ j : Nat, ze N 82 j = ze M 82 j) ∧ ∀ P mv T nm s, zRXn P mv T nm s M → zRXn P mv T nm s N := by
  obtain ⟨h1, h14, h18, h60, h57, hIF, h83, h110, -⟩ := id h
  obtain ⟨hrs, hnm, hni, hsr⟩ := id hx
  obtain ⟨hT, hTm, hB, h16, hmq, hCd, -⟩ := id hrs
  have hP1 : 1 ≤ P := by have := hIF.1.1.1; omega
  have hP6 : P ≤ 6 := by have := hIF.1.1.2; omega
  have hmq2 : zMvF M = mv := hmq
  have hpm : ∀ g ∈ mv, gpm g := fun g hg => hIF.2.2.1 g (by rw [hmq2]; exact hg)
  have hGr := hTm.gr hpm
  have hF64 : (gF T).length ≤ 64 := by have := (gT_zTA hT).1.2; omega
  have hO := gTabs_ok T hT
  have hX := gTabs_ex T hT
  obtain ⟨D, hD⟩ := hX.2.2.2.2.2
  have hi := hIF.1
  have hC := c_M_aboutS l M hM x0.toInt (z32r x0).1 (z32r x0).2 T hO P mv s nm hB h16 (by have := hIF.1.2.1; omega) hmq hni hsr 
  simp only [Int32.ofInt_toInt] at hC
  refine ⟨_, hC, ?_⟩
  rintro r N ⟨v, rfl, hv, hf, hp⟩
  exact ⟨⟨v, rfl, hp⟩, ⟨hf.old (by decide), hf.w hM, zWd.b h hf (by decide) (by decide) (by rw [hf.e (by decide)]; exact h1) (by rw [hf.e (by decide)]; exact h60) (by rw [hf.e (by decide)]; exact h57) (zB.fr hf h110 (by decide) (by decide)), hf.e (by decide)⟩, fun j => hf.ie (by decide) (by decide) j, fun _ _ _ _ _ hs_ => zRXn.fr hf hs_ (by decide) (by decide)⟩
theorem w9_moves (l : Launch) (M : zMem) (hM : zMt M) (h : zWd M) (x0 : Int32) (x1 : Int32) : zWkA l m_M_moves 1 [.ref 81, .int x0, .int x1] M := by
  obtain ⟨h1, h14, h18, h60, h57, hIF, h83, h110, T, hT, hB⟩ := id h
  have hO := gTabs_ok T hT
  have hX := gTabs_ex T hT
  obtain ⟨D, hD⟩ := hX.2.2.2.2.2
  have hi := hIF.1
  have hC := c_M_moves l M hM x0.toInt (z32r x0).1 (z32r x0).2 x1.toInt (z32r x1).1 (z32r x1).2 T hO hB (by omega) (by omega)
  simp only [Int32.ofInt_toInt] at hC
  refine ⟨_, hC, ?_⟩
  rintro r N ⟨v, rfl, hv, hf, hp⟩
  exact ⟨⟨_, rfl, rfl, fun _ => rfl⟩, ⟨hf.old (by decide), hf.w hM, zWd.b h hf (by decide) (by decide) (by rw [hf.e (by decide)]; exact h1) (by rw [hf.e (by decide)]; exact h60) (by rw [hf.e (by decide)]; exact h57) (zB.fr hf h110 (by decide) (by decide)), hf.e (by decide)⟩, fun j => hf.ie (by decide) (by decide) j, fun _ _ _ _ _ hs_ => zRXn.fr hf hs_ (by decide) (by decide)⟩
theorem w9_times (l : Launch) (M : zMem) (hM : zMt M) (h : zWd M) (x0 : Int32) (x1 : Int32) : zWkA l m_M_times 1 [.ref 81, .int x0, .int x1] M := by
  obtain ⟨h1, h14, h18, h60, h57, hIF, h83, h110, T, hT, hB⟩ := id h
  have hO := gTabs_ok T hT
  have hX := gTabs_ex T hT
  obtain ⟨D, hD⟩ := hX.2.2.2.2.2
  have hi := hIF.1
  have hC := c_M_times l M hM x0.toInt (z32r x0).1 (z32r x0).2 x1.toInt (z32r x1).1 (z32r x1).2 T hO hB
  simp only [Int32.ofInt_toInt] at hC
  refine ⟨_, hC, ?_⟩
  rintro r N ⟨v, rfl, hv, hf, hp⟩
  exact ⟨⟨_, rfl, rfl, fun _ => rfl⟩, ⟨hf.old (by decide), hf.w hM, zWd.b h hf (by decide) (by decide) (by rw [hf.e (by decide)]; exact h1) (by rw [hf.e (by decide)]; exact h60) (by rw [hf.e (by decide)]; exact h57) (zB.fr hf h110 (by decide) (by decide)), hf.e (by decide)⟩, fun j => hf.ie (by decide) (by decide) j, fun _ _ _ _ _ hs_ => zRXn.fr hf hs_ (by decide) (by decide)⟩
theorem w9_order (l : Launch) (M : zMem) (hM : zMt M) (h : zWd M) (x0 : Int32) : zWkA l m_M_order 1 [.ref 81, .int x0] M := by
  obtain ⟨h1, h14, h18, h60, h57, hIF, h83, h110, T, hT, hB⟩ := id h
  have hO := gTabs_ok T hT
  have hX := gTabs_ex T hT
  obtain ⟨D, hD⟩ := hX.2.2.2.2.2
  have hi := hIF.1
  have hC := c_M_order l M hM x0.toInt (z32r x0).1 (z32r x0).2 T hO hX hB
  simp only [Int32.ofInt_toInt] at hC
  refine ⟨_, hC, ?_⟩
  rintro r N ⟨v, rfl, hv, hf, hp⟩
  exact ⟨⟨_, rfl, rfl, fun _ => rfl⟩, ⟨hf.old (by decide), hf.w hM, zWd.b h hf (by decide) (by decide) (by rw [hf.e (by decide)]; exact h1) (by rw [hf.e (by decide)]; exact h60) (by rw [hf.e (by decide)]; exact h57) (zB.fr hf h110 (by decide) (by decide)), hf.e (by decide)⟩, fun j => hf.ie (by decide) (by decide) j, fun _ _ _ _ _ hs_ => zRXn.fr hf hs_ (by decide) (by decide)⟩
theorem w9_makesOf (l : Launch) (M : zMem) (hM : zMt M) (h : zWd M) (x0 : Int32) : zWkA l m_M_makesOf 1 [.ref 81, .int x0] M := by
  obtain ⟨h1, h14, h18, h60, h57, hIF, h83, h110, T, hT, hB⟩ := id h
  have hO := gTabs_ok T hT
  have hX := gTabs_ex T hT
  obtain ⟨D, hD⟩ := hX.2.2.2.2.2
  have hi := hIF.1
  have hC := c_M_makesOf l M hM x0.toInt (z32r x0).1 (z32r x0).2 T hO hB
  simp only [Int32.ofInt_toInt] at hC
  refine ⟨_, hC, ?_⟩
  rintro r N ⟨v, rfl, hv, hf, hp⟩
  exact ⟨⟨_, rfl, rfl, fun _ => rfl⟩, ⟨hf.old (by decide), hf.w hM, zWd.b h hf (by decide) (by decide) (by rw [hf.e (by decide)]; exact h1) (by rw [hf.e (by decide)]; exact h60) (by rw [hf.e (by decide)]; exact h57) (zB.fr hf h110 (by decide) (by decide)), hf.e (by decide)⟩, fun j => hf.ie (by decide) (by decide) j, fun _ _ _ _ _ hs_ => zRXn.fr hf hs_ (by decide) (by decide)⟩
theorem w9_sortOf (l : Launch) (M : zMem) (hM : zMt M) (h : zWd M) (x0 : Int32) : zWkA l m_M_sortOf 1 [.ref 81, .int x0] M := by
  obtain ⟨h1, h14, h18, h60, h57, hIF, h83, h110, T, hT, hB⟩ := id h
  have hO := gTabs_ok T hT
  have hX := gTabs_ex T hT
  obtain ⟨D, hD⟩ := hX.2.2.2.2.2
  have hi := hIF.1
  have hC := c_M_sortOf l M hM x0.toInt (z32r x0).1 (z32r x0).2 T hO hB
  simp only [Int32.ofInt_toInt] at hC
  refine ⟨_, hC, ?_⟩
  rintro r N ⟨v, rfl, hv, hf, hp⟩
  exact ⟨⟨_, rfl, rfl, fun _ => rfl⟩, ⟨hf.old (by decide), hf.w hM, zWd.b h hf (by decide) (by decide) (by rw [hf.e (by decide)]; exact h1) (by rw [hf.e (by decide)]; exact h60) (by rw [hf.e (by decide)]; exact h57) (zB.fr hf h110 (by decide) (by decide)), hf.e (by decide)⟩, fun j => hf.ie (by decide) (by decide) j, fun _ _ _ _ _ hs_ => zRXn.fr hf hs_ (by decide) (by decide)⟩
theorem w9_sort (l : Launch) (M : zMem) (hM : zMt M) (h : zWd M) (x0 : Int32) (x1 : Int32) : zWkA l m_M_sort 1 [.ref 81, .int x0, .int x1] M := by
  obtain ⟨h1, h14, h18, h60, h57, hIF, h83, h110, T, hT, hB⟩ := id h
  have hO := gTabs_ok T hT
  have hX := gTabs_ex T hT
  obtain ⟨D, hD⟩ := hX.2.2.2.2.2
  have hi := hIF.1
  have hC := c_M_sort l M hM x0.toInt (z32r x0).1 (z32r x0).2 x1.toInt (z32r x1).1 (z32r x1).2 T hO hB
  simp only [Int32.ofInt_toInt] at hC
  refine ⟨_, hC, ?_⟩
  rintro r N ⟨v, rfl, hv, hf, hp⟩
  exact ⟨⟨_, rfl, rfl, fun _ => rfl⟩, ⟨hf.old (by decide), hf.w hM, zWd.b h hf (by decide) (by decide) (by rw [hf.e (by decide)]; exact h1) (by rw [hf.e (by decide)]; exact h60) (by rw [hf.e (by decide)]; exact h57) (zB.fr hf h110 (by decide) (by decide)), hf.e (by decide)⟩, fun j => hf.ie (by decide) (by decide) j, fun _ _ _ _ _ hs_ => zRXn.fr hf hs_ (by decide) (by decide)⟩
theorem w9_within (l : Launch) (M : zMem) (hM : zMt M) (h : zWd M) (x0 : Int32) (x1 : Int32) : zWkA l m_M_within 1 [.ref 81, .int x0, .int x1] M := by
  obtain ⟨h1, h14, h18, h60, h57, hIF, h83, h110, T, hT, hB⟩ := id h
  have hO := gTabs_ok T hT
  have hX := gTabs_ex T hT
  obtain ⟨D, hD⟩ := hX.2.2.2.2.2
  have hi := hIF.1
  have hC := c_M_within l M hM x0.toInt (z32r x0).1 (z32r x0).2 x1.toInt (z32r x1).1 (z32r x1).2 T hO hB
  simp only [Int32.ofInt_toInt] at hC
  refine ⟨_, hC, ?_⟩
  rintro r N ⟨v, rfl, hv, hf, hp⟩
  exact ⟨⟨_, rfl, rfl, fun _ => rfl⟩, ⟨hf.old (by decide), hf.w hM, zWd.b h hf (by decide) (by decide) (by rw [hf.e (by decide)]; exact h1) (by rw [hf.e (by decide)]; exact h60) (by rw [hf.e (by decide)]; exact h57) (zB.fr hf h110 (by decide) (by decide)), hf.e (by decide)⟩, fun j => hf.ie (by decide) (by decide) j, fun _ _ _ _ _ hs_ => zRXn.fr hf hs_ (by decide) (by decide)⟩
theorem w9_mark (l : Launch) (M : zMem) (hM : zMt M) (h : zWd M) (x0 : Int32) (x1 : Int32) : zWkA l m_M_mark 1 [.ref 81, .int x0, .int x1] M := by
  obtain ⟨h1, h14, h18, h60, h57, hIF, h83, h110, T, hT, hB⟩ := id h
  have hO := gTabs_ok T hT
  have hX := gTabs_ex T hT
  obtain ⟨D, hD⟩ := hX.2.2.2.2.2
  have hi := hIF.1
  have hC := c_M_mark l M hM x0.toInt (z32r x0).1 (z32r x0).2 x1.toInt (z32r x1).1 (z32r x1).2 T hO hB
  simp only [Int32.ofInt_toInt] at hC
  refine ⟨_, hC, ?_⟩
  rintro r N ⟨v, rfl, hv, hf, hp⟩
  exact ⟨⟨_, rfl, rfl, fun _ => rfl⟩, ⟨hf.old (by decide), hf.w hM, zWd.b h hf (by decide) (by decide) (by rw [hf.e (by decide)]; exact h1) (by rw [hf.e (by decide)]; exact h60) (by rw [hf.e (by decide)]; exact h57) (zB.fr hf h110 (by decide) (by decide)), hf.e (by decide)⟩, fun j => hf.ie (by decide) (by decide) j, fun _ _ _ _ _ hs_ => zRXn.fr hf hs_ (by decide) (by decide)⟩
theorem w9_product (l : Launch) (M : zMem) (hM : zMt M) (h : zWd M) (x0 : Int32) (x1 : Int32) (x2 : Int32) : zWkA l m_M_product 1 [.ref 81, .int x0, .int x1, .int x2] M := by
  obtain ⟨h1, h14, h18, h60, h57, hIF, h83, h110, T, hT, hB⟩ := id h
  have hO := gTabs_ok T hT
  have hX := gTabs_ex T hT
  obtain ⟨D, hD⟩ := hX.2.2.2.2.2
  have hi := hIF.1
  have hC := c_M_product l M hM x0.toInt (z32r x0).1 (z32r x0).2 x1.toInt (z32r x1).1 (z32r x1).2 x2.toInt (z32r x2).1 (z32r x2).2 T hO hB
  simp only [Int32.ofInt_toInt] at hC
  refine ⟨_, hC, ?_⟩
  rintro r N ⟨v, rfl, hv, hf, hp⟩
  exact ⟨⟨_, rfl, rfl, fun _ => rfl⟩, ⟨hf.old (by decide), hf.w hM, zWd.b h hf (by decide) (by decide) (by rw [hf.e (by decide)]; exact h1) (by rw [hf.e (by decide)]; exact h60) (by rw [hf.e (by decide)]; exact h57) (zB.fr hf h110 (by decide) (by decide)), hf.e (by decide)⟩, fun j => hf.ie (by decide) (by decide) j, fun _ _ _ _ _ hs_ => zRXn.fr hf hs_ (by decide) (by decide)⟩
theorem w9_residue (l : Launch) (M : zMem) (hM : zMt M) (h : zWd M) (x0 : Int32) (x1 : Int32) : zWkA l m_M_residue 1 [.ref 81, .int x0, .int x1] M := by
  obtain ⟨h1, h14, h18, h60, h57, hIF, h83, h110, T, hT, hB⟩ := id h
  have hO := gTabs_ok T hT
  have hX := gTabs_ex T hT
  obtain ⟨D, hD⟩ := hX.2.2.2.2.2
  have hi := hIF.1
  have hC := c_M_residue l M hM x0.toInt (z32r x0).1 (z32r x0).2 x1.toInt (z32r x1).1 (z32r x1).2 T hO hB
  simp only [Int32.ofInt_toInt] at hC
  refine ⟨_, hC, ?_⟩
  rintro r N ⟨v, rfl, hv, hf, hp⟩
  exact ⟨⟨_, rfl, rfl, fun _ => rfl⟩, ⟨hf.old (by decide), hf.w hM, zWd.b h hf (by decide) (by decide) (by rw [hf.e (by decide)]; exact h1) (by rw [hf.e (by decide)]; exact h60) (by rw [hf.e (by decide)]; exact h57) (zB.fr hf h110 (by decide) (by decide)), hf.e (by decide)⟩, fun j => hf.ie (by decide) (by decide) j, fun _ _ _ _ _ hs_ => zRXn.fr hf hs_ (by decide) (by decide)⟩
theorem w9_block (l : Launch) (M : zMem) (hM : zMt M) (h : zWd M) (x0 : Int32) (x1 : Int32) : zWkA l m_M_block 1 [.ref 81, .int x0, .int x1] M := by
  obtain ⟨h1, h14, h18, h60, h57, hIF, h83, h110, T, hT, hB⟩ := id h
  have hO := gTabs_ok T hT
  have hX := gTabs_ex T hT
  obtain ⟨D, hD⟩ := hX.2.2.2.2.2
  have hi := hIF.1
  have hC := c_M_block l M hM x0.toInt (z32r x0).1 (z32r x0).2 x1.toInt (z32r x1).1 (z32r x1).2 T hO hB
  simp only [Int32.ofInt_toInt] at hC
  refine ⟨_, hC, ?_⟩
  rintro r N ⟨v, rfl, hv, hf, hp⟩
  exact ⟨⟨_, rfl, rfl, fun _ => rfl⟩, ⟨hf.old (by decide), hf.w hM, zWd.b h hf (by decide) (by decide) (by rw [hf.e (by decide)]; exact h1) (by rw [hf.e (by decide)]; exact h60) (by rw [hf.e (by decide)]; exact h57) (zB.fr hf h110 (by decide) (by decide)), hf.e (by decide)⟩, fun j => hf.ie (by decide) (by decide) j, fun _ _ _ _ _ hs_ => zRXn.fr hf hs_ (by decide) (by decide)⟩
theorem w9_keeper (l : Launch) (M : zMem) (hM : zMt M) (h : zWd M) (x0 : Int32) : zWkA l m_M_keeper 1 [.ref 81, .int x0] M := by
  obtain ⟨h1, h14, h18, h60, h57, hIF, h83, h110, T, hT, hB⟩ := id h
  have hO := gTabs_ok T hT
  have hX := gTabs_ex T hT
  obtain ⟨D, hD⟩ := hX.2.2.2.2.2
  have hi := hIF.1
  have hC := c_M_keeper l M hM x0.toInt (z32r x0).1 (z32r x0).2 T hO hB (by omega) (by omega)
  simp only [Int32.ofInt_toInt] at hC
  refine ⟨_, hC, ?_⟩
  rintro r N ⟨v, rfl, hv, hf, hp⟩
  exact ⟨⟨_, rfl, rfl, fun _ => rfl⟩, ⟨hf.old (by decide), hf.w hM, zWd.b h hf (by decide) (by decide) (by rw [hf.e (by decide)]; exact h1) (by rw [hf.e (by decide)]; exact h60) (by rw [hf.e (by decide)]; exact h57) (zB.fr hf h110 (by decide) (by decide)), hf.e (by decide)⟩, fun j => hf.ie (by decide) (by decide) j, fun _ _ _ _ _ hs_ => zRXn.fr hf hs_ (by decide) (by decide)⟩
theorem w9_orbit (l : Launch) (M : zMem) (hM : zMt M) (h : zWd M) (x0 : Int32) : zWkA l m_M_orbit 1 [.ref 81, .int x0] M := by
  obtain ⟨h1, h14, h18, h60, h57, hIF, h83, h110, T, hT, hB⟩ := id h
  have hO := gTabs_ok T hT
  have hX := gTabs_ex T hT
  obtain ⟨D, hD⟩ := hX.2.2.2.2.2
  have hi := hIF.1
  have hC := c_M_orbit l M hM x0.toInt (z32r x0).1 (z32r x0).2 T hO hB (by omega) (by omega)
  simp only [Int32.ofInt_toInt] at hC
  refine ⟨_, hC, ?_⟩
  rintro r N ⟨v, rfl, hv, hf, hp⟩
  exact ⟨⟨_, rfl, rfl, fun _ => rfl⟩, ⟨hf.old (by decide), hf.w hM, zWd.b h hf (by decide) (by decide) (by rw [hf.e (by decide)]; exact h1) (by rw [hf.e (by decide)]; exact h60) (by rw [hf.e (by decide)]; exact h57) (zB.fr hf h110 (by decide) (by decide)), hf.e (by decide)⟩, fun j => hf.ie (by decide) (by decide) j, fun _ _ _ _ _ hs_ => zRXn.fr hf hs_ (by decide) (by decide)⟩
theorem w9_coset (l : Launch) (M : zMem) (hM : zMt M) (h : zWd M) (x0 : Int32) (x1 : Int32) : zWkA l m_M_coset 1 [.ref 81, .int x0, .int x1] M := by
  obtain ⟨h1, h14, h18, h60, h57, hIF, h83, h110, T, hT, hB⟩ := id h
  have hO := gTabs_ok T hT
  have hX := gTabs_ex T hT
  obtain ⟨D, hD⟩ := hX.2.2.2.2.2
  have hi := hIF.1
  have hC := c_M_coset l M hM x0.toInt (z32r x0).1 (z32r x0).2 x1.toInt (z32r x1).1 (z32r x1).2 T hO hB
  simp only [Int32.ofInt_toInt] at hC
  refine ⟨_, hC, ?_⟩
  rintro r N ⟨v, rfl, hv, hf, hp⟩
  exact ⟨⟨_, rfl, rfl, fun _ => rfl⟩, ⟨hf.old (by decide), hf.w hM, zWd.b h hf (by decide) (by decide) (by rw [hf.e (by decide)]; exact h1) (by rw [hf.e (by decide)]; exact h60) (by rw [hf.e (by decide)]; exact h57) (zB.fr hf h110 (by decide) (by decide)), hf.e (by decide)⟩, fun j => hf.ie (by decide) (by decide) j, fun _ _ _ _ _ hs_ => zRXn.fr hf hs_ (by decide) (by decide)⟩
theorem w9_takes (l : Launch) (M : zMem) (hM : zMt M) (h : zWd M) (x0 : Int32) (x1 : Int32) (x2 : Int32) : zWkA l m_M_takes 1 [.ref 81, .int x0, .int x1, .int x2] M := by
  obtain ⟨h1, h14, h18, h60, h57, hIF, h83, h110, T, hT, hB⟩ := id h
  have hO := gTabs_ok T hT
  have hX := gTabs_ex T hT
  obtain ⟨D, hD⟩ := hX.2.2.2.2.2
  have hi := hIF.1
  have hC := c_M_takes l M hM x0.toInt (z32r x0).1 (z32r x0).2 x1.toInt (z32r x1).1 (z32r x1).2 x2.toInt (z32r x2).1 (z32r x2).2 T hO hB
  simp only [Int32.ofInt_toInt] at hC
  refine ⟨_, hC, ?_⟩
  rintro r N ⟨v, rfl, hv, hf, hp⟩
  exact ⟨⟨_, rfl, rfl, fun _ => rfl⟩, ⟨hf.old (by decide), hf.w hM, zWd.b h hf (by decide) (by decide) (by rw [hf.e (by decide)]; exact h1) (by rw [hf.e (by decide)]; exact h60) (by rw [hf.e (by decide)]; exact h57) (zB.fr hf h110 (by decide) (by decide)), hf.e (by decide)⟩, fun j => hf.ie (by decide) (by decide) j, fun _ _ _ _ _ hs_ => zRXn.fr hf hs_ (by decide) (by decide)⟩
theorem w9_moebius (l : Launch) (M : zMem) (hM : zMt M) (h : zWd M) (x0 : Int32) : zWkA l m_M_moebius 1 [.ref 81, .int x0] M := by
  obtain ⟨h1, h14, h18, h60, h57, hIF, h83, h110, T, hT, hB⟩ := id h
  have hO := gTabs_ok T hT
  have hX := gTabs_ex T hT
  obtain ⟨D, hD⟩ := hX.2.2.2.2.2
  have hi := hIF.1
  have hC := c_M_moebius l M hM x0.toInt (z32r x0).1 (z32r x0).2 T hO hB
  simp only [Int32.ofInt_toInt] at hC
  refine ⟨_, hC, ?_⟩
  rintro r N ⟨v, rfl, hv, hf, hp⟩
  exact ⟨⟨_, rfl, rfl, fun _ => rfl⟩, ⟨hf.old (by decide), hf.w hM, zWd.b h hf (by decide) (by decide) (by rw [hf.e (by decide)]; exact h1) (by rw [hf.e (by decide)]; exact h60) (by rw [hf.e (by decide)]; exact h57) (zB.fr hf h110 (by decide) (by decide)), hf.e (by decide)⟩, fun j => hf.ie (by decide) (by decide) j, fun _ _ _ _ _ hs_ => zRXn.fr hf hs_ (by decide) (by decide)⟩
theorem w9_mixed (l : Launch) (M : zMem) (hM : zMt M) (h : zWd M) (x0 : Int32) : zWkA l m_M_mixed 1 [.ref 81, .int x0] M := by
  obtain ⟨h1, h14, h18, h60, h57, hIF, h83, h110, T, hT, hB⟩ := id h
  have hO := gTabs_ok T hT
  have hX := gTabs_ex T hT
  obtain ⟨D, hD⟩ := hX.2.2.2.2.2
  have hi := hIF.1
  have hC := c_M_mixed l M hM x0.toInt (z32r x0).1 (z32r x0).2 T hO hB
  simp only [Int32.ofInt_toInt] at hC
  refine ⟨_, hC, ?_⟩
  rintro r N ⟨v, rfl, hv, hf, hp⟩
  exact ⟨⟨_, rfl, rfl, fun _ => rfl⟩, ⟨hf.old (by decide), hf.w hM, zWd.b h hf (by decide) (by decide) (by rw [hf.e (by decide)]; exact h1) (by rw [hf.e (by decide)]; exact h60) (by rw [hf.e (by decide)]; exact h57) (zB.fr hf h110 (by decide) (by decide)), hf.e (by decide)⟩, fun j => hf.ie (by decide) (by decide) j, fun _ _ _ _ _ hs_ => zRXn.fr hf hs_ (by decide) (by decide)⟩
theorem w9_centre (l : Launch) (M : zMem) (hM : zMt M) (h : zWd M) (x0 : Int32) : zWkA l m_M_centre 1 [.ref 81, .int x0] M := by
  obtain ⟨h1, h14, h18, h60, h57, hIF, h83, h110, T, hT, hB⟩ := id h
  have hO := gTabs_ok T hT
  have hX := gTabs_ex T hT
  obtain ⟨D, hD⟩ := hX.2.2.2.2.2
  have hi := hIF.1
  have hC := c_M_centre l M hM x0.toInt (z32r x0).1 (z32r x0).2 T hO hB
  simp only [Int32.ofInt_toInt] at hC
  refine ⟨_, hC, ?_⟩
  rintro r N ⟨v, rfl, hv, hf, hp⟩
  exact ⟨⟨_, rfl, rfl, fun _ => rfl⟩, ⟨hf.old (by decide), hf.w hM, zWd.b h hf (by decide) (by decide) (by rw [hf.e (by decide)]; exact h1) (by rw [hf.e (by decide)]; exact h60) (by rw [hf.e (by decide)]; exact h57) (zB.fr hf h110 (by decide) (by decide)), hf.e (by decide)⟩, fun j => hf.ie (by decide) (by decide) j, fun _ _ _ _ _ hs_ => zRXn.fr hf hs_ (by decide) (by decide)⟩
theorem w9_pairs (l : Launch) (M : zMem) (hM : zMt M) (h : zWd M) (x0 : Int32) (x1 : Int32) : zWkA l m_M_pairs 1 [.ref 81, .int x0, .int x1] M := by
  obtain ⟨h1, h14, h18, h60, h57, hIF, h83, h110, T, hT, hB⟩ := id h
  have hO := gTabs_ok T hT
  have hX := gTabs_ex T hT
  obtain ⟨D, hD⟩ := hX.2.2.2.2.2
  have hi := hIF.1
  have hC := c_M_pairs l M hM x0.toInt (z32r x0).1 (z32r x0).2 x1.toInt (z32r x1).1 (z32r x1).2 T hO hB
  simp only [Int32.ofInt_toInt] at hC
  refine ⟨_, hC, ?_⟩
  rintro r N ⟨v, rfl, hv, hf, hp⟩
  exact ⟨⟨_, rfl, rfl, fun _ => rfl⟩, ⟨hf.old (by decide), hf.w hM, zWd.b h hf (by decide) (by decide) (by rw [hf.e (by decide)]; exact h1) (by rw [hf.e (by decide)]; exact h60) (by rw [hf.e (by decide)]; exact h57) (zB.fr hf h110 (by decide) (by decide)), hf.e (by decide)⟩, fun j => hf.ie (by decide) (by decide) j, fun _ _ _ _ _ hs_ => zRXn.fr hf hs_ (by decide) (by decide)⟩
theorem w9_alike (l : Launch) (M : zMem) (hM : zMt M) (h : zWd M) : zWkA l m_M_alike 1 [.ref 81] M := by
  obtain ⟨h1, h14, h18, h60, h57, hIF, h83, h110, T, hT, hB⟩ := id h
  have hO := gTabs_ok T hT
  have hX := gTabs_ex T hT
  obtain ⟨D, hD⟩ := hX.2.2.2.2.2
  have hi := hIF.1
  have hC := c_M_alike l M hM  T hO hB
  refine ⟨_, hC, ?_⟩
  rintro r N ⟨v, rfl, hv, hf, hp⟩
  exact ⟨⟨_, rfl, rfl, fun _ => rfl⟩, ⟨hf.old (by decide), hf.w hM, zWd.b h hf (by decide) (by decide) (by rw [hf.e (by decide)]; exact h1) (by rw [hf.e (by decide)]; exact h60) (by rw [hf.e (by decide)]; exact h57) (zB.fr hf h110 (by decide) (by decide)), hf.e (by decide)⟩, fun j => hf.ie (by decide) (by decide) j, fun _ _ _ _ _ hs_ => zRXn.fr hf hs_ (by decide) (by decide)⟩
theorem w9_meet (l : Launch) (M : zMem) (hM : zMt M) (h : zWd M) (x0 : Int32) (x1 : Int32) : zWkA l m_M_meet 1 [.ref 81, .int x0, .int x1] M := by
  obtain ⟨h1, h14, h18, h60, h57, hIF, h83, h110, T, hT, hB⟩ := id h
  have hO := gTabs_ok T hT
  have hX := gTabs_ex T hT
  obtain ⟨D, hD⟩ := hX.2.2.2.2.2
  have hi := hIF.1
  have hC := c_M_meet l M hM x0.toInt (z32r x0).1 (z32r x0).2 x1.toInt (z32r x1).1 (z32r x1).2 T hO hB
  simp only [Int32.ofInt_toInt] at hC
  refine ⟨_, hC, ?_⟩
  rintro r N ⟨v, rfl, hv, hf, hp⟩
  exact ⟨⟨_, rfl, rfl, fun _ => rfl⟩, ⟨hf.old (by decide), hf.w hM, zWd.b h hf (by decide) (by decide) (by rw [hf.e (by decide)]; exact h1) (by rw [hf.e (by decide)]; exact h60) (by rw [hf.e (by decide)]; exact h57) (zB.fr hf h110 (by decide) (by decide)), hf.e (by decide)⟩, fun j => hf.ie (by decide) (by decide) j, fun _ _ _ _ _ hs_ => zRXn.fr hf hs_ (by decide) (by decide)⟩
theorem w9_join (l : Launch) (M : zMem) (hM : zMt M) (h : zWd M) (x0 : Int32) (x1 : Int32) : zWkA l m_M_join 1 [.ref 81, .int x0, .int x1] M := by
  obtain ⟨h1, h14, h18, h60, h57, hIF, h83, h110, T, hT, hB⟩ := id h
  have hO := gTabs_ok T hT
  have hX := gTabs_ex T hT
  obtain ⟨D, hD⟩ := hX.2.2.2.2.2
  have hi := hIF.1
  have hC := c_M_join l M hM x0.toInt (z32r x0).1 (z32r x0).2 x1.toInt (z32r x1).1 (z32r x1).2 T hO hB
  simp only [Int32.ofInt_toInt] at hC
  refine ⟨_, hC, ?_⟩
  rintro r N ⟨v, rfl, hv, hf, hp⟩
  exact ⟨⟨_, rfl, rfl, fun _ => rfl⟩, ⟨hf.old (by decide), hf.w hM, zWd.b h hf (by decide) (by decide) (by rw [hf.e (by decide)]; exact h1) (by rw [hf.e (by decide)]; exact h60) (by rw [hf.e (by decide)]; exact h57) (zB.fr hf h110 (by decide) (by decide)), hf.e (by decide)⟩, fun j => hf.ie (by decide) (by decide) j, fun _ _ _ _ _ hs_ => zRXn.fr hf hs_ (by decide) (by decide)⟩
theorem w9_orders (l : Launch) (M : zMem) (hM : zMt M) (h : zWd M) (x0 : Int32) : zWkA l m_M_orders 1 [.ref 81, .int x0] M := by
  obtain ⟨h1, h14, h18, h60, h57, hIF, h83, h110, T, hT, hB⟩ := id h
  have hO := gTabs_ok T hT
  have hX := gTabs_ex T hT
  obtain ⟨D, hD⟩ := hX.2.2.2.2.2
  have hi := hIF.1
  have hC := c_M_orders l M hM x0.toInt (z32r x0).1 (z32r x0).2 T hO hX hB
  simp only [Int32.ofInt_toInt] at hC
  refine ⟨_, hC, ?_⟩
  rintro r N ⟨v, rfl, hv, hf, hp⟩
  exact ⟨⟨_, rfl, rfl, fun _ => rfl⟩, ⟨hf.old (by decide), hf.w hM, zWd.b h hf (by decide) (by decide) (by rw [hf.e (by decide)]; exact h1) (by rw [hf.e (by decide)]; exact h60) (by rw [hf.e (by decide)]; exact h57) (zB.fr hf h110 (by decide) (by decide)), hf.e (by decide)⟩, fun j => hf.ie (by decide) (by decide) j, fun _ _ _ _ _ hs_ => zRXn.fr hf hs_ (by decide) (by decide)⟩
theorem w9_likes (l : Launch) (M : zMem) (hM : zMt M) (h : zWd M) (x0 : Int32) : zWkA l m_M_likes 1 [.ref 81, .int x0] M := by
  obtain ⟨h1, h14, h18, h60, h57, hIF, h83, h110, T, hT, hB⟩ := id h
  have hO := gTabs_ok T hT
  have hX := gTabs_ex T hT
  obtain ⟨D, hD⟩ := hX.2.2.2.2.2
  have hi := hIF.1
  have hC := c_M_likes l M hM x0.toInt (z32r x0).1 (z32r x0).2 T hO hB
  simp only [Int32.ofInt_toInt] at hC
  refine ⟨_, hC, ?_⟩
  rintro r N ⟨v, rfl, hv, hf, hp⟩
  exact ⟨⟨_, rfl, rfl, fun _ => rfl⟩, ⟨hf.old (by decide), hf.w hM, zWd.b h hf (by decide) (by decide) (by rw [hf.e (by decide)]; exact h1) (by rw [hf.e (by decide)]; exact h60) (by rw [hf.e (by decide)]; exact h57) (zB.fr hf h110 (by decide) (by decide)), hf.e (by decide)⟩, fun j => hf.ie (by decide) (by decide) j, fun _ _ _ _ _ hs_ => zRXn.fr hf hs_ (by decide) (by decide)⟩
theorem w9_peak (l : Launch) (M : zMem) (hM : zMt M) (h : zWd M) (x0 : Int32) (x1 : Int32) (x2 : Int32) : zWkA l m_M_peak 1 [.ref 81, .int x0, .int x1, .int x2] M := by
  obtain ⟨h1, h14, h18, h60, h57, hIF, h83, h110, T, hT, hB⟩ := id h
  have hO := gTabs_ok T hT
  have hX := gTabs_ex T hT
  obtain ⟨D, hD⟩ := hX.2.2.2.2.2
  have hi := hIF.1
  have hC := c_M_peak l M hM x0.toInt (z32r x0).1 (z32r x0).2 x1.toInt (z32r x1).1 (z32r x1).2 x2.toInt (z32r x2).1 (z32r x2).2 T hO D hD hB
  simp only [Int32.ofInt_toInt] at hC
  refine ⟨_, hC, ?_⟩
  rintro r N ⟨v, rfl, hv, hf, hp⟩
  exact ⟨⟨_, rfl, rfl, fun _ => rfl⟩, ⟨hf.old (by decide), hf.w hM, zWd.b h hf (by decide) (by decide) (by rw [hf.e (by decide)]; exact h1) (by rw [hf.e (by decide)]; exact h60) (by rw [hf.e (by decide)]; exact h57) (zB.fr hf h110 (by decide) (by decide)), hf.e (by decide)⟩, fun j => hf.ie (by decide) (by decide) j, fun _ _ _ _ _ hs_ => zRXn.fr hf hs_ (by decide) (by decide)⟩
theorem w9_local (l : Launch) (M : zMem) (hM : zMt M) (h : zWd M) (x0 : Int32) (x1 : Int32) (x2 : Int32) (x3 : Int32) : zWkA l m_M_local 1 [.ref 81, .int x0, .int x1, .int x2, .int x3] M := by
  obtain ⟨h1, h14, h18, h60, h57, hIF, h83, h110, T, hT, hB⟩ := id h
  have hO := gTabs_ok T hT
  have hX := gTabs_ex T hT
  obtain ⟨D, hD⟩ := hX.2.2.2.2.2
  have hi := hIF.1
  have hC := c_M_local l M hM x0.toInt (z32r x0).1 (z32r x0).2 x1.toInt (z32r x1).1 (z32r x1).2 x2.toInt (z32r x2).1 (z32r x2).2 x3.toInt (z32r x3).1 (z32r x3).2 T hO D hD hB
  simp only [Int32.ofInt_toInt] at hC
  refine ⟨_, hC, ?_⟩
  rintro r N ⟨v, rfl, hv, hf, hp⟩
  exact ⟨⟨_, rfl, rfl, fun _ => rfl⟩, ⟨hf.old (by decide), hf.w hM, zWd.b h hf (by decide) (by decide) (by rw [hf.e (by decide)]; exact h1) (by rw [hf.e (by decide)]; exact h60) (by rw [hf.e (by decide)]; exact h57) (zB.fr hf h110 (by decide) (by decide)), hf.e (by decide)⟩, fun j => hf.ie (by decide) (by decide) j, fun _ _ _ _ _ hs_ => zRXn.fr hf hs_ (by decide) (by decide)⟩
theorem w9_units (l : Launch) (M : zMem) (hM : zMt M) (h : zWd M) : zWkA l m_M_units 1 [.ref 81] M := by
  obtain ⟨h1, h14, h18, h60, h57, hIF, h83, h110, T, hT, hB⟩ := id h
  have hO := gTabs_ok T hT
  have hX := gTabs_ex T hT
  obtain ⟨D, hD⟩ := hX.2.2.2.2.2
  have hi := hIF.1
  have hC := c_M_units l M hM  T hO hX hB h110 (by omega) (by omega)
  refine ⟨_, hC, ?_⟩
  rintro r N ⟨v, rfl, hv, hf, hp⟩
  exact ⟨⟨_, rfl, rfl, fun _ => rfl⟩, ⟨hf.old (by decide), hf.w hM, zWd.b h hf (by decide) (by decide) (by rw [hf.e (by decide)]; exact h1) (by rw [hf.e (by decide)]; exact h60) ⟨by omega, by omega⟩ hp.1, hf.e (by decide)⟩, fun j => hf.ie (by decide) (by decide) j, fun _ _ _ _ _ hs_ => zRXn.fr hf hs_ (by decide) (by decide)⟩
theorem w9_unit (l : Launch) (M : zMem) (hM : zMt M) (h : zWd M) (x0 : Int32) (x1 : Int32) : zWkA l m_M_unit 1 [.ref 81, .int x0, .int x1] M := by
  obtain ⟨h1, h14, h18, h60, h57, hIF, h83, h110, T, hT, hB⟩ := id h
  have hO := gTabs_ok T hT
  have hX := gTabs_ex T hT
  obtain ⟨D, hD⟩ := hX.2.2.2.2.2
  have hi := hIF.1
  have hC := c_M_unit l M hM x0.toInt (z32r x0).1 (z32r x0).2 x1.toInt (z32r x1).1 (z32r x1).2 T hO hX hB h110 (by omega) (by omega)
  simp only [Int32.ofInt_toInt] at hC
  refine ⟨_, hC, ?_⟩
  rintro r N ⟨v, rfl, hv, hf, hp⟩
  exact ⟨⟨_, rfl, rfl, fun _ => rfl⟩, ⟨hf.old (by decide), hf.w hM, zWd.b h hf (by decide) (by decide) (by rw [hf.e (by decide)]; exact h1) (by rw [hf.e (by decide)]; exact h60) ⟨by omega, by omega⟩ hp.1, hf.e (by decide)⟩, fun j => hf.ie (by decide) (by decide) j, fun _ _ _ _ _ hs_ => zRXn.fr hf hs_ (by decide) (by decide)⟩
theorem w9_named (l : Launch) (M : zMem) (hM : zMt M) (h : zWd M) (x0 : Int32) (x1 : Int32) : zWkA l m_M_named 2 [.ref 81, .int x0, .int x1] M := by
  obtain ⟨h1, h14, h18, h60, h57, hIF, h83, h110, T, hT, hB⟩ := id h
  have hO := gTabs_ok T hT
  have hX := gTabs_ex T hT
  obtain ⟨D, hD⟩ := hX.2.2.2.2.2
  have hi := hIF.1
  have hC := c_M_named l M hM x0.toInt (z32r x0).1 (z32r x0).2 x1.toInt (z32r x1).1 (z32r x1).2 T hO hB (by omega) (by omega)
  simp only [Int32.ofInt_toInt] at hC
  refine ⟨_, hC, ?_⟩
  rintro r N ⟨v, rfl, hv, hf, hp⟩
  exact ⟨⟨_, rfl, rfl, fun _ => rfl⟩, ⟨hf.old (by decide), hf.w hM, zWd.b h hf (by decide) (by decide) (by rw [hf.e (by decide)]; exact h1) (by rw [hf.e (by decide)]; exact h60) (by rw [hf.e (by decide)]; exact h57) (zB.fr hf h110 (by decide) (by decide)), hf.e (by decide)⟩, fun j => hf.ie (by decide) (by decide) j, fun _ _ _ _ _ hs_ => zRXn.fr hf hs_ (by decide) (by decide)⟩
theorem w9_has (l : Launch) (M : zMem) (hM : zMt M) (h : zWd M) (x0 : Int32) : zWkA l m_M_has 2 [.ref 81, .int x0] M := by
  obtain ⟨h1, h14, h18, h60, h57, hIF, h83, h110, T, hT, hB⟩ := id h
  have hO := gTabs_ok T hT
  have hX := gTabs_ex T hT
  obtain ⟨D, hD⟩ := hX.2.2.2.2.2
  have hi := hIF.1
  have hC := c_M_has l M hM x0.toInt (z32r x0).1 (z32r x0).2 T hO hB
  simp only [Int32.ofInt_toInt] at hC
  refine ⟨_, hC, ?_⟩
  rintro r N ⟨v, rfl, hv, hf, hp⟩
  exact ⟨⟨_, rfl, rfl, fun _ => rfl⟩, ⟨hf.old (by decide), hf.w hM, zWd.b h hf (by decide) (by decide) (by rw [hf.e (by decide)]; exact h1) (by rw [hf.e (by decide)]; exact h60) (by rw [hf.e (by decide)]; exact h57) (zB.fr hf h110 (by decide) (by decide)), hf.e (by decide)⟩, fun j => hf.ie (by decide) (by decide) j, fun _ _ _ _ _ hs_ => zRXn.fr hf hs_ (by decide) (by decide)⟩
theorem w9_marked (l : Launch) (M : zMem) (hM : zMt M) (h : zWd M) (x0 : Int32) : zWkA l m_M_marked 2 [.ref 81, .int x0] M := by
  obtain ⟨h1, h14, h18, h60, h57, hIF, h83, h110, T, hT, hB⟩ := id h
  have hO := gTabs_ok T hT
  have hX := gTabs_ex T hT
  obtain ⟨D, hD⟩ := hX.2.2.2.2.2
  have hi := hIF.1
  have hC := c_M_marked l M hM x0.toInt (z32r x0).1 (z32r x0).2 T hO hB
  simp only [Int32.ofInt_toInt] at hC
  refine ⟨_, hC, ?_⟩
  rintro r N ⟨v, rfl, hv, hf, hp⟩
  exact ⟨⟨_, rfl, rfl, fun _ => rfl⟩, ⟨hf.old (by decide), hf.w hM, zWd.b h hf (by decide) (by decide) (by rw [hf.e (by decide)]; exact h1) (by rw [hf.e (by decide)]; exact h60) (by rw [hf.e (by decide)]; exact h57) (zB.fr hf h110 (by decide) (by decide)), hf.e (by decide)⟩, fun j => hf.ie (by decide) (by decide) j, fun _ _ _ _ _ hs_ => zRXn.fr hf hs_ (by decide) (by decide)⟩
theorem w9_character (l : Launch) (M : zMem) (hM : zMt M) (h : zWd M) (x0 : Int32) : zWkA l m_M_character 2 [.ref 81, .int x0] M := by
  obtain ⟨h1, h14, h18, h60, h57, hIF, h83, h110, T, hT, hB⟩ := id h
  have hO := gTabs_ok T hT
  have hX := gTabs_ex T hT
  obtain ⟨D, hD⟩ := hX.2.2.2.2.2
  have hi := hIF.1
  have hC := c_M_character l M hM x0.toInt (z32r x0).1 (z32r x0).2 T hO hB
  simp only [Int32.ofInt_toInt] at hC
  refine ⟨_, hC, ?_⟩
  rintro r N ⟨v, rfl, hv, hf, hp⟩
  exact ⟨⟨_, rfl, rfl, fun _ => rfl⟩, ⟨hf.old (by decide), hf.w hM, zWd.b h hf (by decide) (by decide) (by rw [hf.e (by decide)]; exact h1) (by rw [hf.e (by decide)]; exact h60) (by rw [hf.e (by decide)]; exact h57) (zB.fr hf h110 (by decide) (by decide)), hf.e (by decide)⟩, fun j => hf.ie (by decide) (by decide) j, fun _ _ _ _ _ hs_ => zRXn.fr hf hs_ (by decide) (by decide)⟩
theorem w9_parts (l : Launch) (M : zMem) (hM : zMt M) (h : zWd M) : zWkA l m_M_parts 1 [.ref 81] M := by
  obtain ⟨h1, h14, h18, h60, h57, hIF, h83, h110, T, hT, hB⟩ := id h
  have hO := gTabs_ok T hT
  have hX := gTabs_ex T hT
  obtain ⟨D, hD⟩ := hX.2.2.2.2.2
  have hi := hIF.1
  have hC := c_M_parts l M hM  T hO hB
  refine ⟨_, hC, ?_⟩
  rintro r N ⟨v, rfl, hv, hf, hp⟩
  exact ⟨⟨_, rfl, rfl, fun _ => rfl⟩, ⟨hf.old (by decide), hf.w hM, zWd.b h hf (by decide) (by decide) (by rw [hf.e (by decide)]; exact h1) (by rw [hf.e (by decide)]; exact h60) (by rw [hf.e (by decide)]; exact h57) (zB.fr hf h110 (by decide) (by decide)), hf.e (by decide)⟩, fun j => hf.ie (by decide) (by decide) j, fun _ _ _ _ _ hs_ => zRXn.fr hf hs_ (by decide) (by decide)⟩
theorem w9_congruence (l : Launch) (M : zMem) (hM : zMt M) (h : zWd M) (x0 : Int32) : zWkA l m_M_congruence 2 [.ref 81, .int x0] M := by
  obtain ⟨h1, h14, h18, h60, h57, hIF, h83, h110, T, hT, hB⟩ := id h
  have hO := gTabs_ok T hT
  have hX := gTabs_ex T hT
  obtain ⟨D, hD⟩ := hX.2.2.2.2.2
  have hi := hIF.1
  have hC := c_M_congruence l M hM x0.toInt (z32r x0).1 (z32r x0).2 T hO hX hB
  simp only [Int32.ofInt_toInt] at hC
  refine ⟨_, hC, ?_⟩
  rintro r N ⟨v, rfl, hv, hf, hp⟩
  exact ⟨⟨_, rfl, rfl, fun _ => rfl⟩, ⟨hf.old (by decide), hf.w hM, zWd.b h hf (by decide) (by decide) (by rw [hf.e (by decide)]; exact h1) (by rw [hf.e (by decide)]; exact h60) (by rw [hf.e (by decide)]; exact h57) (zB.fr hf h110 (by decide) (by decide)), hf.e (by decide)⟩, fun j => hf.ie (by decide) (by decide) j, fun _ _ _ _ _ hs_ => zRXn.fr hf hs_ (by decide) (by decide)⟩
theorem w9_is (l : Launch) (M : zMem) (hM : zMt M) (h : zWd M) (x0 : Int32) : zWkA l m_M_is 1 [.ref 81, .int x0] M := by
  obtain ⟨h1, h14, h18, h60, h57, hIF, h83, h110, T, hT, hB⟩ := id h
  have hO := gTabs_ok T hT
  have hX := gTabs_ex T hT
  obtain ⟨D, hD⟩ := hX.2.2.2.2.2
  have hi := hIF.1
  have hC := c_M_is l M hM x0.toInt (z32r x0).1 (z32r x0).2 T hO hB
  simp only [Int32.ofInt_toInt] at hC
  refine ⟨_, hC, ?_⟩
  rintro r N ⟨v, rfl, hv, hf, hp⟩
  exact ⟨⟨_, rfl, rfl, fun _ => rfl⟩, ⟨hf.old (by decide), hf.w hM, zWd.b h hf (by decide) (by decide) (by rw [hf.e (by decide)]; exact h1) (by rw [hf.e (by decide)]; exact h60) (by rw [hf.e (by decide)]; exact h57) (zB.fr hf h110 (by decide) (by decide)), hf.e (by decide)⟩, fun j => hf.ie (by decide) (by decide) j, fun _ _ _ _ _ hs_ => zRXn.fr hf hs_ (by decide) (by decide)⟩
theorem w9_makes (l : Launch) (M : zMem) (hM : zMt M) (h : zWd M) (b : Nat → Int) (n : Nat) (hrp : zRp b n M) (P : Nat) (mv : List Nat) (T : zGT) (nm : List (Int × (Nat → Int))) (s : zSg) (hx : zRXn P mv T nm s M) (hb : zSB (gF T).length s) : ∃ Q' : Option Value → zMem → Prop, zC l m_M_makes 0 0 [.ref 81] M Q' ∧ ∀ r N, Q' r N → ∃ (v : Int) (s2 : zSg), r = some (.int (Int32.ofInt v)) ∧ zAmakes b n T nm s s2 v ∧ zRXn P mv T nm s2 N ∧ zGo M N 0 := by
  obtain ⟨h1, h14, h18, h60, h57, hIF, h83, h110, -⟩ := id h
  obtain ⟨hrs, hnm, hni, hsr⟩ := id hx
  obtain ⟨hT, hTm, hB, h16, hmq, hCd, -⟩ := id hrs
  have hP1 : 1 ≤ P := by have := hIF.1.1.1; omega
  have hP6 : P ≤ 6 := by have := hIF.1.1.2; omega
  have hmq2 : zMvF M = mv := hmq
  have hpm : ∀ g ∈ mv, gpm g := fun g hg => hIF.2.2.1 g (by rw [hmq2]; exact hg)
  have hGr := hTm.gr hpm
  have hF64 : (gF T).length ≤ 64 := by have := (gT_zTA hT).1.2; omega
  have hO := gTabs_ok T hT
  have hX := gTabs_ex T hT
  obtain ⟨D, hD⟩ := hX.2.2.2.2.2
  have hi := hIF.1
  have hC := c_M_makesS l M hM  T hO hT b n nm s hB hrp hnm.t hsr 
  refine ⟨_, hC, ?_⟩
  rintro r N ⟨v, rfl, hv, hf, hz1, hp⟩
  have hx2 : ∃ s2 : zSg, zAmakes b n T nm s s2 v ∧ zSR (gF T).length s2 N := by
    rcases hp with ⟨a1, a2, a3⟩ | ⟨f, a1, a2, a3, a4⟩
    · exact ⟨_, Or.inl ⟨a2, a1, rfl⟩, a3⟩
    · exact ⟨_, Or.inr ⟨f, a1, a2, a3, rfl⟩, a4⟩
  obtain ⟨s2, y1, y2⟩ := hx2
  have h602 : 0 ≤ ze N 81 60 ∧ ze N 81 60 ≤ 12 := by
    obtain ⟨⟨e1, e2⟩, -⟩ := id y2
    omega
  exact ⟨v, s2, rfl, y1, zRXn.st hf hx y2 (by decide) (by decide), ⟨hf.old (by decide), hf.w hM, zWd.b h hf (by decide) (by decide) ⟨by omega, by omega⟩ h602 (by rw [hf.e (by decide)]; exact h57) (zB.fr hf h110 (by decide) (by decide)), (by omega)⟩⟩
theorem w9_take (l : Launch) (M : zMem) (hM : zMt M) (h : zWd M) (P : Nat) (mv : List Nat) (T : zGT) (nm : List (Int × (Nat → Int))) (s : zSg) (hx : zRXn P mv T nm s M) (hb : zSB (gF T).length s) (x0 : Int32) (x1 : Int32) : ∃ Q' : Option Value → zMem → Prop, zC l m_M_take 0 0 [.ref 81, .int x0, .int x1] M Q' ∧ ∀ r N, Q' r N → ∃ (v : Int) (s2 : zSg), r = some (.int (Int32.ofInt v)) ∧ zAtake P mv T s x0.toInt x1.toInt s2 ∧ zRXn P mv T nm s2 N ∧ zGo M N (ze M 81 1) ∧ ∀ j : Nat, ze N 82 j = ze M 82 j := by
  obtain ⟨h1, h14, h18, h60, h57, hIF, h83, h110, -⟩ := id h
  obtain ⟨hrs, hnm, hni, hsr⟩ := id hx
  obtain ⟨hT, hTm, hB, h16, hmq, hCd, -⟩ := id hrs
  have hP1 : 1 ≤ P := by have := hIF.1.1.1; omega
  have hP6 : P ≤ 6 := by have := hIF.1.1.2; omega
  have hmq2 : zMvF M = mv := hmq
  have hpm : ∀ g ∈ mv, gpm g := fun g hg => hIF.2.2.1 g (by rw [hmq2]; exact hg)
  have hGr := hTm.gr hpm
  have hF64 : (gF T).length ≤ 64 := by have := (gT_zTA hT).1.2; omega
  have hO := gTabs_ok T hT
  have hX := gTabs_ex T hT
  obtain ⟨D, hD⟩ := hX.2.2.2.2.2
  have hi := hIF.1
  have hfx : ∀ g ∈ mv, gfix P g := fun g hg => zMvF_x hIF h16 g (by rw [hmq2]; exact hg)
  have hpts : ∀ j : Nat, j < (gF T).length → zPt (zrch (gN T) (fun i_ => zrc M 85 i_ (P : Int)) (gFn T j)) P := fun j hj => zPt_g hCd.1 hpm hP6 (gTb_lt hCd.1 hpm hfx hP6) (hO.2.2.1.2.1 _ (gFn_m (T := T) hj)).1
  have hC := c_M_takeS l M hM x0.toInt (z32r x0).1 (z32r x0).2 x1.toInt (z32r x1).1 (z32r x1).2 T hO hT P mv s hB hCd.1 h16 hP1 hP6 hsr hpts 
  simp only [Int32.ofInt_toInt] at hC
  refine ⟨_, hC, ?_⟩
  rintro r N ⟨v, rfl, hv, hf, hp⟩
  have hx2 : ∃ s2 : zSg, zAtake P mv T s x0.toInt x1.toInt s2 ∧ zSR (gF T).length s2 N := by
    rcases hp with ⟨a1, c_, q1, q2⟩ | ⟨a1, a2, a3⟩
    · exact ⟨_, Or.inl ⟨a1, c_, q1, rfl⟩, q2.pc (fun k hk => (zcln_e hk).symm)⟩
    · exact ⟨_, Or.inr ⟨a1, rfl⟩, a2⟩
  obtain ⟨s2, y1, y2⟩ := hx2
  have h602 : 0 ≤ ze N 81 60 ∧ ze N 81 60 ≤ 12 := by
    obtain ⟨⟨e1, e2⟩, -⟩ := id y2
    omega
  exact ⟨v, s2, rfl, y1, zRXn.st hf hx y2 (by decide) (by decide), ⟨hf.old (by decide), hf.w hM, zWd.b h hf (by decide) (by decide) (by rw [hf.e (by decide)]; exact h1) h602 (by rw [hf.e (by decide)]; exact h57) (zB.fr hf h110 (by decide) (by decide)), (hf.e (by decide))⟩, fun j => hf.ie (by decide) (by decide) j⟩
theorem w9_marks (l : Launch) (M : zMem) (hM : zMt M) (h : zWd M) (b : Nat → Int) (n : Nat) (hrp : zRp b n M) (P : Nat) (mv : List Nat) (T : zGT) (nm : List (Int × (Nat → Int))) (s : zSg) (hx : zRXn P mv T nm s M) (hb : zSB (gF T).length s) : ∃ Q' : Option Value → zMem → Prop, zC l m_M_marks 0 0 [.ref 81] M Q' ∧ ∀ r N, Q' r N → ∃ (v : Int) (s2 : zSg), r = some (.int (Int32.ofInt v)) ∧ zAmarks b n T s s2 v ∧ zRXn P mv T nm s2 N ∧ zGo M N 0 := by
  obtain ⟨h1, h14, h18, h60, h57, hIF, h83, h110, -⟩ := id h
  obtain ⟨hrs, hnm, hni, hsr⟩ := id hx
  obtain ⟨hT, hTm, hB, h16, hmq, hCd, -⟩ := id hrs
  have hP1 : 1 ≤ P := by have := hIF.1.1.1; omega
  have hP6 : P ≤ 6 := by have := hIF.1.1.2; omega
  have hmq2 : zMvF M = mv := hmq
  have hpm : ∀ g ∈ mv, gpm g := fun g hg => hIF.2.2.1 g (by rw [hmq2]; exact hg)
  have hGr := hTm.gr hpm
  have hF64 : (gF T).length ≤ 64 := by have := (gT_zTA hT).1.2; omega
  have hO := gTabs_ok T hT
  have hX := gTabs_ex T hT
  obtain ⟨D, hD⟩ := hX.2.2.2.2.2
  have hi := hIF.1
  have hC := c_M_marksS l M hM  T hO hX hT b n s hB hrp hsr 
  refine ⟨_, hC, ?_⟩
  rintro r N ⟨v, rfl, hv, hf, hz1, hp⟩
  have hx2 : ∃ s2 : zSg, zAmarks b n T s s2 v ∧ zSR (gF T).length s2 N := by
    rcases hp with ⟨a1, a2, a3⟩ | ⟨f, a1, a2, a3, ⟨q1, q2⟩ | ⟨q1, q2⟩⟩
    · exact ⟨_, Or.inl ⟨a1, a2, rfl⟩, a3⟩
    · exact ⟨_, Or.inr ⟨f, a1, a2, a3, Or.inl ⟨q1, rfl⟩⟩, q2.pc (fun k hk => (zcln_e hk).symm)⟩
    · exact ⟨_, Or.inr ⟨f, a1, a2, a3, Or.inr ⟨q1, rfl⟩⟩, q2⟩
  obtain ⟨s2, y1, y2⟩ := hx2
  have h602 : 0 ≤ ze N 81 60 ∧ ze N 81 60 ≤ 12 := by
    obtain ⟨⟨e1, e2⟩, -⟩ := id y2
    omega
  exact ⟨v, s2, rfl, y1, zRXn.st hf hx y2 (by decide) (by decide), ⟨hf.old (by decide), hf.w hM, zWd.b h hf (by decide) (by decide) ⟨by omega, by omega⟩ h602 (by rw [hf.e (by decide)]; exact h57) (zB.fr hf h110 (by decide) (by decide)), (by omega)⟩⟩
theorem w9_uses (l : Launch) (M : zMem) (hM : zMt M) (h : zWd M) (P : Nat) (mv : List Nat) (T : zGT) (nm : List (Int × (Nat → Int))) (s : zSg) (hx : zRXn P mv T nm s M) (hb : zSB (gF T).length s) (x0 : Int32) : ∃ Q' : Option Value → zMem → Prop, zC l m_M_uses 0 0 [.ref 81, .int x0] M Q' ∧ ∀ r N, Q' r N → ∃ (v : Int) (s2 : zSg), r = some (.int (Int32.ofInt v)) ∧ zAuses T nm s x0.toInt s2 v ∧ zRXn P mv T nm s2 N ∧ zGo M N (ze M 81 1) ∧ ∀ j : Nat, ze N 82 j = ze M 82 j := by
  obtain ⟨h1, h14, h18, h60, h57, hIF, h83, h110, -⟩ := id h
  obtain ⟨hrs, hnm, hni, hsr⟩ := id hx
  obtain ⟨hT, hTm, hB, h16, hmq, hCd, -⟩ := id hrs
  have hP1 : 1 ≤ P := by have := hIF.1.1.1; omega
  have hP6 : P ≤ 6 := by have := hIF.1.1.2; omega
  have hmq2 : zMvF M = mv := hmq
  have hpm : ∀ g ∈ mv, gpm g := fun g hg => hIF.2.2.1 g (by rw [hmq2]; exact hg)
  have hGr := hTm.gr hpm
  have hF64 : (gF T).length ≤ 64 := by have := (gT_zTA hT).1.2; omega
  have hO := gTabs_ok T hT
  have hX := gTabs_ex T hT
  obtain ⟨D, hD⟩ := hX.2.2.2.2.2
  have hi := hIF.1
  have hC := c_M_usesS l M hM x0.toInt (z32r x0).1 (z32r x0).2 (gF T).length (gmkI T) (gT_zTA hT) s nm hB.rm hsr hni 
  simp only [Int32.ofInt_toInt] at hC
  refine ⟨_, hC, ?_⟩
  rintro r N ⟨v, rfl, hv, hf, hp⟩
  have hx2 : ∃ s2 : zSg, zAuses T nm s x0.toInt s2 v ∧ zSR (gF T).length s2 N := by
    rcases hp with ⟨a1, a2, a3⟩ | ⟨a1, a2, a3⟩
    · exact ⟨_, Or.inl ⟨a1, rfl, a3⟩, a2⟩
    · exact ⟨_, Or.inr ⟨a1, rfl, a3⟩, a2⟩
  obtain ⟨s2, y1, y2⟩ := hx2
  have h602 : 0 ≤ ze N 81 60 ∧ ze N 81 60 ≤ 12 := by
    obtain ⟨⟨e1, e2⟩, -⟩ := id y2
    omega
  exact ⟨v, s2, rfl, y1, zRXn.st hf hx y2 (by decide) (by decide), ⟨hf.old (by decide), hf.w hM, zWd.b h hf (by decide) (by decide) (by rw [hf.e (by decide)]; exact h1) h602 (by rw [hf.e (by decide)]; exact h57) (zB.fr hf h110 (by decide) (by decide)), (hf.e (by decide))⟩, fun j => hf.ie (by decide) (by decide) j⟩
theorem w9_grows (l : Launch) (M : zMem) (hM : zMt M) (h : zWd M) (P : Nat) (mv : List Nat) (T : zGT) (nm : List (Int × (Nat → Int))) (s : zSg) (hx : zRXn P mv T nm s M) (hb : zSB (gF T).length s) (x0 : Int32) (x1 : Int32) (x2 : Int32) : ∃ Q' : Option Value → zMem → Prop, zC l m_M_grows 0 0 [.ref 81, .int x0, .int x1, .int x2] M Q' ∧ ∀ r N, Q' r N → ∃ (v : Int) (s2 : zSg), r = some (.long (Int64.ofInt v)) ∧ zAgrows T s x0.toInt x1.toInt x2.toInt s2 v ∧ zRXn P mv T nm s2 N ∧ zGo M N (ze M 81 1) ∧ ∀ j : Nat, ze N 82 j = ze M 82 j := by
  obtain ⟨h1, h14, h18, h60, h57, hIF, h83, h110, -⟩ := id h
  obtain ⟨hrs, hnm, hni, hsr⟩ := id hx
  obtain ⟨hT, hTm, hB, h16, hmq, hCd, -⟩ := id hrs
  have hP1 : 1 ≤ P := by have := hIF.1.1.1; omega
  have hP6 : P ≤ 6 := by have := hIF.1.1.2; omega
  have hmq2 : zMvF M = mv := hmq
  have hpm : ∀ g ∈ mv, gpm g := fun g hg => hIF.2.2.1 g (by rw [hmq2]; exact hg)
  have hGr := hTm.gr hpm
  have hF64 : (gF T).length ≤ 64 := by have := (gT_zTA hT).1.2; omega
  have hO := gTabs_ok T hT
  have hX := gTabs_ex T hT
  obtain ⟨D, hD⟩ := hX.2.2.2.2.2
  have hi := hIF.1
  have hC := c_M_growsS l M hM x0.toInt (z32r x0).1 (z32r x0).2 x1.toInt (z32r x1).1 (z32r x1).2 x2.toInt (z32r x2).1 (z32r x2).2 (gF T).length (gmkI T) (gT_zTA hT) s hB.rm hsr hb 
  simp only [Int32.ofInt_toInt] at hC
  refine ⟨_, hC, ?_⟩
  rintro r N ⟨v, rfl, hv, hf, hp⟩
  have hx2 : ∃ s2 : zSg, zAgrows T s x0.toInt x1.toInt x2.toInt s2 v ∧ zSR (gF T).length s2 N := by
    rcases hp with ⟨a1, a2, a3⟩ | ⟨a1, a2, a3⟩
    · exact ⟨_, Or.inl ⟨a1, rfl, a3⟩, a2⟩
    · exact ⟨_, Or.inr ⟨a1, rfl, a3⟩, a2⟩
  obtain ⟨s2, y1, y2⟩ := hx2
  have h602 : 0 ≤ ze N 81 60 ∧ ze N 81 60 ≤ 12 := by
    obtain ⟨⟨e1, e2⟩, -⟩ := id y2
    omega
  exact ⟨v, s2, rfl, y1, zRXn.st hf hx y2 (by decide) (by decide), ⟨hf.old (by decide), hf.w hM, zWd.b h hf (by decide) (by decide) (by rw [hf.e (by decide)]; exact h1) h602 (by rw [hf.e (by decide)]; exact h57) (zB.fr hf h110 (by decide) (by decide)), (hf.e (by decide))⟩, fun j => hf.ie (by decide) (by decide) j⟩
theorem w9_undo (l : Launch) (M : zMem) (hM : zMt M) (h : zWd M) (P : Nat) (mv : List Nat) (T : zGT) (nm : List (Int × (Nat → Int))) (s : zSg) (hx : zRXn P mv T nm s M) (hb : zSB (gF T).length s) : ∃ Q' : Option Value → zMem → Prop, zC l m_M_undo 0 0 [.ref 81] M Q' ∧ ∀ r N, Q' r N → ∃ (v : Int) (s2 : zSg), r = some (.int (Int32.ofInt v)) ∧ zAundo s s2 v ∧ zRXn P mv T nm s2 N ∧ zGo M N (ze M 81 1) ∧ ∀ j : Nat, ze N 82 j = ze M 82 j := by
  obtain ⟨h1, h14, h18, h60, h57, hIF, h83, h110, -⟩ := id h
  obtain ⟨hrs, hnm, hni, hsr⟩ := id hx
  obtain ⟨hT, hTm, hB, h16, hmq, hCd, -⟩ := id hrs
  have hP1 : 1 ≤ P := by have := hIF.1.1.1; omega
  have hP6 : P ≤ 6 := by have := hIF.1.1.2; omega
  have hmq2 : zMvF M = mv := hmq
  have hpm : ∀ g ∈ mv, gpm g := fun g hg => hIF.2.2.1 g (by rw [hmq2]; exact hg)
  have hGr := hTm.gr hpm
  have hF64 : (gF T).length ≤ 64 := by have := (gT_zTA hT).1.2; omega
  have hO := gTabs_ok T hT
  have hX := gTabs_ex T hT
  obtain ⟨D, hD⟩ := hX.2.2.2.2.2
  have hi := hIF.1
  have hC := c_M_undoS l M hM  (gF T).length hF64 s hsr 
  refine ⟨_, hC, ?_⟩
  rintro r N ⟨v, rfl, hv, hf, hp⟩
  have hx2 : ∃ s2 : zSg, zAundo s s2 v ∧ zSR (gF T).length s2 N := by
    rcases hp with ⟨a1, a2, a3⟩ | ⟨a1, a2, a3⟩
    · exact ⟨_, Or.inl ⟨a1, rfl, a3⟩, a2⟩
    · exact ⟨_, Or.inr ⟨a1, rfl, a3⟩, a2⟩
  obtain ⟨s2, y1, y2⟩ := hx2
  have h602 : 0 ≤ ze N 81 60 ∧ ze N 81 60 ≤ 12 := by
    obtain ⟨⟨e1, e2⟩, -⟩ := id y2
    omega
  exact ⟨v, s2, rfl, y1, zRXn.st hf hx y2 (by decide) (by decide), ⟨hf.old (by decide), hf.w hM, zWd.b h hf (by decide) (by decide) (by rw [hf.e (by decide)]; exact h1) h602 (by rw [hf.e (by decide)]; exact h57) (zB.fr hf h110 (by decide) (by decide)), (hf.e (by decide))⟩, fun j => hf.ie (by decide) (by decide) j⟩
