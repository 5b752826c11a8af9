theorem v8_feed (l : Launch) (M : zMem) (h : zLqu M) (x0 : Int32) (x1 : Int32) (x2 : Int32) (x3 : Int32) (x4 : Int32) : ∃ Q' : Option Value → zMem → Prop, zC l m_T_feed 0 0 [.ref 0, .int x0, .int x1, .int x2, .int x3, .int x4] M Q' ∧ ∀ r N, Q' r N → (∃ v : Int32, r = some (.int v)) ∧ zLmu N ∧ zLw N ∧ (∀ q, 81 ≤ q → zi N q = zi M q ∧ zj N q = zj M q) ∧ ((700 < ze M 1 1 + 20 ∧ ze N 1 1 = ze M 1 1 ∧ ∀ j : Nat, ze N 3 j = ze M 3 j) ∨ (ze M 1 1 + 20 ≤ 700 ∧ ze N 1 1 = ze M 1 1 + 20 ∧ ∀ j : Nat, ze N 3 j = zfd5 (fun j => ze M 3 j) (ze M 1 1) x0.toInt x1.toInt x2.toInt x3.toInt x4.toInt j)) := by
  obtain ⟨hw, ht⟩ := id h.1
  obtain ⟨d, d2, hW, hW2, hd, hn, hs⟩ := hw.k
  have h1 := hw.t
  have ht1 := ht.1
  have hC := u_T_feed l d M hW x0.toInt (z32r x0).1 (z32r x0).2 x1.toInt (z32r x1).1 (z32r x1).2 x2.toInt (z32r x2).1 (z32r x2).2 x3.toInt (z32r x3).1 (z32r x3).2 x4.toInt (z32r x4).1 (z32r x4).2 (by omega) (by omega)
  simp only [Int32.ofInt_toInt] at hC
  refine ⟨_, hC, ?_⟩
  rintro r N ⟨v, rfl, hv, hf, hp⟩
  refine ⟨⟨_, rfl⟩, h.2.x hf hW hn (by decide) (by decide), hw.c hf hW (by decide), fun q hq => hf.hi hW (by decide) hq, ?_⟩
  rcases hp with ⟨a1, a2, a3, a4⟩ | ⟨a1, a2, a3, a4⟩
  · exact Or.inl ⟨a1, a3, a4⟩
  · exact Or.inr ⟨a1, a3, a4⟩
theorem v8_end (l : Launch) (M : zMem) (h : zLqu M) (x0 : Int32) : ∃ Q' : Option Value → zMem → Prop, zC l m_T_end 0 0 [.ref 0, .int x0] M Q' ∧ ∀ r N, Q' r N → (∃ v : Int32, r = some (.int v)) ∧ zLmu N ∧ zLw N ∧ (∀ q, 81 ≤ q → zi N q = zi M q ∧ zj N q = zj M q) ∧ (∀ j : Nat, ze N 3 j = ze M 3 j) ∧ (((x0.toInt < 0 ∨ ze M 1 1 < x0.toInt) ∧ ze N 1 1 = ze M 1 1) ∨ (0 ≤ x0.toInt ∧ x0.toInt ≤ ze M 1 1 ∧ ze N 1 1 = x0.toInt)) := by
  obtain ⟨hw, ht⟩ := id h.1
  obtain ⟨d, d2, hW, hW2, hd, hn, hs⟩ := hw.k
  have h1 := hw.t
  have ht1 := ht.1
  have hC := u_T_end l d M hW x0.toInt (z32r x0).1 (z32r x0).2
  simp only [Int32.ofInt_toInt] at hC
  refine ⟨_, hC, ?_⟩
  rintro r N ⟨v, rfl, hv, hf, hp⟩
  refine ⟨⟨_, rfl⟩, h.2.x hf hW hn (by decide) (by decide), hw.c hf hW (by decide), fun q hq => hf.hi hW (by decide) hq, fun j => hf.ra hW (by decide) j, ?_⟩
  rcases hp with ⟨a1, a2, a3⟩ | ⟨a1, a2, a3, a4⟩
  · exact Or.inl ⟨a1, a3⟩
  · exact Or.inr ⟨a1, a2, a4⟩
theorem v8_troupe (l : Launch) (M : zMem) (h : zLqu M) : ∃ Q' : Option Value → zMem → Prop, zC l m_T_troupe 0 0 [.ref 0] M Q' ∧ ∀ r N, Q' r N → (∃ v : Value, r = some v ∧ v.category = 1 ∧ ∀ ad, zv ad v = v) ∧ zLw N ∧ ze N 1 1 = 0 ∧ (∀ q, 81 ≤ q → zi N q = zi M q ∧ zj N q = zj M q) ∧ (∀ P mv T, zRSu P mv T M → zRSu P mv T N) ∧ ((zTrB (fun k => ze M 82 k) (ze M 81 1).toNat (zru zpB (fun k => ze M 82 k) (ze M 81 1).toNat 0) ∧ zLmu N) ∨ ∃ P mv T, zTrP (fun k => ze M 82 k) (ze M 81 1).toNat (zru zpB (fun k => ze M 82 k) (ze M 81 1).toNat 0) P mv T ∧ ∃ d, zf N 0 2 = some (d + 0) ∧ zKW d N ∧ zKSu P mv T d N) := by
  obtain ⟨hw, ht⟩ := id h.1
  obtain ⟨P, mv, T, d0, hn0, hW0, hr, hk⟩ := id h.2
  obtain ⟨d, d2, hW, hW2, hd, hn, hs⟩ := hw.k
  have h1 := hw.t
  have ht1 := ht.1
  have e : d0 = d := by
    rw [hn] at hn0
    have := Option.some.inj hn0
    omega
  subst e
  refine ⟨_, u_T_troupeU l d2 M hW2 d0 (by omega) hn hs _ _ h.1.y, ?_⟩
  rintro r N ⟨v, rfl, hv, h10, hq, hc⟩
  have hlw := hw.sw hW hW2 hd hn hs hq
  have hun : (∀ q, 81 ≤ q → zi N q = zi M q ∧ zj N q = zj M q) := fun q hq2 => ⟨(hq.2.2.1 q hq2).1, (hq.2.2.1 q hq2).2.1⟩
  refine ⟨⟨_, rfl, rfl, fun _ => rfl⟩, hlw, h10, hun, fun P_ mv_ T_ hs_ => hs_.hi hun hq.1 hq.2.1, ?_⟩
  rcases hc with ⟨-, hb, hf2, hbl⟩ | ⟨P2, mv2, T2, t1, -, t3, t4⟩
  · refine Or.inl ⟨hb, P, mv, T, d0, by rw [hf2]; exact hn, hW.same hq.1 hq.2.1 (fun q j _ => by rw [hf2]), hr.hi hun hq.1 hq.2.1, hk.e (fun o ho j => ?_)⟩
    unfold ze
    rw [hbl (d0 + o) (by omega) (by omega)]
  · refine Or.inr ⟨P2, mv2, T2, t1, d2, t3.1, ?_, t4⟩
    obtain ⟨e1, e2, e3, e4, e5, e6, e7⟩ := hlw.k
    rw [t3.1] at e6
    have : d2 = e1 := by
      have := Option.some.inj e6
      omega
    rw [this]
    exact e3
theorem v8_fault (l : Launch) (M : zMem) (h : zLqu M) (x0 : Int32) : ∃ Q' : Option Value → zMem → Prop, zC l m_T_fault 0 0 [.ref 0, .int x0] M Q' ∧ ∀ r N, Q' r N → (∃ v : Value, r = some v ∧ v.category = 1 ∧ ∀ ad, zv ad v = v) ∧ zLqu N := by
  obtain ⟨hw, ht⟩ := id h.1
  obtain ⟨d, d2, hW, hW2, hd, hn, hs⟩ := hw.k
  have h1 := hw.t
  have ht1 := ht.1
  have hC := u_T_faultX l d M hW hn x0.toInt (z32r x0).1 (z32r x0).2
  simp only [Int32.ofInt_toInt] at hC
  refine ⟨_, hC, ?_⟩
  rintro r N ⟨v, rfl, hv, hf, hp⟩
  exact ⟨⟨_, rfl, rfl, fun _ => rfl⟩, h.1.x hf hW (by decide) (by decide), h.2.x hf hW hn (by decide) (by decide)⟩
theorem v8_about (l : Launch) (M : zMem) (h : zLqu M) (x0 : Int32) : ∃ Q' : Option Value → zMem → Prop, zC l m_T_about 0 0 [.ref 0, .int x0] M Q' ∧ ∀ r N, Q' r N → (∃ v : Value, r = some v ∧ v.category = 1 ∧ ∀ ad, zv ad v = v) ∧ zLqu N := by
  obtain ⟨hw, ht⟩ := id h.1
  obtain ⟨d, d2, hW, hW2, hd, hn, hs⟩ := hw.k
  have h1 := hw.t
  have ht1 := ht.1
  have hC := u_T_aboutX l d M hW hn x0.toInt (z32r x0).1 (z32r x0).2
  simp only [Int32.ofInt_toInt] at hC
  refine ⟨_, hC, ?_⟩
  rintro r N ⟨v, rfl, hv, hf, hp⟩
  exact ⟨⟨_, rfl, rfl, fun _ => rfl⟩, h.1.x hf hW (by decide) (by decide), h.2.x hf hW hn (by decide) (by decide)⟩
theorem v8_moves (l : Launch) (M : zMem) (h : zLqu M) (x0 : Int32) (x1 : Int32) : ∃ Q' : Option Value → zMem → Prop, zC l m_T_moves 0 0 [.ref 0, .int x0, .int x1] M Q' ∧ ∀ r N, Q' r N → (∃ v : Value, r = some v ∧ v.category = 1 ∧ ∀ ad, zv ad v = v) ∧ zLqu N := by
  obtain ⟨hw, ht⟩ := id h.1
  obtain ⟨d, d2, hW, hW2, hd, hn, hs⟩ := hw.k
  have h1 := hw.t
  have ht1 := ht.1
  have hC := u_T_movesX l d M hW hn x0.toInt (z32r x0).1 (z32r x0).2 x1.toInt (z32r x1).1 (z32r x1).2
  simp only [Int32.ofInt_toInt] at hC
  refine ⟨_, hC, ?_⟩
  rintro r N ⟨v, rfl, hv, hf, hp⟩
  exact ⟨⟨_, rfl, rfl, fun _ => rfl⟩, h.1.x hf hW (by decide) (by decide), h.2.x hf hW hn (by decide) (by decide)⟩
theorem v8_times (l : Launch) (M : zMem) (h : zLqu M) (x0 : Int32) (x1 : Int32) : ∃ Q' : Option Value → zMem → Prop, zC l m_T_times 0 0 [.ref 0, .int x0, .int x1] M Q' ∧ ∀ r N, Q' r N → (∃ v : Value, r = some v ∧ v.category = 1 ∧ ∀ ad, zv ad v = v) ∧ zLqu N := by
  obtain ⟨hw, ht⟩ := id h.1
  obtain ⟨d, d2, hW, hW2, hd, hn, hs⟩ := hw.k
  have h1 := hw.t
  have ht1 := ht.1
  have hC := u_T_timesX l d M hW hn x0.toInt (z32r x0).1 (z32r x0).2 x1.toInt (z32r x1).1 (z32r x1).2
  simp only [Int32.ofInt_toInt] at hC
  refine ⟨_, hC, ?_⟩
  rintro r N ⟨v, rfl, hv, hf, hp⟩
  exact ⟨⟨_, rfl, rfl, fun _ => rfl⟩, h.1.x hf hW (by decide) (by decide), h.2.x hf hW hn (by decide) (by decide)⟩
theorem v8_order (l : Launch) (M : zMem) (h : zLqu M) (x0 : Int32) : ∃ Q' : Option Value → zMem → Prop, zC l m_T_order 0 0 [.ref 0, .int x0] M Q' ∧ ∀ r N, Q' r N → (∃ v : Value, r = some v ∧ v.category = 1 ∧ ∀ ad, zv ad v = v) ∧ zLqu N := by
  obtain ⟨hw, ht⟩ := id h.1
  obtain ⟨d, d2, hW, hW2, hd, hn, hs⟩ := hw.k
  have h1 := hw.t
  have ht1 := ht.1
  have hC := u_T_orderX l d M hW hn x0.toInt (z32r x0).1 (z32r x0).2
  simp only [Int32.ofInt_toInt] at hC
  refine ⟨_, hC, ?_⟩
  rintro r N ⟨v, rfl, hv, hf, hp⟩
  exact ⟨⟨_, rfl, rfl, fun _ => rfl⟩, h.1.x hf hW (by decide) (by decide), h.2.x hf hW hn (by decide) (by decide)⟩
theorem v8_makesOf (l : Launch) (M : zMem) (h : zLqu M) (x0 : Int32) : ∃ Q' : Option Value → zMem → Prop, zC l m_T_makesOf 0 0 [.ref 0, .int x0] M Q' ∧ ∀ r N, Q' r N → (∃ v : Value, r = some v ∧ v.category = 1 ∧ ∀ ad, zv ad v = v) ∧ zLqu N := by
  obtain ⟨hw, ht⟩ := id h.1
  obtain ⟨d, d2, hW, hW2, hd, hn, hs⟩ := hw.k
  have h1 := hw.t
  have ht1 := ht.1
  have hC := u_T_makesOfX l d M hW hn x0.toInt (z32r x0).1 (z32r x0).2
  simp only [Int32.ofInt_toInt] at hC
  refine ⟨_, hC, ?_⟩
  rintro r N ⟨v, rfl, hv, hf, hp⟩
  exact ⟨⟨_, rfl, rfl, fun _ => rfl⟩, h.1.x hf hW (by decide) (by decide), h.2.x hf hW hn (by decide) (by decide)⟩
theorem v8_sortOf (l : Launch) (M : zMem) (h : zLqu M) (x0 : Int32) : ∃ Q' : Option Value → zMem → Prop, zC l m_T_sortOf 0 0 [.ref 0, .int x0] M Q' ∧ ∀ r N, Q' r N → (∃ v : Value, r = some v ∧ v.category = 1 ∧ ∀ ad, zv ad v = v) ∧ zLqu N := by
  obtain ⟨hw, ht⟩ := id h.1
  obtain ⟨d, d2, hW, hW2, hd, hn, hs⟩ := hw.k
  have h1 := hw.t
  have ht1 := ht.1
  have hC := u_T_sortOfX l d M hW hn x0.toInt (z32r x0).1 (z32r x0).2
  simp only [Int32.ofInt_toInt] at hC
  refine ⟨_, hC, ?_⟩
  rintro r N ⟨v, rfl, hv, hf, hp⟩
  exact ⟨⟨_, rfl, rfl, fun _ => rfl⟩, h.1.x hf hW (by decide) (by decide), h.2.x hf hW hn (by decide) (by decide)⟩
theorem v8_sort (l : Launch) (M : zMem) (h : zLqu M) (x0 : Int32) (x1 : Int32) : ∃ Q' : Option Value → zMem → Prop, zC l m_T_sort 0 0 [.ref 0, .int x0, .int x1] M Q' ∧ ∀ r N, Q' r N → (∃ v : Value, r = some v ∧ v.category = 1 ∧ ∀ ad, zv ad v = v) ∧ zLqu N := by
  obtain ⟨hw, ht⟩ := id h.1
  obtain ⟨d, d2, hW, hW2, hd, hn, hs⟩ := hw.k
  have h1 := hw.t
  have ht1 := ht.1
  have hC := u_T_sortX l d M hW hn x0.toInt (z32r x0).1 (z32r x0).2 x1.toInt (z32r x1).1 (z32r x1).2
  simp only [Int32.ofInt_toInt] at hC
  refine ⟨_, hC, ?_⟩
  rintro r N ⟨v, rfl, hv, hf, hp⟩
  exact ⟨⟨_, rfl, rfl, fun _ => rfl⟩, h.1.x hf hW (by decide) (by decide), h.2.x hf hW hn (by decide) (by decide)⟩
theorem v8_within (l : Launch) (M : zMem) (h : zLqu M) (x0 : Int32) (x1 : Int32) : ∃ Q' : Option Value → zMem → Prop, zC l m_T_within 0 0 [.ref 0, .int x0, .int x1] M Q' ∧ ∀ r N, Q' r N → (∃ v : Value, r = some v ∧ v.category = 1 ∧ ∀ ad, zv ad v = v) ∧ zLqu N := by
  obtain ⟨hw, ht⟩ := id h.1
  obtain ⟨d, d2, hW, hW2, hd, hn, hs⟩ := hw.k
  have h1 := hw.t
  have ht1 := ht.1
  have hC := u_T_withinX l d M hW hn x0.toInt (z32r x0).1 (z32r x0).2 x1.toInt (z32r x1).1 (z32r x1).2
  simp only [Int32.ofInt_toInt] at hC
  refine ⟨_, hC, ?_⟩
  rintro r N ⟨v, rfl, hv, hf, hp⟩
  exact ⟨⟨_, rfl, rfl, fun _ => rfl⟩, h.1.x hf hW (by decide) (by decide), h.2.x hf hW hn (by decide) (by decide)⟩
theorem v8_mark (l : Launch) (M : zMem) (h : zLqu M) (x0 : Int32) (x1 : Int32) : ∃ Q' : Option Value → zMem → Prop, zC l m_T_mark 0 0 [.ref 0, .int x0, .int x1] M Q' ∧ ∀ r N, Q' r N → (∃ v : Value, r = some v ∧ v.category = 1 ∧ ∀ ad, zv ad v = v) ∧ zLqu N := by
  obtain ⟨hw, ht⟩ := id h.1
  obtain ⟨d, d2, hW, hW2, hd, hn, hs⟩ := hw.k
  have h1 := hw.t
  have ht1 := ht.1
  have hC := u_T_markX l d M hW hn x0.toInt (z32r x0).1 (z32r x0).2 x1.toInt (z32r x1).1 (z32r x1).2
  simp only [Int32.ofInt_toInt] at hC
  refine ⟨_, hC, ?_⟩
  rintro r N ⟨v, rfl, hv, hf, hp⟩
  exact ⟨⟨_, rfl, rfl, fun _ => rfl⟩, h.1.x hf hW (by decide) (by decide), h.2.x hf hW hn (by decide) (by decide)⟩
theorem v8_product (l : Launch) (M : zMem) (h : zLqu M) (x0 : Int32) (x1 : Int32) (x2 : Int32) : ∃ Q' : Option Value → zMem → Prop, zC l m_T_product 0 0 [.ref 0, .int x0, .int x1, .int x2] M Q' ∧ ∀ r N, Q' r N → (∃ v : Value, r = some v ∧ v.category = 1 ∧ ∀ ad, zv ad v = v) ∧ zLqu N := by
  obtain ⟨hw, ht⟩ := id h.1
  obtain ⟨d, d2, hW, hW2, hd, hn, hs⟩ := hw.k
  have h1 := hw.t
  have ht1 := ht.1
  have hC := u_T_productX l d M hW hn x0.toInt (z32r x0).1 (z32r x0).2 x1.toInt (z32r x1).1 (z32r x1).2 x2.toInt (z32r x2).1 (z32r x2).2
  simp only [Int32.ofInt_toInt] at hC
  refine ⟨_, hC, ?_⟩
  rintro r N ⟨v, rfl, hv, hf, hp⟩
  exact ⟨⟨_, rfl, rfl, fun _ => rfl⟩, h.1.x hf hW (by decide) (by decide), h.2.x hf hW hn (by decide) (by decide)⟩
theorem v8_residue (l : Launch) (M : zMem) (h : zLqu M) (x0 : Int32) (x1 : Int32) : ∃ Q' : Option Value → zMem → Prop, zC l m_T_residue 0 0 [.ref 0, .int x0, .int x1] M Q' ∧ ∀ r N, Q' r N → (∃ v : Value, r = some v ∧ v.category = 1 ∧ ∀ ad, zv ad v = v) ∧ zLqu N := by
  obtain ⟨hw, ht⟩ := id h.1
  obtain ⟨d, d2, hW, hW2, hd, hn, hs⟩ := hw.k
  have h1 := hw.t
  have ht1 := ht.1
  have hC := u_T_residueX l d M hW hn x0.toInt (z32r x0).1 (z32r x0).2 x1.toInt (z32r x1).1 (z32r x1).2
  simp only [Int32.ofInt_toInt] at hC
  refine ⟨_, hC, ?_⟩
  rintro r N ⟨v, rfl, hv, hf, hp⟩
  exact ⟨⟨_, rfl, rfl, fun _ => rfl⟩, h.1.x hf hW (by decide) (by decide), h.2.x hf hW hn (by decide) (by decide)⟩
theorem v8_block (l : Launch) (M : zMem) (h : zLqu M) (x0 : Int32) (x1 : Int32) : ∃ Q' : Option Value → zMem → Prop, zC l m_T_block 0 0 [.ref 0, .int x0, .int x1] M Q' ∧ ∀ r N, Q' r N → (∃ v : Value, r = some v ∧ v.category = 1 ∧ ∀ ad, zv ad v = v) ∧ zLqu N := by
  obtain ⟨hw, ht⟩ := id h.1
  obtain ⟨d, d2, hW, hW2, hd, hn, hs⟩ := hw.k
  have h1 := hw.t
  have ht1 := ht.1
  have hC := u_T_blockX l d M hW hn x0.toInt (z32r x0).1 (z32r x0).2 x1.toInt (z32r x1).1 (z32r x1).2
  simp only [Int32.ofInt_toInt] at hC
  refine ⟨_, hC, ?_⟩
  rintro r N ⟨v, rfl, hv, hf, hp⟩
  exact ⟨⟨_, rfl, rfl, fun _ => rfl⟩, h.1.x hf hW (by decide) (by decide), h.2.x hf hW hn (by decide) (by decide)⟩
theorem v8_keeper (l : Launch) (M : zMem) (h : zLqu M) (x0 : Int32) : ∃ Q' : Option Value → zMem → Prop, zC l m_T_keeper 0 0 [.ref 0, .int x0] M Q' ∧ ∀ r N, Q' r N → (∃ v : Value, r = some v ∧ v.category = 1 ∧ ∀ ad, zv ad v = v) ∧ zLqu N := by
  obtain ⟨hw, ht⟩ := id h.1
  obtain ⟨d, d2, hW, hW2, hd, hn, hs⟩ := hw.k
  have h1 := hw.t
  have ht1 := ht.1
  have hC := u_T_keeperX l d M hW hn x0.toInt (z32r x0).1 (z32r x0).2
  simp only [Int32.ofInt_toInt] at hC
  refine ⟨_, hC, ?_⟩
  rintro r N ⟨v, rfl, hv, hf, hp⟩
  exact ⟨⟨_, rfl, rfl, fun _ => rfl⟩, h.1.x hf hW (by decide) (by decide), h.2.x hf hW hn (by decide) (by decide)⟩
theorem v8_orbit (l : Launch) (M : zMem) (h : zLqu M) (x0 : Int32) : ∃ Q' : Option Value → zMem → Prop, zC l m_T_orbit 0 0 [.ref 0, .int x0] M Q' ∧ ∀ r N, Q' r N → (∃ v : Value, r = some v ∧ v.category = 1 ∧ ∀ ad, zv ad v = v) ∧ zLqu N := by
  obtain ⟨hw, ht⟩ := id h.1
  obtain ⟨d, d2, hW, hW2, hd, hn, hs⟩ := hw.k
  have h1 := hw.t
  have ht1 := ht.1
  have hC := u_T_orbitX l d M hW hn x0.toInt (z32r x0).1 (z32r x0).2
  simp only [Int32.ofInt_toInt] at hC
  refine ⟨_, hC, ?_⟩
  rintro r N ⟨v, rfl, hv, hf, hp⟩
  exact ⟨⟨_, rfl, rfl, fun _ => rfl⟩, h.1.x hf hW (by decide) (by decide), h.2.x hf hW hn (by decide) (by decide)⟩
theorem v8_coset (l : Launch) (M : zMem) (h : zLqu M) (x0 : Int32) (x1 : Int32) : ∃ Q' : Option Value → zMem → Prop, zC l m_T_coset 0 0 [.ref 0, .int x0, .int x1] M Q' ∧ ∀ r N, Q' r N → (∃ v : Value, r = some v ∧ v.category = 1 ∧ ∀ ad, zv ad v = v) ∧ zLqu N := by
  obtain ⟨hw, ht⟩ := id h.1
  obtain ⟨d, d2, hW, hW2, hd, hn, hs⟩ := hw.k
  have h1 := hw.t
  have ht1 := ht.1
  have hC := u_T_cosetX l d M hW hn x0.toInt (z32r x0).1 (z32r x0).2 x1.toInt (z32r x1).1 (z32r x1).2
  simp only [Int32.ofInt_toInt] at hC
  refine ⟨_, hC, ?_⟩
  rintro r N ⟨v, rfl, hv, hf, hp⟩
  exact ⟨⟨_, rfl, rfl, fun _ => rfl⟩, h.1.x hf hW (by decide) (by decide), h.2.x hf hW hn (by decide) (by decide)⟩
theorem v8_takes (l : Launch) (M : zMem) (h : zLqu M) (x0 : Int32) (x1 : Int32) (x2 : Int32) : ∃ Q' : Option Value → zMem → Prop, zC l m_T_takes 0 0 [.ref 0, .int x0, .int x1, .int x2] M Q' ∧ ∀ r N, Q' r N → (∃ v : Value, r = some v ∧ v.category = 1 ∧ ∀ ad, zv ad v = v) ∧ zLqu N := by
  obtain ⟨hw, ht⟩ := id h.1
  obtain ⟨d, d2, hW, hW2, hd, hn, hs⟩ := hw.k
  have h1 := hw.t
  have ht1 := ht.1
  have hC := u_T_takesX l d M hW hn x0.toInt (z32r x0).1 (z32r x0).2 x1.toInt (z32r x1).1 (z32r x1).2 x2.toInt (z32r x2).1 (z32r x2).2
  simp only [Int32.ofInt_toInt] at hC
  refine ⟨_, hC, ?_⟩
  rintro r N ⟨v, rfl, hv, hf, hp⟩
  exact ⟨⟨_, rfl, rfl, fun _ => rfl⟩, h.1.x hf hW (by decide) (by decide), h.2.x hf hW hn (by decide) (by decide)⟩
theorem v8_moebius (l : Launch) (M : zMem) (h : zLqu M) (x0 : Int32) : ∃ Q' : Option Value → zMem → Prop, zC l m_T_moebius 0 0 [.ref 0, .int x0] M Q' ∧ ∀ r N, Q' r N → (∃ v : Value, r = some v ∧ v.category = 1 ∧ ∀ ad, zv ad v = v) ∧ zLqu N := by
  obtain ⟨hw, ht⟩ := id h.1
  obtain ⟨d, d2, hW, hW2, hd, hn, hs⟩ := hw.k
  have h1 := hw.t
  have ht1 := ht.1
  have hC := u_T_moebiusX l d M hW hn x0.toInt (z32r x0).1 (z32r x0).2
  simp only [Int32.ofInt_toInt] at hC
  refine ⟨_, hC, ?_⟩
  rintro r N ⟨v, rfl, hv, hf, hp⟩
  exact ⟨⟨_, rfl, rfl, fun _ => rfl⟩, h.1.x hf hW (by decide) (by decide), h.2.x hf hW hn (by decide) (by decide)⟩
theorem v8_mixed (l : Launch) (M : zMem) (h : zLqu M) (x0 : Int32) : ∃ Q' : Option Value → zMem → Prop, zC l m_T_mixed 0 0 [.ref 0, .int x0] M Q' ∧ ∀ r N, Q' r N → (∃ v : Value, r = some v ∧ v.category = 1 ∧ ∀ ad, zv ad v = v) ∧ zLqu N := by
  obtain ⟨hw, ht⟩ := id h.1
  obtain ⟨d, d2, hW, hW2, hd, hn, hs⟩ := hw.k
  have h1 := hw.t
  have ht1 := ht.1
  have hC := u_T_mixedX l d M hW hn x0.toInt (z32r x0).1 (z32r x0).2
  simp only [Int32.ofInt_toInt] at hC
  refine ⟨_, hC, ?_⟩
  rintro r N ⟨v, rfl, hv, hf, hp⟩
  exact ⟨⟨_, rfl, rfl, fun _ => rfl⟩, h.1.x hf hW (by decide) (by decide), h.2.x hf hW hn (by decide) (by decide)⟩
theorem v8_centre (l : Launch) (M : zMem) (h : zLqu M) (x0 : Int32) : ∃ Q' : Option Value → zMem → Prop, zC l m_T_centre 0 0 [.ref 0, .int x0] M Q' ∧ ∀ r N, Q' r N → (∃ v : Value, r = some v ∧ v.category = 1 ∧ ∀ ad, zv ad v = v) ∧ zLqu N := by
  obtain ⟨hw, ht⟩ := id h.1
  obtain ⟨d, d2, hW, hW2, hd, hn, hs⟩ := hw.k
  have h1 := hw.t
  have ht1 := ht.1
  have hC := u_T_centreX l d M hW hn x0.toInt (z32r x0).1 (z32r x0).2
  simp only [Int32.ofInt_toInt] at hC
  refine ⟨_, hC, ?_⟩
  rintro r N ⟨v, rfl, hv, hf, hp⟩
  exact ⟨⟨_, rfl, rfl, fun _ => rfl⟩, h.1.x hf hW (by decide) (by decide), h.2.x hf hW hn (by decide) (by decide)⟩
theorem v8_pairs (l : Launch) (M : zMem) (h : zLqu M) (x0 : Int32) (x1 : Int32) : ∃ Q' : Option Value → zMem → Prop, zC l m_T_pairs 0 0 [.ref 0, .int x0, .int x1] M Q' ∧ ∀ r N, Q' r N → (∃ v : Value, r = some v ∧ v.category = 1 ∧ ∀ ad, zv ad v = v) ∧ zLqu N := by
  obtain ⟨hw, ht⟩ := id h.1
  obtain ⟨d, d2, hW, hW2, hd, hn, hs⟩ := hw.k
  have h1 := hw.t
  have ht1 := ht.1
  have hC := u_T_pairsX l d M hW hn x0.toInt (z32r x0).1 (z32r x0).2 x1.toInt (z32r x1).1 (z32r x1).2
  simp only [Int32.ofInt_toInt] at hC
  refine ⟨_, hC, ?_⟩
  rintro r N ⟨v, rfl, hv, hf, hp⟩
  exact ⟨⟨_, rfl, rfl, fun _ => rfl⟩, h.1.x hf hW (by decide) (by decide), h.2.x hf hW hn (by decide) (by decide)⟩
theorem v8_alike (l : Launch) (M : zMem) (h : zLqu M) : ∃ Q' : Option Value → zMem → Prop, zC l m_T_alike 0 0 [.ref 0] M Q' ∧ ∀ r N, Q' r N → (∃ v : Value, r = some v ∧ v.category = 1 ∧ ∀ ad, zv ad v = v) ∧ zLqu N := by
  obtain ⟨hw, ht⟩ := id h.1
  obtain ⟨d, d2, hW, hW2, hd, hn, hs⟩ := hw.k
  have h1 := hw.t
  have ht1 := ht.1
  have hC := u_T_alikeX l d M hW hn 
  refine ⟨_, hC, ?_⟩
  rintro r N ⟨v, rfl, hv, hf, hp⟩
  exact ⟨⟨_, rfl, rfl, fun _ => rfl⟩, h.1.x hf hW (by decide) (by decide), h.2.x hf hW hn (by decide) (by decide)⟩
theorem v8_meet (l : Launch) (M : zMem) (h : zLqu M) (x0 : Int32) (x1 : Int32) : ∃ Q' : Option Value → zMem → Prop, zC l m_T_meet 0 0 [.ref 0, .int x0, .int x1] M Q' ∧ ∀ r N, Q' r N → (∃ v : Value, r = some v ∧ v.category = 1 ∧ ∀ ad, zv ad v = v) ∧ zLqu N := by
  obtain ⟨hw, ht⟩ := id h.1
  obtain ⟨d, d2, hW, hW2, hd, hn, hs⟩ := hw.k
  have h1 := hw.t
  have ht1 := ht.1
  have hC := u_T_meetX l d M hW hn x0.toInt (z32r x0).1 (z32r x0).2 x1.toInt (z32r x1).1 (z32r x1).2
  simp only [Int32.ofInt_toInt] at hC
  refine ⟨_, hC, ?_⟩
  rintro r N ⟨v, rfl, hv, hf, hp⟩
  exact ⟨⟨_, rfl, rfl, fun _ => rfl⟩, h.1.x hf hW (by decide) (by decide), h.2.x hf hW hn (by decide) (by decide)⟩
theorem v8_join (l : Launch) (M : zMem) (h : zLqu M) (x0 : Int32) (x1 : Int32) : ∃ Q' : Option Value → zMem → Prop, zC l m_T_join 0 0 [.ref 0, .int x0, .int x1] M Q' ∧ ∀ r N, Q' r N → (∃ v : Value, r = some v ∧ v.category = 1 ∧ ∀ ad, zv ad v = v) ∧ zLqu N := by
  obtain ⟨hw, ht⟩ := id h.1
  obtain ⟨d, d2, hW, hW2, hd, hn, hs⟩ := hw.k
  have h1 := hw.t
  have ht1 := ht.1
  have hC := u_T_joinX l d M hW hn x0.toInt (z32r x0).1 (z32r x0).2 x1.toInt (z32r x1).1 (z32r x1).2
  simp only [Int32.ofInt_toInt] at hC
  refine ⟨_, hC, ?_⟩
  rintro r N ⟨v, rfl, hv, hf, hp⟩
  exact ⟨⟨_, rfl, rfl, fun _ => rfl⟩, h.1.x hf hW (by decide) (by decide), h.2.x hf hW hn (by decide) (by decide)⟩
theorem v8_orders (l : Launch) (M : zMem) (h : zLqu M) (x0 : Int32) : ∃ Q' : Option Value → zMem → Prop, zC l m_T_orders 0 0 [.ref 0, .int x0] M Q' ∧ ∀ r N, Q' r N → (∃ v : Value, r = some v ∧ v.category = 1 ∧ ∀ ad, zv ad v = v) ∧ zLqu N := by
  obtain ⟨hw, ht⟩ := id h.1
  obtain ⟨d, d2, hW, hW2, hd, hn, hs⟩ := hw.k
  have h1 := hw.t
  have ht1 := ht.1
  have hC := u_T_ordersX l d M hW hn x0.toInt (z32r x0).1 (z32r x0).2
  simp only [Int32.ofInt_toInt] at hC
  refine ⟨_, hC, ?_⟩
  rintro r N ⟨v, rfl, hv, hf, hp⟩
  exact ⟨⟨_, rfl, rfl, fun _ => rfl⟩, h.1.x hf hW (by decide) (by decide), h.2.x hf hW hn (by decide) (by decide)⟩
theorem v8_likes (l : Launch) (M : zMem) (h : zLqu M) (x0 : Int32) : ∃ Q' : Option Value → zMem → Prop, zC l m_T_likes 0 0 [.ref 0, .int x0] M Q' ∧ ∀ r N, Q' r N → (∃ v : Value, r = some v ∧ v.category = 1 ∧ ∀ ad, zv ad v = v) ∧ zLqu N := by
  obtain ⟨hw, ht⟩ := id h.1
  obtain ⟨d, d2, hW, hW2, hd, hn, hs⟩ := hw.k
  have h1 := hw.t
  have ht1 := ht.1
  have hC := u_T_likesX l d M hW hn x0.toInt (z32r x0).1 (z32r x0).2
  simp only [Int32.ofInt_toInt] at hC
  refine ⟨_, hC, ?_⟩
  rintro r N ⟨v, rfl, hv, hf, hp⟩
  exact ⟨⟨_, rfl, rfl, fun _ => rfl⟩, h.1.x hf hW (by decide) (by decide), h.2.x hf hW hn (by decide) (by decide)⟩
theorem v8_peak (l : Launch) (M : zMem) (h : zLqu M) (x0 : Int32) (x1 : Int32) (x2 : Int32) : ∃ Q' : Option Value → zMem → Prop, zC l m_T_peak 0 0 [.ref 0, .int x0, .int x1, .int x2] M Q' ∧ ∀ r N, Q' r N → (∃ v : Value, r = some v ∧ v.category = 1 ∧ ∀ ad, zv ad v = v) ∧ zLqu N := by
  obtain ⟨hw, ht⟩ := id h.1
  obtain ⟨d, d2, hW, hW2, hd, hn, hs⟩ := hw.k
  have h1 := hw.t
  have ht1 := ht.1
  have hC := u_T_peakX l d M hW hn x0.toInt (z32r x0).1 (z32r x0).2 x1.toInt (z32r x1).1 (z32r x1).2 x2.toInt (z32r x2).1 (z32r x2).2
  simp only [Int32.ofInt_toInt] at hC
  refine ⟨_, hC, ?_⟩
  rintro r N ⟨v, rfl, hv, hf, hp⟩
  exact ⟨⟨_, rfl, rfl, fun _ => rfl⟩, h.1.x hf hW (by decide) (by decide), h.2.x hf hW hn (by decide) (by decide)⟩
theorem v8_local (l : Launch) (M : zMem) (h : zLqu M) (x0 : Int32) (x1 : Int32) (x2 : Int32) (x3 : Int32) : ∃ Q' : Option Value → zMem → Prop, zC l m_T_local 0 0 [.ref 0, .int x0, .int x1, .int x2, .int x3] M Q' ∧ ∀ r N, Q' r N → (∃ v : Value, r = some v ∧ v.category = 1 ∧ ∀ ad, zv ad v = v) ∧ zLqu N := by
  obtain ⟨hw, ht⟩ := id h.1
  obtain ⟨d, d2, hW, hW2, hd, hn, hs⟩ := hw.k
  have h1 := hw.t
  have ht1 := ht.1
  have hC := u_T_localX l d M hW hn x0.toInt (z32r x0).1 (z32r x0).2 x1.toInt (z32r x1).1 (z32r x1).2 x2.toInt (z32r x2).1 (z32r x2).2 x3.toInt (z32r x3).1 (z32r x3).2
  simp only [Int32.ofInt_toInt] at hC
  refine ⟨_, hC, ?_⟩
  rintro r N ⟨v, rfl, hv, hf, hp⟩
  exact ⟨⟨_, rfl, rfl, fun _ => rfl⟩, h.1.x hf hW (by decide) (by decide), h.2.x hf hW hn (by decide) (by decide)⟩
theorem v8_units (l : Launch) (M : zMem) (h : zLqu M) : ∃ Q' : Option Value → zMem → Prop, zC l m_T_units 0 0 [.ref 0] M Q' ∧ ∀ r N, Q' r N → (∃ v : Value, r = some v ∧ v.category = 1 ∧ ∀ ad, zv ad v = v) ∧ zLqu N := by
  obtain ⟨hw, ht⟩ := id h.1
  obtain ⟨P, mv, T, d, hn, hW, hr, hs⟩ := id h.2
  have h1 := hw.t
  have ht1 := ht.1
  have hIF := hw.2.2.2.2.2.2.2.1.2.2.2.2.2.1
  have hmq2 : zMvF M = mv := hr.1.2.2.2.2.1
  have hpm : ∀ g ∈ mv, gpm g := fun g hg => hIF.2.2.1 g (by rw [hmq2]; exact hg)
  have hGr := hr.1.2.1.gr hpm
  have hC := u_T_unitsU l d M hW hn  T hr.1.1 hGr.1 hGr hs.1.2.2.1 hs.1.2.2.2.1 hs.1.2.2.2.2.2 hs.2
  refine ⟨_, hC, ?_⟩
  rintro r N ⟨v, rfl, hv, hf, p1, p2, p3⟩
  have hrn : zRSu P mv T N := hr.hi (fun q hq => hf.hi hW (by decide) hq) hf.1 hf.2.1
  have hB : zLqu N := ⟨h.1.x hf hW (by decide) (by decide), P, mv, T, d, by rw [hf.2.2.1]; exact hn, hf.w hW, hrn, zKS.fr hW hf hs.1 (by decide), Or.inr ⟨p2, p3⟩⟩
  exact ⟨⟨_, rfl, rfl, fun _ => rfl⟩, hB⟩
theorem v8_unit (l : Launch) (M : zMem) (h : zLqu M) (P : Nat) (mv : List Nat) (T : zGT) (d : Nat) (hW : zKW d M) (hn : zf M 0 2 = some (d + 0)) (hr : zRSu P mv T M) (hs : zKSu P mv T d M) (x0 : Int32) (x1 : Int32) : ∃ Q' : Option Value → zMem → Prop, zC l m_T_unit 0 0 [.ref 0, .int x0, .int x1] M Q' ∧ ∀ r N, Q' r N → (∃ v : Int, r = some (.int (Int32.ofInt v)) ∧ zfR P mv T x0.toInt x1.toInt v) ∧ zLqu N ∧ zRSu P mv T N := by
  obtain ⟨hw, ht⟩ := id h.1
  have h1 := hw.t
  have ht1 := ht.1
  have hIF := hw.2.2.2.2.2.2.2.1.2.2.2.2.2.1
  have hmq2 : zMvF M = mv := hr.1.2.2.2.2.1
  have hpm : ∀ g ∈ mv, gpm g := fun g hg => hIF.2.2.1 g (by rw [hmq2]; exact hg)
  have hGr := hr.1.2.1.gr hpm
  have hC := u_T_unitU l d M hW hn x0.toInt (z32r x0).1 (z32r x0).2 x1.toInt (z32r x1).1 (z32r x1).2 T hr.1.1 hGr.1 hGr hs.1.2.2.1 hs.1.2.2.2.1 hs.1.2.2.2.2.2 hs.2 hs.1.2.2.2.2.1
  simp only [Int32.ofInt_toInt] at hC
  refine ⟨_, hC, ?_⟩
  rintro r N ⟨v, rfl, hv, hf, p1, p2, p3⟩
  have hrn : zRSu P mv T N := hr.hi (fun q hq => hf.hi hW (by decide) hq) hf.1 hf.2.1
  have hB : zLqu N := ⟨h.1.x hf hW (by decide) (by decide), P, mv, T, d, by rw [hf.2.2.1]; exact hn, hf.w hW, hrn, zKS.fr hW hf hs.1 (by decide), Or.inr ⟨p2, p3⟩⟩
  exact ⟨⟨v, rfl, Or.inr ⟨_, zUk d N, Int.natCast_nonneg _, zUf_y p3, p1⟩⟩, hB, hrn⟩
theorem v8_named (l : Launch) (M : zMem) (h : zLqu M) (x0 : Int32) (x1 : Int32) : ∃ Q' : Option Value → zMem → Prop, zC l m_T_named 0 0 [.ref 0, .int x0, .int x1] M Q' ∧ ∀ r N, Q' r N → (∃ v : Value, r = some v ∧ v.category = 2 ∧ ∀ ad, zv ad v = v) ∧ zLqu N := by
  obtain ⟨hw, ht⟩ := id h.1
  obtain ⟨d, d2, hW, hW2, hd, hn, hs⟩ := hw.k
  have h1 := hw.t
  have ht1 := ht.1
  have hC := u_T_namedX l d M hW hn x0.toInt (z32r x0).1 (z32r x0).2 x1.toInt (z32r x1).1 (z32r x1).2
  simp only [Int32.ofInt_toInt] at hC
  refine ⟨_, hC, ?_⟩
  rintro r N ⟨v, rfl, hv, hf, hp⟩
  exact ⟨⟨_, rfl, rfl, fun _ => rfl⟩, h.1.x hf hW (by decide) (by decide), h.2.x hf hW hn (by decide) (by decide)⟩
theorem v8_has (l : Launch) (M : zMem) (h : zLqu M) (x0 : Int32) : ∃ Q' : Option Value → zMem → Prop, zC l m_T_has 0 0 [.ref 0, .int x0] M Q' ∧ ∀ r N, Q' r N → (∃ v : Value, r = some v ∧ v.category = 2 ∧ ∀ ad, zv ad v = v) ∧ zLqu N := by
  obtain ⟨hw, ht⟩ := id h.1
  obtain ⟨d, d2, hW, hW2, hd, hn, hs⟩ := hw.k
  have h1 := hw.t
  have ht1 := ht.1
  have hC := u_T_hasX l d M hW hn x0.toInt (z32r x0).1 (z32r x0).2
  simp only [Int32.ofInt_toInt] at hC
  refine ⟨_, hC, ?_⟩
  rintro r N ⟨v, rfl, hv, hf, hp⟩
  exact ⟨⟨_, rfl, rfl, fun _ => rfl⟩, h.1.x hf hW (by decide) (by decide), h.2.x hf hW hn (by decide) (by decide)⟩
theorem v8_marked (l : Launch) (M : zMem) (h : zLqu M) (x0 : Int32) : ∃ Q' : Option Value → zMem → Prop, zC l m_T_marked 0 0 [.ref 0, .int x0] M Q' ∧ ∀ r N, Q' r N → (∃ v : Value, r = some v ∧ v.category = 2 ∧ ∀ ad, zv ad v = v) ∧ zLqu N := by
  obtain ⟨hw, ht⟩ := id h.1
  obtain ⟨d, d2, hW, hW2, hd, hn, hs⟩ := hw.k
  have h1 := hw.t
  have ht1 := ht.1
  have hC := u_T_markedX l d M hW hn x0.toInt (z32r x0).1 (z32r x0).2
  simp only [Int32.ofInt_toInt] at hC
  refine ⟨_, hC, ?_⟩
  rintro r N ⟨v, rfl, hv, hf, hp⟩
  exact ⟨⟨_, rfl, rfl, fun _ => rfl⟩, h.1.x hf hW (by decide) (by decide), h.2.x hf hW hn (by decide) (by decide)⟩
theorem v8_character (l : Launch) (M : zMem) (h : zLqu M) (x0 : Int32) : ∃ Q' : Option Value → zMem → Prop, zC l m_T_character 0 0 [.ref 0, .int x0] M Q' ∧ ∀ r N, Q' r N → (∃ v : Value, r = some v ∧ v.category = 2 ∧ ∀ ad, zv ad v = v) ∧ zLqu N := by
  obtain ⟨hw, ht⟩ := id h.1
  obtain ⟨d, d2, hW, hW2, hd, hn, hs⟩ := hw.k
  have h1 := hw.t
  have ht1 := ht.1
  have hC := u_T_characterX l d M hW hn x0.toInt (z32r x0).1 (z32r x0).2
  simp only [Int32.ofInt_toInt] at hC
  refine ⟨_, hC, ?_⟩
  rintro r N ⟨v, rfl, hv, hf, hp⟩
  exact ⟨⟨_, rfl, rfl, fun _ => rfl⟩, h.1.x hf hW (by decide) (by decide), h.2.x hf hW hn (by decide) (by decide)⟩
theorem v8_parts (l : Launch) (M : zMem) (h : zLqu M) : ∃ Q' : Option Value → zMem → Prop, zC l m_T_parts 0 0 [.ref 0] M Q' ∧ ∀ r N, Q' r N → (∃ v : Value, r = some v ∧ v.category = 1 ∧ ∀ ad, zv ad v = v) ∧ zLqu N := by
  obtain ⟨hw, ht⟩ := id h.1
  obtain ⟨d, d2, hW, hW2, hd, hn, hs⟩ := hw.k
  have h1 := hw.t
  have ht1 := ht.1
  have hC := u_T_partsX l d M hW hn 
  refine ⟨_, hC, ?_⟩
  rintro r N ⟨v, rfl, hv, hf, hp⟩
  exact ⟨⟨_, rfl, rfl, fun _ => rfl⟩, h.1.x hf hW (by decide) (by decide), h.2.x hf hW hn (by decide) (by decide)⟩
theorem v8_congruence (l : Launch) (M : zMem) (h : zLqu M) (x0 : Int32) : ∃ Q' : Option Value → zMem → Prop, zC l m_T_congruence 0 0 [.ref 0, .int x0] M Q' ∧ ∀ r N, Q' r N → (∃ v : Value, r = some v ∧ v.category = 2 ∧ ∀ ad, zv ad v = v) ∧ zLqu N := by
  obtain ⟨hw, ht⟩ := id h.1
  obtain ⟨d, d2, hW, hW2, hd, hn, hs⟩ := hw.k
  have h1 := hw.t
  have ht1 := ht.1
  have hC := u_T_congruenceX l d M hW hn x0.toInt (z32r x0).1 (z32r x0).2
  simp only [Int32.ofInt_toInt] at hC
  refine ⟨_, hC, ?_⟩
  rintro r N ⟨v, rfl, hv, hf, hp⟩
  exact ⟨⟨_, rfl, rfl, fun _ => rfl⟩, h.1.x hf hW (by decide) (by decide), h.2.x hf hW hn (by decide) (by decide)⟩
theorem v8_is (l : Launch) (M : zMem) (h : zLqu M) (x0 : Int32) : ∃ Q' : Option Value → zMem → Prop, zC l m_T_is 0 0 [.ref 0, .int x0] M Q' ∧ ∀ r N, Q' r N → (∃ v : Value, r = some v ∧ v.category = 1 ∧ ∀ ad, zv ad v = v) ∧ zLqu N := by
  obtain ⟨hw, ht⟩ := id h.1
  obtain ⟨d, d2, hW, hW2, hd, hn, hs⟩ := hw.k
  have h1 := hw.t
  have ht1 := ht.1
  have hC := u_T_isX l d M hW hn x0.toInt (z32r x0).1 (z32r x0).2
  simp only [Int32.ofInt_toInt] at hC
  refine ⟨_, hC, ?_⟩
  rintro r N ⟨v, rfl, hv, hf, hp⟩
  exact ⟨⟨_, rfl, rfl, fun _ => rfl⟩, h.1.x hf hW (by decide) (by decide), h.2.x hf hW hn (by decide) (by decide)⟩
theorem v8_makes (l : Launch) (M : zMem) (h : zLqu M) : ∃ Q' : Option Value → zMem → Prop, zC l m_T_makes 0 0 [.ref 0] M Q' ∧ ∀ r N, Q' r N → (∃ v : Int32, r = some (.int v)) ∧ zLmu N ∧ zLw N ∧ ze N 1 1 = 0 ∧ (∀ q, 81 ≤ q → zi N q = zi M q ∧ zj N q = zj M q) := by
  obtain ⟨hw, ht⟩ := id h.1
  obtain ⟨d, d2, hW, hW2, hd, hn, hs⟩ := hw.k
  have h1 := hw.t
  have ht1 := ht.1
  have hC := u_T_makesX l d M hW hn
  refine ⟨_, hC, ?_⟩
  rintro r N ⟨v, rfl, hv, hf, hp⟩
  exact ⟨⟨_, rfl⟩, h.2.x hf hW hn (by decide) (by decide), hw.c hf hW (by decide), hp, fun q hq => hf.hi hW (by decide) hq⟩
theorem v8_take (l : Launch) (M : zMem) (h : zLqu M) (x0 : Int32) (x1 : Int32) : ∃ Q' : Option Value → zMem → Prop, zC l m_T_take 0 0 [.ref 0, .int x0, .int x1] M Q' ∧ ∀ r N, Q' r N → (∃ v : Value, r = some v ∧ v.category = 1 ∧ ∀ ad, zv ad v = v) ∧ zLqu N := by
  obtain ⟨hw, ht⟩ := id h.1
  obtain ⟨d, d2, hW, hW2, hd, hn, hs⟩ := hw.k
  have h1 := hw.t
  have ht1 := ht.1
  have hC := u_T_takeX l d M hW hn x0.toInt (z32r x0).1 (z32r x0).2 x1.toInt (z32r x1).1 (z32r x1).2
  simp only [Int32.ofInt_toInt] at hC
  refine ⟨_, hC, ?_⟩
  rintro r N ⟨v, rfl, hv, hf, hp⟩
  exact ⟨⟨_, rfl, rfl, fun _ => rfl⟩, h.1.x hf hW (by decide) (by decide), h.2.x hf hW hn (by decide) (by decide)⟩
theorem v8_marks (l : Launch) (M : zMem) (h : zLqu M) : ∃ Q' : Option Value → zMem → Prop, zC l m_T_marks 0 0 [.ref 0] M Q' ∧ ∀ r N, Q' r N → (∃ v : Int32, r = some (.int v)) ∧ zLmu N ∧ zLw N ∧ ze N 1 1 = 0 ∧ (∀ q, 81 ≤ q → zi N q = zi M q ∧ zj N q = zj M q) := by
  obtain ⟨hw, ht⟩ := id h.1
  obtain ⟨d, d2, hW, hW2, hd, hn, hs⟩ := hw.k
  have h1 := hw.t
  have ht1 := ht.1
  have hC := u_T_marksX l d M hW hn
  refine ⟨_, hC, ?_⟩
  rintro r N ⟨v, rfl, hv, hf, hp⟩
  exact ⟨⟨_, rfl⟩, h.2.x hf hW hn (by decide) (by decide), hw.c hf hW (by decide), hp, fun q hq => hf.hi hW (by decide) hq⟩
theorem v8_uses (l : Launch) (M : zMem) (h : zLqu M) (x0 : Int32) : ∃ Q' : Option Value → zMem → Prop, zC l m_T_uses 0 0 [.ref 0, .int x0] M Q' ∧ ∀ r N, Q' r N → (∃ v : Value, r = some v ∧ v.category = 1 ∧ ∀ ad, zv ad v = v) ∧ zLqu N := by
  obtain ⟨hw, ht⟩ := id h.1
  obtain ⟨d, d2, hW, hW2, hd, hn, hs⟩ := hw.k
  have h1 := hw.t
  have ht1 := ht.1
  have hC := u_T_usesX l d M hW hn x0.toInt (z32r x0).1 (z32r x0).2
  simp only [Int32.ofInt_toInt] at hC
  refine ⟨_, hC, ?_⟩
  rintro r N ⟨v, rfl, hv, hf, hp⟩
  exact ⟨⟨_, rfl, rfl, fun _ => rfl⟩, h.1.x hf hW (by decide) (by decide), h.2.x hf hW hn (by decide) (by decide)⟩
theorem v8_grows (l : Launch) (M : zMem) (h : zLqu M) (x0 : Int32) (x1 : Int32) (x2 : Int32) : ∃ Q' : Option Value → zMem → Prop, zC l m_T_grows 0 0 [.ref 0, .int x0, .int x1, .int x2] M Q' ∧ ∀ r N, Q' r N → (∃ v : Value, r = some v ∧ v.category = 2 ∧ ∀ ad, zv ad v = v) ∧ zLqu N := by
  obtain ⟨hw, ht⟩ := id h.1
  obtain ⟨d, d2, hW, hW2, hd, hn, hs⟩ := hw.k
  have h1 := hw.t
  have ht1 := ht.1
  have hC := u_T_growsX l d M hW hn x0.toInt (z32r x0).1 (z32r x0).2 x1.toInt (z32r x1).1 (z32r x1).2 x2.toInt (z32r x2).1 (z32r x2).2
  simp only [Int32.ofInt_toInt] at hC
  refine ⟨_, hC, ?_⟩
  rintro r N ⟨v, rfl, hv, hf, hp⟩
  exact ⟨⟨_, rfl, rfl, fun _ => rfl⟩, h.1.x hf hW (by decide) (by decide), h.2.x hf hW hn (by decide) (by decide)⟩
theorem v8_undo (l : Launch) (M : zMem) (h : zLqu M) : ∃ Q' : Option Value → zMem → Prop, zC l m_T_undo 0 0 [.ref 0] M Q' ∧ ∀ r N, Q' r N → (∃ v : Value, r = some v ∧ v.category = 1 ∧ ∀ ad, zv ad v = v) ∧ zLqu N := by
  obtain ⟨hw, ht⟩ := id h.1
  obtain ⟨d, d2, hW, hW2, hd, hn, hs⟩ := hw.k
  have h1 := hw.t
  have ht1 := ht.1
  have hC := u_T_undoX l d M hW hn 
  refine ⟨_, hC, ?_⟩
  rintro r N ⟨v, rfl, hv, hf, hp⟩
  exact ⟨⟨_, rfl, rfl, fun _ => rfl⟩, h.1.x hf hW (by decide) (by decide), h.2.x hf hW hn (by decide) (by decide)⟩
