theorem v9_feed (l : Launch) (M : zMem) (h : zLv M) (x0 : Int32) (x1 : Int32) (x2 : Int32) (x3 : Int32) (x4 : Int32) : ∃ Q' : Option Value → zMem → Prop, zC l m_T_feed 0 0 [.ref 0, .int x0, .int x1, .int x2, .int x3, .int x4] M Q' ∧ ∀ r N, Q' r N → (∃ v : Int32, r = some (.int v)) ∧ zLn N ∧ zLw N ∧ (∀ q, 81 ≤ q → zi N q = zi M q ∧ zj N q = zj M q) ∧ ((700 < ze M 1 1 + 20 ∧ ze N 1 1 = ze M 1 1 ∧ ∀ j : Nat, ze N 3 j = ze M 3 j) ∨ (ze M 1 1 + 20 ≤ 700 ∧ ze N 1 1 = ze M 1 1 + 20 ∧ ∀ j : Nat, ze N 3 j = zfd5 (fun j => ze M 3 j) (ze M 1 1) x0.toInt x1.toInt x2.toInt x3.toInt x4.toInt j)) := by
  obtain ⟨hw, htp⟩ := id h.1
  obtain ⟨P, mv, T, nm, s, d, ht⟩ := id h.2
  obtain ⟨hn, hW, hx, hk, hb⟩ := id ht
  obtain ⟨hrs, hnm, hni, hsr⟩ := id hx
  obtain ⟨hks, hknm, hsk⟩ := id hk
  obtain ⟨hT, hTm, hB, h16, hmq, hCd, -⟩ := id hrs
  have h1 := hw.t
  have ht1 := htp.1
  have hC := u_T_feed l d M hW x0.toInt (z32r x0).1 (z32r x0).2 x1.toInt (z32r x1).1 (z32r x1).2 x2.toInt (z32r x2).1 (z32r x2).2 x3.toInt (z32r x3).1 (z32r x3).2 x4.toInt (z32r x4).1 (z32r x4).2 (by omega) (by omega)
  simp only [Int32.ofInt_toInt] at hC
  refine ⟨_, hC, ?_⟩
  rintro r N ⟨v, rfl, hv, hf, hp⟩
  refine ⟨⟨_, rfl⟩, ⟨P, mv, T, nm, s, d, ht.x hf (by decide) (by decide) (by decide)⟩, hw.c hf hW (by decide), fun q hq => hf.hi hW (by decide) hq, ?_⟩
  rcases hp with ⟨a1, a2, a3, a4⟩ | ⟨a1, a2, a3, a4⟩
  · exact Or.inl ⟨a1, a3, a4⟩
  · exact Or.inr ⟨a1, a3, a4⟩
theorem v9_end (l : Launch) (M : zMem) (h : zLv M) (x0 : Int32) : ∃ Q' : Option Value → zMem → Prop, zC l m_T_end 0 0 [.ref 0, .int x0] M Q' ∧ ∀ r N, Q' r N → (∃ v : Int32, r = some (.int v)) ∧ zLn N ∧ zLw N ∧ (∀ q, 81 ≤ q → zi N q = zi M q ∧ zj N q = zj M q) ∧ (∀ j : Nat, ze N 3 j = ze M 3 j) ∧ (((x0.toInt < 0 ∨ ze M 1 1 < x0.toInt) ∧ ze N 1 1 = ze M 1 1) ∨ (0 ≤ x0.toInt ∧ x0.toInt ≤ ze M 1 1 ∧ ze N 1 1 = x0.toInt)) := by
  obtain ⟨hw, htp⟩ := id h.1
  obtain ⟨P, mv, T, nm, s, d, ht⟩ := id h.2
  obtain ⟨hn, hW, hx, hk, hb⟩ := id ht
  obtain ⟨hrs, hnm, hni, hsr⟩ := id hx
  obtain ⟨hks, hknm, hsk⟩ := id hk
  obtain ⟨hT, hTm, hB, h16, hmq, hCd, -⟩ := id hrs
  have h1 := hw.t
  have ht1 := htp.1
  have hC := u_T_end l d M hW x0.toInt (z32r x0).1 (z32r x0).2
  simp only [Int32.ofInt_toInt] at hC
  refine ⟨_, hC, ?_⟩
  rintro r N ⟨v, rfl, hv, hf, hp⟩
  refine ⟨⟨_, rfl⟩, ⟨P, mv, T, nm, s, d, ht.x hf (by decide) (by decide) (by decide)⟩, hw.c hf hW (by decide), fun q hq => hf.hi hW (by decide) hq, fun j => hf.ra hW (by decide) j, ?_⟩
  rcases hp with ⟨a1, a2, a3⟩ | ⟨a1, a2, a3, a4⟩
  · exact Or.inl ⟨a1, a3⟩
  · exact Or.inr ⟨a1, a2, a4⟩
theorem v9_troupe (l : Launch) (M : zMem) (h : zLv M) (P : Nat) (mv : List Nat) (T : zGT) (nm : List (Int × (Nat → Int))) (s : zSg) (d : Nat) (ht : zLt P mv T nm s d M) : ∃ Q' : Option Value → zMem → Prop, zC l m_T_troupe 0 0 [.ref 0] M Q' ∧ ∀ r N, Q' r N → (∃ v : Value, r = some v ∧ v.category = 1 ∧ ∀ ad, zv ad v = v) ∧ zLw N ∧ ze N 1 1 = 0 ∧ (∀ q, 81 ≤ q → zi N q = zi M q ∧ zj N q = zj M q) ∧ zRXn P mv T nm s N ∧ ((zTrB (fun k => ze M 82 k) (ze M 81 1).toNat (zru zpB (fun k => ze M 82 k) (ze M 81 1).toNat 0) ∧ zLt P mv T nm s d N) ∨ ∃ P mv T nm, zTrN (fun k => ze M 82 k) (ze M 81 1).toNat (zru zpB (fun k => ze M 82 k) (ze M 81 1).toNat 0) P mv T nm ∧ ∃ d, zf N 0 2 = some (d + 0) ∧ zKW d N ∧ zKXn P mv T nm zS00 d N) := by
  obtain ⟨hw, htp⟩ := id h.1
  obtain ⟨hn, hW, hx, hk, hb⟩ := id ht
  obtain ⟨hrs, hnm, hni, hsr⟩ := id hx
  obtain ⟨hks, hknm, hsk⟩ := id hk
  obtain ⟨hT, hTm, hB, h16, hmq, hCd, -⟩ := id hrs
  have h1 := hw.t
  have ht1 := htp.1
  obtain ⟨d0, d2, hW0, hW2, hd, hn0, hs0⟩ := hw.k
  have e0 : d0 = d := zKW.n2 hn hn0
  subst e0
  refine ⟨_, u_T_troupeN l d2 M hW2 d0 (by omega) hn hs0 _ _ h.1.y, ?_⟩
  rintro r N ⟨v, rfl, hv, h10, hq, hc⟩
  have hlw := hw.sw hW hW2 hd hn hs0 hq
  have hun : (∀ q, 81 ≤ q → zi N q = zi M q ∧ zj N q = zj M q) := fun q hq2 => ⟨(hq.2.2.1 q hq2).1, (hq.2.2.1 q hq2).2.1⟩
  have hxN := zRXn.hi hun hq.1 hq.2.1 hx
  refine ⟨⟨_, rfl, rfl, fun _ => rfl⟩, hlw, h10, hun, hxN, ?_⟩
  rcases hc with ⟨-, hb2, hf2, hbl⟩ | ⟨P2, mv2, T2, nm2, t1, -, t3, t4, t5, t6⟩
  · exact Or.inl ⟨hb2, by rw [hf2]; exact hn, hW.same hq.1 hq.2.1 (fun q j _ => by rw [hf2]), hxN, zKXn.ee (fun o ho => hbl (d0 + o) (by omega) (by omega)) hk, hb⟩
  · refine Or.inr ⟨P2, mv2, T2, nm2, t1, d2, t3.1, ?_, t4, t5, t6⟩
    obtain ⟨e1, e2, e3, e4, e5, e6, e7⟩ := hlw.k
    rw [t3.1] at e6
    have : d2 = e1 := by
      have := Option.some.inj e6
      omega
    rw [this]
    exact e3
theorem v9_fault (l : Launch) (M : zMem) (h : zLv M) (x0 : Int32) : ∃ Q' : Option Value → zMem → Prop, zC l m_T_fault 0 0 [.ref 0, .int x0] M Q' ∧ ∀ r N, Q' r N → (∃ v : Value, r = some v ∧ v.category = 1 ∧ ∀ ad, zv ad v = v) ∧ zLv N := by
  obtain ⟨hw, htp⟩ := id h.1
  obtain ⟨P, mv, T, nm, s, d, ht⟩ := id h.2
  obtain ⟨hn, hW, hx, hk, hb⟩ := id ht
  obtain ⟨hrs, hnm, hni, hsr⟩ := id hx
  obtain ⟨hks, hknm, hsk⟩ := id hk
  obtain ⟨hT, hTm, hB, h16, hmq, hCd, -⟩ := id hrs
  have h1 := hw.t
  have ht1 := htp.1
  have hC := u_T_faultX l d M hW hn x0.toInt (z32r x0).1 (z32r x0).2
  simp only [Int32.ofInt_toInt] at hC
  refine ⟨_, hC, ?_⟩
  rintro r N ⟨v, rfl, hv, hf, hp⟩
  exact ⟨⟨_, rfl, rfl, fun _ => rfl⟩, h.1.x hf hW (by decide) (by decide), ⟨P, mv, T, nm, s, d, ht.x hf (by decide) (by decide) (by decide)⟩⟩
theorem v9_about (l : Launch) (M : zMem) (h : zLv M) (P : Nat) (mv : List Nat) (T : zGT) (nm : List (Int × (Nat → Int))) (s : zSg) (d : Nat) (ht : zLt P mv T nm s d M) (x0 : Int32) : ∃ Q' : Option Value → zMem → Prop, zC l m_T_about 0 0 [.ref 0, .int x0] M Q' ∧ ∀ r N, Q' r N → (∃ v : Int, r = some (.int (Int32.ofInt v)) ∧ zfR P mv T nm s (ze M 81 1) x0.toInt v) ∧ zLv N ∧ zRXn P mv T nm s N ∧ ze N 81 1 = ze M 81 1 := by
  obtain ⟨hw, htp⟩ := id h.1
  obtain ⟨hn, hW, hx, hk, hb⟩ := id ht
  obtain ⟨hrs, hnm, hni, hsr⟩ := id hx
  obtain ⟨hks, hknm, hsk⟩ := id hk
  obtain ⟨hT, hTm, hB, h16, hmq, hCd, -⟩ := id hrs
  have h1 := hw.t
  have ht1 := htp.1
  have hIF := hw.2.2.2.2.2.2.2.1.2.2.2.2.2.1
  have hmq2 : zMvF M = mv := hmq
  have hpm : ∀ g ∈ mv, gpm g := fun g hg => hIF.2.2.1 g (by rw [hmq2]; exact hg)
  have hGr := hTm.gr hpm
  have hP6 : P ≤ 6 := by have := hIF.1.1.2; omega
  have hC := u_T_aboutS l d M hW hn x0.toInt (z32r x0).1 (z32r x0).2 T hT P mv s nm hks.1 hks.2.2.1 hks.2.2.2.1 hks.2.2.2.2.2 hsk hknm
  simp only [Int32.ofInt_toInt] at hC
  rw [ht1] at hC
  refine ⟨_, hC, ?_⟩
  rintro r N ⟨v, rfl, hv, hf, hp⟩
  have hlt := ht.x hf (by decide) (by decide) (by decide)
  exact ⟨⟨v, rfl, hp⟩, ⟨h.1.x hf hW (by decide) (by decide), _, _, _, _, _, _, hlt⟩, hlt.2.2.1, ze_hi (fun q hq => hf.hi hW (by decide) hq) (by omega) 1⟩
theorem v9_moves (l : Launch) (M : zMem) (h : zLv M) (x0 : Int32) (x1 : Int32) : ∃ Q' : Option Value → zMem → Prop, zC l m_T_moves 0 0 [.ref 0, .int x0, .int x1] M Q' ∧ ∀ r N, Q' r N → (∃ v : Value, r = some v ∧ v.category = 1 ∧ ∀ ad, zv ad v = v) ∧ zLv N := by
  obtain ⟨hw, htp⟩ := id h.1
  obtain ⟨P, mv, T, nm, s, d, ht⟩ := id h.2
  obtain ⟨hn, hW, hx, hk, hb⟩ := id ht
  obtain ⟨hrs, hnm, hni, hsr⟩ := id hx
  obtain ⟨hks, hknm, hsk⟩ := id hk
  obtain ⟨hT, hTm, hB, h16, hmq, hCd, -⟩ := id hrs
  have h1 := hw.t
  have ht1 := htp.1
  have hC := u_T_movesX l d M hW hn x0.toInt (z32r x0).1 (z32r x0).2 x1.toInt (z32r x1).1 (z32r x1).2
  simp only [Int32.ofInt_toInt] at hC
  refine ⟨_, hC, ?_⟩
  rintro r N ⟨v, rfl, hv, hf, hp⟩
  exact ⟨⟨_, rfl, rfl, fun _ => rfl⟩, h.1.x hf hW (by decide) (by decide), ⟨P, mv, T, nm, s, d, ht.x hf (by decide) (by decide) (by decide)⟩⟩
theorem v9_times (l : Launch) (M : zMem) (h : zLv M) (x0 : Int32) (x1 : Int32) : ∃ Q' : Option Value → zMem → Prop, zC l m_T_times 0 0 [.ref 0, .int x0, .int x1] M Q' ∧ ∀ r N, Q' r N → (∃ v : Value, r = some v ∧ v.category = 1 ∧ ∀ ad, zv ad v = v) ∧ zLv N := by
  obtain ⟨hw, htp⟩ := id h.1
  obtain ⟨P, mv, T, nm, s, d, ht⟩ := id h.2
  obtain ⟨hn, hW, hx, hk, hb⟩ := id ht
  obtain ⟨hrs, hnm, hni, hsr⟩ := id hx
  obtain ⟨hks, hknm, hsk⟩ := id hk
  obtain ⟨hT, hTm, hB, h16, hmq, hCd, -⟩ := id hrs
  have h1 := hw.t
  have ht1 := htp.1
  have hC := u_T_timesX l d M hW hn x0.toInt (z32r x0).1 (z32r x0).2 x1.toInt (z32r x1).1 (z32r x1).2
  simp only [Int32.ofInt_toInt] at hC
  refine ⟨_, hC, ?_⟩
  rintro r N ⟨v, rfl, hv, hf, hp⟩
  exact ⟨⟨_, rfl, rfl, fun _ => rfl⟩, h.1.x hf hW (by decide) (by decide), ⟨P, mv, T, nm, s, d, ht.x hf (by decide) (by decide) (by decide)⟩⟩
theorem v9_order (l : Launch) (M : zMem) (h : zLv M) (x0 : Int32) : ∃ Q' : Option Value → zMem → Prop, zC l m_T_order 0 0 [.ref 0, .int x0] M Q' ∧ ∀ r N, Q' r N → (∃ v : Value, r = some v ∧ v.category = 1 ∧ ∀ ad, zv ad v = v) ∧ zLv N := by
  obtain ⟨hw, htp⟩ := id h.1
  obtain ⟨P, mv, T, nm, s, d, ht⟩ := id h.2
  obtain ⟨hn, hW, hx, hk, hb⟩ := id ht
  obtain ⟨hrs, hnm, hni, hsr⟩ := id hx
  obtain ⟨hks, hknm, hsk⟩ := id hk
  obtain ⟨hT, hTm, hB, h16, hmq, hCd, -⟩ := id hrs
  have h1 := hw.t
  have ht1 := htp.1
  have hC := u_T_orderX l d M hW hn x0.toInt (z32r x0).1 (z32r x0).2
  simp only [Int32.ofInt_toInt] at hC
  refine ⟨_, hC, ?_⟩
  rintro r N ⟨v, rfl, hv, hf, hp⟩
  exact ⟨⟨_, rfl, rfl, fun _ => rfl⟩, h.1.x hf hW (by decide) (by decide), ⟨P, mv, T, nm, s, d, ht.x hf (by decide) (by decide) (by decide)⟩⟩
theorem v9_makesOf (l : Launch) (M : zMem) (h : zLv M) (x0 : Int32) : ∃ Q' : Option Value → zMem → Prop, zC l m_T_makesOf 0 0 [.ref 0, .int x0] M Q' ∧ ∀ r N, Q' r N → (∃ v : Value, r = some v ∧ v.category = 1 ∧ ∀ ad, zv ad v = v) ∧ zLv N := by
  obtain ⟨hw, htp⟩ := id h.1
  obtain ⟨P, mv, T, nm, s, d, ht⟩ := id h.2
  obtain ⟨hn, hW, hx, hk, hb⟩ := id ht
  obtain ⟨hrs, hnm, hni, hsr⟩ := id hx
  obtain ⟨hks, hknm, hsk⟩ := id hk
  obtain ⟨hT, hTm, hB, h16, hmq, hCd, -⟩ := id hrs
  have h1 := hw.t
  have ht1 := htp.1
  have hC := u_T_makesOfX l d M hW hn x0.toInt (z32r x0).1 (z32r x0).2
  simp only [Int32.ofInt_toInt] at hC
  refine ⟨_, hC, ?_⟩
  rintro r N ⟨v, rfl, hv, hf, hp⟩
  exact ⟨⟨_, rfl, rfl, fun _ => rfl⟩, h.1.x hf hW (by decide) (by decide), ⟨P, mv, T, nm, s, d, ht.x hf (by decide) (by decide) (by decide)⟩⟩
theorem v9_sortOf (l : Launch) (M : zMem) (h : zLv M) (x0 : Int32) : ∃ Q' : Option Value → zMem → Prop, zC l m_T_sortOf 0 0 [.ref 0, .int x0] M Q' ∧ ∀ r N, Q' r N → (∃ v : Value, r = some v ∧ v.category = 1 ∧ ∀ ad, zv ad v = v) ∧ zLv N := by
  obtain ⟨hw, htp⟩ := id h.1
  obtain ⟨P, mv, T, nm, s, d, ht⟩ := id h.2
  obtain ⟨hn, hW, hx, hk, hb⟩ := id ht
  obtain ⟨hrs, hnm, hni, hsr⟩ := id hx
  obtain ⟨hks, hknm, hsk⟩ := id hk
  obtain ⟨hT, hTm, hB, h16, hmq, hCd, -⟩ := id hrs
  have h1 := hw.t
  have ht1 := htp.1
  have hC := u_T_sortOfX l d M hW hn x0.toInt (z32r x0).1 (z32r x0).2
  simp only [Int32.ofInt_toInt] at hC
  refine ⟨_, hC, ?_⟩
  rintro r N ⟨v, rfl, hv, hf, hp⟩
  exact ⟨⟨_, rfl, rfl, fun _ => rfl⟩, h.1.x hf hW (by decide) (by decide), ⟨P, mv, T, nm, s, d, ht.x hf (by decide) (by decide) (by decide)⟩⟩
theorem v9_sort (l : Launch) (M : zMem) (h : zLv M) (x0 : Int32) (x1 : Int32) : ∃ Q' : Option Value → zMem → Prop, zC l m_T_sort 0 0 [.ref 0, .int x0, .int x1] M Q' ∧ ∀ r N, Q' r N → (∃ v : Value, r = some v ∧ v.category = 1 ∧ ∀ ad, zv ad v = v) ∧ zLv N := by
  obtain ⟨hw, htp⟩ := id h.1
  obtain ⟨P, mv, T, nm, s, d, ht⟩ := id h.2
  obtain ⟨hn, hW, hx, hk, hb⟩ := id ht
  obtain ⟨hrs, hnm, hni, hsr⟩ := id hx
  obtain ⟨hks, hknm, hsk⟩ := id hk
  obtain ⟨hT, hTm, hB, h16, hmq, hCd, -⟩ := id hrs
  have h1 := hw.t
  have ht1 := htp.1
  have hC := u_T_sortX l d M hW hn x0.toInt (z32r x0).1 (z32r x0).2 x1.toInt (z32r x1).1 (z32r x1).2
  simp only [Int32.ofInt_toInt] at hC
  refine ⟨_, hC, ?_⟩
  rintro r N ⟨v, rfl, hv, hf, hp⟩
  exact ⟨⟨_, rfl, rfl, fun _ => rfl⟩, h.1.x hf hW (by decide) (by decide), ⟨P, mv, T, nm, s, d, ht.x hf (by decide) (by decide) (by decide)⟩⟩
theorem v9_within (l : Launch) (M : zMem) (h : zLv M) (x0 : Int32) (x1 : Int32) : ∃ Q' : Option Value → zMem → Prop, zC l m_T_within 0 0 [.ref 0, .int x0, .int x1] M Q' ∧ ∀ r N, Q' r N → (∃ v : Value, r = some v ∧ v.category = 1 ∧ ∀ ad, zv ad v = v) ∧ zLv N := by
  obtain ⟨hw, htp⟩ := id h.1
  obtain ⟨P, mv, T, nm, s, d, ht⟩ := id h.2
  obtain ⟨hn, hW, hx, hk, hb⟩ := id ht
  obtain ⟨hrs, hnm, hni, hsr⟩ := id hx
  obtain ⟨hks, hknm, hsk⟩ := id hk
  obtain ⟨hT, hTm, hB, h16, hmq, hCd, -⟩ := id hrs
  have h1 := hw.t
  have ht1 := htp.1
  have hC := u_T_withinX l d M hW hn x0.toInt (z32r x0).1 (z32r x0).2 x1.toInt (z32r x1).1 (z32r x1).2
  simp only [Int32.ofInt_toInt] at hC
  refine ⟨_, hC, ?_⟩
  rintro r N ⟨v, rfl, hv, hf, hp⟩
  exact ⟨⟨_, rfl, rfl, fun _ => rfl⟩, h.1.x hf hW (by decide) (by decide), ⟨P, mv, T, nm, s, d, ht.x hf (by decide) (by decide) (by decide)⟩⟩
theorem v9_mark (l : Launch) (M : zMem) (h : zLv M) (x0 : Int32) (x1 : Int32) : ∃ Q' : Option Value → zMem → Prop, zC l m_T_mark 0 0 [.ref 0, .int x0, .int x1] M Q' ∧ ∀ r N, Q' r N → (∃ v : Value, r = some v ∧ v.category = 1 ∧ ∀ ad, zv ad v = v) ∧ zLv N := by
  obtain ⟨hw, htp⟩ := id h.1
  obtain ⟨P, mv, T, nm, s, d, ht⟩ := id h.2
  obtain ⟨hn, hW, hx, hk, hb⟩ := id ht
  obtain ⟨hrs, hnm, hni, hsr⟩ := id hx
  obtain ⟨hks, hknm, hsk⟩ := id hk
  obtain ⟨hT, hTm, hB, h16, hmq, hCd, -⟩ := id hrs
  have h1 := hw.t
  have ht1 := htp.1
  have hC := u_T_markX l d M hW hn x0.toInt (z32r x0).1 (z32r x0).2 x1.toInt (z32r x1).1 (z32r x1).2
  simp only [Int32.ofInt_toInt] at hC
  refine ⟨_, hC, ?_⟩
  rintro r N ⟨v, rfl, hv, hf, hp⟩
  exact ⟨⟨_, rfl, rfl, fun _ => rfl⟩, h.1.x hf hW (by decide) (by decide), ⟨P, mv, T, nm, s, d, ht.x hf (by decide) (by decide) (by decide)⟩⟩
theorem v9_product (l : Launch) (M : zMem) (h : zLv M) (x0 : Int32) (x1 : Int32) (x2 : Int32) : ∃ Q' : Option Value → zMem → Prop, zC l m_T_product 0 0 [.ref 0, .int x0, .int x1, .int x2] M Q' ∧ ∀ r N, Q' r N → (∃ v : Value, r = some v ∧ v.category = 1 ∧ ∀ ad, zv ad v = v) ∧ zLv N := by
  obtain ⟨hw, htp⟩ := id h.1
  obtain ⟨P, mv, T, nm, s, d, ht⟩ := id h.2
  obtain ⟨hn, hW, hx, hk, hb⟩ := id ht
  obtain ⟨hrs, hnm, hni, hsr⟩ := id hx
  obtain ⟨hks, hknm, hsk⟩ := id hk
  obtain ⟨hT, hTm, hB, h16, hmq, hCd, -⟩ := id hrs
  have h1 := hw.t
  have ht1 := htp.1
  have hC := u_T_productL l d M hW hn x0.toInt (z32r x0).1 (z32r x0).2 x1.toInt (z32r x1).1 (z32r x1).2 x2.toInt (z32r x2).1 (z32r x2).2 (gF T).length (gmkI T) (gT_zTA hT) hks.2.2.2.2.1
  simp only [Int32.ofInt_toInt] at hC
  refine ⟨_, hC, ?_⟩
  rintro r N ⟨v, rfl, hv, hf, hp⟩
  exact ⟨⟨_, rfl, rfl, fun _ => rfl⟩, h.1.x hf hW (by decide) (by decide), ⟨P, mv, T, nm, s, d, ht.xl hf hp (by decide) (by decide) (by decide)⟩⟩
theorem v9_residue (l : Launch) (M : zMem) (h : zLv M) (x0 : Int32) (x1 : Int32) : ∃ Q' : Option Value → zMem → Prop, zC l m_T_residue 0 0 [.ref 0, .int x0, .int x1] M Q' ∧ ∀ r N, Q' r N → (∃ v : Value, r = some v ∧ v.category = 1 ∧ ∀ ad, zv ad v = v) ∧ zLv N := by
  obtain ⟨hw, htp⟩ := id h.1
  obtain ⟨P, mv, T, nm, s, d, ht⟩ := id h.2
  obtain ⟨hn, hW, hx, hk, hb⟩ := id ht
  obtain ⟨hrs, hnm, hni, hsr⟩ := id hx
  obtain ⟨hks, hknm, hsk⟩ := id hk
  obtain ⟨hT, hTm, hB, h16, hmq, hCd, -⟩ := id hrs
  have h1 := hw.t
  have ht1 := htp.1
  have hC := u_T_residueX l d M hW hn x0.toInt (z32r x0).1 (z32r x0).2 x1.toInt (z32r x1).1 (z32r x1).2
  simp only [Int32.ofInt_toInt] at hC
  refine ⟨_, hC, ?_⟩
  rintro r N ⟨v, rfl, hv, hf, hp⟩
  exact ⟨⟨_, rfl, rfl, fun _ => rfl⟩, h.1.x hf hW (by decide) (by decide), ⟨P, mv, T, nm, s, d, ht.x hf (by decide) (by decide) (by decide)⟩⟩
theorem v9_block (l : Launch) (M : zMem) (h : zLv M) (x0 : Int32) (x1 : Int32) : ∃ Q' : Option Value → zMem → Prop, zC l m_T_block 0 0 [.ref 0, .int x0, .int x1] M Q' ∧ ∀ r N, Q' r N → (∃ v : Value, r = some v ∧ v.category = 1 ∧ ∀ ad, zv ad v = v) ∧ zLv N := by
  obtain ⟨hw, htp⟩ := id h.1
  obtain ⟨P, mv, T, nm, s, d, ht⟩ := id h.2
  obtain ⟨hn, hW, hx, hk, hb⟩ := id ht
  obtain ⟨hrs, hnm, hni, hsr⟩ := id hx
  obtain ⟨hks, hknm, hsk⟩ := id hk
  obtain ⟨hT, hTm, hB, h16, hmq, hCd, -⟩ := id hrs
  have h1 := hw.t
  have ht1 := htp.1
  have hC := u_T_blockX l d M hW hn x0.toInt (z32r x0).1 (z32r x0).2 x1.toInt (z32r x1).1 (z32r x1).2
  simp only [Int32.ofInt_toInt] at hC
  refine ⟨_, hC, ?_⟩
  rintro r N ⟨v, rfl, hv, hf, hp⟩
  exact ⟨⟨_, rfl, rfl, fun _ => rfl⟩, h.1.x hf hW (by decide) (by decide), ⟨P, mv, T, nm, s, d, ht.x hf (by decide) (by decide) (by decide)⟩⟩
theorem v9_keeper (l : Launch) (M : zMem) (h : zLv M) (x0 : Int32) : ∃ Q' : Option Value → zMem → Prop, zC l m_T_keeper 0 0 [.ref 0, .int x0] M Q' ∧ ∀ r N, Q' r N → (∃ v : Value, r = some v ∧ v.category = 1 ∧ ∀ ad, zv ad v = v) ∧ zLv N := by
  obtain ⟨hw, htp⟩ := id h.1
  obtain ⟨P, mv, T, nm, s, d, ht⟩ := id h.2
  obtain ⟨hn, hW, hx, hk, hb⟩ := id ht
  obtain ⟨hrs, hnm, hni, hsr⟩ := id hx
  obtain ⟨hks, hknm, hsk⟩ := id hk
  obtain ⟨hT, hTm, hB, h16, hmq, hCd, -⟩ := id hrs
  have h1 := hw.t
  have ht1 := htp.1
  have hC := u_T_keeperX l d M hW hn x0.toInt (z32r x0).1 (z32r x0).2
  simp only [Int32.ofInt_toInt] at hC
  refine ⟨_, hC, ?_⟩
  rintro r N ⟨v, rfl, hv, hf, hp⟩
  exact ⟨⟨_, rfl, rfl, fun _ => rfl⟩, h.1.x hf hW (by decide) (by decide), ⟨P, mv, T, nm, s, d, ht.x hf (by decide) (by decide) (by decide)⟩⟩
theorem v9_orbit (l : Launch) (M : zMem) (h : zLv M) (x0 : Int32) : ∃ Q' : Option Value → zMem → Prop, zC l m_T_orbit 0 0 [.ref 0, .int x0] M Q' ∧ ∀ r N, Q' r N → (∃ v : Value, r = some v ∧ v.category = 1 ∧ ∀ ad, zv ad v = v) ∧ zLv N := by
  obtain ⟨hw, htp⟩ := id h.1
  obtain ⟨P, mv, T, nm, s, d, ht⟩ := id h.2
  obtain ⟨hn, hW, hx, hk, hb⟩ := id ht
  obtain ⟨hrs, hnm, hni, hsr⟩ := id hx
  obtain ⟨hks, hknm, hsk⟩ := id hk
  obtain ⟨hT, hTm, hB, h16, hmq, hCd, -⟩ := id hrs
  have h1 := hw.t
  have ht1 := htp.1
  have hC := u_T_orbitX l d M hW hn x0.toInt (z32r x0).1 (z32r x0).2
  simp only [Int32.ofInt_toInt] at hC
  refine ⟨_, hC, ?_⟩
  rintro r N ⟨v, rfl, hv, hf, hp⟩
  exact ⟨⟨_, rfl, rfl, fun _ => rfl⟩, h.1.x hf hW (by decide) (by decide), ⟨P, mv, T, nm, s, d, ht.x hf (by decide) (by decide) (by decide)⟩⟩
theorem v9_coset (l : Launch) (M : zMem) (h : zLv M) (x0 : Int32) (x1 : Int32) : ∃ Q' : Option Value → zMem → Prop, zC l m_T_coset 0 0 [.ref 0, .int x0, .int x1] M Q' ∧ ∀ r N, Q' r N → (∃ v : Value, r = some v ∧ v.category = 1 ∧ ∀ ad, zv ad v = v) ∧ zLv N := by
  obtain ⟨hw, htp⟩ := id h.1
  obtain ⟨P, mv, T, nm, s, d, ht⟩ := id h.2
  obtain ⟨hn, hW, hx, hk, hb⟩ := id ht
  obtain ⟨hrs, hnm, hni, hsr⟩ := id hx
  obtain ⟨hks, hknm, hsk⟩ := id hk
  obtain ⟨hT, hTm, hB, h16, hmq, hCd, -⟩ := id hrs
  have h1 := hw.t
  have ht1 := htp.1
  have hC := u_T_cosetX l d M hW hn x0.toInt (z32r x0).1 (z32r x0).2 x1.toInt (z32r x1).1 (z32r x1).2
  simp only [Int32.ofInt_toInt] at hC
  refine ⟨_, hC, ?_⟩
  rintro r N ⟨v, rfl, hv, hf, hp⟩
  exact ⟨⟨_, rfl, rfl, fun _ => rfl⟩, h.1.x hf hW (by decide) (by decide), ⟨P, mv, T, nm, s, d, ht.x hf (by decide) (by decide) (by decide)⟩⟩
theorem v9_takes (l : Launch) (M : zMem) (h : zLv M) (x0 : Int32) (x1 : Int32) (x2 : Int32) : ∃ Q' : Option Value → zMem → Prop, zC l m_T_takes 0 0 [.ref 0, .int x0, .int x1, .int x2] M Q' ∧ ∀ r N, Q' r N → (∃ v : Value, r = some v ∧ v.category = 1 ∧ ∀ ad, zv ad v = v) ∧ zLv N := by
  obtain ⟨hw, htp⟩ := id h.1
  obtain ⟨P, mv, T, nm, s, d, ht⟩ := id h.2
  obtain ⟨hn, hW, hx, hk, hb⟩ := id ht
  obtain ⟨hrs, hnm, hni, hsr⟩ := id hx
  obtain ⟨hks, hknm, hsk⟩ := id hk
  obtain ⟨hT, hTm, hB, h16, hmq, hCd, -⟩ := id hrs
  have h1 := hw.t
  have ht1 := htp.1
  have hC := u_T_takesX l d M hW hn x0.toInt (z32r x0).1 (z32r x0).2 x1.toInt (z32r x1).1 (z32r x1).2 x2.toInt (z32r x2).1 (z32r x2).2
  simp only [Int32.ofInt_toInt] at hC
  refine ⟨_, hC, ?_⟩
  rintro r N ⟨v, rfl, hv, hf, hp⟩
  exact ⟨⟨_, rfl, rfl, fun _ => rfl⟩, h.1.x hf hW (by decide) (by decide), ⟨P, mv, T, nm, s, d, ht.x hf (by decide) (by decide) (by decide)⟩⟩
theorem v9_moebius (l : Launch) (M : zMem) (h : zLv M) (x0 : Int32) : ∃ Q' : Option Value → zMem → Prop, zC l m_T_moebius 0 0 [.ref 0, .int x0] M Q' ∧ ∀ r N, Q' r N → (∃ v : Value, r = some v ∧ v.category = 1 ∧ ∀ ad, zv ad v = v) ∧ zLv N := by
  obtain ⟨hw, htp⟩ := id h.1
  obtain ⟨P, mv, T, nm, s, d, ht⟩ := id h.2
  obtain ⟨hn, hW, hx, hk, hb⟩ := id ht
  obtain ⟨hrs, hnm, hni, hsr⟩ := id hx
  obtain ⟨hks, hknm, hsk⟩ := id hk
  obtain ⟨hT, hTm, hB, h16, hmq, hCd, -⟩ := id hrs
  have h1 := hw.t
  have ht1 := htp.1
  have hC := u_T_moebiusX l d M hW hn x0.toInt (z32r x0).1 (z32r x0).2
  simp only [Int32.ofInt_toInt] at hC
  refine ⟨_, hC, ?_⟩
  rintro r N ⟨v, rfl, hv, hf, hp⟩
  exact ⟨⟨_, rfl, rfl, fun _ => rfl⟩, h.1.x hf hW (by decide) (by decide), ⟨P, mv, T, nm, s, d, ht.x hf (by decide) (by decide) (by decide)⟩⟩
theorem v9_mixed (l : Launch) (M : zMem) (h : zLv M) (x0 : Int32) : ∃ Q' : Option Value → zMem → Prop, zC l m_T_mixed 0 0 [.ref 0, .int x0] M Q' ∧ ∀ r N, Q' r N → (∃ v : Value, r = some v ∧ v.category = 1 ∧ ∀ ad, zv ad v = v) ∧ zLv N := by
  obtain ⟨hw, htp⟩ := id h.1
  obtain ⟨P, mv, T, nm, s, d, ht⟩ := id h.2
  obtain ⟨hn, hW, hx, hk, hb⟩ := id ht
  obtain ⟨hrs, hnm, hni, hsr⟩ := id hx
  obtain ⟨hks, hknm, hsk⟩ := id hk
  obtain ⟨hT, hTm, hB, h16, hmq, hCd, -⟩ := id hrs
  have h1 := hw.t
  have ht1 := htp.1
  have hC := u_T_mixedX l d M hW hn x0.toInt (z32r x0).1 (z32r x0).2
  simp only [Int32.ofInt_toInt] at hC
  refine ⟨_, hC, ?_⟩
  rintro r N ⟨v, rfl, hv, hf, hp⟩
  exact ⟨⟨_, rfl, rfl, fun _ => rfl⟩, h.1.x hf hW (by decide) (by decide), ⟨P, mv, T, nm, s, d, ht.x hf (by decide) (by decide) (by decide)⟩⟩
theorem v9_centre (l : Launch) (M : zMem) (h : zLv M) (x0 : Int32) : ∃ Q' : Option Value → zMem → Prop, zC l m_T_centre 0 0 [.ref 0, .int x0] M Q' ∧ ∀ r N, Q' r N → (∃ v : Value, r = some v ∧ v.category = 1 ∧ ∀ ad, zv ad v = v) ∧ zLv N := by
  obtain ⟨hw, htp⟩ := id h.1
  obtain ⟨P, mv, T, nm, s, d, ht⟩ := id h.2
  obtain ⟨hn, hW, hx, hk, hb⟩ := id ht
  obtain ⟨hrs, hnm, hni, hsr⟩ := id hx
  obtain ⟨hks, hknm, hsk⟩ := id hk
  obtain ⟨hT, hTm, hB, h16, hmq, hCd, -⟩ := id hrs
  have h1 := hw.t
  have ht1 := htp.1
  have hC := u_T_centreX l d M hW hn x0.toInt (z32r x0).1 (z32r x0).2
  simp only [Int32.ofInt_toInt] at hC
  refine ⟨_, hC, ?_⟩
  rintro r N ⟨v, rfl, hv, hf, hp⟩
  exact ⟨⟨_, rfl, rfl, fun _ => rfl⟩, h.1.x hf hW (by decide) (by decide), ⟨P, mv, T, nm, s, d, ht.x hf (by decide) (by decide) (by decide)⟩⟩
theorem v9_pairs (l : Launch) (M : zMem) (h : zLv M) (x0 : Int32) (x1 : Int32) : ∃ Q' : Option Value → zMem → Prop, zC l m_T_pairs 0 0 [.ref 0, .int x0, .int x1] M Q' ∧ ∀ r N, Q' r N → (∃ v : Value, r = some v ∧ v.category = 1 ∧ ∀ ad, zv ad v = v) ∧ zLv N := by
  obtain ⟨hw, htp⟩ := id h.1
  obtain ⟨P, mv, T, nm, s, d, ht⟩ := id h.2
  obtain ⟨hn, hW, hx, hk, hb⟩ := id ht
  obtain ⟨hrs, hnm, hni, hsr⟩ := id hx
  obtain ⟨hks, hknm, hsk⟩ := id hk
  obtain ⟨hT, hTm, hB, h16, hmq, hCd, -⟩ := id hrs
  have h1 := hw.t
  have ht1 := htp.1
  have hC := u_T_pairsL l d M hW hn x0.toInt (z32r x0).1 (z32r x0).2 x1.toInt (z32r x1).1 (z32r x1).2 (gF T).length (gmkI T) (gT_zTA hT) hks.2.2.2.2.1
  simp only [Int32.ofInt_toInt] at hC
  refine ⟨_, hC, ?_⟩
  rintro r N ⟨v, rfl, hv, hf, hp⟩
  exact ⟨⟨_, rfl, rfl, fun _ => rfl⟩, h.1.x hf hW (by decide) (by decide), ⟨P, mv, T, nm, s, d, ht.xl hf hp (by decide) (by decide) (by decide)⟩⟩
theorem v9_alike (l : Launch) (M : zMem) (h : zLv M) : ∃ Q' : Option Value → zMem → Prop, zC l m_T_alike 0 0 [.ref 0] M Q' ∧ ∀ r N, Q' r N → (∃ v : Value, r = some v ∧ v.category = 1 ∧ ∀ ad, zv ad v = v) ∧ zLv N := by
  obtain ⟨hw, htp⟩ := id h.1
  obtain ⟨P, mv, T, nm, s, d, ht⟩ := id h.2
  obtain ⟨hn, hW, hx, hk, hb⟩ := id ht
  obtain ⟨hrs, hnm, hni, hsr⟩ := id hx
  obtain ⟨hks, hknm, hsk⟩ := id hk
  obtain ⟨hT, hTm, hB, h16, hmq, hCd, -⟩ := id hrs
  have h1 := hw.t
  have ht1 := htp.1
  have hC := u_T_alikeX l d M hW hn 
  refine ⟨_, hC, ?_⟩
  rintro r N ⟨v, rfl, hv, hf, hp⟩
  exact ⟨⟨_, rfl, rfl, fun _ => rfl⟩, h.1.x hf hW (by decide) (by decide), ⟨P, mv, T, nm, s, d, ht.x hf (by decide) (by decide) (by decide)⟩⟩
theorem v9_meet (l : Launch) (M : zMem) (h : zLv M) (x0 : Int32) (x1 : Int32) : ∃ Q' : Option Value → zMem → Prop, zC l m_T_meet 0 0 [.ref 0, .int x0, .int x1] M Q' ∧ ∀ r N, Q' r N → (∃ v : Value, r = some v ∧ v.category = 1 ∧ ∀ ad, zv ad v = v) ∧ zLv N := by
  obtain ⟨hw, htp⟩ := id h.1
  obtain ⟨P, mv, T, nm, s, d, ht⟩ := id h.2
  obtain ⟨hn, hW, hx, hk, hb⟩ := id ht
  obtain ⟨hrs, hnm, hni, hsr⟩ := id hx
  obtain ⟨hks, hknm, hsk⟩ := id hk
  obtain ⟨hT, hTm, hB, h16, hmq, hCd, -⟩ := id hrs
  have h1 := hw.t
  have ht1 := htp.1
  have hC := u_T_meetX l d M hW hn x0.toInt (z32r x0).1 (z32r x0).2 x1.toInt (z32r x1).1 (z32r x1).2
  simp only [Int32.ofInt_toInt] at hC
  refine ⟨_, hC, ?_⟩
  rintro r N ⟨v, rfl, hv, hf, hp⟩
  exact ⟨⟨_, rfl, rfl, fun _ => rfl⟩, h.1.x hf hW (by decide) (by decide), ⟨P, mv, T, nm, s, d, ht.x hf (by decide) (by decide) (by decide)⟩⟩
theorem v9_join (l : Launch) (M : zMem) (h : zLv M) (x0 : Int32) (x1 : Int32) : ∃ Q' : Option Value → zMem → Prop, zC l m_T_join 0 0 [.ref 0, .int x0, .int x1] M Q' ∧ ∀ r N, Q' r N → (∃ v : Value, r = some v ∧ v.category = 1 ∧ ∀ ad, zv ad v = v) ∧ zLv N := by
  obtain ⟨hw, htp⟩ := id h.1
  obtain ⟨P, mv, T, nm, s, d, ht⟩ := id h.2
  obtain ⟨hn, hW, hx, hk, hb⟩ := id ht
  obtain ⟨hrs, hnm, hni, hsr⟩ := id hx
  obtain ⟨hks, hknm, hsk⟩ := id hk
  obtain ⟨hT, hTm, hB, h16, hmq, hCd, -⟩ := id hrs
  have h1 := hw.t
  have ht1 := htp.1
  have hC := u_T_joinX l d M hW hn x0.toInt (z32r x0).1 (z32r x0).2 x1.toInt (z32r x1).1 (z32r x1).2
  simp only [Int32.ofInt_toInt] at hC
  refine ⟨_, hC, ?_⟩
  rintro r N ⟨v, rfl, hv, hf, hp⟩
  exact ⟨⟨_, rfl, rfl, fun _ => rfl⟩, h.1.x hf hW (by decide) (by decide), ⟨P, mv, T, nm, s, d, ht.x hf (by decide) (by decide) (by decide)⟩⟩
theorem v9_orders (l : Launch) (M : zMem) (h : zLv M) (x0 : Int32) : ∃ Q' : Option Value → zMem → Prop, zC l m_T_orders 0 0 [.ref 0, .int x0] M Q' ∧ ∀ r N, Q' r N → (∃ v : Value, r = some v ∧ v.category = 1 ∧ ∀ ad, zv ad v = v) ∧ zLv N := by
  obtain ⟨hw, htp⟩ := id h.1
  obtain ⟨P, mv, T, nm, s, d, ht⟩ := id h.2
  obtain ⟨hn, hW, hx, hk, hb⟩ := id ht
  obtain ⟨hrs, hnm, hni, hsr⟩ := id hx
  obtain ⟨hks, hknm, hsk⟩ := id hk
  obtain ⟨hT, hTm, hB, h16, hmq, hCd, -⟩ := id hrs
  have h1 := hw.t
  have ht1 := htp.1
  have hC := u_T_ordersX l d M hW hn x0.toInt (z32r x0).1 (z32r x0).2
  simp only [Int32.ofInt_toInt] at hC
  refine ⟨_, hC, ?_⟩
  rintro r N ⟨v, rfl, hv, hf, hp⟩
  exact ⟨⟨_, rfl, rfl, fun _ => rfl⟩, h.1.x hf hW (by decide) (by decide), ⟨P, mv, T, nm, s, d, ht.x hf (by decide) (by decide) (by decide)⟩⟩
theorem v9_likes (l : Launch) (M : zMem) (h : zLv M) (x0 : Int32) : ∃ Q' : Option Value → zMem → Prop, zC l m_T_likes 0 0 [.ref 0, .int x0] M Q' ∧ ∀ r N, Q' r N → (∃ v : Value, r = some v ∧ v.category = 1 ∧ ∀ ad, zv ad v = v) ∧ zLv N := by
  obtain ⟨hw, htp⟩ := id h.1
  obtain ⟨P, mv, T, nm, s, d, ht⟩ := id h.2
  obtain ⟨hn, hW, hx, hk, hb⟩ := id ht
  obtain ⟨hrs, hnm, hni, hsr⟩ := id hx
  obtain ⟨hks, hknm, hsk⟩ := id hk
  obtain ⟨hT, hTm, hB, h16, hmq, hCd, -⟩ := id hrs
  have h1 := hw.t
  have ht1 := htp.1
  have hC := u_T_likesX l d M hW hn x0.toInt (z32r x0).1 (z32r x0).2
  simp only [Int32.ofInt_toInt] at hC
  refine ⟨_, hC, ?_⟩
  rintro r N ⟨v, rfl, hv, hf, hp⟩
  exact ⟨⟨_, rfl, rfl, fun _ => rfl⟩, h.1.x hf hW (by decide) (by decide), ⟨P, mv, T, nm, s, d, ht.x hf (by decide) (by decide) (by decide)⟩⟩
theorem v9_peak (l : Launch) (M : zMem) (h : zLv M) (x0 : Int32) (x1 : Int32) (x2 : Int32) : ∃ Q' : Option Value → zMem → Prop, zC l m_T_peak 0 0 [.ref 0, .int x0, .int x1, .int x2] M Q' ∧ ∀ r N, Q' r N → (∃ v : Value, r = some v ∧ v.category = 1 ∧ ∀ ad, zv ad v = v) ∧ zLv N := by
  obtain ⟨hw, htp⟩ := id h.1
  obtain ⟨P, mv, T, nm, s, d, ht⟩ := id h.2
  obtain ⟨hn, hW, hx, hk, hb⟩ := id ht
  obtain ⟨hrs, hnm, hni, hsr⟩ := id hx
  obtain ⟨hks, hknm, hsk⟩ := id hk
  obtain ⟨hT, hTm, hB, h16, hmq, hCd, -⟩ := id hrs
  have h1 := hw.t
  have ht1 := htp.1
  have hC := u_T_peakL l d M hW hn x0.toInt (z32r x0).1 (z32r x0).2 x1.toInt (z32r x1).1 (z32r x1).2 x2.toInt (z32r x2).1 (z32r x2).2 (gF T).length (gmkI T) (gT_zTA hT) hks.2.2.2.2.1
  simp only [Int32.ofInt_toInt] at hC
  refine ⟨_, hC, ?_⟩
  rintro r N ⟨v, rfl, hv, hf, hp⟩
  exact ⟨⟨_, rfl, rfl, fun _ => rfl⟩, h.1.x hf hW (by decide) (by decide), ⟨P, mv, T, nm, s, d, ht.xl hf hp (by decide) (by decide) (by decide)⟩⟩
theorem v9_local (l : Launch) (M : zMem) (h : zLv M) (x0 : Int32) (x1 : Int32) (x2 : Int32) (x3 : Int32) : ∃ Q' : Option Value → zMem → Prop, zC l m_T_local 0 0 [.ref 0, .int x0, .int x1, .int x2, .int x3] M Q' ∧ ∀ r N, Q' r N → (∃ v : Value, r = some v ∧ v.category = 1 ∧ ∀ ad, zv ad v = v) ∧ zLv N := by
  obtain ⟨hw, htp⟩ := id h.1
  obtain ⟨P, mv, T, nm, s, d, ht⟩ := id h.2
  obtain ⟨hn, hW, hx, hk, hb⟩ := id ht
  obtain ⟨hrs, hnm, hni, hsr⟩ := id hx
  obtain ⟨hks, hknm, hsk⟩ := id hk
  obtain ⟨hT, hTm, hB, h16, hmq, hCd, -⟩ := id hrs
  have h1 := hw.t
  have ht1 := htp.1
  have hC := u_T_localL l d M hW hn x0.toInt (z32r x0).1 (z32r x0).2 x1.toInt (z32r x1).1 (z32r x1).2 x2.toInt (z32r x2).1 (z32r x2).2 x3.toInt (z32r x3).1 (z32r x3).2 (gF T).length (gmkI T) (gT_zTA hT) hks.2.2.2.2.1
  simp only [Int32.ofInt_toInt] at hC
  refine ⟨_, hC, ?_⟩
  rintro r N ⟨v, rfl, hv, hf, hp⟩
  exact ⟨⟨_, rfl, rfl, fun _ => rfl⟩, h.1.x hf hW (by decide) (by decide), ⟨P, mv, T, nm, s, d, ht.xl hf hp (by decide) (by decide) (by decide)⟩⟩
theorem v9_units (l : Launch) (M : zMem) (h : zLv M) : ∃ Q' : Option Value → zMem → Prop, zC l m_T_units 0 0 [.ref 0] M Q' ∧ ∀ r N, Q' r N → (∃ v : Value, r = some v ∧ v.category = 1 ∧ ∀ ad, zv ad v = v) ∧ zLv N := by
  obtain ⟨hw, htp⟩ := id h.1
  obtain ⟨P, mv, T, nm, s, d, ht⟩ := id h.2
  obtain ⟨hn, hW, hx, hk, hb⟩ := id ht
  obtain ⟨hrs, hnm, hni, hsr⟩ := id hx
  obtain ⟨hks, hknm, hsk⟩ := id hk
  obtain ⟨hT, hTm, hB, h16, hmq, hCd, -⟩ := id hrs
  have h1 := hw.t
  have ht1 := htp.1
  have hC := u_T_unitsX l d M hW hn 
  refine ⟨_, hC, ?_⟩
  rintro r N ⟨v, rfl, hv, hf, hp⟩
  exact ⟨⟨_, rfl, rfl, fun _ => rfl⟩, h.1.x hf hW (by decide) (by decide), ⟨P, mv, T, nm, s, d, ht.x hf (by decide) (by decide) (by decide)⟩⟩
theorem v9_unit (l : Launch) (M : zMem) (h : zLv M) (x0 : Int32) (x1 : Int32) : ∃ Q' : Option Value → zMem → Prop, zC l m_T_unit 0 0 [.ref 0, .int x0, .int x1] M Q' ∧ ∀ r N, Q' r N → (∃ v : Value, r = some v ∧ v.category = 1 ∧ ∀ ad, zv ad v = v) ∧ zLv N := by
  obtain ⟨hw, htp⟩ := id h.1
  obtain ⟨P, mv, T, nm, s, d, ht⟩ := id h.2
  obtain ⟨hn, hW, hx, hk, hb⟩ := id ht
  obtain ⟨hrs, hnm, hni, hsr⟩ := id hx
  obtain ⟨hks, hknm, hsk⟩ := id hk
  obtain ⟨hT, hTm, hB, h16, hmq, hCd, -⟩ := id hrs
  have h1 := hw.t
  have ht1 := htp.1
  have hC := u_T_unitL l d M hW hn x0.toInt (z32r x0).1 (z32r x0).2 x1.toInt (z32r x1).1 (z32r x1).2 (gF T).length (gmkI T) (gT_zTA hT) hks.2.2.2.2.1
  simp only [Int32.ofInt_toInt] at hC
  refine ⟨_, hC, ?_⟩
  rintro r N ⟨v, rfl, hv, hf, hp⟩
  exact ⟨⟨_, rfl, rfl, fun _ => rfl⟩, h.1.x hf hW (by decide) (by decide), ⟨P, mv, T, nm, s, d, ht.xl hf hp (by decide) (by decide) (by decide)⟩⟩
theorem v9_named (l : Launch) (M : zMem) (h : zLv M) (x0 : Int32) (x1 : Int32) : ∃ Q' : Option Value → zMem → Prop, zC l m_T_named 0 0 [.ref 0, .int x0, .int x1] M Q' ∧ ∀ r N, Q' r N → (∃ v : Value, r = some v ∧ v.category = 2 ∧ ∀ ad, zv ad v = v) ∧ zLv N := by
  obtain ⟨hw, htp⟩ := id h.1
  obtain ⟨P, mv, T, nm, s, d, ht⟩ := id h.2
  obtain ⟨hn, hW, hx, hk, hb⟩ := id ht
  obtain ⟨hrs, hnm, hni, hsr⟩ := id hx
  obtain ⟨hks, hknm, hsk⟩ := id hk
  obtain ⟨hT, hTm, hB, h16, hmq, hCd, -⟩ := id hrs
  have h1 := hw.t
  have ht1 := htp.1
  have hC := u_T_namedX l d M hW hn x0.toInt (z32r x0).1 (z32r x0).2 x1.toInt (z32r x1).1 (z32r x1).2
  simp only [Int32.ofInt_toInt] at hC
  refine ⟨_, hC, ?_⟩
  rintro r N ⟨v, rfl, hv, hf, hp⟩
  exact ⟨⟨_, rfl, rfl, fun _ => rfl⟩, h.1.x hf hW (by decide) (by decide), ⟨P, mv, T, nm, s, d, ht.x hf (by decide) (by decide) (by decide)⟩⟩
theorem v9_has (l : Launch) (M : zMem) (h : zLv M) (x0 : Int32) : ∃ Q' : Option Value → zMem → Prop, zC l m_T_has 0 0 [.ref 0, .int x0] M Q' ∧ ∀ r N, Q' r N → (∃ v : Value, r = some v ∧ v.category = 2 ∧ ∀ ad, zv ad v = v) ∧ zLv N := by
  obtain ⟨hw, htp⟩ := id h.1
  obtain ⟨P, mv, T, nm, s, d, ht⟩ := id h.2
  obtain ⟨hn, hW, hx, hk, hb⟩ := id ht
  obtain ⟨hrs, hnm, hni, hsr⟩ := id hx
  obtain ⟨hks, hknm, hsk⟩ := id hk
  obtain ⟨hT, hTm, hB, h16, hmq, hCd, -⟩ := id hrs
  have h1 := hw.t
  have ht1 := htp.1
  have hC := u_T_hasX l d M hW hn x0.toInt (z32r x0).1 (z32r x0).2
  simp only [Int32.ofInt_toInt] at hC
  refine ⟨_, hC, ?_⟩
  rintro r N ⟨v, rfl, hv, hf, hp⟩
  exact ⟨⟨_, rfl, rfl, fun _ => rfl⟩, h.1.x hf hW (by decide) (by decide), ⟨P, mv, T, nm, s, d, ht.x hf (by decide) (by decide) (by decide)⟩⟩
theorem v9_marked (l : Launch) (M : zMem) (h : zLv M) (x0 : Int32) : ∃ Q' : Option Value → zMem → Prop, zC l m_T_marked 0 0 [.ref 0, .int x0] M Q' ∧ ∀ r N, Q' r N → (∃ v : Value, r = some v ∧ v.category = 2 ∧ ∀ ad, zv ad v = v) ∧ zLv N := by
  obtain ⟨hw, htp⟩ := id h.1
  obtain ⟨P, mv, T, nm, s, d, ht⟩ := id h.2
  obtain ⟨hn, hW, hx, hk, hb⟩ := id ht
  obtain ⟨hrs, hnm, hni, hsr⟩ := id hx
  obtain ⟨hks, hknm, hsk⟩ := id hk
  obtain ⟨hT, hTm, hB, h16, hmq, hCd, -⟩ := id hrs
  have h1 := hw.t
  have ht1 := htp.1
  have hC := u_T_markedX l d M hW hn x0.toInt (z32r x0).1 (z32r x0).2
  simp only [Int32.ofInt_toInt] at hC
  refine ⟨_, hC, ?_⟩
  rintro r N ⟨v, rfl, hv, hf, hp⟩
  exact ⟨⟨_, rfl, rfl, fun _ => rfl⟩, h.1.x hf hW (by decide) (by decide), ⟨P, mv, T, nm, s, d, ht.x hf (by decide) (by decide) (by decide)⟩⟩
theorem v9_character (l : Launch) (M : zMem) (h : zLv M) (x0 : Int32) : ∃ Q' : Option Value → zMem → Prop, zC l m_T_character 0 0 [.ref 0, .int x0] M Q' ∧ ∀ r N, Q' r N → (∃ v : Value, r = some v ∧ v.category = 2 ∧ ∀ ad, zv ad v = v) ∧ zLv N := by
  obtain ⟨hw, htp⟩ := id h.1
  obtain ⟨P, mv, T, nm, s, d, ht⟩ := id h.2
  obtain ⟨hn, hW, hx, hk, hb⟩ := id ht
  obtain ⟨hrs, hnm, hni, hsr⟩ := id hx
  obtain ⟨hks, hknm, hsk⟩ := id hk
  obtain ⟨hT, hTm, hB, h16, hmq, hCd, -⟩ := id hrs
  have h1 := hw.t
  have ht1 := htp.1
  have hC := u_T_characterX l d M hW hn x0.toInt (z32r x0).1 (z32r x0).2
  simp only [Int32.ofInt_toInt] at hC
  refine ⟨_, hC, ?_⟩
  rintro r N ⟨v, rfl, hv, hf, hp⟩
  exact ⟨⟨_, rfl, rfl, fun _ => rfl⟩, h.1.x hf hW (by decide) (by decide), ⟨P, mv, T, nm, s, d, ht.x hf (by decide) (by decide) (by decide)⟩⟩
theorem v9_parts (l : Launch) (M : zMem) (h : zLv M) : ∃ Q' : Option Value → zMem → Prop, zC l m_T_parts 0 0 [.ref 0] M Q' ∧ ∀ r N, Q' r N → (∃ v : Value, r = some v ∧ v.category = 1 ∧ ∀ ad, zv ad v = v) ∧ zLv N := by
  obtain ⟨hw, htp⟩ := id h.1
  obtain ⟨P, mv, T, nm, s, d, ht⟩ := id h.2
  obtain ⟨hn, hW, hx, hk, hb⟩ := id ht
  obtain ⟨hrs, hnm, hni, hsr⟩ := id hx
  obtain ⟨hks, hknm, hsk⟩ := id hk
  obtain ⟨hT, hTm, hB, h16, hmq, hCd, -⟩ := id hrs
  have h1 := hw.t
  have ht1 := htp.1
  have hC := u_T_partsX l d M hW hn 
  refine ⟨_, hC, ?_⟩
  rintro r N ⟨v, rfl, hv, hf, hp⟩
  exact ⟨⟨_, rfl, rfl, fun _ => rfl⟩, h.1.x hf hW (by decide) (by decide), ⟨P, mv, T, nm, s, d, ht.x hf (by decide) (by decide) (by decide)⟩⟩
theorem v9_congruence (l : Launch) (M : zMem) (h : zLv M) (x0 : Int32) : ∃ Q' : Option Value → zMem → Prop, zC l m_T_congruence 0 0 [.ref 0, .int x0] M Q' ∧ ∀ r N, Q' r N → (∃ v : Value, r = some v ∧ v.category = 2 ∧ ∀ ad, zv ad v = v) ∧ zLv N := by
  obtain ⟨hw, htp⟩ := id h.1
  obtain ⟨P, mv, T, nm, s, d, ht⟩ := id h.2
  obtain ⟨hn, hW, hx, hk, hb⟩ := id ht
  obtain ⟨hrs, hnm, hni, hsr⟩ := id hx
  obtain ⟨hks, hknm, hsk⟩ := id hk
  obtain ⟨hT, hTm, hB, h16, hmq, hCd, -⟩ := id hrs
  have h1 := hw.t
  have ht1 := htp.1
  have hC := u_T_congruenceX l d M hW hn x0.toInt (z32r x0).1 (z32r x0).2
  simp only [Int32.ofInt_toInt] at hC
  refine ⟨_, hC, ?_⟩
  rintro r N ⟨v, rfl, hv, hf, hp⟩
  exact ⟨⟨_, rfl, rfl, fun _ => rfl⟩, h.1.x hf hW (by decide) (by decide), ⟨P, mv, T, nm, s, d, ht.x hf (by decide) (by decide) (by decide)⟩⟩
theorem v9_is (l : Launch) (M : zMem) (h : zLv M) (x0 : Int32) : ∃ Q' : Option Value → zMem → Prop, zC l m_T_is 0 0 [.ref 0, .int x0] M Q' ∧ ∀ r N, Q' r N → (∃ v : Value, r = some v ∧ v.category = 1 ∧ ∀ ad, zv ad v = v) ∧ zLv N := by
  obtain ⟨hw, htp⟩ := id h.1
  obtain ⟨P, mv, T, nm, s, d, ht⟩ := id h.2
  obtain ⟨hn, hW, hx, hk, hb⟩ := id ht
  obtain ⟨hrs, hnm, hni, hsr⟩ := id hx
  obtain ⟨hks, hknm, hsk⟩ := id hk
  obtain ⟨hT, hTm, hB, h16, hmq, hCd, -⟩ := id hrs
  have h1 := hw.t
  have ht1 := htp.1
  have hC := u_T_isX l d M hW hn x0.toInt (z32r x0).1 (z32r x0).2
  simp only [Int32.ofInt_toInt] at hC
  refine ⟨_, hC, ?_⟩
  rintro r N ⟨v, rfl, hv, hf, hp⟩
  exact ⟨⟨_, rfl, rfl, fun _ => rfl⟩, h.1.x hf hW (by decide) (by decide), ⟨P, mv, T, nm, s, d, ht.x hf (by decide) (by decide) (by decide)⟩⟩
theorem v9_makes (l : Launch) (M : zMem) (h : zLv M) (P : Nat) (mv : List Nat) (T : zGT) (nm : List (Int × (Nat → Int))) (s : zSg) (d : Nat) (ht : zLt P mv T nm s d M) : ∃ Q' : Option Value → zMem → Prop, zC l m_T_makes 0 0 [.ref 0] M Q' ∧ ∀ r N, Q' r N → ∃ (v : Int) (s2 : zSg), r = some (.int (Int32.ofInt v)) ∧ zAmakes (fun k => ze M 82 k) (ze M 81 1).toNat T nm s s2 v ∧ zSB (gF T).length s2 ∧ (zf N 0 2 = some (d + 0) ∧ zKW d N ∧ zKXn P mv T nm s2 d N) ∧ zRXn P mv T nm s N ∧ zLw N ∧ (∀ q, 81 ≤ q → zi N q = zi M q ∧ zj N q = zj M q) ∧ ze N 1 1 = 0 := by
  obtain ⟨hw, htp⟩ := id h.1
  obtain ⟨hn, hW, hx, hk, hb⟩ := id ht
  obtain ⟨hrs, hnm, hni, hsr⟩ := id hx
  obtain ⟨hks, hknm, hsk⟩ := id hk
  obtain ⟨hT, hTm, hB, h16, hmq, hCd, -⟩ := id hrs
  have h1 := hw.t
  have ht1 := htp.1
  have hIF := hw.2.2.2.2.2.2.2.1.2.2.2.2.2.1
  have hmq2 : zMvF M = mv := hmq
  have hpm : ∀ g ∈ mv, gpm g := fun g hg => hIF.2.2.1 g (by rw [hmq2]; exact hg)
  have hGr := hTm.gr hpm
  have hP6 : P ≤ 6 := by have := hIF.1.1.2; omega
  have hC := u_T_makesS l d M hW hn  (fun k => ze M 82 k) (ze M 81 1).toNat T hT s nm h.1.y hks.2.2.2.2.1 hsk hknm
  refine ⟨_, hC, ?_⟩
  rintro r N ⟨v, rfl, hv, hf, hz1, hp, hnm2⟩
  have hx2 : ∃ s2 : zSg, zAmakes (fun k => ze M 82 k) (ze M 81 1).toNat T nm s s2 v ∧ zSK (gF T).length s2 d N := by
    rcases hp with ⟨a1, a2, a3⟩ | ⟨f, a1, a2, a3, a4⟩
    · exact ⟨_, Or.inl ⟨a1, a2, rfl⟩, a3⟩
    · exact ⟨_, Or.inr ⟨f, a1, a2, a3, rfl⟩, a4⟩
  obtain ⟨s2, x1, x2⟩ := hx2
  obtain ⟨y1, y2, y3, y4⟩ := ht.xs hf hnm2 x2 (by decide) (by decide)
  exact ⟨v, s2, rfl, x1, zAmakes_b hb x1, ⟨y1, y2, y4⟩, y3, hw.c hf hW (by decide), fun q hq => hf.hi hW (by decide) hq, hz1⟩
theorem v9_take (l : Launch) (M : zMem) (h : zLv M) (P : Nat) (mv : List Nat) (T : zGT) (nm : List (Int × (Nat → Int))) (s : zSg) (d : Nat) (ht : zLt P mv T nm s d M) (x0 : Int32) (x1 : Int32) : ∃ Q' : Option Value → zMem → Prop, zC l m_T_take 0 0 [.ref 0, .int x0, .int x1] M Q' ∧ ∀ r N, Q' r N → ∃ (v : Int) (s2 : zSg), r = some (.int (Int32.ofInt v)) ∧ zAtake P mv T s x0.toInt x1.toInt s2 ∧ zSB (gF T).length s2 ∧ (zf N 0 2 = some (d + 0) ∧ zKW d N ∧ zKXn P mv T nm s2 d N) ∧ zRXn P mv T nm s N ∧ zLw N ∧ (∀ q, 81 ≤ q → zi N q = zi M q ∧ zj N q = zj M q) ∧ zLb N := by
  obtain ⟨hw, htp⟩ := id h.1
  obtain ⟨hn, hW, hx, hk, hb⟩ := id ht
  obtain ⟨hrs, hnm, hni, hsr⟩ := id hx
  obtain ⟨hks, hknm, hsk⟩ := id hk
  obtain ⟨hT, hTm, hB, h16, hmq, hCd, -⟩ := id hrs
  have h1 := hw.t
  have ht1 := htp.1
  have hIF := hw.2.2.2.2.2.2.2.1.2.2.2.2.2.1
  have hmq2 : zMvF M = mv := hmq
  have hpm : ∀ g ∈ mv, gpm g := fun g hg => hIF.2.2.1 g (by rw [hmq2]; exact hg)
  have hGr := hTm.gr hpm
  have hP6 : P ≤ 6 := by have := hIF.1.1.2; omega
  have hfx : ∀ g ∈ mv, gfix P g := fun g hg => zMvF_x hIF h16 g (by rw [hmq2]; exact hg)
  have hC := u_T_takeS l d M hW hn x0.toInt (z32r x0).1 (z32r x0).2 x1.toInt (z32r x1).1 (z32r x1).2 T hT P mv hpm s nm hks.1 hks.2.1 hks.2.2.2.1 hks.2.2.2.2.1 hsk hknm
  simp only [Int32.ofInt_toInt] at hC
  refine ⟨_, hC, ?_⟩
  rintro r N ⟨v, rfl, hv, hf, hp, hnm2⟩
  have hx2 : ∃ s2 : zSg, zAtake P mv T s x0.toInt x1.toInt s2 ∧ zSK (gF T).length s2 d N := by
    rcases hp with ⟨a1, c_, q1, q2⟩ | ⟨a1, a2, a3⟩
    · exact ⟨_, Or.inl ⟨a1, c_, q1, rfl⟩, q2.pc (fun k hk => (zcln_e hk).symm)⟩
    · exact ⟨_, Or.inr ⟨a1, rfl⟩, a2⟩
  obtain ⟨s2, x1, x2⟩ := hx2
  obtain ⟨y1, y2, y3, y4⟩ := ht.xs hf hnm2 x2 (by decide) (by decide)
  exact ⟨v, s2, rfl, x1, zAtake_b hT hpm hfx hP6 hb x1, ⟨y1, y2, y4⟩, y3, hw.c hf hW (by decide), fun q hq => hf.hi hW (by decide) hq, h.1.x hf hW (by decide) (by decide)⟩
theorem v9_marks (l : Launch) (M : zMem) (h : zLv M) (P : Nat) (mv : List Nat) (T : zGT) (nm : List (Int × (Nat → Int))) (s : zSg) (d : Nat) (ht : zLt P mv T nm s d M) : ∃ Q' : Option Value → zMem → Prop, zC l m_T_marks 0 0 [.ref 0] M Q' ∧ ∀ r N, Q' r N → ∃ (v : Int) (s2 : zSg), r = some (.int (Int32.ofInt v)) ∧ zAmarks (fun k => ze M 82 k) (ze M 81 1).toNat T s s2 v ∧ zSB (gF T).length s2 ∧ (zf N 0 2 = some (d + 0) ∧ zKW d N ∧ zKXn P mv T nm s2 d N) ∧ zRXn P mv T nm s N ∧ zLw N ∧ (∀ q, 81 ≤ q → zi N q = zi M q ∧ zj N q = zj M q) ∧ ze N 1 1 = 0 := by
  obtain ⟨hw, htp⟩ := id h.1
  obtain ⟨hn, hW, hx, hk, hb⟩ := id ht
  obtain ⟨hrs, hnm, hni, hsr⟩ := id hx
  obtain ⟨hks, hknm, hsk⟩ := id hk
  obtain ⟨hT, hTm, hB, h16, hmq, hCd, -⟩ := id hrs
  have h1 := hw.t
  have ht1 := htp.1
  have hIF := hw.2.2.2.2.2.2.2.1.2.2.2.2.2.1
  have hmq2 : zMvF M = mv := hmq
  have hpm : ∀ g ∈ mv, gpm g := fun g hg => hIF.2.2.1 g (by rw [hmq2]; exact hg)
  have hGr := hTm.gr hpm
  have hP6 : P ≤ 6 := by have := hIF.1.1.2; omega
  have hC := u_T_marksS l d M hW hn  (fun k => ze M 82 k) (ze M 81 1).toNat T hT hGr.1 hGr s nm h.1.y hks.2.2.1 hks.2.2.2.1 hks.2.2.2.2.2 hks.2.2.2.2.1 hsk hknm
  refine ⟨_, hC, ?_⟩
  rintro r N ⟨v, rfl, hv, hf, hz1, hp, hnm2⟩
  have hx2 : ∃ s2 : zSg, zAmarks (fun k => ze M 82 k) (ze M 81 1).toNat T s s2 v ∧ zSK (gF T).length s2 d N := by
    rcases hp with ⟨a1, a2, a3⟩ | ⟨f, a1, a2, a3, ⟨q1, q2⟩ | ⟨q1, q2⟩⟩
    · exact ⟨_, Or.inl ⟨a1, a2, rfl⟩, a3⟩
    · exact ⟨_, Or.inr ⟨f, a1, a2, a3, Or.inl ⟨q1, rfl⟩⟩, q2.pc (fun k hk => (zcln_e hk).symm)⟩
    · exact ⟨_, Or.inr ⟨f, a1, a2, a3, Or.inr ⟨q1, rfl⟩⟩, q2⟩
  obtain ⟨s2, x1, x2⟩ := hx2
  obtain ⟨y1, y2, y3, y4⟩ := ht.xs hf hnm2 x2 (by decide) (by decide)
  exact ⟨v, s2, rfl, x1, zAmarks_b hT hb x1, ⟨y1, y2, y4⟩, y3, hw.c hf hW (by decide), fun q hq => hf.hi hW (by decide) hq, hz1⟩
theorem v9_uses (l : Launch) (M : zMem) (h : zLv M) (P : Nat) (mv : List Nat) (T : zGT) (nm : List (Int × (Nat → Int))) (s : zSg) (d : Nat) (ht : zLt P mv T nm s d M) (x0 : Int32) : ∃ Q' : Option Value → zMem → Prop, zC l m_T_uses 0 0 [.ref 0, .int x0] M Q' ∧ ∀ r N, Q' r N → ∃ (v : Int) (s2 : zSg), r = some (.int (Int32.ofInt v)) ∧ zAuses T nm s x0.toInt s2 v ∧ zSB (gF T).length s2 ∧ (zf N 0 2 = some (d + 0) ∧ zKW d N ∧ zKXn P mv T nm s2 d N) ∧ zRXn P mv T nm s N ∧ zLw N ∧ (∀ q, 81 ≤ q → zi N q = zi M q ∧ zj N q = zj M q) ∧ zLb N := by
  obtain ⟨hw, htp⟩ := id h.1
  obtain ⟨hn, hW, hx, hk, hb⟩ := id ht
  obtain ⟨hrs, hnm, hni, hsr⟩ := id hx
  obtain ⟨hks, hknm, hsk⟩ := id hk
  obtain ⟨hT, hTm, hB, h16, hmq, hCd, -⟩ := id hrs
  have h1 := hw.t
  have ht1 := htp.1
  have hIF := hw.2.2.2.2.2.2.2.1.2.2.2.2.2.1
  have hmq2 : zMvF M = mv := hmq
  have hpm : ∀ g ∈ mv, gpm g := fun g hg => hIF.2.2.1 g (by rw [hmq2]; exact hg)
  have hGr := hTm.gr hpm
  have hP6 : P ≤ 6 := by have := hIF.1.1.2; omega
  have hC := u_T_usesS l d M hW hn x0.toInt (z32r x0).1 (z32r x0).2 (gF T).length (gmkI T) (gT_zTA hT) s nm hks.2.2.2.2.1 hsk hknm
  simp only [Int32.ofInt_toInt] at hC
  refine ⟨_, hC, ?_⟩
  rintro r N ⟨v, rfl, hv, hf, hp, hnm2⟩
  have hx2 : ∃ s2 : zSg, zAuses T nm s x0.toInt s2 v ∧ zSK (gF T).length s2 d N := by
    rcases hp with ⟨a1, a2, a3⟩ | ⟨a1, a2, a3⟩
    · exact ⟨_, Or.inl ⟨a1, rfl, a3⟩, a2⟩
    · exact ⟨_, Or.inr ⟨a1, rfl, a3⟩, a2⟩
  obtain ⟨s2, x1, x2⟩ := hx2
  obtain ⟨y1, y2, y3, y4⟩ := ht.xs hf hnm2 x2 (by decide) (by decide)
  exact ⟨v, s2, rfl, x1, zAuses_b hni hb x1, ⟨y1, y2, y4⟩, y3, hw.c hf hW (by decide), fun q hq => hf.hi hW (by decide) hq, h.1.x hf hW (by decide) (by decide)⟩
theorem v9_grows (l : Launch) (M : zMem) (h : zLv M) (P : Nat) (mv : List Nat) (T : zGT) (nm : List (Int × (Nat → Int))) (s : zSg) (d : Nat) (ht : zLt P mv T nm s d M) (x0 : Int32) (x1 : Int32) (x2 : Int32) : ∃ Q' : Option Value → zMem → Prop, zC l m_T_grows 0 0 [.ref 0, .int x0, .int x1, .int x2] M Q' ∧ ∀ r N, Q' r N → ∃ (v : Int) (s2 : zSg), r = some (.long (Int64.ofInt v)) ∧ zAgrows T s x0.toInt x1.toInt x2.toInt s2 v ∧ zSB (gF T).length s2 ∧ (zf N 0 2 = some (d + 0) ∧ zKW d N ∧ zKXn P mv T nm s2 d N) ∧ zRXn P mv T nm s N ∧ zLw N ∧ (∀ q, 81 ≤ q → zi N q = zi M q ∧ zj N q = zj M q) ∧ zLb N := by
  obtain ⟨hw, htp⟩ := id h.1
  obtain ⟨hn, hW, hx, hk, hb⟩ := id ht
  obtain ⟨hrs, hnm, hni, hsr⟩ := id hx
  obtain ⟨hks, hknm, hsk⟩ := id hk
  obtain ⟨hT, hTm, hB, h16, hmq, hCd, -⟩ := id hrs
  have h1 := hw.t
  have ht1 := htp.1
  have hIF := hw.2.2.2.2.2.2.2.1.2.2.2.2.2.1
  have hmq2 : zMvF M = mv := hmq
  have hpm : ∀ g ∈ mv, gpm g := fun g hg => hIF.2.2.1 g (by rw [hmq2]; exact hg)
  have hGr := hTm.gr hpm
  have hP6 : P ≤ 6 := by have := hIF.1.1.2; omega
  have hC := u_T_growsS l d M hW hn x0.toInt (z32r x0).1 (z32r x0).2 x1.toInt (z32r x1).1 (z32r x1).2 x2.toInt (z32r x2).1 (z32r x2).2 (gF T).length (gmkI T) (gT_zTA hT) s nm hks.2.2.2.2.1 hsk hknm hb
  simp only [Int32.ofInt_toInt] at hC
  refine ⟨_, hC, ?_⟩
  rintro r N ⟨v, rfl, hv, hf, hp, hnm2⟩
  have hx2 : ∃ s2 : zSg, zAgrows T s x0.toInt x1.toInt x2.toInt s2 v ∧ zSK (gF T).length s2 d N := by
    rcases hp with ⟨a1, a2, a3⟩ | ⟨a1, a2, a3⟩
    · exact ⟨_, Or.inl ⟨a1, rfl, a3⟩, a2⟩
    · exact ⟨_, Or.inr ⟨a1, rfl, a3⟩, a2⟩
  obtain ⟨s2, x1, x2⟩ := hx2
  obtain ⟨y1, y2, y3, y4⟩ := ht.xs hf hnm2 x2 (by decide) (by decide)
  exact ⟨v, s2, rfl, x1, zAgrows_b hb x1, ⟨y1, y2, y4⟩, y3, hw.c hf hW (by decide), fun q hq => hf.hi hW (by decide) hq, h.1.x hf hW (by decide) (by decide)⟩
theorem v9_undo (l : Launch) (M : zMem) (h : zLv M) (P : Nat) (mv : List Nat) (T : zGT) (nm : List (Int × (Nat → Int))) (s : zSg) (d : Nat) (ht : zLt P mv T nm s d M) : ∃ Q' : Option Value → zMem → Prop, zC l m_T_undo 0 0 [.ref 0] M Q' ∧ ∀ r N, Q' r N → ∃ (v : Int) (s2 : zSg), r = some (.int (Int32.ofInt v)) ∧ zAundo s s2 v ∧ zSB (gF T).length s2 ∧ (zf N 0 2 = some (d + 0) ∧ zKW d N ∧ zKXn P mv T nm s2 d N) ∧ zRXn P mv T nm s N ∧ zLw N ∧ (∀ q, 81 ≤ q → zi N q = zi M q ∧ zj N q = zj M q) ∧ zLb N := by
  obtain ⟨hw, htp⟩ := id h.1
  obtain ⟨hn, hW, hx, hk, hb⟩ := id ht
  obtain ⟨hrs, hnm, hni, hsr⟩ := id hx
  obtain ⟨hks, hknm, hsk⟩ := id hk
  obtain ⟨hT, hTm, hB, h16, hmq, hCd, -⟩ := id hrs
  have h1 := hw.t
  have ht1 := htp.1
  have hIF := hw.2.2.2.2.2.2.2.1.2.2.2.2.2.1
  have hmq2 : zMvF M = mv := hmq
  have hpm : ∀ g ∈ mv, gpm g := fun g hg => hIF.2.2.1 g (by rw [hmq2]; exact hg)
  have hGr := hTm.gr hpm
  have hP6 : P ≤ 6 := by have := hIF.1.1.2; omega
  have hC := u_T_undoS l d M hW hn  (gF T).length (gmkI T) (gT_zTA hT) s nm hks.2.2.2.2.1 hsk hknm
  refine ⟨_, hC, ?_⟩
  rintro r N ⟨v, rfl, hv, hf, hp, hnm2⟩
  have hx2 : ∃ s2 : zSg, zAundo s s2 v ∧ zSK (gF T).length s2 d N := by
    rcases hp with ⟨a1, a2, a3⟩ | ⟨a1, a2, a3⟩
    · exact ⟨_, Or.inl ⟨a1, rfl, a3⟩, a2⟩
    · exact ⟨_, Or.inr ⟨a1, rfl, a3⟩, a2⟩
  obtain ⟨s2, x1, x2⟩ := hx2
  obtain ⟨y1, y2, y3, y4⟩ := ht.xs hf hnm2 x2 (by decide) (by decide)
  exact ⟨v, s2, rfl, x1, zAundo_b hb x1, ⟨y1, y2, y4⟩, y3, hw.c hf hW (by decide), fun q hq => hf.hi hW (by decide) hq, h.1.x hf hW (by decide) (by decide)⟩
