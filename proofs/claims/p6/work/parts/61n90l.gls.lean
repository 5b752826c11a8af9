def zcln (F : Nat) (e : Nat → Int) : Nat → Int := fun k => if k < F then e k else 0
theorem zcln_e {F k : Nat} {e : Nat → Int} (hk : k < F) : zcln F e k = e k := if_pos hk
theorem zcln_c {F : Nat} {e f : Nat → Int} (h : ∀ k, k < F → e k = f k) : zcln F e = zcln F f := funext fun k => by
  unfold zcln
  by_cases g : k < F
  · rw [if_pos g, if_pos g, h k g]
  · rw [if_neg g, if_neg g]
theorem zSR.pc {F : Nat} {s : zSg} {e f : Nat → Int} {M : zMem} (h : zSR F (zpush s e) M) (hc : ∀ k, k < F → e k = f k) : zSR F (zpush s f) M := ⟨h.1, fun k hk => (h.2.1 k hk).trans (hc k hk), h.2.2⟩
def zRXn (P : Nat) (mv : List Nat) (T : zGT) (nm : List (Int × (Nat → Int))) (s : zSg) (M : zMem) : Prop := zRS P mv T M ∧ zRNm nm (gF T).length (gmkI T) (fun _ => 0) 0 M ∧ zRNi nm (gF T).length (gmkI T) M ∧ zSR (gF T).length s M
def zKXn (P : Nat) (mv : List Nat) (T : zGT) (nm : List (Int × (Nat → Int))) (s : zSg) (d : Nat) (M : zMem) : Prop := zKS P mv T d M ∧ zNm nm (gF T).length (gmkI T) d M ∧ zSK (gF T).length s d M
def zLt (P : Nat) (mv : List Nat) (T : zGT) (nm : List (Int × (Nat → Int))) (s : zSg) (d : Nat) (M : zMem) : Prop := zf M 0 2 = some (d + 0) ∧ zKW d M ∧ zRXn P mv T nm s M ∧ zKXn P mv T nm s d M ∧ zSB (gF T).length s
def zLn (M : zMem) : Prop := ∃ P mv T nm s d, zLt P mv T nm s d M
def zLv (M : zMem) : Prop := zLb M ∧ zLn M
section ZLN
variable {M N : zMem} {d d2 : Nat} {P : Nat} {mv : List Nat} {T : zGT} {nm : List (Int × (Nat → Int))} {s : zSg} {FA : List (Nat × Nat)} {CA : List Nat} {FR : List (Nat × Nat)} {CR : List Nat} {S C : List Nat}
theorem zRXn.fr (hf : zFr S C M N) (h : zRXn P mv T nm s M) (hs : 60 ∉ S ∧ (14 ∉ S ∧ 18 ∉ S) ∧ 16 ∉ S ∧ 17 ∉ S ∧ 20 ∉ S ∧ 25 ∉ S ∧ 26 ∉ S) (hc : (98 ∉ C ∧ 111 ∉ C) ∧ (((101 ∉ C ∧ 102 ∉ C) ∧ 103 ∉ C ∧ 104 ∉ C) ∧ 92 ∉ C) ∧ 84 ∉ C ∧ 85 ∉ C ∧ 87 ∉ C ∧ 88 ∉ C ∧ 89 ∉ C ∧ 90 ∉ C ∧ 91 ∉ C ∧ 93 ∉ C ∧ 94 ∉ C) : zRXn P mv T nm s N :=
  ⟨zRS.fr hf h.1 hs.2 hc.2, zRNm.fr hf h.2.1 hs.2.1.1 hc.2.1.1.1, zRNi.fr hf h.2.2.1 hs.2.1.2 hc.2.1.1.2, zSR.fr hf h.2.2.2 hs.1 hc.1⟩
theorem zRXn.st {s2 : zSg} (hf : zFr S C M N) (h : zRXn P mv T nm s M) (h2 : zSR (gF T).length s2 N) (hs : (14 ∉ S ∧ 18 ∉ S) ∧ 16 ∉ S ∧ 17 ∉ S ∧ 20 ∉ S ∧ 25 ∉ S ∧ 26 ∉ S) (hc : (((101 ∉ C ∧ 102 ∉ C) ∧ 103 ∉ C ∧ 104 ∉ C) ∧ 92 ∉ C) ∧ 84 ∉ C ∧ 85 ∉ C ∧ 87 ∉ C ∧ 88 ∉ C ∧ 89 ∉ C ∧ 90 ∉ C ∧ 91 ∉ C ∧ 93 ∉ C ∧ 94 ∉ C) : zRXn P mv T nm s2 N :=
  ⟨zRS.fr hf h.1 hs hc, zRNm.fr hf h.2.1 hs.1.1 hc.1.1.1, zRNi.fr hf h.2.2.1 hs.1.2 hc.1.1.2, h2⟩
theorem zRXn.hi (h3 : ∀ q, 81 ≤ q → zi N q = zi M q ∧ zj N q = zj M q) (h1 : N.1 = M.1) (h2 : zsh N = zsh M) (h : zRXn P mv T nm s M) : zRXn P mv T nm s N := by
  have hfr : zFr [] (List.range 81) M (N.1, N.2.1, N.2.2.1, N.2.2.2.1, M.2.2.2.2) := by
    refine ⟨h1, h2, rfl, fun q hq hc => ?_, fun j _ => ?_⟩
    · have h81 : 81 ≤ q := by
        rcases Nat.lt_or_ge q 81 with g | g
        · exact absurd (List.mem_range.mpr g) hc
        · exact g
      exact ⟨(h3 q h81).1, (h3 q h81).2⟩
    · exact ⟨congrFun (h3 81 (by omega)).1 j, congrFun (h3 81 (by omega)).2 j⟩
  have h2 : zRXn P mv T nm s (N.1, N.2.1, N.2.2.1, N.2.2.2.1, M.2.2.2.2) := zRXn.fr hfr h (by decide) (by decide)
  exact h2
theorem zNm.ee {F : Nat} {K : Nat → Nat → Int} (h : ∀ o, o < 38 → zi N (d + o) = zi M (d + o) ∧ zj N (d + o) = zj M (d + o)) (hk : zNm nm F K d M) : zNm nm F K d N := by
  refine zNm_e ?_ (fun k => ?_) (fun k _ => ?_) hk
  · unfold ze
    rw [(h 0 (by decide)).1]
  · unfold ze
    rw [(h 37 (by decide)).1]
  · funext i
    unfold zvc zg
    rw [(h 25 (by decide)).2]
theorem zSK.ee {F : Nat} (h : ∀ o, o < 38 → zi N (d + o) = zi M (d + o) ∧ zj N (d + o) = zj M (d + o)) (hk : zSK F s d M) : zSK F s d N := by
  have e1 : ∀ j, ze N (d + 0) j = ze M (d + 0) j := fun j => by
    unfold ze
    rw [(h 0 (by decide)).1]
  have e2 : ∀ j, zg N (d + 25) j = zg M (d + 25) j := fun j => by
    unfold zg
    rw [(h 25 (by decide)).2]
  obtain ⟨a, b, c, e⟩ := hk
  refine ⟨by rw [e1]; exact a, by rw [e1]; exact b, fun k hk => (e2 k).trans (c k hk), fun m k hm hk => ?_⟩
  rw [e1, e2]
  exact e m k hm hk
theorem zKXn.ee (h : ∀ o, o < 38 → zi N (d + o) = zi M (d + o) ∧ zj N (d + o) = zj M (d + o)) (hk : zKXn P mv T nm s d M) : zKXn P mv T nm s d N := ⟨zKS.e (fun o ho j => by
  unfold ze
  rw [(h o ho).1]) hk.1, zNm.ee h hk.2.1, zSK.ee h hk.2.2⟩
theorem zKXn.lo (h : zOl M N) (hd : d = 5 ∨ d = 43) (hk : zKXn P mv T nm s d M) : zKXn P mv T nm s d N := zKXn.ee (fun o ho => h.2.2.2 (d + o) (by omega)) hk
theorem zKXn.st {s2 : zSg} (hW : zKW d M) (hf : zFc d FA CA FR CR M N) (h : zKXn P mv T nm s d M) (h2 : zNm nm (gF T).length (gmkI T) d N) (h3 : zSK (gF T).length s2 d N) (hk : ((1 ∉ CR ∧ (1, 5) ∉ FR) ∧ (1, 6) ∉ FR ∧ (1, 7) ∉ FR) ∧ (12 ∉ CR ∧ (12, 6) ∉ FR ∧ (12, 7) ∉ FR) ∧ ∀ o ∈ [3, 5, 7, 9, 14, 16, 20, 22], o ∉ CR ∧ ∀ x ∈ FR, x.1 ≠ o) : zKXn P mv T nm s2 d N := ⟨zKS.fr hW hf h.1 hk, h2, h3⟩
theorem zKXn.fr (hW : zKW d M) (hf : zFc d FA CA FR CR M N) (h : zKXn P mv T nm s d M) (hk : ((1 ∉ CR ∧ (1, 5) ∉ FR) ∧ (1, 6) ∉ FR ∧ (1, 7) ∉ FR) ∧ (12 ∉ CR ∧ (12, 6) ∉ FR ∧ (12, 7) ∉ FR) ∧ ∀ o ∈ [3, 5, 7, 9, 14, 16, 20, 22], o ∉ CR ∧ ∀ x ∈ FR, x.1 ≠ o) (hm : (0 ∉ CR ∧ (0, 6) ∉ FR ∧ (0, 7) ∉ FR ∧ (0, 8) ∉ FR) ∧ (37 ∉ CR ∧ ∀ x ∈ FR, x.1 ≠ 37) ∧ 25 ∉ CR ∧ ∀ x ∈ FR, x.1 ≠ 25) : zKXn P mv T nm s d N := by
  obtain ⟨⟨m1, m2, m3, m4⟩, m5, m6⟩ := hm
  exact ⟨zKS.fr hW hf h.1 hk, zNm.fr hW hf h.2.1 ⟨⟨by decide, m1, m2⟩, ⟨by decide, m5⟩, by decide, m6⟩, zSKc.fr hW hf h.2.2 ⟨⟨by decide, m1, m3⟩, ⟨by decide, m1, m4⟩, by decide, m6⟩⟩
theorem zKXn.fl (hT : T ∈ gTabs) (hW : zKW d M) (hf : zFc d FA CA FR CR M N) (hl : zLow d M N) (h : zKXn P mv T nm s d M) (hk : ((1 ∉ CR ∧ (1, 5) ∉ FR) ∧ (1, 6) ∉ FR ∧ (1, 7) ∉ FR) ∧ (12 ∉ CR ∧ (12, 6) ∉ FR ∧ (12, 7) ∉ FR) ∧ ∀ o ∈ [3, 5, 7, 9, 14, 16, 20, 22], o ∉ CR ∧ ∀ x ∈ FR, x.1 ≠ o) (hm : (0 ∉ CR ∧ (0, 6) ∉ FR ∧ (0, 7) ∉ FR ∧ (0, 8) ∉ FR) ∧ 37 ∉ CR ∧ ∀ x ∈ FR, x.1 ≠ 37) : zKXn P mv T nm s d N := by
  obtain ⟨⟨m1, m2, m3, m4⟩, m5⟩ := hm
  have hF := (gT_zTA hT).1.2
  exact ⟨zKS.fr hW hf h.1 hk, zNm.l hf hl hF h.2.1 ⟨⟨by decide, m1, m2⟩, by decide, m5⟩, zSK.fr hf hl hF h.2.2 ⟨m1, m3, m4⟩⟩
theorem zLt.lm (h : zLt P mv T nm s d M) : zLm M := ⟨P, mv, T, d, h.1, h.2.1, h.2.2.1.1, h.2.2.2.1.1⟩
theorem zLv.q (h : zLv M) : zLq M := by
  obtain ⟨h1, P, mv, T, nm, s, d, h2⟩ := h
  exact ⟨h1, h2.lm⟩
theorem zKW.n2 (hn : zf M 0 2 = some (d + 0)) (hn' : zf M 0 2 = some (d2 + 0)) : d2 = d := by
  rw [hn] at hn'
  have := Option.some.inj hn'
  omega
theorem zLt.x (h : zLt P mv T nm s d M) (hf : zFc d FA CA FR CR M N) (hc : (∀ x ∈ FA, x.1 < 81) ∧ ∀ x ∈ CA, x < 81) (hk : ((1 ∉ CR ∧ (1, 5) ∉ FR) ∧ (1, 6) ∉ FR ∧ (1, 7) ∉ FR) ∧ (12 ∉ CR ∧ (12, 6) ∉ FR ∧ (12, 7) ∉ FR) ∧ ∀ o ∈ [3, 5, 7, 9, 14, 16, 20, 22], o ∉ CR ∧ ∀ x ∈ FR, x.1 ≠ o) (hm : (0 ∉ CR ∧ (0, 6) ∉ FR ∧ (0, 7) ∉ FR ∧ (0, 8) ∉ FR) ∧ (37 ∉ CR ∧ ∀ x ∈ FR, x.1 ≠ 37) ∧ 25 ∉ CR ∧ ∀ x ∈ FR, x.1 ≠ 25) : zLt P mv T nm s d N := by
  obtain ⟨hn, hW, hr, hs, hb⟩ := h
  exact ⟨by rw [hf.2.2.1]; exact hn, hf.w hW, zRXn.hi (fun q hq => hf.hi hW hc hq) hf.1 hf.2.1 hr, zKXn.fr hW hf hs hk hm, hb⟩
theorem zLt.xl (h : zLt P mv T nm s d M) (hf : zFc d FA CA FR CR M N) (hl : zLow d M N) (hc : (∀ x ∈ FA, x.1 < 81) ∧ ∀ x ∈ CA, x < 81) (hk : ((1 ∉ CR ∧ (1, 5) ∉ FR) ∧ (1, 6) ∉ FR ∧ (1, 7) ∉ FR) ∧ (12 ∉ CR ∧ (12, 6) ∉ FR ∧ (12, 7) ∉ FR) ∧ ∀ o ∈ [3, 5, 7, 9, 14, 16, 20, 22], o ∉ CR ∧ ∀ x ∈ FR, x.1 ≠ o) (hm : (0 ∉ CR ∧ (0, 6) ∉ FR ∧ (0, 7) ∉ FR ∧ (0, 8) ∉ FR) ∧ 37 ∉ CR ∧ ∀ x ∈ FR, x.1 ≠ 37) : zLt P mv T nm s d N := by
  obtain ⟨hn, hW, hr, hs, hb⟩ := h
  exact ⟨by rw [hf.2.2.1]; exact hn, hf.w hW, zRXn.hi (fun q hq => hf.hi hW hc hq) hf.1 hf.2.1 hr, zKXn.fl hr.1.1 hW hf hl hs hk hm, hb⟩
theorem zLt.xs {s2 : zSg} (h : zLt P mv T nm s d M) (hf : zFc d FA CA FR CR M N) (h2 : zNm nm (gF T).length (gmkI T) d N) (h3 : zSK (gF T).length s2 d N) (hc : (∀ x ∈ FA, x.1 < 81) ∧ ∀ x ∈ CA, x < 81) (hk : ((1 ∉ CR ∧ (1, 5) ∉ FR) ∧ (1, 6) ∉ FR ∧ (1, 7) ∉ FR) ∧ (12 ∉ CR ∧ (12, 6) ∉ FR ∧ (12, 7) ∉ FR) ∧ ∀ o ∈ [3, 5, 7, 9, 14, 16, 20, 22], o ∉ CR ∧ ∀ x ∈ FR, x.1 ≠ o) : zf N 0 2 = some (d + 0) ∧ zKW d N ∧ zRXn P mv T nm s N ∧ zKXn P mv T nm s2 d N := by
  obtain ⟨hn, hW, hr, hs, hb⟩ := h
  exact ⟨by rw [hf.2.2.1]; exact hn, hf.w hW, zRXn.hi (fun q hq => hf.hi hW hc hq) hf.1 hf.2.1 hr, zKXn.st hW hf hs h2 h3 hk⟩
theorem zLn.ref {k : Int} (h : zLn M) (hg : zGo M N k) (hr : ∀ P mv T nm s, zRXn P mv T nm s M → zRXn P mv T nm s N) : zLn N := by
  obtain ⟨P, mv, T, nm, s, d, hn, hW, h1, hs, hb⟩ := h
  exact ⟨P, mv, T, nm, s, d, by rw [hg.1.2.2.1]; exact hn, hW.same hg.1.1 hg.1.2.1 (fun q j _ => by rw [hg.1.2.2.1]), hr P mv T nm s h1, zKXn.lo hg.1 hW.2.1 hs, hb⟩
theorem zLn.st {s2 : zSg} {k : Int} (h : zf M 0 2 = some (d + 0) ∧ zKW d M ∧ zKXn P mv T nm s2 d M) (hg : zGo M N k) (hr : zRXn P mv T nm s2 N) (hb : zSB (gF T).length s2) : zLn N := by
  obtain ⟨hn, hW, hs⟩ := h
  exact ⟨P, mv, T, nm, s2, d, by rw [hg.1.2.2.1]; exact hn, hW.same hg.1.1 hg.1.2.1 (fun q j _ => by rw [hg.1.2.2.1]), hr, zKXn.lo hg.1 hW.2.1 hs, hb⟩
theorem zLn.tr {b : Nat → Int} {n st : Nat} {k : Int} (h1 : (zTrB b n st ∧ zLt P mv T nm s d M) ∨ ∃ P mv T nm, zTrN b n st P mv T nm ∧ ∃ d, zf M 0 2 = some (d + 0) ∧ zKW d M ∧ zKXn P mv T nm zS00 d M) (hg : zGo M N k) (h2 : (zTrB b n st ∧ zRXn P mv T nm s N) ∨ ∃ P mv T nm, zTrN b n st P mv T nm ∧ zRXn P mv T nm zS00 N) : zLn N := by
  rcases h1 with ⟨a1, a2⟩ | ⟨P1, mv1, T1, nm1, a1, d1, a2, a3, a4⟩
  · rcases h2 with ⟨b1, b2⟩ | ⟨P', mv', T', nm', b1, b2⟩
    · exact zLn.st ⟨a2.1, a2.2.1, a2.2.2.2.1⟩ hg b2 a2.2.2.2.2
    · exact absurd a1 (zTrG_b b1.p.g)
  · rcases h2 with ⟨b1, b2⟩ | ⟨P', mv', T', nm', b1, b2⟩
    · exact absurd b1 (zTrG_b a1.p.g)
    · obtain ⟨rfl, rfl, rfl, rfl⟩ := zTrN_u a1 b1
      exact zLn.st ⟨a2, a3, a4⟩ hg b2 zSB_0
end ZLN
section ZAC
variable {P : Nat} {mv : List Nat} {T : zGT} {nm : List (Int × (Nat → Int))} {s s1 s2 : zSg} {a b c v w : Int} {by_ : Nat → Int} {n : Nat}
def zAuses (T : zGT) (nm : List (Int × (Nat → Int))) (s : zSg) (a : Int) (s2 : zSg) (v : Int) : Prop := ((0 ≤ a ∧ a < (nm.length : Int)) ∧ s2 = zpush s (zvun nm a.toNat) ∧ v = ((znzc (zvun nm a.toNat) (gF T).length : Nat) : Int)) ∨ (¬ (0 ≤ a ∧ a < (nm.length : Int)) ∧ s2 = s ∧ v = (-1 : Int))
theorem zAuses_u (h : zAuses T nm s a s1 v) (h' : zAuses T nm s a s2 w) : s1 = s2 ∧ v = w := by
  rcases h with ⟨a1, a2, a3⟩ | ⟨a1, a2, a3⟩ <;> rcases h' with ⟨b1, b2, b3⟩ | ⟨b1, b2, b3⟩
  · exact ⟨a2.trans b2.symm, a3.trans b3.symm⟩
  · exact absurd a1 b1
  · exact absurd b1 a1
  · exact ⟨a2.trans b2.symm, a3.trans b3.symm⟩
def zAgrows (T : zGT) (s : zSg) (a b c : Int) (s2 : zSg) (v : Int) : Prop := ((((-9 ≤ a ∧ a ≤ 9) ∧ (-999 ≤ b ∧ b ≤ 999) ∧ 0 ≤ c ∧ c < ((gF T).length : Int)) ∧ zfit (gF T).length (gmkI T) (zgrw s.1 a b c)) ∧ s2 = zpush s (zgrw s.1 a b c) ∧ v = (zgrw s.1 a b c) c.toNat) ∨ (¬ (((-9 ≤ a ∧ a ≤ 9) ∧ (-999 ≤ b ∧ b ≤ 999) ∧ 0 ≤ c ∧ c < ((gF T).length : Int)) ∧ zfit (gF T).length (gmkI T) (zgrw s.1 a b c)) ∧ s2 = s ∧ v = (-9223372036854775808 : Int))
theorem zAgrows_u (h : zAgrows T s a b c s1 v) (h' : zAgrows T s a b c s2 w) : s1 = s2 ∧ v = w := by
  rcases h with ⟨a1, a2, a3⟩ | ⟨a1, a2, a3⟩ <;> rcases h' with ⟨b1, b2, b3⟩ | ⟨b1, b2, b3⟩
  · exact ⟨a2.trans b2.symm, a3.trans b3.symm⟩
  · exact absurd a1 b1
  · exact absurd b1 a1
  · exact ⟨a2.trans b2.symm, a3.trans b3.symm⟩
theorem zAgrows_b (hb : zSB (gF T).length s) (h : zAgrows T s a b c s2 v) : zSB (gF T).length s2 := by
  rcases h with ⟨a1, a2, a3⟩ | ⟨a1, a2, a3⟩
  · rw [a2]
    exact hb.push a1.2.lm
  · rw [a2]
    exact hb
def zAundo (s : zSg) (s2 : zSg) (v : Int) : Prop := (1 ≤ s.2.1 ∧ s2 = zpop s ∧ v = ((s.2.1 - 1 : Nat) : Int)) ∨ (s.2.1 = 0 ∧ s2 = s ∧ v = (-1 : Int))
theorem zAundo_u (h : zAundo s s1 v) (h' : zAundo s s2 w) : s1 = s2 ∧ v = w := by
  rcases h with ⟨a1, a2, a3⟩ | ⟨a1, a2, a3⟩ <;> rcases h' with ⟨b1, b2, b3⟩ | ⟨b1, b2, b3⟩
  · exact ⟨a2.trans b2.symm, a3.trans b3.symm⟩
  · omega
  · omega
  · exact ⟨a2.trans b2.symm, a3.trans b3.symm⟩
theorem zAundo_b {F : Nat} (hb : zSB F s) (h : zAundo s s2 v) : zSB F s2 := by
  rcases h with ⟨a1, a2, a3⟩ | ⟨a1, a2, a3⟩
  · rw [a2]
    exact hb.pop a1
  · rw [a2]
    exact hb
def zAtake (P : Nat) (mv : List Nat) (T : zGT) (s : zSg) (a b : Int) (s2 : zSg) : Prop := ((a = 0 ∨ ((a = 1 ∨ a = 2) ∧ 0 ≤ b ∧ b ≤ 6)) ∧ ∃ c_ : Nat → Nat, gTb mv c_ T ∧ s2 = zpush s (zcln (gF T).length (zsq (gF T).length (gmkI T) (fun j_ => tkv (zrr P T c_ (gFn T j_)) a b)))) ∨ (¬ (a = 0 ∨ ((a = 1 ∨ a = 2) ∧ 0 ≤ b ∧ b ≤ 6)) ∧ s2 = s)
theorem zAtake_u (h : zAtake P mv T s a b s1) (h' : zAtake P mv T s a b s2) : s1 = s2 := by
  rcases h with ⟨a1, c1, q1, q2⟩ | ⟨a1, a2⟩ <;> rcases h' with ⟨b1, c2, r1, r2⟩ | ⟨b1, b2⟩
  · rw [q2, r2]
    congr 1
    refine zcln_c (zsq_cc fun j hj => ?_)
    rw [zrr_c (fun i hi => gTb_c q1 r1 i hi)]
  · exact absurd a1 b1
  · exact absurd b1 a1
  · exact a2.trans b2.symm
theorem zAtake_b (hT : T ∈ gTabs) (hp : ∀ g ∈ mv, gpm g) (hx : ∀ g ∈ mv, gfix P g) (hP : P ≤ 6) (hb : zSB (gF T).length s) (h : zAtake P mv T s a b s2) : zSB (gF T).length s2 := by
  have hO := gTabs_ok T hT
  rcases h with ⟨a1, c1, q1, q2⟩ | ⟨a1, a2⟩
  · rw [q2]
    refine hb.push (zlm_c (zsq_lm (gT_zTA hT) (m := fun j_ => tkv (zrr P T c1 (gFn T j_)) a b) fun j hj => ?_) (fun k hk => zcln_e hk))
    have hpt := zPt_g q1 hp hP (gTb_lt q1 hp hx hP) (hO.2.2.1.2.1 _ (gFn_m (T := T) hj)).1
    have h2 := tkv_b hP hpt a1
    show -1000000 ≤ tkv (zrr P T c1 (gFn T j)) a b ∧ tkv (zrr P T c1 (gFn T j)) a b ≤ 1000000
    omega
  · rw [a2]
    exact hb
def zAmarks (by_ : Nat → Int) (n : Nat) (T : zGT) (s s2 : zSg) (v : Int) : Prop := (v = -2 ∧ (¬ ∃ f_ : Nat → Int, zRown by_ n (gF T).length f_) ∧ s2 = s) ∨ ∃ f_ : Nat → Int, zRown by_ n (gF T).length f_ ∧ (∀ j : Nat, j < (gF T).length → -1000000 ≤ f_ j ∧ f_ j ≤ 1000000) ∧ zMkO T f_ v ∧ ((v = 0 ∧ s2 = zpush s (zcln (gF T).length (zsq (gF T).length (gmkI T) f_))) ∨ (v ≠ 0 ∧ s2 = s))
theorem zAmarks_u (hT : T ∈ gTabs) (h : zAmarks by_ n T s s1 v) (h' : zAmarks by_ n T s s2 w) : s1 = s2 ∧ v = w := by
  rcases h with ⟨a1, a2, a3⟩ | ⟨f, a1, a2, a3, a4⟩ <;> rcases h' with ⟨b1, b2, b3⟩ | ⟨g, b1, b2, b3, b4⟩
  · exact ⟨a3.trans b3.symm, a1.trans b1.symm⟩
  · exact absurd ⟨_, b1⟩ a2
  · exact absurd ⟨_, a1⟩ b2
  · have e := zRown_u a1 b1
    have ev := zMkO_u (zMkO_c hT e a3) b3
    refine ⟨?_, ev⟩
    rcases a4 with ⟨q1, q2⟩ | ⟨q1, q2⟩ <;> rcases b4 with ⟨r1, r2⟩ | ⟨r1, r2⟩
    · rw [q2, r2, zcln_c (zsq_cc e)]
    · exact absurd (ev.symm.trans q1) r1
    · exact absurd (ev.trans r1) q1
    · exact q2.trans r2.symm
theorem zAmarks_b (hT : T ∈ gTabs) (hb : zSB (gF T).length s) (h : zAmarks by_ n T s s2 v) : zSB (gF T).length s2 := by
  rcases h with ⟨a1, a2, a3⟩ | ⟨f, a1, a2, a3, ⟨q1, q2⟩ | ⟨q1, q2⟩⟩
  · rw [a3]
    exact hb
  · rw [q2]
    exact hb.push (zlm_c (zsq_lm (gT_zTA hT) a2) (fun k hk => zcln_e hk))
  · rw [q2]
    exact hb
def zAmakes (by_ : Nat → Int) (n : Nat) (T : zGT) (nm : List (Int × (Nat → Int))) (s s2 : zSg) (v : Int) : Prop := ((¬ ∃ w_ : Nat → Int, zMkR by_ n (gF T).length (gmkI T) nm w_) ∧ v = -1 ∧ s2 = s) ∨ ∃ w_ : Nat → Int, zMkR by_ n (gF T).length (gmkI T) nm w_ ∧ zfit (gF T).length (gmkI T) w_ ∧ v = ((znzc w_ (gF T).length : Nat) : Int) ∧ s2 = zpush s w_
theorem zAmakes_u (h : zAmakes by_ n T nm s s1 v) (h' : zAmakes by_ n T nm s s2 w) : s1 = s2 ∧ v = w := by
  rcases h with ⟨a1, a2, a3⟩ | ⟨f, a1, a2, a3, a4⟩ <;> rcases h' with ⟨b1, b2, b3⟩ | ⟨g, b1, b2, b3, b4⟩
  · exact ⟨a3.trans b3.symm, a2.trans b2.symm⟩
  · exact absurd ⟨_, b1⟩ a1
  · exact absurd ⟨_, a1⟩ b1
  · obtain rfl := zMkR_u a1 b1
    exact ⟨a4.trans b4.symm, a3.trans b3.symm⟩
theorem zAmakes_b (hb : zSB (gF T).length s) (h : zAmakes by_ n T nm s s2 v) : zSB (gF T).length s2 := by
  rcases h with ⟨a1, a2, a3⟩ | ⟨f, a1, a2, a3, a4⟩
  · rw [a3]
    exact hb
  · rw [a4]
    exact hb.push a2.lm
theorem zvun_f {F : Nat} {K : Nat → Nat → Int} {M : zMem} (h : zRNi nm F K M) {k : Nat} (hk : k < nm.length) : zlm F (zvun nm k) := (h.at hk).2.lm
theorem zAuses_b {M : zMem} (h2 : zRNi nm (gF T).length (gmkI T) M) (hb : zSB (gF T).length s) (h : zAuses T nm s a s2 v) : zSB (gF T).length s2 := by
  rcases h with ⟨a1, a2, a3⟩ | ⟨a1, a2, a3⟩
  · rw [a2]
    exact hb.push (zvun_f h2 (by omega))
  · rw [a2]
    exact hb
end ZAC
