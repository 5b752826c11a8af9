def zKx (M : zMem) : Prop := zKW 5 M ∧ zKW 43 M ∧ ∃ d d2 : Nat, ((d = 5 ∧ d2 = 43) ∨ (d = 43 ∧ d2 = 5)) ∧ zf M 0 2 = some (d + 0) ∧ zf M 0 3 = some (d2 + 0)
def zTp (M : zMem) : Prop := ze M 1 1 = ze M 81 1 ∧ (∀ k : Nat, (k : Int) < ze M 81 1 → ze M 3 k = ze M 82 k) ∧ zBt (fun k => ze M 82 k) (ze M 81 1)
def zLw (M : zMem) : Prop := zn M = 114 ∧ zw M = 84410 ∧ zTy 81 M ∧ (zsh M 0).1 = 3 ∧ (zsh M 1).1 = 4 ∧ zf M 0 0 = some 1 ∧ zMt M ∧ zWd M ∧ zKx M
def zLb (M : zMem) : Prop := zLw M ∧ zTp M
section ZLW
variable {M N : zMem} {d d2 : Nat} {FA : List (Nat × Nat)} {CA : List Nat} {FR : List (Nat × Nat)} {CR : List Nat}
theorem zKW.same (h : zKW d M) (h1 : N.1 = M.1) (h2 : zsh N = zsh M) (h3 : ∀ q j, ¬ (q = 0 ∧ (j = 2 ∨ j = 3)) → zf N q j = zf M q j) : zKW d N := by
  obtain ⟨a1, a2, ⟨a3, a4, a5⟩, a6, a7, a8⟩ := h
  refine ⟨by unfold zn at a1 ⊢; rw [h1]; exact a1, a2, ⟨fun e he => ?_, fun e he => by rw [h2]; exact a4 e he, fun e he => by rw [h2]; exact a5 e he⟩, fun e he => ?_, fun e he => by rw [h2]; exact a7 e he, fun e he => by rw [h2]; exact a8 e he⟩
  · have hne : ∀ e ∈ zKt0, ¬ (0 + e.1 = 0 ∧ (e.2.1 = 2 ∨ e.2.1 = 3)) := by decide
    rw [h3 _ _ (hne e he)]
    exact a3 e he
  · rw [h3 _ _ (fun z => by omega)]
    exact a6 e he
theorem zKx.same (h : zKx M) (h1 : N.1 = M.1) (h2 : zsh N = zsh M) (h3 : zf N = zf M) : zKx N := by
  obtain ⟨a, b, e, e2, he, g1, g2⟩ := h
  exact ⟨a.same h1 h2 (fun q j _ => by rw [h3]), b.same h1 h2 (fun q j _ => by rw [h3]), e, e2, he, by rw [h3]; exact g1, by rw [h3]; exact g2⟩
theorem zLw.out (h : zLw M) (h1 : N.1 = M.1) (h2 : zsh N = zsh M) (h3 : ∀ r, 81 ≤ r → zi N r = zi M r ∧ zj N r = zj M r ∧ zf N r = zf M r) (hT : zTy 81 N) (hf : zf N 0 0 = some 1) (hk : zKx N) : zLw N := by
  obtain ⟨g1, g2, -, g4, g5, -, g7, g8, -⟩ := h
  have hfr : zFr [] (List.range 81) M (N.1, N.2.1, N.2.2.1, N.2.2.2.1, M.2.2.2.2) := by
    refine ⟨h1, h2, rfl, fun q hq hc => ?_, fun j _ => ?_⟩
    · have h81 : 81 ≤ q := by
        rcases Nat.lt_or_ge q 81 with g | g
        · exact absurd (List.mem_range.mpr g) hc
        · exact g
      exact ⟨(h3 q h81).1, (h3 q h81).2.1⟩
    · exact ⟨congrFun (h3 81 (by omega)).1 j, congrFun (h3 81 (by omega)).2.1 j⟩
  have hw : zWd (N.1, N.2.1, N.2.2.1, N.2.2.2.1, M.2.2.2.2) := zWd.b g8 hfr (by decide) (by decide) (by rw [hfr.e (by decide)]; exact g8.1) (by rw [hfr.e (by decide)]; exact g8.2.2.2.1) (by rw [hfr.e (by decide)]; exact g8.2.2.2.2.1) (zB.fr hfr g8.2.2.2.2.2.2.2.1 (by decide) (by decide))
  have hm : zMt N := by
    obtain ⟨m1, m2, m3⟩ := g7
    refine ⟨by unfold zn at m1 ⊢; rw [h1]; exact m1, by rw [h2]; exact m2, fun x hx => ?_⟩
    rw [h2, (h3 81 (by omega)).2.2]
    exact m3 x hx
  exact ⟨by unfold zn at g1 ⊢; rw [h1]; exact g1, by unfold zw at g2 ⊢; rw [h1]; exact g2, hT, by rw [h2]; exact g4, by rw [h2]; exact g5, hf, hm, hw, hk⟩
theorem zTy_q {B : Nat} (h : zTy B M) (h2 : zsh N = zsh M) (h3 : zf N = zf M) : zTy B N := by
  unfold zTy
  rw [h2, h3]
  exact h
theorem zLw.mod {S : List (Nat × Nat)} (h : zLw M) (hm : zMod 81 S M N) : zLw N := by
  obtain ⟨m1, m2, m3, m4, m5⟩ := id hm
  exact h.out m1 m2 (fun r hr => ⟨(m4 r hr).1, (m4 r hr).2, by rw [m3]⟩) (zTy_q h.2.2.1 m2 m3) (by rw [m3]; exact h.2.2.2.2.2.1) (h.2.2.2.2.2.2.2.2.same m1 m2 m3)
theorem zLw.k (h : zLw M) : ∃ d d2 : Nat, zKW d M ∧ zKW d2 M ∧ ((d = 5 ∧ d2 = 43) ∨ (d = 43 ∧ d2 = 5)) ∧ zf M 0 2 = some (d + 0) ∧ zf M 0 3 = some (d2 + 0) := by
  obtain ⟨a, b, e, e2, he, g1, g2⟩ := h.2.2.2.2.2.2.2.2
  refine ⟨e, e2, ?_, ?_, he, g1, g2⟩
  · rcases he with ⟨rfl, rfl⟩ | ⟨rfl, rfl⟩
    · exact a
    · exact b
  · rcases he with ⟨rfl, rfl⟩ | ⟨rfl, rfl⟩
    · exact b
    · exact a
theorem zFc.hi (hf : zFc d FA CA FR CR M N) (hW : zKW d M) (hc : (∀ x ∈ FA, x.1 < 81) ∧ ∀ x ∈ CA, x < 81) {q : Nat} (hq : 81 ≤ q) : zi N q = zi M q ∧ zj N q = zj M q :=
  hf.o (Or.inr (by have := hW.2.1; omega)) ⟨fun z => by have := hc.2 q z; omega, fun x hx e => by have := hc.1 x hx; omega⟩
theorem zLw.c (h : zLw M) (hf : zFc d FA CA FR CR M N) (hW : zKW d M) (hc : (∀ x ∈ FA, x.1 < 81) ∧ ∀ x ∈ CA, x < 81) : zLw N :=
  h.out hf.1 hf.2.1 (fun r hr => ⟨(hf.hi hW hc hr).1, (hf.hi hW hc hr).2, by rw [hf.2.2.1]⟩) (zTy_q h.2.2.1 hf.2.1 hf.2.2.1) (by rw [hf.2.2.1]; exact h.2.2.2.2.2.1) (h.2.2.2.2.2.2.2.2.same hf.1 hf.2.1 hf.2.2.1)
theorem ze_hi (h : ∀ q, 81 ≤ q → zi N q = zi M q ∧ zj N q = zj M q) {q : Nat} (hq : 81 ≤ q) (j : Nat) : ze N q j = ze M q j := by
  unfold ze
  rw [(h q hq).1]
theorem zLb.x (h : zLb M) (hf : zFc d FA CA FR CR M N) (hW : zKW d M) (hA : (1 ∉ CA ∧ (1, 1) ∉ FA) ∧ 3 ∉ CA ∧ ∀ x ∈ FA, x.1 ≠ 3) (hc : (∀ x ∈ FA, x.1 < 81) ∧ ∀ x ∈ CA, x < 81) : zLb N := by
  obtain ⟨hw, t1, t2, t3⟩ := h
  have e81 : ∀ j, ze N 81 j = ze M 81 j := fun j => ze_hi (fun q hq => hf.hi hW hc hq) (by omega) j
  have e82 : ∀ j, ze N 82 j = ze M 82 j := fun j => ze_hi (fun q hq => hf.hi hW hc hq) (by omega) j
  have e82f : (fun k : Nat => ze N 82 k) = fun k : Nat => ze M 82 k := funext fun k => e82 k
  refine ⟨hw.c hf hW hc, ?_, fun k hk => ?_, ?_⟩
  · rw [hf.ea hW ⟨by omega, hA.1⟩, e81]
    exact t1
  · rw [e81] at hk
    rw [hf.ra hW ⟨by omega, hA.2⟩ k, e82]
    exact t2 k hk
  · rw [e81, e82f]
    exact t3
theorem zLw.ref {k : Int} (h : zLw M) (hg : zGo M N k) : zLw N := by
  obtain ⟨h1, h2, h3, h4, h5, h6, h7, h8, h9⟩ := h
  obtain ⟨⟨o1, o2, o3, o4⟩, g2, g3, g4⟩ := hg
  exact ⟨by unfold zn at h1 ⊢; rw [o1]; exact h1, by unfold zw at h2 ⊢; rw [o1]; exact h2, zTy_q h3 o2 o3, by rw [o2]; exact h4, by rw [o2]; exact h5, by rw [o3]; exact h6, g2, g3, h9.same o1 o2 o3⟩
theorem zGo.lo {k : Int} (hg : zGo M N k) {q : Nat} (hq : q < 81) (j : Nat) : ze N q j = ze M q j := by
  unfold ze
  rw [(hg.1.2.2.2 q hq).1]
theorem zLb.ref (h : zLb M) (hg : zGo M N (ze M 81 1)) (h82 : ∀ j : Nat, ze N 82 j = ze M 82 j) : zLb N := by
  obtain ⟨hw, t1, t2, t3⟩ := h
  have e82f : (fun k : Nat => ze N 82 k) = fun k : Nat => ze M 82 k := funext fun k => h82 k
  have e1 := hg.2.2.2
  refine ⟨hw.ref hg, ?_, fun k hk => ?_, ?_⟩
  · rw [hg.lo (by omega), e1]
    exact t1
  · rw [e1] at hk
    rw [hg.lo (by omega), h82]
    exact t2 k hk
  · rw [e1, e82f]
    exact t3
theorem zLb.z (h : zLw N) (h1 : ze N 1 1 = 0) (h2 : ze N 81 1 = 0) : zLb N :=
  ⟨h, by rw [h1, h2], fun k hk => absurd hk (by omega), fun k hk => absurd hk (by omega)⟩
theorem zLw.t (h : zLw M) : 0 ≤ ze M 81 1 ∧ ze M 81 1 ≤ 700 := h.2.2.2.2.2.2.2.1.1
theorem zLb.y (h : zLb M) : zYb (fun k => ze M 82 k) (ze M 81 1).toNat M := by
  obtain ⟨hw, t1, t2, t3⟩ := h
  have ht := hw.t
  exact ⟨by omega, by omega, fun k hk => t3 k (by omega), fun k hk => t2 k (by omega)⟩
theorem zLb.r (h : zLb M) (h3 : ∀ q, 81 ≤ q → zi N q = zi M q ∧ zj N q = zj M q) : zRp (fun k => ze M 82 k) (ze M 81 1).toNat N := by
  obtain ⟨hw, t1, t2, t3⟩ := h
  have ht := hw.t
  refine ⟨by rw [ze_hi h3 (by omega)]; omega, by omega, fun k hk => t3 k (by omega), fun k hk => ze_hi h3 (by omega) k⟩
theorem zTy_sw (h : zTy 81 M) (hW : zKW d M) (hW2 : zKW d2 M) (hd : (d = 5 ∧ d2 = 43) ∨ (d = 43 ∧ d2 = 5)) (h2 : zsh N = zsh M) (h3 : zf N 0 2 = some (d2 + 0) ∧ zf N 0 3 = some (d + 0) ∧ ∀ q j, ¬ (q = 0 ∧ (j = 2 ∨ j = 3)) → zf N q j = zf M q j) (h0 : (zsh M 0).1 = 3) : zTy 81 N := by
  have k1 : (zsh M (d + 0)).1 = 7 := hW.kr (o := 0) (by decide)
  have k2 : (zsh M (d2 + 0)).1 = 7 := hW2.kr (o := 0) (by decide)
  have e2 : zH 0 2 = 7 := by decide
  have e3 : zH 0 3 = 7 := by decide
  refine ⟨fun q ci j hq hk hc hj hg => ?_, fun q hq => by rw [h2]; exact h.2 q hq⟩
  rw [h2] at hk ⊢
  by_cases g : q = 0 ∧ (j = 2 ∨ j = 3)
  · obtain ⟨rfl, g⟩ := g
    have hci : ci = 0 := by omega
    subst hci
    rcases g with rfl | rfl
    · exact ⟨d2 + 0, h3.1, by omega, by rw [k2, e2]⟩
    · exact ⟨d + 0, h3.2.1, by omega, by rw [k1, e3]⟩
  · rw [h3.2.2 q j g]
    exact h.1 q ci j hq hk hc hj hg
theorem zLw.sw (h : zLw M) (hW : zKW d M) (hW2 : zKW d2 M) (hd : (d = 5 ∧ d2 = 43) ∨ (d = 43 ∧ d2 = 5)) (hn : zf M 0 2 = some (d + 0)) (hs : zf M 0 3 = some (d2 + 0)) (hq : zSwp d2 d M N) : zLw N := by
  obtain ⟨s1, s2, s3, s4⟩ := hq
  rcases s4 with s4 | ⟨f1, f2, f3⟩
  · exact h.out s1 s2 s3 (zTy_q h.2.2.1 s2 s4) (by rw [s4]; exact h.2.2.2.2.2.1) (h.2.2.2.2.2.2.2.2.same s1 s2 s4)
  · refine h.out s1 s2 s3 (zTy_sw h.2.2.1 hW hW2 hd s2 ⟨f1, f2, f3⟩ h.2.2.2.1) (by rw [f3 0 0 (fun z => by omega)]; exact h.2.2.2.2.2.1) ?_
    have q1 := hW.same s1 s2 f3
    have q2 := hW2.same s1 s2 f3
    rcases hd with ⟨rfl, rfl⟩ | ⟨rfl, rfl⟩
    · exact ⟨q1, q2, 43, 5, Or.inr ⟨rfl, rfl⟩, f1, f2⟩
    · exact ⟨q2, q1, 5, 43, Or.inl ⟨rfl, rfl⟩, f1, f2⟩
end ZLW
