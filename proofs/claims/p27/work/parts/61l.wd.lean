section ZLS
variable {M N : zMem} {d d2 : Nat} {P : Nat} {mv : List Nat} {T : zGT} {FA : List (Nat × Nat)} {CA : List Nat} {FR : List (Nat × Nat)} {CR : List Nat}
def zLm (M : zMem) : Prop := ∃ P mv T d, zf M 0 2 = some (d + 0) ∧ zKW d M ∧ zRS P mv T M ∧ zKS P mv T d M
def zLq (M : zMem) : Prop := zLb M ∧ zLm M
theorem zKS.e (he : ∀ o, o < 38 → ∀ j, ze N (d + o) j = ze M (d + o) j) (h : zKS P mv T d M) : zKS P mv T d N := by
  have e1 := he 1 (by decide)
  have e3 := he 3 (by decide)
  have e5 := he 5 (by decide)
  have e7 := he 7 (by decide)
  have e9 := he 9 (by decide)
  have e12 := he 12 (by decide)
  have e20 := he 20 (by decide)
  have e22 := he 22 (by decide)
  obtain ⟨a1, a2, a3, a4, a5, a6⟩ := h
  refine ⟨?_, ?_, ?_, ?_, ?_, a6.ee (e12 6) (he 14 (by decide)) (he 16 (by decide))⟩
  · unfold zMvK at a1 ⊢
    simp only [e1, e3]
    exact a1
  · unfold zGc zCo at a2 ⊢
    simp only [e1, e5]
    exact a2
  · unfold zTt at a3 ⊢
    simp only [e1, e7, e9]
    exact a3
  · unfold zFir at a4 ⊢
    simp only [e12, e20]
    exact a4
  · unfold zKm at a5 ⊢
    simp only [e12, e22]
    exact a5
theorem zRS.hi (h3 : ∀ q, 81 ≤ q → zi N q = zi M q ∧ zj N q = zj M q) (h1 : N.1 = M.1) (h2 : zsh N = zsh M) (h : zRS P mv T M) : zRS P mv T N := by
  have hfr : zFr [] (List.range 81) M (N.1, N.2.1, N.2.2.1, N.2.2.2.1, M.2.2.2.2) := by
    refine ⟨h1, h2, rfl, fun q hq hc => ?_, fun j _ => ?_⟩
    · have h81 : 81 ≤ q := by
        rcases Nat.lt_or_ge q 81 with g | g
        · exact absurd (List.mem_range.mpr g) hc
        · exact g
      exact ⟨(h3 q h81).1, (h3 q h81).2⟩
    · exact ⟨congrFun (h3 81 (by omega)).1 j, congrFun (h3 81 (by omega)).2 j⟩
  have h2 : zRS P mv T (N.1, N.2.1, N.2.2.1, N.2.2.2.1, M.2.2.2.2) := zRS.fr hfr h (by decide) (by decide)
  exact h2
theorem zKS.lo (h : zOl M N) (hd : d = 5 ∨ d = 43) (hk : zKS P mv T d M) : zKS P mv T d N := hk.e (fun o ho j => by
  unfold ze
  rw [(h.2.2.2 (d + o) (by omega)).1])
theorem zKS.fr (hW : zKW d M) (hf : zFc d FA CA FR CR M N) (h : zKS P mv T d M) (hc : ((1 ∉ CR ∧ (1, 5) ∉ FR) ∧ (1, 6) ∉ FR ∧ (1, 7) ∉ FR) ∧ (12 ∉ CR ∧ (12, 6) ∉ FR ∧ (12, 7) ∉ FR) ∧ ∀ o ∈ [3, 5, 7, 9, 14, 16, 20, 22], o ∉ CR ∧ ∀ x ∈ FR, x.1 ≠ o) : zKS P mv T d N := by
  obtain ⟨⟨⟨c1, c2⟩, c3, c4⟩, ⟨c5, c66, c6⟩, c7⟩ := hc
  have k3 := c7 3 (by decide)
  have k5 := c7 5 (by decide)
  have k7 := c7 7 (by decide)
  have k9 := c7 9 (by decide)
  have k20 := c7 20 (by decide)
  have k22 := c7 22 (by decide)
  obtain ⟨a1, a2, a3, a4, a5, a6⟩ := h
  exact ⟨zMvK.fr hW hf a1 ⟨⟨by decide, c1, c2⟩, ⟨by decide, c1, c3⟩, by decide, k3⟩, zGc.fr hW hf a2 ⟨⟨by decide, c1, c4⟩, by decide, k5⟩, zTt.fr hW hf a3 ⟨⟨by decide, c1, c4⟩, ⟨by decide, k7⟩, by decide, k9⟩, zFir.fr hW hf a4 ⟨⟨by decide, c5, c6⟩, by decide, k20⟩, zKm.fr hW hf a5 ⟨⟨by decide, c5, c6⟩, by decide, k22⟩, zSbK.fr hW hf a6 ⟨⟨c5, c66⟩, c7 14 (by decide), c7 16 (by decide)⟩⟩
theorem zLm.x (h : zLm M) (hf : zFc d FA CA FR CR M N) (hW : zKW d M) (hn : zf M 0 2 = some (d + 0)) (hc : (∀ x ∈ FA, x.1 < 81) ∧ ∀ x ∈ CA, x < 81) (hk : ((1 ∉ CR ∧ (1, 5) ∉ FR) ∧ (1, 6) ∉ FR ∧ (1, 7) ∉ FR) ∧ (12 ∉ CR ∧ (12, 6) ∉ FR ∧ (12, 7) ∉ FR) ∧ ∀ o ∈ [3, 5, 7, 9, 14, 16, 20, 22], o ∉ CR ∧ ∀ x ∈ FR, x.1 ≠ o) : zLm N := by
  obtain ⟨P, mv, T, d', hn', hW', hr, hs⟩ := h
  have e : d' = d := by
    rw [hn] at hn'
    have := Option.some.inj hn'
    omega
  subst e
  exact ⟨P, mv, T, d', by rw [hf.2.2.1]; exact hn, hf.w hW, hr.hi (fun q hq => hf.hi hW hc hq) hf.1 hf.2.1, hs.fr hW hf hk⟩
theorem zLm.ref {k : Int} (h : zLm M) (hg : zGo M N k) (hr : ∀ P mv T, zRS P mv T M → zRS P mv T N) : zLm N := by
  obtain ⟨P, mv, T, d, hn, hW, h1, hs⟩ := h
  exact ⟨P, mv, T, d, by rw [hg.1.2.2.1]; exact hn, hW.same hg.1.1 hg.1.2.1 (fun q j _ => by rw [hg.1.2.2.1]), hr P mv T h1, hs.lo hg.1 hW.2.1⟩
theorem zLm.tr {b : Nat → Int} {n s : Nat} {k : Int} (h1 : (zTrB b n s ∧ zLm M) ∨ ∃ P mv T, zTrP b n s P mv T ∧ ∃ d, zf M 0 2 = some (d + 0) ∧ zKW d M ∧ zKS P mv T d M) (hg : zGo M N k) (h2 : (zTrB b n s ∧ ∀ P mv T, zRS P mv T M → zRS P mv T N) ∨ ∃ P mv T, zTrP b n s P mv T ∧ zRS P mv T N) : zLm N := by
  rcases h1 with ⟨a1, a2⟩ | ⟨P, mv, T, a1, d, a2, a3, a4⟩
  · rcases h2 with ⟨b1, b2⟩ | ⟨P', mv', T', b1, b2⟩
    · exact a2.ref hg b2
    · exact absurd a1 (zTrG_b b1.g)
  · rcases h2 with ⟨b1, b2⟩ | ⟨P', mv', T', b1, b2⟩
    · exact absurd b1 (zTrG_b a1.g)
    · obtain ⟨rfl, rfl, rfl⟩ := zTrP_u a1 b1
      exact ⟨P, mv, T, d, by rw [hg.1.2.2.1]; exact a2, a3.same hg.1.1 hg.1.2.1 (fun q j _ => by rw [hg.1.2.2.1]), b2, a4.lo hg.1 a3.2.1⟩
end ZLS
