section ZLS
variable {M N : zMem} {d d2 : Nat} {P : Nat} {mv : List Nat} {T : zGT} {FA : List (Nat × Nat)} {CA : List Nat} {FR : List (Nat × Nat)} {CR : List Nat}
def zLm (M : zMem) : Prop := ∃ P mv T d, zf M 0 2 = some (d + 0) ∧ zKW d M ∧ zRS P mv T M ∧ zKS P mv T d M
def zLq (M : zMem) : Prop := zLb M ∧ zLm M
theorem zKS.e (he : ∀ o, o < 38 → ∀ j, ze N (d + o) j = ze M (d + o) j) (h : zKS P mv T d M) : zKS P mv T d N := by
  have e1 := he 1 (by decide)
  have e3 := he 3 (by decide)
  have e5 := he 5 (by decide)
  have e7 := he 7 (by decide)
  have e9 := he 9 (by decide)
  have e12 := he 12 (by decide)
  have e20 := he 20 (by decide)
  have e22 := he 22 (by decide)
  obtain ⟨a1, a2, a3, a4, a5, a6⟩ := h
  refine ⟨?_, ?_, ?_, ?_, ?_, a6.ee (e12 6) (he 14 (by decide)) (he 16 (by decide))⟩
  · unfold zMvK at a1 ⊢
    simp only [e1, e3]
    exact a1
  · unfold zGc zCo at a2 ⊢
    simp only [e1, e5]
    exact a2
  · unfold zTt at a3 ⊢
    simp only [e1, e7, e9]
    exact a3
  · unfold zFir at a4 ⊢
    simp only [e12, e20]
    exact a4
  · unfold zKm at a5 ⊢
    simp only [e12, e22]
    exact a5
theorem zRS.hi (h3 : ∀ q, 81 ≤ q → zi N q = zi M q ∧ zj N q = zj M q) (h1 : N.1 = M.1) (h2 : zsh N = zsh M) (h : zRS P mv T M) : zRS P mv T N := by
  have hfr : zFr [] (List.range 81) M (N.1, N.2.1, N.2.2.1, N.2.2.2.1, M.2.2.2.2) := by
    refine ⟨h1, h2, rfl, fun q hq hc => ?_, fun j _ => ?_⟩
    · have h81 : 81 ≤ q := by
        rcases Nat.lt_or_ge q 81 with g | g
        · exact absurd (List.mem_range.mpr g) hc
        · exact g
      exact ⟨(h3 q h81).1, (h3 q h81).2⟩
    · exact ⟨congrFun (h3 81 (by omega)).1 j, congrFun (h3 81 (by omega)).2 j⟩
  have h2 : zRS P mv T (N.1, N.2.1, N.2.2.1, N.2.2.2.1, M.2.2.2.2) := zRS.fr hfr h (by decide) (by decide)
  exact h2
theorem zKS.lo (h : zOl M N) (hd : d = 5 ∨ d = 43) (hk : zKS P mv T d M) : zKS P mv T d N := hk.e (fun o ho j => by
  unfold ze
  rw [(h.2.2.2 (d + o) (by omega)).1])
theorem zKS.fr (hW : zKW d M) (hf : zFc d FA CA FR CR M N) (h : zKS P mv T d M) (hc : ((1 ∉ CR ∧ (1, 5) ∉ FR) ∧ (1, 6) ∉ FR ∧ (1, 7) ∉ FR) ∧ (12 ∉ CR ∧ (12, 6) ∉ FR ∧ (12, 7) ∉ FR) ∧ ∀ o ∈ [3, 5, 7, 9, 14, 16, 20, 22], o ∉ CR ∧ ∀ x ∈ FR, x.1 ≠ o) : zKS P mv T d N := by
  obtain ⟨⟨⟨c1, c2⟩, c3, c4⟩, ⟨c5, c66, c6⟩, c7⟩ := hc
  have k3 := c7 3 (by decide)
  have k5 := c7 5 (by decide)
  have k7 := c7 7 (by decide)
  have k9 := c7 9 (by decide)
  have k20 := c7 20 (by decide)
  have k22 := c7 22 (by decide)
  obtain ⟨a1, a2, a3, a4, a5, a6⟩ := h
  exact ⟨zMvK.fr hW hf a1 ⟨⟨by decide, c1, c2⟩, ⟨by decide, c1, c3⟩, by decide, k3⟩, zGc.fr hW hf a2 ⟨⟨by decide, c1, c4⟩, by decide, k5⟩, zTt.fr hW hf a3 ⟨⟨by decide, c1, c4⟩, ⟨by decide, k7⟩, by decide, k9⟩, zFir.fr hW hf a4 ⟨⟨by decide, c5, c6⟩, by decide, k20⟩, zKm.fr hW hf a5 ⟨⟨by decide, c5, c6⟩, by decide, k22⟩, zSbK.fr hW hf a6 ⟨⟨c5, c66⟩, c7 14 (by decide), c7 16 (by decide)⟩⟩
theorem zLm.x (h : zLm M) (hf : zFc d FA CA FR CR M N) (hW : zKW d M) (hn : zf M 0 2 = some (d + 0)) (hc : (∀ x ∈ FA, x.1 < 81) ∧ ∀ x ∈ CA, x < 81) (hk : ((1 ∉ CR ∧ (1, 5) ∉ FR) ∧ (1, 6) ∉ FR ∧ (1, 7) ∉ FR) ∧ (12 ∉ CR ∧ (12, 6) ∉ FR ∧ (12, 7) ∉ FR) ∧ ∀ o ∈ [3, 5, 7, 9, 14, 16, 20, 22], o ∉ CR ∧ ∀ x ∈ FR, x.1 ≠ o) : zLm N := by
  obtain ⟨P, mv, T, d', hn', hW', hr, hs⟩ := h
  have e : d' = d := by
    rw [hn] at hn'
    have := Option.some.inj hn'
    omega
  subst e
  exact ⟨P, mv, T, d', by rw [hf.2.2.1]; exact hn, hf.w hW, hr.hi (fun q hq => hf.hi hW hc hq) hf.1 hf.2.1, hs.fr hW hf hk⟩
theorem zLm.ref {k : Int} (h : zLm M) (hg : zGo M N k) (hr : ∀ P mv T, zRS P mv T M → zRS P mv T N) : zLm N := by
  obtain ⟨P, mv, T, d, hn, hW, h1, hs⟩ := h
  exact ⟨P, mv, T, d, by rw [hg.1.2.2.1]; exact hn, hW.same hg.1.1 hg.1.2.1 (fun q j _ => by rw [hg.1.2.2.1]), hr P mv T h1, hs.lo hg.1 hW.2.1⟩
theorem zLm.tr {b : Nat → Int} {n s : Nat} {k : Int} (h1 : (zTrB b n s ∧ zLm M) ∨ ∃ P mv T, zTrP b n s P mv T ∧ ∃ d, zf M 0 2 = some (d + 0) ∧ zKW d M ∧ zKS P mv T d M) (hg : zGo M N k) (h2 : (zTrB b n s ∧ ∀ P mv T, zRS P mv T M → zRS P mv T N) ∨ ∃ P mv T, zTrP b n s P mv T ∧ zRS P mv T N) : zLm N := by
  rcases h1 with ⟨a1, a2⟩ | ⟨P, mv, T, a1, d, a2, a3, a4⟩
  · rcases h2 with ⟨b1, b2⟩ | ⟨P', mv', T', b1, b2⟩
    · exact a2.ref hg b2
    · exact absurd a1 (zTrG_b b1.g)
  · rcases h2 with ⟨b1, b2⟩ | ⟨P', mv', T', b1, b2⟩
    · exact absurd b1 (zTrG_b a1.g)
    · obtain ⟨rfl, rfl, rfl⟩ := zTrP_u a1 b1
      exact ⟨P, mv, T, d, by rw [hg.1.2.2.1]; exact a2, a3.same hg.1.1 hg.1.2.1 (fun q j _ => by rw [hg.1.2.2.1]), b2, a4.lo hg.1 a3.2.1⟩
end ZLS
abbrev zSg : Type := (Nat → Int) × Nat × (Nat → Nat → Int)
def zpush (s : zSg) (e : Nat → Int) : zSg := (e, if s.2.1 = 12 then 12 else s.2.1 + 1, fun m => if s.2.1 = 12 then (if m = 11 then s.1 else s.2.2 (m + 1)) else if m = s.2.1 then s.1 else s.2.2 m)
def zpop (s : zSg) : zSg := (s.2.2 (s.2.1 - 1), s.2.1 - 1, s.2.2)
def zgrw (e : Nat → Int) (n m i : Int) : Nat → Int := fun k => n * e k + if (k : Int) = i then m else 0
def zlm (F : Nat) (e : Nat → Int) : Prop := ∀ k, k < F → -zLim ≤ e k ∧ e k ≤ zLim
def zSB (F : Nat) (s : zSg) : Prop := zlm F s.1 ∧ s.2.1 ≤ 12 ∧ ∀ m, m < s.2.1 → zlm F (s.2.2 m)
theorem zSB.push {F : Nat} {s : zSg} {e : Nat → Int} (h : zSB F s) (he : zlm F e) : zSB F (zpush s e) := by
  obtain ⟨h1, h2, h3⟩ := h
  refine ⟨he, ?_, fun m hm => ?_⟩
  · show (if s.2.1 = 12 then 12 else s.2.1 + 1) ≤ 12
    by_cases g : s.2.1 = 12
    · rw [if_pos g]
      exact Nat.le_refl _
    · rw [if_neg g]
      omega
  · have hm2 : m < (if s.2.1 = 12 then 12 else s.2.1 + 1) := hm
    show zlm F (if s.2.1 = 12 then (if m = 11 then s.1 else s.2.2 (m + 1)) else if m = s.2.1 then s.1 else s.2.2 m)
    by_cases g : s.2.1 = 12
    · rw [if_pos g] at hm2
      rw [if_pos g]
      by_cases g2 : m = 11
      · rw [if_pos g2]
        exact h1
      · rw [if_neg g2]
        exact h3 _ (by omega)
    · rw [if_neg g] at hm2
      rw [if_neg g]
      by_cases g2 : m = s.2.1
      · rw [if_pos g2]
        exact h1
      · rw [if_neg g2]
        exact h3 _ (by (exact zo_2734 hm2 g2))
theorem zSB.pop {F : Nat} {s : zSg} (h : zSB F s) (hc : 1 ≤ s.2.1) : zSB F (zpop s) := by
  obtain ⟨h1, h2, h3⟩ := h
  refine ⟨h3 _ (by omega), ?_, fun m hm => ?_⟩
  · show s.2.1 - 1 ≤ 12
    omega
  · have hm2 : m < s.2.1 - 1 := hm
    exact h3 m (by omega)
theorem zSB_0 {F : Nat} {P : Nat → Nat → Int} : zSB F (fun _ => 0, 0, P) := ⟨fun _ _ => by
  show -zLim ≤ (0 : Int) ∧ (0 : Int) ≤ zLim
  unfold zLim
  (decide), Nat.zero_le _, fun m hm => absurd hm (Nat.not_lt_zero m)⟩
theorem zfit.lm {F : Nat} {K : Nat → Nat → Int} {e : Nat → Int} (h : zfit F K e) : zlm F e := fun k hk => (h k hk).1
theorem zlm_c {F : Nat} {e f : Nat → Int} (h : zlm F e) (hc : ∀ k, k < F → f k = e k) : zlm F f := fun k hk => by
  rw [hc k hk]
  exact h k hk
def zSK (F : Nat) (s : zSg) (d : Nat) (M : zMem) : Prop := (ze M (d + 0) 7 = (s.2.1 : Int) ∧ s.2.1 ≤ 12) ∧ (0 ≤ ze M (d + 0) 8 ∧ ze M (d + 0) 8 ≤ 11) ∧ (∀ k : Nat, k < F → zg M (d + 25) k = s.1 k) ∧ ∀ m k : Nat, m < s.2.1 → k < F → zg M (d + 25) (27 * (9 + ((ze M (d + 0) 8).toNat + 12 - s.2.1 + m) % 12) + k) = s.2.2 m k
def zSR (F : Nat) (s : zSg) (M : zMem) : Prop := (ze M 81 60 = (s.2.1 : Int) ∧ s.2.1 ≤ 12) ∧ (∀ k : Nat, k < F → zg M 98 k = s.1 k) ∧ ∀ m k : Nat, m < s.2.1 → k < F → zg M 111 (64 * m + k) = s.2.2 m k
def zSA (F : Nat) (s : zSg) (M : zMem) : Prop := (ze M 81 60 = ((if s.2.1 = 12 then 12 else s.2.1 + 1 : Nat) : Int) ∧ s.2.1 ≤ 12) ∧ ∀ m k : Nat, m < (if s.2.1 = 12 then 12 else s.2.1 + 1) → k < F → zg M 111 (64 * m + k) = (if s.2.1 = 12 then (if m = 11 then s.1 else s.2.2 (m + 1)) else if m = s.2.1 then s.1 else s.2.2 m) k
section ZST
variable {F d : Nat} {s : zSg} {e : Nat → Int} {M N N1 N2 N3 : zMem} {FA : List (Nat × Nat)} {CA : List Nat} {FR : List (Nat × Nat)} {CR : List Nat} {S C : List Nat}
theorem zLow.ou {x : Int} (h : zOu F d M N x) (hx : 21 ≤ x) : zLow d M N := fun t ht => h t (by omega)
theorem zSK.fr (hf : zFc d FA CA FR CR M N) (hl : zLow d M N) (hF : F ≤ 27) (h : zSK F s d M) (hd : 0 ∉ CR ∧ (0, 7) ∉ FR ∧ (0, 8) ∉ FR) : zSK F s d N := by
  obtain ⟨⟨a1, a2⟩, b, c, e⟩ := h
  have e7 : ze N (d + 0) 7 = ze M (d + 0) 7 := hf.e ⟨by decide, hd.1, hd.2.1⟩
  have e8 : ze N (d + 0) 8 = ze M (d + 0) 8 := hf.e ⟨by decide, hd.1, hd.2.2⟩
  refine ⟨⟨e7.trans a1, a2⟩, by rw [e8]; exact b, fun k hk => (hl k (by omega)).trans (c k hk), fun m k hm hk => ?_⟩
  rw [e8]
  exact (hl _ (by omega)).trans (e m k hm hk)
theorem zSK.lo (h : zOl M N) (hd : d = 5 ∨ d = 43) (hk : zSK F s d M) : zSK F s d N := by
  have e1 : ∀ j, ze N (d + 0) j = ze M (d + 0) j := fun j => by
    unfold ze
    rw [(h.2.2.2 (d + 0) (by omega)).1]
  have e2 : ∀ j, zg N (d + 25) j = zg M (d + 25) j := fun j => by
    unfold zg
    rw [(h.2.2.2 (d + 25) (by omega)).2]
  obtain ⟨a, b, c, e⟩ := hk
  refine ⟨by rw [e1]; exact a, by rw [e1]; exact b, fun k hk => (e2 k).trans (c k hk), fun m k hm hk => ?_⟩
  rw [e1, e2]
  exact e m k hm hk
theorem zNm.lo {nm : List (Int × (Nat → Int))} {K : Nat → Nat → Int} (h : zOl M N) (hd : d = 5 ∨ d = 43) (hk : zNm nm F K d M) : zNm nm F K d N := by
  refine zNm_e ?_ (fun k => ?_) (fun k _ => ?_) hk
  · unfold ze
    rw [(h.2.2.2 (d + 0) (by omega)).1]
  · unfold ze
    rw [(h.2.2.2 (d + 37) (by omega)).1]
  · funext i
    unfold zvc zg
    rw [(h.2.2.2 (d + 25) (by omega)).2]
theorem zSK.push {x : Int} (hF : F ≤ 27) (h : zSK F s d M) (h1 : zSh F d M N1 (9 + ze M (d + 0) 8) (zvc F d M 0)) (e3 : ∀ t : Nat, zg N3 (d + 25) t = zg N1 (d + 25) t) (h4 : zSh F d N3 N 0 (zvc F d N3 x)) (hx : (1 ≤ x ∧ x ≤ 8) ∨ (21 ≤ x ∧ x ≤ 39)) (h8 : (ze M (d + 0) 8 = 11 ∧ ze N (d + 0) 8 = 0) ∨ (ze M (d + 0) 8 < 11 ∧ ze N (d + 0) 8 = ze M (d + 0) 8 + 1)) (h7 : (ze M (d + 0) 7 = 12 ∧ ze N (d + 0) 7 = 12) ∨ (ze M (d + 0) 7 < 12 ∧ ze N (d + 0) 7 = ze M (d + 0) 7 + 1)) : zSK F (zpush s (zvc F d M x)) d N := by
  obtain ⟨⟨a1, a2⟩, ⟨b1, b2⟩, c, e⟩ := h
  obtain ⟨r, hr⟩ : ∃ r : Nat, ze M (d + 0) 8 = (r : Int) := ⟨_, (Int.toNat_of_nonneg b1).symm⟩
  rw [hr] at b2 h1 h8 e
  rw [Int.toNat_natCast] at e
  have r4 : ∀ t : Nat, 27 ≤ t → zg N (d + 25) t = zg N1 (d + 25) t := fun t ht => by rw [h4 t, if_neg (by omega), e3]
  have r1 : ∀ t : Nat, ¬ (27 * (9 + r) ≤ t ∧ t < 27 * (9 + r) + F) → zg N1 (d + 25) t = zg M (d + 25) t := fun t ht => by rw [h1 t, if_neg (by omega)]
  have rn : ∀ k : Nat, k < F → zg N1 (d + 25) (27 * (9 + r) + k) = s.1 k := fun k hk => by
    rw [h1 _, if_pos (by omega), show (((27 * (9 + r) + k : Nat) : Int) - 27 * (9 + (r : Int))).toNat = k by omega]
    unfold zvc
    rw [if_pos hk, show 27 * (0 : Int).toNat + k = k by omega]
    exact c k hk
  have ex : ∀ k : Nat, k < F → zg N (d + 25) k = zvc F d M x k := fun k hk => by
    rw [h4 k, if_pos (by omega), show ((k : Int) - 27 * 0).toNat = k by omega]
    unfold zvc
    rw [if_pos hk, if_pos hk, e3]
    exact r1 _ (by omega)
  refine ⟨⟨?_, ?_⟩, by omega, ex, fun m k hm hk => ?_⟩
  · show ze N (d + 0) 7 = ((if s.2.1 = 12 then 12 else s.2.1 + 1 : Nat) : Int)
    by_cases g : s.2.1 = 12
    · rw [if_pos g]
      omega
    · rw [if_neg g]
      omega
  · show (if s.2.1 = 12 then 12 else s.2.1 + 1) ≤ 12
    by_cases g : s.2.1 = 12
    · rw [if_pos g]
      exact Nat.le_refl _
    · rw [if_neg g]
      omega
  · have hm2 : m < (if s.2.1 = 12 then 12 else s.2.1 + 1) := hm
    show zg N (d + 25) (27 * (9 + ((ze N (d + 0) 8).toNat + 12 - (if s.2.1 = 12 then 12 else s.2.1 + 1) + m) % 12) + k) = (if s.2.1 = 12 then (if m = 11 then s.1 else s.2.2 (m + 1)) else if m = s.2.1 then s.1 else s.2.2 m) k
    rw [r4 _ (by omega)]
    by_cases g : s.2.1 = 12
    · rw [if_pos g] at hm2
      rw [if_pos g, if_pos g]
      by_cases g2 : m = 11
      · rw [if_pos g2, show 27 * (9 + ((ze N (d + 0) 8).toNat + 12 - 12 + m) % 12) + k = 27 * (9 + r) + k by omega]
        exact rn k hk
      · rw [if_neg g2, show 27 * (9 + ((ze N (d + 0) 8).toNat + 12 - 12 + m) % 12) + k = 27 * (9 + (r + 12 - s.2.1 + (m + 1)) % 12) + k by omega, r1 _ (by omega)]
        exact e (m + 1) k (by omega) hk
    · rw [if_neg g] at hm2
      rw [if_neg g, if_neg g]
      by_cases g2 : m = s.2.1
      · rw [if_pos g2, show 27 * (9 + ((ze N (d + 0) 8).toNat + 12 - (s.2.1 + 1) + m) % 12) + k = 27 * (9 + r) + k by omega]
        exact rn k hk
      · rw [if_neg g2, show 27 * (9 + ((ze N (d + 0) 8).toNat + 12 - (s.2.1 + 1) + m) % 12) + k = 27 * (9 + (r + 12 - s.2.1 + m) % 12) + k by omega, r1 _ (by omega)]
        exact e m k (by (exact zo_2734 hm2 g2)) hk
theorem zSK.pop {q : Int} (hF : F ≤ 27) (h : zSK F s d M) (hc : 1 ≤ s.2.1) (e3 : ∀ t : Nat, zg N2 (d + 25) t = zg M (d + 25) t) (h4 : zSh F d N2 N 0 (zvc F d N2 q)) (hq : q = 9 + ze N (d + 0) 8) (h8 : (ze M (d + 0) 8 = 0 ∧ ze N (d + 0) 8 = 11) ∨ (1 ≤ ze M (d + 0) 8 ∧ ze N (d + 0) 8 = ze M (d + 0) 8 - 1)) (h7 : ze N (d + 0) 7 = ze M (d + 0) 7 - 1) : zSK F (zpop s) d N := by
  obtain ⟨⟨a1, a2⟩, ⟨b1, b2⟩, c, e⟩ := h
  obtain ⟨r, hr⟩ : ∃ r : Nat, ze M (d + 0) 8 = (r : Int) := ⟨_, (Int.toNat_of_nonneg b1).symm⟩
  rw [hr] at b2 h8 e
  rw [Int.toNat_natCast] at e
  have r4 : ∀ t : Nat, 27 ≤ t → zg N (d + 25) t = zg M (d + 25) t := fun t ht => by rw [h4 t, if_neg (by omega), e3]
  have ex : ∀ k : Nat, k < F → zg N (d + 25) k = s.2.2 (s.2.1 - 1) k := fun k hk => by
    rw [h4 k, if_pos (by omega), show ((k : Int) - 27 * 0).toNat = k by omega]
    unfold zvc
    rw [if_pos hk, e3, show 27 * q.toNat + k = 27 * (9 + (r + 12 - s.2.1 + (s.2.1 - 1)) % 12) + k by omega]
    exact e _ k (by omega) hk
  refine ⟨⟨?_, ?_⟩, by omega, ex, fun m k hm hk => ?_⟩
  · show ze N (d + 0) 7 = ((s.2.1 - 1 : Nat) : Int)
    omega
  · show s.2.1 - 1 ≤ 12
    omega
  · have hm2 : m < s.2.1 - 1 := hm
    show zg N (d + 25) (27 * (9 + ((ze N (d + 0) 8).toNat + 12 - (s.2.1 - 1) + m) % 12) + k) = s.2.2 m k
    rw [r4 _ (by omega), show 27 * (9 + ((ze N (d + 0) 8).toNat + 12 - (s.2.1 - 1) + m) % 12) + k = 27 * (9 + (r + 12 - s.2.1 + m) % 12) + k by omega]
    exact e m k (by omega) hk
theorem zSR.fr (hf : zFr S C M N) (h : zSR F s M) (hs : 60 ∉ S) (hc : 98 ∉ C ∧ 111 ∉ C) : zSR F s N := by
  obtain ⟨a, b, c⟩ := h
  refine ⟨by rw [hf.e hs]; exact a, fun k hk => (hf.jg (by decide) hc.1 k).trans (b k hk), fun m k hm hk => (hf.jg (by decide) hc.2 _).trans (c m k hm hk)⟩
theorem zSA.fr (hf : zFr S C M N) (h : zSA F s M) (hs : 60 ∉ S) (hc : 111 ∉ C) : zSA F s N := by
  obtain ⟨a, c⟩ := h
  refine ⟨by rw [hf.e hs]; exact a, fun m k hm hk => (hf.jg (by decide) hc _).trans (c m k hm hk)⟩
theorem zSR.hi (h3 : ∀ q, 81 ≤ q → zi N q = zi M q ∧ zj N q = zj M q) (h : zSR F s M) : zSR F s N := by
  obtain ⟨a, b, c⟩ := h
  have e1 : ze N 81 60 = ze M 81 60 := by
    unfold ze
    rw [(h3 81 (by decide)).1]
  have e2 : ∀ q, 81 ≤ q → ∀ j, zg N q j = zg M q j := fun q hq j => by
    unfold zg
    rw [(h3 q hq).2]
  refine ⟨by rw [e1]; exact a, fun k hk => (e2 98 (by decide) k).trans (b k hk), fun m k hm hk => (e2 111 (by decide) _).trans (c m k hm hk)⟩
theorem zSA.ps (h : zSA F s M) (he : ∀ k : Nat, k < F → zg M 98 k = e k) : zSR F (zpush s e) M := ⟨⟨h.1.1, by
  have h2 := h.1.2
  show (if s.2.1 = 12 then 12 else s.2.1 + 1) ≤ 12
  by_cases g : s.2.1 = 12
  · rw [if_pos g]
    exact Nat.le_refl _
  · rw [if_neg g]
    omega⟩, he, h.2⟩
def zRwS (M N : zMem) (x : Int) : Prop := ∀ t : Nat, zg N 111 t = if (t : Int) + 64 < x then zg M 111 (t + 64) else zg M 111 t
theorem zRwS_0 : zRwS M M 64 := fun t => by rw [if_neg (by omega)]
theorem zRwS_s {x v : Int} (h : zRwS M N x) (hv : v = zg N 111 x.toNat) (hN : N1 = zsJ N 111 (x - 64).toNat (Int64.ofInt v)) (x0 : 64 ≤ x) (hr : zn64 v) : zRwS M N1 (x + 1) := fun t => by
  by_cases g : (t : Int) + 64 = x
  · rw [if_pos (by omega), show t = (x - 64).toNat by omega, zs_getJ hN hr, hv, h _, if_neg (by omega), show (x - 64).toNat + 64 = x.toNat by omega]
  · rw [zs_othJ hN (by omega), h t]
    by_cases g2 : (t : Int) + 64 < x
    · rw [if_pos g2, if_pos (by omega)]
    · rw [if_neg g2, if_neg (by omega)]
def zRwD (c : Nat) (M N : zMem) (x : Int) : Prop := ∀ t : Nat, zg N 111 t = if 64 * (if c = 12 then 11 else c) ≤ t ∧ (t : Int) < 64 * ((if c = 12 then 11 else c : Nat) : Int) + x then zg M 98 (t - 64 * (if c = 12 then 11 else c)) else if c = 12 ∧ t + 64 < 768 then zg M 111 (t + 64) else zg M 111 t
theorem zRwD_A {c : Nat} {x : Int} (hc : c = 12) (h : zRwS M N1 x) (hx : x = 768) (he : ∀ t : Nat, zg N 111 t = zg N1 111 t) : zRwD c M N 0 := fun t => by
  rw [if_neg (by omega), he t, h t]
  by_cases g : t + 64 < 768
  · rw [if_pos (by omega), if_pos ⟨hc, g⟩]
  · rw [if_neg (by omega), if_neg (fun q => g q.2)]
theorem zRwD_B {c : Nat} (hc : c ≠ 12) (he : ∀ t : Nat, zg N 111 t = zg M 111 t) : zRwD c M N 0 := fun t => by
  rw [if_neg (by omega), he t, if_neg (fun q => hc q.1)]
theorem zRwD_s {c : Nat} {x v i : Int} (h : zRwD c M N x) (hv : v = zg M 98 x.toNat) (hN : N1 = zsJ N 111 i.toNat (Int64.ofInt v)) (hi : i = 64 * ((if c = 12 then 11 else c : Nat) : Int) + x) (x0 : 0 ≤ x) (hr : zn64 v) : zRwD c M N1 (x + 1) := by
  unfold zRwD at h ⊢
  generalize (if c = 12 then 11 else c) = K at h hi ⊢
  intro t
  by_cases g : (t : Int) = i
  · rw [if_pos (show 64 * K ≤ t ∧ (t : Int) < 64 * (K : Int) + (x + 1) by omega), show t = i.toNat by omega, zs_getJ hN hr, hv, show i.toNat - 64 * K = x.toNat by omega]
  · rw [zs_othJ hN (by omega), h t]
    by_cases g2 : 64 * K ≤ t ∧ (t : Int) < 64 * (K : Int) + x
    · rw [if_pos g2, if_pos (show 64 * K ≤ t ∧ (t : Int) < 64 * (K : Int) + (x + 1) by omega)]
    · rw [if_neg g2, if_neg (show ¬ (64 * K ≤ t ∧ (t : Int) < 64 * (K : Int) + (x + 1)) by omega)]
theorem zSA_i (hF : F ≤ 64) (h : zSR F s M) (hd : zRwD s.2.1 M N 64) (h60 : (s.2.1 = 12 ∧ ze N 81 60 = 12) ∨ (s.2.1 < 12 ∧ ze N 81 60 = (s.2.1 : Int) + 1)) : zSA F s N := by
  obtain ⟨⟨a1, a2⟩, b, c⟩ := h
  by_cases g : s.2.1 = 12
  · refine ⟨⟨by rw [if_pos g]; omega, a2⟩, fun m k hm hk => ?_⟩
    have hd2 := hd (64 * m + k)
    rw [if_pos g] at hm
    rw [if_pos g] at hd2
    rw [if_pos g, hd2]
    by_cases g2 : m = 11
    · rw [if_pos g2, if_pos (by omega), show 64 * m + k - 64 * 11 = k by omega]
      exact b k hk
    · rw [if_neg g2, if_neg (by omega), if_pos (by omega), show 64 * m + k + 64 = 64 * (m + 1) + k by omega]
      exact c _ k (by omega) hk
  · refine ⟨⟨by rw [if_neg g]; omega, a2⟩, fun m k hm hk => ?_⟩
    have hd2 := hd (64 * m + k)
    rw [if_neg g] at hm
    rw [if_neg g] at hd2
    rw [if_neg g, hd2]
    by_cases g2 : m = s.2.1
    · rw [if_pos g2, if_pos (by omega), show 64 * m + k - 64 * s.2.1 = k by omega]
      exact b k hk
    · rw [if_neg g2, if_neg (by omega), if_neg (fun q => g q.1)]
      exact c m k (by (exact zo_2734 hm g2)) hk
theorem zSR.pop (hF : F ≤ 64) (h : zSR F s M) (hc : 1 ≤ s.2.1) (hr : ∀ k : Nat, k < 64 → zg N 98 k = zg M 111 (64 * (s.2.1 - 1) + k)) (hp : ∀ t : Nat, zg N 111 t = zg M 111 t) (h60 : ze N 81 60 = (s.2.1 : Int) - 1) : zSR F (zpop s) N := by
  obtain ⟨⟨a1, a2⟩, b, c⟩ := h
  refine ⟨⟨?_, ?_⟩, fun k hk => (hr k (by omega)).trans (c _ k (by omega) hk), fun m k hm hk => ?_⟩
  · show ze N 81 60 = ((s.2.1 - 1 : Nat) : Int)
    omega
  · show s.2.1 - 1 ≤ 12
    omega
  · have hm2 : m < s.2.1 - 1 := hm
    exact (hp _).trans (c m k (by omega) hk)
theorem zSKc.fr (_ : zKW d M) (hf : zFc d FA CA FR CR M N) (h : zSK F s d M) (hd : (0 < 38 ∧ 0 ∉ CR ∧ (0, 7) ∉ FR) ∧ (0 < 38 ∧ 0 ∉ CR ∧ (0, 8) ∉ FR) ∧ 25 < 38 ∧ 25 ∉ CR ∧ ∀ x ∈ FR, x.1 ≠ 25) : zSK F s d N := by
  obtain ⟨a, b, c, e⟩ := h
  have e7 : ze N (d + 0) 7 = ze M (d + 0) 7 := hf.e hd.1
  have e8 : ze N (d + 0) 8 = ze M (d + 0) 8 := hf.e hd.2.1
  refine ⟨by rw [e7]; exact a, by rw [e8]; exact b, fun k hk => (hf.rg hd.2.2 k).trans (c k hk), fun m k hm hk => ?_⟩
  rw [e8]
  exact (hf.rg hd.2.2 _).trans (e m k hm hk)
theorem zSK.pc {f : Nat → Int} (h : zSK F (zpush s e) d M) (hc : ∀ k, k < F → e k = f k) : zSK F (zpush s f) d M := ⟨h.1, h.2.1, fun k hk => (h.2.2.1 k hk).trans (hc k hk), h.2.2.2⟩
theorem zSK.v (h : zSK F s d M) : ∀ k : Nat, k < F → zvc F d M 0 k = s.1 k := fun k hk => by
  unfold zvc
  rw [if_pos hk, show 27 * (0 : Int).toNat + k = k by omega]
  exact h.2.2.1 k hk
theorem zNm.md {nm : List (Int × (Nat → Int))} {K : Nat → Nat → Int} (hf : zFc d FA CA FR CR M N) (hm : ∀ t : Nat, 27 ≤ t → t < 243 → zg N (d + 25) t = zg M (d + 25) t) (hF : F ≤ 27) (h : zNm nm F K d M) (hd : (0 < 38 ∧ 0 ∉ CR ∧ (0, 6) ∉ FR) ∧ 37 < 38 ∧ 37 ∉ CR ∧ ∀ x ∈ FR, x.1 ≠ 37) : zNm nm F K d N := by
  refine zNm_e (hf.e hd.1) (fun k => hf.r hd.2 k) (fun k hk => ?_) h
  funext i
  unfold zvc
  by_cases g : i < F
  · rw [if_pos g, if_pos g]
    exact hm _ (by omega) (by omega)
  · rw [if_neg g, if_neg g]
end ZST
theorem zrem12 {a : Int} (a0 : 0 ≤ a) (a1 : a ≤ 1000000) : zrem a 12 = a % 12 := by
  rw [zrem_t (by omega) (by omega) (by decide) (by decide)]
  exact Int.tmod_eq_emod_of_nonneg a0
theorem zmul9 {n x : Int} (n0 : -9 ≤ n) (n1 : n ≤ 9) (x0 : -1000000000000 ≤ x) (x1 : x ≤ 1000000000000) : -9000000000000 ≤ n * x ∧ n * x ≤ 9000000000000 := by
  have h : (n * x).natAbs ≤ 9 * 1000000000000 := by
    rw [Int.natAbs_mul]
    exact Nat.mul_le_mul (by omega) (by omega)
  omega
theorem zsm_b {f : Nat → Int} {B : Nat} : ∀ k : Nat, (∀ i, i < k → (f i).natAbs ≤ B) → (zsm f k).natAbs ≤ k * B
  | 0, _ => by
    rw [Nat.zero_mul]
    exact Nat.le_refl _
  | k + 1, h => by
    have h1 := zsm_b k (fun i hi => h i (by (exact zo_2541 hi)))
    have h2 := h k (by (exact zo_1083))
    have h3 : (zsm f k + f k).natAbs ≤ (zsm f k).natAbs + (f k).natAbs := Int.natAbs_add_le _ _
    rw [Nat.add_mul, Nat.one_mul]
    exact Nat.le_trans h3 (by omega)
theorem zmq_b {F : Nat} {K : Nat → Nat → Int} {v : Nat → Int} {j : Nat} (hF : F ≤ 27) (hK : ∀ i, i < F → 0 ≤ K i j ∧ K i j ≤ 24) (hv : ∀ i, i < F → -10000000000000 ≤ v i ∧ v i ≤ 10000000000000) : -6480000000000000 ≤ zmq F K v j ∧ zmq F K v j ≤ 6480000000000000 := by
  have h : (zmq F K v j).natAbs ≤ F * (10000000000000 * 24) := zsm_b F (fun i hi => by
    rw [Int.natAbs_mul]
    have h1 := hv i hi
    have h2 := hK i hi
    exact Nat.mul_le_mul (by omega) (by omega))
  have h2 : F * (10000000000000 * 24) ≤ 27 * (10000000000000 * 24) := Nat.mul_le_mul_right _ hF
  omega
theorem zup_g {α : Type} {f : Nat → α} {x : α} : ∀ k i m : Nat, m < k → (zup f k i).getD m x = f (i + m)
  | 0, _, _, h => absurd h (Nat.not_lt_zero _)
  | _ + 1, _, 0, _ => rfl
  | k + 1, i, m + 1, h => by
    have h2 := zup_g (f := f) (x := x) k (i + 1) m (by omega)
    rw [show i + (m + 1) = i + 1 + m by (exact zo_2540)]
    exact h2
def zvun (nm : List (Int × (Nat → Int))) (k : Nat) : Nat → Int := (nm.getD k (0, fun _ => 0)).2
theorem zNm.n {nm : List (Int × (Nat → Int))} {F d : Nat} {K : Nat → Nat → Int} {M : zMem} (h : zNm nm F K d M) : ((nm.length : Nat) : Int) = ze M (d + 0) 6 := by
  have h1 := h.1.1
  rw [← h.2.1]
  unfold zNl
  rw [zup_l]
  (exact zo_167 h1)
theorem zNm.at {nm : List (Int × (Nat → Int))} {F d k : Nat} {K : Nat → Nat → Int} {M : zMem} (h : zNm nm F K d M) (hk : k < nm.length) : zvc F d M (1 + (k : Int)) = zvun nm k ∧ zfit F K (zvun nm k) := by
  have h1 := h.n
  have h2 := h.2.2 k (by omega)
  have e : zvc F d M (1 + (k : Int)) = zvun nm k := by
    unfold zvun
    rw [← h.2.1]
    unfold zNl
    rw [zup_g _ 0 k (by omega), Nat.zero_add]
    rfl
  rw [e] at h2
  exact ⟨e, h2⟩
theorem zfit_c {F : Nat} {K : Nat → Nat → Int} {v w : Nat → Int} (h : zfit F K v) (hc : ∀ i, i < F → v i = w i) : zfit F K w := fun i hi => by
  rw [← hc i hi, ← zmq_c hc]
  exact h i hi
theorem zgrw_c {F : Nat} {e f : Nat → Int} {n m i : Int} (h : ∀ k, k < F → e k = f k) : ∀ k, k < F → zgrw e n m i k = zgrw f n m i k := fun k hk => by
  unfold zgrw
  rw [h k hk]
theorem zgrw_b {F : Nat} {e : Nat → Int} {n m i : Int} (h : zlm F e) (n0 : -9 ≤ n) (n1 : n ≤ 9) (m0 : -999 ≤ m) (m1 : m ≤ 999) : ∀ k, k < F → -10000000000000 ≤ zgrw e n m i k ∧ zgrw e n m i k ≤ 10000000000000 := fun k hk => by
  have h1 := h k hk
  unfold zLim at h1
  have h2 := zmul9 n0 n1 h1.1 h1.2
  show -10000000000000 ≤ n * e k + (if (k : Int) = i then m else 0) ∧ n * e k + (if (k : Int) = i then m else 0) ≤ 10000000000000
  by_cases g : (k : Int) = i
  · rw [if_pos g]
    omega
  · rw [if_neg g]
    omega
def znzc (e : Nat → Int) : Nat → Nat
  | 0 => 0
  | k + 1 => znzc e k + if e k = 0 then 0 else 1
theorem znzc_c {e f : Nat → Int} : ∀ k : Nat, (∀ i, i < k → e i = f i) → znzc e k = znzc f k
  | 0, _ => rfl
  | k + 1, h => by
    show znzc e k + _ = znzc f k + _
    rw [znzc_c k (fun i hi => h i (by (exact zo_2541 hi))), h k (by (exact zo_1083))]
theorem znzc_s {e : Nat → Int} {a k : Int} (h : a = (znzc e k.toNat : Nat)) (k0 : 0 ≤ k) (b x : Int) (hx : x = e k.toNat) (hb : (x = 0 ∧ b = a) ∨ (x ≠ 0 ∧ b = a + 1)) : b = (znzc e (k + 1).toNat : Nat) := by
  rw [show (k + 1).toNat = k.toNat + 1 by (exact zo_1084 k0)]
  show b = ((znzc e k.toNat + (if e k.toNat = 0 then 0 else 1) : Nat) : Int)
  rw [← hx]
  rcases hb with ⟨h1, h2⟩ | ⟨h1, h2⟩
  · rw [if_pos h1]
    omega
  · rw [if_neg h1]
    omega
theorem zRNi.n {nm : List (Int × (Nat → Int))} {F : Nat} {K : Nat → Nat → Int} {M : zMem} (h : zRNi nm F K M) : ((nm.length : Nat) : Int) = ze M 81 18 := by
  obtain ⟨h1, gk, h2, -⟩ := h
  rw [h2, zup_l]
  (exact zo_167 h1.1)
theorem zRNi.at {nm : List (Int × (Nat → Int))} {F k : Nat} {K : Nat → Nat → Int} {M : zMem} (h : zRNi nm F K M) (hk : k < nm.length) : zrw F M 104 (64 * (k : Int)) = zvun nm k ∧ zfit F K (zvun nm k) := by
  have h1 := h.n
  obtain ⟨-, gk, h2, h3⟩ := h
  have h4 := (h3 k (by omega)).2
  have e : zrw F M 104 (64 * (k : Int)) = zvun nm k := by
    unfold zvun
    rw [h2]
    rw [h2, zup_l] at hk
    rw [zup_g _ 0 k hk, Nat.zero_add]
  rw [e] at h4
  exact ⟨e, h4⟩
theorem zSK_00 {F d : Nat} {M : zMem} (hF : F ≤ 27) (h7 : ze M (d + 0) 7 = 0) (h8 : ze M (d + 0) 8 = 0) (h0 : ∀ k : Nat, k < F → zg M (d + 25) k = 0) : zSK F (fun _ => 0, 0, fun _ _ => 0) d M := ⟨⟨h7, Nat.zero_le _⟩, ⟨by (exact zo_718 h8), by omega⟩, h0, fun m _ hm => absurd hm (Nat.not_lt_zero m)⟩
set_option maxHeartbeats 4000000 in
theorem u_Troupe_becomeS (l : Launch) (d_ : Nat) (Mz : zMem) (hW : zKW d_ Mz) (a0_ : Int) (ha0_a : -2147483648 ≤ a0_) (ha0_b : a0_ < 2147483648) (F_ : Nat) (K_ : Nat → Nat → Int) (hA_ : zTA F_ K_) (s_ : zSg) (p0_ : zKm F_ K_ d_ Mz) (p1_ : zSK F_ s_ d_ Mz) (p2_ : ((1 ≤ a0_ ∧ a0_ ≤ 8) ∨ (21 ≤ a0_ ∧ a0_ ≤ 39))) : zC l m_Troupe_become 0 0 [.ref (d_ + 0), .int (Int32.ofInt a0_)] Mz (zqcV d_ [] [] [(0, 7), (0, 8)] [25] Mz (fun N => zSK F_ (zpush s_ (zvc F_ d_ Mz a0_)) d_ N ∧ (∀ t : Nat, 27 ≤ t → t < 243 → zg N (d_ + 25) t = zg Mz (d_ + 25) t))) := by
  refine zC_of (L0 := [some (.ref (d_ + 0)), some (.int (Int32.ofInt a0_))]) md_Troupe_become (Nat.le_of_ble_eq_true rfl) rfl ?_ zQ0
  have hf : zFc d_ [] [] [(0, 7), (0, 8)] [25] Mz Mz := zFc.rf
  have r_D0_7 := ze_r Mz (d_ + 0) 7
  have r_D0_8 := ze_r Mz (d_ + 0) 8
  obtain ⟨⟨hF1_, hF27_⟩, hAr_⟩ := id hA_
  obtain ⟨hFc_, hKt_⟩ := id p0_
  obtain ⟨⟨hs1_, hs2_⟩, ⟨hs3_, hs4_⟩, hs5_, hs6_⟩ := id p1_
  refine zw_aload_n (pc := 0) (n := 0) (x := (d_ + 0)) rfl (zdal_p dlB_Troupe_become_125 (i := 0) rfl) ?_
  refine zw_getF (pc := 1) f_Troupe_32 rfl ((hf.w hW).kr (o := 0) (by decide)) ((hf.w hW).lr (o := 0) (s := 2) (r := 23) (by decide)) (zdal_p dlB_Troupe_become_125 (i := 1) rfl) ?_
  refine zw_iconst (pc := 4) (v := Int32.ofInt 0) (by decide) (zdal_p dlB_Troupe_become_125 (i := 2) rfl) ?_
  refine zw_bipush (pc := 5) (v := Int32.ofInt 9) (by decide) (zdal_p dlB_Troupe_become_125 (i := 3) rfl) ?_
  refine zw_aload_n (pc := 7) (n := 0) (x := (d_ + 0)) rfl (zdal_p dlB_Troupe_become_125 (i := 4) rfl) ?_
  refine zk_getI (pc := 8) f_Troupe_71 rfl ((hf.w hW).kr (o := 0) (by decide)) (zdal_p dlB_Troupe_become_125 (i := 5) rfl) ?_
  refine zr_iadd (pc := 11) (zdal_p dlB_Troupe_become_125 (i := 6) rfl) ?_
  refine zk_callV hf.x (pc := 12) [.int (Int32.ofInt 0), .int (Int32.ofInt (9 + (ze Mz (d_ + 0) 8)))] [] l_Troupe_93 (u_Sums_copy l d_ Mz (hf.w hW) 0 (by decide) (by decide) (9 + (ze Mz (d_ + 0) 8)) (by omega) (by omega) F_ K_ hA_ p0_ (show 0 ≤ 0 by first | with_reducible assumption | (decide) | assumption) (show 0 ≤ 39 by first | with_reducible assumption | (decide) | assumption) (show 0 ≤ (9 + (ze Mz (d_ + 0) 8)) by first | with_reducible assumption | assumption | omega) (show (9 + (ze Mz (d_ + 0) 8)) ≤ 39 by first | with_reducible assumption | assumption | omega)) rfl rfl ((hf.w hW).kr (o := 23) (by decide)) (by decide) (by decide) (Nat.le_of_ble_eq_true rfl) (zdal_p dlB_Troupe_become_125 (i := 7) rfl) ?_
  rintro _ N1_ ⟨rfl, hsN1_, hp0_N1_⟩
  replace hp0_N1_ : zSh F_ d_ Mz N1_ (9 + (ze Mz (d_ + 0) 8)) (zvc F_ d_ Mz 0) := hp0_N1_
  have hf_N1_ : zFc d_ [] [] [(0, 7), (0, 8)] [25] Mz N1_ := hf.tr hsN1_ (by decide) (by decide) (by decide) (by decide)
  have eD0_7_N1_ : ze N1_ (d_ + 0) 7 = ze Mz (d_ + 0) 7 := hsN1_.e (by decide)
  have eD0_8_N1_ : ze N1_ (d_ + 0) 8 = ze Mz (d_ + 0) 8 := hsN1_.e (by decide)
  have c3_ : zKm F_ K_ d_ N1_ := zKm.fr (hf.w hW) hsN1_ p0_ (by decide)
  show zW l m_Troupe_become (zn Mz + 0, zw Mz + 0) N1_ 15 [some (.ref (d_ + 0)), some (.int (Int32.ofInt a0_))] [] _
  have h1_ := hp0_N1_
  refine zw_aload_n (pc := 15) (n := 0) (x := (d_ + 0)) rfl (zdal_p dlB_Troupe_become_125 (i := 8) rfl) ?_
  refine zw_aload_n (pc := 16) (n := 0) (x := (d_ + 0)) rfl (zdal_p dlB_Troupe_become_125 (i := 9) rfl) ?_
  refine zk_getI (pc := 17) f_Troupe_71 rfl ((hf_N1_.w hW).kr (o := 0) (by decide)) (zdal_p dlB_Troupe_become_125 (i := 10) rfl) ?_
  refine zw_iconst (pc := 20) (v := Int32.ofInt 1) (by decide) (zdal_p dlB_Troupe_become_125 (i := 11) rfl) ?_
  refine zr_iadd (pc := 21) (zdal_p dlB_Troupe_become_125 (i := 12) rfl) ?_
  refine zw_bipush (pc := 22) (v := Int32.ofInt 12) (by decide) (zdal_p dlB_Troupe_become_125 (i := 13) rfl) ?_
  refine zr_irem (pc := 24) ⟨by (decide), by (decide)⟩ (by (decide)) (zdal_p dlB_Troupe_become_125 (i := 14) rfl) ?_
  have hr4_ := zrem_r ((ze N1_ (d_ + 0) 8) + 1) 12
  have hq_ := zrem12 (a := ze N1_ (d_ + 0) 8 + 1) (by omega) (by omega)
  refine zk_putR (pc := 25) (o := 0) (by decide) f_Troupe_71 rfl rfl ((hf_N1_.w hW).kr (o := 0) (by decide)) ⟨by (exact zo_284 hr4_.1), by (exact zo_285 hr4_.2)⟩ rfl rfl (zdal_p dlB_Troupe_become_125 (i := 15) rfl) (fun N5_ hsN5_ hvN5_ => ?_)
  have hf_N5_ : zFc d_ [] [] [(0, 7), (0, 8)] [25] Mz N5_ := hf_N1_.tr hsN5_ (by decide) (by decide) (by decide) (by decide)
  have eD0_7_N5_ : ze N5_ (d_ + 0) 7 = ze N1_ (d_ + 0) 7 := hsN5_.e (by decide)
  have rD0_8_N5_ := ze_r N5_ (d_ + 0) 8
  have c6_ : zKm F_ K_ d_ N5_ := zKm.fr (hf_N1_.w hW) hsN5_ c3_ (by decide)
  refine zw_aload_n (pc := 28) (n := 0) (x := (d_ + 0)) rfl (zdal_p dlB_Troupe_become_125 (i := 16) rfl) ?_
  refine zw_aload_n (pc := 29) (n := 0) (x := (d_ + 0)) rfl (zdal_p dlB_Troupe_become_125 (i := 17) rfl) ?_
  refine zk_getI (pc := 30) f_Troupe_68 rfl ((hf_N5_.w hW).kr (o := 0) (by decide)) (zdal_p dlB_Troupe_become_125 (i := 18) rfl) ?_
  refine zw_iconst (pc := 33) (v := Int32.ofInt 1) (by decide) (zdal_p dlB_Troupe_become_125 (i := 19) rfl) ?_
  refine zr_iadd (pc := 34) (zdal_p dlB_Troupe_become_125 (i := 20) rfl) ?_
  refine zw_bipush (pc := 35) (v := Int32.ofInt 12) (by decide) (zdal_p dlB_Troupe_become_125 (i := 21) rfl) ?_
  refine zk_mmin (pc := 37) x_Troupe_96 (by decide) (Nat.le_of_ble_eq_true rfl) (zdal_p dlB_Troupe_become_125 (i := 22) rfl) ⟨(by (exact zo_774 eD0_7_N1_ eD0_7_N5_ r_D0_7.1)), (by omega)⟩ ⟨(by decide), (by decide)⟩ (fun v7_ hv7_ => ?_)
  have hv7_a : -2147483648 ≤ v7_ := by omega
  have hv7_b : v7_ < 2147483648 := by omega
  refine zk_putR (pc := 40) (o := 0) (by decide) f_Troupe_68 rfl rfl ((hf_N5_.w hW).kr (o := 0) (by decide)) ⟨by (exact hv7_a), by (exact hv7_b)⟩ rfl rfl (zdal_p dlB_Troupe_become_125 (i := 23) rfl) (fun N8_ hsN8_ hvN8_ => ?_)
  have hf_N8_ : zFc d_ [] [] [(0, 7), (0, 8)] [25] Mz N8_ := hf_N5_.tr hsN8_ (by decide) (by decide) (by decide) (by decide)
  have rD0_7_N8_ := ze_r N8_ (d_ + 0) 7
  have eD0_8_N8_ : ze N8_ (d_ + 0) 8 = ze N5_ (d_ + 0) 8 := hsN8_.e (by decide)
  have c9_ : zKm F_ K_ d_ N8_ := zKm.fr (hf_N5_.w hW) hsN8_ c6_ (by decide)
  refine zw_aload_n (pc := 43) (n := 0) (x := (d_ + 0)) rfl (zdal_p dlB_Troupe_become_126 (i := 0) rfl) ?_
  refine zw_getF (pc := 44) f_Troupe_32 rfl ((hf_N8_.w hW).kr (o := 0) (by decide)) ((hf_N8_.w hW).lr (o := 0) (s := 2) (r := 23) (by decide)) (zdal_p dlB_Troupe_become_126 (i := 1) rfl) ?_
  refine zw_iload_n (pc := 47) (n := 1) (x := Int32.ofInt a0_) rfl (zdal_p dlB_Troupe_become_126 (i := 2) rfl) ?_
  refine zw_iconst (pc := 48) (v := Int32.ofInt 0) (by decide) (zdal_p dlB_Troupe_become_126 (i := 3) rfl) ?_
  refine zk_callV hf_N8_.x (pc := 49) [.int (Int32.ofInt a0_), .int (Int32.ofInt 0)] [] l_Troupe_93 (u_Sums_copy l d_ N8_ (hf_N8_.w hW) a0_ ha0_a ha0_b 0 (by decide) (by decide) F_ K_ hA_ c9_ (show 0 ≤ a0_ by first | with_reducible assumption | assumption | omega) (show a0_ ≤ 39 by first | with_reducible assumption | assumption | omega) (show 0 ≤ 0 by first | with_reducible assumption | (decide) | assumption) (show 0 ≤ 39 by first | with_reducible assumption | (decide) | assumption)) rfl rfl ((hf_N8_.w hW).kr (o := 23) (by decide)) (by decide) (by decide) (Nat.le_of_ble_eq_true rfl) (zdal_p dlB_Troupe_become_126 (i := 4) rfl) ?_
  rintro _ N10_ ⟨rfl, hsN10_, hp0_N10_⟩
  replace hp0_N10_ : zSh F_ d_ N8_ N10_ 0 (zvc F_ d_ N8_ a0_) := hp0_N10_
  have hf_N10_ : zFc d_ [] [] [(0, 7), (0, 8)] [25] Mz N10_ := hf_N8_.tr hsN10_ (by decide) (by decide) (by decide) (by decide)
  have eD0_7_N10_ : ze N10_ (d_ + 0) 7 = ze N8_ (d_ + 0) 7 := hsN10_.e (by decide)
  have eD0_8_N10_ : ze N10_ (d_ + 0) 8 = ze N8_ (d_ + 0) 8 := hsN10_.e (by decide)
  have c12_ : zKm F_ K_ d_ N10_ := zKm.fr (hf_N8_.w hW) hsN10_ c9_ (by decide)
  show zW l m_Troupe_become (zn Mz + 0, zw Mz + 0) N10_ 52 [some (.ref (d_ + 0)), some (.int (Int32.ofInt a0_))] [] _
  have h4_ := hp0_N10_
  have e3_ : ∀ t : Nat, zg N8_ (d_ + 25) t = zg N1_ (d_ + 25) t := fun t => (hsN8_.rg (by decide) t).trans (hsN5_.rg (by decide) t)
  exact zk_vret (pc := 52) rfl hf_N10_ ⟨(show zSK F_ (zpush s_ (zvc F_ d_ Mz a0_)) d_ N10_ by exact zSK.push hF27_ p1_ h1_ e3_ h4_ p2_ (by omega) (by omega)), (show (∀ t : Nat, 27 ≤ t → t < 243 → zg N10_ (d_ + 25) t = zg Mz (d_ + 25) t) by exact fun t_ h1t_ h2t_ => by rw [h4_ t_, if_neg (by omega), e3_ t_, h1_ t_, if_neg (by omega)])⟩ (zdal_p dlB_Troupe_become_126 (i := 5) rfl)
set_option maxHeartbeats 4000000 in
theorem u_Troupe_takeBackS (l : Launch) (d_ : Nat) (Mz : zMem) (hW : zKW d_ Mz) (F_ : Nat) (K_ : Nat → Nat → Int) (hA_ : zTA F_ K_) (s_ : zSg) (p0_ : zKm F_ K_ d_ Mz) (p1_ : zSK F_ s_ d_ Mz) (p2_ : 1 ≤ s_.2.1) : zC l m_Troupe_takeBack 0 0 [.ref (d_ + 0)] Mz (zqcI d_ [] [] [(0, 7), (0, 8)] [25] Mz (fun v N => zSK F_ (zpop s_) d_ N ∧ (∀ t : Nat, 27 ≤ t → t < 243 → zg N (d_ + 25) t = zg Mz (d_ + 25) t) ∧ v = ((s_.2.1 - 1 : Nat) : Int))) := by
  refine zC_of (L0 := [some (.ref (d_ + 0))]) md_Troupe_takeBack (Nat.le_of_ble_eq_true rfl) rfl ?_ zQ0
  have hf : zFc d_ [] [] [(0, 7), (0, 8)] [25] Mz Mz := zFc.rf
  have r_D0_7 := ze_r Mz (d_ + 0) 7
  have r_D0_8 := ze_r Mz (d_ + 0) 8
  obtain ⟨⟨hF1_, hF27_⟩, hAr_⟩ := id hA_
  obtain ⟨hFc_, hKt_⟩ := id p0_
  obtain ⟨⟨hs1_, hs2_⟩, ⟨hs3_, hs4_⟩, hs5_, hs6_⟩ := id p1_
  refine zw_aload_n (pc := 0) (n := 0) (x := (d_ + 0)) rfl (zdal_p dlB_Troupe_takeBack_149 (i := 0) rfl) ?_
  refine zw_aload_n (pc := 1) (n := 0) (x := (d_ + 0)) rfl (zdal_p dlB_Troupe_takeBack_149 (i := 1) rfl) ?_
  refine zk_getI (pc := 2) f_Troupe_71 rfl ((hf.w hW).kr (o := 0) (by decide)) (zdal_p dlB_Troupe_takeBack_149 (i := 2) rfl) ?_
  refine zw_bipush (pc := 5) (v := Int32.ofInt 12) (by decide) (zdal_p dlB_Troupe_takeBack_149 (i := 3) rfl) ?_
  refine zr_iadd (pc := 7) (zdal_p dlB_Troupe_takeBack_149 (i := 4) rfl) ?_
  refine zw_iconst (pc := 8) (v := Int32.ofInt 1) (by decide) (zdal_p dlB_Troupe_takeBack_149 (i := 5) rfl) ?_
  refine zr_isub (pc := 9) (zdal_p dlB_Troupe_takeBack_149 (i := 6) rfl) ?_
  refine zw_bipush (pc := 10) (v := Int32.ofInt 12) (by decide) (zdal_p dlB_Troupe_takeBack_149 (i := 7) rfl) ?_
  refine zr_irem (pc := 12) ⟨by (decide), by (decide)⟩ (by (decide)) (zdal_p dlB_Troupe_takeBack_149 (i := 8) rfl) ?_
  have hr1_ := zrem_r (((ze Mz (d_ + 0) 8) + 12) - 1) 12
  have hq_ := zrem12 (a := ze Mz (d_ + 0) 8 + 12 - 1) (by omega) (by omega)
  refine zk_putR (pc := 13) (o := 0) (by decide) f_Troupe_71 rfl rfl ((hf.w hW).kr (o := 0) (by decide)) ⟨by (exact zo_284 hr1_.1), by (exact zo_285 hr1_.2)⟩ rfl rfl (zdal_p dlB_Troupe_takeBack_149 (i := 9) rfl) (fun N2_ hsN2_ hvN2_ => ?_)
  have hf_N2_ : zFc d_ [] [] [(0, 7), (0, 8)] [25] Mz N2_ := hf.tr hsN2_ (by decide) (by decide) (by decide) (by decide)
  have eD0_7_N2_ : ze N2_ (d_ + 0) 7 = ze Mz (d_ + 0) 7 := hsN2_.e (by decide)
  have rD0_8_N2_ := ze_r N2_ (d_ + 0) 8
  have c3_ : zKm F_ K_ d_ N2_ := zKm.fr (hf.w hW) hsN2_ p0_ (by decide)
  refine zw_aload_n (pc := 16) (n := 0) (x := (d_ + 0)) rfl (zdal_p dlB_Troupe_takeBack_149 (i := 10) rfl) ?_
  refine zw_dup (pc := 17) rfl (zdal_p dlB_Troupe_takeBack_149 (i := 11) rfl) ?_
  refine zk_getI (pc := 18) f_Troupe_68 rfl ((hf_N2_.w hW).kr (o := 0) (by decide)) (zdal_p dlB_Troupe_takeBack_149 (i := 12) rfl) ?_
  refine zw_iconst (pc := 21) (v := Int32.ofInt 1) (by decide) (zdal_p dlB_Troupe_takeBack_149 (i := 13) rfl) ?_
  refine zr_isub (pc := 22) (zdal_p dlB_Troupe_takeBack_149 (i := 14) rfl) ?_
  refine zk_putR (pc := 23) (o := 0) (by decide) f_Troupe_68 rfl rfl ((hf_N2_.w hW).kr (o := 0) (by decide)) ⟨by (exact zo_5 eD0_7_N2_ hs1_ r_D0_7.1), by (exact zo_6 eD0_7_N2_ r_D0_7.2)⟩ rfl rfl (zdal_p dlB_Troupe_takeBack_149 (i := 15) rfl) (fun N4_ hsN4_ hvN4_ => ?_)
  have hf_N4_ : zFc d_ [] [] [(0, 7), (0, 8)] [25] Mz N4_ := hf_N2_.tr hsN4_ (by decide) (by decide) (by decide) (by decide)
  have rD0_7_N4_ := ze_r N4_ (d_ + 0) 7
  have eD0_8_N4_ : ze N4_ (d_ + 0) 8 = ze N2_ (d_ + 0) 8 := hsN4_.e (by decide)
  have c5_ : zKm F_ K_ d_ N4_ := zKm.fr (hf_N2_.w hW) hsN4_ c3_ (by decide)
  refine zw_aload_n (pc := 26) (n := 0) (x := (d_ + 0)) rfl (zdal_p dlB_Troupe_takeBack_149 (i := 16) rfl) ?_
  refine zw_getF (pc := 27) f_Troupe_32 rfl ((hf_N4_.w hW).kr (o := 0) (by decide)) ((hf_N4_.w hW).lr (o := 0) (s := 2) (r := 23) (by decide)) (zdal_p dlB_Troupe_takeBack_149 (i := 17) rfl) ?_
  refine zw_bipush (pc := 30) (v := Int32.ofInt 9) (by decide) (zdal_p dlB_Troupe_takeBack_149 (i := 18) rfl) ?_
  refine zw_aload_n (pc := 32) (n := 0) (x := (d_ + 0)) rfl (zdal_p dlB_Troupe_takeBack_149 (i := 19) rfl) ?_
  refine zk_getI (pc := 33) f_Troupe_71 rfl ((hf_N4_.w hW).kr (o := 0) (by decide)) (zdal_p dlB_Troupe_takeBack_149 (i := 20) rfl) ?_
  refine zr_iadd (pc := 36) (zdal_p dlB_Troupe_takeBack_149 (i := 21) rfl) ?_
  refine zw_iconst (pc := 37) (v := Int32.ofInt 0) (by decide) (zdal_p dlB_Troupe_takeBack_149 (i := 22) rfl) ?_
  refine zk_callV hf_N4_.x (pc := 38) [.int (Int32.ofInt (9 + (ze N4_ (d_ + 0) 8))), .int (Int32.ofInt 0)] [] l_Troupe_93 (u_Sums_copy l d_ N4_ (hf_N4_.w hW) (9 + (ze N4_ (d_ + 0) 8)) (by omega) (by omega) 0 (by decide) (by decide) F_ K_ hA_ c5_ (show 0 ≤ (9 + (ze N4_ (d_ + 0) 8)) by first | with_reducible assumption | assumption | omega) (show (9 + (ze N4_ (d_ + 0) 8)) ≤ 39 by first | with_reducible assumption | assumption | omega) (show 0 ≤ 0 by first | with_reducible assumption | (decide) | assumption) (show 0 ≤ 39 by first | with_reducible assumption | (decide) | assumption)) rfl rfl ((hf_N4_.w hW).kr (o := 23) (by decide)) (by decide) (by decide) (Nat.le_of_ble_eq_true rfl) (zdal_p dlB_Troupe_takeBack_149 (i := 23) rfl) ?_
  rintro _ N6_ ⟨rfl, hsN6_, hp0_N6_⟩
  replace hp0_N6_ : zSh F_ d_ N4_ N6_ 0 (zvc F_ d_ N4_ (9 + (ze N4_ (d_ + 0) 8))) := hp0_N6_
  have hf_N6_ : zFc d_ [] [] [(0, 7), (0, 8)] [25] Mz N6_ := hf_N4_.tr hsN6_ (by decide) (by decide) (by decide) (by decide)
  have eD0_7_N6_ : ze N6_ (d_ + 0) 7 = ze N4_ (d_ + 0) 7 := hsN6_.e (by decide)
  have eD0_8_N6_ : ze N6_ (d_ + 0) 8 = ze N4_ (d_ + 0) 8 := hsN6_.e (by decide)
  have c8_ : zKm F_ K_ d_ N6_ := zKm.fr (hf_N4_.w hW) hsN6_ c5_ (by decide)
  show zW l m_Troupe_takeBack (zn Mz + 0, zw Mz + 0) N6_ 41 [some (.ref (d_ + 0))] [] _
  have h4_ := hp0_N6_
  have e3_ : ∀ t : Nat, zg N4_ (d_ + 25) t = zg Mz (d_ + 25) t := fun t => (hsN4_.rg (by decide) t).trans (hsN2_.rg (by decide) t)
  refine zw_aload_n (pc := 41) (n := 0) (x := (d_ + 0)) rfl (zdal_p dlB_Troupe_takeBack_150 (i := 0) rfl) ?_
  refine zk_getI (pc := 42) f_Troupe_68 rfl ((hf_N6_.w hW).kr (o := 0) (by decide)) (zdal_p dlB_Troupe_takeBack_150 (i := 1) rfl) ?_
  exact zk_iret (pc := 45) (ty := .int) rfl rfl ⟨by (exact zo_289 eD0_7_N6_ rD0_7_N4_.1), by (exact zo_290 eD0_7_N6_ rD0_7_N4_.2)⟩ hf_N6_ ⟨(show zSK F_ (zpop s_) d_ N6_ by exact zSK.pop hF27_ p1_ p2_ e3_ h4_ (by omega) (by omega) (by omega)), (show (∀ t : Nat, 27 ≤ t → t < 243 → zg N6_ (d_ + 25) t = zg Mz (d_ + 25) t) by exact fun t_ h1t_ h2t_ => by rw [h4_ t_, if_neg (by omega), e3_ t_]), (show (ze N6_ (d_ + 0) 7) = ((s_.2.1 - 1 : Nat) : Int) by first | with_reducible assumption | assumption | omega)⟩ (zdal_p dlB_Troupe_takeBack_150 (i := 2) rfl)
set_option maxHeartbeats 4000000 in
theorem u_Sums_partsOfS (l : Launch) (d_ : Nat) (Mz : zMem) (hW : zKW d_ Mz) (a0_ : Int) (ha0_a : -2147483648 ≤ a0_) (ha0_b : a0_ < 2147483648) (F_ : Nat) (K_ : Nat → Nat → Int) (hA_ : zTA F_ K_) (p0_ : zKm F_ K_ d_ Mz) (p1_ : 0 ≤ a0_) (p2_ : a0_ ≤ 39) : zC l m_Sums_partsOf 0 0 [.ref (d_ + 23), .int (Int32.ofInt a0_)] Mz (zqcI d_ [] [] [] [] Mz (fun v N => v = ((znzc (zvc F_ d_ Mz a0_) F_ : Nat) : Int))) := by
  refine zC_of (L0 := [some (.ref (d_ + 23)), some (.int (Int32.ofInt a0_)), none, none]) md_Sums_partsOf (Nat.le_of_ble_eq_true rfl) rfl ?_ zQ0
  have hf : zFc d_ [] [] [] [] Mz Mz := zFc.rf
  have r_D12_7 := ze_r Mz (d_ + 12) 7
  obtain ⟨⟨hF1_, hF27_⟩, hAr_⟩ := id hA_
  obtain ⟨hFc_, hKt_⟩ := id p0_
  refine zw_iconst (pc := 0) (v := Int32.ofInt 0) (by decide) (zdal_p dlB_Sums_partsOf_108 (i := 0) rfl) ?_
  refine zw_istore_n (pc := 1) (i := 2) (L2 := [some (.ref (d_ + 23)), some (.int (Int32.ofInt a0_)), some (.int (Int32.ofInt 0)), none]) rfl (by decide) rfl (zdal_p dlB_Sums_partsOf_108 (i := 1) rfl) ?_
  refine zw_iconst (pc := 2) (v := Int32.ofInt 0) (by decide) (zdal_p dlB_Sums_partsOf_108 (i := 2) rfl) ?_
  refine zw_istore_n (pc := 3) (i := 3) (L2 := [some (.ref (d_ + 23)), some (.int (Int32.ofInt a0_)), some (.int (Int32.ofInt 0)), some (.int (Int32.ofInt 0))]) rfl (by decide) rfl (zdal_p dlB_Sums_partsOf_108 (i := 3) rfl) ?_
  have lp_4 : ∀ (n : Nat) (u1_ : Int) (hu1_a : -2147483648 ≤ u1_) (hu1_b : u1_ < 2147483648) (u2_ : Int) (hu2_a : -2147483648 ≤ u2_) (hu2_b : u2_ < 2147483648) (i3_ : 0 ≤ u2_) (i4_ : u2_ ≤ F_) (i5_ : u1_ = ((znzc (zvc F_ d_ Mz a0_) (u2_).toNat : Nat) : Int)) (i6_ : 0 ≤ u1_ ∧ u1_ ≤ u2_), (F_ - u2_).toNat < n → zW l m_Sums_partsOf (zn Mz + 0, zw Mz + 0) Mz 4 [some (.ref (d_ + 23)), some (.int (Int32.ofInt a0_)), some (.int (Int32.ofInt u1_)), some (.int (Int32.ofInt u2_))] [] (zqcI d_ [] [] [] [] Mz (fun v N => v = ((znzc (zvc F_ d_ Mz a0_) F_ : Nat) : Int))) := by
    intro n
    induction n with
    | zero =>
      intro u1_ hu1_a hu1_b u2_ hu2_a hu2_b i3_ i4_ i5_ i6_ h0
      exact absurd h0 (Nat.not_lt_zero _)
    | succ n ih_4 =>
      intro u1_ hu1_a hu1_b u2_ hu2_a hu2_b i3_ i4_ i5_ i6_ hlt_4
      have hnz_ := (show u1_ = ((znzc (zvc F_ d_ Mz a0_) (u2_).toNat : Nat) : Int) by first | with_reducible assumption | assumption)
      refine zw_iload_n (pc := 4) (n := 3) (x := Int32.ofInt u2_) rfl (zdal_p dlB_Sums_partsOf_108 (i := 4) rfl) ?_
      refine zw_aload_n (pc := 5) (n := 0) (x := (d_ + 23)) rfl (zdal_p dlB_Sums_partsOf_108 (i := 5) rfl) ?_
      refine zw_getF (pc := 6) f_Sums_23 rfl ((hf.w hW).kr (o := 23) (by decide)) ((hf.w hW).lr (o := 23) (s := 0) (r := 12) (by decide)) (zdal_p dlB_Sums_partsOf_108 (i := 6) rfl) ?_
      refine zk_getI (pc := 9) f_Sums_35 rfl ((hf.w hW).kr (o := 12) (by decide)) (zdal_p dlB_Sums_partsOf_108 (i := 7) rfl) ?_
      refine zr_icmp_ge (pc := 12) (tgt := 35) ⟨hu2_a, hu2_b⟩ ⟨(ze_r Mz (d_ + 12) 7).1, (ze_r Mz (d_ + 12) 7).2⟩ (by decide) (zdal_p dlB_Sums_partsOf_108 (i := 8) rfl) (fun hc_12 => ?_) (fun hc_12 => ?_)
      · skip
        refine zw_iload_n (pc := 35) (n := 2) (x := Int32.ofInt u1_) rfl (zdal_p dlB_Sums_partsOf_108 (i := 19) rfl) ?_
        exact zk_iret (pc := 36) (ty := .int) rfl rfl ⟨by (exact hu1_a), by (exact hu1_b)⟩ hf (show u1_ = ((znzc (zvc F_ d_ Mz a0_) F_ : Nat) : Int) by have h_ := hnz_; rw [show (u2_).toNat = F_ by (exact zo_2611 hF27_ hFc_ hc_12 hu2_b i3_ i4_)] at h_; exact h_) (zdal_p dlB_Sums_partsOf_108 (i := 20) rfl)
      · skip
        refine zw_aload_n (pc := 15) (n := 0) (x := (d_ + 23)) rfl (zdal_p dlB_Sums_partsOf_108 (i := 9) rfl) ?_
        refine zw_iload_n (pc := 16) (n := 1) (x := Int32.ofInt a0_) rfl (zdal_p dlB_Sums_partsOf_108 (i := 10) rfl) ?_
        refine zw_iload_n (pc := 17) (n := 3) (x := Int32.ofInt u2_) rfl (zdal_p dlB_Sums_partsOf_108 (i := 11) rfl) ?_
        refine zk_callV hf.x (pc := 18) [.int (Int32.ofInt a0_), .int (Int32.ofInt u2_)] [] l_Sums_67 (u_Sums_numberAt l d_ Mz (hf.w hW) a0_ ha0_a ha0_b u2_ hu2_a hu2_b (show 0 ≤ a0_ by first | with_reducible assumption | assumption | omega) (show a0_ ≤ 39 by first | with_reducible assumption | assumption | omega) (show 0 ≤ u2_ by first | with_reducible assumption | assumption | omega) (show u2_ ≤ 26 by first | with_reducible assumption | (exact zo_2795 hF27_ hFc_ hc_12 hu2_b i4_) | assumption)) rfl rfl ((hf.w hW).kr (o := 23) (by decide)) (by decide) (by decide) (Nat.le_of_ble_eq_true rfl) (zdal_p dlB_Sums_partsOf_108 (i := 12) rfl) ?_
        rintro _ N7_ ⟨v8_, rfl, ⟨hv8_a, hv8_b⟩, hsN7_, hp0_N7_⟩
        obtain rfl := hsN7_.eq.symm
        replace hp0_N7_ : v8_ = zg Mz (d_ + 25) (a0_ * 27 + u2_).toNat := hp0_N7_
        show zW l m_Sums_partsOf (zn Mz + 0, zw Mz + 0) Mz 21 [some (.ref (d_ + 23)), some (.int (Int32.ofInt a0_)), some (.int (Int32.ofInt u1_)), some (.int (Int32.ofInt u2_))] [.long (Int64.ofInt v8_)] _
        have hx_ := zvc_at (F := F_) (k := (u2_).toNat) (s := a0_) (by (exact zo_73 hFc_ hc_12 hu2_b i3_ i4_)) (by (exact p1_)) hp0_N7_ (by (exact zo_2206 i3_ p1_))
        refine zw_lconst (pc := 21) (v := Int64.ofInt 0) (by decide) (zdal_p dlB_Sums_partsOf_108 (i := 13) rfl) ?_
        refine zr_lcmp (pc := 22) ⟨hv8_a, hv8_b⟩ ⟨(by decide), (by decide)⟩ (zdal_p dlB_Sums_partsOf_108 (i := 14) rfl) ?_
        have hr9_ := zcmp_s v8_ 0
        refine zr_if_eq (pc := 23) (tgt := 29) ⟨(by (exact zo_71 hr9_)), (by (exact zo_72 hr9_))⟩ (by decide) (zdal_p dlB_Sums_partsOf_108 (i := 15) rfl) (fun hc_23 => ?_) (fun hc_23 => ?_)
        · skip
          refine zr_iinc (pc := 29) (i := 3) (a := u2_) (n := 1) (L2 := [some (.ref (d_ + 23)), some (.int (Int32.ofInt a0_)), some (.int (Int32.ofInt u1_)), some (.int (Int32.ofInt (u2_ + 1)))]) rfl (by decide) rfl (zdal_p dlB_Sums_partsOf_108 (i := 17) rfl) ?_
          refine zw_goto (pc := 32) (tgt := 4) (by decide) (zdal_p dlB_Sums_partsOf_108 (i := 18) rfl) ?_
          exact ih_4 u1_ hu1_a hu1_b (u2_ + 1) (by (exact zo_74 i3_)) (by (exact zo_75 hF27_ hu2_b i4_)) (show 0 ≤ (u2_ + 1) by first | with_reducible assumption | (exact zo_76 i3_) | assumption) (show (u2_ + 1) ≤ F_ by first | with_reducible assumption | (exact zo_77 hFc_ hc_12 hu2_b i4_) | assumption) (show u1_ = ((znzc (zvc F_ d_ Mz a0_) ((u2_ + 1)).toNat : Nat) : Int) by exact znzc_s hnz_ (by (exact i3_)) _ _ hx_ (by first | exact Or.inl ⟨by omega, rfl⟩ | exact Or.inr ⟨by omega, rfl⟩)) (show 0 ≤ u1_ ∧ u1_ ≤ (u2_ + 1) by first | with_reducible assumption | assumption | omega) (by (exact zo_78 hFc_ hc_12 hlt_4 hu2_b i4_))
        · skip
          refine zr_iinc (pc := 26) (i := 2) (a := u1_) (n := 1) (L2 := [some (.ref (d_ + 23)), some (.int (Int32.ofInt a0_)), some (.int (Int32.ofInt (u1_ + 1))), some (.int (Int32.ofInt u2_))]) rfl (by decide) rfl (zdal_p dlB_Sums_partsOf_108 (i := 16) rfl) ?_
          refine zr_iinc (pc := 29) (i := 3) (a := u2_) (n := 1) (L2 := [some (.ref (d_ + 23)), some (.int (Int32.ofInt a0_)), some (.int (Int32.ofInt (u1_ + 1))), some (.int (Int32.ofInt (u2_ + 1)))]) rfl (by decide) rfl (zdal_p dlB_Sums_partsOf_108 (i := 17) rfl) ?_
          refine zw_goto (pc := 32) (tgt := 4) (by decide) (zdal_p dlB_Sums_partsOf_108 (i := 18) rfl) ?_
          exact ih_4 (u1_ + 1) (by (exact zo_74 i6_.1)) (by omega) (u2_ + 1) (by (exact zo_74 i3_)) (by (exact zo_75 hF27_ hu2_b i4_)) (show 0 ≤ (u2_ + 1) by first | with_reducible assumption | (exact zo_76 i3_) | assumption) (show (u2_ + 1) ≤ F_ by first | with_reducible assumption | (exact zo_77 hFc_ hc_12 hu2_b i4_) | assumption) (show (u1_ + 1) = ((znzc (zvc F_ d_ Mz a0_) ((u2_ + 1)).toNat : Nat) : Int) by exact znzc_s hnz_ (by (exact i3_)) _ _ hx_ (by first | exact Or.inl ⟨by omega, rfl⟩ | exact Or.inr ⟨by omega, rfl⟩)) (show 0 ≤ (u1_ + 1) ∧ (u1_ + 1) ≤ (u2_ + 1) by first | with_reducible assumption | assumption | omega) (by (exact zo_78 hFc_ hc_12 hlt_4 hu2_b i4_))
  exact lp_4 _ 0 (by decide) (by decide) 0 (by decide) (by decide) (show 0 ≤ (0 : Int) by first | with_reducible assumption | (decide) | assumption) (show (0 : Int) ≤ F_ by first | with_reducible assumption | (exact zo_85) | assumption) (show (0 : Int) = ((znzc (zvc F_ d_ Mz a0_) ((0 : Int)).toNat : Nat) : Int) by rfl) (show 0 ≤ (0 : Int) ∧ (0 : Int) ≤ (0 : Int) by first | with_reducible assumption | (decide) | assumption) (Nat.lt_succ_self _)
set_option maxHeartbeats 4000000 in
theorem u_Sums_putGrownS (l : Launch) (d_ : Nat) (Mz : zMem) (hW : zKW d_ Mz) (a0_ : Int) (ha0_a : -2147483648 ≤ a0_) (ha0_b : a0_ < 2147483648) (a1_ : Int) (ha1_a : -2147483648 ≤ a1_) (ha1_b : a1_ < 2147483648) (a2_ : Int) (ha2_a : -2147483648 ≤ a2_) (ha2_b : a2_ < 2147483648) (F_ : Nat) (K_ : Nat → Nat → Int) (hA_ : zTA F_ K_) (p0_ : zKm F_ K_ d_ Mz) (p1_ : zlm F_ (zvc F_ d_ Mz 0)) (p2_ : -9 ≤ a0_) (p3_ : a0_ ≤ 9) (p4_ : -999 ≤ a1_) (p5_ : a1_ ≤ 999) : zC l m_Sums_putGrown 0 0 [.ref (d_ + 23), .int (Int32.ofInt a0_), .int (Int32.ofInt a1_), .int (Int32.ofInt a2_)] Mz (zqcV d_ [] [] [] [25] Mz (fun N => zSh F_ d_ Mz N 39 (zgrw (zvc F_ d_ Mz 0) a0_ a1_ a2_))) := by
  refine zC_of (L0 := [some (.ref (d_ + 23)), some (.int (Int32.ofInt a0_)), some (.int (Int32.ofInt a1_)), some (.int (Int32.ofInt a2_)), none]) md_Sums_putGrown (Nat.le_of_ble_eq_true rfl) rfl ?_ zQ0
  have hf : zFc d_ [] [] [] [25] Mz Mz := zFc.rf
  have r_D12_7 := ze_r Mz (d_ + 12) 7
  obtain ⟨⟨hF1_, hF27_⟩, hAr_⟩ := id hA_
  obtain ⟨hFc_, hKt_⟩ := id p0_
  refine zw_iconst (pc := 0) (v := Int32.ofInt 0) (by decide) (zdal_p dlB_Sums_putGrown_146 (i := 0) rfl) ?_
  refine zw_istore (pc := 1) (i := 4) (L2 := [some (.ref (d_ + 23)), some (.int (Int32.ofInt a0_)), some (.int (Int32.ofInt a1_)), some (.int (Int32.ofInt a2_)), some (.int (Int32.ofInt 0))]) (by decide) rfl (zdal_p dlB_Sums_putGrown_146 (i := 1) rfl) ?_
  have lp_3 : ∀ (n : Nat) (u1_ : Int) (hu1_a : -2147483648 ≤ u1_) (hu1_b : u1_ < 2147483648) (N2_ : zMem) (hs3_ : zFc d_ [] [] [] [25] Mz N2_) (i4_ : 0 ≤ u1_) (i5_ : u1_ ≤ F_) (i6_ : zSh u1_ d_ Mz N2_ 39 (zgrw (zvc F_ d_ Mz 0) a0_ a1_ a2_)), (F_ - u1_).toNat < n → zW l m_Sums_putGrown (zn Mz + 0, zw Mz + 0) N2_ 3 [some (.ref (d_ + 23)), some (.int (Int32.ofInt a0_)), some (.int (Int32.ofInt a1_)), some (.int (Int32.ofInt a2_)), some (.int (Int32.ofInt u1_))] [] (zqcV d_ [] [] [] [25] Mz (fun N => zSh F_ d_ Mz N 39 (zgrw (zvc F_ d_ Mz 0) a0_ a1_ a2_))) := by
    intro n
    induction n with
    | zero =>
      intro u1_ hu1_a hu1_b N2_ hs3_ i4_ i5_ i6_ h0
      exact absurd h0 (Nat.not_lt_zero _)
    | succ n ih_3 =>
      intro u1_ hu1_a hu1_b N2_ hs3_ i4_ i5_ i6_ hlt_3
      have hf_N2_ : zFc d_ [] [] [] [25] Mz N2_ := hf.tr hs3_ (by decide) (by decide) (by decide) (by decide)
      have eD12_7_N2_ : ze N2_ (d_ + 12) 7 = ze Mz (d_ + 12) 7 := hs3_.e (by decide)
      have c7_ : zKm F_ K_ d_ N2_ := zKm.fr (hf.w hW) hs3_ p0_ (by decide)
      have hgi_ := (show zSh u1_ d_ Mz N2_ 39 (zgrw (zvc F_ d_ Mz 0) a0_ a1_ a2_) by first | with_reducible assumption | assumption)
      refine zw_iload (pc := 3) (i := 4) (x := Int32.ofInt u1_) rfl (zdal_p dlB_Sums_putGrown_146 (i := 2) rfl) ?_
      refine zw_aload_n (pc := 5) (n := 0) (x := (d_ + 23)) rfl (zdal_p dlB_Sums_putGrown_146 (i := 3) rfl) ?_
      refine zw_getF (pc := 6) f_Sums_23 rfl ((hf_N2_.w hW).kr (o := 23) (by decide)) ((hf_N2_.w hW).lr (o := 23) (s := 0) (r := 12) (by decide)) (zdal_p dlB_Sums_putGrown_146 (i := 4) rfl) ?_
      refine zk_getI (pc := 9) f_Sums_35 rfl ((hf_N2_.w hW).kr (o := 12) (by decide)) (zdal_p dlB_Sums_putGrown_146 (i := 5) rfl) ?_
      rw [hf_N2_.e (by decide)]
      refine zr_icmp_ge (pc := 12) (tgt := 52) ⟨hu1_a, hu1_b⟩ ⟨(ze_r Mz (d_ + 12) 7).1, (ze_r Mz (d_ + 12) 7).2⟩ (by decide) (zdal_p dlB_Sums_putGrown_146 (i := 6) rfl) (fun hc_12 => ?_) (fun hc_12 => ?_)
      · skip
        exact zk_vret (pc := 52) rfl hf_N2_ (show zSh F_ d_ Mz N2_ 39 (zgrw (zvc F_ d_ Mz 0) a0_ a1_ a2_) by rw [show (F_ : Int) = u1_ by (exact zo_69 hF27_ hFc_ hc_12 hu1_b i4_ i5_)]; exact hgi_) (zdal_p dlB_Sums_putGrown_147 (i := 4) rfl)
      · skip
        refine zw_aload_n (pc := 15) (n := 0) (x := (d_ + 23)) rfl (zdal_p dlB_Sums_putGrown_146 (i := 7) rfl) ?_
        refine zw_bipush (pc := 16) (v := Int32.ofInt 39) (by decide) (zdal_p dlB_Sums_putGrown_146 (i := 8) rfl) ?_
        refine zw_iload (pc := 18) (i := 4) (x := Int32.ofInt u1_) rfl (zdal_p dlB_Sums_putGrown_146 (i := 9) rfl) ?_
        refine zw_iload_n (pc := 20) (n := 1) (x := Int32.ofInt a0_) rfl (zdal_p dlB_Sums_putGrown_146 (i := 10) rfl) ?_
        refine zr_i2l (pc := 21) ⟨ha0_a, ha0_b⟩ (zdal_p dlB_Sums_putGrown_146 (i := 11) rfl) ?_
        refine zw_aload_n (pc := 22) (n := 0) (x := (d_ + 23)) rfl (zdal_p dlB_Sums_putGrown_146 (i := 12) rfl) ?_
        refine zw_iconst (pc := 23) (v := Int32.ofInt 0) (by decide) (zdal_p dlB_Sums_putGrown_146 (i := 13) rfl) ?_
        refine zw_iload (pc := 24) (i := 4) (x := Int32.ofInt u1_) rfl (zdal_p dlB_Sums_putGrown_146 (i := 14) rfl) ?_
        refine zk_callV hf_N2_.x (pc := 26) [.int (Int32.ofInt 0), .int (Int32.ofInt u1_)] [.long (Int64.ofInt a0_), .int (Int32.ofInt u1_), .int (Int32.ofInt 39), .ref (d_ + 23)] l_Sums_67 (u_Sums_numberAt l d_ N2_ (hf_N2_.w hW) 0 (by decide) (by decide) u1_ hu1_a hu1_b (show 0 ≤ 0 by first | with_reducible assumption | (decide) | assumption) (show 0 ≤ 39 by first | with_reducible assumption | (decide) | assumption) (show 0 ≤ u1_ by first | with_reducible assumption | assumption | omega) (show u1_ ≤ 26 by first | with_reducible assumption | (exact zo_2795 hF27_ hFc_ hc_12 hu1_b i5_) | assumption)) rfl rfl ((hf_N2_.w hW).kr (o := 23) (by decide)) (by decide) (by decide) (Nat.le_of_ble_eq_true rfl) (zdal_p dlB_Sums_putGrown_146 (i := 15) rfl) ?_
        rintro _ N8_ ⟨v9_, rfl, ⟨hv9_a, hv9_b⟩, hsN8_, hp0_N8_⟩
        obtain rfl := hsN8_.eq.symm
        replace hp0_N8_ : v9_ = zg N2_ (d_ + 25) (0 * 27 + u1_).toNat := hp0_N8_
        show zW l m_Sums_putGrown (zn Mz + 0, zw Mz + 0) N2_ 29 [some (.ref (d_ + 23)), some (.int (Int32.ofInt a0_)), some (.int (Int32.ofInt a1_)), some (.int (Int32.ofInt a2_)), some (.int (Int32.ofInt u1_))] [.long (Int64.ofInt v9_), .long (Int64.ofInt a0_), .int (Int32.ofInt u1_), .int (Int32.ofInt 39), .ref (d_ + 23)] _
        have hx_ := zvc_at (F := F_) (k := (u1_).toNat) (s := 0) (by (exact zo_73 hFc_ hc_12 hu1_b i4_ i5_)) (by (decide)) (zSh_a hgi_ hp0_N8_ (by omega)) (by omega)
        have hb_ := p1_ (u1_).toNat (by (exact zo_73 hFc_ hc_12 hu1_b i4_ i5_))
        unfold zLim at hb_
        rw [← hx_] at hb_
        have hm_ := zmul9 p2_ p3_ hb_.1 hb_.2
        refine zr_lmul (pc := 29) (zdal_p dlB_Sums_putGrown_146 (i := 16) rfl) ?_
        refine zw_iload (pc := 30) (i := 4) (x := Int32.ofInt u1_) rfl (zdal_p dlB_Sums_putGrown_146 (i := 17) rfl) ?_
        refine zw_iload_n (pc := 32) (n := 3) (x := Int32.ofInt a2_) rfl (zdal_p dlB_Sums_putGrown_146 (i := 18) rfl) ?_
        refine zr_icmp_ne (pc := 33) (tgt := 40) ⟨hu1_a, hu1_b⟩ ⟨ha2_a, ha2_b⟩ (by decide) (zdal_p dlB_Sums_putGrown_146 (i := 19) rfl) (fun hc_33 => ?_) (fun hc_33 => ?_)
        · skip
          refine zw_iconst (pc := 40) (v := Int32.ofInt 0) (by decide) (zdal_p dlB_Sums_putGrown_146 (i := 22) rfl) ?_
          refine zr_i2l (pc := 41) ⟨(by decide), (by decide)⟩ (zdal_p dlB_Sums_putGrown_146 (i := 23) rfl) ?_
          refine zr_ladd (pc := 42) (zdal_p dlB_Sums_putGrown_147 (i := 0) rfl) ?_
          refine zk_callV hf_N2_.x (pc := 43) [.int (Int32.ofInt 39), .int (Int32.ofInt u1_), .long (Int64.ofInt ((a0_ * v9_) + 0))] [] l_Sums_70 (u_Sums_putNumber l d_ N2_ (hf_N2_.w hW) 39 (by decide) (by decide) u1_ hu1_a hu1_b ((a0_ * v9_) + 0) (by omega) (by omega) (show 0 ≤ 39 by first | with_reducible assumption | (decide) | assumption) (show 39 ≤ 39 by first | with_reducible assumption | (decide) | assumption) (show 0 ≤ u1_ by first | with_reducible assumption | assumption | omega) (show u1_ ≤ 26 by first | with_reducible assumption | (exact zo_2795 hF27_ hFc_ hc_12 hu1_b i5_) | assumption)) rfl rfl ((hf_N2_.w hW).kr (o := 23) (by decide)) (by decide) (by decide) (Nat.le_of_ble_eq_true rfl) (zdal_p dlB_Sums_putGrown_147 (i := 1) rfl) ?_
          rintro _ N10_ ⟨rfl, hsN10_, hp0_N10_⟩
          replace hp0_N10_ : zS1 d_ N2_ N10_ (39 * 27 + u1_) ((a0_ * v9_) + 0) := hp0_N10_
          have hf_N10_ : zFc d_ [] [] [] [25] Mz N10_ := hf_N2_.tr hsN10_ (by decide) (by decide) (by decide) (by decide)
          have hb0_N10_ : zFc d_ [] [] [] [25] Mz N10_ := hs3_.tr hsN10_ (by decide) (by decide) (by decide) (by decide)
          have eD12_7_N10_ : ze N10_ (d_ + 12) 7 = ze N2_ (d_ + 12) 7 := hsN10_.e (by decide)
          have c12_ : zKm F_ K_ d_ N10_ := zKm.fr (hf_N2_.w hW) hsN10_ c7_ (by decide)
          show zW l m_Sums_putGrown (zn Mz + 0, zw Mz + 0) N10_ 46 [some (.ref (d_ + 23)), some (.int (Int32.ofInt a0_)), some (.int (Int32.ofInt a1_)), some (.int (Int32.ofInt a2_)), some (.int (Int32.ofInt u1_))] [] _
          have hs1_ := zSh_s hgi_ hp0_N10_ rfl (by (exact i4_)) (by show _ = _ * _ + (if _ then _ else _); rw [← hx_]; first | rw [if_pos (by omega)] | rw [if_neg (by omega)])
          refine zr_iinc (pc := 46) (i := 4) (a := u1_) (n := 1) (L2 := [some (.ref (d_ + 23)), some (.int (Int32.ofInt a0_)), some (.int (Int32.ofInt a1_)), some (.int (Int32.ofInt a2_)), some (.int (Int32.ofInt (u1_ + 1)))]) rfl (by decide) rfl (zdal_p dlB_Sums_putGrown_147 (i := 2) rfl) ?_
          refine zw_goto (pc := 49) (tgt := 3) (by decide) (zdal_p dlB_Sums_putGrown_147 (i := 3) rfl) ?_
          exact ih_3 (u1_ + 1) (by (exact zo_74 i4_)) (by (exact zo_75 hF27_ hu1_b i5_)) N10_ hb0_N10_ (show 0 ≤ (u1_ + 1) by first | with_reducible assumption | (exact zo_76 i4_) | assumption) (show (u1_ + 1) ≤ F_ by first | with_reducible assumption | (exact zo_77 hFc_ hc_12 hu1_b i5_) | assumption) (show zSh (u1_ + 1) d_ Mz N10_ 39 (zgrw (zvc F_ d_ Mz 0) a0_ a1_ a2_) by exact hs1_) (by (exact zo_78 hFc_ hc_12 hlt_3 hu1_b i5_))
        · skip
          refine zw_iload_n (pc := 36) (n := 2) (x := Int32.ofInt a1_) rfl (zdal_p dlB_Sums_putGrown_146 (i := 20) rfl) ?_
          refine zw_goto (pc := 37) (tgt := 41) (by decide) (zdal_p dlB_Sums_putGrown_146 (i := 21) rfl) ?_
          refine zr_i2l (pc := 41) ⟨ha1_a, ha1_b⟩ (zdal_p dlB_Sums_putGrown_146 (i := 23) rfl) ?_
          refine zr_ladd (pc := 42) (zdal_p dlB_Sums_putGrown_147 (i := 0) rfl) ?_
          refine zk_callV hf_N2_.x (pc := 43) [.int (Int32.ofInt 39), .int (Int32.ofInt u1_), .long (Int64.ofInt ((a0_ * v9_) + a1_))] [] l_Sums_70 (u_Sums_putNumber l d_ N2_ (hf_N2_.w hW) 39 (by decide) (by decide) u1_ hu1_a hu1_b ((a0_ * v9_) + a1_) (by omega) (by omega) (show 0 ≤ 39 by first | with_reducible assumption | (decide) | assumption) (show 39 ≤ 39 by first | with_reducible assumption | (decide) | assumption) (show 0 ≤ u1_ by first | with_reducible assumption | assumption | omega) (show u1_ ≤ 26 by first | with_reducible assumption | (exact zo_2795 hF27_ hFc_ hc_12 hu1_b i5_) | assumption)) rfl rfl ((hf_N2_.w hW).kr (o := 23) (by decide)) (by decide) (by decide) (Nat.le_of_ble_eq_true rfl) (zdal_p dlB_Sums_putGrown_147 (i := 1) rfl) ?_
          rintro _ N13_ ⟨rfl, hsN13_, hp0_N13_⟩
          replace hp0_N13_ : zS1 d_ N2_ N13_ (39 * 27 + u1_) ((a0_ * v9_) + a1_) := hp0_N13_
          have hf_N13_ : zFc d_ [] [] [] [25] Mz N13_ := hf_N2_.tr hsN13_ (by decide) (by decide) (by decide) (by decide)
          have hb0_N13_ : zFc d_ [] [] [] [25] Mz N13_ := hs3_.tr hsN13_ (by decide) (by decide) (by decide) (by decide)
          have eD12_7_N13_ : ze N13_ (d_ + 12) 7 = ze N2_ (d_ + 12) 7 := hsN13_.e (by decide)
          have c15_ : zKm F_ K_ d_ N13_ := zKm.fr (hf_N2_.w hW) hsN13_ c7_ (by decide)
          show zW l m_Sums_putGrown (zn Mz + 0, zw Mz + 0) N13_ 46 [some (.ref (d_ + 23)), some (.int (Int32.ofInt a0_)), some (.int (Int32.ofInt a1_)), some (.int (Int32.ofInt a2_)), some (.int (Int32.ofInt u1_))] [] _
          have hs1_ := zSh_s hgi_ hp0_N13_ rfl (by (exact i4_)) (by show _ = _ * _ + (if _ then _ else _); rw [← hx_]; first | rw [if_pos (by omega)] | rw [if_neg (by omega)])
          refine zr_iinc (pc := 46) (i := 4) (a := u1_) (n := 1) (L2 := [some (.ref (d_ + 23)), some (.int (Int32.ofInt a0_)), some (.int (Int32.ofInt a1_)), some (.int (Int32.ofInt a2_)), some (.int (Int32.ofInt (u1_ + 1)))]) rfl (by decide) rfl (zdal_p dlB_Sums_putGrown_147 (i := 2) rfl) ?_
          refine zw_goto (pc := 49) (tgt := 3) (by decide) (zdal_p dlB_Sums_putGrown_147 (i := 3) rfl) ?_
          exact ih_3 (u1_ + 1) (by (exact zo_74 i4_)) (by (exact zo_75 hF27_ hu1_b i5_)) N13_ hb0_N13_ (show 0 ≤ (u1_ + 1) by first | with_reducible assumption | (exact zo_76 i4_) | assumption) (show (u1_ + 1) ≤ F_ by first | with_reducible assumption | (exact zo_77 hFc_ hc_12 hu1_b i5_) | assumption) (show zSh (u1_ + 1) d_ Mz N13_ 39 (zgrw (zvc F_ d_ Mz 0) a0_ a1_ a2_) by exact hs1_) (by (exact zo_78 hFc_ hc_12 hlt_3 hu1_b i5_))
  exact lp_3 _ 0 (by decide) (by decide) Mz zFc.rf (show 0 ≤ (0 : Int) by first | with_reducible assumption | (decide) | assumption) (show (0 : Int) ≤ F_ by first | with_reducible assumption | (exact zo_85) | assumption) (show zSh (0 : Int) d_ Mz Mz 39 (zgrw (zvc F_ d_ Mz 0) a0_ a1_ a2_) by exact zSh_0) (Nat.lt_succ_self _)
set_option maxHeartbeats 4000000 in
theorem u_Troupe_hasNameS (l : Launch) (d_ : Nat) (Mz : zMem) (hW : zKW d_ Mz) (a0_ : Int) (ha0_a : -2147483648 ≤ a0_) (ha0_b : a0_ < 2147483648) : zC l m_Troupe_hasName 0 0 [.ref (d_ + 0), .int (Int32.ofInt a0_)] Mz (zqcI d_ [] [] [] [] Mz (fun v N => (((v = 1 ∧ 0 ≤ a0_ ∧ a0_ < ze Mz (d_ + 0) 6) ∨ (v = 0 ∧ (a0_ < 0 ∨ ze Mz (d_ + 0) 6 ≤ a0_)))))) := by
  refine zC_of (L0 := [some (.ref (d_ + 0)), some (.int (Int32.ofInt a0_))]) md_Troupe_hasName (Nat.le_of_ble_eq_true rfl) rfl ?_ zQ0
  have hf : zFc d_ [] [] [] [] Mz Mz := zFc.rf
  have r_D0_6 := ze_r Mz (d_ + 0) 6
  refine zw_iload_n (pc := 0) (n := 1) (x := Int32.ofInt a0_) rfl (zdal_p dlB_Troupe_hasName_103 (i := 0) rfl) ?_
  refine zr_if_lt (pc := 1) (tgt := 16) ⟨ha0_a, ha0_b⟩ (by decide) (zdal_p dlB_Troupe_hasName_103 (i := 1) rfl) (fun hc_1 => ?_) (fun hc_1 => ?_)
  · skip
    refine zw_iconst (pc := 16) (v := Int32.ofInt 0) (by decide) (zdal_p dlB_Troupe_hasName_103 (i := 8) rfl) ?_
    exact zk_iret (pc := 17) (ty := .boolean) rfl (z_narB (by (decide))) ⟨by (decide), by (decide)⟩ hf (show ((0 = 1 ∧ 0 ≤ a0_ ∧ a0_ < ze Mz (d_ + 0) 6) ∨ (0 = 0 ∧ (a0_ < 0 ∨ ze Mz (d_ + 0) 6 ≤ a0_))) from Or.inr (⟨(show 0 = 0 by first | with_reducible assumption | (decide) | assumption), (show (a0_ < 0 ∨ ze Mz (d_ + 0) 6 ≤ a0_) by first | with_reducible assumption | assumption | omega)⟩)) d_Troupe_hasName_17
  · skip
    refine zw_iload_n (pc := 4) (n := 1) (x := Int32.ofInt a0_) rfl (zdal_p dlB_Troupe_hasName_103 (i := 2) rfl) ?_
    refine zw_aload_n (pc := 5) (n := 0) (x := (d_ + 0)) rfl (zdal_p dlB_Troupe_hasName_103 (i := 3) rfl) ?_
    refine zk_getI (pc := 6) f_Troupe_64 rfl ((hf.w hW).kr (o := 0) (by decide)) (zdal_p dlB_Troupe_hasName_103 (i := 4) rfl) ?_
    refine zr_icmp_ge (pc := 9) (tgt := 16) ⟨ha0_a, ha0_b⟩ ⟨(ze_r Mz (d_ + 0) 6).1, (ze_r Mz (d_ + 0) 6).2⟩ (by decide) (zdal_p dlB_Troupe_hasName_103 (i := 5) rfl) (fun hc_9 => ?_) (fun hc_9 => ?_)
    · skip
      refine zw_iconst (pc := 16) (v := Int32.ofInt 0) (by decide) (zdal_p dlB_Troupe_hasName_103 (i := 8) rfl) ?_
      exact zk_iret (pc := 17) (ty := .boolean) rfl (z_narB (by (decide))) ⟨by (decide), by (decide)⟩ hf (show ((0 = 1 ∧ 0 ≤ a0_ ∧ a0_ < ze Mz (d_ + 0) 6) ∨ (0 = 0 ∧ (a0_ < 0 ∨ ze Mz (d_ + 0) 6 ≤ a0_))) from Or.inr (⟨(show 0 = 0 by first | with_reducible assumption | (decide) | assumption), (show (a0_ < 0 ∨ ze Mz (d_ + 0) 6 ≤ a0_) by first | with_reducible assumption | assumption | omega)⟩)) d_Troupe_hasName_17
    · skip
      refine zw_iconst (pc := 12) (v := Int32.ofInt 1) (by decide) (zdal_p dlB_Troupe_hasName_103 (i := 6) rfl) ?_
      refine zw_goto (pc := 13) (tgt := 17) (by decide) (zdal_p dlB_Troupe_hasName_103 (i := 7) rfl) ?_
      exact zk_iret (pc := 17) (ty := .boolean) rfl (z_narB (by (decide))) ⟨by (decide), by (decide)⟩ hf (show ((1 = 1 ∧ 0 ≤ a0_ ∧ a0_ < ze Mz (d_ + 0) 6) ∨ (1 = 0 ∧ (a0_ < 0 ∨ ze Mz (d_ + 0) 6 ≤ a0_))) from Or.inl (⟨(show 1 = 1 by first | with_reducible assumption | (decide) | assumption), (show 0 ≤ a0_ by first | with_reducible assumption | assumption | omega), (show a0_ < ze Mz (d_ + 0) 6 by first | with_reducible assumption | assumption | omega)⟩)) d_Troupe_hasName_17
set_option maxHeartbeats 4000000 in
theorem u_T_usesS (l : Launch) (d_ : Nat) (Mz : zMem) (hW : zKW d_ Mz) (hnow : zf Mz 0 2 = some (d_ + 0)) (a0_ : Int) (ha0_a : -2147483648 ≤ a0_) (ha0_b : a0_ < 2147483648) (F_ : Nat) (K_ : Nat → Nat → Int) (hA_ : zTA F_ K_) (s_ : zSg) (nm_ : List (Int × (Nat → Int))) (p0_ : zKm F_ K_ d_ Mz) (p1_ : zSK F_ s_ d_ Mz) (p2_ : zNm nm_ F_ K_ d_ Mz) : zC l m_T_uses 0 0 [.ref 0, .int (Int32.ofInt a0_)] Mz (zqcI d_ [] [] [(0, 7), (0, 8)] [25] Mz (fun v N => ((((0 ≤ a0_ ∧ a0_ < (nm_.length : Int)) ∧ zSK F_ (zpush s_ (zvun nm_ (a0_).toNat)) d_ N ∧ v = ((znzc (zvun nm_ (a0_).toNat) F_ : Nat) : Int)) ∨ (¬ (0 ≤ a0_ ∧ a0_ < (nm_.length : Int)) ∧ zSK F_ s_ d_ N ∧ v = (-1 : Int)))) ∧ zNm nm_ F_ K_ d_ N)) := by
  refine zC_of (L0 := [some (.ref 0), some (.int (Int32.ofInt a0_))]) md_T_uses (Nat.le_of_ble_eq_true rfl) rfl ?_ zQ0
  have hf : zFc d_ [] [] [(0, 7), (0, 8)] [25] Mz Mz := zFc.rf
  have r_D0_6 := ze_r Mz (d_ + 0) 6
  obtain ⟨⟨hF1_, hF27_⟩, hAr_⟩ := id hA_
  obtain ⟨hFc_, hKt_⟩ := id p0_
  obtain ⟨⟨hs1_, hs2_⟩, ⟨hs3_, hs4_⟩, hs5_, hs6_⟩ := id p1_
  have hnl_ := p2_.n
  obtain ⟨⟨hn0_, hn8_⟩, -⟩ := id p2_
  refine zw_aload_n (pc := 0) (n := 0) (x := 0) rfl (zdal_p dlB_T_uses_143 (i := 0) rfl) ?_
  refine zw_getF (pc := 1) f_T_28 rfl ((hf.w hW).ka (o := 0) (by decide)) (hf.now hnow) (zdal_p dlB_T_uses_143 (i := 1) rfl) ?_
  refine zw_iload_n (pc := 4) (n := 1) (x := Int32.ofInt a0_) rfl (zdal_p dlB_T_uses_143 (i := 2) rfl) ?_
  refine zk_callV hf.x (pc := 5) [.int (Int32.ofInt a0_)] [] l_T_245 (u_Troupe_hasNameS l d_ Mz (hf.w hW) a0_ ha0_a ha0_b) rfl rfl ((hf.w hW).kr (o := 0) (by decide)) (by decide) (by decide) (Nat.le_of_ble_eq_true rfl) (zdal_p dlB_T_uses_143 (i := 3) rfl) ?_
  rintro _ N1_ ⟨v2_, rfl, ⟨hv2_a, hv2_b⟩, hsN1_, hp0_N1_⟩
  obtain rfl := hsN1_.eq.symm
  replace hp0_N1_ : ((v2_ = 1 ∧ 0 ≤ a0_ ∧ a0_ < ze Mz (d_ + 0) 6) ∨ (v2_ = 0 ∧ (a0_ < 0 ∨ ze Mz (d_ + 0) 6 ≤ a0_))) := hp0_N1_
  rcases hp0_N1_ with ⟨rfl, ha5_0_hp0_N1_, ha5_1_hp0_N1_⟩ | ⟨rfl, ha5_0_hp0_N1_⟩
  · skip
    show zW l m_T_uses (zn Mz + 0, zw Mz + 0) Mz 8 [some (.ref 0), some (.int (Int32.ofInt a0_))] [.int (Int32.ofInt 1)] _
    refine zr_if_ne (pc := 8) (tgt := 13) ⟨(by decide), (by decide)⟩ (by decide) (zdal_p dlB_T_uses_143 (i := 4) rfl) (fun hc_8 => ?_) (fun hc_8 => ?_)
    · skip
      refine zw_aload_n (pc := 13) (n := 0) (x := 0) rfl (zdal_p dlB_T_uses_143 (i := 7) rfl) ?_
      refine zw_getF (pc := 14) f_T_28 rfl ((hf.w hW).ka (o := 0) (by decide)) (hf.now hnow) (zdal_p dlB_T_uses_143 (i := 8) rfl) ?_
      refine zw_iconst (pc := 17) (v := Int32.ofInt 1) (by decide) (zdal_p dlB_T_uses_143 (i := 9) rfl) ?_
      refine zw_iload_n (pc := 18) (n := 1) (x := Int32.ofInt a0_) rfl (zdal_p dlB_T_uses_143 (i := 10) rfl) ?_
      refine zr_iadd (pc := 19) (zdal_p dlB_T_uses_143 (i := 11) rfl) ?_
      refine zk_callV hf.x (pc := 20) [.int (Int32.ofInt (1 + a0_))] [] l_T_284 (u_Troupe_becomeS l d_ Mz (hf.w hW) (1 + a0_) (by (exact zo_1227 ha5_0_hp0_N1_)) (by omega) F_ K_ hA_ s_ p0_ p1_ (show ((1 ≤ (1 + a0_) ∧ (1 + a0_) ≤ 8) ∨ (21 ≤ (1 + a0_) ∧ (1 + a0_) ≤ 39)) by first | with_reducible assumption | assumption | omega)) rfl rfl ((hf.w hW).kr (o := 0) (by decide)) (by decide) (by decide) (Nat.le_of_ble_eq_true rfl) (zdal_p dlB_T_uses_143 (i := 12) rfl) ?_
      rintro _ N3_ ⟨rfl, hsN3_, ⟨hp0_N3_, hp1_N3_⟩⟩
      have hf_N3_ : zFc d_ [] [] [(0, 7), (0, 8)] [25] Mz N3_ := hf.tr hsN3_ (by decide) (by decide) (by decide) (by decide)
      have eD0_6_N3_ : ze N3_ (d_ + 0) 6 = ze Mz (d_ + 0) 6 := hsN3_.e (by decide)
      have c5_ : zKm F_ K_ d_ N3_ := zKm.fr (hf.w hW) hsN3_ p0_ (by decide)
      show zW l m_T_uses (zn Mz + 0, zw Mz + 0) N3_ 23 [some (.ref 0), some (.int (Int32.ofInt a0_))] [] _
      have hsk_ := hp0_N3_
      have hat_ := (p2_.at (k := (a0_).toNat) (by omega)).1
      rw [show (1 : Int) + (((a0_).toNat : Nat) : Int) = 1 + a0_ by omega] at hat_
      rw [hat_] at hsk_
      have hnm_ := zNm.md hsN3_ hp1_N3_ hF27_ p2_ (by decide)
      have hcv_ := hsk_.v
      refine zw_aload_n (pc := 23) (n := 0) (x := 0) rfl (zdal_p dlB_T_uses_143 (i := 13) rfl) ?_
      refine zw_getF (pc := 24) f_T_28 rfl ((hf_N3_.w hW).ka (o := 0) (by decide)) (hf_N3_.now hnow) (zdal_p dlB_T_uses_143 (i := 14) rfl) ?_
      refine zw_getF (pc := 27) f_T_169 rfl ((hf_N3_.w hW).kr (o := 0) (by decide)) ((hf_N3_.w hW).lr (o := 0) (s := 2) (r := 23) (by decide)) (zdal_p dlB_T_uses_143 (i := 15) rfl) ?_
      refine zw_iconst (pc := 30) (v := Int32.ofInt 0) (by decide) (zdal_p dlB_T_uses_143 (i := 16) rfl) ?_
      refine zk_callV hf_N3_.x (pc := 31) [.int (Int32.ofInt 0)] [] l_T_253 (u_Sums_partsOfS l d_ N3_ (hf_N3_.w hW) 0 (by decide) (by decide) F_ K_ hA_ c5_ (show 0 ≤ 0 by first | with_reducible assumption | (decide) | assumption) (show 0 ≤ 39 by first | with_reducible assumption | (decide) | assumption)) rfl rfl ((hf_N3_.w hW).kr (o := 23) (by decide)) (by decide) (by decide) (Nat.le_of_ble_eq_true rfl) (zdal_p dlB_T_uses_143 (i := 17) rfl) ?_
      rintro _ N6_ ⟨v7_, rfl, ⟨hv7_a, hv7_b⟩, hsN6_, hp0_N6_⟩
      obtain rfl := hsN6_.eq.symm
      replace hp0_N6_ : v7_ = ((znzc (zvc F_ d_ N3_ 0) F_ : Nat) : Int) := hp0_N6_
      show zW l m_T_uses (zn Mz + 0, zw Mz + 0) N3_ 34 [some (.ref 0), some (.int (Int32.ofInt a0_))] [.int (Int32.ofInt v7_)] _
      have hv_ := hp0_N6_
      have hw_ := hv_.trans (congrArg (fun n_ : Nat => (n_ : Int)) (znzc_c F_ hcv_))
      exact zk_iret (pc := 34) (ty := .int) rfl rfl ⟨by (exact hv7_a), by (exact hv7_b)⟩ hf_N3_ ⟨(show (((0 ≤ a0_ ∧ a0_ < (nm_.length : Int)) ∧ zSK F_ (zpush s_ (zvun nm_ (a0_).toNat)) d_ N3_ ∧ v7_ = ((znzc (zvun nm_ (a0_).toNat) F_ : Nat) : Int)) ∨ (¬ (0 ≤ a0_ ∧ a0_ < (nm_.length : Int)) ∧ zSK F_ s_ d_ N3_ ∧ v7_ = (-1 : Int))) by exact Or.inl ⟨by omega, hsk_, hw_⟩), hnm_⟩ (zdal_p dlB_T_uses_143 (i := 18) rfl)
    · skip
      exact absurd hc_8 (by decide)
  · skip
    show zW l m_T_uses (zn Mz + 0, zw Mz + 0) Mz 8 [some (.ref 0), some (.int (Int32.ofInt a0_))] [.int (Int32.ofInt 0)] _
    refine zr_if_ne (pc := 8) (tgt := 13) ⟨(by decide), (by decide)⟩ (by decide) (zdal_p dlB_T_uses_143 (i := 4) rfl) (fun hc_8 => ?_) (fun hc_8 => ?_)
    · skip
      exact absurd hc_8 (by decide)
    · skip
      refine zw_iconst (pc := 11) (v := Int32.ofInt (-1)) (by decide) (zdal_p dlB_T_uses_143 (i := 5) rfl) ?_
      exact zk_iret (pc := 12) (ty := .int) rfl rfl ⟨by (decide), by (decide)⟩ hf ⟨(show (((0 ≤ a0_ ∧ a0_ < (nm_.length : Int)) ∧ zSK F_ (zpush s_ (zvun nm_ (a0_).toNat)) d_ Mz ∧ ((-1)) = ((znzc (zvun nm_ (a0_).toNat) F_ : Nat) : Int)) ∨ (¬ (0 ≤ a0_ ∧ a0_ < (nm_.length : Int)) ∧ zSK F_ s_ d_ Mz ∧ ((-1)) = (-1 : Int))) by exact Or.inr ⟨by omega, p1_, rfl⟩), p2_⟩ (zdal_p dlB_T_uses_143 (i := 6) rfl)
set_option maxHeartbeats 4000000 in
theorem u_T_growsS (l : Launch) (d_ : Nat) (Mz : zMem) (hW : zKW d_ Mz) (hnow : zf Mz 0 2 = some (d_ + 0)) (a0_ : Int) (ha0_a : -2147483648 ≤ a0_) (ha0_b : a0_ < 2147483648) (a1_ : Int) (ha1_a : -2147483648 ≤ a1_) (ha1_b : a1_ < 2147483648) (a2_ : Int) (ha2_a : -2147483648 ≤ a2_) (ha2_b : a2_ < 2147483648) (F_ : Nat) (K_ : Nat → Nat → Int) (hA_ : zTA F_ K_) (s_ : zSg) (nm_ : List (Int × (Nat → Int))) (p0_ : zKm F_ K_ d_ Mz) (p1_ : zSK F_ s_ d_ Mz) (p2_ : zNm nm_ F_ K_ d_ Mz) (p3_ : zSB F_ s_) : zC l m_T_grows 0 0 [.ref 0, .int (Int32.ofInt a0_), .int (Int32.ofInt a1_), .int (Int32.ofInt a2_)] Mz (zqcJ d_ [] [] [(0, 7), (0, 8)] [25] Mz (fun v N => ((((((-9 ≤ a0_ ∧ a0_ ≤ 9) ∧ (-999 ≤ a1_ ∧ a1_ ≤ 999) ∧ 0 ≤ a2_ ∧ a2_ < (F_ : Int)) ∧ zfit F_ K_ (zgrw s_.1 a0_ a1_ a2_)) ∧ zSK F_ (zpush s_ (zgrw s_.1 a0_ a1_ a2_)) d_ N ∧ v = (zgrw s_.1 a0_ a1_ a2_) (a2_).toNat) ∨ (¬ (((-9 ≤ a0_ ∧ a0_ ≤ 9) ∧ (-999 ≤ a1_ ∧ a1_ ≤ 999) ∧ 0 ≤ a2_ ∧ a2_ < (F_ : Int)) ∧ zfit F_ K_ (zgrw s_.1 a0_ a1_ a2_)) ∧ zSK F_ s_ d_ N ∧ v = (-9223372036854775808 : Int)))) ∧ zNm nm_ F_ K_ d_ N)) := by
  refine zC_of (L0 := [some (.ref 0), some (.int (Int32.ofInt a0_)), some (.int (Int32.ofInt a1_)), some (.int (Int32.ofInt a2_))]) md_T_grows (Nat.le_of_ble_eq_true rfl) rfl ?_ zQ0
  have hf : zFc d_ [] [] [(0, 7), (0, 8)] [25] Mz Mz := zFc.rf
  have r_D12_7 := ze_r Mz (d_ + 12) 7
  obtain ⟨⟨hF1_, hF27_⟩, hAr_⟩ := id hA_
  obtain ⟨hFc_, hKt_⟩ := id p0_
  obtain ⟨⟨hs1_, hs2_⟩, ⟨hs3_, hs4_⟩, hs5_, hs6_⟩ := id p1_
  have hzv_ := p1_.v
  have hlm_ := zlm_c p3_.1 hzv_
  refine zw_iload_n (pc := 0) (n := 1) (x := Int32.ofInt a0_) rfl (zdal_p dlB_T_grows_144 (i := 0) rfl) ?_
  refine zw_bipush (pc := 1) (v := Int32.ofInt (-9)) (by decide) (zdal_p dlB_T_grows_144 (i := 1) rfl) ?_
  refine zr_icmp_lt (pc := 3) (tgt := 40) ⟨ha0_a, ha0_b⟩ ⟨(by decide), (by decide)⟩ (by decide) (zdal_p dlB_T_grows_144 (i := 2) rfl) (fun hc_3 => ?_) (fun hc_3 => ?_)
  · skip
    refine zr_ldc2 (pc := 40) (n := (-9223372036854775808)) (by decide) k_T_248 d_T_grows_40 ?_
    exact zk_lret (pc := 43) rfl ⟨by (decide), by (decide)⟩ hf ⟨(show (((((-9 ≤ a0_ ∧ a0_ ≤ 9) ∧ (-999 ≤ a1_ ∧ a1_ ≤ 999) ∧ 0 ≤ a2_ ∧ a2_ < (F_ : Int)) ∧ zfit F_ K_ (zgrw s_.1 a0_ a1_ a2_)) ∧ zSK F_ (zpush s_ (zgrw s_.1 a0_ a1_ a2_)) d_ Mz ∧ ((-9223372036854775808)) = (zgrw s_.1 a0_ a1_ a2_) (a2_).toNat) ∨ (¬ (((-9 ≤ a0_ ∧ a0_ ≤ 9) ∧ (-999 ≤ a1_ ∧ a1_ ≤ 999) ∧ 0 ≤ a2_ ∧ a2_ < (F_ : Int)) ∧ zfit F_ K_ (zgrw s_.1 a0_ a1_ a2_)) ∧ zSK F_ s_ d_ Mz ∧ ((-9223372036854775808)) = (-9223372036854775808 : Int))) by exact Or.inr ⟨fun q_ => by have h_ := q_.1; omega, p1_, rfl⟩), p2_⟩ d_T_grows_43
  · skip
    refine zw_iload_n (pc := 6) (n := 1) (x := Int32.ofInt a0_) rfl (zdal_p dlB_T_grows_144 (i := 3) rfl) ?_
    refine zw_bipush (pc := 7) (v := Int32.ofInt 9) (by decide) (zdal_p dlB_T_grows_144 (i := 4) rfl) ?_
    refine zr_icmp_gt (pc := 9) (tgt := 40) ⟨ha0_a, ha0_b⟩ ⟨(by decide), (by decide)⟩ (by decide) (zdal_p dlB_T_grows_144 (i := 5) rfl) (fun hc_9 => ?_) (fun hc_9 => ?_)
    · skip
      refine zr_ldc2 (pc := 40) (n := (-9223372036854775808)) (by decide) k_T_248 d_T_grows_40 ?_
      exact zk_lret (pc := 43) rfl ⟨by (decide), by (decide)⟩ hf ⟨(show (((((-9 ≤ a0_ ∧ a0_ ≤ 9) ∧ (-999 ≤ a1_ ∧ a1_ ≤ 999) ∧ 0 ≤ a2_ ∧ a2_ < (F_ : Int)) ∧ zfit F_ K_ (zgrw s_.1 a0_ a1_ a2_)) ∧ zSK F_ (zpush s_ (zgrw s_.1 a0_ a1_ a2_)) d_ Mz ∧ ((-9223372036854775808)) = (zgrw s_.1 a0_ a1_ a2_) (a2_).toNat) ∨ (¬ (((-9 ≤ a0_ ∧ a0_ ≤ 9) ∧ (-999 ≤ a1_ ∧ a1_ ≤ 999) ∧ 0 ≤ a2_ ∧ a2_ < (F_ : Int)) ∧ zfit F_ K_ (zgrw s_.1 a0_ a1_ a2_)) ∧ zSK F_ s_ d_ Mz ∧ ((-9223372036854775808)) = (-9223372036854775808 : Int))) by exact Or.inr ⟨fun q_ => by have h_ := q_.1; omega, p1_, rfl⟩), p2_⟩ d_T_grows_43
    · skip
      refine zw_iload_n (pc := 12) (n := 2) (x := Int32.ofInt a1_) rfl (zdal_p dlB_T_grows_144 (i := 6) rfl) ?_
      refine zw_sipush (pc := 13) (v := Int32.ofInt (-999)) (by decide) (zdal_p dlB_T_grows_144 (i := 7) rfl) ?_
      refine zr_icmp_lt (pc := 16) (tgt := 40) ⟨ha1_a, ha1_b⟩ ⟨(by decide), (by decide)⟩ (by decide) (zdal_p dlB_T_grows_144 (i := 8) rfl) (fun hc_16 => ?_) (fun hc_16 => ?_)
      · skip
        refine zr_ldc2 (pc := 40) (n := (-9223372036854775808)) (by decide) k_T_248 d_T_grows_40 ?_
        exact zk_lret (pc := 43) rfl ⟨by (decide), by (decide)⟩ hf ⟨(show (((((-9 ≤ a0_ ∧ a0_ ≤ 9) ∧ (-999 ≤ a1_ ∧ a1_ ≤ 999) ∧ 0 ≤ a2_ ∧ a2_ < (F_ : Int)) ∧ zfit F_ K_ (zgrw s_.1 a0_ a1_ a2_)) ∧ zSK F_ (zpush s_ (zgrw s_.1 a0_ a1_ a2_)) d_ Mz ∧ ((-9223372036854775808)) = (zgrw s_.1 a0_ a1_ a2_) (a2_).toNat) ∨ (¬ (((-9 ≤ a0_ ∧ a0_ ≤ 9) ∧ (-999 ≤ a1_ ∧ a1_ ≤ 999) ∧ 0 ≤ a2_ ∧ a2_ < (F_ : Int)) ∧ zfit F_ K_ (zgrw s_.1 a0_ a1_ a2_)) ∧ zSK F_ s_ d_ Mz ∧ ((-9223372036854775808)) = (-9223372036854775808 : Int))) by exact Or.inr ⟨fun q_ => by have h_ := q_.1; omega, p1_, rfl⟩), p2_⟩ d_T_grows_43
      · skip
        refine zw_iload_n (pc := 19) (n := 2) (x := Int32.ofInt a1_) rfl (zdal_p dlB_T_grows_144 (i := 9) rfl) ?_
        refine zw_sipush (pc := 20) (v := Int32.ofInt 999) (by decide) (zdal_p dlB_T_grows_144 (i := 10) rfl) ?_
        refine zr_icmp_gt (pc := 23) (tgt := 40) ⟨ha1_a, ha1_b⟩ ⟨(by decide), (by decide)⟩ (by decide) (zdal_p dlB_T_grows_144 (i := 11) rfl) (fun hc_23 => ?_) (fun hc_23 => ?_)
        · skip
          refine zr_ldc2 (pc := 40) (n := (-9223372036854775808)) (by decide) k_T_248 d_T_grows_40 ?_
          exact zk_lret (pc := 43) rfl ⟨by (decide), by (decide)⟩ hf ⟨(show (((((-9 ≤ a0_ ∧ a0_ ≤ 9) ∧ (-999 ≤ a1_ ∧ a1_ ≤ 999) ∧ 0 ≤ a2_ ∧ a2_ < (F_ : Int)) ∧ zfit F_ K_ (zgrw s_.1 a0_ a1_ a2_)) ∧ zSK F_ (zpush s_ (zgrw s_.1 a0_ a1_ a2_)) d_ Mz ∧ ((-9223372036854775808)) = (zgrw s_.1 a0_ a1_ a2_) (a2_).toNat) ∨ (¬ (((-9 ≤ a0_ ∧ a0_ ≤ 9) ∧ (-999 ≤ a1_ ∧ a1_ ≤ 999) ∧ 0 ≤ a2_ ∧ a2_ < (F_ : Int)) ∧ zfit F_ K_ (zgrw s_.1 a0_ a1_ a2_)) ∧ zSK F_ s_ d_ Mz ∧ ((-9223372036854775808)) = (-9223372036854775808 : Int))) by exact Or.inr ⟨fun q_ => by have h_ := q_.1; omega, p1_, rfl⟩), p2_⟩ d_T_grows_43
        · skip
          refine zw_aload_n (pc := 26) (n := 0) (x := 0) rfl (zdal_p dlB_T_grows_144 (i := 12) rfl) ?_
          refine zw_getF (pc := 27) f_T_28 rfl ((hf.w hW).ka (o := 0) (by decide)) (hf.now hnow) (zdal_p dlB_T_grows_144 (i := 13) rfl) ?_
          refine zw_getF (pc := 30) f_T_85 rfl ((hf.w hW).kr (o := 0) (by decide)) ((hf.w hW).lr (o := 0) (s := 1) (r := 12) (by decide)) (zdal_p dlB_T_grows_144 (i := 14) rfl) ?_
          refine zw_iload_n (pc := 33) (n := 3) (x := Int32.ofInt a2_) rfl (zdal_p dlB_T_grows_144 (i := 15) rfl) ?_
          refine zk_callV hf.x (pc := 34) [.int (Int32.ofInt a2_)] [] l_T_143 (u_Sorts_hasSortG l d_ Mz (hf.w hW) a2_ ha2_a ha2_b) rfl rfl ((hf.w hW).kr (o := 12) (by decide)) (by decide) (by decide) (Nat.le_of_ble_eq_true rfl) (zdal_p dlB_T_grows_144 (i := 16) rfl) ?_
          rintro _ N1_ ⟨v2_, rfl, ⟨hv2_a, hv2_b⟩, hsN1_, hp0_N1_⟩
          obtain rfl := hsN1_.eq.symm
          replace hp0_N1_ : ((v2_ = 1 ∧ 0 ≤ a2_ ∧ a2_ < ze Mz (d_ + 12) 7) ∨ (v2_ = 0 ∧ (a2_ < 0 ∨ ze Mz (d_ + 12) 7 ≤ a2_))) := hp0_N1_
          rcases hp0_N1_ with ⟨rfl, ha34_0_hp0_N1_, ha34_1_hp0_N1_⟩ | ⟨rfl, ha34_0_hp0_N1_⟩
          · skip
            show zW l m_T_grows (zn Mz + 0, zw Mz + 0) Mz 37 [some (.ref 0), some (.int (Int32.ofInt a0_)), some (.int (Int32.ofInt a1_)), some (.int (Int32.ofInt a2_))] [.int (Int32.ofInt 1)] _
            refine zr_if_ne (pc := 37) (tgt := 44) ⟨(by decide), (by decide)⟩ (by decide) (zdal_p dlB_T_grows_144 (i := 17) rfl) (fun hc_37 => ?_) (fun hc_37 => ?_)
            · skip
              refine zw_aload_n (pc := 44) (n := 0) (x := 0) rfl (zdal_p dlB_T_grows_144 (i := 20) rfl) ?_
              refine zw_getF (pc := 45) f_T_28 rfl ((hf.w hW).ka (o := 0) (by decide)) (hf.now hnow) (zdal_p dlB_T_grows_144 (i := 21) rfl) ?_
              refine zw_getF (pc := 48) f_T_169 rfl ((hf.w hW).kr (o := 0) (by decide)) ((hf.w hW).lr (o := 0) (s := 2) (r := 23) (by decide)) (zdal_p dlB_T_grows_144 (i := 22) rfl) ?_
              refine zw_iload_n (pc := 51) (n := 1) (x := Int32.ofInt a0_) rfl (zdal_p dlB_T_grows_144 (i := 23) rfl) ?_
              refine zw_iload_n (pc := 52) (n := 2) (x := Int32.ofInt a1_) rfl (zdal_p dlB_T_grows_145 (i := 0) rfl) ?_
              refine zw_iload_n (pc := 53) (n := 3) (x := Int32.ofInt a2_) rfl (zdal_p dlB_T_grows_145 (i := 1) rfl) ?_
              refine zk_callV hf.x (pc := 54) [.int (Int32.ofInt a0_), .int (Int32.ofInt a1_), .int (Int32.ofInt a2_)] [] l_T_307 (u_Sums_putGrownS l d_ Mz (hf.w hW) a0_ ha0_a ha0_b a1_ ha1_a ha1_b a2_ ha2_a ha2_b F_ K_ hA_ p0_ (show zlm F_ (zvc F_ d_ Mz 0) by first | with_reducible assumption | assumption | omega) (show -9 ≤ a0_ by first | with_reducible assumption | assumption | omega) (show a0_ ≤ 9 by first | with_reducible assumption | assumption | omega) (show -999 ≤ a1_ by first | with_reducible assumption | assumption | omega) (show a1_ ≤ 999 by first | with_reducible assumption | assumption | omega)) rfl rfl ((hf.w hW).kr (o := 23) (by decide)) (by decide) (by decide) (Nat.le_of_ble_eq_true rfl) (zdal_p dlB_T_grows_145 (i := 2) rfl) ?_
              rintro _ N3_ ⟨rfl, hsN3_, hp0_N3_⟩
              replace hp0_N3_ : zSh F_ d_ Mz N3_ 39 (zgrw (zvc F_ d_ Mz 0) a0_ a1_ a2_) := hp0_N3_
              have hf_N3_ : zFc d_ [] [] [(0, 7), (0, 8)] [25] Mz N3_ := hf.tr hsN3_ (by decide) (by decide) (by decide) (by decide)
              have eD12_7_N3_ : ze N3_ (d_ + 12) 7 = ze Mz (d_ + 12) 7 := hsN3_.e (by decide)
              have c5_ : zKm F_ K_ d_ N3_ := zKm.fr (hf.w hW) hsN3_ p0_ (by decide)
              show zW l m_T_grows (zn Mz + 0, zw Mz + 0) N3_ 57 [some (.ref 0), some (.int (Int32.ofInt a0_)), some (.int (Int32.ofInt a1_)), some (.int (Int32.ofInt a2_))] [] _
              have hsh_ := hp0_N3_
              have hlw_ : zLow d_ Mz N3_ := zLow.sh hsh_ (by (decide))
              have hsk1_ := zSK.fr hsN3_ hlw_ hF27_ p1_ (by decide)
              have hnm1_ := p2_.l hsN3_ hlw_ hF27_ (by decide)
              have hn39_ := zSh_n (F := F_) (by (decide)) hsh_
              have hgc_ : ∀ k_, k_ < F_ → zvc F_ d_ N3_ 39 k_ = (zgrw s_.1 a0_ a1_ a2_) k_ := fun k_ hk_ => by rw [hn39_]; show (if k_ < F_ then _ else _) = _; rw [if_pos hk_]; exact zgrw_c hzv_ k_ hk_
              have hgb_ := zgrw_b (n := a0_) (m := a1_) (i := a2_) p3_.1 (by (exact hc_3)) (by (exact hc_9)) (by (exact hc_16)) (by (exact hc_23))
              have hgv_ : ∀ k_, k_ < F_ → -10000000000000 ≤ zvc F_ d_ N3_ 39 k_ ∧ zvc F_ d_ N3_ 39 k_ ≤ 10000000000000 := fun k_ hk_ => by rw [hgc_ k_ hk_]; exact hgb_ k_ hk_
              have hbd_ : zbd F_ K_ (zvc F_ d_ N3_ 39) := fun k_ hk_ => by have h1_ := hgv_ k_ hk_; have h2_ := zmq_b (j := k_) hF27_ (fun i_ hi_ => hAr_.1 i_ k_ hi_ hk_) hgv_; omega
              refine zw_aload_n (pc := 57) (n := 0) (x := 0) rfl (zdal_p dlB_T_grows_145 (i := 3) rfl) ?_
              refine zw_getF (pc := 58) f_T_28 rfl ((hf_N3_.w hW).ka (o := 0) (by decide)) (hf_N3_.now hnow) (zdal_p dlB_T_grows_145 (i := 4) rfl) ?_
              refine zw_getF (pc := 61) f_T_169 rfl ((hf_N3_.w hW).kr (o := 0) (by decide)) ((hf_N3_.w hW).lr (o := 0) (s := 2) (r := 23) (by decide)) (zdal_p dlB_T_grows_145 (i := 5) rfl) ?_
              refine zw_bipush (pc := 64) (v := Int32.ofInt 39) (by decide) (zdal_p dlB_T_grows_145 (i := 6) rfl) ?_
              refine zk_callV hf_N3_.x (pc := 66) [.int (Int32.ofInt 39)] [] l_T_311 (u_Sums_isInBounds l d_ N3_ (hf_N3_.w hW) 39 (by decide) (by decide) F_ K_ hA_ c5_ (show 0 ≤ 39 by first | with_reducible assumption | (decide) | assumption) (show 39 ≤ 39 by first | with_reducible assumption | (decide) | assumption) (show zbd F_ K_ (zvc F_ d_ N3_ 39) by exact hbd_)) rfl rfl ((hf_N3_.w hW).kr (o := 23) (by decide)) (by decide) (by decide) (Nat.le_of_ble_eq_true rfl) (zdal_p dlB_T_grows_145 (i := 7) rfl) ?_
              rintro _ N6_ ⟨v7_, rfl, ⟨hv7_a, hv7_b⟩, hsN6_, hp0_N6_⟩
              obtain rfl := hsN6_.eq.symm
              replace hp0_N6_ : ((v7_ = 1 ∧ zfit F_ K_ (zvc F_ d_ N3_ 39)) ∨ (v7_ = 0 ∧ ¬ zfit F_ K_ (zvc F_ d_ N3_ 39))) := hp0_N6_
              rcases hp0_N6_ with ⟨rfl, ha66_0_hp0_N6_⟩ | ⟨rfl, ha66_0_hp0_N6_⟩
              · skip
                have hft_ := zfit_c ha66_0_hp0_N6_ hgc_
                show zW l m_T_grows (zn Mz + 0, zw Mz + 0) N3_ 69 [some (.ref 0), some (.int (Int32.ofInt a0_)), some (.int (Int32.ofInt a1_)), some (.int (Int32.ofInt a2_))] [.int (Int32.ofInt 1)] _
                refine zr_if_ne (pc := 69) (tgt := 76) ⟨(by decide), (by decide)⟩ (by decide) (zdal_p dlB_T_grows_145 (i := 8) rfl) (fun hc_69 => ?_) (fun hc_69 => ?_)
                · skip
                  refine zw_aload_n (pc := 76) (n := 0) (x := 0) rfl (zdal_p dlB_T_grows_145 (i := 11) rfl) ?_
                  refine zw_getF (pc := 77) f_T_28 rfl ((hf_N3_.w hW).ka (o := 0) (by decide)) (hf_N3_.now hnow) (zdal_p dlB_T_grows_145 (i := 12) rfl) ?_
                  refine zw_bipush (pc := 80) (v := Int32.ofInt 39) (by decide) (zdal_p dlB_T_grows_145 (i := 13) rfl) ?_
                  refine zk_callV hf_N3_.x (pc := 82) [.int (Int32.ofInt 39)] [] l_T_284 (u_Troupe_becomeS l d_ N3_ (hf_N3_.w hW) 39 (by decide) (by decide) F_ K_ hA_ s_ c5_ hsk1_ (show ((1 ≤ 39 ∧ 39 ≤ 8) ∨ (21 ≤ 39 ∧ 39 ≤ 39)) by first | with_reducible assumption | (decide) | assumption)) rfl rfl ((hf_N3_.w hW).kr (o := 0) (by decide)) (by decide) (by decide) (Nat.le_of_ble_eq_true rfl) (zdal_p dlB_T_grows_145 (i := 14) rfl) ?_
                  rintro _ N8_ ⟨rfl, hsN8_, ⟨hp0_N8_, hp1_N8_⟩⟩
                  have hf_N8_ : zFc d_ [] [] [(0, 7), (0, 8)] [25] Mz N8_ := hf_N3_.tr hsN8_ (by decide) (by decide) (by decide) (by decide)
                  have eD12_7_N8_ : ze N8_ (d_ + 12) 7 = ze N3_ (d_ + 12) 7 := hsN8_.e (by decide)
                  have c10_ : zKm F_ K_ d_ N8_ := zKm.fr (hf_N3_.w hW) hsN8_ c5_ (by decide)
                  show zW l m_T_grows (zn Mz + 0, zw Mz + 0) N8_ 85 [some (.ref 0), some (.int (Int32.ofInt a0_)), some (.int (Int32.ofInt a1_)), some (.int (Int32.ofInt a2_))] [] _
                  have hsk2_ := hp0_N8_.pc hgc_
                  have hnm2_ := zNm.md hsN8_ hp1_N8_ hF27_ hnm1_ (by decide)
                  refine zw_aload_n (pc := 85) (n := 0) (x := 0) rfl (zdal_p dlB_T_grows_145 (i := 15) rfl) ?_
                  refine zw_getF (pc := 86) f_T_28 rfl ((hf_N8_.w hW).ka (o := 0) (by decide)) (hf_N8_.now hnow) (zdal_p dlB_T_grows_145 (i := 16) rfl) ?_
                  refine zw_getF (pc := 89) f_T_169 rfl ((hf_N8_.w hW).kr (o := 0) (by decide)) ((hf_N8_.w hW).lr (o := 0) (s := 2) (r := 23) (by decide)) (zdal_p dlB_T_grows_145 (i := 17) rfl) ?_
                  refine zw_iconst (pc := 92) (v := Int32.ofInt 0) (by decide) (zdal_p dlB_T_grows_145 (i := 18) rfl) ?_
                  refine zw_iload_n (pc := 93) (n := 3) (x := Int32.ofInt a2_) rfl (zdal_p dlB_T_grows_145 (i := 19) rfl) ?_
                  refine zk_callV hf_N8_.x (pc := 94) [.int (Int32.ofInt 0), .int (Int32.ofInt a2_)] [] l_T_179 (u_Sums_numberAt l d_ N8_ (hf_N8_.w hW) 0 (by decide) (by decide) a2_ ha2_a ha2_b (show 0 ≤ 0 by first | with_reducible assumption | (decide) | assumption) (show 0 ≤ 39 by first | with_reducible assumption | (decide) | assumption) (show 0 ≤ a2_ by first | with_reducible assumption | assumption | omega) (show a2_ ≤ 26 by first | with_reducible assumption | assumption | omega)) rfl rfl ((hf_N8_.w hW).kr (o := 23) (by decide)) (by decide) (by decide) (Nat.le_of_ble_eq_true rfl) (zdal_p dlB_T_grows_145 (i := 20) rfl) ?_
                  rintro _ N11_ ⟨v12_, rfl, ⟨hv12_a, hv12_b⟩, hsN11_, hp0_N11_⟩
                  obtain rfl := hsN11_.eq.symm
                  replace hp0_N11_ : v12_ = zg N8_ (d_ + 25) (0 * 27 + a2_).toNat := hp0_N11_
                  show zW l m_T_grows (zn Mz + 0, zw Mz + 0) N8_ 97 [some (.ref 0), some (.int (Int32.ofInt a0_)), some (.int (Int32.ofInt a1_)), some (.int (Int32.ofInt a2_))] [.long (Int64.ofInt v12_)] _
                  have hv_ := hp0_N11_
                  rw [show ((0 : Int) * 27 + a2_).toNat = (a2_).toNat by omega] at hv_
                  have hw_ := hv_.trans (hsk2_.2.2.1 _ (by omega))
                  exact zk_lret (pc := 97) rfl ⟨by (exact hv12_a), by (exact hv12_b)⟩ hf_N8_ ⟨(show (((((-9 ≤ a0_ ∧ a0_ ≤ 9) ∧ (-999 ≤ a1_ ∧ a1_ ≤ 999) ∧ 0 ≤ a2_ ∧ a2_ < (F_ : Int)) ∧ zfit F_ K_ (zgrw s_.1 a0_ a1_ a2_)) ∧ zSK F_ (zpush s_ (zgrw s_.1 a0_ a1_ a2_)) d_ N8_ ∧ v12_ = (zgrw s_.1 a0_ a1_ a2_) (a2_).toNat) ∨ (¬ (((-9 ≤ a0_ ∧ a0_ ≤ 9) ∧ (-999 ≤ a1_ ∧ a1_ ≤ 999) ∧ 0 ≤ a2_ ∧ a2_ < (F_ : Int)) ∧ zfit F_ K_ (zgrw s_.1 a0_ a1_ a2_)) ∧ zSK F_ s_ d_ N8_ ∧ v12_ = (-9223372036854775808 : Int))) by exact Or.inl ⟨⟨by omega, hft_⟩, hsk2_, hw_⟩), hnm2_⟩ (zdal_p dlB_T_grows_145 (i := 21) rfl)
                · skip
                  exact absurd hc_69 (by decide)
              · skip
                have hnf_ : ¬ zfit F_ K_ (zgrw s_.1 a0_ a1_ a2_) := fun q_ => ha66_0_hp0_N6_ (zfit_c q_ (fun i_ hi_ => (hgc_ i_ hi_).symm))
                show zW l m_T_grows (zn Mz + 0, zw Mz + 0) N3_ 69 [some (.ref 0), some (.int (Int32.ofInt a0_)), some (.int (Int32.ofInt a1_)), some (.int (Int32.ofInt a2_))] [.int (Int32.ofInt 0)] _
                refine zr_if_ne (pc := 69) (tgt := 76) ⟨(by decide), (by decide)⟩ (by decide) (zdal_p dlB_T_grows_145 (i := 8) rfl) (fun hc_69 => ?_) (fun hc_69 => ?_)
                · skip
                  exact absurd hc_69 (by decide)
                · skip
                  refine zr_ldc2 (pc := 72) (n := (-9223372036854775808)) (by decide) k_T_248 (zdal_p dlB_T_grows_145 (i := 9) rfl) ?_
                  exact zk_lret (pc := 75) rfl ⟨by (decide), by (decide)⟩ hf_N3_ ⟨(show (((((-9 ≤ a0_ ∧ a0_ ≤ 9) ∧ (-999 ≤ a1_ ∧ a1_ ≤ 999) ∧ 0 ≤ a2_ ∧ a2_ < (F_ : Int)) ∧ zfit F_ K_ (zgrw s_.1 a0_ a1_ a2_)) ∧ zSK F_ (zpush s_ (zgrw s_.1 a0_ a1_ a2_)) d_ N3_ ∧ ((-9223372036854775808)) = (zgrw s_.1 a0_ a1_ a2_) (a2_).toNat) ∨ (¬ (((-9 ≤ a0_ ∧ a0_ ≤ 9) ∧ (-999 ≤ a1_ ∧ a1_ ≤ 999) ∧ 0 ≤ a2_ ∧ a2_ < (F_ : Int)) ∧ zfit F_ K_ (zgrw s_.1 a0_ a1_ a2_)) ∧ zSK F_ s_ d_ N3_ ∧ ((-9223372036854775808)) = (-9223372036854775808 : Int))) by exact Or.inr ⟨fun q_ => hnf_ q_.2, hsk1_, rfl⟩), hnm1_⟩ (zdal_p dlB_T_grows_145 (i := 10) rfl)
            · skip
              exact absurd hc_37 (by decide)
          · skip
            show zW l m_T_grows (zn Mz + 0, zw Mz + 0) Mz 37 [some (.ref 0), some (.int (Int32.ofInt a0_)), some (.int (Int32.ofInt a1_)), some (.int (Int32.ofInt a2_))] [.int (Int32.ofInt 0)] _
            refine zr_if_ne (pc := 37) (tgt := 44) ⟨(by decide), (by decide)⟩ (by decide) (zdal_p dlB_T_grows_144 (i := 17) rfl) (fun hc_37 => ?_) (fun hc_37 => ?_)
            · skip
              exact absurd hc_37 (by decide)
            · skip
              refine zr_ldc2 (pc := 40) (n := (-9223372036854775808)) (by decide) k_T_248 d_T_grows_40 ?_
              exact zk_lret (pc := 43) rfl ⟨by (decide), by (decide)⟩ hf ⟨(show (((((-9 ≤ a0_ ∧ a0_ ≤ 9) ∧ (-999 ≤ a1_ ∧ a1_ ≤ 999) ∧ 0 ≤ a2_ ∧ a2_ < (F_ : Int)) ∧ zfit F_ K_ (zgrw s_.1 a0_ a1_ a2_)) ∧ zSK F_ (zpush s_ (zgrw s_.1 a0_ a1_ a2_)) d_ Mz ∧ ((-9223372036854775808)) = (zgrw s_.1 a0_ a1_ a2_) (a2_).toNat) ∨ (¬ (((-9 ≤ a0_ ∧ a0_ ≤ 9) ∧ (-999 ≤ a1_ ∧ a1_ ≤ 999) ∧ 0 ≤ a2_ ∧ a2_ < (F_ : Int)) ∧ zfit F_ K_ (zgrw s_.1 a0_ a1_ a2_)) ∧ zSK F_ s_ d_ Mz ∧ ((-9223372036854775808)) = (-9223372036854775808 : Int))) by exact Or.inr ⟨fun q_ => by have h_ := q_.1; omega, p1_, rfl⟩), p2_⟩ d_T_grows_43
set_option maxHeartbeats 4000000 in
theorem u_T_undoS (l : Launch) (d_ : Nat) (Mz : zMem) (hW : zKW d_ Mz) (hnow : zf Mz 0 2 = some (d_ + 0)) (F_ : Nat) (K_ : Nat → Nat → Int) (hA_ : zTA F_ K_) (s_ : zSg) (nm_ : List (Int × (Nat → Int))) (p0_ : zKm F_ K_ d_ Mz) (p1_ : zSK F_ s_ d_ Mz) (p2_ : zNm nm_ F_ K_ d_ Mz) : zC l m_T_undo 0 0 [.ref 0] Mz (zqcI d_ [] [] [(0, 7), (0, 8)] [25] Mz (fun v N => (((1 ≤ s_.2.1 ∧ zSK F_ (zpop s_) d_ N ∧ v = ((s_.2.1 - 1 : Nat) : Int)) ∨ (s_.2.1 = 0 ∧ zSK F_ s_ d_ N ∧ v = (-1 : Int)))) ∧ zNm nm_ F_ K_ d_ N)) := by
  refine zC_of (L0 := [some (.ref 0)]) md_T_undo (Nat.le_of_ble_eq_true rfl) rfl ?_ zQ0
  have hf : zFc d_ [] [] [(0, 7), (0, 8)] [25] Mz Mz := zFc.rf
  have r_D0_7 := ze_r Mz (d_ + 0) 7
  obtain ⟨⟨hF1_, hF27_⟩, hAr_⟩ := id hA_
  obtain ⟨hFc_, hKt_⟩ := id p0_
  obtain ⟨⟨hs1_, hs2_⟩, ⟨hs3_, hs4_⟩, hs5_, hs6_⟩ := id p1_
  refine zw_aload_n (pc := 0) (n := 0) (x := 0) rfl (zdal_p dlB_T_undo_148 (i := 0) rfl) ?_
  refine zw_getF (pc := 1) f_T_28 rfl ((hf.w hW).ka (o := 0) (by decide)) (hf.now hnow) (zdal_p dlB_T_undo_148 (i := 1) rfl) ?_
  refine zk_getI (pc := 4) f_T_105 rfl ((hf.w hW).kr (o := 0) (by decide)) (zdal_p dlB_T_undo_148 (i := 2) rfl) ?_
  refine zr_if_le (pc := 7) (tgt := 20) ⟨(ze_r Mz (d_ + 0) 7).1, (ze_r Mz (d_ + 0) 7).2⟩ (by decide) (zdal_p dlB_T_undo_148 (i := 3) rfl) (fun hc_7 => ?_) (fun hc_7 => ?_)
  · skip
    refine zw_iconst (pc := 20) (v := Int32.ofInt (-1)) (by decide) (zdal_p dlB_T_undo_148 (i := 8) rfl) ?_
    exact zk_iret (pc := 21) (ty := .int) rfl rfl ⟨by (decide), by (decide)⟩ hf ⟨(show ((1 ≤ s_.2.1 ∧ zSK F_ (zpop s_) d_ Mz ∧ ((-1)) = ((s_.2.1 - 1 : Nat) : Int)) ∨ (s_.2.1 = 0 ∧ zSK F_ s_ d_ Mz ∧ ((-1)) = (-1 : Int))) by first | exact Or.inr ⟨by omega, p1_, rfl⟩ | exact Or.inl ⟨by omega, hsk_, hv_⟩), p2_⟩ (zdal_p dlB_T_undo_148 (i := 9) rfl)
  · skip
    refine zw_aload_n (pc := 10) (n := 0) (x := 0) rfl (zdal_p dlB_T_undo_148 (i := 4) rfl) ?_
    refine zw_getF (pc := 11) f_T_28 rfl ((hf.w hW).ka (o := 0) (by decide)) (hf.now hnow) (zdal_p dlB_T_undo_148 (i := 5) rfl) ?_
    refine zk_callV hf.x (pc := 14) [] [] l_T_314 (u_Troupe_takeBackS l d_ Mz (hf.w hW) F_ K_ hA_ s_ p0_ p1_ (show 1 ≤ s_.2.1 by first | with_reducible assumption | assumption | omega)) rfl rfl ((hf.w hW).kr (o := 0) (by decide)) (by decide) (by decide) (Nat.le_of_ble_eq_true rfl) (zdal_p dlB_T_undo_148 (i := 6) rfl) ?_
    rintro _ N1_ ⟨v2_, rfl, ⟨hv2_a, hv2_b⟩, hsN1_, ⟨hp0_N1_, hp1_N1_, hp2_N1_⟩⟩
    have hf_N1_ : zFc d_ [] [] [(0, 7), (0, 8)] [25] Mz N1_ := hf.tr hsN1_ (by decide) (by decide) (by decide) (by decide)
    have rD0_7_N1_ := ze_r N1_ (d_ + 0) 7
    have c3_ : zKm F_ K_ d_ N1_ := zKm.fr (hf.w hW) hsN1_ p0_ (by decide)
    show zW l m_T_undo (zn Mz + 0, zw Mz + 0) N1_ 17 [some (.ref 0)] [.int (Int32.ofInt v2_)] _
    have hsk_ := hp0_N1_
    have hv_ := hp2_N1_
    have hnm_ := zNm.md hsN1_ hp1_N1_ hF27_ p2_ (by decide)
    refine zw_goto (pc := 17) (tgt := 21) (by decide) (zdal_p dlB_T_undo_148 (i := 7) rfl) ?_
    exact zk_iret (pc := 21) (ty := .int) rfl rfl ⟨by (exact hv2_a), by (exact hv2_b)⟩ hf_N1_ ⟨(show ((1 ≤ s_.2.1 ∧ zSK F_ (zpop s_) d_ N1_ ∧ v2_ = ((s_.2.1 - 1 : Nat) : Int)) ∨ (s_.2.1 = 0 ∧ zSK F_ s_ d_ N1_ ∧ v2_ = (-1 : Int))) by first | exact Or.inr ⟨by omega, p1_, rfl⟩ | exact Or.inl ⟨by omega, hsk_, hv_⟩), hnm_⟩ (zdal_p dlB_T_undo_148 (i := 9) rfl)
set_option maxHeartbeats 4000000 in
theorem u_Sums_putProductL (l : Launch) (d_ : Nat) (Mz : zMem) (hW : zKW d_ Mz) (a0_ : Int) (ha0_a : -2147483648 ≤ a0_) (ha0_b : a0_ < 2147483648) (a1_ : Int) (ha1_a : -2147483648 ≤ a1_) (ha1_b : a1_ < 2147483648) (F_ : Nat) (K_ : Nat → Nat → Int) (hA_ : zTA F_ K_) (p0_ : zKm F_ K_ d_ Mz) : zC l m_Sums_putProduct 0 0 [.ref (d_ + 23), .int (Int32.ofInt a0_), .int (Int32.ofInt a1_)] Mz (zqcV d_ [] [] [] [25, 27] Mz (fun N => zLow d_ Mz N)) := by
  refine zC_of (L0 := [some (.ref (d_ + 23)), some (.int (Int32.ofInt a0_)), some (.int (Int32.ofInt a1_)), none]) md_Sums_putProduct (Nat.le_of_ble_eq_true rfl) rfl ?_ zQ0
  have hf : zFc d_ [] [] [] [25, 27] Mz Mz := zFc.rf
  obtain ⟨⟨hF1_, hF27_⟩, hAr_⟩ := id hA_
  obtain ⟨hFc_, hKt_⟩ := id p0_
  have dv0 : zLow d_ Mz Mz := zLow.rf
  refine zw_iconst (pc := 0) (v := Int32.ofInt 0) (by decide) (zdal_p dlB_Sums_putProduct_27 (i := 0) rfl) ?_
  refine zw_istore_n (pc := 1) (i := 3) (L2 := [some (.ref (d_ + 23)), some (.int (Int32.ofInt a0_)), some (.int (Int32.ofInt a1_)), some (.int (Int32.ofInt 0))]) rfl (by decide) rfl (zdal_p dlB_Sums_putProduct_27 (i := 1) rfl) ?_
  have lp_2 : ∀ (n : Nat) (u1_ : Int) (hu1_a : -2147483648 ≤ u1_) (hu1_b : u1_ < 2147483648) (N2_ : zMem) (hs3_ : zFc d_ [] [] [] [27] Mz N2_) (i4_ : 0 ≤ u1_), (ze Mz (d_ + 12) 7 - u1_).toNat < n → zW l m_Sums_putProduct (zn Mz + 0, zw Mz + 0) N2_ 2 [some (.ref (d_ + 23)), some (.int (Int32.ofInt a0_)), some (.int (Int32.ofInt a1_)), some (.int (Int32.ofInt u1_))] [] (zqcV d_ [] [] [] [25, 27] Mz (fun N => zLow d_ Mz N)) := by
    intro n
    induction n with
    | zero =>
      intro u1_ hu1_a hu1_b N2_ hs3_ i4_ h0
      exact absurd h0 (Nat.not_lt_zero _)
    | succ n ih_2 =>
      intro u1_ hu1_a hu1_b N2_ hs3_ i4_ hlt_2
      have hf_N2_ : zFc d_ [] [] [] [25, 27] Mz N2_ := hf.tr hs3_ (by decide) (by decide) (by decide) (by decide)
      have c5_ : zKm F_ K_ d_ N2_ := zKm.fr (hf.w hW) hs3_ p0_ (by decide)
      have c6_ : zLow d_ Mz N2_ := zLow.fr (hf.w hW) hs3_ dv0 (by decide)
      refine zw_iload_n (pc := 2) (n := 3) (x := Int32.ofInt u1_) rfl (zdal_p dlB_Sums_putProduct_27 (i := 2) rfl) ?_
      refine zw_aload_n (pc := 3) (n := 0) (x := (d_ + 23)) rfl (zdal_p dlB_Sums_putProduct_27 (i := 3) rfl) ?_
      refine zw_getF (pc := 4) f_Sums_23 rfl ((hf_N2_.w hW).kr (o := 23) (by decide)) ((hf_N2_.w hW).lr (o := 23) (s := 0) (r := 12) (by decide)) (zdal_p dlB_Sums_putProduct_27 (i := 4) rfl) ?_
      refine zk_getI (pc := 7) f_Sums_35 rfl ((hf_N2_.w hW).kr (o := 12) (by decide)) (zdal_p dlB_Sums_putProduct_27 (i := 5) rfl) ?_
      rw [hf_N2_.e (by decide)]
      have hr7_ := ze_r Mz (d_ + 12) 7
      refine zr_icmp_ge (pc := 10) (tgt := 48) ⟨hu1_a, hu1_b⟩ ⟨(ze_r Mz (d_ + 12) 7).1, (ze_r Mz (d_ + 12) 7).2⟩ (by decide) (zdal_p dlB_Sums_putProduct_27 (i := 6) rfl) (fun hc_10 => ?_) (fun hc_10 => ?_)
      · skip
        refine zw_aload_n (pc := 48) (n := 0) (x := (d_ + 23)) rfl (zdal_p dlB_Sums_putProduct_28 (i := 2) rfl) ?_
        refine zw_bipush (pc := 49) (v := Int32.ofInt 39) (by decide) (zdal_p dlB_Sums_putProduct_28 (i := 3) rfl) ?_
        have hml_ := c6_
        refine zk_callV hf_N2_.x (pc := 51) [.int (Int32.ofInt 39)] [] l_Sums_58 (u_Sums_solve l d_ N2_ (hf_N2_.w hW) 39 (by decide) (by decide) F_ K_ hA_ c5_ (show 0 ≤ 39 by first | with_reducible assumption | (decide) | assumption) (show 39 ≤ 39 by first | with_reducible assumption | (decide) | assumption)) rfl rfl ((hf_N2_.w hW).kr (o := 23) (by decide)) (by decide) (by decide) (Nat.le_of_ble_eq_true rfl) (zdal_p dlB_Sums_putProduct_28 (i := 4) rfl) ?_
        rintro _ N8_ ⟨rfl, hsN8_, ⟨hp0_N8_, hp1_N8_⟩⟩
        have hf_N8_ : zFc d_ [] [] [] [25, 27] Mz N8_ := hf_N2_.tr hsN8_ (by decide) (by decide) (by decide) (by decide)
        have c10_ : zKm F_ K_ d_ N8_ := zKm.fr (hf_N2_.w hW) hsN8_ c5_ (by decide)
        show zW l m_Sums_putProduct (zn Mz + 0, zw Mz + 0) N8_ 54 [some (.ref (d_ + 23)), some (.int (Int32.ofInt a0_)), some (.int (Int32.ofInt a1_)), some (.int (Int32.ofInt u1_))] [] _
        have hnl_ := hml_.tr (zLow.ou hp1_N8_ (by decide))
        exact zk_vret (pc := 54) rfl hf_N8_ (show zLow d_ Mz N8_ by exact hnl_) (zdal_p dlB_Sums_putProduct_28 (i := 5) rfl)
      · skip
        refine zw_aload_n (pc := 13) (n := 0) (x := (d_ + 23)) rfl (zdal_p dlB_Sums_putProduct_27 (i := 7) rfl) ?_
        refine zw_getF (pc := 14) f_Sums_20 rfl ((hf_N2_.w hW).kr (o := 23) (by decide)) ((hf_N2_.w hW).lr (o := 23) (s := 2) (r := 26) (by decide)) (zdal_p dlB_Sums_putProduct_27 (i := 8) rfl) ?_
        refine zw_iload_n (pc := 17) (n := 3) (x := Int32.ofInt u1_) rfl (zdal_p dlB_Sums_putProduct_27 (i := 9) rfl) ?_
        refine zw_aload_n (pc := 18) (n := 0) (x := (d_ + 23)) rfl (zdal_p dlB_Sums_putProduct_27 (i := 10) rfl) ?_
        refine zw_getF (pc := 19) f_Sums_23 rfl ((hf_N2_.w hW).kr (o := 23) (by decide)) ((hf_N2_.w hW).lr (o := 23) (s := 0) (r := 12) (by decide)) (zdal_p dlB_Sums_putProduct_27 (i := 11) rfl) ?_
        refine zw_iload_n (pc := 22) (n := 1) (x := Int32.ofInt a0_) rfl (zdal_p dlB_Sums_putProduct_27 (i := 12) rfl) ?_
        refine zw_iload_n (pc := 23) (n := 3) (x := Int32.ofInt u1_) rfl (zdal_p dlB_Sums_putProduct_27 (i := 13) rfl) ?_
        refine zk_callV hf_N2_.x (pc := 24) [.int (Int32.ofInt a0_), .int (Int32.ofInt u1_)] [.int (Int32.ofInt u1_), .ref (d_ + 26)] l_Sums_54 (u_Sorts_markAtX l d_ N2_ (hf_N2_.w hW) a0_ ha0_a ha0_b u1_ hu1_a hu1_b) rfl rfl ((hf_N2_.w hW).kr (o := 12) (by decide)) (by decide) (by decide) (Nat.le_of_ble_eq_true rfl) (zdal_p dlB_Sums_putProduct_27 (i := 14) rfl) ?_
        rintro _ N11_ ⟨v12_, rfl, ⟨hv12_a, hv12_b⟩, hsN11_, -⟩
        obtain rfl := hsN11_.eq.symm
        show zW l m_Sums_putProduct (zn Mz + 0, zw Mz + 0) N2_ 27 [some (.ref (d_ + 23)), some (.int (Int32.ofInt a0_)), some (.int (Int32.ofInt a1_)), some (.int (Int32.ofInt u1_))] [.int (Int32.ofInt v12_), .int (Int32.ofInt u1_), .ref (d_ + 26)] _
        refine zr_i2l (pc := 27) ⟨hv12_a, hv12_b⟩ (zdal_p dlB_Sums_putProduct_27 (i := 15) rfl) ?_
        refine zw_aload_n (pc := 28) (n := 0) (x := (d_ + 23)) rfl (zdal_p dlB_Sums_putProduct_27 (i := 16) rfl) ?_
        refine zw_getF (pc := 29) f_Sums_23 rfl ((hf_N2_.w hW).kr (o := 23) (by decide)) ((hf_N2_.w hW).lr (o := 23) (s := 0) (r := 12) (by decide)) (zdal_p dlB_Sums_putProduct_27 (i := 17) rfl) ?_
        refine zw_iload_n (pc := 32) (n := 2) (x := Int32.ofInt a1_) rfl (zdal_p dlB_Sums_putProduct_27 (i := 18) rfl) ?_
        refine zw_iload_n (pc := 33) (n := 3) (x := Int32.ofInt u1_) rfl (zdal_p dlB_Sums_putProduct_27 (i := 19) rfl) ?_
        refine zk_callV hf_N2_.x (pc := 34) [.int (Int32.ofInt a1_), .int (Int32.ofInt u1_)] [.long (Int64.ofInt v12_), .int (Int32.ofInt u1_), .ref (d_ + 26)] l_Sums_54 (u_Sorts_markAtX l d_ N2_ (hf_N2_.w hW) a1_ ha1_a ha1_b u1_ hu1_a hu1_b) rfl rfl ((hf_N2_.w hW).kr (o := 12) (by decide)) (by decide) (by decide) (Nat.le_of_ble_eq_true rfl) (zdal_p dlB_Sums_putProduct_27 (i := 20) rfl) ?_
        rintro _ N13_ ⟨v14_, rfl, ⟨hv14_a, hv14_b⟩, hsN13_, -⟩
        obtain rfl := hsN13_.eq.symm
        show zW l m_Sums_putProduct (zn Mz + 0, zw Mz + 0) N2_ 37 [some (.ref (d_ + 23)), some (.int (Int32.ofInt a0_)), some (.int (Int32.ofInt a1_)), some (.int (Int32.ofInt u1_))] [.int (Int32.ofInt v14_), .long (Int64.ofInt v12_), .int (Int32.ofInt u1_), .ref (d_ + 26)] _
        refine zr_i2l (pc := 37) ⟨hv14_a, hv14_b⟩ (zdal_p dlB_Sums_putProduct_27 (i := 21) rfl) ?_
        refine zr_lmul (pc := 38) (zdal_p dlB_Sums_putProduct_27 (i := 22) rfl) ?_
        refine zr_nmJ (fun v15_ hv15_ => ?_)
        obtain ⟨hv15_a, hv15_b⟩ := hv15_
        refine zk_stGJ hf_N2_.x (pc := 39) (o := 27) (by decide) l_Sums_31 ((hf_N2_.w hW).kr (o := 26) (by decide)) ((hf_N2_.w hW).lr (o := 26) (s := 0) (r := 27) (by decide)) ((hf_N2_.w hW).rr (o := 27) (t := 2) (n := 27) (by decide)) (by decide) ⟨by (exact hu1_a), by (exact hu1_b)⟩ (by decide) (Nat.le_of_ble_eq_true rfl) (zdal_p dlB_Sums_putProduct_27 (i := 23) rfl) (fun N16_ hsN16_ => ?_)
        have hf_N16_ : zFc d_ [] [] [] [25, 27] Mz N16_ := hf_N2_.tr hsN16_ (by decide) (by decide) (by decide) (by decide)
        have hb0_N16_ : zFc d_ [] [] [] [27] Mz N16_ := hs3_.tr hsN16_ (by decide) (by decide) (by decide) (by decide)
        have c17_ : zKm F_ K_ d_ N16_ := zKm.fr (hf_N2_.w hW) hsN16_ c5_ (by decide)
        have c18_ : zLow d_ Mz N16_ := zLow.fr (hf_N2_.w hW) hsN16_ c6_ (by decide)
        refine zr_iinc (pc := 42) (i := 3) (a := u1_) (n := 1) (L2 := [some (.ref (d_ + 23)), some (.int (Int32.ofInt a0_)), some (.int (Int32.ofInt a1_)), some (.int (Int32.ofInt (u1_ + 1)))]) rfl (by decide) rfl (zdal_p dlB_Sums_putProduct_28 (i := 0) rfl) ?_
        obtain ⟨v19_, hv19_a, hv19_b, hv19_e, hv19_d⟩ := zk_gen (u1_ + 1)
        rw [hv19_e]
        refine zw_goto (pc := 45) (tgt := 2) (by decide) (zdal_p dlB_Sums_putProduct_28 (i := 1) rfl) ?_
        exact ih_2 v19_ hv19_a hv19_b N16_ hb0_N16_ (show 0 ≤ v19_ by first | with_reducible assumption | assumption | omega) (by omega)
  exact lp_2 _ 0 (by decide) (by decide) Mz zFc.rf (show 0 ≤ (0 : Int) by first | with_reducible assumption | (decide) | assumption) (Nat.lt_succ_self _)
set_option maxHeartbeats 4000000 in
theorem u_Sums_putScaledL (l : Launch) (d_ : Nat) (Mz : zMem) (hW : zKW d_ Mz) (a0_ : Int) (ha0_a : -2147483648 ≤ a0_) (ha0_b : a0_ < 2147483648) (a1_ : Int) (ha1_a : -2147483648 ≤ a1_) (ha1_b : a1_ < 2147483648) (F_ : Nat) (K_ : Nat → Nat → Int) (hA_ : zTA F_ K_) (p0_ : zKm F_ K_ d_ Mz) : zC l m_Sums_putScaled 0 0 [.ref (d_ + 23), .int (Int32.ofInt a0_), .int (Int32.ofInt a1_)] Mz (zqcV d_ [] [] [] [25, 27] Mz (fun N => zLow d_ Mz N)) := by
  refine zC_of (L0 := [some (.ref (d_ + 23)), some (.int (Int32.ofInt a0_)), some (.int (Int32.ofInt a1_)), none]) md_Sums_putScaled (Nat.le_of_ble_eq_true rfl) rfl ?_ zQ0
  have hf : zFc d_ [] [] [] [25, 27] Mz Mz := zFc.rf
  obtain ⟨⟨hF1_, hF27_⟩, hAr_⟩ := id hA_
  obtain ⟨hFc_, hKt_⟩ := id p0_
  have dv0 : zLow d_ Mz Mz := zLow.rf
  refine zw_iconst (pc := 0) (v := Int32.ofInt 0) (by decide) (zdal_p dlB_Sums_putScaled_74 (i := 0) rfl) ?_
  refine zw_istore_n (pc := 1) (i := 3) (L2 := [some (.ref (d_ + 23)), some (.int (Int32.ofInt a0_)), some (.int (Int32.ofInt a1_)), some (.int (Int32.ofInt 0))]) rfl (by decide) rfl (zdal_p dlB_Sums_putScaled_74 (i := 1) rfl) ?_
  have lp_2 : ∀ (n : Nat) (u1_ : Int) (hu1_a : -2147483648 ≤ u1_) (hu1_b : u1_ < 2147483648) (N2_ : zMem) (hs3_ : zFc d_ [] [] [] [27] Mz N2_) (i4_ : 0 ≤ u1_), (ze Mz (d_ + 12) 7 - u1_).toNat < n → zW l m_Sums_putScaled (zn Mz + 0, zw Mz + 0) N2_ 2 [some (.ref (d_ + 23)), some (.int (Int32.ofInt a0_)), some (.int (Int32.ofInt a1_)), some (.int (Int32.ofInt u1_))] [] (zqcV d_ [] [] [] [25, 27] Mz (fun N => zLow d_ Mz N)) := by
    intro n
    induction n with
    | zero =>
      intro u1_ hu1_a hu1_b N2_ hs3_ i4_ h0
      exact absurd h0 (Nat.not_lt_zero _)
    | succ n ih_2 =>
      intro u1_ hu1_a hu1_b N2_ hs3_ i4_ hlt_2
      have hf_N2_ : zFc d_ [] [] [] [25, 27] Mz N2_ := hf.tr hs3_ (by decide) (by decide) (by decide) (by decide)
      have c5_ : zKm F_ K_ d_ N2_ := zKm.fr (hf.w hW) hs3_ p0_ (by decide)
      have c6_ : zLow d_ Mz N2_ := zLow.fr (hf.w hW) hs3_ dv0 (by decide)
      refine zw_iload_n (pc := 2) (n := 3) (x := Int32.ofInt u1_) rfl (zdal_p dlB_Sums_putScaled_74 (i := 2) rfl) ?_
      refine zw_aload_n (pc := 3) (n := 0) (x := (d_ + 23)) rfl (zdal_p dlB_Sums_putScaled_74 (i := 3) rfl) ?_
      refine zw_getF (pc := 4) f_Sums_23 rfl ((hf_N2_.w hW).kr (o := 23) (by decide)) ((hf_N2_.w hW).lr (o := 23) (s := 0) (r := 12) (by decide)) (zdal_p dlB_Sums_putScaled_74 (i := 4) rfl) ?_
      refine zk_getI (pc := 7) f_Sums_35 rfl ((hf_N2_.w hW).kr (o := 12) (by decide)) (zdal_p dlB_Sums_putScaled_74 (i := 5) rfl) ?_
      rw [hf_N2_.e (by decide)]
      have hr7_ := ze_r Mz (d_ + 12) 7
      refine zr_icmp_ge (pc := 10) (tgt := 41) ⟨hu1_a, hu1_b⟩ ⟨(ze_r Mz (d_ + 12) 7).1, (ze_r Mz (d_ + 12) 7).2⟩ (by decide) (zdal_p dlB_Sums_putScaled_74 (i := 6) rfl) (fun hc_10 => ?_) (fun hc_10 => ?_)
      · skip
        refine zw_aload_n (pc := 41) (n := 0) (x := (d_ + 23)) rfl (zdal_p dlB_Sums_putScaled_74 (i := 21) rfl) ?_
        refine zw_bipush (pc := 42) (v := Int32.ofInt 39) (by decide) (zdal_p dlB_Sums_putScaled_74 (i := 22) rfl) ?_
        have hml_ := c6_
        refine zk_callV hf_N2_.x (pc := 44) [.int (Int32.ofInt 39)] [] l_Sums_58 (u_Sums_solve l d_ N2_ (hf_N2_.w hW) 39 (by decide) (by decide) F_ K_ hA_ c5_ (show 0 ≤ 39 by first | with_reducible assumption | (decide) | assumption) (show 39 ≤ 39 by first | with_reducible assumption | (decide) | assumption)) rfl rfl ((hf_N2_.w hW).kr (o := 23) (by decide)) (by decide) (by decide) (Nat.le_of_ble_eq_true rfl) (zdal_p dlB_Sums_putScaled_74 (i := 23) rfl) ?_
        rintro _ N8_ ⟨rfl, hsN8_, ⟨hp0_N8_, hp1_N8_⟩⟩
        have hf_N8_ : zFc d_ [] [] [] [25, 27] Mz N8_ := hf_N2_.tr hsN8_ (by decide) (by decide) (by decide) (by decide)
        have c10_ : zKm F_ K_ d_ N8_ := zKm.fr (hf_N2_.w hW) hsN8_ c5_ (by decide)
        show zW l m_Sums_putScaled (zn Mz + 0, zw Mz + 0) N8_ 47 [some (.ref (d_ + 23)), some (.int (Int32.ofInt a0_)), some (.int (Int32.ofInt a1_)), some (.int (Int32.ofInt u1_))] [] _
        have hnl_ := hml_.tr (zLow.ou hp1_N8_ (by decide))
        exact zk_vret (pc := 47) rfl hf_N8_ (show zLow d_ Mz N8_ by exact hnl_) (zdal_p dlB_Sums_putScaled_75 (i := 0) rfl)
      · skip
        refine zw_aload_n (pc := 13) (n := 0) (x := (d_ + 23)) rfl (zdal_p dlB_Sums_putScaled_74 (i := 7) rfl) ?_
        refine zw_getF (pc := 14) f_Sums_20 rfl ((hf_N2_.w hW).kr (o := 23) (by decide)) ((hf_N2_.w hW).lr (o := 23) (s := 2) (r := 26) (by decide)) (zdal_p dlB_Sums_putScaled_74 (i := 8) rfl) ?_
        refine zw_iload_n (pc := 17) (n := 3) (x := Int32.ofInt u1_) rfl (zdal_p dlB_Sums_putScaled_74 (i := 9) rfl) ?_
        refine zw_iload_n (pc := 18) (n := 1) (x := Int32.ofInt a0_) rfl (zdal_p dlB_Sums_putScaled_74 (i := 10) rfl) ?_
        refine zw_iload_n (pc := 19) (n := 3) (x := Int32.ofInt u1_) rfl (zdal_p dlB_Sums_putScaled_74 (i := 11) rfl) ?_
        refine zr_callS hf_N2_.x (pc := 20) [.int (Int32.ofInt a0_), .int (Int32.ofInt u1_)] [.int (Int32.ofInt u1_), .ref (d_ + 26)] l_Sums_61 (u_T_isInX l d_ N2_ (hf_N2_.w hW) a0_ ha0_a ha0_b u1_ hu1_a hu1_b) rfl rfl (by decide) (Nat.le_of_ble_eq_true rfl) (zdal_p dlB_Sums_putScaled_74 (i := 12) rfl) ?_
        rintro _ N11_ ⟨v12_, rfl, ⟨hv12_a, hv12_b⟩, hsN11_, hp0_N11_⟩
        obtain rfl := hsN11_.eq.symm
        replace hp0_N11_ : (v12_ = 0 ∨ v12_ = 1) := hp0_N11_
        show zW l m_Sums_putScaled (zn Mz + 0, zw Mz + 0) N2_ 23 [some (.ref (d_ + 23)), some (.int (Int32.ofInt a0_)), some (.int (Int32.ofInt a1_)), some (.int (Int32.ofInt u1_))] [.int (Int32.ofInt v12_), .int (Int32.ofInt u1_), .ref (d_ + 26)] _
        refine zr_if_eq (pc := 23) (tgt := 31) ⟨hv12_a, hv12_b⟩ (by decide) (zdal_p dlB_Sums_putScaled_74 (i := 13) rfl) (fun hc_23 => ?_) (fun hc_23 => ?_)
        · skip
          refine zw_lconst (pc := 31) (v := Int64.ofInt 0) (by decide) (zdal_p dlB_Sums_putScaled_74 (i := 17) rfl) ?_
          refine zk_stGJ hf_N2_.x (pc := 32) (o := 27) (by decide) l_Sums_31 ((hf_N2_.w hW).kr (o := 26) (by decide)) ((hf_N2_.w hW).lr (o := 26) (s := 0) (r := 27) (by decide)) ((hf_N2_.w hW).rr (o := 27) (t := 2) (n := 27) (by decide)) (by decide) ⟨by (exact hu1_a), by (exact hu1_b)⟩ (by decide) (Nat.le_of_ble_eq_true rfl) (zdal_p dlB_Sums_putScaled_74 (i := 18) rfl) (fun N13_ hsN13_ => ?_)
          have hf_N13_ : zFc d_ [] [] [] [25, 27] Mz N13_ := hf_N2_.tr hsN13_ (by decide) (by decide) (by decide) (by decide)
          have hb0_N13_ : zFc d_ [] [] [] [27] Mz N13_ := hs3_.tr hsN13_ (by decide) (by decide) (by decide) (by decide)
          have c14_ : zKm F_ K_ d_ N13_ := zKm.fr (hf_N2_.w hW) hsN13_ c5_ (by decide)
          have c15_ : zLow d_ Mz N13_ := zLow.fr (hf_N2_.w hW) hsN13_ c6_ (by decide)
          refine zr_iinc (pc := 35) (i := 3) (a := u1_) (n := 1) (L2 := [some (.ref (d_ + 23)), some (.int (Int32.ofInt a0_)), some (.int (Int32.ofInt a1_)), some (.int (Int32.ofInt (u1_ + 1)))]) rfl (by decide) rfl (zdal_p dlB_Sums_putScaled_74 (i := 19) rfl) ?_
          obtain ⟨v16_, hv16_a, hv16_b, hv16_e, hv16_d⟩ := zk_gen (u1_ + 1)
          rw [hv16_e]
          refine zw_goto (pc := 38) (tgt := 2) (by decide) (zdal_p dlB_Sums_putScaled_74 (i := 20) rfl) ?_
          exact ih_2 v16_ hv16_a hv16_b N13_ hb0_N13_ (show 0 ≤ v16_ by first | with_reducible assumption | assumption | omega) (by omega)
        · skip
          refine zw_iload_n (pc := 26) (n := 2) (x := Int32.ofInt a1_) rfl (zdal_p dlB_Sums_putScaled_74 (i := 14) rfl) ?_
          refine zr_i2l (pc := 27) ⟨ha1_a, ha1_b⟩ (zdal_p dlB_Sums_putScaled_74 (i := 15) rfl) ?_
          refine zw_goto (pc := 28) (tgt := 32) (by decide) (zdal_p dlB_Sums_putScaled_74 (i := 16) rfl) ?_
          refine zk_stGJ hf_N2_.x (pc := 32) (o := 27) (by decide) l_Sums_31 ((hf_N2_.w hW).kr (o := 26) (by decide)) ((hf_N2_.w hW).lr (o := 26) (s := 0) (r := 27) (by decide)) ((hf_N2_.w hW).rr (o := 27) (t := 2) (n := 27) (by decide)) (by decide) ⟨by (exact hu1_a), by (exact hu1_b)⟩ (by decide) (Nat.le_of_ble_eq_true rfl) (zdal_p dlB_Sums_putScaled_74 (i := 18) rfl) (fun N17_ hsN17_ => ?_)
          have hf_N17_ : zFc d_ [] [] [] [25, 27] Mz N17_ := hf_N2_.tr hsN17_ (by decide) (by decide) (by decide) (by decide)
          have hb0_N17_ : zFc d_ [] [] [] [27] Mz N17_ := hs3_.tr hsN17_ (by decide) (by decide) (by decide) (by decide)
          have c18_ : zKm F_ K_ d_ N17_ := zKm.fr (hf_N2_.w hW) hsN17_ c5_ (by decide)
          have c19_ : zLow d_ Mz N17_ := zLow.fr (hf_N2_.w hW) hsN17_ c6_ (by decide)
          refine zr_iinc (pc := 35) (i := 3) (a := u1_) (n := 1) (L2 := [some (.ref (d_ + 23)), some (.int (Int32.ofInt a0_)), some (.int (Int32.ofInt a1_)), some (.int (Int32.ofInt (u1_ + 1)))]) rfl (by decide) rfl (zdal_p dlB_Sums_putScaled_74 (i := 19) rfl) ?_
          obtain ⟨v20_, hv20_a, hv20_b, hv20_e, hv20_d⟩ := zk_gen (u1_ + 1)
          rw [hv20_e]
          refine zw_goto (pc := 38) (tgt := 2) (by decide) (zdal_p dlB_Sums_putScaled_74 (i := 20) rfl) ?_
          exact ih_2 v20_ hv20_a hv20_b N17_ hb0_N17_ (show 0 ≤ v20_ by first | with_reducible assumption | assumption | omega) (by omega)
  exact lp_2 _ 0 (by decide) (by decide) Mz zFc.rf (show 0 ≤ (0 : Int) by first | with_reducible assumption | (decide) | assumption) (Nat.lt_succ_self _)
set_option maxHeartbeats 4000000 in
theorem u_Sums_putSignsL (l : Launch) (d_ : Nat) (Mz : zMem) (hW : zKW d_ Mz) (a0_ : Int) (ha0_a : -2147483648 ≤ a0_) (ha0_b : a0_ < 2147483648) (F_ : Nat) (K_ : Nat → Nat → Int) (hA_ : zTA F_ K_) (p0_ : zKm F_ K_ d_ Mz) : zC l m_Sums_putSigns 0 0 [.ref (d_ + 23), .int (Int32.ofInt a0_)] Mz (zqcV d_ [] [] [] [25, 27] Mz (fun N => zLow d_ Mz N)) := by
  refine zC_of (L0 := [some (.ref (d_ + 23)), some (.int (Int32.ofInt a0_)), none]) md_Sums_putSigns (Nat.le_of_ble_eq_true rfl) rfl ?_ zQ0
  have hf : zFc d_ [] [] [] [25, 27] Mz Mz := zFc.rf
  obtain ⟨⟨hF1_, hF27_⟩, hAr_⟩ := id hA_
  obtain ⟨hFc_, hKt_⟩ := id p0_
  have dv0 : zLow d_ Mz Mz := zLow.rf
  refine zw_iconst (pc := 0) (v := Int32.ofInt 0) (by decide) (zdal_p dlB_Sums_putSigns_101 (i := 0) rfl) ?_
  refine zw_istore_n (pc := 1) (i := 2) (L2 := [some (.ref (d_ + 23)), some (.int (Int32.ofInt a0_)), some (.int (Int32.ofInt 0))]) rfl (by decide) rfl (zdal_p dlB_Sums_putSigns_101 (i := 1) rfl) ?_
  have lp_2 : ∀ (n : Nat) (u1_ : Int) (hu1_a : -2147483648 ≤ u1_) (hu1_b : u1_ < 2147483648) (N2_ : zMem) (hs3_ : zFc d_ [] [] [] [27] Mz N2_) (i4_ : 0 ≤ u1_), (ze Mz (d_ + 12) 7 - u1_).toNat < n → zW l m_Sums_putSigns (zn Mz + 0, zw Mz + 0) N2_ 2 [some (.ref (d_ + 23)), some (.int (Int32.ofInt a0_)), some (.int (Int32.ofInt u1_))] [] (zqcV d_ [] [] [] [25, 27] Mz (fun N => zLow d_ Mz N)) := by
    intro n
    induction n with
    | zero =>
      intro u1_ hu1_a hu1_b N2_ hs3_ i4_ h0
      exact absurd h0 (Nat.not_lt_zero _)
    | succ n ih_2 =>
      intro u1_ hu1_a hu1_b N2_ hs3_ i4_ hlt_2
      have hf_N2_ : zFc d_ [] [] [] [25, 27] Mz N2_ := hf.tr hs3_ (by decide) (by decide) (by decide) (by decide)
      have c5_ : zKm F_ K_ d_ N2_ := zKm.fr (hf.w hW) hs3_ p0_ (by decide)
      have c6_ : zLow d_ Mz N2_ := zLow.fr (hf.w hW) hs3_ dv0 (by decide)
      refine zw_iload_n (pc := 2) (n := 2) (x := Int32.ofInt u1_) rfl (zdal_p dlB_Sums_putSigns_101 (i := 2) rfl) ?_
      refine zw_aload_n (pc := 3) (n := 0) (x := (d_ + 23)) rfl (zdal_p dlB_Sums_putSigns_101 (i := 3) rfl) ?_
      refine zw_getF (pc := 4) f_Sums_23 rfl ((hf_N2_.w hW).kr (o := 23) (by decide)) ((hf_N2_.w hW).lr (o := 23) (s := 0) (r := 12) (by decide)) (zdal_p dlB_Sums_putSigns_101 (i := 4) rfl) ?_
      refine zk_getI (pc := 7) f_Sums_35 rfl ((hf_N2_.w hW).kr (o := 12) (by decide)) (zdal_p dlB_Sums_putSigns_101 (i := 5) rfl) ?_
      rw [hf_N2_.e (by decide)]
      have hr7_ := ze_r Mz (d_ + 12) 7
      refine zr_icmp_ge (pc := 10) (tgt := 42) ⟨hu1_a, hu1_b⟩ ⟨(ze_r Mz (d_ + 12) 7).1, (ze_r Mz (d_ + 12) 7).2⟩ (by decide) (zdal_p dlB_Sums_putSigns_101 (i := 6) rfl) (fun hc_10 => ?_) (fun hc_10 => ?_)
      · skip
        refine zw_aload_n (pc := 42) (n := 0) (x := (d_ + 23)) rfl (zdal_p dlB_Sums_putSigns_101 (i := 20) rfl) ?_
        refine zw_bipush (pc := 43) (v := Int32.ofInt 39) (by decide) (zdal_p dlB_Sums_putSigns_101 (i := 21) rfl) ?_
        have hml_ := c6_
        refine zk_callV hf_N2_.x (pc := 45) [.int (Int32.ofInt 39)] [] l_Sums_58 (u_Sums_solve l d_ N2_ (hf_N2_.w hW) 39 (by decide) (by decide) F_ K_ hA_ c5_ (show 0 ≤ 39 by first | with_reducible assumption | (decide) | assumption) (show 39 ≤ 39 by first | with_reducible assumption | (decide) | assumption)) rfl rfl ((hf_N2_.w hW).kr (o := 23) (by decide)) (by decide) (by decide) (Nat.le_of_ble_eq_true rfl) (zdal_p dlB_Sums_putSigns_101 (i := 22) rfl) ?_
        rintro _ N8_ ⟨rfl, hsN8_, ⟨hp0_N8_, hp1_N8_⟩⟩
        have hf_N8_ : zFc d_ [] [] [] [25, 27] Mz N8_ := hf_N2_.tr hsN8_ (by decide) (by decide) (by decide) (by decide)
        have c10_ : zKm F_ K_ d_ N8_ := zKm.fr (hf_N2_.w hW) hsN8_ c5_ (by decide)
        show zW l m_Sums_putSigns (zn Mz + 0, zw Mz + 0) N8_ 48 [some (.ref (d_ + 23)), some (.int (Int32.ofInt a0_)), some (.int (Int32.ofInt u1_))] [] _
        have hnl_ := hml_.tr (zLow.ou hp1_N8_ (by decide))
        exact zk_vret (pc := 48) rfl hf_N8_ (show zLow d_ Mz N8_ by exact hnl_) (zdal_p dlB_Sums_putSigns_101 (i := 23) rfl)
      · skip
        refine zw_aload_n (pc := 13) (n := 0) (x := (d_ + 23)) rfl (zdal_p dlB_Sums_putSigns_101 (i := 7) rfl) ?_
        refine zw_getF (pc := 14) f_Sums_20 rfl ((hf_N2_.w hW).kr (o := 23) (by decide)) ((hf_N2_.w hW).lr (o := 23) (s := 2) (r := 26) (by decide)) (zdal_p dlB_Sums_putSigns_101 (i := 8) rfl) ?_
        refine zw_iload_n (pc := 17) (n := 2) (x := Int32.ofInt u1_) rfl (zdal_p dlB_Sums_putSigns_101 (i := 9) rfl) ?_
        refine zw_iload_n (pc := 18) (n := 1) (x := Int32.ofInt a0_) rfl (zdal_p dlB_Sums_putSigns_101 (i := 10) rfl) ?_
        refine zw_iload_n (pc := 19) (n := 2) (x := Int32.ofInt u1_) rfl (zdal_p dlB_Sums_putSigns_101 (i := 11) rfl) ?_
        refine zr_callS hf_N2_.x (pc := 20) [.int (Int32.ofInt a0_), .int (Int32.ofInt u1_)] [.int (Int32.ofInt u1_), .ref (d_ + 26)] l_Sums_61 (u_T_isInX l d_ N2_ (hf_N2_.w hW) a0_ ha0_a ha0_b u1_ hu1_a hu1_b) rfl rfl (by decide) (Nat.le_of_ble_eq_true rfl) (zdal_p dlB_Sums_putSigns_101 (i := 12) rfl) ?_
        rintro _ N11_ ⟨v12_, rfl, ⟨hv12_a, hv12_b⟩, hsN11_, hp0_N11_⟩
        obtain rfl := hsN11_.eq.symm
        replace hp0_N11_ : (v12_ = 0 ∨ v12_ = 1) := hp0_N11_
        show zW l m_Sums_putSigns (zn Mz + 0, zw Mz + 0) N2_ 23 [some (.ref (d_ + 23)), some (.int (Int32.ofInt a0_)), some (.int (Int32.ofInt u1_))] [.int (Int32.ofInt v12_), .int (Int32.ofInt u1_), .ref (d_ + 26)] _
        refine zr_if_eq (pc := 23) (tgt := 32) ⟨hv12_a, hv12_b⟩ (by decide) (zdal_p dlB_Sums_putSigns_101 (i := 13) rfl) (fun hc_23 => ?_) (fun hc_23 => ?_)
        · skip
          refine zw_lconst (pc := 32) (v := Int64.ofInt 1) (by decide) (zdal_p dlB_Sums_putSigns_101 (i := 16) rfl) ?_
          refine zk_stGJ hf_N2_.x (pc := 33) (o := 27) (by decide) l_Sums_31 ((hf_N2_.w hW).kr (o := 26) (by decide)) ((hf_N2_.w hW).lr (o := 26) (s := 0) (r := 27) (by decide)) ((hf_N2_.w hW).rr (o := 27) (t := 2) (n := 27) (by decide)) (by decide) ⟨by (exact hu1_a), by (exact hu1_b)⟩ (by decide) (Nat.le_of_ble_eq_true rfl) (zdal_p dlB_Sums_putSigns_101 (i := 17) rfl) (fun N13_ hsN13_ => ?_)
          have hf_N13_ : zFc d_ [] [] [] [25, 27] Mz N13_ := hf_N2_.tr hsN13_ (by decide) (by decide) (by decide) (by decide)
          have hb0_N13_ : zFc d_ [] [] [] [27] Mz N13_ := hs3_.tr hsN13_ (by decide) (by decide) (by decide) (by decide)
          have c14_ : zKm F_ K_ d_ N13_ := zKm.fr (hf_N2_.w hW) hsN13_ c5_ (by decide)
          have c15_ : zLow d_ Mz N13_ := zLow.fr (hf_N2_.w hW) hsN13_ c6_ (by decide)
          refine zr_iinc (pc := 36) (i := 2) (a := u1_) (n := 1) (L2 := [some (.ref (d_ + 23)), some (.int (Int32.ofInt a0_)), some (.int (Int32.ofInt (u1_ + 1)))]) rfl (by decide) rfl (zdal_p dlB_Sums_putSigns_101 (i := 18) rfl) ?_
          obtain ⟨v16_, hv16_a, hv16_b, hv16_e, hv16_d⟩ := zk_gen (u1_ + 1)
          rw [hv16_e]
          refine zw_goto (pc := 39) (tgt := 2) (by decide) (zdal_p dlB_Sums_putSigns_101 (i := 19) rfl) ?_
          exact ih_2 v16_ hv16_a hv16_b N13_ hb0_N13_ (show 0 ≤ v16_ by first | with_reducible assumption | assumption | omega) (by omega)
        · skip
          refine zr_ldc2 (pc := 26) (n := (-1)) (by decide) k_Sums_65 (zdal_p dlB_Sums_putSigns_101 (i := 14) rfl) ?_
          refine zw_goto (pc := 29) (tgt := 33) (by decide) (zdal_p dlB_Sums_putSigns_101 (i := 15) rfl) ?_
          refine zk_stGJ hf_N2_.x (pc := 33) (o := 27) (by decide) l_Sums_31 ((hf_N2_.w hW).kr (o := 26) (by decide)) ((hf_N2_.w hW).lr (o := 26) (s := 0) (r := 27) (by decide)) ((hf_N2_.w hW).rr (o := 27) (t := 2) (n := 27) (by decide)) (by decide) ⟨by (exact hu1_a), by (exact hu1_b)⟩ (by decide) (Nat.le_of_ble_eq_true rfl) (zdal_p dlB_Sums_putSigns_101 (i := 17) rfl) (fun N17_ hsN17_ => ?_)
          have hf_N17_ : zFc d_ [] [] [] [25, 27] Mz N17_ := hf_N2_.tr hsN17_ (by decide) (by decide) (by decide) (by decide)
          have hb0_N17_ : zFc d_ [] [] [] [27] Mz N17_ := hs3_.tr hsN17_ (by decide) (by decide) (by decide) (by decide)
          have c18_ : zKm F_ K_ d_ N17_ := zKm.fr (hf_N2_.w hW) hsN17_ c5_ (by decide)
          have c19_ : zLow d_ Mz N17_ := zLow.fr (hf_N2_.w hW) hsN17_ c6_ (by decide)
          refine zr_iinc (pc := 36) (i := 2) (a := u1_) (n := 1) (L2 := [some (.ref (d_ + 23)), some (.int (Int32.ofInt a0_)), some (.int (Int32.ofInt (u1_ + 1)))]) rfl (by decide) rfl (zdal_p dlB_Sums_putSigns_101 (i := 18) rfl) ?_
          obtain ⟨v20_, hv20_a, hv20_b, hv20_e, hv20_d⟩ := zk_gen (u1_ + 1)
          rw [hv20_e]
          refine zw_goto (pc := 39) (tgt := 2) (by decide) (zdal_p dlB_Sums_putSigns_101 (i := 19) rfl) ?_
          exact ih_2 v20_ hv20_a hv20_b N17_ hb0_N17_ (show 0 ≤ v20_ by first | with_reducible assumption | assumption | omega) (by omega)
  exact lp_2 _ 0 (by decide) (by decide) Mz zFc.rf (show 0 ≤ (0 : Int) by first | with_reducible assumption | (decide) | assumption) (Nat.lt_succ_self _)
set_option maxHeartbeats 4000000 in
theorem u_T_productL (l : Launch) (d_ : Nat) (Mz : zMem) (hW : zKW d_ Mz) (hnow : zf Mz 0 2 = some (d_ + 0)) (a0_ : Int) (ha0_a : -2147483648 ≤ a0_) (ha0_b : a0_ < 2147483648) (a1_ : Int) (ha1_a : -2147483648 ≤ a1_) (ha1_b : a1_ < 2147483648) (a2_ : Int) (ha2_a : -2147483648 ≤ a2_) (ha2_b : a2_ < 2147483648) (F_ : Nat) (K_ : Nat → Nat → Int) (hA_ : zTA F_ K_) (p0_ : zKm F_ K_ d_ Mz) : zC l m_T_product 0 0 [.ref 0, .int (Int32.ofInt a0_), .int (Int32.ofInt a1_), .int (Int32.ofInt a2_)] Mz (zqcI d_ [] [] [] [25, 27] Mz (fun v N => zLow d_ Mz N)) := by
  refine zC_of (L0 := [some (.ref 0), some (.int (Int32.ofInt a0_)), some (.int (Int32.ofInt a1_)), some (.int (Int32.ofInt a2_)), none]) md_T_product (Nat.le_of_ble_eq_true rfl) rfl ?_ zQ0
  have hf : zFc d_ [] [] [] [25, 27] Mz Mz := zFc.rf
  obtain ⟨⟨hF1_, hF27_⟩, hAr_⟩ := id hA_
  obtain ⟨hFc_, hKt_⟩ := id p0_
  have dv0 : zLow d_ Mz Mz := zLow.rf
  refine zw_aload_n (pc := 0) (n := 0) (x := 0) rfl (zdal_p dlB_T_product_25 (i := 0) rfl) ?_
  refine zw_getF (pc := 1) f_T_28 rfl ((hf.w hW).ka (o := 0) (by decide)) (hf.now hnow) (zdal_p dlB_T_product_25 (i := 1) rfl) ?_
  refine zw_getF (pc := 4) f_T_85 rfl ((hf.w hW).kr (o := 0) (by decide)) ((hf.w hW).lr (o := 0) (s := 1) (r := 12) (by decide)) (zdal_p dlB_T_product_25 (i := 2) rfl) ?_
  refine zw_astore (pc := 7) (i := 4) (L2 := [some (.ref 0), some (.int (Int32.ofInt a0_)), some (.int (Int32.ofInt a1_)), some (.int (Int32.ofInt a2_)), some (.ref (d_ + 12))]) (by decide) rfl (zdal_p dlB_T_product_25 (i := 3) rfl) ?_
  refine zw_aload (pc := 9) (i := 4) (x := (d_ + 12)) rfl (zdal_p dlB_T_product_25 (i := 4) rfl) ?_
  refine zw_iload_n (pc := 11) (n := 1) (x := Int32.ofInt a0_) rfl (zdal_p dlB_T_product_25 (i := 5) rfl) ?_
  refine zk_callV hf.x (pc := 12) [.int (Int32.ofInt a0_)] [] l_T_143 (u_Sorts_hasSortX l d_ Mz (hf.w hW) a0_ ha0_a ha0_b) rfl rfl ((hf.w hW).kr (o := 12) (by decide)) (by decide) (by decide) (Nat.le_of_ble_eq_true rfl) (zdal_p dlB_T_product_25 (i := 6) rfl) ?_
  rintro _ N1_ ⟨v2_, rfl, ⟨hv2_a, hv2_b⟩, hsN1_, hp0_N1_⟩
  obtain rfl := hsN1_.eq.symm
  replace hp0_N1_ : (v2_ = 0 ∨ v2_ = 1) := hp0_N1_
  show zW l m_T_product (zn Mz + 0, zw Mz + 0) Mz 15 [some (.ref 0), some (.int (Int32.ofInt a0_)), some (.int (Int32.ofInt a1_)), some (.int (Int32.ofInt a2_)), some (.ref (d_ + 12))] [.int (Int32.ofInt v2_)] _
  refine zr_if_eq (pc := 15) (tgt := 36) ⟨hv2_a, hv2_b⟩ (by decide) (zdal_p dlB_T_product_25 (i := 7) rfl) (fun hc_15 => ?_) (fun hc_15 => ?_)
  · skip
    refine zw_iconst (pc := 36) (v := Int32.ofInt (-1)) (by decide) (zdal_p dlB_T_product_25 (i := 16) rfl) ?_
    exact zk_iret (pc := 37) (ty := .int) rfl rfl ⟨by (decide), by (decide)⟩ hf (show zLow d_ Mz Mz by exact dv0) (zdal_p dlB_T_product_25 (i := 17) rfl)
  · skip
    refine zw_aload (pc := 18) (i := 4) (x := (d_ + 12)) rfl (zdal_p dlB_T_product_25 (i := 8) rfl) ?_
    refine zw_iload_n (pc := 20) (n := 2) (x := Int32.ofInt a1_) rfl (zdal_p dlB_T_product_25 (i := 9) rfl) ?_
    refine zk_callV hf.x (pc := 21) [.int (Int32.ofInt a1_)] [] l_T_143 (u_Sorts_hasSortX l d_ Mz (hf.w hW) a1_ ha1_a ha1_b) rfl rfl ((hf.w hW).kr (o := 12) (by decide)) (by decide) (by decide) (Nat.le_of_ble_eq_true rfl) (zdal_p dlB_T_product_25 (i := 10) rfl) ?_
    rintro _ N3_ ⟨v4_, rfl, ⟨hv4_a, hv4_b⟩, hsN3_, hp0_N3_⟩
    obtain rfl := hsN3_.eq.symm
    replace hp0_N3_ : (v4_ = 0 ∨ v4_ = 1) := hp0_N3_
    show zW l m_T_product (zn Mz + 0, zw Mz + 0) Mz 24 [some (.ref 0), some (.int (Int32.ofInt a0_)), some (.int (Int32.ofInt a1_)), some (.int (Int32.ofInt a2_)), some (.ref (d_ + 12))] [.int (Int32.ofInt v4_)] _
    refine zr_if_eq (pc := 24) (tgt := 36) ⟨hv4_a, hv4_b⟩ (by decide) (zdal_p dlB_T_product_25 (i := 11) rfl) (fun hc_24 => ?_) (fun hc_24 => ?_)
    · skip
      refine zw_iconst (pc := 36) (v := Int32.ofInt (-1)) (by decide) (zdal_p dlB_T_product_25 (i := 16) rfl) ?_
      exact zk_iret (pc := 37) (ty := .int) rfl rfl ⟨by (decide), by (decide)⟩ hf (show zLow d_ Mz Mz by exact dv0) (zdal_p dlB_T_product_25 (i := 17) rfl)
    · skip
      refine zw_aload (pc := 27) (i := 4) (x := (d_ + 12)) rfl (zdal_p dlB_T_product_25 (i := 12) rfl) ?_
      refine zw_iload_n (pc := 29) (n := 3) (x := Int32.ofInt a2_) rfl (zdal_p dlB_T_product_25 (i := 13) rfl) ?_
      refine zk_callV hf.x (pc := 30) [.int (Int32.ofInt a2_)] [] l_T_143 (u_Sorts_hasSortX l d_ Mz (hf.w hW) a2_ ha2_a ha2_b) rfl rfl ((hf.w hW).kr (o := 12) (by decide)) (by decide) (by decide) (Nat.le_of_ble_eq_true rfl) (zdal_p dlB_T_product_25 (i := 14) rfl) ?_
      rintro _ N5_ ⟨v6_, rfl, ⟨hv6_a, hv6_b⟩, hsN5_, hp0_N5_⟩
      obtain rfl := hsN5_.eq.symm
      replace hp0_N5_ : (v6_ = 0 ∨ v6_ = 1) := hp0_N5_
      show zW l m_T_product (zn Mz + 0, zw Mz + 0) Mz 33 [some (.ref 0), some (.int (Int32.ofInt a0_)), some (.int (Int32.ofInt a1_)), some (.int (Int32.ofInt a2_)), some (.ref (d_ + 12))] [.int (Int32.ofInt v6_)] _
      refine zr_if_ne (pc := 33) (tgt := 38) ⟨hv6_a, hv6_b⟩ (by decide) (zdal_p dlB_T_product_25 (i := 15) rfl) (fun hc_33 => ?_) (fun hc_33 => ?_)
      · skip
        refine zw_aload_n (pc := 38) (n := 0) (x := 0) rfl (zdal_p dlB_T_product_25 (i := 18) rfl) ?_
        refine zw_getF (pc := 39) f_T_28 rfl ((hf.w hW).ka (o := 0) (by decide)) (hf.now hnow) (zdal_p dlB_T_product_25 (i := 19) rfl) ?_
        refine zw_getF (pc := 42) f_T_169 rfl ((hf.w hW).kr (o := 0) (by decide)) ((hf.w hW).lr (o := 0) (s := 2) (r := 23) (by decide)) (zdal_p dlB_T_product_25 (i := 20) rfl) ?_
        refine zw_iload_n (pc := 45) (n := 1) (x := Int32.ofInt a0_) rfl (zdal_p dlB_T_product_25 (i := 21) rfl) ?_
        refine zw_iload_n (pc := 46) (n := 2) (x := Int32.ofInt a1_) rfl (zdal_p dlB_T_product_25 (i := 22) rfl) ?_
        have hml_ := dv0
        refine zk_callV hf.x (pc := 47) [.int (Int32.ofInt a0_), .int (Int32.ofInt a1_)] [] l_T_173 (u_Sums_putProductL l d_ Mz (hf.w hW) a0_ ha0_a ha0_b a1_ ha1_a ha1_b F_ K_ hA_ p0_) rfl rfl ((hf.w hW).kr (o := 23) (by decide)) (by decide) (by decide) (Nat.le_of_ble_eq_true rfl) (zdal_p dlB_T_product_25 (i := 23) rfl) ?_
        rintro _ N7_ ⟨rfl, hsN7_, hp0_N7_⟩
        replace hp0_N7_ : zLow d_ Mz N7_ := hp0_N7_
        have hf_N7_ : zFc d_ [] [] [] [25, 27] Mz N7_ := hf.tr hsN7_ (by decide) (by decide) (by decide) (by decide)
        have c9_ : zKm F_ K_ d_ N7_ := zKm.fr (hf.w hW) hsN7_ p0_ (by decide)
        show zW l m_T_product (zn Mz + 0, zw Mz + 0) N7_ 50 [some (.ref 0), some (.int (Int32.ofInt a0_)), some (.int (Int32.ofInt a1_)), some (.int (Int32.ofInt a2_)), some (.ref (d_ + 12))] [] _
        have hnl_ := hml_.tr hp0_N7_
        refine zw_aload_n (pc := 50) (n := 0) (x := 0) rfl (zdal_p dlB_T_product_26 (i := 0) rfl) ?_
        refine zw_getF (pc := 51) f_T_28 rfl ((hf_N7_.w hW).ka (o := 0) (by decide)) (hf_N7_.now hnow) (zdal_p dlB_T_product_26 (i := 1) rfl) ?_
        refine zw_getF (pc := 54) f_T_169 rfl ((hf_N7_.w hW).kr (o := 0) (by decide)) ((hf_N7_.w hW).lr (o := 0) (s := 2) (r := 23) (by decide)) (zdal_p dlB_T_product_26 (i := 2) rfl) ?_
        refine zw_bipush (pc := 57) (v := Int32.ofInt 39) (by decide) (zdal_p dlB_T_product_26 (i := 3) rfl) ?_
        refine zw_iload_n (pc := 59) (n := 3) (x := Int32.ofInt a2_) rfl (zdal_p dlB_T_product_26 (i := 4) rfl) ?_
        refine zk_callV hf_N7_.x (pc := 60) [.int (Int32.ofInt 39), .int (Int32.ofInt a2_)] [] l_T_179 (u_Sums_numberAtX l d_ N7_ (hf_N7_.w hW) 39 (by decide) (by decide) a2_ ha2_a ha2_b) rfl rfl ((hf_N7_.w hW).kr (o := 23) (by decide)) (by decide) (by decide) (Nat.le_of_ble_eq_true rfl) (zdal_p dlB_T_product_26 (i := 5) rfl) ?_
        rintro _ N10_ ⟨v11_, rfl, ⟨hv11_a, hv11_b⟩, hsN10_, -⟩
        obtain rfl := hsN10_.eq.symm
        show zW l m_T_product (zn Mz + 0, zw Mz + 0) N7_ 63 [some (.ref 0), some (.int (Int32.ofInt a0_)), some (.int (Int32.ofInt a1_)), some (.int (Int32.ofInt a2_)), some (.ref (d_ + 12))] [.long (Int64.ofInt v11_)] _
        refine zr_l2i (pc := 63) (zdal_p dlB_T_product_26 (i := 6) rfl) ?_
        refine zr_nmI (fun v12_ hv12_ => ?_)
        obtain ⟨hv12_a, hv12_b⟩ := hv12_
        exact zk_iret (pc := 64) (ty := .int) rfl rfl ⟨by (exact hv12_a), by (exact hv12_b)⟩ hf_N7_ (show zLow d_ Mz N7_ by exact hnl_) (zdal_p dlB_T_product_26 (i := 7) rfl)
      · skip
        refine zw_iconst (pc := 36) (v := Int32.ofInt (-1)) (by decide) (zdal_p dlB_T_product_25 (i := 16) rfl) ?_
        exact zk_iret (pc := 37) (ty := .int) rfl rfl ⟨by (decide), by (decide)⟩ hf (show zLow d_ Mz Mz by exact dv0) (zdal_p dlB_T_product_25 (i := 17) rfl)
set_option maxHeartbeats 4000000 in
theorem u_T_pairsL (l : Launch) (d_ : Nat) (Mz : zMem) (hW : zKW d_ Mz) (hnow : zf Mz 0 2 = some (d_ + 0)) (a0_ : Int) (ha0_a : -2147483648 ≤ a0_) (ha0_b : a0_ < 2147483648) (a1_ : Int) (ha1_a : -2147483648 ≤ a1_) (ha1_b : a1_ < 2147483648) (F_ : Nat) (K_ : Nat → Nat → Int) (hA_ : zTA F_ K_) (p0_ : zKm F_ K_ d_ Mz) : zC l m_T_pairs 0 0 [.ref 0, .int (Int32.ofInt a0_), .int (Int32.ofInt a1_)] Mz (zqcI d_ [] [] [] [25, 27] Mz (fun v N => zLow d_ Mz N)) := by
  refine zC_of (L0 := [some (.ref 0), some (.int (Int32.ofInt a0_)), some (.int (Int32.ofInt a1_))]) md_T_pairs (Nat.le_of_ble_eq_true rfl) rfl ?_ zQ0
  have hf : zFc d_ [] [] [] [25, 27] Mz Mz := zFc.rf
  obtain ⟨⟨hF1_, hF27_⟩, hAr_⟩ := id hA_
  obtain ⟨hFc_, hKt_⟩ := id p0_
  have dv0 : zLow d_ Mz Mz := zLow.rf
  refine zw_aload_n (pc := 0) (n := 0) (x := 0) rfl (zdal_p dlB_T_pairs_58 (i := 0) rfl) ?_
  refine zw_getF (pc := 1) f_T_28 rfl ((hf.w hW).ka (o := 0) (by decide)) (hf.now hnow) (zdal_p dlB_T_pairs_58 (i := 1) rfl) ?_
  refine zw_getF (pc := 4) f_T_85 rfl ((hf.w hW).kr (o := 0) (by decide)) ((hf.w hW).lr (o := 0) (s := 1) (r := 12) (by decide)) (zdal_p dlB_T_pairs_58 (i := 2) rfl) ?_
  refine zw_iload_n (pc := 7) (n := 1) (x := Int32.ofInt a0_) rfl (zdal_p dlB_T_pairs_58 (i := 3) rfl) ?_
  refine zk_callV hf.x (pc := 8) [.int (Int32.ofInt a0_)] [] l_T_143 (u_Sorts_hasSortX l d_ Mz (hf.w hW) a0_ ha0_a ha0_b) rfl rfl ((hf.w hW).kr (o := 12) (by decide)) (by decide) (by decide) (Nat.le_of_ble_eq_true rfl) (zdal_p dlB_T_pairs_58 (i := 4) rfl) ?_
  rintro _ N1_ ⟨v2_, rfl, ⟨hv2_a, hv2_b⟩, hsN1_, hp0_N1_⟩
  obtain rfl := hsN1_.eq.symm
  replace hp0_N1_ : (v2_ = 0 ∨ v2_ = 1) := hp0_N1_
  show zW l m_T_pairs (zn Mz + 0, zw Mz + 0) Mz 11 [some (.ref 0), some (.int (Int32.ofInt a0_)), some (.int (Int32.ofInt a1_))] [.int (Int32.ofInt v2_)] _
  refine zr_if_eq (pc := 11) (tgt := 28) ⟨hv2_a, hv2_b⟩ (by decide) (zdal_p dlB_T_pairs_58 (i := 5) rfl) (fun hc_11 => ?_) (fun hc_11 => ?_)
  · skip
    refine zw_iconst (pc := 28) (v := Int32.ofInt (-1)) (by decide) (zdal_p dlB_T_pairs_58 (i := 12) rfl) ?_
    exact zk_iret (pc := 29) (ty := .int) rfl rfl ⟨by (decide), by (decide)⟩ hf (show zLow d_ Mz Mz by exact dv0) (zdal_p dlB_T_pairs_58 (i := 13) rfl)
  · skip
    refine zw_aload_n (pc := 14) (n := 0) (x := 0) rfl (zdal_p dlB_T_pairs_58 (i := 6) rfl) ?_
    refine zw_getF (pc := 15) f_T_28 rfl ((hf.w hW).ka (o := 0) (by decide)) (hf.now hnow) (zdal_p dlB_T_pairs_58 (i := 7) rfl) ?_
    refine zw_getF (pc := 18) f_T_85 rfl ((hf.w hW).kr (o := 0) (by decide)) ((hf.w hW).lr (o := 0) (s := 1) (r := 12) (by decide)) (zdal_p dlB_T_pairs_58 (i := 8) rfl) ?_
    refine zw_iload_n (pc := 21) (n := 2) (x := Int32.ofInt a1_) rfl (zdal_p dlB_T_pairs_58 (i := 9) rfl) ?_
    refine zk_callV hf.x (pc := 22) [.int (Int32.ofInt a1_)] [] l_T_143 (u_Sorts_hasSortX l d_ Mz (hf.w hW) a1_ ha1_a ha1_b) rfl rfl ((hf.w hW).kr (o := 12) (by decide)) (by decide) (by decide) (Nat.le_of_ble_eq_true rfl) (zdal_p dlB_T_pairs_58 (i := 10) rfl) ?_
    rintro _ N3_ ⟨v4_, rfl, ⟨hv4_a, hv4_b⟩, hsN3_, hp0_N3_⟩
    obtain rfl := hsN3_.eq.symm
    replace hp0_N3_ : (v4_ = 0 ∨ v4_ = 1) := hp0_N3_
    show zW l m_T_pairs (zn Mz + 0, zw Mz + 0) Mz 25 [some (.ref 0), some (.int (Int32.ofInt a0_)), some (.int (Int32.ofInt a1_))] [.int (Int32.ofInt v4_)] _
    refine zr_if_ne (pc := 25) (tgt := 30) ⟨hv4_a, hv4_b⟩ (by decide) (zdal_p dlB_T_pairs_58 (i := 11) rfl) (fun hc_25 => ?_) (fun hc_25 => ?_)
    · skip
      refine zw_aload_n (pc := 30) (n := 0) (x := 0) rfl (zdal_p dlB_T_pairs_58 (i := 14) rfl) ?_
      refine zw_getF (pc := 31) f_T_28 rfl ((hf.w hW).ka (o := 0) (by decide)) (hf.now hnow) (zdal_p dlB_T_pairs_58 (i := 15) rfl) ?_
      refine zw_getF (pc := 34) f_T_169 rfl ((hf.w hW).kr (o := 0) (by decide)) ((hf.w hW).lr (o := 0) (s := 2) (r := 23) (by decide)) (zdal_p dlB_T_pairs_58 (i := 16) rfl) ?_
      refine zw_iload_n (pc := 37) (n := 1) (x := Int32.ofInt a0_) rfl (zdal_p dlB_T_pairs_58 (i := 17) rfl) ?_
      refine zw_iload_n (pc := 38) (n := 2) (x := Int32.ofInt a1_) rfl (zdal_p dlB_T_pairs_58 (i := 18) rfl) ?_
      have hml_ := dv0
      refine zk_callV hf.x (pc := 39) [.int (Int32.ofInt a0_), .int (Int32.ofInt a1_)] [] l_T_173 (u_Sums_putProductL l d_ Mz (hf.w hW) a0_ ha0_a ha0_b a1_ ha1_a ha1_b F_ K_ hA_ p0_) rfl rfl ((hf.w hW).kr (o := 23) (by decide)) (by decide) (by decide) (Nat.le_of_ble_eq_true rfl) (zdal_p dlB_T_pairs_58 (i := 19) rfl) ?_
      rintro _ N5_ ⟨rfl, hsN5_, hp0_N5_⟩
      replace hp0_N5_ : zLow d_ Mz N5_ := hp0_N5_
      have hf_N5_ : zFc d_ [] [] [] [25, 27] Mz N5_ := hf.tr hsN5_ (by decide) (by decide) (by decide) (by decide)
      have c7_ : zKm F_ K_ d_ N5_ := zKm.fr (hf.w hW) hsN5_ p0_ (by decide)
      show zW l m_T_pairs (zn Mz + 0, zw Mz + 0) N5_ 42 [some (.ref 0), some (.int (Int32.ofInt a0_)), some (.int (Int32.ofInt a1_))] [] _
      have hnl_ := hml_.tr hp0_N5_
      refine zw_aload_n (pc := 42) (n := 0) (x := 0) rfl (zdal_p dlB_T_pairs_58 (i := 20) rfl) ?_
      refine zw_getF (pc := 43) f_T_28 rfl ((hf_N5_.w hW).ka (o := 0) (by decide)) (hf_N5_.now hnow) (zdal_p dlB_T_pairs_58 (i := 21) rfl) ?_
      refine zw_getF (pc := 46) f_T_169 rfl ((hf_N5_.w hW).kr (o := 0) (by decide)) ((hf_N5_.w hW).lr (o := 0) (s := 2) (r := 23) (by decide)) (zdal_p dlB_T_pairs_58 (i := 22) rfl) ?_
      refine zk_callV hf_N5_.x (pc := 49) [] [] l_T_211 (u_Sums_totalOfWorkX l d_ N5_ (hf_N5_.w hW) ) rfl rfl ((hf_N5_.w hW).kr (o := 23) (by decide)) (by decide) (by decide) (Nat.le_of_ble_eq_true rfl) (zdal_p dlB_T_pairs_58 (i := 23) rfl) ?_
      rintro _ N8_ ⟨v9_, rfl, ⟨hv9_a, hv9_b⟩, hsN8_, -⟩
      obtain rfl := hsN8_.eq.symm
      show zW l m_T_pairs (zn Mz + 0, zw Mz + 0) N5_ 52 [some (.ref 0), some (.int (Int32.ofInt a0_)), some (.int (Int32.ofInt a1_))] [.int (Int32.ofInt v9_)] _
      exact zk_iret (pc := 52) (ty := .int) rfl rfl ⟨by (exact hv9_a), by (exact hv9_b)⟩ hf_N5_ (show zLow d_ Mz N5_ by exact hnl_) (zdal_p dlB_T_pairs_59 (i := 0) rfl)
    · skip
      refine zw_iconst (pc := 28) (v := Int32.ofInt (-1)) (by decide) (zdal_p dlB_T_pairs_58 (i := 12) rfl) ?_
      exact zk_iret (pc := 29) (ty := .int) rfl rfl ⟨by (decide), by (decide)⟩ hf (show zLow d_ Mz Mz by exact dv0) (zdal_p dlB_T_pairs_58 (i := 13) rfl)
set_option maxHeartbeats 4000000 in
theorem u_T_peakPartL (l : Launch) (d_ : Nat) (Mz : zMem) (hW : zKW d_ Mz) (hnow : zf Mz 0 2 = some (d_ + 0)) (a0_ : Int) (ha0_a : -2147483648 ≤ a0_) (ha0_b : a0_ < 2147483648) (a1_ : Int) (ha1_a : -2147483648 ≤ a1_) (ha1_b : a1_ < 2147483648) (a2_ : Int) (ha2_a : -2147483648 ≤ a2_) (ha2_b : a2_ < 2147483648) (F_ : Nat) (K_ : Nat → Nat → Int) (hA_ : zTA F_ K_) (p0_ : zKm F_ K_ d_ Mz) : zC l m_T_peakPart 0 0 [.ref 0, .int (Int32.ofInt a0_), .int (Int32.ofInt a1_), .int (Int32.ofInt a2_)] Mz (zqcI d_ [] [] [] [25, 27] Mz (fun v N => zLow d_ Mz N)) := by
  refine zC_of (L0 := [some (.ref 0), some (.int (Int32.ofInt a0_)), some (.int (Int32.ofInt a1_)), some (.int (Int32.ofInt a2_)), none, none, none]) md_T_peakPart (Nat.le_of_ble_eq_true rfl) rfl ?_ zQ0
  have hf : zFc d_ [] [] [] [25, 27] Mz Mz := zFc.rf
  obtain ⟨⟨hF1_, hF27_⟩, hAr_⟩ := id hA_
  obtain ⟨hFc_, hKt_⟩ := id p0_
  have dv0 : zLow d_ Mz Mz := zLow.rf
  refine zw_iload_n (pc := 0) (n := 3) (x := Int32.ofInt a2_) rfl (zdal_p dlB_T_peakPart_72 (i := 0) rfl) ?_
  refine zr_if_eq (pc := 1) (tgt := 12) ⟨ha2_a, ha2_b⟩ (by decide) (zdal_p dlB_T_peakPart_72 (i := 1) rfl) (fun hc_1 => ?_) (fun hc_1 => ?_)
  · skip
    refine zw_aload_n (pc := 12) (n := 0) (x := 0) rfl (zdal_p dlB_T_peakPart_72 (i := 7) rfl) ?_
    refine zw_getF (pc := 13) f_T_28 rfl ((hf.w hW).ka (o := 0) (by decide)) (hf.now hnow) (zdal_p dlB_T_peakPart_72 (i := 8) rfl) ?_
    refine zw_getF (pc := 16) f_T_61 rfl ((hf.w hW).kr (o := 0) (by decide)) ((hf.w hW).lr (o := 0) (s := 0) (r := 1) (by decide)) (zdal_p dlB_T_peakPart_72 (i := 9) rfl) ?_
    refine zk_getI (pc := 19) f_T_65 rfl ((hf.w hW).kr (o := 1) (by decide)) (zdal_p dlB_T_peakPart_72 (i := 10) rfl) ?_
    have hr1_ := ze_r Mz (d_ + 1) 7
    refine zw_istore (pc := 22) (i := 4) (L2 := [some (.ref 0), some (.int (Int32.ofInt a0_)), some (.int (Int32.ofInt a1_)), some (.int (Int32.ofInt a2_)), some (.int (Int32.ofInt (ze Mz (d_ + 1) 7))), none, none]) (by decide) rfl (zdal_p dlB_T_peakPart_72 (i := 11) rfl) ?_
    refine zw_aload_n (pc := 24) (n := 0) (x := 0) rfl (zdal_p dlB_T_peakPart_72 (i := 12) rfl) ?_
    refine zw_getF (pc := 25) f_T_28 rfl ((hf.w hW).ka (o := 0) (by decide)) (hf.now hnow) (zdal_p dlB_T_peakPart_72 (i := 13) rfl) ?_
    refine zw_getF (pc := 28) f_T_169 rfl ((hf.w hW).kr (o := 0) (by decide)) ((hf.w hW).lr (o := 0) (s := 2) (r := 23) (by decide)) (zdal_p dlB_T_peakPart_72 (i := 14) rfl) ?_
    refine zw_iload_n (pc := 31) (n := 1) (x := Int32.ofInt a0_) rfl (zdal_p dlB_T_peakPart_72 (i := 15) rfl) ?_
    refine zw_iload (pc := 32) (i := 4) (x := Int32.ofInt (ze Mz (d_ + 1) 7)) rfl (zdal_p dlB_T_peakPart_72 (i := 16) rfl) ?_
    have hml_ := dv0
    refine zk_callV hf.x (pc := 34) [.int (Int32.ofInt a0_), .int (Int32.ofInt (ze Mz (d_ + 1) 7))] [] l_T_317 (u_Sums_putScaledL l d_ Mz (hf.w hW) a0_ ha0_a ha0_b (ze Mz (d_ + 1) 7) (ze_r Mz (d_ + 1) 7).1 (ze_r Mz (d_ + 1) 7).2 F_ K_ hA_ p0_) rfl rfl ((hf.w hW).kr (o := 23) (by decide)) (by decide) (by decide) (Nat.le_of_ble_eq_true rfl) (zdal_p dlB_T_peakPart_72 (i := 17) rfl) ?_
    rintro _ N2_ ⟨rfl, hsN2_, hp0_N2_⟩
    replace hp0_N2_ : zLow d_ Mz N2_ := hp0_N2_
    have hf_N2_ : zFc d_ [] [] [] [25, 27] Mz N2_ := hf.tr hsN2_ (by decide) (by decide) (by decide) (by decide)
    have c4_ : zKm F_ K_ d_ N2_ := zKm.fr (hf.w hW) hsN2_ p0_ (by decide)
    show zW l m_T_peakPart (zn Mz + 0, zw Mz + 0) N2_ 37 [some (.ref 0), some (.int (Int32.ofInt a0_)), some (.int (Int32.ofInt a1_)), some (.int (Int32.ofInt a2_)), some (.int (Int32.ofInt (ze Mz (d_ + 1) 7))), none, none] [] _
    have hnl_ := hml_.tr hp0_N2_
    refine zw_aload_n (pc := 37) (n := 0) (x := 0) rfl (zdal_p dlB_T_peakPart_72 (i := 18) rfl) ?_
    refine zw_getF (pc := 38) f_T_28 rfl ((hf_N2_.w hW).ka (o := 0) (by decide)) (hf_N2_.now hnow) (zdal_p dlB_T_peakPart_72 (i := 19) rfl) ?_
    refine zw_getF (pc := 41) f_T_169 rfl ((hf_N2_.w hW).kr (o := 0) (by decide)) ((hf_N2_.w hW).lr (o := 0) (s := 2) (r := 23) (by decide)) (zdal_p dlB_T_peakPart_72 (i := 20) rfl) ?_
    refine zw_bipush (pc := 44) (v := Int32.ofInt 39) (by decide) (zdal_p dlB_T_peakPart_72 (i := 21) rfl) ?_
    refine zw_iload_n (pc := 46) (n := 2) (x := Int32.ofInt a1_) rfl (zdal_p dlB_T_peakPart_72 (i := 22) rfl) ?_
    refine zk_callV hf_N2_.x (pc := 47) [.int (Int32.ofInt 39), .int (Int32.ofInt a1_)] [] l_T_179 (u_Sums_numberAtX l d_ N2_ (hf_N2_.w hW) 39 (by decide) (by decide) a1_ ha1_a ha1_b) rfl rfl ((hf_N2_.w hW).kr (o := 23) (by decide)) (by decide) (by decide) (Nat.le_of_ble_eq_true rfl) (zdal_p dlB_T_peakPart_72 (i := 23) rfl) ?_
    rintro _ N5_ ⟨v6_, rfl, ⟨hv6_a, hv6_b⟩, hsN5_, -⟩
    obtain rfl := hsN5_.eq.symm
    show zW l m_T_peakPart (zn Mz + 0, zw Mz + 0) N2_ 50 [some (.ref 0), some (.int (Int32.ofInt a0_)), some (.int (Int32.ofInt a1_)), some (.int (Int32.ofInt a2_)), some (.int (Int32.ofInt (ze Mz (d_ + 1) 7))), none, none] [.long (Int64.ofInt v6_)] _
    refine zr_l2i (pc := 50) (zdal_p dlB_T_peakPart_73 (i := 0) rfl) ?_
    refine zr_nmI (fun v7_ hv7_ => ?_)
    obtain ⟨hv7_a, hv7_b⟩ := hv7_
    refine zw_istore (pc := 51) (i := 5) (L2 := [some (.ref 0), some (.int (Int32.ofInt a0_)), some (.int (Int32.ofInt a1_)), some (.int (Int32.ofInt a2_)), some (.int (Int32.ofInt (ze Mz (d_ + 1) 7))), some (.int (Int32.ofInt v7_)), none]) (by decide) rfl (zdal_p dlB_T_peakPart_73 (i := 1) rfl) ?_
    refine zw_iload (pc := 53) (i := 4) (x := Int32.ofInt (ze Mz (d_ + 1) 7)) rfl (zdal_p dlB_T_peakPart_73 (i := 2) rfl) ?_
    refine zw_iload (pc := 55) (i := 5) (x := Int32.ofInt v7_) rfl (zdal_p dlB_T_peakPart_73 (i := 3) rfl) ?_
    refine zk_mabs (pc := 57) x_T_320 (by decide) (Nat.le_of_ble_eq_true rfl) (zdal_p dlB_T_peakPart_73 (i := 4) rfl) ⟨hv7_a, hv7_b⟩ (fun v8_ hv8_ hv8_e => ?_)
    obtain ⟨hv8_a, hv8_b⟩ := hv8_
    refine zr_callS hf_N2_.x (pc := 60) [.int (Int32.ofInt (ze Mz (d_ + 1) 7)), .int (Int32.ofInt v8_)] [] l_T_325 (u_T_greatestDivisorX l d_ N2_ (hf_N2_.w hW) (ze Mz (d_ + 1) 7) (ze_r Mz (d_ + 1) 7).1 (ze_r Mz (d_ + 1) 7).2 v8_ hv8_a hv8_b) rfl rfl (by decide) (Nat.le_of_ble_eq_true rfl) (zdal_p dlB_T_peakPart_73 (i := 5) rfl) ?_
    rintro _ N9_ ⟨v10_, rfl, ⟨hv10_a, hv10_b⟩, hsN9_, -⟩
    obtain rfl := hsN9_.eq.symm
    show zW l m_T_peakPart (zn Mz + 0, zw Mz + 0) N2_ 63 [some (.ref 0), some (.int (Int32.ofInt a0_)), some (.int (Int32.ofInt a1_)), some (.int (Int32.ofInt a2_)), some (.int (Int32.ofInt (ze Mz (d_ + 1) 7))), some (.int (Int32.ofInt v7_)), none] [.int (Int32.ofInt v10_)] _
    refine zw_istore (pc := 63) (i := 6) (L2 := [some (.ref 0), some (.int (Int32.ofInt a0_)), some (.int (Int32.ofInt a1_)), some (.int (Int32.ofInt a2_)), some (.int (Int32.ofInt (ze Mz (d_ + 1) 7))), some (.int (Int32.ofInt v7_)), some (.int (Int32.ofInt v10_))]) (by decide) rfl (zdal_p dlB_T_peakPart_73 (i := 6) rfl) ?_
    refine zw_iload (pc := 65) (i := 6) (x := Int32.ofInt v10_) rfl (zdal_p dlB_T_peakPart_73 (i := 7) rfl) ?_
    refine zr_if_ne (pc := 67) (tgt := 73) ⟨hv10_a, hv10_b⟩ (by decide) (zdal_p dlB_T_peakPart_73 (i := 8) rfl) (fun hc_67 => ?_) (fun hc_67 => ?_)
    · skip
      refine zw_iload_n (pc := 73) (n := 3) (x := Int32.ofInt a2_) rfl (zdal_p dlB_T_peakPart_73 (i := 11) rfl) ?_
      refine zr_if_ne (pc := 74) (tgt := 85) ⟨ha2_a, ha2_b⟩ (by decide) (zdal_p dlB_T_peakPart_73 (i := 12) rfl) (fun hc_74 => ?_) (fun hc_74 => ?_)
      · skip
        refine zw_iload (pc := 85) (i := 4) (x := Int32.ofInt (ze Mz (d_ + 1) 7)) rfl (zdal_p dlB_T_peakPart_73 (i := 17) rfl) ?_
        refine zw_iload (pc := 87) (i := 6) (x := Int32.ofInt v10_) rfl (zdal_p dlB_T_peakPart_73 (i := 18) rfl) ?_
        refine zr_idiv (pc := 89) ⟨by (exact hv10_a), by (exact hv10_b)⟩ (by (exact hc_67)) (zdal_p dlB_T_peakPart_73 (i := 19) rfl) ?_
        have hr11_ := zquo_r (ze Mz (d_ + 1) 7) v10_
        refine zr_nmI (fun v12_ hv12_ => ?_)
        obtain ⟨hv12_a, hv12_b⟩ := hv12_
        exact zk_iret (pc := 90) (ty := .int) rfl rfl ⟨by (exact hv12_a), by (exact hv12_b)⟩ hf_N2_ (show zLow d_ Mz N2_ by exact hnl_) (zdal_p dlB_T_peakPart_73 (i := 20) rfl)
      · skip
        refine zw_iload (pc := 77) (i := 5) (x := Int32.ofInt v7_) rfl (zdal_p dlB_T_peakPart_73 (i := 13) rfl) ?_
        refine zw_iload (pc := 79) (i := 6) (x := Int32.ofInt v10_) rfl (zdal_p dlB_T_peakPart_73 (i := 14) rfl) ?_
        refine zr_idiv (pc := 81) ⟨by (exact hv10_a), by (exact hv10_b)⟩ (by (exact hc_67)) (zdal_p dlB_T_peakPart_73 (i := 15) rfl) ?_
        have hr13_ := zquo_r v7_ v10_
        refine zr_nmI (fun v14_ hv14_ => ?_)
        obtain ⟨hv14_a, hv14_b⟩ := hv14_
        refine zw_goto (pc := 82) (tgt := 90) (by decide) (zdal_p dlB_T_peakPart_73 (i := 16) rfl) ?_
        exact zk_iret (pc := 90) (ty := .int) rfl rfl ⟨by (exact hv14_a), by (exact hv14_b)⟩ hf_N2_ (show zLow d_ Mz N2_ by exact hnl_) (zdal_p dlB_T_peakPart_73 (i := 20) rfl)
    · skip
      refine zw_ldc (pc := 70) (v := Int32.ofInt (-1000000)) (by rw [show Int32.ofInt (-1000000) = ((-1000000) : Int32) by decide]; exact k_T_204) (zdal_p dlB_T_peakPart_73 (i := 9) rfl) ?_
      exact zk_iret (pc := 72) (ty := .int) rfl rfl ⟨by (decide), by (decide)⟩ hf_N2_ (show zLow d_ Mz N2_ by exact hnl_) (zdal_p dlB_T_peakPart_73 (i := 10) rfl)
  · skip
    refine zw_iload_n (pc := 4) (n := 3) (x := Int32.ofInt a2_) rfl (zdal_p dlB_T_peakPart_72 (i := 2) rfl) ?_
    refine zw_iconst (pc := 5) (v := Int32.ofInt 1) (by decide) (zdal_p dlB_T_peakPart_72 (i := 3) rfl) ?_
    refine zr_icmp_eq (pc := 6) (tgt := 12) ⟨ha2_a, ha2_b⟩ ⟨(by decide), (by decide)⟩ (by decide) (zdal_p dlB_T_peakPart_72 (i := 4) rfl) (fun hc_6 => ?_) (fun hc_6 => ?_)
    · skip
      refine zw_aload_n (pc := 12) (n := 0) (x := 0) rfl (zdal_p dlB_T_peakPart_72 (i := 7) rfl) ?_
      refine zw_getF (pc := 13) f_T_28 rfl ((hf.w hW).ka (o := 0) (by decide)) (hf.now hnow) (zdal_p dlB_T_peakPart_72 (i := 8) rfl) ?_
      refine zw_getF (pc := 16) f_T_61 rfl ((hf.w hW).kr (o := 0) (by decide)) ((hf.w hW).lr (o := 0) (s := 0) (r := 1) (by decide)) (zdal_p dlB_T_peakPart_72 (i := 9) rfl) ?_
      refine zk_getI (pc := 19) f_T_65 rfl ((hf.w hW).kr (o := 1) (by decide)) (zdal_p dlB_T_peakPart_72 (i := 10) rfl) ?_
      have hr15_ := ze_r Mz (d_ + 1) 7
      refine zw_istore (pc := 22) (i := 4) (L2 := [some (.ref 0), some (.int (Int32.ofInt a0_)), some (.int (Int32.ofInt a1_)), some (.int (Int32.ofInt a2_)), some (.int (Int32.ofInt (ze Mz (d_ + 1) 7))), none, none]) (by decide) rfl (zdal_p dlB_T_peakPart_72 (i := 11) rfl) ?_
      refine zw_aload_n (pc := 24) (n := 0) (x := 0) rfl (zdal_p dlB_T_peakPart_72 (i := 12) rfl) ?_
      refine zw_getF (pc := 25) f_T_28 rfl ((hf.w hW).ka (o := 0) (by decide)) (hf.now hnow) (zdal_p dlB_T_peakPart_72 (i := 13) rfl) ?_
      refine zw_getF (pc := 28) f_T_169 rfl ((hf.w hW).kr (o := 0) (by decide)) ((hf.w hW).lr (o := 0) (s := 2) (r := 23) (by decide)) (zdal_p dlB_T_peakPart_72 (i := 14) rfl) ?_
      refine zw_iload_n (pc := 31) (n := 1) (x := Int32.ofInt a0_) rfl (zdal_p dlB_T_peakPart_72 (i := 15) rfl) ?_
      refine zw_iload (pc := 32) (i := 4) (x := Int32.ofInt (ze Mz (d_ + 1) 7)) rfl (zdal_p dlB_T_peakPart_72 (i := 16) rfl) ?_
      have hml_ := dv0
      refine zk_callV hf.x (pc := 34) [.int (Int32.ofInt a0_), .int (Int32.ofInt (ze Mz (d_ + 1) 7))] [] l_T_317 (u_Sums_putScaledL l d_ Mz (hf.w hW) a0_ ha0_a ha0_b (ze Mz (d_ + 1) 7) (ze_r Mz (d_ + 1) 7).1 (ze_r Mz (d_ + 1) 7).2 F_ K_ hA_ p0_) rfl rfl ((hf.w hW).kr (o := 23) (by decide)) (by decide) (by decide) (Nat.le_of_ble_eq_true rfl) (zdal_p dlB_T_peakPart_72 (i := 17) rfl) ?_
      rintro _ N16_ ⟨rfl, hsN16_, hp0_N16_⟩
      replace hp0_N16_ : zLow d_ Mz N16_ := hp0_N16_
      have hf_N16_ : zFc d_ [] [] [] [25, 27] Mz N16_ := hf.tr hsN16_ (by decide) (by decide) (by decide) (by decide)
      have c18_ : zKm F_ K_ d_ N16_ := zKm.fr (hf.w hW) hsN16_ p0_ (by decide)
      show zW l m_T_peakPart (zn Mz + 0, zw Mz + 0) N16_ 37 [some (.ref 0), some (.int (Int32.ofInt a0_)), some (.int (Int32.ofInt a1_)), some (.int (Int32.ofInt a2_)), some (.int (Int32.ofInt (ze Mz (d_ + 1) 7))), none, none] [] _
      have hnl_ := hml_.tr hp0_N16_
      refine zw_aload_n (pc := 37) (n := 0) (x := 0) rfl (zdal_p dlB_T_peakPart_72 (i := 18) rfl) ?_
      refine zw_getF (pc := 38) f_T_28 rfl ((hf_N16_.w hW).ka (o := 0) (by decide)) (hf_N16_.now hnow) (zdal_p dlB_T_peakPart_72 (i := 19) rfl) ?_
      refine zw_getF (pc := 41) f_T_169 rfl ((hf_N16_.w hW).kr (o := 0) (by decide)) ((hf_N16_.w hW).lr (o := 0) (s := 2) (r := 23) (by decide)) (zdal_p dlB_T_peakPart_72 (i := 20) rfl) ?_
      refine zw_bipush (pc := 44) (v := Int32.ofInt 39) (by decide) (zdal_p dlB_T_peakPart_72 (i := 21) rfl) ?_
      refine zw_iload_n (pc := 46) (n := 2) (x := Int32.ofInt a1_) rfl (zdal_p dlB_T_peakPart_72 (i := 22) rfl) ?_
      refine zk_callV hf_N16_.x (pc := 47) [.int (Int32.ofInt 39), .int (Int32.ofInt a1_)] [] l_T_179 (u_Sums_numberAtX l d_ N16_ (hf_N16_.w hW) 39 (by decide) (by decide) a1_ ha1_a ha1_b) rfl rfl ((hf_N16_.w hW).kr (o := 23) (by decide)) (by decide) (by decide) (Nat.le_of_ble_eq_true rfl) (zdal_p dlB_T_peakPart_72 (i := 23) rfl) ?_
      rintro _ N19_ ⟨v20_, rfl, ⟨hv20_a, hv20_b⟩, hsN19_, -⟩
      obtain rfl := hsN19_.eq.symm
      show zW l m_T_peakPart (zn Mz + 0, zw Mz + 0) N16_ 50 [some (.ref 0), some (.int (Int32.ofInt a0_)), some (.int (Int32.ofInt a1_)), some (.int (Int32.ofInt a2_)), some (.int (Int32.ofInt (ze Mz (d_ + 1) 7))), none, none] [.long (Int64.ofInt v20_)] _
      refine zr_l2i (pc := 50) (zdal_p dlB_T_peakPart_73 (i := 0) rfl) ?_
      refine zr_nmI (fun v21_ hv21_ => ?_)
      obtain ⟨hv21_a, hv21_b⟩ := hv21_
      refine zw_istore (pc := 51) (i := 5) (L2 := [some (.ref 0), some (.int (Int32.ofInt a0_)), some (.int (Int32.ofInt a1_)), some (.int (Int32.ofInt a2_)), some (.int (Int32.ofInt (ze Mz (d_ + 1) 7))), some (.int (Int32.ofInt v21_)), none]) (by decide) rfl (zdal_p dlB_T_peakPart_73 (i := 1) rfl) ?_
      refine zw_iload (pc := 53) (i := 4) (x := Int32.ofInt (ze Mz (d_ + 1) 7)) rfl (zdal_p dlB_T_peakPart_73 (i := 2) rfl) ?_
      refine zw_iload (pc := 55) (i := 5) (x := Int32.ofInt v21_) rfl (zdal_p dlB_T_peakPart_73 (i := 3) rfl) ?_
      refine zk_mabs (pc := 57) x_T_320 (by decide) (Nat.le_of_ble_eq_true rfl) (zdal_p dlB_T_peakPart_73 (i := 4) rfl) ⟨hv21_a, hv21_b⟩ (fun v22_ hv22_ hv22_e => ?_)
      obtain ⟨hv22_a, hv22_b⟩ := hv22_
      refine zr_callS hf_N16_.x (pc := 60) [.int (Int32.ofInt (ze Mz (d_ + 1) 7)), .int (Int32.ofInt v22_)] [] l_T_325 (u_T_greatestDivisorX l d_ N16_ (hf_N16_.w hW) (ze Mz (d_ + 1) 7) (ze_r Mz (d_ + 1) 7).1 (ze_r Mz (d_ + 1) 7).2 v22_ hv22_a hv22_b) rfl rfl (by decide) (Nat.le_of_ble_eq_true rfl) (zdal_p dlB_T_peakPart_73 (i := 5) rfl) ?_
      rintro _ N23_ ⟨v24_, rfl, ⟨hv24_a, hv24_b⟩, hsN23_, -⟩
      obtain rfl := hsN23_.eq.symm
      show zW l m_T_peakPart (zn Mz + 0, zw Mz + 0) N16_ 63 [some (.ref 0), some (.int (Int32.ofInt a0_)), some (.int (Int32.ofInt a1_)), some (.int (Int32.ofInt a2_)), some (.int (Int32.ofInt (ze Mz (d_ + 1) 7))), some (.int (Int32.ofInt v21_)), none] [.int (Int32.ofInt v24_)] _
      refine zw_istore (pc := 63) (i := 6) (L2 := [some (.ref 0), some (.int (Int32.ofInt a0_)), some (.int (Int32.ofInt a1_)), some (.int (Int32.ofInt a2_)), some (.int (Int32.ofInt (ze Mz (d_ + 1) 7))), some (.int (Int32.ofInt v21_)), some (.int (Int32.ofInt v24_))]) (by decide) rfl (zdal_p dlB_T_peakPart_73 (i := 6) rfl) ?_
      refine zw_iload (pc := 65) (i := 6) (x := Int32.ofInt v24_) rfl (zdal_p dlB_T_peakPart_73 (i := 7) rfl) ?_
      refine zr_if_ne (pc := 67) (tgt := 73) ⟨hv24_a, hv24_b⟩ (by decide) (zdal_p dlB_T_peakPart_73 (i := 8) rfl) (fun hc_67 => ?_) (fun hc_67 => ?_)
      · skip
        refine zw_iload_n (pc := 73) (n := 3) (x := Int32.ofInt a2_) rfl (zdal_p dlB_T_peakPart_73 (i := 11) rfl) ?_
        refine zr_if_ne (pc := 74) (tgt := 85) ⟨ha2_a, ha2_b⟩ (by decide) (zdal_p dlB_T_peakPart_73 (i := 12) rfl) (fun hc_74 => ?_) (fun hc_74 => ?_)
        · skip
          refine zw_iload (pc := 85) (i := 4) (x := Int32.ofInt (ze Mz (d_ + 1) 7)) rfl (zdal_p dlB_T_peakPart_73 (i := 17) rfl) ?_
          refine zw_iload (pc := 87) (i := 6) (x := Int32.ofInt v24_) rfl (zdal_p dlB_T_peakPart_73 (i := 18) rfl) ?_
          refine zr_idiv (pc := 89) ⟨by (exact hv24_a), by (exact hv24_b)⟩ (by (exact hc_67)) (zdal_p dlB_T_peakPart_73 (i := 19) rfl) ?_
          have hr25_ := zquo_r (ze Mz (d_ + 1) 7) v24_
          refine zr_nmI (fun v26_ hv26_ => ?_)
          obtain ⟨hv26_a, hv26_b⟩ := hv26_
          exact zk_iret (pc := 90) (ty := .int) rfl rfl ⟨by (exact hv26_a), by (exact hv26_b)⟩ hf_N16_ (show zLow d_ Mz N16_ by exact hnl_) (zdal_p dlB_T_peakPart_73 (i := 20) rfl)
        · skip
          refine zw_iload (pc := 77) (i := 5) (x := Int32.ofInt v21_) rfl (zdal_p dlB_T_peakPart_73 (i := 13) rfl) ?_
          refine zw_iload (pc := 79) (i := 6) (x := Int32.ofInt v24_) rfl (zdal_p dlB_T_peakPart_73 (i := 14) rfl) ?_
          refine zr_idiv (pc := 81) ⟨by (exact hv24_a), by (exact hv24_b)⟩ (by (exact hc_67)) (zdal_p dlB_T_peakPart_73 (i := 15) rfl) ?_
          have hr27_ := zquo_r v21_ v24_
          refine zr_nmI (fun v28_ hv28_ => ?_)
          obtain ⟨hv28_a, hv28_b⟩ := hv28_
          refine zw_goto (pc := 82) (tgt := 90) (by decide) (zdal_p dlB_T_peakPart_73 (i := 16) rfl) ?_
          exact zk_iret (pc := 90) (ty := .int) rfl rfl ⟨by (exact hv28_a), by (exact hv28_b)⟩ hf_N16_ (show zLow d_ Mz N16_ by exact hnl_) (zdal_p dlB_T_peakPart_73 (i := 20) rfl)
      · skip
        refine zw_ldc (pc := 70) (v := Int32.ofInt (-1000000)) (by rw [show Int32.ofInt (-1000000) = ((-1000000) : Int32) by decide]; exact k_T_204) (zdal_p dlB_T_peakPart_73 (i := 9) rfl) ?_
        exact zk_iret (pc := 72) (ty := .int) rfl rfl ⟨by (decide), by (decide)⟩ hf_N16_ (show zLow d_ Mz N16_ by exact hnl_) (zdal_p dlB_T_peakPart_73 (i := 10) rfl)
    · skip
      refine zw_ldc (pc := 9) (v := Int32.ofInt (-1000000)) (by rw [show Int32.ofInt (-1000000) = ((-1000000) : Int32) by decide]; exact k_T_204) (zdal_p dlB_T_peakPart_72 (i := 5) rfl) ?_
      exact zk_iret (pc := 11) (ty := .int) rfl rfl ⟨by (decide), by (decide)⟩ hf (show zLow d_ Mz Mz by exact dv0) (zdal_p dlB_T_peakPart_72 (i := 6) rfl)
set_option maxHeartbeats 4000000 in
theorem u_T_peakL (l : Launch) (d_ : Nat) (Mz : zMem) (hW : zKW d_ Mz) (hnow : zf Mz 0 2 = some (d_ + 0)) (a0_ : Int) (ha0_a : -2147483648 ≤ a0_) (ha0_b : a0_ < 2147483648) (a1_ : Int) (ha1_a : -2147483648 ≤ a1_) (ha1_b : a1_ < 2147483648) (a2_ : Int) (ha2_a : -2147483648 ≤ a2_) (ha2_b : a2_ < 2147483648) (F_ : Nat) (K_ : Nat → Nat → Int) (hA_ : zTA F_ K_) (p0_ : zKm F_ K_ d_ Mz) : zC l m_T_peak 0 0 [.ref 0, .int (Int32.ofInt a0_), .int (Int32.ofInt a1_), .int (Int32.ofInt a2_)] Mz (zqcI d_ [] [] [] [25, 27] Mz (fun v N => zLow d_ Mz N)) := by
  refine zC_of (L0 := [some (.ref 0), some (.int (Int32.ofInt a0_)), some (.int (Int32.ofInt a1_)), some (.int (Int32.ofInt a2_))]) md_T_peak (Nat.le_of_ble_eq_true rfl) rfl ?_ zQ0
  have hf : zFc d_ [] [] [] [25, 27] Mz Mz := zFc.rf
  obtain ⟨⟨hF1_, hF27_⟩, hAr_⟩ := id hA_
  obtain ⟨hFc_, hKt_⟩ := id p0_
  have dv0 : zLow d_ Mz Mz := zLow.rf
  refine zw_aload_n (pc := 0) (n := 0) (x := 0) rfl (zdal_p dlB_T_peak_71 (i := 0) rfl) ?_
  refine zw_getF (pc := 1) f_T_28 rfl ((hf.w hW).ka (o := 0) (by decide)) (hf.now hnow) (zdal_p dlB_T_peak_71 (i := 1) rfl) ?_
  refine zw_getF (pc := 4) f_T_85 rfl ((hf.w hW).kr (o := 0) (by decide)) ((hf.w hW).lr (o := 0) (s := 1) (r := 12) (by decide)) (zdal_p dlB_T_peak_71 (i := 2) rfl) ?_
  refine zw_iload_n (pc := 7) (n := 1) (x := Int32.ofInt a0_) rfl (zdal_p dlB_T_peak_71 (i := 3) rfl) ?_
  refine zk_callV hf.x (pc := 8) [.int (Int32.ofInt a0_)] [] l_T_143 (u_Sorts_hasSortX l d_ Mz (hf.w hW) a0_ ha0_a ha0_b) rfl rfl ((hf.w hW).kr (o := 12) (by decide)) (by decide) (by decide) (Nat.le_of_ble_eq_true rfl) (zdal_p dlB_T_peak_71 (i := 4) rfl) ?_
  rintro _ N1_ ⟨v2_, rfl, ⟨hv2_a, hv2_b⟩, hsN1_, hp0_N1_⟩
  obtain rfl := hsN1_.eq.symm
  replace hp0_N1_ : (v2_ = 0 ∨ v2_ = 1) := hp0_N1_
  show zW l m_T_peak (zn Mz + 0, zw Mz + 0) Mz 11 [some (.ref 0), some (.int (Int32.ofInt a0_)), some (.int (Int32.ofInt a1_)), some (.int (Int32.ofInt a2_))] [.int (Int32.ofInt v2_)] _
  refine zr_if_eq (pc := 11) (tgt := 28) ⟨hv2_a, hv2_b⟩ (by decide) (zdal_p dlB_T_peak_71 (i := 5) rfl) (fun hc_11 => ?_) (fun hc_11 => ?_)
  · skip
    refine zw_ldc (pc := 28) (v := Int32.ofInt (-1000000)) (by rw [show Int32.ofInt (-1000000) = ((-1000000) : Int32) by decide]; exact k_T_204) (zdal_p dlB_T_peak_71 (i := 12) rfl) ?_
    exact zk_iret (pc := 30) (ty := .int) rfl rfl ⟨by (decide), by (decide)⟩ hf (show zLow d_ Mz Mz by exact dv0) (zdal_p dlB_T_peak_71 (i := 13) rfl)
  · skip
    refine zw_aload_n (pc := 14) (n := 0) (x := 0) rfl (zdal_p dlB_T_peak_71 (i := 6) rfl) ?_
    refine zw_getF (pc := 15) f_T_28 rfl ((hf.w hW).ka (o := 0) (by decide)) (hf.now hnow) (zdal_p dlB_T_peak_71 (i := 7) rfl) ?_
    refine zw_getF (pc := 18) f_T_85 rfl ((hf.w hW).kr (o := 0) (by decide)) ((hf.w hW).lr (o := 0) (s := 1) (r := 12) (by decide)) (zdal_p dlB_T_peak_71 (i := 8) rfl) ?_
    refine zw_iload_n (pc := 21) (n := 2) (x := Int32.ofInt a1_) rfl (zdal_p dlB_T_peak_71 (i := 9) rfl) ?_
    refine zk_callV hf.x (pc := 22) [.int (Int32.ofInt a1_)] [] l_T_143 (u_Sorts_hasSortX l d_ Mz (hf.w hW) a1_ ha1_a ha1_b) rfl rfl ((hf.w hW).kr (o := 12) (by decide)) (by decide) (by decide) (Nat.le_of_ble_eq_true rfl) (zdal_p dlB_T_peak_71 (i := 10) rfl) ?_
    rintro _ N3_ ⟨v4_, rfl, ⟨hv4_a, hv4_b⟩, hsN3_, hp0_N3_⟩
    obtain rfl := hsN3_.eq.symm
    replace hp0_N3_ : (v4_ = 0 ∨ v4_ = 1) := hp0_N3_
    show zW l m_T_peak (zn Mz + 0, zw Mz + 0) Mz 25 [some (.ref 0), some (.int (Int32.ofInt a0_)), some (.int (Int32.ofInt a1_)), some (.int (Int32.ofInt a2_))] [.int (Int32.ofInt v4_)] _
    refine zr_if_ne (pc := 25) (tgt := 31) ⟨hv4_a, hv4_b⟩ (by decide) (zdal_p dlB_T_peak_71 (i := 11) rfl) (fun hc_25 => ?_) (fun hc_25 => ?_)
    · skip
      refine zw_aload_n (pc := 31) (n := 0) (x := 0) rfl (zdal_p dlB_T_peak_71 (i := 14) rfl) ?_
      refine zw_iconst (pc := 32) (v := Int32.ofInt 1) (by decide) (zdal_p dlB_T_peak_71 (i := 15) rfl) ?_
      refine zw_iload_n (pc := 33) (n := 1) (x := Int32.ofInt a0_) rfl (zdal_p dlB_T_peak_71 (i := 16) rfl) ?_
      refine zr_ishl (pc := 34) (zdal_p dlB_T_peak_71 (i := 17) rfl) ?_
      have hr5_ := zshl_r 1 a0_
      refine zr_nmI (fun v6_ hv6_ => ?_)
      obtain ⟨hv6_a, hv6_b⟩ := hv6_
      refine zw_iload_n (pc := 35) (n := 2) (x := Int32.ofInt a1_) rfl (zdal_p dlB_T_peak_71 (i := 18) rfl) ?_
      refine zw_iload_n (pc := 36) (n := 3) (x := Int32.ofInt a2_) rfl (zdal_p dlB_T_peak_71 (i := 19) rfl) ?_
      have hml_ := dv0
      refine zk_callV hf.x (pc := 37) [.int (Int32.ofInt v6_), .int (Int32.ofInt a1_), .int (Int32.ofInt a2_)] [] l_T_223 (u_T_peakPartL l d_ Mz (hf.w hW) (hf.now hnow) v6_ hv6_a hv6_b a1_ ha1_a ha1_b a2_ ha2_a ha2_b F_ K_ hA_ p0_) rfl rfl ((hf.w hW).ka (o := 0) (by decide)) (by decide) (by decide) (Nat.le_of_ble_eq_true rfl) (zdal_p dlB_T_peak_71 (i := 20) rfl) ?_
      rintro _ N7_ ⟨v8_, rfl, ⟨hv8_a, hv8_b⟩, hsN7_, hp0_N7_⟩
      replace hp0_N7_ : zLow d_ Mz N7_ := hp0_N7_
      have hf_N7_ : zFc d_ [] [] [] [25, 27] Mz N7_ := hf.tr hsN7_ (by decide) (by decide) (by decide) (by decide)
      have c9_ : zKm F_ K_ d_ N7_ := zKm.fr (hf.w hW) hsN7_ p0_ (by decide)
      show zW l m_T_peak (zn Mz + 0, zw Mz + 0) N7_ 40 [some (.ref 0), some (.int (Int32.ofInt a0_)), some (.int (Int32.ofInt a1_)), some (.int (Int32.ofInt a2_))] [.int (Int32.ofInt v8_)] _
      have hnl_ := hml_.tr hp0_N7_
      exact zk_iret (pc := 40) (ty := .int) rfl rfl ⟨by (exact hv8_a), by (exact hv8_b)⟩ hf_N7_ (show zLow d_ Mz N7_ by exact hnl_) (zdal_p dlB_T_peak_71 (i := 21) rfl)
    · skip
      refine zw_ldc (pc := 28) (v := Int32.ofInt (-1000000)) (by rw [show Int32.ofInt (-1000000) = ((-1000000) : Int32) by decide]; exact k_T_204) (zdal_p dlB_T_peak_71 (i := 12) rfl) ?_
      exact zk_iret (pc := 30) (ty := .int) rfl rfl ⟨by (decide), by (decide)⟩ hf (show zLow d_ Mz Mz by exact dv0) (zdal_p dlB_T_peak_71 (i := 13) rfl)
set_option maxHeartbeats 4000000 in
theorem u_T_localL (l : Launch) (d_ : Nat) (Mz : zMem) (hW : zKW d_ Mz) (hnow : zf Mz 0 2 = some (d_ + 0)) (a0_ : Int) (ha0_a : -2147483648 ≤ a0_) (ha0_b : a0_ < 2147483648) (a1_ : Int) (ha1_a : -2147483648 ≤ a1_) (ha1_b : a1_ < 2147483648) (a2_ : Int) (ha2_a : -2147483648 ≤ a2_) (ha2_b : a2_ < 2147483648) (a3_ : Int) (ha3_a : -2147483648 ≤ a3_) (ha3_b : a3_ < 2147483648) (F_ : Nat) (K_ : Nat → Nat → Int) (hA_ : zTA F_ K_) (p0_ : zKm F_ K_ d_ Mz) : zC l m_T_local 0 0 [.ref 0, .int (Int32.ofInt a0_), .int (Int32.ofInt a1_), .int (Int32.ofInt a2_), .int (Int32.ofInt a3_)] Mz (zqcI d_ [] [] [] [25, 27] Mz (fun v N => zLow d_ Mz N)) := by
  refine zC_of (L0 := [some (.ref 0), some (.int (Int32.ofInt a0_)), some (.int (Int32.ofInt a1_)), some (.int (Int32.ofInt a2_)), some (.int (Int32.ofInt a3_))]) md_T_local (Nat.le_of_ble_eq_true rfl) rfl ?_ zQ0
  have hf : zFc d_ [] [] [] [25, 27] Mz Mz := zFc.rf
  obtain ⟨⟨hF1_, hF27_⟩, hAr_⟩ := id hA_
  obtain ⟨hFc_, hKt_⟩ := id p0_
  have dv0 : zLow d_ Mz Mz := zLow.rf
  refine zw_iload_n (pc := 0) (n := 1) (x := Int32.ofInt a0_) rfl (zdal_p dlB_T_local_77 (i := 0) rfl) ?_
  refine zr_callS hf.x (pc := 1) [.int (Int32.ofInt a0_)] [] l_T_183 (u_T_isPrimeX l d_ Mz (hf.w hW) a0_ ha0_a ha0_b) rfl rfl (by decide) (Nat.le_of_ble_eq_true rfl) (zdal_p dlB_T_local_77 (i := 1) rfl) ?_
  rintro _ N1_ ⟨v2_, rfl, ⟨hv2_a, hv2_b⟩, hsN1_, ⟨hp0_N1_, hp1_N1_⟩⟩
  obtain rfl := hsN1_.eq.symm
  show zW l m_T_local (zn Mz + 0, zw Mz + 0) Mz 4 [some (.ref 0), some (.int (Int32.ofInt a0_)), some (.int (Int32.ofInt a1_)), some (.int (Int32.ofInt a2_)), some (.int (Int32.ofInt a3_))] [.int (Int32.ofInt v2_)] _
  refine zr_if_eq (pc := 4) (tgt := 35) ⟨hv2_a, hv2_b⟩ (by decide) (zdal_p dlB_T_local_77 (i := 2) rfl) (fun hc_4 => ?_) (fun hc_4 => ?_)
  · skip
    refine zw_ldc (pc := 35) (v := Int32.ofInt (-1000000)) (by rw [show Int32.ofInt (-1000000) = ((-1000000) : Int32) by decide]; exact k_T_204) (zdal_p dlB_T_local_77 (i := 15) rfl) ?_
    exact zk_iret (pc := 37) (ty := .int) rfl rfl ⟨by (decide), by (decide)⟩ hf (show zLow d_ Mz Mz by exact dv0) (zdal_p dlB_T_local_77 (i := 16) rfl)
  · skip
    refine zw_aload_n (pc := 7) (n := 0) (x := 0) rfl (zdal_p dlB_T_local_77 (i := 3) rfl) ?_
    refine zw_getF (pc := 8) f_T_28 rfl ((hf.w hW).ka (o := 0) (by decide)) (hf.now hnow) (zdal_p dlB_T_local_77 (i := 4) rfl) ?_
    refine zw_getF (pc := 11) f_T_85 rfl ((hf.w hW).kr (o := 0) (by decide)) ((hf.w hW).lr (o := 0) (s := 1) (r := 12) (by decide)) (zdal_p dlB_T_local_77 (i := 5) rfl) ?_
    refine zw_iload_n (pc := 14) (n := 2) (x := Int32.ofInt a1_) rfl (zdal_p dlB_T_local_77 (i := 6) rfl) ?_
    refine zk_callV hf.x (pc := 15) [.int (Int32.ofInt a1_)] [] l_T_143 (u_Sorts_hasSortX l d_ Mz (hf.w hW) a1_ ha1_a ha1_b) rfl rfl ((hf.w hW).kr (o := 12) (by decide)) (by decide) (by decide) (Nat.le_of_ble_eq_true rfl) (zdal_p dlB_T_local_77 (i := 7) rfl) ?_
    rintro _ N3_ ⟨v4_, rfl, ⟨hv4_a, hv4_b⟩, hsN3_, hp0_N3_⟩
    obtain rfl := hsN3_.eq.symm
    replace hp0_N3_ : (v4_ = 0 ∨ v4_ = 1) := hp0_N3_
    show zW l m_T_local (zn Mz + 0, zw Mz + 0) Mz 18 [some (.ref 0), some (.int (Int32.ofInt a0_)), some (.int (Int32.ofInt a1_)), some (.int (Int32.ofInt a2_)), some (.int (Int32.ofInt a3_))] [.int (Int32.ofInt v4_)] _
    refine zr_if_eq (pc := 18) (tgt := 35) ⟨hv4_a, hv4_b⟩ (by decide) (zdal_p dlB_T_local_77 (i := 8) rfl) (fun hc_18 => ?_) (fun hc_18 => ?_)
    · skip
      refine zw_ldc (pc := 35) (v := Int32.ofInt (-1000000)) (by rw [show Int32.ofInt (-1000000) = ((-1000000) : Int32) by decide]; exact k_T_204) (zdal_p dlB_T_local_77 (i := 15) rfl) ?_
      exact zk_iret (pc := 37) (ty := .int) rfl rfl ⟨by (decide), by (decide)⟩ hf (show zLow d_ Mz Mz by exact dv0) (zdal_p dlB_T_local_77 (i := 16) rfl)
    · skip
      refine zw_aload_n (pc := 21) (n := 0) (x := 0) rfl (zdal_p dlB_T_local_77 (i := 9) rfl) ?_
      refine zw_getF (pc := 22) f_T_28 rfl ((hf.w hW).ka (o := 0) (by decide)) (hf.now hnow) (zdal_p dlB_T_local_77 (i := 10) rfl) ?_
      refine zw_getF (pc := 25) f_T_85 rfl ((hf.w hW).kr (o := 0) (by decide)) ((hf.w hW).lr (o := 0) (s := 1) (r := 12) (by decide)) (zdal_p dlB_T_local_77 (i := 11) rfl) ?_
      refine zw_iload_n (pc := 28) (n := 3) (x := Int32.ofInt a2_) rfl (zdal_p dlB_T_local_77 (i := 12) rfl) ?_
      refine zk_callV hf.x (pc := 29) [.int (Int32.ofInt a2_)] [] l_T_143 (u_Sorts_hasSortX l d_ Mz (hf.w hW) a2_ ha2_a ha2_b) rfl rfl ((hf.w hW).kr (o := 12) (by decide)) (by decide) (by decide) (Nat.le_of_ble_eq_true rfl) (zdal_p dlB_T_local_77 (i := 13) rfl) ?_
      rintro _ N5_ ⟨v6_, rfl, ⟨hv6_a, hv6_b⟩, hsN5_, hp0_N5_⟩
      obtain rfl := hsN5_.eq.symm
      replace hp0_N5_ : (v6_ = 0 ∨ v6_ = 1) := hp0_N5_
      show zW l m_T_local (zn Mz + 0, zw Mz + 0) Mz 32 [some (.ref 0), some (.int (Int32.ofInt a0_)), some (.int (Int32.ofInt a1_)), some (.int (Int32.ofInt a2_)), some (.int (Int32.ofInt a3_))] [.int (Int32.ofInt v6_)] _
      refine zr_if_ne (pc := 32) (tgt := 38) ⟨hv6_a, hv6_b⟩ (by decide) (zdal_p dlB_T_local_77 (i := 14) rfl) (fun hc_32 => ?_) (fun hc_32 => ?_)
      · skip
        refine zw_aload_n (pc := 38) (n := 0) (x := 0) rfl (zdal_p dlB_T_local_77 (i := 17) rfl) ?_
        refine zw_aload_n (pc := 39) (n := 0) (x := 0) rfl (zdal_p dlB_T_local_77 (i := 18) rfl) ?_
        refine zw_getF (pc := 40) f_T_28 rfl ((hf.w hW).ka (o := 0) (by decide)) (hf.now hnow) (zdal_p dlB_T_local_77 (i := 19) rfl) ?_
        refine zw_getF (pc := 43) f_T_85 rfl ((hf.w hW).kr (o := 0) (by decide)) ((hf.w hW).lr (o := 0) (s := 1) (r := 12) (by decide)) (zdal_p dlB_T_local_77 (i := 20) rfl) ?_
        refine zw_iload_n (pc := 46) (n := 2) (x := Int32.ofInt a1_) rfl (zdal_p dlB_T_local_77 (i := 21) rfl) ?_
        refine zw_iload_n (pc := 47) (n := 1) (x := Int32.ofInt a0_) rfl (zdal_p dlB_T_local_77 (i := 22) rfl) ?_
        refine zk_callV hf.x (pc := 48) [.int (Int32.ofInt a1_), .int (Int32.ofInt a0_)] [.ref 0] l_T_189 (u_Sorts_blockOfX l d_ Mz (hf.w hW) a1_ ha1_a ha1_b a0_ ha0_a ha0_b (show (a0_ = 2 ∨ a0_ = 3 ∨ a0_ = 5) by first | with_reducible assumption | assumption | omega)) rfl rfl ((hf.w hW).kr (o := 12) (by decide)) (by decide) (by decide) (Nat.le_of_ble_eq_true rfl) (zdal_p dlB_T_local_77 (i := 23) rfl) ?_
        rintro _ N7_ ⟨v8_, rfl, ⟨hv8_a, hv8_b⟩, hsN7_, -⟩
        obtain rfl := hsN7_.eq.symm
        show zW l m_T_local (zn Mz + 0, zw Mz + 0) Mz 51 [some (.ref 0), some (.int (Int32.ofInt a0_)), some (.int (Int32.ofInt a1_)), some (.int (Int32.ofInt a2_)), some (.int (Int32.ofInt a3_))] [.int (Int32.ofInt v8_), .ref 0] _
        refine zw_iload_n (pc := 51) (n := 3) (x := Int32.ofInt a2_) rfl (zdal_p dlB_T_local_78 (i := 0) rfl) ?_
        refine zw_iload (pc := 52) (i := 4) (x := Int32.ofInt a3_) rfl (zdal_p dlB_T_local_78 (i := 1) rfl) ?_
        have hml_ := dv0
        refine zk_callV hf.x (pc := 54) [.int (Int32.ofInt v8_), .int (Int32.ofInt a2_), .int (Int32.ofInt a3_)] [] l_T_223 (u_T_peakPartL l d_ Mz (hf.w hW) (hf.now hnow) v8_ hv8_a hv8_b a2_ ha2_a ha2_b a3_ ha3_a ha3_b F_ K_ hA_ p0_) rfl rfl ((hf.w hW).ka (o := 0) (by decide)) (by decide) (by decide) (Nat.le_of_ble_eq_true rfl) (zdal_p dlB_T_local_78 (i := 2) rfl) ?_
        rintro _ N9_ ⟨v10_, rfl, ⟨hv10_a, hv10_b⟩, hsN9_, hp0_N9_⟩
        replace hp0_N9_ : zLow d_ Mz N9_ := hp0_N9_
        have hf_N9_ : zFc d_ [] [] [] [25, 27] Mz N9_ := hf.tr hsN9_ (by decide) (by decide) (by decide) (by decide)
        have c11_ : zKm F_ K_ d_ N9_ := zKm.fr (hf.w hW) hsN9_ p0_ (by decide)
        show zW l m_T_local (zn Mz + 0, zw Mz + 0) N9_ 57 [some (.ref 0), some (.int (Int32.ofInt a0_)), some (.int (Int32.ofInt a1_)), some (.int (Int32.ofInt a2_)), some (.int (Int32.ofInt a3_))] [.int (Int32.ofInt v10_)] _
        have hnl_ := hml_.tr hp0_N9_
        exact zk_iret (pc := 57) (ty := .int) rfl rfl ⟨by (exact hv10_a), by (exact hv10_b)⟩ hf_N9_ (show zLow d_ Mz N9_ by exact hnl_) (zdal_p dlB_T_local_78 (i := 3) rfl)
      · skip
        refine zw_ldc (pc := 35) (v := Int32.ofInt (-1000000)) (by rw [show Int32.ofInt (-1000000) = ((-1000000) : Int32) by decide]; exact k_T_204) (zdal_p dlB_T_local_77 (i := 15) rfl) ?_
        exact zk_iret (pc := 37) (ty := .int) rfl rfl ⟨by (decide), by (decide)⟩ hf (show zLow d_ Mz Mz by exact dv0) (zdal_p dlB_T_local_77 (i := 16) rfl)
set_option maxHeartbeats 4000000 in
theorem u_T_unitL (l : Launch) (d_ : Nat) (Mz : zMem) (hW : zKW d_ Mz) (hnow : zf Mz 0 2 = some (d_ + 0)) (a0_ : Int) (ha0_a : -2147483648 ≤ a0_) (ha0_b : a0_ < 2147483648) (a1_ : Int) (ha1_a : -2147483648 ≤ a1_) (ha1_b : a1_ < 2147483648) (F_ : Nat) (K_ : Nat → Nat → Int) (hA_ : zTA F_ K_) (p0_ : zKm F_ K_ d_ Mz) : zC l m_T_unit 0 0 [.ref 0, .int (Int32.ofInt a0_), .int (Int32.ofInt a1_)] Mz (zqcI d_ [] [] [(28, 3), (28, 4)] [11, 25, 27, 30, 32] Mz (fun v N => zLow d_ Mz N)) := by
  refine zC_of (L0 := [some (.ref 0), some (.int (Int32.ofInt a0_)), some (.int (Int32.ofInt a1_))]) md_T_unit (Nat.le_of_ble_eq_true rfl) rfl ?_ zQ0
  have hf : zFc d_ [] [] [(28, 3), (28, 4)] [11, 25, 27, 30, 32] Mz Mz := zFc.rf
  obtain ⟨⟨hF1_, hF27_⟩, hAr_⟩ := id hA_
  obtain ⟨hFc_, hKt_⟩ := id p0_
  have dv0 : zLow d_ Mz Mz := zLow.rf
  refine zw_aload_n (pc := 0) (n := 0) (x := 0) rfl (zdal_p dlB_T_unit_96 (i := 0) rfl) ?_
  refine zw_getF (pc := 1) f_T_28 rfl ((hf.w hW).ka (o := 0) (by decide)) (hf.now hnow) (zdal_p dlB_T_unit_96 (i := 1) rfl) ?_
  refine zw_getF (pc := 4) f_T_227 rfl ((hf.w hW).kr (o := 0) (by decide)) ((hf.w hW).lr (o := 0) (s := 3) (r := 28) (by decide)) (zdal_p dlB_T_unit_96 (i := 2) rfl) ?_
  refine zk_callV hf.x (pc := 7) [] [] l_T_231 (u_Units_seekX l d_ Mz (hf.w hW) ) rfl rfl ((hf.w hW).kr (o := 28) (by decide)) (by decide) (by decide) (Nat.le_of_ble_eq_true rfl) (zdal_p dlB_T_unit_96 (i := 3) rfl) ?_
  rintro _ N1_ ⟨rfl, hsN1_, -⟩
  have hf_N1_ : zFc d_ [] [] [(28, 3), (28, 4)] [11, 25, 27, 30, 32] Mz N1_ := hf.tr hsN1_ (by decide) (by decide) (by decide) (by decide)
  have c3_ : zKm F_ K_ d_ N1_ := zKm.fr (hf.w hW) hsN1_ p0_ (by decide)
  have c4_ : zLow d_ Mz N1_ := zLow.fr (hf.w hW) hsN1_ dv0 (by decide)
  show zW l m_T_unit (zn Mz + 0, zw Mz + 0) N1_ 10 [some (.ref 0), some (.int (Int32.ofInt a0_)), some (.int (Int32.ofInt a1_))] [] _
  refine zw_iload_n (pc := 10) (n := 1) (x := Int32.ofInt a0_) rfl (zdal_p dlB_T_unit_96 (i := 4) rfl) ?_
  refine zr_if_lt (pc := 11) (tgt := 42) ⟨ha0_a, ha0_b⟩ (by decide) (zdal_p dlB_T_unit_96 (i := 5) rfl) (fun hc_11 => ?_) (fun hc_11 => ?_)
  · skip
    refine zw_ldc (pc := 42) (v := Int32.ofInt (-1000000)) (by rw [show Int32.ofInt (-1000000) = ((-1000000) : Int32) by decide]; exact k_T_204) (zdal_p dlB_T_unit_96 (i := 18) rfl) ?_
    exact zk_iret (pc := 44) (ty := .int) rfl rfl ⟨by (decide), by (decide)⟩ hf_N1_ (show zLow d_ Mz N1_ by exact c4_) (zdal_p dlB_T_unit_96 (i := 19) rfl)
  · skip
    refine zw_iload_n (pc := 14) (n := 1) (x := Int32.ofInt a0_) rfl (zdal_p dlB_T_unit_96 (i := 6) rfl) ?_
    refine zw_aload_n (pc := 15) (n := 0) (x := 0) rfl (zdal_p dlB_T_unit_96 (i := 7) rfl) ?_
    refine zw_getF (pc := 16) f_T_28 rfl ((hf_N1_.w hW).ka (o := 0) (by decide)) (hf_N1_.now hnow) (zdal_p dlB_T_unit_96 (i := 8) rfl) ?_
    refine zw_getF (pc := 19) f_T_227 rfl ((hf_N1_.w hW).kr (o := 0) (by decide)) ((hf_N1_.w hW).lr (o := 0) (s := 3) (r := 28) (by decide)) (zdal_p dlB_T_unit_96 (i := 9) rfl) ?_
    refine zk_callV hf_N1_.x (pc := 22) [] [.int (Int32.ofInt a0_)] l_T_236 (u_Units_totalX l d_ N1_ (hf_N1_.w hW) ) rfl rfl ((hf_N1_.w hW).kr (o := 28) (by decide)) (by decide) (by decide) (Nat.le_of_ble_eq_true rfl) (zdal_p dlB_T_unit_96 (i := 10) rfl) ?_
    rintro _ N5_ ⟨v6_, rfl, ⟨hv6_a, hv6_b⟩, hsN5_, -⟩
    obtain rfl := hsN5_.eq.symm
    show zW l m_T_unit (zn Mz + 0, zw Mz + 0) N1_ 25 [some (.ref 0), some (.int (Int32.ofInt a0_)), some (.int (Int32.ofInt a1_))] [.int (Int32.ofInt v6_), .int (Int32.ofInt a0_)] _
    refine zr_icmp_ge (pc := 25) (tgt := 42) ⟨ha0_a, ha0_b⟩ ⟨hv6_a, hv6_b⟩ (by decide) (zdal_p dlB_T_unit_96 (i := 11) rfl) (fun hc_25 => ?_) (fun hc_25 => ?_)
    · skip
      refine zw_ldc (pc := 42) (v := Int32.ofInt (-1000000)) (by rw [show Int32.ofInt (-1000000) = ((-1000000) : Int32) by decide]; exact k_T_204) (zdal_p dlB_T_unit_96 (i := 18) rfl) ?_
      exact zk_iret (pc := 44) (ty := .int) rfl rfl ⟨by (decide), by (decide)⟩ hf_N1_ (show zLow d_ Mz N1_ by exact c4_) (zdal_p dlB_T_unit_96 (i := 19) rfl)
    · skip
      refine zw_aload_n (pc := 28) (n := 0) (x := 0) rfl (zdal_p dlB_T_unit_96 (i := 12) rfl) ?_
      refine zw_getF (pc := 29) f_T_28 rfl ((hf_N1_.w hW).ka (o := 0) (by decide)) (hf_N1_.now hnow) (zdal_p dlB_T_unit_96 (i := 13) rfl) ?_
      refine zw_getF (pc := 32) f_T_85 rfl ((hf_N1_.w hW).kr (o := 0) (by decide)) ((hf_N1_.w hW).lr (o := 0) (s := 1) (r := 12) (by decide)) (zdal_p dlB_T_unit_96 (i := 14) rfl) ?_
      refine zw_iload_n (pc := 35) (n := 2) (x := Int32.ofInt a1_) rfl (zdal_p dlB_T_unit_96 (i := 15) rfl) ?_
      refine zk_callV hf_N1_.x (pc := 36) [.int (Int32.ofInt a1_)] [] l_T_143 (u_Sorts_hasSortX l d_ N1_ (hf_N1_.w hW) a1_ ha1_a ha1_b) rfl rfl ((hf_N1_.w hW).kr (o := 12) (by decide)) (by decide) (by decide) (Nat.le_of_ble_eq_true rfl) (zdal_p dlB_T_unit_96 (i := 16) rfl) ?_
      rintro _ N7_ ⟨v8_, rfl, ⟨hv8_a, hv8_b⟩, hsN7_, hp0_N7_⟩
      obtain rfl := hsN7_.eq.symm
      replace hp0_N7_ : (v8_ = 0 ∨ v8_ = 1) := hp0_N7_
      show zW l m_T_unit (zn Mz + 0, zw Mz + 0) N1_ 39 [some (.ref 0), some (.int (Int32.ofInt a0_)), some (.int (Int32.ofInt a1_))] [.int (Int32.ofInt v8_)] _
      refine zr_if_ne (pc := 39) (tgt := 45) ⟨hv8_a, hv8_b⟩ (by decide) (zdal_p dlB_T_unit_96 (i := 17) rfl) (fun hc_39 => ?_) (fun hc_39 => ?_)
      · skip
        refine zw_aload_n (pc := 45) (n := 0) (x := 0) rfl (zdal_p dlB_T_unit_96 (i := 20) rfl) ?_
        refine zw_getF (pc := 46) f_T_28 rfl ((hf_N1_.w hW).ka (o := 0) (by decide)) (hf_N1_.now hnow) (zdal_p dlB_T_unit_96 (i := 21) rfl) ?_
        refine zw_getF (pc := 49) f_T_169 rfl ((hf_N1_.w hW).kr (o := 0) (by decide)) ((hf_N1_.w hW).lr (o := 0) (s := 2) (r := 23) (by decide)) (zdal_p dlB_T_unit_96 (i := 22) rfl) ?_
        refine zw_aload_n (pc := 52) (n := 0) (x := 0) rfl (zdal_p dlB_T_unit_96 (i := 23) rfl) ?_
        refine zw_getF (pc := 53) f_T_28 rfl ((hf_N1_.w hW).ka (o := 0) (by decide)) (hf_N1_.now hnow) (zdal_p dlB_T_unit_97 (i := 0) rfl) ?_
        refine zw_getF (pc := 56) f_T_227 rfl ((hf_N1_.w hW).kr (o := 0) (by decide)) ((hf_N1_.w hW).lr (o := 0) (s := 3) (r := 28) (by decide)) (zdal_p dlB_T_unit_97 (i := 1) rfl) ?_
        refine zw_iload_n (pc := 59) (n := 1) (x := Int32.ofInt a0_) rfl (zdal_p dlB_T_unit_97 (i := 2) rfl) ?_
        refine zk_callV hf_N1_.x (pc := 60) [.int (Int32.ofInt a0_)] [.ref (d_ + 23)] l_T_239 (u_Units_signsOfX l d_ N1_ (hf_N1_.w hW) a0_ ha0_a ha0_b) rfl rfl ((hf_N1_.w hW).kr (o := 28) (by decide)) (by decide) (by decide) (Nat.le_of_ble_eq_true rfl) (zdal_p dlB_T_unit_97 (i := 3) rfl) ?_
        rintro _ N9_ ⟨v10_, rfl, ⟨hv10_a, hv10_b⟩, hsN9_, -⟩
        obtain rfl := hsN9_.eq.symm
        show zW l m_T_unit (zn Mz + 0, zw Mz + 0) N1_ 63 [some (.ref 0), some (.int (Int32.ofInt a0_)), some (.int (Int32.ofInt a1_))] [.int (Int32.ofInt v10_), .ref (d_ + 23)] _
        have hml_ := c4_
        refine zk_callV hf_N1_.x (pc := 63) [.int (Int32.ofInt v10_)] [] l_T_242 (u_Sums_putSignsL l d_ N1_ (hf_N1_.w hW) v10_ hv10_a hv10_b F_ K_ hA_ c3_) rfl rfl ((hf_N1_.w hW).kr (o := 23) (by decide)) (by decide) (by decide) (Nat.le_of_ble_eq_true rfl) (zdal_p dlB_T_unit_97 (i := 4) rfl) ?_
        rintro _ N11_ ⟨rfl, hsN11_, hp0_N11_⟩
        replace hp0_N11_ : zLow d_ N1_ N11_ := hp0_N11_
        have hf_N11_ : zFc d_ [] [] [(28, 3), (28, 4)] [11, 25, 27, 30, 32] Mz N11_ := hf_N1_.tr hsN11_ (by decide) (by decide) (by decide) (by decide)
        have c13_ : zKm F_ K_ d_ N11_ := zKm.fr (hf_N1_.w hW) hsN11_ c3_ (by decide)
        show zW l m_T_unit (zn Mz + 0, zw Mz + 0) N11_ 66 [some (.ref 0), some (.int (Int32.ofInt a0_)), some (.int (Int32.ofInt a1_))] [] _
        have hnl_ := hml_.tr hp0_N11_
        refine zw_aload_n (pc := 66) (n := 0) (x := 0) rfl (zdal_p dlB_T_unit_97 (i := 5) rfl) ?_
        refine zw_getF (pc := 67) f_T_28 rfl ((hf_N11_.w hW).ka (o := 0) (by decide)) (hf_N11_.now hnow) (zdal_p dlB_T_unit_97 (i := 6) rfl) ?_
        refine zw_getF (pc := 70) f_T_169 rfl ((hf_N11_.w hW).kr (o := 0) (by decide)) ((hf_N11_.w hW).lr (o := 0) (s := 2) (r := 23) (by decide)) (zdal_p dlB_T_unit_97 (i := 7) rfl) ?_
        refine zw_bipush (pc := 73) (v := Int32.ofInt 39) (by decide) (zdal_p dlB_T_unit_97 (i := 8) rfl) ?_
        refine zw_iload_n (pc := 75) (n := 2) (x := Int32.ofInt a1_) rfl (zdal_p dlB_T_unit_97 (i := 9) rfl) ?_
        refine zk_callV hf_N11_.x (pc := 76) [.int (Int32.ofInt 39), .int (Int32.ofInt a1_)] [] l_T_179 (u_Sums_numberAtX l d_ N11_ (hf_N11_.w hW) 39 (by decide) (by decide) a1_ ha1_a ha1_b) rfl rfl ((hf_N11_.w hW).kr (o := 23) (by decide)) (by decide) (by decide) (Nat.le_of_ble_eq_true rfl) (zdal_p dlB_T_unit_97 (i := 10) rfl) ?_
        rintro _ N14_ ⟨v15_, rfl, ⟨hv15_a, hv15_b⟩, hsN14_, -⟩
        obtain rfl := hsN14_.eq.symm
        show zW l m_T_unit (zn Mz + 0, zw Mz + 0) N11_ 79 [some (.ref 0), some (.int (Int32.ofInt a0_)), some (.int (Int32.ofInt a1_))] [.long (Int64.ofInt v15_)] _
        refine zr_l2i (pc := 79) (zdal_p dlB_T_unit_97 (i := 11) rfl) ?_
        refine zr_nmI (fun v16_ hv16_ => ?_)
        obtain ⟨hv16_a, hv16_b⟩ := hv16_
        exact zk_iret (pc := 80) (ty := .int) rfl rfl ⟨by (exact hv16_a), by (exact hv16_b)⟩ hf_N11_ (show zLow d_ Mz N11_ by exact hnl_) (zdal_p dlB_T_unit_97 (i := 12) rfl)
      · skip
        refine zw_ldc (pc := 42) (v := Int32.ofInt (-1000000)) (by rw [show Int32.ofInt (-1000000) = ((-1000000) : Int32) by decide]; exact k_T_204) (zdal_p dlB_T_unit_96 (i := 18) rfl) ?_
        exact zk_iret (pc := 44) (ty := .int) rfl rfl ⟨by (decide), by (decide)⟩ hf_N1_ (show zLow d_ Mz N1_ by exact c4_) (zdal_p dlB_T_unit_96 (i := 19) rfl)
set_option maxHeartbeats 4000000 in
theorem c_M_actS (l : Launch) (Mz : zMem) (hW : zMt Mz) (F_ : Nat) (hF64_ : F_ ≤ 64) (s_ : zSg) (p0_ : zSR F_ s_ Mz) : zC l m_M_act 0 0 [.ref 81] Mz (zpV [60] [111] Mz (fun N => zSA F_ s_ N)) := by
  refine zC_of (L0 := [some (.ref 81), none]) md_M_act (Nat.le_of_ble_eq_true rfl) rfl ?_ zQ0
  have hf : zFr [60] [111] Mz Mz := zFr.rf
  have r_60 := ze_r Mz 81 60
  obtain ⟨⟨hs1_, hs2_⟩, hs3_, hs4_⟩ := id p0_
  refine zw_aload_n (pc := 0) (n := 0) (x := 81) rfl (zdal_p dlD_M_act_109 (i := 0) rfl) ?_
  refine zr_getI (hf.w hW) (pc := 1) f_M_391 rfl (zdal_p dlD_M_act_109 (i := 1) rfl) ?_
  refine zw_bipush (pc := 4) (v := Int32.ofInt 12) (by decide) (zdal_p dlD_M_act_109 (i := 2) rfl) ?_
  refine zr_icmp_ne (pc := 6) (tgt := 50) ⟨(ze_r Mz 81 60).1, (ze_r Mz 81 60).2⟩ ⟨(by decide), (by decide)⟩ (by decide) (zdal_p dlD_M_act_109 (i := 3) rfl) (fun hc_6 => ?_) (fun hc_6 => ?_)
  · skip
    first | have hd0_ := zRwD_A (c := s_.2.1) (by omega) hrs_ (by omega) (fun t_ => hsMz.jg (by decide) (by decide) t_) | have hd0_ := zRwD_B (c := s_.2.1) (M := Mz) (by omega) (fun t_ => rfl)
    refine zw_iconst (pc := 50) (v := Int32.ofInt 0) (by decide) (zdal_p dlD_M_act_110 (i := 3) rfl) ?_
    refine zw_istore_n (pc := 51) (i := 1) (L2 := [some (.ref 81), some (.int (Int32.ofInt 0))]) rfl (by decide) rfl (zdal_p dlD_M_act_110 (i := 4) rfl) ?_
    have lp_52 : ∀ (n : Nat) (u1_ : Int) (hu1_a : -2147483648 ≤ u1_) (hu1_b : u1_ < 2147483648) (N2_ : zMem) (hs3_ : zFr [] [111] Mz N2_) (i4_ : 0 ≤ u1_) (i5_ : u1_ ≤ 64) (i6_ : zRwD s_.2.1 Mz N2_ u1_), (64 - u1_).toNat < n → zW l m_M_act (zn Mz + 0, zw Mz + 0) N2_ 52 [some (.ref 81), some (.int (Int32.ofInt u1_))] [] (zpV [60] [111] Mz (fun N => zSA F_ s_ N)) := by
      intro n
      induction n with
      | zero =>
        intro u1_ hu1_a hu1_b N2_ hs3_ i4_ i5_ i6_ h0
        exact absurd h0 (Nat.not_lt_zero _)
      | succ n ih_52 =>
        intro u1_ hu1_a hu1_b N2_ hs3_ i4_ i5_ i6_ hlt_52
        have hf_N2_ : zFr [60] [111] Mz N2_ := hf.tr hs3_ (by decide) (by decide)
        have e60_N2_ : ze N2_ 81 60 = ze Mz 81 60 := hs3_.e (by decide)
        have hrd_ := (show zRwD s_.2.1 Mz N2_ u1_ by first | with_reducible assumption | assumption)
        refine zw_iload_n (pc := 52) (n := 1) (x := Int32.ofInt u1_) rfl (zdal_p dlD_M_act_110 (i := 5) rfl) ?_
        refine zw_bipush (pc := 53) (v := Int32.ofInt 64) (by decide) (zdal_p dlD_M_act_110 (i := 6) rfl) ?_
        refine zr_icmp_ge (pc := 55) (tgt := 84) ⟨hu1_a, hu1_b⟩ ⟨(by decide), (by decide)⟩ (by decide) (zdal_p dlD_M_act_110 (i := 7) rfl) (fun hc_55 => ?_) (fun hc_55 => ?_)
        · skip
          refine zw_aload_n (pc := 84) (n := 0) (x := 81) rfl (zdal_p dlD_M_act_110 (i := 23) rfl) ?_
          refine zw_dup (pc := 85) rfl (zdal_p dlD_M_act_111 (i := 0) rfl) ?_
          refine zr_getI (hf_N2_.w hW) (pc := 86) f_M_391 rfl (zdal_p dlD_M_act_111 (i := 1) rfl) ?_
          refine zw_iconst (pc := 89) (v := Int32.ofInt 1) (by decide) (zdal_p dlD_M_act_111 (i := 2) rfl) ?_
          refine zr_iadd (pc := 90) (zdal_p dlD_M_act_111 (i := 3) rfl) ?_
          refine zr_putI (hf_N2_.w hW) (pc := 91) f_M_391 rfl rfl ⟨by (exact zo_1139 e60_N2_ r_60.1), by omega⟩ rfl rfl (zdal_p dlD_M_act_111 (i := 4) rfl) (fun N7_ hsN7_ hvN7_ => ?_)
          have hf_N7_ : zFr [60] [111] Mz N7_ := hf_N2_.tr hsN7_ (by decide) (by decide)
          have r60_N7_ := ze_r N7_ 81 60
          have hsa_ : zSA F_ s_ N7_ := zSA_i hF64_ p0_ (fun t_ => (hsN7_.jg (by decide) (by decide) t_).trans (by have h_ := hrd_; rw [show u1_ = 64 by omega] at h_; exact h_ t_)) (by omega)
          exact zr_vret (pc := 94) rfl hf_N7_ hsa_ (zdal_p dlD_M_act_111 (i := 5) rfl)
        · skip
          refine zw_aload_n (pc := 58) (n := 0) (x := 81) rfl (zdal_p dlD_M_act_110 (i := 8) rfl) ?_
          refine zr_getF (r := 111) (hf_N2_.w hW) (pc := 59) f_M_106 rfl (zh_111 (hf_N2_.w hW)).1 (zdal_p dlD_M_act_110 (i := 9) rfl) ?_
          refine zw_bipush (pc := 62) (v := Int32.ofInt 64) (by decide) (zdal_p dlD_M_act_110 (i := 10) rfl) ?_
          refine zw_aload_n (pc := 64) (n := 0) (x := 81) rfl (zdal_p dlD_M_act_110 (i := 11) rfl) ?_
          refine zr_getI (hf_N2_.w hW) (pc := 65) f_M_391 rfl (zdal_p dlD_M_act_110 (i := 12) rfl) ?_
          refine zr_imul (pc := 68) (zdal_p dlD_M_act_110 (i := 13) rfl) ?_
          refine zw_iload_n (pc := 69) (n := 1) (x := Int32.ofInt u1_) rfl (zdal_p dlD_M_act_110 (i := 14) rfl) ?_
          refine zr_iadd (pc := 70) (zdal_p dlD_M_act_110 (i := 15) rfl) ?_
          refine zw_aload_n (pc := 71) (n := 0) (x := 81) rfl (zdal_p dlD_M_act_110 (i := 16) rfl) ?_
          refine zr_getF (r := 98) (hf_N2_.w hW) (pc := 72) f_M_66 rfl (zh_98 (hf_N2_.w hW)).1 (zdal_p dlD_M_act_110 (i := 17) rfl) ?_
          refine zw_iload_n (pc := 75) (n := 1) (x := Int32.ofInt u1_) rfl (zdal_p dlD_M_act_110 (i := 18) rfl) ?_
          refine zr_laldn (pc := 76) (zh_98 (hf_N2_.w hW)).2 (by decide) (by (exact i4_)) (by (exact zo_2451 hc_55)) (zdal_p dlD_M_act_110 (i := 19) rfl) (fun v8_ hv8_ hv8_a hv8_b => ?_)
          rw [hf_N2_.jg (by decide) (by decide)] at hv8_
          have hy_ := hv8_
          refine zr_last (pc := 77) (zh_111 (hf_N2_.w hW)).2 (by decide) (by decide) (by omega) (by omega) (zdal_p dlD_M_act_110 (i := 20) rfl) (fun N9_ hN9_ hsN9_ => ?_)
          have hf_N9_ : zFr [60] [111] Mz N9_ := hf_N2_.tr hsN9_ (by decide) (by decide)
          have hb0_N9_ : zFr [] [111] Mz N9_ := hs3_.tr hsN9_ (by decide) (by decide)
          have e60_N9_ : ze N9_ 81 60 = ze N2_ 81 60 := hsN9_.e (by decide)
          have hrd2_ := zRwD_s hrd_ hy_ hN9_ (by first | (rw [if_pos (by omega)]; omega) | (rw [if_neg (by omega)]; omega)) (by (exact i4_)) ⟨by (exact hv8_a), by (exact hv8_b)⟩
          refine zr_iinc (pc := 78) (i := 1) (a := u1_) (n := 1) (L2 := [some (.ref 81), some (.int (Int32.ofInt (u1_ + 1)))]) rfl (by decide) rfl (zdal_p dlD_M_act_110 (i := 21) rfl) ?_
          refine zw_goto (pc := 81) (tgt := 52) (by decide) (zdal_p dlD_M_act_110 (i := 22) rfl) ?_
          exact ih_52 (u1_ + 1) (by (exact zo_74 i4_)) (by (exact zo_2454 hc_55)) N9_ hb0_N9_ (show 0 ≤ (u1_ + 1) by first | with_reducible assumption | (exact zo_76 i4_) | assumption) (show (u1_ + 1) ≤ 64 by first | with_reducible assumption | assumption | omega) (show zRwD s_.2.1 Mz N9_ (u1_ + 1) by exact hrd2_) (by (exact zo_2455 hc_55 hlt_52 i4_))
    exact lp_52 _ 0 (by decide) (by decide) Mz zFr.rf (show 0 ≤ (0 : Int) by first | with_reducible assumption | (decide) | assumption) (show (0 : Int) ≤ 64 by first | with_reducible assumption | (decide) | assumption) (show zRwD s_.2.1 Mz Mz (0 : Int) by exact hd0_) (Nat.lt_succ_self _)
  · skip
    refine zw_bipush (pc := 9) (v := Int32.ofInt 64) (by decide) (zdal_p dlD_M_act_109 (i := 4) rfl) ?_
    refine zw_istore_n (pc := 11) (i := 1) (L2 := [some (.ref 81), some (.int (Int32.ofInt 64))]) rfl (by decide) rfl (zdal_p dlD_M_act_109 (i := 5) rfl) ?_
    have lp_12 : ∀ (n : Nat) (u10_ : Int) (hu10_a : -2147483648 ≤ u10_) (hu10_b : u10_ < 2147483648) (N11_ : zMem) (hs12_ : zFr [] [111] Mz N11_) (i13_ : 64 ≤ u10_) (i14_ : u10_ ≤ 768) (i15_ : zRwS Mz N11_ u10_), (768 - u10_).toNat < n → zW l m_M_act (zn Mz + 0, zw Mz + 0) N11_ 12 [some (.ref 81), some (.int (Int32.ofInt u10_))] [] (zpV [60] [111] Mz (fun N => zSA F_ s_ N)) := by
      intro n
      induction n with
      | zero =>
        intro u10_ hu10_a hu10_b N11_ hs12_ i13_ i14_ i15_ h0
        exact absurd h0 (Nat.not_lt_zero _)
      | succ n ih_12 =>
        intro u10_ hu10_a hu10_b N11_ hs12_ i13_ i14_ i15_ hlt_12
        have hf_N11_ : zFr [60] [111] Mz N11_ := hf.tr hs12_ (by decide) (by decide)
        have e60_N11_ : ze N11_ 81 60 = ze Mz 81 60 := hs12_.e (by decide)
        have hrs_ := (show zRwS Mz N11_ u10_ by first | with_reducible assumption | assumption)
        refine zw_iload_n (pc := 12) (n := 1) (x := Int32.ofInt u10_) rfl (zdal_p dlD_M_act_109 (i := 6) rfl) ?_
        refine zw_sipush (pc := 13) (v := Int32.ofInt 768) (by decide) (zdal_p dlD_M_act_109 (i := 7) rfl) ?_
        refine zr_icmp_ge (pc := 16) (tgt := 40) ⟨hu10_a, hu10_b⟩ ⟨(by decide), (by decide)⟩ (by decide) (zdal_p dlD_M_act_109 (i := 8) rfl) (fun hc_16 => ?_) (fun hc_16 => ?_)
        · skip
          refine zw_aload_n (pc := 40) (n := 0) (x := 81) rfl (zdal_p dlD_M_act_109 (i := 21) rfl) ?_
          refine zw_dup (pc := 41) rfl (zdal_p dlD_M_act_109 (i := 22) rfl) ?_
          refine zr_getI (hf_N11_.w hW) (pc := 42) f_M_391 rfl (zdal_p dlD_M_act_109 (i := 23) rfl) ?_
          refine zw_iconst (pc := 45) (v := Int32.ofInt 1) (by decide) (zdal_p dlD_M_act_110 (i := 0) rfl) ?_
          refine zr_isub (pc := 46) (zdal_p dlD_M_act_110 (i := 1) rfl) ?_
          refine zr_putI (hf_N11_.w hW) (pc := 47) f_M_391 rfl rfl ⟨by (exact zo_2456 e60_N11_ hc_6), by omega⟩ rfl rfl (zdal_p dlD_M_act_110 (i := 2) rfl) (fun N16_ hsN16_ hvN16_ => ?_)
          have hf_N16_ : zFr [60] [111] Mz N16_ := hf_N11_.tr hsN16_ (by decide) (by decide)
          have r60_N16_ := ze_r N16_ 81 60
          first | have hd0_ := zRwD_A (c := s_.2.1) (by omega) hrs_ (by omega) (fun t_ => hsN16_.jg (by decide) (by decide) t_) | have hd0_ := zRwD_B (c := s_.2.1) (M := Mz) (by omega) (fun t_ => rfl)
          refine zw_iconst (pc := 50) (v := Int32.ofInt 0) (by decide) (zdal_p dlD_M_act_110 (i := 3) rfl) ?_
          refine zw_istore_n (pc := 51) (i := 1) (L2 := [some (.ref 81), some (.int (Int32.ofInt 0))]) rfl (by decide) rfl (zdal_p dlD_M_act_110 (i := 4) rfl) ?_
          have lp_52 : ∀ (n : Nat) (u17_ : Int) (hu17_a : -2147483648 ≤ u17_) (hu17_b : u17_ < 2147483648) (N18_ : zMem) (hs19_ : zFr [] [111] N16_ N18_) (i20_ : 0 ≤ u17_) (i21_ : u17_ ≤ 64) (i22_ : zRwD s_.2.1 Mz N18_ u17_), (64 - u17_).toNat < n → zW l m_M_act (zn Mz + 0, zw Mz + 0) N18_ 52 [some (.ref 81), some (.int (Int32.ofInt u17_))] [] (zpV [60] [111] Mz (fun N => zSA F_ s_ N)) := by
            intro n
            induction n with
            | zero =>
              intro u17_ hu17_a hu17_b N18_ hs19_ i20_ i21_ i22_ h0
              exact absurd h0 (Nat.not_lt_zero _)
            | succ n ih_52 =>
              intro u17_ hu17_a hu17_b N18_ hs19_ i20_ i21_ i22_ hlt_52
              have hf_N18_ : zFr [60] [111] Mz N18_ := hf_N16_.tr hs19_ (by decide) (by decide)
              have e60_N18_ : ze N18_ 81 60 = ze N16_ 81 60 := hs19_.e (by decide)
              have hrd_ := (show zRwD s_.2.1 Mz N18_ u17_ by first | with_reducible assumption | assumption)
              refine zw_iload_n (pc := 52) (n := 1) (x := Int32.ofInt u17_) rfl (zdal_p dlD_M_act_110 (i := 5) rfl) ?_
              refine zw_bipush (pc := 53) (v := Int32.ofInt 64) (by decide) (zdal_p dlD_M_act_110 (i := 6) rfl) ?_
              refine zr_icmp_ge (pc := 55) (tgt := 84) ⟨hu17_a, hu17_b⟩ ⟨(by decide), (by decide)⟩ (by decide) (zdal_p dlD_M_act_110 (i := 7) rfl) (fun hc_55 => ?_) (fun hc_55 => ?_)
              · skip
                refine zw_aload_n (pc := 84) (n := 0) (x := 81) rfl (zdal_p dlD_M_act_110 (i := 23) rfl) ?_
                refine zw_dup (pc := 85) rfl (zdal_p dlD_M_act_111 (i := 0) rfl) ?_
                refine zr_getI (hf_N18_.w hW) (pc := 86) f_M_391 rfl (zdal_p dlD_M_act_111 (i := 1) rfl) ?_
                refine zw_iconst (pc := 89) (v := Int32.ofInt 1) (by decide) (zdal_p dlD_M_act_111 (i := 2) rfl) ?_
                refine zr_iadd (pc := 90) (zdal_p dlD_M_act_111 (i := 3) rfl) ?_
                refine zr_putI (hf_N18_.w hW) (pc := 91) f_M_391 rfl rfl ⟨by (exact zo_1139 e60_N18_ r60_N16_.1), by omega⟩ rfl rfl (zdal_p dlD_M_act_111 (i := 4) rfl) (fun N23_ hsN23_ hvN23_ => ?_)
                have hf_N23_ : zFr [60] [111] Mz N23_ := hf_N18_.tr hsN23_ (by decide) (by decide)
                have r60_N23_ := ze_r N23_ 81 60
                have hsa_ : zSA F_ s_ N23_ := zSA_i hF64_ p0_ (fun t_ => (hsN23_.jg (by decide) (by decide) t_).trans (by have h_ := hrd_; rw [show u17_ = 64 by omega] at h_; exact h_ t_)) (by omega)
                exact zr_vret (pc := 94) rfl hf_N23_ hsa_ (zdal_p dlD_M_act_111 (i := 5) rfl)
              · skip
                refine zw_aload_n (pc := 58) (n := 0) (x := 81) rfl (zdal_p dlD_M_act_110 (i := 8) rfl) ?_
                refine zr_getF (r := 111) (hf_N18_.w hW) (pc := 59) f_M_106 rfl (zh_111 (hf_N18_.w hW)).1 (zdal_p dlD_M_act_110 (i := 9) rfl) ?_
                refine zw_bipush (pc := 62) (v := Int32.ofInt 64) (by decide) (zdal_p dlD_M_act_110 (i := 10) rfl) ?_
                refine zw_aload_n (pc := 64) (n := 0) (x := 81) rfl (zdal_p dlD_M_act_110 (i := 11) rfl) ?_
                refine zr_getI (hf_N18_.w hW) (pc := 65) f_M_391 rfl (zdal_p dlD_M_act_110 (i := 12) rfl) ?_
                refine zr_imul (pc := 68) (zdal_p dlD_M_act_110 (i := 13) rfl) ?_
                refine zw_iload_n (pc := 69) (n := 1) (x := Int32.ofInt u17_) rfl (zdal_p dlD_M_act_110 (i := 14) rfl) ?_
                refine zr_iadd (pc := 70) (zdal_p dlD_M_act_110 (i := 15) rfl) ?_
                refine zw_aload_n (pc := 71) (n := 0) (x := 81) rfl (zdal_p dlD_M_act_110 (i := 16) rfl) ?_
                refine zr_getF (r := 98) (hf_N18_.w hW) (pc := 72) f_M_66 rfl (zh_98 (hf_N18_.w hW)).1 (zdal_p dlD_M_act_110 (i := 17) rfl) ?_
                refine zw_iload_n (pc := 75) (n := 1) (x := Int32.ofInt u17_) rfl (zdal_p dlD_M_act_110 (i := 18) rfl) ?_
                refine zr_laldn (pc := 76) (zh_98 (hf_N18_.w hW)).2 (by decide) (by (exact i20_)) (by (exact zo_2451 hc_55)) (zdal_p dlD_M_act_110 (i := 19) rfl) (fun v24_ hv24_ hv24_a hv24_b => ?_)
                rw [hf_N18_.jg (by decide) (by decide)] at hv24_
                have hy_ := hv24_
                refine zr_last (pc := 77) (zh_111 (hf_N18_.w hW)).2 (by decide) (by decide) (by omega) (by omega) (zdal_p dlD_M_act_110 (i := 20) rfl) (fun N25_ hN25_ hsN25_ => ?_)
                have hf_N25_ : zFr [60] [111] Mz N25_ := hf_N18_.tr hsN25_ (by decide) (by decide)
                have hb0_N25_ : zFr [] [111] N16_ N25_ := hs19_.tr hsN25_ (by decide) (by decide)
                have e60_N25_ : ze N25_ 81 60 = ze N18_ 81 60 := hsN25_.e (by decide)
                have hrd2_ := zRwD_s hrd_ hy_ hN25_ (by first | (rw [if_pos (by omega)]; omega) | (rw [if_neg (by omega)]; omega)) (by (exact i20_)) ⟨by (exact hv24_a), by (exact hv24_b)⟩
                refine zr_iinc (pc := 78) (i := 1) (a := u17_) (n := 1) (L2 := [some (.ref 81), some (.int (Int32.ofInt (u17_ + 1)))]) rfl (by decide) rfl (zdal_p dlD_M_act_110 (i := 21) rfl) ?_
                refine zw_goto (pc := 81) (tgt := 52) (by decide) (zdal_p dlD_M_act_110 (i := 22) rfl) ?_
                exact ih_52 (u17_ + 1) (by (exact zo_74 i20_)) (by (exact zo_2454 hc_55)) N25_ hb0_N25_ (show 0 ≤ (u17_ + 1) by first | with_reducible assumption | (exact zo_76 i20_) | assumption) (show (u17_ + 1) ≤ 64 by first | with_reducible assumption | assumption | omega) (show zRwD s_.2.1 Mz N25_ (u17_ + 1) by exact hrd2_) (by (exact zo_2455 hc_55 hlt_52 i20_))
          exact lp_52 _ 0 (by decide) (by decide) N16_ zFr.rf (show 0 ≤ (0 : Int) by first | with_reducible assumption | (decide) | assumption) (show (0 : Int) ≤ 64 by first | with_reducible assumption | (decide) | assumption) (show zRwD s_.2.1 Mz N16_ (0 : Int) by exact hd0_) (Nat.lt_succ_self _)
        · skip
          refine zw_aload_n (pc := 19) (n := 0) (x := 81) rfl (zdal_p dlD_M_act_109 (i := 9) rfl) ?_
          refine zr_getF (r := 111) (hf_N11_.w hW) (pc := 20) f_M_106 rfl (zh_111 (hf_N11_.w hW)).1 (zdal_p dlD_M_act_109 (i := 10) rfl) ?_
          refine zw_iload_n (pc := 23) (n := 1) (x := Int32.ofInt u10_) rfl (zdal_p dlD_M_act_109 (i := 11) rfl) ?_
          refine zw_bipush (pc := 24) (v := Int32.ofInt 64) (by decide) (zdal_p dlD_M_act_109 (i := 12) rfl) ?_
          refine zr_isub (pc := 26) (zdal_p dlD_M_act_109 (i := 13) rfl) ?_
          refine zw_aload_n (pc := 27) (n := 0) (x := 81) rfl (zdal_p dlD_M_act_109 (i := 14) rfl) ?_
          refine zr_getF (r := 111) (hf_N11_.w hW) (pc := 28) f_M_106 rfl (zh_111 (hf_N11_.w hW)).1 (zdal_p dlD_M_act_109 (i := 15) rfl) ?_
          refine zw_iload_n (pc := 31) (n := 1) (x := Int32.ofInt u10_) rfl (zdal_p dlD_M_act_109 (i := 16) rfl) ?_
          refine zr_laldn (pc := 32) (zh_111 (hf_N11_.w hW)).2 (by decide) (by (exact zo_2463 i13_)) (by (exact zo_2464 hc_16)) (zdal_p dlD_M_act_109 (i := 17) rfl) (fun v26_ hv26_ hv26_a hv26_b => ?_)
          have hx_ := hv26_
          refine zr_last (pc := 33) (zh_111 (hf_N11_.w hW)).2 (by decide) (by decide) (by (exact zo_2465 i13_)) (by (exact zo_2466 hc_16)) (zdal_p dlD_M_act_109 (i := 18) rfl) (fun N27_ hN27_ hsN27_ => ?_)
          have hf_N27_ : zFr [60] [111] Mz N27_ := hf_N11_.tr hsN27_ (by decide) (by decide)
          have hb0_N27_ : zFr [] [111] Mz N27_ := hs12_.tr hsN27_ (by decide) (by decide)
          have e60_N27_ : ze N27_ 81 60 = ze N11_ 81 60 := hsN27_.e (by decide)
          have hrs2_ := zRwS_s hrs_ hx_ hN27_ (by (exact i13_)) ⟨by (exact hv26_a), by (exact hv26_b)⟩
          refine zr_iinc (pc := 34) (i := 1) (a := u10_) (n := 1) (L2 := [some (.ref 81), some (.int (Int32.ofInt (u10_ + 1)))]) rfl (by decide) rfl (zdal_p dlD_M_act_109 (i := 19) rfl) ?_
          refine zw_goto (pc := 37) (tgt := 12) (by decide) (zdal_p dlD_M_act_109 (i := 20) rfl) ?_
          exact ih_12 (u10_ + 1) (by (exact zo_2467 i13_)) (by (exact zo_2468 hc_16)) N27_ hb0_N27_ (show 64 ≤ (u10_ + 1) by first | with_reducible assumption | (exact zo_2469 i13_) | assumption) (show (u10_ + 1) ≤ 768 by first | with_reducible assumption | assumption | omega) (show zRwS Mz N27_ (u10_ + 1) by exact hrs2_) (by (exact zo_2470 hc_16 hlt_12 i13_))
    exact lp_12 _ 64 (by decide) (by decide) Mz zFr.rf (show 64 ≤ (64 : Int) by first | with_reducible assumption | (decide) | assumption) (show (64 : Int) ≤ 768 by first | with_reducible assumption | (decide) | assumption) (show zRwS Mz Mz (64 : Int) by exact zRwS_0) (Nat.lt_succ_self _)
set_option maxHeartbeats 4000000 in
theorem c_M_undoS (l : Launch) (Mz : zMem) (hW : zMt Mz) (F_ : Nat) (hF64_ : F_ ≤ 64) (s_ : zSg) (p0_ : zSR F_ s_ Mz) : zC l m_M_undo 0 0 [.ref 81] Mz (zpI [60] [98] Mz (fun v N => (((1 ≤ s_.2.1 ∧ zSR F_ (zpop s_) N ∧ v = ((s_.2.1 - 1 : Nat) : Int)) ∨ (s_.2.1 = 0 ∧ zSR F_ s_ N ∧ v = (-1 : Int)))))) := by
  refine zC_of (L0 := [some (.ref 81), none]) md_M_undo (Nat.le_of_ble_eq_true rfl) rfl ?_ zQ0
  have hf : zFr [60] [98] Mz Mz := zFr.rf
  have r_60 := ze_r Mz 81 60
  obtain ⟨⟨hs1_, hs2_⟩, hs3_, hs4_⟩ := id p0_
  refine zw_aload_n (pc := 0) (n := 0) (x := 81) rfl (zdal_p dlD_M_undo_89 (i := 0) rfl) ?_
  refine zr_getI (hf.w hW) (pc := 1) f_M_391 rfl (zdal_p dlD_M_undo_89 (i := 1) rfl) ?_
  refine zr_if_ne (pc := 4) (tgt := 9) ⟨(ze_r Mz 81 60).1, (ze_r Mz 81 60).2⟩ (by decide) (zdal_p dlD_M_undo_89 (i := 2) rfl) (fun hc_4 => ?_) (fun hc_4 => ?_)
  · skip
    refine zw_aload_n (pc := 9) (n := 0) (x := 81) rfl (zdal_p dlD_M_undo_89 (i := 5) rfl) ?_
    refine zw_dup (pc := 10) rfl (zdal_p dlD_M_undo_89 (i := 6) rfl) ?_
    refine zr_getI (hf.w hW) (pc := 11) f_M_391 rfl (zdal_p dlD_M_undo_89 (i := 7) rfl) ?_
    refine zw_iconst (pc := 14) (v := Int32.ofInt 1) (by decide) (zdal_p dlD_M_undo_89 (i := 8) rfl) ?_
    refine zr_isub (pc := 15) (zdal_p dlD_M_undo_89 (i := 9) rfl) ?_
    refine zr_putI (hf.w hW) (pc := 16) f_M_391 rfl rfl ⟨by (exact zo_786 hs1_ r_60.1), by (exact zo_601 r_60.2)⟩ rfl rfl (zdal_p dlD_M_undo_89 (i := 10) rfl) (fun N1_ hsN1_ hvN1_ => ?_)
    have hf_N1_ : zFr [60] [98] Mz N1_ := hf.tr hsN1_ (by decide) (by decide)
    have r60_N1_ := ze_r N1_ 81 60
    refine zw_iconst (pc := 19) (v := Int32.ofInt 0) (by decide) (zdal_p dlD_M_undo_89 (i := 11) rfl) ?_
    refine zw_istore_n (pc := 20) (i := 1) (L2 := [some (.ref 81), some (.int (Int32.ofInt 0))]) rfl (by decide) rfl (zdal_p dlD_M_undo_89 (i := 12) rfl) ?_
    have lp_21 : ∀ (n : Nat) (u2_ : Int) (hu2_a : -2147483648 ≤ u2_) (hu2_b : u2_ < 2147483648) (N3_ : zMem) (hs4_ : zFr [] [98] N1_ N3_) (i5_ : 0 ≤ u2_) (i6_ : u2_ ≤ 64) (i7_ : (∀ k : Nat, (k : Int) < u2_ → zg N3_ 98 k = zg Mz 111 (64 * (s_.2.1 - 1) + k))), (64 - u2_).toNat < n → zW l m_M_undo (zn Mz + 0, zw Mz + 0) N3_ 21 [some (.ref 81), some (.int (Int32.ofInt u2_))] [] (zpI [60] [98] Mz (fun v N => (((1 ≤ s_.2.1 ∧ zSR F_ (zpop s_) N ∧ v = ((s_.2.1 - 1 : Nat) : Int)) ∨ (s_.2.1 = 0 ∧ zSR F_ s_ N ∧ v = (-1 : Int)))))) := by
      intro n
      induction n with
      | zero =>
        intro u2_ hu2_a hu2_b N3_ hs4_ i5_ i6_ i7_ h0
        exact absurd h0 (Nat.not_lt_zero _)
      | succ n ih_21 =>
        intro u2_ hu2_a hu2_b N3_ hs4_ i5_ i6_ i7_ hlt_21
        have hf_N3_ : zFr [60] [98] Mz N3_ := hf_N1_.tr hs4_ (by decide) (by decide)
        have e60_N3_ : ze N3_ 81 60 = ze N1_ 81 60 := hs4_.e (by decide)
        have hur_ := (show (∀ k : Nat, (k : Int) < u2_ → zg N3_ 98 k = zg Mz 111 (64 * (s_.2.1 - 1) + k)) by first | with_reducible assumption | assumption)
        refine zw_iload_n (pc := 21) (n := 1) (x := Int32.ofInt u2_) rfl (zdal_p dlD_M_undo_89 (i := 13) rfl) ?_
        refine zw_bipush (pc := 22) (v := Int32.ofInt 64) (by decide) (zdal_p dlD_M_undo_89 (i := 14) rfl) ?_
        refine zr_icmp_ge (pc := 24) (tgt := 53) ⟨hu2_a, hu2_b⟩ ⟨(by decide), (by decide)⟩ (by decide) (zdal_p dlD_M_undo_89 (i := 15) rfl) (fun hc_24 => ?_) (fun hc_24 => ?_)
        · skip
          refine zw_aload_n (pc := 53) (n := 0) (x := 81) rfl (zdal_p dlD_M_undo_90 (i := 7) rfl) ?_
          refine zr_getI (hf_N3_.w hW) (pc := 54) f_M_391 rfl (zdal_p dlD_M_undo_90 (i := 8) rfl) ?_
          exact zr_iret (pc := 57) (ty := .int) rfl rfl ⟨by (exact zo_289 e60_N3_ r60_N1_.1), by (exact zo_290 e60_N3_ r60_N1_.2)⟩ hf_N3_ (show ((1 ≤ s_.2.1 ∧ zSR F_ (zpop s_) N3_ ∧ (ze N3_ 81 60) = ((s_.2.1 - 1 : Nat) : Int)) ∨ (s_.2.1 = 0 ∧ zSR F_ s_ N3_ ∧ (ze N3_ 81 60) = (-1 : Int))) by exact Or.inl ⟨by omega, zSR.pop hF64_ p0_ (by omega) (fun k_ hk_ => hur_ k_ (by omega)) (fun t_ => hf_N3_.jg (by decide) (by decide) t_) (by omega), by omega⟩) (zdal_p dlD_M_undo_90 (i := 9) rfl)
        · skip
          refine zw_aload_n (pc := 27) (n := 0) (x := 81) rfl (zdal_p dlD_M_undo_89 (i := 16) rfl) ?_
          refine zr_getF (r := 98) (hf_N3_.w hW) (pc := 28) f_M_66 rfl (zh_98 (hf_N3_.w hW)).1 (zdal_p dlD_M_undo_89 (i := 17) rfl) ?_
          refine zw_iload_n (pc := 31) (n := 1) (x := Int32.ofInt u2_) rfl (zdal_p dlD_M_undo_89 (i := 18) rfl) ?_
          refine zw_aload_n (pc := 32) (n := 0) (x := 81) rfl (zdal_p dlD_M_undo_89 (i := 19) rfl) ?_
          refine zr_getF (r := 111) (hf_N3_.w hW) (pc := 33) f_M_106 rfl (zh_111 (hf_N3_.w hW)).1 (zdal_p dlD_M_undo_89 (i := 20) rfl) ?_
          refine zw_bipush (pc := 36) (v := Int32.ofInt 64) (by decide) (zdal_p dlD_M_undo_89 (i := 21) rfl) ?_
          refine zw_aload_n (pc := 38) (n := 0) (x := 81) rfl (zdal_p dlD_M_undo_89 (i := 22) rfl) ?_
          refine zr_getI (hf_N3_.w hW) (pc := 39) f_M_391 rfl (zdal_p dlD_M_undo_89 (i := 23) rfl) ?_
          refine zr_imul (pc := 42) (zdal_p dlD_M_undo_90 (i := 0) rfl) ?_
          refine zw_iload_n (pc := 43) (n := 1) (x := Int32.ofInt u2_) rfl (zdal_p dlD_M_undo_90 (i := 1) rfl) ?_
          refine zr_iadd (pc := 44) (zdal_p dlD_M_undo_90 (i := 2) rfl) ?_
          refine zr_laldn (pc := 45) (zh_111 (hf_N3_.w hW)).2 (by decide) (by omega) (by omega) (zdal_p dlD_M_undo_90 (i := 3) rfl) (fun v8_ hv8_ hv8_a hv8_b => ?_)
          rw [hf_N3_.jg (by decide) (by decide)] at hv8_
          have hx_ := hv8_
          rw [show (64 * ze N3_ 81 60 + u2_).toNat = 64 * (s_.2.1 - 1) + (u2_).toNat by omega] at hx_
          refine zr_last (pc := 46) (zh_98 (hf_N3_.w hW)).2 (by decide) (by decide) (by (exact i5_)) (by (exact zo_2451 hc_24)) (zdal_p dlD_M_undo_90 (i := 4) rfl) (fun N9_ hN9_ hsN9_ => ?_)
          have hf_N9_ : zFr [60] [98] Mz N9_ := hf_N3_.tr hsN9_ (by decide) (by decide)
          have hb0_N9_ : zFr [] [98] N1_ N9_ := hs4_.tr hsN9_ (by decide) (by decide)
          have e60_N9_ : ze N9_ 81 60 = ze N3_ 81 60 := hsN9_.e (by decide)
          have hur2_ : (∀ k : Nat, (k : Int) < u2_ + 1 → zg N9_ 98 k = zg Mz 111 (64 * (s_.2.1 - 1) + k)) := fun k_ hk_ => by by_cases g_ : (k_ : Int) = u2_; (rw [show k_ = (u2_).toNat by omega, zs_getJ hN9_ ⟨by (exact hv8_a), by (exact hv8_b)⟩]; exact hx_); (rw [zs_othJ hN9_ (by (exact zo_148 i5_ g_))]; exact hur_ k_ (by (exact zo_130 hk_ g_)))
          refine zr_iinc (pc := 47) (i := 1) (a := u2_) (n := 1) (L2 := [some (.ref 81), some (.int (Int32.ofInt (u2_ + 1)))]) rfl (by decide) rfl (zdal_p dlD_M_undo_90 (i := 5) rfl) ?_
          refine zw_goto (pc := 50) (tgt := 21) (by decide) (zdal_p dlD_M_undo_90 (i := 6) rfl) ?_
          exact ih_21 (u2_ + 1) (by (exact zo_74 i5_)) (by (exact zo_2454 hc_24)) N9_ hb0_N9_ (show 0 ≤ (u2_ + 1) by first | with_reducible assumption | (exact zo_76 i5_) | assumption) (show (u2_ + 1) ≤ 64 by first | with_reducible assumption | assumption | omega) (show (∀ k : Nat, (k : Int) < (u2_ + 1) → zg N9_ 98 k = zg Mz 111 (64 * (s_.2.1 - 1) + k)) by exact hur2_) (by (exact zo_2455 hc_24 hlt_21 i5_))
    exact lp_21 _ 0 (by decide) (by decide) N1_ zFr.rf (show 0 ≤ (0 : Int) by first | with_reducible assumption | (decide) | assumption) (show (0 : Int) ≤ 64 by first | with_reducible assumption | (decide) | assumption) (show (∀ k : Nat, (k : Int) < (0 : Int) → zg N1_ 98 k = zg Mz 111 (64 * (s_.2.1 - 1) + k)) by exact fun k_ hk_ => absurd hk_ (by (exact zo_131))) (Nat.lt_succ_self _)
  · skip
    refine zw_iconst (pc := 7) (v := Int32.ofInt (-1)) (by decide) (zdal_p dlD_M_undo_89 (i := 3) rfl) ?_
    exact zr_iret (pc := 8) (ty := .int) rfl rfl ⟨by (decide), by (decide)⟩ hf (show ((1 ≤ s_.2.1 ∧ zSR F_ (zpop s_) Mz ∧ ((-1)) = ((s_.2.1 - 1 : Nat) : Int)) ∨ (s_.2.1 = 0 ∧ zSR F_ s_ Mz ∧ ((-1)) = (-1 : Int))) by exact Or.inr ⟨by omega, p0_, rfl⟩) (zdal_p dlD_M_undo_89 (i := 4) rfl)
set_option maxHeartbeats 4000000 in
theorem c_M_partsS (l : Launch) (Mz : zMem) (hW : zMt Mz) (F_ : Nat) (K_ : Nat → Nat → Int) (hA_ : zTA F_ K_) (p0_ : zRmk F_ K_ Mz) : zC l m_M_parts 0 0 [.ref 81] Mz (zpI [] [] Mz (fun v N => v = ((znzc (zrw F_ Mz 98 0) F_ : Nat) : Int))) := by
  refine zC_of (L0 := [some (.ref 81), none, none]) md_M_parts (Nat.le_of_ble_eq_true rfl) rfl ?_ zQ0
  have hf : zFr [] [] Mz Mz := zFr.rf
  have r_26 := ze_r Mz 81 26
  obtain ⟨⟨hF1_, hF27_⟩, hAr_⟩ := id hA_
  obtain ⟨hFc_, hKt_⟩ := id p0_
  refine zw_iconst (pc := 0) (v := Int32.ofInt 0) (by decide) (zdal_p dlD_M_parts_96 (i := 0) rfl) ?_
  refine zw_istore_n (pc := 1) (i := 1) (L2 := [some (.ref 81), some (.int (Int32.ofInt 0)), none]) rfl (by decide) rfl (zdal_p dlD_M_parts_96 (i := 1) rfl) ?_
  refine zw_iconst (pc := 2) (v := Int32.ofInt 0) (by decide) (zdal_p dlD_M_parts_96 (i := 2) rfl) ?_
  refine zw_istore_n (pc := 3) (i := 2) (L2 := [some (.ref 81), some (.int (Int32.ofInt 0)), some (.int (Int32.ofInt 0))]) rfl (by decide) rfl (zdal_p dlD_M_parts_96 (i := 3) rfl) ?_
  have lp_4 : ∀ (n : Nat) (u1_ : Int) (hu1_a : -2147483648 ≤ u1_) (hu1_b : u1_ < 2147483648) (u2_ : Int) (hu2_a : -2147483648 ≤ u2_) (hu2_b : u2_ < 2147483648) (i3_ : 0 ≤ u2_) (i4_ : u2_ ≤ F_) (i5_ : u1_ = ((znzc (zrw F_ Mz 98 0) (u2_).toNat : Nat) : Int)) (i6_ : 0 ≤ u1_ ∧ u1_ ≤ u2_), (F_ - u2_).toNat < n → zW l m_M_parts (zn Mz + 0, zw Mz + 0) Mz 4 [some (.ref 81), some (.int (Int32.ofInt u1_)), some (.int (Int32.ofInt u2_))] [] (zpI [] [] Mz (fun v N => v = ((znzc (zrw F_ Mz 98 0) F_ : Nat) : Int))) := by
    intro n
    induction n with
    | zero =>
      intro u1_ hu1_a hu1_b u2_ hu2_a hu2_b i3_ i4_ i5_ i6_ h0
      exact absurd h0 (Nat.not_lt_zero _)
    | succ n ih_4 =>
      intro u1_ hu1_a hu1_b u2_ hu2_a hu2_b i3_ i4_ i5_ i6_ hlt_4
      have hpi_ := (show u1_ = ((znzc (zrw F_ Mz 98 0) (u2_).toNat : Nat) : Int) by first | with_reducible assumption | assumption)
      refine zw_iload_n (pc := 4) (n := 2) (x := Int32.ofInt u2_) rfl (zdal_p dlD_M_parts_96 (i := 4) rfl) ?_
      refine zw_aload_n (pc := 5) (n := 0) (x := 81) rfl (zdal_p dlD_M_parts_96 (i := 5) rfl) ?_
      refine zr_getI0 hf hW (pc := 6) (by decide) f_M_235 rfl (zdal_p dlD_M_parts_96 (i := 6) rfl) ?_
      refine zr_icmp_ge (pc := 9) (tgt := 40) ⟨hu2_a, hu2_b⟩ ⟨(ze_r Mz 81 26).1, (ze_r Mz 81 26).2⟩ (by decide) (zdal_p dlD_M_parts_96 (i := 7) rfl) (fun hc_9 => ?_) (fun hc_9 => ?_)
      · skip
        refine zw_iload_n (pc := 40) (n := 1) (x := Int32.ofInt u1_) rfl (zdal_p dlD_M_parts_97 (i := 0) rfl) ?_
        exact zr_iret (pc := 41) (ty := .int) rfl rfl ⟨by (exact hu1_a), by (exact hu1_b)⟩ hf (show u1_ = ((znzc (zrw F_ Mz 98 0) F_ : Nat) : Int) by have h_ := hpi_; rw [show (u2_).toNat = F_ by (exact zo_2611 hF27_ hFc_ hc_9 hu2_b i3_ i4_)] at h_; exact h_) (zdal_p dlD_M_parts_97 (i := 1) rfl)
      · skip
        refine zw_iload_n (pc := 12) (n := 1) (x := Int32.ofInt u1_) rfl (zdal_p dlD_M_parts_96 (i := 8) rfl) ?_
        refine zw_aload_n (pc := 13) (n := 0) (x := 81) rfl (zdal_p dlD_M_parts_96 (i := 9) rfl) ?_
        refine zr_getF (r := 98) (hf.w hW) (pc := 14) f_M_66 rfl (zh_98 (hf.w hW)).1 (zdal_p dlD_M_parts_96 (i := 10) rfl) ?_
        refine zw_iload_n (pc := 17) (n := 2) (x := Int32.ofInt u2_) rfl (zdal_p dlD_M_parts_96 (i := 11) rfl) ?_
        refine zr_laldn (pc := 18) (zh_98 (hf.w hW)).2 (by decide) (by (exact i3_)) (by (exact zo_70 hF27_ hu2_b i4_)) (zdal_p dlD_M_parts_96 (i := 12) rfl) (fun v7_ hv7_ hv7_a hv7_b => ?_)
        have hx_ := zrw_at (F := F_) (k := (u2_).toNat) (e := 0) (by (exact zo_73 hFc_ hc_9 hu2_b i3_ i4_)) (by (decide)) hv7_ (by (exact zo_2699))
        refine zw_lconst (pc := 19) (v := Int64.ofInt 0) (by decide) (zdal_p dlD_M_parts_96 (i := 13) rfl) ?_
        refine zr_lcmp (pc := 20) ⟨hv7_a, hv7_b⟩ ⟨(by decide), (by decide)⟩ (zdal_p dlD_M_parts_96 (i := 14) rfl) ?_
        have hr8_ := zcmp_s v7_ 0
        refine zr_if_eq (pc := 21) (tgt := 28) ⟨(by (exact zo_71 hr8_)), (by (exact zo_72 hr8_))⟩ (by decide) (zdal_p dlD_M_parts_96 (i := 15) rfl) (fun hc_21 => ?_) (fun hc_21 => ?_)
        · skip
          refine zw_iconst (pc := 28) (v := Int32.ofInt 0) (by decide) (zdal_p dlD_M_parts_96 (i := 18) rfl) ?_
          refine zr_callS hf.x (pc := 29) [.int (Int32.ofInt 0)] [.int (Int32.ofInt u1_)] l_M_256 (c_M_truth l Mz (hf.w hW) 0 (by decide) (by decide) (by (decide))) rfl rfl (by decide) (Nat.le_of_ble_eq_true rfl) (zdal_p dlD_M_parts_96 (i := 19) rfl) ?_
          rintro _ N9_ ⟨v10_, rfl, ⟨hv10_a, hv10_b⟩, hsN9_, hp0_N9_⟩
          obtain rfl := hsN9_.eq.symm
          replace hp0_N9_ : v10_ = 0 := hp0_N9_
          show zW l m_M_parts (zn Mz + 0, zw Mz + 0) Mz 32 [some (.ref 81), some (.int (Int32.ofInt u1_)), some (.int (Int32.ofInt u2_))] [.int (Int32.ofInt v10_), .int (Int32.ofInt u1_)] _
          refine zr_iadd (pc := 32) (zdal_p dlD_M_parts_96 (i := 20) rfl) ?_
          refine zw_istore_n (pc := 33) (i := 1) (L2 := [some (.ref 81), some (.int (Int32.ofInt (u1_ + v10_))), some (.int (Int32.ofInt u2_))]) rfl (by decide) rfl (zdal_p dlD_M_parts_96 (i := 21) rfl) ?_
          refine zr_iinc (pc := 34) (i := 2) (a := u2_) (n := 1) (L2 := [some (.ref 81), some (.int (Int32.ofInt (u1_ + v10_))), some (.int (Int32.ofInt (u2_ + 1)))]) rfl (by decide) rfl (zdal_p dlD_M_parts_96 (i := 22) rfl) ?_
          refine zw_goto (pc := 37) (tgt := 4) (by decide) (zdal_p dlD_M_parts_96 (i := 23) rfl) ?_
          exact ih_4 (u1_ + v10_) (by omega) (by omega) (u2_ + 1) (by (exact zo_74 i3_)) (by (exact zo_75 hF27_ hu2_b i4_)) (show 0 ≤ (u2_ + 1) by first | with_reducible assumption | (exact zo_76 i3_) | assumption) (show (u2_ + 1) ≤ F_ by first | with_reducible assumption | (exact zo_77 hFc_ hc_9 hu2_b i4_) | assumption) (show (u1_ + v10_) = ((znzc (zrw F_ Mz 98 0) ((u2_ + 1)).toNat : Nat) : Int) by exact znzc_s hpi_ (by (exact i3_)) _ _ hx_ (by omega)) (show 0 ≤ (u1_ + v10_) ∧ (u1_ + v10_) ≤ (u2_ + 1) by first | with_reducible assumption | assumption | omega) (by (exact zo_78 hFc_ hc_9 hlt_4 hu2_b i4_))
        · skip
          refine zw_iconst (pc := 24) (v := Int32.ofInt 1) (by decide) (zdal_p dlD_M_parts_96 (i := 16) rfl) ?_
          refine zw_goto (pc := 25) (tgt := 29) (by decide) (zdal_p dlD_M_parts_96 (i := 17) rfl) ?_
          refine zr_callS hf.x (pc := 29) [.int (Int32.ofInt 1)] [.int (Int32.ofInt u1_)] l_M_256 (c_M_truth l Mz (hf.w hW) 1 (by decide) (by decide) (by (decide))) rfl rfl (by decide) (Nat.le_of_ble_eq_true rfl) (zdal_p dlD_M_parts_96 (i := 19) rfl) ?_
          rintro _ N11_ ⟨v12_, rfl, ⟨hv12_a, hv12_b⟩, hsN11_, hp0_N11_⟩
          obtain rfl := hsN11_.eq.symm
          replace hp0_N11_ : v12_ = 1 := hp0_N11_
          show zW l m_M_parts (zn Mz + 0, zw Mz + 0) Mz 32 [some (.ref 81), some (.int (Int32.ofInt u1_)), some (.int (Int32.ofInt u2_))] [.int (Int32.ofInt v12_), .int (Int32.ofInt u1_)] _
          refine zr_iadd (pc := 32) (zdal_p dlD_M_parts_96 (i := 20) rfl) ?_
          refine zw_istore_n (pc := 33) (i := 1) (L2 := [some (.ref 81), some (.int (Int32.ofInt (u1_ + v12_))), some (.int (Int32.ofInt u2_))]) rfl (by decide) rfl (zdal_p dlD_M_parts_96 (i := 21) rfl) ?_
          refine zr_iinc (pc := 34) (i := 2) (a := u2_) (n := 1) (L2 := [some (.ref 81), some (.int (Int32.ofInt (u1_ + v12_))), some (.int (Int32.ofInt (u2_ + 1)))]) rfl (by decide) rfl (zdal_p dlD_M_parts_96 (i := 22) rfl) ?_
          refine zw_goto (pc := 37) (tgt := 4) (by decide) (zdal_p dlD_M_parts_96 (i := 23) rfl) ?_
          exact ih_4 (u1_ + v12_) (by omega) (by omega) (u2_ + 1) (by (exact zo_74 i3_)) (by (exact zo_75 hF27_ hu2_b i4_)) (show 0 ≤ (u2_ + 1) by first | with_reducible assumption | (exact zo_76 i3_) | assumption) (show (u2_ + 1) ≤ F_ by first | with_reducible assumption | (exact zo_77 hFc_ hc_9 hu2_b i4_) | assumption) (show (u1_ + v12_) = ((znzc (zrw F_ Mz 98 0) ((u2_ + 1)).toNat : Nat) : Int) by exact znzc_s hpi_ (by (exact i3_)) _ _ hx_ (by omega)) (show 0 ≤ (u1_ + v12_) ∧ (u1_ + v12_) ≤ (u2_ + 1) by first | with_reducible assumption | assumption | omega) (by (exact zo_78 hFc_ hc_9 hlt_4 hu2_b i4_))
  exact lp_4 _ 0 (by decide) (by decide) 0 (by decide) (by decide) (show 0 ≤ (0 : Int) by first | with_reducible assumption | (decide) | assumption) (show (0 : Int) ≤ F_ by first | with_reducible assumption | (exact zo_85) | assumption) (show (0 : Int) = ((znzc (zrw F_ Mz 98 0) ((0 : Int)).toNat : Nat) : Int) by rfl) (show 0 ≤ (0 : Int) ∧ (0 : Int) ≤ (0 : Int) by first | with_reducible assumption | (decide) | assumption) (Nat.lt_succ_self _)
set_option maxHeartbeats 4000000 in
theorem c_M_markAt_105S (l : Launch) (Mz : zMem) (hW : zMt Mz) (a1_ : Int) (ha1_a : -2147483648 ≤ a1_) (ha1_b : a1_ < 2147483648) (a2_ : Int) (ha2_a : -2147483648 ≤ a2_) (ha2_b : a2_ < 2147483648) (F_ : Nat) (K_ : Nat → Nat → Int) (hA_ : zTA F_ K_) (p0_ : zRmk F_ K_ Mz) (p1_ : 0 ≤ a1_) (p2_ : a1_ ≤ 0) (p3_ : 0 ≤ a2_) (p4_ : a2_ < F_) : zC l m_M_markAt 0 0 [.ref 81, .ref 105, .int (Int32.ofInt a1_), .int (Int32.ofInt a2_)] Mz (zpJ [] [] Mz (fun v N => Int64.ofInt v = Int64.ofInt (zmq F_ K_ (zrw F_ Mz 105 a1_) (a2_).toNat))) := by
  refine zC_of (L0 := [some (.ref 81), some (.ref 105), some (.int (Int32.ofInt a1_)), some (.int (Int32.ofInt a2_)), none, none, none]) md_M_markAt (Nat.le_of_ble_eq_true rfl) rfl ?_ zQ0
  have hf : zFr [] [] Mz Mz := zFr.rf
  have r_26 := ze_r Mz 81 26
  obtain ⟨⟨hF1_, hF27_⟩, hAr_⟩ := id hA_
  obtain ⟨hFc_, hKt_⟩ := id p0_
  refine zw_lconst (pc := 0) (v := Int64.ofInt 0) (by decide) (zdal_p dlC_M_markAt_114 (i := 0) rfl) ?_
  refine zw_lstore (pc := 1) (i := 4) (L2 := [some (.ref 81), some (.ref 105), some (.int (Int32.ofInt a1_)), some (.int (Int32.ofInt a2_)), some (.long (Int64.ofInt 0)), none, none]) (by decide) rfl (zdal_p dlC_M_markAt_114 (i := 1) rfl) ?_
  refine zw_iconst (pc := 3) (v := Int32.ofInt 0) (by decide) (zdal_p dlC_M_markAt_114 (i := 2) rfl) ?_
  refine zw_istore (pc := 4) (i := 6) (L2 := [some (.ref 81), some (.ref 105), some (.int (Int32.ofInt a1_)), some (.int (Int32.ofInt a2_)), some (.long (Int64.ofInt 0)), none, some (.int (Int32.ofInt 0))]) (by decide) rfl (zdal_p dlC_M_markAt_114 (i := 3) rfl) ?_
  have lp_6 : ∀ (n : Nat) (u1_ : Int) (hu1_a : -9223372036854775808 ≤ u1_) (hu1_b : u1_ < 9223372036854775808) (u2_ : Int) (hu2_a : -2147483648 ≤ u2_) (hu2_b : u2_ < 2147483648) (i3_ : 0 ≤ u2_) (i4_ : u2_ ≤ F_) (i5_ : Int64.ofInt u1_ = Int64.ofInt (zsm (fun i => (zrw F_ Mz 105 a1_) i * K_ i (a2_).toNat) (u2_).toNat)), (F_ - u2_).toNat < n → zW l m_M_markAt (zn Mz + 0, zw Mz + 0) Mz 6 [some (.ref 81), some (.ref 105), some (.int (Int32.ofInt a1_)), some (.int (Int32.ofInt a2_)), some (.long (Int64.ofInt u1_)), none, some (.int (Int32.ofInt u2_))] [] (zpJ [] [] Mz (fun v N => Int64.ofInt v = Int64.ofInt (zmq F_ K_ (zrw F_ Mz 105 a1_) (a2_).toNat))) := by
    intro n
    induction n with
    | zero =>
      intro u1_ hu1_a hu1_b u2_ hu2_a hu2_b i3_ i4_ i5_ h0
      exact absurd h0 (Nat.not_lt_zero _)
    | succ n ih_6 =>
      intro u1_ hu1_a hu1_b u2_ hu2_a hu2_b i3_ i4_ i5_ hlt_6
      refine zw_iload (pc := 6) (i := 6) (x := Int32.ofInt u2_) rfl (zdal_p dlC_M_markAt_114 (i := 4) rfl) ?_
      refine zw_aload_n (pc := 8) (n := 0) (x := 81) rfl (zdal_p dlC_M_markAt_114 (i := 5) rfl) ?_
      refine zr_getI0 hf hW (pc := 9) (by decide) f_M_235 rfl (zdal_p dlC_M_markAt_114 (i := 6) rfl) ?_
      refine zr_icmp_ge (pc := 12) (tgt := 46) ⟨hu2_a, hu2_b⟩ ⟨(ze_r Mz 81 26).1, (ze_r Mz 81 26).2⟩ (by decide) (zdal_p dlC_M_markAt_114 (i := 7) rfl) (fun hc_12 => ?_) (fun hc_12 => ?_)
      · skip
        refine zw_lload (pc := 46) (i := 4) (x := Int64.ofInt u1_) rfl (zdal_p dlC_M_markAt_115 (i := 4) rfl) ?_
        exact zr_lret (pc := 48) rfl ⟨by (exact hu1_a), by (exact hu1_b)⟩ hf (show Int64.ofInt u1_ = Int64.ofInt (zmq F_ K_ (zrw F_ Mz 105 a1_) (a2_).toNat) by have e_ : (u2_).toNat = F_ := (by (exact zo_2611 hF27_ hFc_ hc_12 hu2_b i3_ i4_)); have h_ := (show Int64.ofInt u1_ = Int64.ofInt (zsm (fun i => (zrw F_ Mz 105 a1_) i * K_ i (a2_).toNat) (u2_).toNat) by first | with_reducible assumption | assumption); rw [e_] at h_; exact h_) (zdal_p dlC_M_markAt_115 (i := 5) rfl)
      · skip
        refine zw_lload (pc := 15) (i := 4) (x := Int64.ofInt u1_) rfl (zdal_p dlC_M_markAt_114 (i := 8) rfl) ?_
        refine zw_aload_n (pc := 17) (n := 1) (x := 105) rfl (zdal_p dlC_M_markAt_114 (i := 9) rfl) ?_
        refine zw_iload_n (pc := 18) (n := 2) (x := Int32.ofInt a1_) rfl (zdal_p dlC_M_markAt_114 (i := 10) rfl) ?_
        refine zw_iload (pc := 19) (i := 6) (x := Int32.ofInt u2_) rfl (zdal_p dlC_M_markAt_114 (i := 11) rfl) ?_
        refine zr_iadd (pc := 21) (zdal_p dlC_M_markAt_114 (i := 12) rfl) ?_
        refine zr_laldn (pc := 22) (zh_105 (hf.w hW)).2 (by decide) (by (exact zo_833 i3_ p1_)) (by (exact zo_2839 hF27_ hu2_b i4_ p2_)) (zdal_p dlC_M_markAt_114 (i := 13) rfl) (fun v6_ hv6_ hv6_a hv6_b => ?_)
        have hx_ := zrw_at (F := F_) (k := (u2_).toNat) (e := a1_) (by (exact zo_73 hFc_ hc_12 hu2_b i3_ i4_)) (by (exact p1_)) hv6_ (by (exact zo_2613 i3_ p1_))
        refine zw_aload_n (pc := 23) (n := 0) (x := 81) rfl (zdal_p dlC_M_markAt_114 (i := 14) rfl) ?_
        refine zr_getF (r := 93) (hf.w hW) (pc := 24) f_M_50 rfl (zh_93 (hf.w hW)).1 (zdal_p dlC_M_markAt_114 (i := 15) rfl) ?_
        refine zw_bipush (pc := 27) (v := Int32.ofInt 64) (by decide) (zdal_p dlC_M_markAt_114 (i := 16) rfl) ?_
        refine zw_iload (pc := 29) (i := 6) (x := Int32.ofInt u2_) rfl (zdal_p dlC_M_markAt_114 (i := 17) rfl) ?_
        refine zr_imul (pc := 31) (zdal_p dlC_M_markAt_114 (i := 18) rfl) ?_
        refine zw_iload_n (pc := 32) (n := 3) (x := Int32.ofInt a2_) rfl (zdal_p dlC_M_markAt_114 (i := 19) rfl) ?_
        refine zr_iadd (pc := 33) (zdal_p dlC_M_markAt_114 (i := 20) rfl) ?_
        refine zr_ialdn (pc := 34) (zh_93 (hf.w hW)).2 (by decide) (by (exact zo_529 i3_ p3_)) (by (exact zo_2614 hF27_ ha2_b hu2_b i4_ p4_)) (zdal_p dlC_M_markAt_114 (i := 21) rfl) (fun v7_ hv7_ hv7_a hv7_b => ?_)
        have hy_ := p0_.k (by (exact i3_)) (by (exact zo_2223 hFc_ hc_12 hu2_b i4_)) (by (exact p3_)) (by (exact p4_)) hv7_
        refine zr_i2l (pc := 35) ⟨hv7_a, hv7_b⟩ (zdal_p dlC_M_markAt_114 (i := 22) rfl) ?_
        refine zr_lmul (pc := 36) (zdal_p dlC_M_markAt_114 (i := 23) rfl) ?_
        refine zr_ladd (pc := 37) (zdal_p dlC_M_markAt_115 (i := 0) rfl) ?_
        refine zk_nmJ (fun v8_ hv8_ hv8_e => ?_)
        obtain ⟨hv8_a, hv8_b⟩ := hv8_
        have hz_ := zmq_s (show Int64.ofInt u1_ = Int64.ofInt (zsm (fun i => (zrw F_ Mz 105 a1_) i * K_ i (a2_).toNat) (u2_).toNat) by first | with_reducible assumption | assumption) hv8_e (by (exact i3_)) (by show _ * _ = _; rw [← hx_, ← hy_])
        refine zw_lstore (pc := 38) (i := 4) (L2 := [some (.ref 81), some (.ref 105), some (.int (Int32.ofInt a1_)), some (.int (Int32.ofInt a2_)), some (.long (Int64.ofInt v8_)), none, some (.int (Int32.ofInt u2_))]) (by decide) rfl (zdal_p dlC_M_markAt_115 (i := 1) rfl) ?_
        refine zr_iinc (pc := 40) (i := 6) (a := u2_) (n := 1) (L2 := [some (.ref 81), some (.ref 105), some (.int (Int32.ofInt a1_)), some (.int (Int32.ofInt a2_)), some (.long (Int64.ofInt v8_)), none, some (.int (Int32.ofInt (u2_ + 1)))]) rfl (by decide) rfl (zdal_p dlC_M_markAt_115 (i := 2) rfl) ?_
        refine zw_goto (pc := 43) (tgt := 6) (by decide) (zdal_p dlC_M_markAt_115 (i := 3) rfl) ?_
        exact ih_6 v8_ hv8_a hv8_b (u2_ + 1) (by (exact zo_74 i3_)) (by (exact zo_75 hF27_ hu2_b i4_)) (show 0 ≤ (u2_ + 1) by first | with_reducible assumption | (exact zo_76 i3_) | assumption) (show (u2_ + 1) ≤ F_ by first | with_reducible assumption | (exact zo_77 hFc_ hc_12 hu2_b i4_) | assumption) (show Int64.ofInt v8_ = Int64.ofInt (zsm (fun i => (zrw F_ Mz 105 a1_) i * K_ i (a2_).toNat) ((u2_ + 1)).toNat) by exact hz_) (by (exact zo_78 hFc_ hc_12 hlt_6 hu2_b i4_))
  exact lp_6 _ 0 (by decide) (by decide) 0 (by decide) (by decide) (show 0 ≤ (0 : Int) by first | with_reducible assumption | (decide) | assumption) (show (0 : Int) ≤ F_ by first | with_reducible assumption | (exact zo_85) | assumption) (show Int64.ofInt (0 : Int) = Int64.ofInt (zsm (fun i => (zrw F_ Mz 105 a1_) i * K_ i (a2_).toNat) ((0 : Int)).toNat) by rfl) (Nat.lt_succ_self _)
set_option maxHeartbeats 4000000 in
theorem c_M_isFit_105S (l : Launch) (Mz : zMem) (hW : zMt Mz) (a1_ : Int) (ha1_a : -2147483648 ≤ a1_) (ha1_b : a1_ < 2147483648) (F_ : Nat) (K_ : Nat → Nat → Int) (hA_ : zTA F_ K_) (p0_ : zRmk F_ K_ Mz) (p1_ : 0 ≤ a1_) (p2_ : a1_ ≤ 0) : zC l m_M_isFit 0 0 [.ref 81, .ref 105, .int (Int32.ofInt a1_)] Mz (zpI [] [] Mz (fun v N => ((v = 0 ∨ v = 1)) ∧ zIsF F_ K_ (zrw F_ Mz 105 a1_) v)) := by
  refine zC_of (L0 := [some (.ref 81), some (.ref 105), some (.int (Int32.ofInt a1_)), none, none]) md_M_isFit (Nat.le_of_ble_eq_true rfl) rfl ?_ zQ0
  have hf : zFr [] [] Mz Mz := zFr.rf
  have r_26 := ze_r Mz 81 26
  obtain ⟨⟨hF1_, hF27_⟩, hAr_⟩ := id hA_
  obtain ⟨hFc_, hKt_⟩ := id p0_
  refine zw_iconst (pc := 0) (v := Int32.ofInt 1) (by decide) (zdal_p dlC_M_isFit_112 (i := 0) rfl) ?_
  refine zw_istore_n (pc := 1) (i := 3) (L2 := [some (.ref 81), some (.ref 105), some (.int (Int32.ofInt a1_)), some (.int (Int32.ofInt 1)), none]) rfl (by decide) rfl (zdal_p dlC_M_isFit_112 (i := 1) rfl) ?_
  refine zw_iconst (pc := 2) (v := Int32.ofInt 0) (by decide) (zdal_p dlC_M_isFit_112 (i := 2) rfl) ?_
  refine zw_istore (pc := 3) (i := 4) (L2 := [some (.ref 81), some (.ref 105), some (.int (Int32.ofInt a1_)), some (.int (Int32.ofInt 1)), some (.int (Int32.ofInt 0))]) (by decide) rfl (zdal_p dlC_M_isFit_112 (i := 3) rfl) ?_
  have lp_5 : ∀ (n : Nat) (u1_ : Int) (hu1_a : -2147483648 ≤ u1_) (hu1_b : u1_ < 2147483648) (hu1_z : u1_ = 0 ∨ u1_ = 1) (u2_ : Int) (hu2_a : -2147483648 ≤ u2_) (hu2_b : u2_ < 2147483648) (i3_ : 0 ≤ u2_) (i4_ : u2_ ≤ F_) (i5_ : zIsA F_ (zrw F_ Mz 105 a1_) u1_ u2_), (F_ - u2_).toNat < n → zW l m_M_isFit (zn Mz + 0, zw Mz + 0) Mz 5 [some (.ref 81), some (.ref 105), some (.int (Int32.ofInt a1_)), some (.int (Int32.ofInt u1_)), some (.int (Int32.ofInt u2_))] [] (zpI [] [] Mz (fun v N => ((v = 0 ∨ v = 1)) ∧ zIsF F_ K_ (zrw F_ Mz 105 a1_) v)) := by
    intro n
    induction n with
    | zero =>
      intro u1_ hu1_a hu1_b hu1_z u2_ hu2_a hu2_b i3_ i4_ i5_ h0
      exact absurd h0 (Nat.not_lt_zero _)
    | succ n ih_5 =>
      intro u1_ hu1_a hu1_b hu1_z u2_ hu2_a hu2_b i3_ i4_ i5_ hlt_5
      have hia_ := (show zIsA F_ (zrw F_ Mz 105 a1_) u1_ u2_ by first | with_reducible assumption | assumption)
      refine zw_iload (pc := 5) (i := 4) (x := Int32.ofInt u2_) rfl (zdal_p dlC_M_isFit_112 (i := 4) rfl) ?_
      refine zw_aload_n (pc := 7) (n := 0) (x := 81) rfl (zdal_p dlC_M_isFit_112 (i := 5) rfl) ?_
      refine zr_getI0 hf hW (pc := 8) (by decide) f_M_235 rfl (zdal_p dlC_M_isFit_112 (i := 6) rfl) ?_
      refine zr_icmp_ge (pc := 11) (tgt := 48) ⟨hu2_a, hu2_b⟩ ⟨(ze_r Mz 81 26).1, (ze_r Mz 81 26).2⟩ (by decide) (zdal_p dlC_M_isFit_112 (i := 7) rfl) (fun hc_11 => ?_) (fun hc_11 => ?_)
      · skip
        have hib0_ := zIsB_0 (K := K_) hia_ (by (exact zo_2228 hF27_ hFc_ hc_11 i3_))
        refine zw_iconst (pc := 48) (v := Int32.ofInt 0) (by decide) (zdal_p dlC_M_isFit_113 (i := 1) rfl) ?_
        refine zw_istore (pc := 49) (i := 4) (L2 := [some (.ref 81), some (.ref 105), some (.int (Int32.ofInt a1_)), some (.int (Int32.ofInt u1_)), some (.int (Int32.ofInt 0))]) (by decide) rfl (zdal_p dlC_M_isFit_113 (i := 2) rfl) ?_
        have lp_51 : ∀ (n : Nat) (u6_ : Int) (hu6_a : -2147483648 ≤ u6_) (hu6_b : u6_ < 2147483648) (hu6_z : u6_ = 0 ∨ u6_ = 1) (u7_ : Int) (hu7_a : -2147483648 ≤ u7_) (hu7_b : u7_ < 2147483648) (i8_ : 0 ≤ u7_) (i9_ : u7_ ≤ F_) (i10_ : zIsB F_ K_ (zrw F_ Mz 105 a1_) u6_ u7_), (F_ - u7_).toNat < n → zW l m_M_isFit (zn Mz + 0, zw Mz + 0) Mz 51 [some (.ref 81), some (.ref 105), some (.int (Int32.ofInt a1_)), some (.int (Int32.ofInt u6_)), some (.int (Int32.ofInt u7_))] [] (zpI [] [] Mz (fun v N => ((v = 0 ∨ v = 1)) ∧ zIsF F_ K_ (zrw F_ Mz 105 a1_) v)) := by
          intro n
          induction n with
          | zero =>
            intro u6_ hu6_a hu6_b hu6_z u7_ hu7_a hu7_b i8_ i9_ i10_ h0
            exact absurd h0 (Nat.not_lt_zero _)
          | succ n ih_51 =>
            intro u6_ hu6_a hu6_b hu6_z u7_ hu7_a hu7_b i8_ i9_ i10_ hlt_51
            have hib_ := (show zIsB F_ K_ (zrw F_ Mz 105 a1_) u6_ u7_ by first | with_reducible assumption | assumption)
            refine zw_iload (pc := 51) (i := 4) (x := Int32.ofInt u7_) rfl (zdal_p dlC_M_isFit_113 (i := 3) rfl) ?_
            refine zw_aload_n (pc := 53) (n := 0) (x := 81) rfl (zdal_p dlC_M_isFit_113 (i := 4) rfl) ?_
            refine zr_getI0 hf hW (pc := 54) (by decide) f_M_235 rfl (zdal_p dlC_M_isFit_113 (i := 5) rfl) ?_
            refine zr_icmp_ge (pc := 57) (tgt := 88) ⟨hu7_a, hu7_b⟩ ⟨(ze_r Mz 81 26).1, (ze_r Mz 81 26).2⟩ (by decide) (zdal_p dlC_M_isFit_113 (i := 6) rfl) (fun hc_57 => ?_) (fun hc_57 => ?_)
            · skip
              refine zw_iload_n (pc := 88) (n := 3) (x := Int32.ofInt u6_) rfl (zdal_p dlC_M_isFit_113 (i := 20) rfl) ?_
              exact zr_iret (pc := 89) (ty := .boolean) rfl (z_narB (by (exact hu6_z))) ⟨by (exact hu6_a), by (exact hu6_b)⟩ hf ⟨(show (u6_ = 0 ∨ u6_ = 1) by have h_ := hib_.1; (exact hu6_z)), (show zIsF F_ K_ (zrw F_ Mz 105 a1_) u6_ by exact zIsF_e hib_ (by (exact zo_2615 hF27_ hFc_ hc_57 i8_)))⟩ (zdal_p dlC_M_isFit_113 (i := 21) rfl)
            · skip
              refine zw_iload_n (pc := 60) (n := 3) (x := Int32.ofInt u6_) rfl (zdal_p dlC_M_isFit_113 (i := 7) rfl) ?_
              refine zr_if_eq (pc := 61) (tgt := 88) ⟨hu6_a, hu6_b⟩ (by decide) (zdal_p dlC_M_isFit_113 (i := 8) rfl) (fun hc_61 => ?_) (fun hc_61 => ?_)
              · skip
                refine zw_iload_n (pc := 88) (n := 3) (x := Int32.ofInt u6_) rfl (zdal_p dlC_M_isFit_113 (i := 20) rfl) ?_
                exact zr_iret (pc := 89) (ty := .boolean) rfl (z_narB (by (exact hu6_z))) ⟨by (exact hu6_a), by (exact hu6_b)⟩ hf ⟨(show (u6_ = 0 ∨ u6_ = 1) by have h_ := hib_.1; (exact hu6_z)), (show zIsF F_ K_ (zrw F_ Mz 105 a1_) u6_ by exact zIsF_e hib_ (by (exact zo_2616 hc_61)))⟩ (zdal_p dlC_M_isFit_113 (i := 21) rfl)
              · skip
                refine zw_aload_n (pc := 64) (n := 0) (x := 81) rfl (zdal_p dlC_M_isFit_113 (i := 9) rfl) ?_
                refine zw_aload_n (pc := 65) (n := 1) (x := 105) rfl (zdal_p dlC_M_isFit_113 (i := 10) rfl) ?_
                refine zw_iload_n (pc := 66) (n := 2) (x := Int32.ofInt a1_) rfl (zdal_p dlC_M_isFit_113 (i := 11) rfl) ?_
                refine zw_iload (pc := 67) (i := 4) (x := Int32.ofInt u7_) rfl (zdal_p dlC_M_isFit_113 (i := 12) rfl) ?_
                refine zr_callV (hf.w hW) hf.x (pc := 69) [.ref 105, .int (Int32.ofInt a1_), .int (Int32.ofInt u7_)] [] l_M_264 (c_M_markAt_105S l Mz (hf.w hW) a1_ ha1_a ha1_b u7_ hu7_a hu7_b F_ K_ hA_ p0_ (show 0 ≤ a1_ by first | with_reducible assumption | assumption | omega) (show a1_ ≤ 0 by first | with_reducible assumption | assumption | omega) (show 0 ≤ u7_ by first | with_reducible assumption | assumption | omega) (show u7_ < F_ by first | with_reducible assumption | (exact zo_2223 hFc_ hc_57 hu7_b i9_) | assumption)) rfl rfl rfl (by decide) (Nat.le_of_ble_eq_true rfl) (zdal_p dlC_M_isFit_113 (i := 13) rfl) ?_
                rintro _ N11_ ⟨v12_, rfl, ⟨hv12_a, hv12_b⟩, hsN11_, hp0_N11_⟩
                obtain rfl := hsN11_.eq.symm
                replace hp0_N11_ : Int64.ofInt v12_ = Int64.ofInt (zmq F_ K_ (zrw F_ Mz 105 a1_) (u7_).toNat) := hp0_N11_
                show zW l m_M_isFit (zn Mz + 0, zw Mz + 0) Mz 72 [some (.ref 81), some (.ref 105), some (.int (Int32.ofInt a1_)), some (.int (Int32.ofInt u6_)), some (.int (Int32.ofInt u7_))] [.long (Int64.ofInt v12_)] _
                have hmk_ := hp0_N11_
                have hr64_ : zn64 v12_ := ⟨by (exact hv12_a), by (exact hv12_b)⟩
                refine zr_ldc2 (pc := 72) (n := (-1000000000000)) (by decide) k_M_260 (zdal_p dlC_M_isFit_113 (i := 14) rfl) ?_
                refine zr_ldc2 (pc := 75) (n := 1000000000000) (by decide) k_M_262 (zdal_p dlC_M_isFit_113 (i := 15) rfl) ?_
                refine zr_callS hf.x (pc := 78) [.long (Int64.ofInt v12_), .long (Int64.ofInt ((-1000000000000))), .long (Int64.ofInt 1000000000000)] [] l_M_131 (c_M_isIn l Mz (hf.w hW) v12_ hv12_a hv12_b ((-1000000000000)) (by decide) (by decide) 1000000000000 (by decide) (by decide)) rfl rfl (by decide) (Nat.le_of_ble_eq_true rfl) (zdal_p dlC_M_isFit_113 (i := 16) rfl) ?_
                rintro _ N13_ ⟨v14_, rfl, ⟨hv14_a, hv14_b⟩, hsN13_, hp0_N13_⟩
                obtain rfl := hsN13_.eq.symm
                replace hp0_N13_ : ((v14_ = 1 ∧ ((-1000000000000)) ≤ v12_ ∧ v12_ ≤ 1000000000000) ∨ (v14_ = 0 ∧ (v12_ < ((-1000000000000)) ∨ 1000000000000 < v12_))) := hp0_N13_
                rcases hp0_N13_ with ⟨rfl, ha78_0_hp0_N13_, ha78_1_hp0_N13_⟩ | ⟨rfl, ha78_0_hp0_N13_⟩
                · skip
                  have hnx_ := zIsB_t (r := 1) hib_ (by (exact hc_61)) (by (exact i8_)) (by (exact zo_2223 hFc_ hc_57 hu7_b i9_)) hmk_ hr64_ (Or.inl ⟨rfl, ha78_0_hp0_N13_, ha78_1_hp0_N13_⟩)
                  show zW l m_M_isFit (zn Mz + 0, zw Mz + 0) Mz 81 [some (.ref 81), some (.ref 105), some (.int (Int32.ofInt a1_)), some (.int (Int32.ofInt u6_)), some (.int (Int32.ofInt u7_))] [.int (Int32.ofInt 1)] _
                  refine zw_istore_n (pc := 81) (i := 3) (L2 := [some (.ref 81), some (.ref 105), some (.int (Int32.ofInt a1_)), some (.int (Int32.ofInt 1)), some (.int (Int32.ofInt u7_))]) rfl (by decide) rfl (zdal_p dlC_M_isFit_113 (i := 17) rfl) ?_
                  refine zr_iinc (pc := 82) (i := 4) (a := u7_) (n := 1) (L2 := [some (.ref 81), some (.ref 105), some (.int (Int32.ofInt a1_)), some (.int (Int32.ofInt 1)), some (.int (Int32.ofInt (u7_ + 1)))]) rfl (by decide) rfl (zdal_p dlC_M_isFit_113 (i := 18) rfl) ?_
                  refine zw_goto (pc := 85) (tgt := 51) (by decide) (zdal_p dlC_M_isFit_113 (i := 19) rfl) ?_
                  exact ih_51 1 (by decide) (by decide) (by (decide)) (u7_ + 1) (by (exact zo_74 i8_)) (by (exact zo_75 hF27_ hu7_b i9_)) (show 0 ≤ (u7_ + 1) by first | with_reducible assumption | (exact zo_76 i8_) | assumption) (show (u7_ + 1) ≤ F_ by first | with_reducible assumption | (exact zo_77 hFc_ hc_57 hu7_b i9_) | assumption) (show zIsB F_ K_ (zrw F_ Mz 105 a1_) (1 : Int) (u7_ + 1) by exact hnx_) (by (exact zo_78 hFc_ hc_57 hlt_51 hu7_b i9_))
                · skip
                  have hnx_ := zIsB_t (r := 0) hib_ (by (exact hc_61)) (by (exact i8_)) (by (exact zo_2223 hFc_ hc_57 hu7_b i9_)) hmk_ hr64_ (Or.inr ⟨rfl, ha78_0_hp0_N13_⟩)
                  show zW l m_M_isFit (zn Mz + 0, zw Mz + 0) Mz 81 [some (.ref 81), some (.ref 105), some (.int (Int32.ofInt a1_)), some (.int (Int32.ofInt u6_)), some (.int (Int32.ofInt u7_))] [.int (Int32.ofInt 0)] _
                  refine zw_istore_n (pc := 81) (i := 3) (L2 := [some (.ref 81), some (.ref 105), some (.int (Int32.ofInt a1_)), some (.int (Int32.ofInt 0)), some (.int (Int32.ofInt u7_))]) rfl (by decide) rfl (zdal_p dlC_M_isFit_113 (i := 17) rfl) ?_
                  refine zr_iinc (pc := 82) (i := 4) (a := u7_) (n := 1) (L2 := [some (.ref 81), some (.ref 105), some (.int (Int32.ofInt a1_)), some (.int (Int32.ofInt 0)), some (.int (Int32.ofInt (u7_ + 1)))]) rfl (by decide) rfl (zdal_p dlC_M_isFit_113 (i := 18) rfl) ?_
                  refine zw_goto (pc := 85) (tgt := 51) (by decide) (zdal_p dlC_M_isFit_113 (i := 19) rfl) ?_
                  exact ih_51 0 (by decide) (by decide) (by (decide)) (u7_ + 1) (by (exact zo_74 i8_)) (by (exact zo_75 hF27_ hu7_b i9_)) (show 0 ≤ (u7_ + 1) by first | with_reducible assumption | (exact zo_76 i8_) | assumption) (show (u7_ + 1) ≤ F_ by first | with_reducible assumption | (exact zo_77 hFc_ hc_57 hu7_b i9_) | assumption) (show zIsB F_ K_ (zrw F_ Mz 105 a1_) (0 : Int) (u7_ + 1) by exact hnx_) (by (exact zo_78 hFc_ hc_57 hlt_51 hu7_b i9_))
        exact lp_51 _ u1_ hu1_a hu1_b (by (exact hu1_z)) 0 (by decide) (by decide) (show 0 ≤ (0 : Int) by first | with_reducible assumption | (decide) | assumption) (show (0 : Int) ≤ F_ by first | with_reducible assumption | (exact zo_85) | assumption) (show zIsB F_ K_ (zrw F_ Mz 105 a1_) u1_ (0 : Int) by exact hib0_) (Nat.lt_succ_self _)
      · skip
        refine zw_iload_n (pc := 14) (n := 3) (x := Int32.ofInt u1_) rfl (zdal_p dlC_M_isFit_112 (i := 8) rfl) ?_
        refine zr_if_eq (pc := 15) (tgt := 40) ⟨hu1_a, hu1_b⟩ (by decide) (zdal_p dlC_M_isFit_112 (i := 9) rfl) (fun hc_15 => ?_) (fun hc_15 => ?_)
        · skip
          have hin_ := zIsA_f hia_ (by (exact zo_2223 hFc_ hc_11 hu2_b i4_)) (by (exact i3_)) (by first | exact Or.inl (by (exact hc_15)) | (refine Or.inr (fun q_ => ?_); rw [← hx_] at q_; unfold zIn zLim at q_; omega))
          refine zw_iconst (pc := 40) (v := Int32.ofInt 0) (by decide) (zdal_p dlC_M_isFit_112 (i := 21) rfl) ?_
          refine zw_istore_n (pc := 41) (i := 3) (L2 := [some (.ref 81), some (.ref 105), some (.int (Int32.ofInt a1_)), some (.int (Int32.ofInt 0)), some (.int (Int32.ofInt u2_))]) rfl (by decide) rfl d_M_isFit_41 ?_
          refine zr_iinc (pc := 42) (i := 4) (a := u2_) (n := 1) (L2 := [some (.ref 81), some (.ref 105), some (.int (Int32.ofInt a1_)), some (.int (Int32.ofInt 0)), some (.int (Int32.ofInt (u2_ + 1)))]) rfl (by decide) rfl d_M_isFit_42 ?_
          refine zw_goto (pc := 45) (tgt := 5) (by decide) d_M_isFit_45 ?_
          exact ih_5 0 (by decide) (by decide) (by (decide)) (u2_ + 1) (by (exact zo_74 i3_)) (by (exact zo_75 hF27_ hu2_b i4_)) (show 0 ≤ (u2_ + 1) by first | with_reducible assumption | (exact zo_76 i3_) | assumption) (show (u2_ + 1) ≤ F_ by first | with_reducible assumption | (exact zo_77 hFc_ hc_11 hu2_b i4_) | assumption) (show zIsA F_ (zrw F_ Mz 105 a1_) (0 : Int) (u2_ + 1) by exact hin_) (by (exact zo_78 hFc_ hc_11 hlt_5 hu2_b i4_))
        · skip
          refine zw_aload_n (pc := 18) (n := 1) (x := 105) rfl (zdal_p dlC_M_isFit_112 (i := 10) rfl) ?_
          refine zw_iload_n (pc := 19) (n := 2) (x := Int32.ofInt a1_) rfl (zdal_p dlC_M_isFit_112 (i := 11) rfl) ?_
          refine zw_iload (pc := 20) (i := 4) (x := Int32.ofInt u2_) rfl (zdal_p dlC_M_isFit_112 (i := 12) rfl) ?_
          refine zr_iadd (pc := 22) (zdal_p dlC_M_isFit_112 (i := 13) rfl) ?_
          refine zr_laldn (pc := 23) (zh_105 (hf.w hW)).2 (by decide) (by (exact zo_833 i3_ p1_)) (by (exact zo_2839 hF27_ hu2_b i4_ p2_)) (zdal_p dlC_M_isFit_112 (i := 14) rfl) (fun v15_ hv15_ hv15_a hv15_b => ?_)
          have hx_ := zrw_at (F := F_) (k := (u2_).toNat) (e := a1_) (by (exact zo_73 hFc_ hc_11 hu2_b i3_ i4_)) (by (exact p1_)) hv15_ (by (exact zo_2613 i3_ p1_))
          refine zr_ldc2 (pc := 24) (n := (-1000000000000)) (by decide) k_M_260 (zdal_p dlC_M_isFit_112 (i := 15) rfl) ?_
          refine zr_ldc2 (pc := 27) (n := 1000000000000) (by decide) k_M_262 (zdal_p dlC_M_isFit_112 (i := 16) rfl) ?_
          refine zr_callS hf.x (pc := 30) [.long (Int64.ofInt v15_), .long (Int64.ofInt ((-1000000000000))), .long (Int64.ofInt 1000000000000)] [] l_M_131 (c_M_isIn l Mz (hf.w hW) v15_ hv15_a hv15_b ((-1000000000000)) (by decide) (by decide) 1000000000000 (by decide) (by decide)) rfl rfl (by decide) (Nat.le_of_ble_eq_true rfl) (zdal_p dlC_M_isFit_112 (i := 17) rfl) ?_
          rintro _ N16_ ⟨v17_, rfl, ⟨hv17_a, hv17_b⟩, hsN16_, hp0_N16_⟩
          obtain rfl := hsN16_.eq.symm
          replace hp0_N16_ : ((v17_ = 1 ∧ ((-1000000000000)) ≤ v15_ ∧ v15_ ≤ 1000000000000) ∨ (v17_ = 0 ∧ (v15_ < ((-1000000000000)) ∨ 1000000000000 < v15_))) := hp0_N16_
          rcases hp0_N16_ with ⟨rfl, ha30_0_hp0_N16_, ha30_1_hp0_N16_⟩ | ⟨rfl, ha30_0_hp0_N16_⟩
          · skip
            show zW l m_M_isFit (zn Mz + 0, zw Mz + 0) Mz 33 [some (.ref 81), some (.ref 105), some (.int (Int32.ofInt a1_)), some (.int (Int32.ofInt u1_)), some (.int (Int32.ofInt u2_))] [.int (Int32.ofInt 1)] _
            refine zr_if_eq (pc := 33) (tgt := 40) ⟨(by decide), (by decide)⟩ (by decide) (zdal_p dlC_M_isFit_112 (i := 18) rfl) (fun hc_33 => ?_) (fun hc_33 => ?_)
            · skip
              exact absurd hc_33 (by decide)
            · skip
              have hin_ := zIsA_t hia_ (by (exact hc_15)) (by (exact i3_)) hx_ (by unfold zIn zLim; omega)
              refine zw_iconst (pc := 36) (v := Int32.ofInt 1) (by decide) (zdal_p dlC_M_isFit_112 (i := 19) rfl) ?_
              refine zw_goto (pc := 37) (tgt := 41) (by decide) (zdal_p dlC_M_isFit_112 (i := 20) rfl) ?_
              refine zw_istore_n (pc := 41) (i := 3) (L2 := [some (.ref 81), some (.ref 105), some (.int (Int32.ofInt a1_)), some (.int (Int32.ofInt 1)), some (.int (Int32.ofInt u2_))]) rfl (by decide) rfl d_M_isFit_41 ?_
              refine zr_iinc (pc := 42) (i := 4) (a := u2_) (n := 1) (L2 := [some (.ref 81), some (.ref 105), some (.int (Int32.ofInt a1_)), some (.int (Int32.ofInt 1)), some (.int (Int32.ofInt (u2_ + 1)))]) rfl (by decide) rfl d_M_isFit_42 ?_
              refine zw_goto (pc := 45) (tgt := 5) (by decide) d_M_isFit_45 ?_
              exact ih_5 1 (by decide) (by decide) (by (decide)) (u2_ + 1) (by (exact zo_74 i3_)) (by (exact zo_75 hF27_ hu2_b i4_)) (show 0 ≤ (u2_ + 1) by first | with_reducible assumption | (exact zo_76 i3_) | assumption) (show (u2_ + 1) ≤ F_ by first | with_reducible assumption | (exact zo_77 hFc_ hc_11 hu2_b i4_) | assumption) (show zIsA F_ (zrw F_ Mz 105 a1_) (1 : Int) (u2_ + 1) by exact hin_) (by (exact zo_78 hFc_ hc_11 hlt_5 hu2_b i4_))
          · skip
            show zW l m_M_isFit (zn Mz + 0, zw Mz + 0) Mz 33 [some (.ref 81), some (.ref 105), some (.int (Int32.ofInt a1_)), some (.int (Int32.ofInt u1_)), some (.int (Int32.ofInt u2_))] [.int (Int32.ofInt 0)] _
            refine zr_if_eq (pc := 33) (tgt := 40) ⟨(by decide), (by decide)⟩ (by decide) (zdal_p dlC_M_isFit_112 (i := 18) rfl) (fun hc_33 => ?_) (fun hc_33 => ?_)
            · skip
              have hin_ := zIsA_f hia_ (by (exact zo_2223 hFc_ hc_11 hu2_b i4_)) (by (exact i3_)) (by first | exact Or.inl (by omega) | (refine Or.inr (fun q_ => ?_); rw [← hx_] at q_; unfold zIn zLim at q_; omega))
              refine zw_iconst (pc := 40) (v := Int32.ofInt 0) (by decide) (zdal_p dlC_M_isFit_112 (i := 21) rfl) ?_
              refine zw_istore_n (pc := 41) (i := 3) (L2 := [some (.ref 81), some (.ref 105), some (.int (Int32.ofInt a1_)), some (.int (Int32.ofInt 0)), some (.int (Int32.ofInt u2_))]) rfl (by decide) rfl d_M_isFit_41 ?_
              refine zr_iinc (pc := 42) (i := 4) (a := u2_) (n := 1) (L2 := [some (.ref 81), some (.ref 105), some (.int (Int32.ofInt a1_)), some (.int (Int32.ofInt 0)), some (.int (Int32.ofInt (u2_ + 1)))]) rfl (by decide) rfl d_M_isFit_42 ?_
              refine zw_goto (pc := 45) (tgt := 5) (by decide) d_M_isFit_45 ?_
              exact ih_5 0 (by decide) (by decide) (by (decide)) (u2_ + 1) (by (exact zo_74 i3_)) (by (exact zo_75 hF27_ hu2_b i4_)) (show 0 ≤ (u2_ + 1) by first | with_reducible assumption | (exact zo_76 i3_) | assumption) (show (u2_ + 1) ≤ F_ by first | with_reducible assumption | (exact zo_77 hFc_ hc_11 hu2_b i4_) | assumption) (show zIsA F_ (zrw F_ Mz 105 a1_) (0 : Int) (u2_ + 1) by exact hin_) (by (exact zo_78 hFc_ hc_11 hlt_5 hu2_b i4_))
            · skip
              exact absurd hc_33 (by decide)
  exact lp_5 _ 1 (by decide) (by decide) (by (decide)) 0 (by decide) (by decide) (show 0 ≤ (0 : Int) by first | with_reducible assumption | (decide) | assumption) (show (0 : Int) ≤ F_ by first | with_reducible assumption | (exact zo_85) | assumption) (show zIsA F_ (zrw F_ Mz 105 a1_) (1 : Int) (0 : Int) by exact zIsA_0) (Nat.lt_succ_self _)
set_option maxHeartbeats 4000000 in
theorem c_M_usesS (l : Launch) (Mz : zMem) (hW : zMt Mz) (a0_ : Int) (ha0_a : -2147483648 ≤ a0_) (ha0_b : a0_ < 2147483648) (F_ : Nat) (K_ : Nat → Nat → Int) (hA_ : zTA F_ K_) (s_ : zSg) (nm_ : List (Int × (Nat → Int))) (p0_ : zRmk F_ K_ Mz) (p1_ : zSR F_ s_ Mz) (p2_ : zRNi nm_ F_ K_ Mz) : zC l m_M_uses 0 0 [.ref 81, .int (Int32.ofInt a0_)] Mz (zpI [60] [98, 111] Mz (fun v N => ((((0 ≤ a0_ ∧ a0_ < (nm_.length : Int)) ∧ zSR F_ (zpush s_ (zvun nm_ (a0_).toNat)) N ∧ v = ((znzc (zvun nm_ (a0_).toNat) F_ : Nat) : Int)) ∨ (¬ (0 ≤ a0_ ∧ a0_ < (nm_.length : Int)) ∧ zSR F_ s_ N ∧ v = (-1 : Int)))))) := by
  refine zC_of (L0 := [some (.ref 81), some (.int (Int32.ofInt a0_)), none]) md_M_uses (Nat.le_of_ble_eq_true rfl) rfl ?_ zQ0
  have hf : zFr [60] [98, 111] Mz Mz := zFr.rf
  have r_18 := ze_r Mz 81 18
  have r_26 := ze_r Mz 81 26
  obtain ⟨⟨hF1_, hF27_⟩, hAr_⟩ := id hA_
  obtain ⟨hFc_, hKt_⟩ := id p0_
  obtain ⟨⟨hs1_, hs2_⟩, hs3_, hs4_⟩ := id p1_
  have hF64_ : F_ ≤ 64 := by (exact zo_2689 hF27_)
  have hnl_ := p2_.n
  obtain ⟨⟨hn0_, hn8_⟩, -⟩ := id p2_
  refine zw_iload_n (pc := 0) (n := 1) (x := Int32.ofInt a0_) rfl (zdal_p dlD_M_uses_135 (i := 0) rfl) ?_
  refine zr_i2l (pc := 1) ⟨ha0_a, ha0_b⟩ (zdal_p dlD_M_uses_135 (i := 1) rfl) ?_
  refine zw_lconst (pc := 2) (v := Int64.ofInt 0) (by decide) (zdal_p dlD_M_uses_135 (i := 2) rfl) ?_
  refine zw_aload_n (pc := 3) (n := 0) (x := 81) rfl (zdal_p dlD_M_uses_135 (i := 3) rfl) ?_
  refine zr_getI0 hf hW (pc := 4) (by decide) f_M_388 rfl (zdal_p dlD_M_uses_135 (i := 4) rfl) ?_
  refine zw_iconst (pc := 7) (v := Int32.ofInt 1) (by decide) (zdal_p dlD_M_uses_135 (i := 5) rfl) ?_
  refine zr_isub (pc := 8) (zdal_p dlD_M_uses_135 (i := 6) rfl) ?_
  refine zr_i2l (pc := 9) ⟨(by (exact zo_600 hn0_)), (by (exact zo_826 hn8_))⟩ (zdal_p dlD_M_uses_135 (i := 7) rfl) ?_
  refine zr_callS hf.x (pc := 10) [.long (Int64.ofInt a0_), .long (Int64.ofInt 0), .long (Int64.ofInt ((ze Mz 81 18) - 1))] [] l_M_131 (c_M_isIn l Mz (hf.w hW) a0_ (by (exact zo_282 ha0_a)) (by (exact zo_283 ha0_b)) 0 (by decide) (by decide) ((ze Mz 81 18) - 1) (by (exact zo_827 hn0_)) (by (exact zo_828 hn8_))) rfl rfl (by decide) (Nat.le_of_ble_eq_true rfl) (zdal_p dlD_M_uses_135 (i := 8) rfl) ?_
  rintro _ N1_ ⟨v2_, rfl, ⟨hv2_a, hv2_b⟩, hsN1_, hp0_N1_⟩
  obtain rfl := hsN1_.eq.symm
  replace hp0_N1_ : ((v2_ = 1 ∧ 0 ≤ a0_ ∧ a0_ ≤ ((ze Mz 81 18) - 1)) ∨ (v2_ = 0 ∧ (a0_ < 0 ∨ ((ze Mz 81 18) - 1) < a0_))) := hp0_N1_
  rcases hp0_N1_ with ⟨rfl, ha10_0_hp0_N1_, ha10_1_hp0_N1_⟩ | ⟨rfl, ha10_0_hp0_N1_⟩
  · skip
    show zW l m_M_uses (zn Mz + 0, zw Mz + 0) Mz 13 [some (.ref 81), some (.int (Int32.ofInt a0_)), none] [.int (Int32.ofInt 1)] _
    refine zr_if_ne (pc := 13) (tgt := 18) ⟨(by decide), (by decide)⟩ (by decide) (zdal_p dlD_M_uses_135 (i := 9) rfl) (fun hc_13 => ?_) (fun hc_13 => ?_)
    · skip
      refine zw_aload_n (pc := 18) (n := 0) (x := 81) rfl (zdal_p dlD_M_uses_135 (i := 12) rfl) ?_
      refine zr_callV (hf.w hW) hf.x (pc := 19) [] [] l_M_481 (c_M_actS l Mz (hf.w hW) F_ hF64_ s_ p1_) rfl rfl rfl (by decide) (Nat.le_of_ble_eq_true rfl) (zdal_p dlD_M_uses_135 (i := 13) rfl) ?_
      rintro _ N3_ ⟨rfl, hsN3_, hp0_N3_⟩
      replace hp0_N3_ : zSA F_ s_ N3_ := hp0_N3_
      have hf_N3_ : zFr [60] [98, 111] Mz N3_ := hf.tr hsN3_ (by decide) (by decide)
      have e18_N3_ : ze N3_ 81 18 = ze Mz 81 18 := hsN3_.e (by decide)
      have e26_N3_ : ze N3_ 81 26 = ze Mz 81 26 := hsN3_.e (by decide)
      have c5_ : zRmk F_ K_ N3_ := zRmk.fr hsN3_ p0_ (by decide) (by decide)
      have c6_ : zRNi nm_ F_ K_ N3_ := zRNi.fr hsN3_ p2_ (by decide) (by decide)
      show zW l m_M_uses (zn Mz + 0, zw Mz + 0) N3_ 22 [some (.ref 81), some (.int (Int32.ofInt a0_)), none] [] _
      refine zw_iconst (pc := 22) (v := Int32.ofInt 0) (by decide) (zdal_p dlD_M_uses_135 (i := 14) rfl) ?_
      refine zw_istore_n (pc := 23) (i := 2) (L2 := [some (.ref 81), some (.int (Int32.ofInt a0_)), some (.int (Int32.ofInt 0))]) rfl (by decide) rfl (zdal_p dlD_M_uses_135 (i := 15) rfl) ?_
      have lp_24 : ∀ (n : Nat) (u7_ : Int) (hu7_a : -2147483648 ≤ u7_) (hu7_b : u7_ < 2147483648) (N8_ : zMem) (hs9_ : zFr [] [98] N3_ N8_) (i10_ : 0 ≤ u7_) (i11_ : u7_ ≤ F_) (i12_ : (∀ k : Nat, (k : Int) < u7_ → zg N8_ 98 k = (zvun nm_ (a0_).toNat) k)), (F_ - u7_).toNat < n → zW l m_M_uses (zn Mz + 0, zw Mz + 0) N8_ 24 [some (.ref 81), some (.int (Int32.ofInt a0_)), some (.int (Int32.ofInt u7_))] [] (zpI [60] [98, 111] Mz (fun v N => ((((0 ≤ a0_ ∧ a0_ < (nm_.length : Int)) ∧ zSR F_ (zpush s_ (zvun nm_ (a0_).toNat)) N ∧ v = ((znzc (zvun nm_ (a0_).toNat) F_ : Nat) : Int)) ∨ (¬ (0 ≤ a0_ ∧ a0_ < (nm_.length : Int)) ∧ zSR F_ s_ N ∧ v = (-1 : Int)))))) := by
        intro n
        induction n with
        | zero =>
          intro u7_ hu7_a hu7_b N8_ hs9_ i10_ i11_ i12_ h0
          exact absurd h0 (Nat.not_lt_zero _)
        | succ n ih_24 =>
          intro u7_ hu7_a hu7_b N8_ hs9_ i10_ i11_ i12_ hlt_24
          have hf_N8_ : zFr [60] [98, 111] Mz N8_ := hf_N3_.tr hs9_ (by decide) (by decide)
          have e18_N8_ : ze N8_ 81 18 = ze N3_ 81 18 := hs9_.e (by decide)
          have e26_N8_ : ze N8_ 81 26 = ze N3_ 81 26 := hs9_.e (by decide)
          have c13_ : zRmk F_ K_ N8_ := zRmk.fr hs9_ c5_ (by decide) (by decide)
          have c14_ : zRNi nm_ F_ K_ N8_ := zRNi.fr hs9_ c6_ (by decide) (by decide)
          have c15_ : zSA F_ s_ N8_ := zSA.fr hs9_ hp0_N3_ (by decide) (by decide)
          have hui_ := (show (∀ k : Nat, (k : Int) < u7_ → zg N8_ 98 k = (zvun nm_ (a0_).toNat) k) by first | with_reducible assumption | assumption)
          refine zw_iload_n (pc := 24) (n := 2) (x := Int32.ofInt u7_) rfl (zdal_p dlD_M_uses_135 (i := 16) rfl) ?_
          refine zw_aload_n (pc := 25) (n := 0) (x := 81) rfl (zdal_p dlD_M_uses_135 (i := 17) rfl) ?_
          refine zr_getI0 hf_N8_ hW (pc := 26) (by decide) f_M_235 rfl (zdal_p dlD_M_uses_135 (i := 18) rfl) ?_
          refine zr_icmp_ge (pc := 29) (tgt := 55) ⟨hu7_a, hu7_b⟩ ⟨(ze_r Mz 81 26).1, (ze_r Mz 81 26).2⟩ (by decide) (zdal_p dlD_M_uses_135 (i := 19) rfl) (fun hc_29 => ?_) (fun hc_29 => ?_)
          · skip
            refine zw_aload_n (pc := 55) (n := 0) (x := 81) rfl (zdal_p dlD_M_uses_136 (i := 10) rfl) ?_
            refine zr_callV (hf_N8_.w hW) hf_N8_.x (pc := 56) [] [] l_M_484 (c_M_partsS l N8_ (hf_N8_.w hW) F_ K_ hA_ c13_) rfl rfl rfl (by decide) (Nat.le_of_ble_eq_true rfl) (zdal_p dlD_M_uses_136 (i := 11) rfl) ?_
            rintro _ N16_ ⟨v17_, rfl, ⟨hv17_a, hv17_b⟩, hsN16_, hp0_N16_⟩
            obtain rfl := hsN16_.eq.symm
            replace hp0_N16_ : v17_ = ((znzc (zrw F_ N8_ 98 0) F_ : Nat) : Int) := hp0_N16_
            show zW l m_M_uses (zn Mz + 0, zw Mz + 0) N8_ 59 [some (.ref 81), some (.int (Int32.ofInt a0_)), some (.int (Int32.ofInt u7_))] [.int (Int32.ofInt v17_)] _
            have hv_ := hp0_N16_
            have hcv_ : ∀ k_ : Nat, k_ < F_ → zrw F_ N8_ 98 0 k_ = (zvun nm_ (a0_).toNat) k_ := fun k_ hk_ => by unfold zrw; rw [if_pos hk_, show (0 : Int).toNat + k_ = k_ by omega]; exact hui_ k_ (by (exact zo_110 hF27_ hFc_ hc_29 hk_ i10_))
            have hw_ := hv_.trans (congrArg (fun n_ : Nat => (n_ : Int)) (znzc_c F_ hcv_))
            exact zr_iret (pc := 59) (ty := .int) rfl rfl ⟨by (exact hv17_a), by (exact hv17_b)⟩ hf_N8_ (show (((0 ≤ a0_ ∧ a0_ < (nm_.length : Int)) ∧ zSR F_ (zpush s_ (zvun nm_ (a0_).toNat)) N8_ ∧ v17_ = ((znzc (zvun nm_ (a0_).toNat) F_ : Nat) : Int)) ∨ (¬ (0 ≤ a0_ ∧ a0_ < (nm_.length : Int)) ∧ zSR F_ s_ N8_ ∧ v17_ = (-1 : Int))) by exact Or.inl ⟨by omega, c15_.ps (fun k_ hk_ => hui_ k_ (by (exact zo_110 hF27_ hFc_ hc_29 hk_ i10_))), hw_⟩) (zdal_p dlD_M_uses_136 (i := 12) rfl)
          · skip
            refine zw_aload_n (pc := 32) (n := 0) (x := 81) rfl (zdal_p dlD_M_uses_135 (i := 20) rfl) ?_
            refine zr_getF (r := 98) (hf_N8_.w hW) (pc := 33) f_M_66 rfl (zh_98 (hf_N8_.w hW)).1 (zdal_p dlD_M_uses_135 (i := 21) rfl) ?_
            refine zw_iload_n (pc := 36) (n := 2) (x := Int32.ofInt u7_) rfl (zdal_p dlD_M_uses_135 (i := 22) rfl) ?_
            refine zw_aload_n (pc := 37) (n := 0) (x := 81) rfl (zdal_p dlD_M_uses_135 (i := 23) rfl) ?_
            refine zr_getF (r := 104) (hf_N8_.w hW) (pc := 38) f_M_84 rfl (zh_104 (hf_N8_.w hW)).1 (zdal_p dlD_M_uses_136 (i := 0) rfl) ?_
            refine zw_bipush (pc := 41) (v := Int32.ofInt 64) (by decide) (zdal_p dlD_M_uses_136 (i := 1) rfl) ?_
            refine zw_iload_n (pc := 43) (n := 1) (x := Int32.ofInt a0_) rfl (zdal_p dlD_M_uses_136 (i := 2) rfl) ?_
            refine zr_imul (pc := 44) (zdal_p dlD_M_uses_136 (i := 3) rfl) ?_
            refine zw_iload_n (pc := 45) (n := 2) (x := Int32.ofInt u7_) rfl (zdal_p dlD_M_uses_136 (i := 4) rfl) ?_
            refine zr_iadd (pc := 46) (zdal_p dlD_M_uses_136 (i := 5) rfl) ?_
            refine zr_laldn (pc := 47) (zh_104 (hf_N8_.w hW)).2 (by decide) (by (exact zo_529 ha10_0_hp0_N1_ i10_)) (by omega) (zdal_p dlD_M_uses_136 (i := 6) rfl) (fun v18_ hv18_ hv18_a hv18_b => ?_)
            rw [hf_N8_.jg (by decide) (by decide)] at hv18_
            have hat_ := (p2_.at (k := (a0_).toNat) (by omega)).1
            rw [show (64 : Int) * (((a0_).toNat : Nat) : Int) = 64 * a0_ by omega] at hat_
            have hx_ := (zrw_at (F := F_) (k := (u7_).toNat) (e := 64 * a0_) (by (exact zo_73 hFc_ hc_29 hu7_b i10_ i11_)) (by (exact zo_2626 ha10_0_hp0_N1_)) hv18_ (by omega)).trans (congrFun hat_ _)
            refine zr_last (pc := 48) (zh_98 (hf_N8_.w hW)).2 (by decide) (by decide) (by (exact i10_)) (by (exact zo_70 hF27_ hu7_b i11_)) (zdal_p dlD_M_uses_136 (i := 7) rfl) (fun N19_ hN19_ hsN19_ => ?_)
            have hf_N19_ : zFr [60] [98, 111] Mz N19_ := hf_N8_.tr hsN19_ (by decide) (by decide)
            have hb0_N19_ : zFr [] [98] N3_ N19_ := hs9_.tr hsN19_ (by decide) (by decide)
            have e18_N19_ : ze N19_ 81 18 = ze N8_ 81 18 := hsN19_.e (by decide)
            have e26_N19_ : ze N19_ 81 26 = ze N8_ 81 26 := hsN19_.e (by decide)
            have c20_ : zRmk F_ K_ N19_ := zRmk.fr hsN19_ c13_ (by decide) (by decide)
            have c21_ : zRNi nm_ F_ K_ N19_ := zRNi.fr hsN19_ c14_ (by decide) (by decide)
            have c22_ : zSA F_ s_ N19_ := zSA.fr hsN19_ c15_ (by decide) (by decide)
            have hui2_ : (∀ k : Nat, (k : Int) < u7_ + 1 → zg N19_ 98 k = (zvun nm_ (a0_).toNat) k) := fun k_ hk_ => by by_cases g_ : (k_ : Int) = u7_; (rw [show k_ = (u7_).toNat by (exact zo_128 g_ hF27_ hk_ hu7_b i10_ i11_), zs_getJ hN19_ ⟨by (exact hv18_a), by (exact hv18_b)⟩]; exact hx_); (rw [zs_othJ hN19_ (by (exact zo_148 i10_ g_))]; exact hui_ k_ (by (exact zo_130 hk_ g_)))
            refine zr_iinc (pc := 49) (i := 2) (a := u7_) (n := 1) (L2 := [some (.ref 81), some (.int (Int32.ofInt a0_)), some (.int (Int32.ofInt (u7_ + 1)))]) rfl (by decide) rfl (zdal_p dlD_M_uses_136 (i := 8) rfl) ?_
            refine zw_goto (pc := 52) (tgt := 24) (by decide) (zdal_p dlD_M_uses_136 (i := 9) rfl) ?_
            exact ih_24 (u7_ + 1) (by (exact zo_74 i10_)) (by (exact zo_75 hF27_ hu7_b i11_)) N19_ hb0_N19_ (show 0 ≤ (u7_ + 1) by first | with_reducible assumption | (exact zo_76 i10_) | assumption) (show (u7_ + 1) ≤ F_ by first | with_reducible assumption | (exact zo_77 hFc_ hc_29 hu7_b i11_) | assumption) (show (∀ k : Nat, (k : Int) < (u7_ + 1) → zg N19_ 98 k = (zvun nm_ (a0_).toNat) k) by exact hui2_) (by (exact zo_78 hFc_ hc_29 hlt_24 hu7_b i11_))
      exact lp_24 _ 0 (by decide) (by decide) N3_ zFr.rf (show 0 ≤ (0 : Int) by first | with_reducible assumption | (decide) | assumption) (show (0 : Int) ≤ F_ by first | with_reducible assumption | (exact zo_85) | assumption) (show (∀ k : Nat, (k : Int) < (0 : Int) → zg N3_ 98 k = (zvun nm_ (a0_).toNat) k) by exact fun k_ hk_ => absurd hk_ (by (exact zo_131))) (Nat.lt_succ_self _)
    · skip
      exact absurd hc_13 (by decide)
  · skip
    show zW l m_M_uses (zn Mz + 0, zw Mz + 0) Mz 13 [some (.ref 81), some (.int (Int32.ofInt a0_)), none] [.int (Int32.ofInt 0)] _
    refine zr_if_ne (pc := 13) (tgt := 18) ⟨(by decide), (by decide)⟩ (by decide) (zdal_p dlD_M_uses_135 (i := 9) rfl) (fun hc_13 => ?_) (fun hc_13 => ?_)
    · skip
      exact absurd hc_13 (by decide)
    · skip
      refine zw_iconst (pc := 16) (v := Int32.ofInt (-1)) (by decide) (zdal_p dlD_M_uses_135 (i := 10) rfl) ?_
      exact zr_iret (pc := 17) (ty := .int) rfl rfl ⟨by (decide), by (decide)⟩ hf (show (((0 ≤ a0_ ∧ a0_ < (nm_.length : Int)) ∧ zSR F_ (zpush s_ (zvun nm_ (a0_).toNat)) Mz ∧ ((-1)) = ((znzc (zvun nm_ (a0_).toNat) F_ : Nat) : Int)) ∨ (¬ (0 ≤ a0_ ∧ a0_ < (nm_.length : Int)) ∧ zSR F_ s_ Mz ∧ ((-1)) = (-1 : Int))) by exact Or.inr ⟨by omega, p1_, rfl⟩) (zdal_p dlD_M_uses_135 (i := 11) rfl)
set_option maxHeartbeats 4000000 in
theorem c_M_growsS (l : Launch) (Mz : zMem) (hW : zMt Mz) (a0_ : Int) (ha0_a : -2147483648 ≤ a0_) (ha0_b : a0_ < 2147483648) (a1_ : Int) (ha1_a : -2147483648 ≤ a1_) (ha1_b : a1_ < 2147483648) (a2_ : Int) (ha2_a : -2147483648 ≤ a2_) (ha2_b : a2_ < 2147483648) (F_ : Nat) (K_ : Nat → Nat → Int) (hA_ : zTA F_ K_) (s_ : zSg) (p0_ : zRmk F_ K_ Mz) (p1_ : zSR F_ s_ Mz) (p2_ : zSB F_ s_) : zC l m_M_grows 0 0 [.ref 81, .int (Int32.ofInt a0_), .int (Int32.ofInt a1_), .int (Int32.ofInt a2_)] Mz (zpJ [60] [98, 105, 111] Mz (fun v N => ((((((-9 ≤ a0_ ∧ a0_ ≤ 9) ∧ (-999 ≤ a1_ ∧ a1_ ≤ 999) ∧ 0 ≤ a2_ ∧ a2_ < (F_ : Int)) ∧ zfit F_ K_ (zgrw s_.1 a0_ a1_ a2_)) ∧ zSR F_ (zpush s_ (zgrw s_.1 a0_ a1_ a2_)) N ∧ v = (zgrw s_.1 a0_ a1_ a2_) (a2_).toNat) ∨ (¬ (((-9 ≤ a0_ ∧ a0_ ≤ 9) ∧ (-999 ≤ a1_ ∧ a1_ ≤ 999) ∧ 0 ≤ a2_ ∧ a2_ < (F_ : Int)) ∧ zfit F_ K_ (zgrw s_.1 a0_ a1_ a2_)) ∧ zSR F_ s_ N ∧ v = (-9223372036854775808 : Int)))))) := by
  refine zC_of (L0 := [some (.ref 81), some (.int (Int32.ofInt a0_)), some (.int (Int32.ofInt a1_)), some (.int (Int32.ofInt a2_)), none]) md_M_grows (Nat.le_of_ble_eq_true rfl) rfl ?_ zQ0
  have hf : zFr [60] [98, 105, 111] Mz Mz := zFr.rf
  have r_26 := ze_r Mz 81 26
  obtain ⟨⟨hF1_, hF27_⟩, hAr_⟩ := id hA_
  obtain ⟨hFc_, hKt_⟩ := id p0_
  obtain ⟨⟨hs1_, hs2_⟩, hs3_, hs4_⟩ := id p1_
  have hF64_ : F_ ≤ 64 := by (exact zo_2689 hF27_)
  refine zw_aload_n (pc := 0) (n := 0) (x := 81) rfl (zdal_p dlD_M_grows_137 (i := 0) rfl) ?_
  refine zw_iload_n (pc := 1) (n := 3) (x := Int32.ofInt a2_) rfl (zdal_p dlD_M_grows_137 (i := 1) rfl) ?_
  refine zr_callV (hf.w hW) hf.x (pc := 2) [.int (Int32.ofInt a2_)] [] l_M_414 (c_M_isSortF l Mz (hf.w hW) a2_ ha2_a ha2_b F_ K_ hA_ p0_) rfl rfl rfl (by decide) (Nat.le_of_ble_eq_true rfl) (zdal_p dlD_M_grows_137 (i := 2) rfl) ?_
  rintro _ N1_ ⟨v2_, rfl, ⟨hv2_a, hv2_b⟩, hsN1_, hp0_N1_⟩
  obtain rfl := hsN1_.eq.symm
  replace hp0_N1_ : ((v2_ = 1 ∧ 0 ≤ a2_ ∧ a2_ < (F_ : Int)) ∨ (v2_ = 0 ∧ (a2_ < 0 ∨ (F_ : Int) ≤ a2_))) := hp0_N1_
  rcases hp0_N1_ with ⟨rfl, ha2_0_hp0_N1_, ha2_1_hp0_N1_⟩ | ⟨rfl, ha2_0_hp0_N1_⟩
  · skip
    show zW l m_M_grows (zn Mz + 0, zw Mz + 0) Mz 5 [some (.ref 81), some (.int (Int32.ofInt a0_)), some (.int (Int32.ofInt a1_)), some (.int (Int32.ofInt a2_)), none] [.int (Int32.ofInt 1)] _
    refine zr_if_eq (pc := 5) (tgt := 36) ⟨(by decide), (by decide)⟩ (by decide) (zdal_p dlD_M_grows_137 (i := 3) rfl) (fun hc_5 => ?_) (fun hc_5 => ?_)
    · skip
      exact absurd hc_5 (by decide)
    · skip
      refine zw_iload_n (pc := 8) (n := 1) (x := Int32.ofInt a0_) rfl (zdal_p dlD_M_grows_137 (i := 4) rfl) ?_
      refine zr_i2l (pc := 9) ⟨ha0_a, ha0_b⟩ (zdal_p dlD_M_grows_137 (i := 5) rfl) ?_
      refine zr_ldc2 (pc := 10) (n := (-9)) (by decide) k_M_523 (zdal_p dlD_M_grows_137 (i := 6) rfl) ?_
      refine zr_ldc2 (pc := 13) (n := 9) (by decide) k_M_525 (zdal_p dlD_M_grows_137 (i := 7) rfl) ?_
      refine zr_callS hf.x (pc := 16) [.long (Int64.ofInt a0_), .long (Int64.ofInt ((-9))), .long (Int64.ofInt 9)] [] l_M_131 (c_M_isIn l Mz (hf.w hW) a0_ (by (exact zo_282 ha0_a)) (by (exact zo_283 ha0_b)) ((-9)) (by decide) (by decide) 9 (by decide) (by decide)) rfl rfl (by decide) (Nat.le_of_ble_eq_true rfl) (zdal_p dlD_M_grows_137 (i := 8) rfl) ?_
      rintro _ N3_ ⟨v4_, rfl, ⟨hv4_a, hv4_b⟩, hsN3_, hp0_N3_⟩
      obtain rfl := hsN3_.eq.symm
      replace hp0_N3_ : ((v4_ = 1 ∧ ((-9)) ≤ a0_ ∧ a0_ ≤ 9) ∨ (v4_ = 0 ∧ (a0_ < ((-9)) ∨ 9 < a0_))) := hp0_N3_
      rcases hp0_N3_ with ⟨rfl, ha16_0_hp0_N3_, ha16_1_hp0_N3_⟩ | ⟨rfl, ha16_0_hp0_N3_⟩
      · skip
        show zW l m_M_grows (zn Mz + 0, zw Mz + 0) Mz 19 [some (.ref 81), some (.int (Int32.ofInt a0_)), some (.int (Int32.ofInt a1_)), some (.int (Int32.ofInt a2_)), none] [.int (Int32.ofInt 1)] _
        refine zr_if_eq (pc := 19) (tgt := 36) ⟨(by decide), (by decide)⟩ (by decide) (zdal_p dlD_M_grows_137 (i := 9) rfl) (fun hc_19 => ?_) (fun hc_19 => ?_)
        · skip
          exact absurd hc_19 (by decide)
        · skip
          refine zw_iload_n (pc := 22) (n := 2) (x := Int32.ofInt a1_) rfl (zdal_p dlD_M_grows_137 (i := 10) rfl) ?_
          refine zr_i2l (pc := 23) ⟨ha1_a, ha1_b⟩ (zdal_p dlD_M_grows_137 (i := 11) rfl) ?_
          refine zr_ldc2 (pc := 24) (n := (-999)) (by decide) k_M_527 (zdal_p dlD_M_grows_137 (i := 12) rfl) ?_
          refine zr_ldc2 (pc := 27) (n := 999) (by decide) k_M_529 (zdal_p dlD_M_grows_137 (i := 13) rfl) ?_
          refine zr_callS hf.x (pc := 30) [.long (Int64.ofInt a1_), .long (Int64.ofInt ((-999))), .long (Int64.ofInt 999)] [] l_M_131 (c_M_isIn l Mz (hf.w hW) a1_ (by (exact zo_282 ha1_a)) (by (exact zo_283 ha1_b)) ((-999)) (by decide) (by decide) 999 (by decide) (by decide)) rfl rfl (by decide) (Nat.le_of_ble_eq_true rfl) (zdal_p dlD_M_grows_137 (i := 14) rfl) ?_
          rintro _ N5_ ⟨v6_, rfl, ⟨hv6_a, hv6_b⟩, hsN5_, hp0_N5_⟩
          obtain rfl := hsN5_.eq.symm
          replace hp0_N5_ : ((v6_ = 1 ∧ ((-999)) ≤ a1_ ∧ a1_ ≤ 999) ∨ (v6_ = 0 ∧ (a1_ < ((-999)) ∨ 999 < a1_))) := hp0_N5_
          rcases hp0_N5_ with ⟨rfl, ha30_0_hp0_N5_, ha30_1_hp0_N5_⟩ | ⟨rfl, ha30_0_hp0_N5_⟩
          · skip
            show zW l m_M_grows (zn Mz + 0, zw Mz + 0) Mz 33 [some (.ref 81), some (.int (Int32.ofInt a0_)), some (.int (Int32.ofInt a1_)), some (.int (Int32.ofInt a2_)), none] [.int (Int32.ofInt 1)] _
            refine zr_if_ne (pc := 33) (tgt := 40) ⟨(by decide), (by decide)⟩ (by decide) (zdal_p dlD_M_grows_137 (i := 15) rfl) (fun hc_33 => ?_) (fun hc_33 => ?_)
            · skip
              refine zw_iconst (pc := 40) (v := Int32.ofInt 0) (by decide) (zdal_p dlD_M_grows_137 (i := 18) rfl) ?_
              refine zw_istore (pc := 41) (i := 4) (L2 := [some (.ref 81), some (.int (Int32.ofInt a0_)), some (.int (Int32.ofInt a1_)), some (.int (Int32.ofInt a2_)), some (.int (Int32.ofInt 0))]) (by decide) rfl (zdal_p dlD_M_grows_137 (i := 19) rfl) ?_
              have lp_43 : ∀ (n : Nat) (u7_ : Int) (hu7_a : -2147483648 ≤ u7_) (hu7_b : u7_ < 2147483648) (N8_ : zMem) (hs9_ : zFr [] [105] Mz N8_) (i10_ : 0 ≤ u7_) (i11_ : u7_ ≤ F_) (i12_ : (∀ k : Nat, (k : Int) < u7_ → zg N8_ 105 k = (zgrw s_.1 a0_ a1_ a2_) k)), (F_ - u7_).toNat < n → zW l m_M_grows (zn Mz + 0, zw Mz + 0) N8_ 43 [some (.ref 81), some (.int (Int32.ofInt a0_)), some (.int (Int32.ofInt a1_)), some (.int (Int32.ofInt a2_)), some (.int (Int32.ofInt u7_))] [] (zpJ [60] [98, 105, 111] Mz (fun v N => ((((((-9 ≤ a0_ ∧ a0_ ≤ 9) ∧ (-999 ≤ a1_ ∧ a1_ ≤ 999) ∧ 0 ≤ a2_ ∧ a2_ < (F_ : Int)) ∧ zfit F_ K_ (zgrw s_.1 a0_ a1_ a2_)) ∧ zSR F_ (zpush s_ (zgrw s_.1 a0_ a1_ a2_)) N ∧ v = (zgrw s_.1 a0_ a1_ a2_) (a2_).toNat) ∨ (¬ (((-9 ≤ a0_ ∧ a0_ ≤ 9) ∧ (-999 ≤ a1_ ∧ a1_ ≤ 999) ∧ 0 ≤ a2_ ∧ a2_ < (F_ : Int)) ∧ zfit F_ K_ (zgrw s_.1 a0_ a1_ a2_)) ∧ zSR F_ s_ N ∧ v = (-9223372036854775808 : Int)))))) := by
                intro n
                induction n with
                | zero =>
                  intro u7_ hu7_a hu7_b N8_ hs9_ i10_ i11_ i12_ h0
                  exact absurd h0 (Nat.not_lt_zero _)
                | succ n ih_43 =>
                  intro u7_ hu7_a hu7_b N8_ hs9_ i10_ i11_ i12_ hlt_43
                  have hf_N8_ : zFr [60] [98, 105, 111] Mz N8_ := hf.tr hs9_ (by decide) (by decide)
                  have e26_N8_ : ze N8_ 81 26 = ze Mz 81 26 := hs9_.e (by decide)
                  have c13_ : zRmk F_ K_ N8_ := zRmk.fr hs9_ p0_ (by decide) (by decide)
                  have c14_ : zSR F_ s_ N8_ := zSR.fr hs9_ p1_ (by decide) (by decide)
                  have hgi_ := (show (∀ k : Nat, (k : Int) < u7_ → zg N8_ 105 k = (zgrw s_.1 a0_ a1_ a2_) k) by first | with_reducible assumption | assumption)
                  refine zw_iload (pc := 43) (i := 4) (x := Int32.ofInt u7_) rfl (zdal_p dlD_M_grows_137 (i := 20) rfl) ?_
                  refine zw_aload_n (pc := 45) (n := 0) (x := 81) rfl (zdal_p dlD_M_grows_137 (i := 21) rfl) ?_
                  refine zr_getI0 hf_N8_ hW (pc := 46) (by decide) f_M_235 rfl (zdal_p dlD_M_grows_137 (i := 22) rfl) ?_
                  refine zr_icmp_ge (pc := 49) (tgt := 88) ⟨hu7_a, hu7_b⟩ ⟨(ze_r Mz 81 26).1, (ze_r Mz 81 26).2⟩ (by decide) (zdal_p dlD_M_grows_137 (i := 23) rfl) (fun hc_49 => ?_) (fun hc_49 => ?_)
                  · skip
                    refine zw_aload_n (pc := 88) (n := 0) (x := 81) rfl (zdal_p dlD_M_grows_138 (i := 21) rfl) ?_
                    refine zw_aload_n (pc := 89) (n := 0) (x := 81) rfl (zdal_p dlD_M_grows_138 (i := 22) rfl) ?_
                    refine zr_getF (r := 105) (hf_N8_.w hW) (pc := 90) f_M_87 rfl (zh_105 (hf_N8_.w hW)).1 (zdal_p dlD_M_grows_138 (i := 23) rfl) ?_
                    refine zw_iconst (pc := 93) (v := Int32.ofInt 0) (by decide) (zdal_p dlD_M_grows_139 (i := 0) rfl) ?_
                    refine zr_callV (hf_N8_.w hW) hf_N8_.x (pc := 94) [.ref 105, .int (Int32.ofInt 0)] [] l_M_271 (c_M_isFit_105S l N8_ (hf_N8_.w hW) 0 (by decide) (by decide) F_ K_ hA_ c13_ (show 0 ≤ 0 by first | with_reducible assumption | (decide) | assumption) (show 0 ≤ 0 by first | with_reducible assumption | (decide) | assumption)) rfl rfl rfl (by decide) (Nat.le_of_ble_eq_true rfl) (zdal_p dlD_M_grows_139 (i := 1) rfl) ?_
                    rintro _ N15_ ⟨v16_, rfl, ⟨hv16_a, hv16_b⟩, hsN15_, ⟨hp0_N15_, hp1_N15_⟩⟩
                    obtain rfl := hsN15_.eq.symm
                    show zW l m_M_grows (zn Mz + 0, zw Mz + 0) N8_ 97 [some (.ref 81), some (.int (Int32.ofInt a0_)), some (.int (Int32.ofInt a1_)), some (.int (Int32.ofInt a2_)), some (.int (Int32.ofInt u7_))] [.int (Int32.ofInt v16_)] _
                    have hif_ := hp1_N15_
                    have hgf_ : (∀ k : Nat, k < F_ → zg N8_ 105 k = (zgrw s_.1 a0_ a1_ a2_) k) := fun k_ hk_ => hgi_ k_ (by (exact zo_110 hF27_ hFc_ hc_49 hk_ i10_))
                    have hgc_ : ∀ k_ : Nat, k_ < F_ → zrw F_ N8_ 105 0 k_ = (zgrw s_.1 a0_ a1_ a2_) k_ := fun k_ hk_ => by unfold zrw; rw [if_pos hk_, show (0 : Int).toNat + k_ = k_ by omega]; exact hgf_ k_ hk_
                    have hgb_ := zgrw_b (n := a0_) (m := a1_) (i := a2_) p2_.1 (by (exact ha16_0_hp0_N3_)) (by (exact ha16_1_hp0_N3_)) (by (exact ha30_0_hp0_N5_)) (by (exact ha30_1_hp0_N5_))
                    have hgv_ : ∀ k_, k_ < F_ → -10000000000000 ≤ zrw F_ N8_ 105 0 k_ ∧ zrw F_ N8_ 105 0 k_ ≤ 10000000000000 := fun k_ hk_ => by rw [hgc_ k_ hk_]; exact hgb_ k_ hk_
                    have hbd_ : zbd F_ K_ (zrw F_ N8_ 105 0) := fun k_ hk_ => by have h1_ := hgv_ k_ hk_; have h2_ := zmq_b (j := k_) hF27_ (fun i_ hi_ => hAr_.1 i_ k_ hi_ hk_) hgv_; omega
                    have hfi_ := hif_ hbd_
                    refine zr_if_ne (pc := 97) (tgt := 104) ⟨hv16_a, hv16_b⟩ (by decide) (zdal_p dlD_M_grows_139 (i := 2) rfl) (fun hc_97 => ?_) (fun hc_97 => ?_)
                    · skip
                      refine zw_aload_n (pc := 104) (n := 0) (x := 81) rfl (zdal_p dlD_M_grows_139 (i := 5) rfl) ?_
                      refine zr_callV (hf_N8_.w hW) hf_N8_.x (pc := 105) [] [] l_M_481 (c_M_actS l N8_ (hf_N8_.w hW) F_ hF64_ s_ c14_) rfl rfl rfl (by decide) (Nat.le_of_ble_eq_true rfl) (zdal_p dlD_M_grows_139 (i := 6) rfl) ?_
                      rintro _ N17_ ⟨rfl, hsN17_, hp0_N17_⟩
                      replace hp0_N17_ : zSA F_ s_ N17_ := hp0_N17_
                      have hf_N17_ : zFr [60] [98, 105, 111] Mz N17_ := hf_N8_.tr hsN17_ (by decide) (by decide)
                      have e26_N17_ : ze N17_ 81 26 = ze N8_ 81 26 := hsN17_.e (by decide)
                      have c19_ : zRmk F_ K_ N17_ := zRmk.fr hsN17_ c13_ (by decide) (by decide)
                      show zW l m_M_grows (zn Mz + 0, zw Mz + 0) N17_ 108 [some (.ref 81), some (.int (Int32.ofInt a0_)), some (.int (Int32.ofInt a1_)), some (.int (Int32.ofInt a2_)), some (.int (Int32.ofInt u7_))] [] _
                      have hgf_ : (∀ k : Nat, k < F_ → zg N17_ 105 k = (zgrw s_.1 a0_ a1_ a2_) k) := fun k_ hk_ => (hsN17_.jg (by decide) (by decide) k_).trans (hgf_ k_ hk_)
                      refine zw_iconst (pc := 108) (v := Int32.ofInt 0) (by decide) (zdal_p dlD_M_grows_139 (i := 7) rfl) ?_
                      refine zw_istore (pc := 109) (i := 4) (L2 := [some (.ref 81), some (.int (Int32.ofInt a0_)), some (.int (Int32.ofInt a1_)), some (.int (Int32.ofInt a2_)), some (.int (Int32.ofInt 0))]) (by decide) rfl (zdal_p dlD_M_grows_139 (i := 8) rfl) ?_
                      have lp_111 : ∀ (n : Nat) (u20_ : Int) (hu20_a : -2147483648 ≤ u20_) (hu20_b : u20_ < 2147483648) (N21_ : zMem) (hs22_ : zFr [] [98] N17_ N21_) (i23_ : 0 ≤ u20_) (i24_ : u20_ ≤ F_) (i25_ : (∀ k : Nat, (k : Int) < u20_ → zg N21_ 98 k = (zgrw s_.1 a0_ a1_ a2_) k)) (i26_ : (∀ k : Nat, k < F_ → zg N21_ 105 k = (zgrw s_.1 a0_ a1_ a2_) k)), (F_ - u20_).toNat < n → zW l m_M_grows (zn Mz + 0, zw Mz + 0) N21_ 111 [some (.ref 81), some (.int (Int32.ofInt a0_)), some (.int (Int32.ofInt a1_)), some (.int (Int32.ofInt a2_)), some (.int (Int32.ofInt u20_))] [] (zpJ [60] [98, 105, 111] Mz (fun v N => ((((((-9 ≤ a0_ ∧ a0_ ≤ 9) ∧ (-999 ≤ a1_ ∧ a1_ ≤ 999) ∧ 0 ≤ a2_ ∧ a2_ < (F_ : Int)) ∧ zfit F_ K_ (zgrw s_.1 a0_ a1_ a2_)) ∧ zSR F_ (zpush s_ (zgrw s_.1 a0_ a1_ a2_)) N ∧ v = (zgrw s_.1 a0_ a1_ a2_) (a2_).toNat) ∨ (¬ (((-9 ≤ a0_ ∧ a0_ ≤ 9) ∧ (-999 ≤ a1_ ∧ a1_ ≤ 999) ∧ 0 ≤ a2_ ∧ a2_ < (F_ : Int)) ∧ zfit F_ K_ (zgrw s_.1 a0_ a1_ a2_)) ∧ zSR F_ s_ N ∧ v = (-9223372036854775808 : Int)))))) := by
                        intro n
                        induction n with
                        | zero =>
                          intro u20_ hu20_a hu20_b N21_ hs22_ i23_ i24_ i25_ i26_ h0
                          exact absurd h0 (Nat.not_lt_zero _)
                        | succ n ih_111 =>
                          intro u20_ hu20_a hu20_b N21_ hs22_ i23_ i24_ i25_ i26_ hlt_111
                          have hf_N21_ : zFr [60] [98, 105, 111] Mz N21_ := hf_N17_.tr hs22_ (by decide) (by decide)
                          have e26_N21_ : ze N21_ 81 26 = ze N17_ 81 26 := hs22_.e (by decide)
                          have c27_ : zRmk F_ K_ N21_ := zRmk.fr hs22_ c19_ (by decide) (by decide)
                          have c28_ : zSA F_ s_ N21_ := zSA.fr hs22_ hp0_N17_ (by decide) (by decide)
                          have hgj_ := (show (∀ k : Nat, (k : Int) < u20_ → zg N21_ 98 k = (zgrw s_.1 a0_ a1_ a2_) k) by first | with_reducible assumption | assumption)
                          have hgf_ := (show (∀ k : Nat, k < F_ → zg N21_ 105 k = (zgrw s_.1 a0_ a1_ a2_) k) by first | with_reducible assumption | assumption)
                          refine zw_iload (pc := 111) (i := 4) (x := Int32.ofInt u20_) rfl (zdal_p dlD_M_grows_139 (i := 9) rfl) ?_
                          refine zw_aload_n (pc := 113) (n := 0) (x := 81) rfl (zdal_p dlD_M_grows_139 (i := 10) rfl) ?_
                          refine zr_getI0 hf_N21_ hW (pc := 114) (by decide) f_M_235 rfl (zdal_p dlD_M_grows_139 (i := 11) rfl) ?_
                          refine zr_icmp_ge (pc := 117) (tgt := 140) ⟨hu20_a, hu20_b⟩ ⟨(ze_r Mz 81 26).1, (ze_r Mz 81 26).2⟩ (by decide) (zdal_p dlD_M_grows_139 (i := 12) rfl) (fun hc_117 => ?_) (fun hc_117 => ?_)
                          · skip
                            refine zw_aload_n (pc := 140) (n := 0) (x := 81) rfl (zdal_p dlD_M_grows_139 (i := 23) rfl) ?_
                            refine zr_getF (r := 98) (hf_N21_.w hW) (pc := 141) f_M_66 rfl (zh_98 (hf_N21_.w hW)).1 (zdal_p dlD_M_grows_140 (i := 0) rfl) ?_
                            refine zw_iload_n (pc := 144) (n := 3) (x := Int32.ofInt a2_) rfl (zdal_p dlD_M_grows_140 (i := 1) rfl) ?_
                            refine zr_laldn (pc := 145) (zh_98 (hf_N21_.w hW)).2 (by decide) (by (exact ha2_0_hp0_N1_)) (by omega) (zdal_p dlD_M_grows_140 (i := 2) rfl) (fun v29_ hv29_ hv29_a hv29_b => ?_)
                            have hv_ := hv29_.trans (hgj_ _ (by omega))
                            exact zr_lret (pc := 146) rfl ⟨by (exact hv29_a), by (exact hv29_b)⟩ hf_N21_ (show (((((-9 ≤ a0_ ∧ a0_ ≤ 9) ∧ (-999 ≤ a1_ ∧ a1_ ≤ 999) ∧ 0 ≤ a2_ ∧ a2_ < (F_ : Int)) ∧ zfit F_ K_ (zgrw s_.1 a0_ a1_ a2_)) ∧ zSR F_ (zpush s_ (zgrw s_.1 a0_ a1_ a2_)) N21_ ∧ v29_ = (zgrw s_.1 a0_ a1_ a2_) (a2_).toNat) ∨ (¬ (((-9 ≤ a0_ ∧ a0_ ≤ 9) ∧ (-999 ≤ a1_ ∧ a1_ ≤ 999) ∧ 0 ≤ a2_ ∧ a2_ < (F_ : Int)) ∧ zfit F_ K_ (zgrw s_.1 a0_ a1_ a2_)) ∧ zSR F_ s_ N21_ ∧ v29_ = (-9223372036854775808 : Int))) by exact Or.inl ⟨⟨by omega, zfit_c (hfi_.mp (by omega)) hgc_⟩, c28_.ps (fun k_ hk_ => hgj_ k_ (by (exact zo_110 hF27_ hFc_ hc_117 hk_ i23_))), hv_⟩) (zdal_p dlD_M_grows_140 (i := 3) rfl)
                          · skip
                            refine zw_aload_n (pc := 120) (n := 0) (x := 81) rfl (zdal_p dlD_M_grows_139 (i := 13) rfl) ?_
                            refine zr_getF (r := 98) (hf_N21_.w hW) (pc := 121) f_M_66 rfl (zh_98 (hf_N21_.w hW)).1 (zdal_p dlD_M_grows_139 (i := 14) rfl) ?_
                            refine zw_iload (pc := 124) (i := 4) (x := Int32.ofInt u20_) rfl (zdal_p dlD_M_grows_139 (i := 15) rfl) ?_
                            refine zw_aload_n (pc := 126) (n := 0) (x := 81) rfl (zdal_p dlD_M_grows_139 (i := 16) rfl) ?_
                            refine zr_getF (r := 105) (hf_N21_.w hW) (pc := 127) f_M_87 rfl (zh_105 (hf_N21_.w hW)).1 (zdal_p dlD_M_grows_139 (i := 17) rfl) ?_
                            refine zw_iload (pc := 130) (i := 4) (x := Int32.ofInt u20_) rfl (zdal_p dlD_M_grows_139 (i := 18) rfl) ?_
                            refine zr_laldn (pc := 132) (zh_105 (hf_N21_.w hW)).2 (by decide) (by (exact i23_)) (by (exact zo_70 hF27_ hu20_b i24_)) (zdal_p dlD_M_grows_139 (i := 19) rfl) (fun v30_ hv30_ hv30_a hv30_b => ?_)
                            have hx_ := hv30_.trans (hgf_ _ (by (exact zo_73 hFc_ hc_117 hu20_b i23_ i24_)))
                            refine zr_last (pc := 133) (zh_98 (hf_N21_.w hW)).2 (by decide) (by decide) (by (exact i23_)) (by (exact zo_70 hF27_ hu20_b i24_)) (zdal_p dlD_M_grows_139 (i := 20) rfl) (fun N31_ hN31_ hsN31_ => ?_)
                            have hf_N31_ : zFr [60] [98, 105, 111] Mz N31_ := hf_N21_.tr hsN31_ (by decide) (by decide)
                            have hb0_N31_ : zFr [] [98] N17_ N31_ := hs22_.tr hsN31_ (by decide) (by decide)
                            have e26_N31_ : ze N31_ 81 26 = ze N21_ 81 26 := hsN31_.e (by decide)
                            have c32_ : zRmk F_ K_ N31_ := zRmk.fr hsN31_ c27_ (by decide) (by decide)
                            have c33_ : zSA F_ s_ N31_ := zSA.fr hsN31_ c28_ (by decide) (by decide)
                            have hgj2_ : (∀ k : Nat, (k : Int) < u20_ + 1 → zg N31_ 98 k = (zgrw s_.1 a0_ a1_ a2_) k) := fun k_ hk_ => by by_cases g_ : (k_ : Int) = u20_; (rw [show k_ = (u20_).toNat by (exact zo_128 g_ hF27_ hk_ hu20_b i23_ i24_), zs_getJ hN31_ ⟨by (exact hv30_a), by (exact hv30_b)⟩]; exact hx_); (rw [zs_othJ hN31_ (by (exact zo_148 i23_ g_))]; exact hgj_ k_ (by (exact zo_130 hk_ g_)))
                            have hgf3_ : (∀ k : Nat, k < F_ → zg N31_ 105 k = (zgrw s_.1 a0_ a1_ a2_) k) := fun k_ hk_ => (hsN31_.jg (by decide) (by decide) k_).trans (hgf_ k_ hk_)
                            refine zr_iinc (pc := 134) (i := 4) (a := u20_) (n := 1) (L2 := [some (.ref 81), some (.int (Int32.ofInt a0_)), some (.int (Int32.ofInt a1_)), some (.int (Int32.ofInt a2_)), some (.int (Int32.ofInt (u20_ + 1)))]) rfl (by decide) rfl (zdal_p dlD_M_grows_139 (i := 21) rfl) ?_
                            refine zw_goto (pc := 137) (tgt := 111) (by decide) (zdal_p dlD_M_grows_139 (i := 22) rfl) ?_
                            exact ih_111 (u20_ + 1) (by (exact zo_74 i23_)) (by (exact zo_75 hF27_ hu20_b i24_)) N31_ hb0_N31_ (show 0 ≤ (u20_ + 1) by first | with_reducible assumption | (exact zo_76 i23_) | assumption) (show (u20_ + 1) ≤ F_ by first | with_reducible assumption | (exact zo_77 hFc_ hc_117 hu20_b i24_) | assumption) (show (∀ k : Nat, (k : Int) < (u20_ + 1) → zg N31_ 98 k = (zgrw s_.1 a0_ a1_ a2_) k) by exact hgj2_) (show (∀ k : Nat, k < F_ → zg N31_ 105 k = (zgrw s_.1 a0_ a1_ a2_) k) by exact hgf3_) (by (exact zo_78 hFc_ hc_117 hlt_111 hu20_b i24_))
                      exact lp_111 _ 0 (by decide) (by decide) N17_ zFr.rf (show 0 ≤ (0 : Int) by first | with_reducible assumption | (decide) | assumption) (show (0 : Int) ≤ F_ by first | with_reducible assumption | (exact zo_85) | assumption) (show (∀ k : Nat, (k : Int) < (0 : Int) → zg N17_ 98 k = (zgrw s_.1 a0_ a1_ a2_) k) by exact fun k_ hk_ => absurd hk_ (by (exact zo_131))) (show (∀ k : Nat, k < F_ → zg N17_ 105 k = (zgrw s_.1 a0_ a1_ a2_) k) by exact hgf_) (Nat.lt_succ_self _)
                    · skip
                      refine zr_ldc2 (pc := 100) (n := (-9223372036854775808)) (by decide) k_M_470 (zdal_p dlD_M_grows_139 (i := 3) rfl) ?_
                      exact zr_lret (pc := 103) rfl ⟨by (decide), by (decide)⟩ hf_N8_ (show (((((-9 ≤ a0_ ∧ a0_ ≤ 9) ∧ (-999 ≤ a1_ ∧ a1_ ≤ 999) ∧ 0 ≤ a2_ ∧ a2_ < (F_ : Int)) ∧ zfit F_ K_ (zgrw s_.1 a0_ a1_ a2_)) ∧ zSR F_ (zpush s_ (zgrw s_.1 a0_ a1_ a2_)) N8_ ∧ ((-9223372036854775808)) = (zgrw s_.1 a0_ a1_ a2_) (a2_).toNat) ∨ (¬ (((-9 ≤ a0_ ∧ a0_ ≤ 9) ∧ (-999 ≤ a1_ ∧ a1_ ≤ 999) ∧ 0 ≤ a2_ ∧ a2_ < (F_ : Int)) ∧ zfit F_ K_ (zgrw s_.1 a0_ a1_ a2_)) ∧ zSR F_ s_ N8_ ∧ ((-9223372036854775808)) = (-9223372036854775808 : Int))) by exact Or.inr ⟨fun q_ => by have h_ := hfi_.mpr (zfit_c q_.2 (fun i_ hi_ => (hgc_ i_ hi_).symm)); (exact zo_1234 h_ hc_97), c14_, rfl⟩) (zdal_p dlD_M_grows_139 (i := 4) rfl)
                  · skip
                    refine zw_aload_n (pc := 52) (n := 0) (x := 81) rfl (zdal_p dlD_M_grows_138 (i := 0) rfl) ?_
                    refine zr_getF (r := 105) (hf_N8_.w hW) (pc := 53) f_M_87 rfl (zh_105 (hf_N8_.w hW)).1 (zdal_p dlD_M_grows_138 (i := 1) rfl) ?_
                    refine zw_iload (pc := 56) (i := 4) (x := Int32.ofInt u7_) rfl (zdal_p dlD_M_grows_138 (i := 2) rfl) ?_
                    refine zw_iload_n (pc := 58) (n := 1) (x := Int32.ofInt a0_) rfl (zdal_p dlD_M_grows_138 (i := 3) rfl) ?_
                    refine zr_i2l (pc := 59) ⟨ha0_a, ha0_b⟩ (zdal_p dlD_M_grows_138 (i := 4) rfl) ?_
                    refine zw_aload_n (pc := 60) (n := 0) (x := 81) rfl (zdal_p dlD_M_grows_138 (i := 5) rfl) ?_
                    refine zr_getF (r := 98) (hf_N8_.w hW) (pc := 61) f_M_66 rfl (zh_98 (hf_N8_.w hW)).1 (zdal_p dlD_M_grows_138 (i := 6) rfl) ?_
                    refine zw_iload (pc := 64) (i := 4) (x := Int32.ofInt u7_) rfl (zdal_p dlD_M_grows_138 (i := 7) rfl) ?_
                    refine zr_laldn (pc := 66) (zh_98 (hf_N8_.w hW)).2 (by decide) (by (exact i10_)) (by (exact zo_70 hF27_ hu7_b i11_)) (zdal_p dlD_M_grows_138 (i := 8) rfl) (fun v34_ hv34_ hv34_a hv34_b => ?_)
                    have hy_ := hv34_.trans (c14_.2.1 _ (by (exact zo_73 hFc_ hc_49 hu7_b i10_ i11_)))
                    have hb_ := p2_.1 (u7_).toNat (by (exact zo_73 hFc_ hc_49 hu7_b i10_ i11_))
                    unfold zLim at hb_
                    rw [← hy_] at hb_
                    have hm_ := zmul9 (n := a0_) (by (exact ha16_0_hp0_N3_)) (by (exact ha16_1_hp0_N3_)) hb_.1 hb_.2
                    refine zr_lmul (pc := 67) (zdal_p dlD_M_grows_138 (i := 9) rfl) ?_
                    refine zw_iload (pc := 68) (i := 4) (x := Int32.ofInt u7_) rfl (zdal_p dlD_M_grows_138 (i := 10) rfl) ?_
                    refine zw_iload_n (pc := 70) (n := 3) (x := Int32.ofInt a2_) rfl (zdal_p dlD_M_grows_138 (i := 11) rfl) ?_
                    refine zr_icmp_ne (pc := 71) (tgt := 78) ⟨hu7_a, hu7_b⟩ ⟨ha2_a, ha2_b⟩ (by decide) (zdal_p dlD_M_grows_138 (i := 12) rfl) (fun hc_71 => ?_) (fun hc_71 => ?_)
                    · skip
                      refine zw_iconst (pc := 78) (v := Int32.ofInt 0) (by decide) (zdal_p dlD_M_grows_138 (i := 15) rfl) ?_
                      refine zr_i2l (pc := 79) ⟨(by decide), (by decide)⟩ (zdal_p dlD_M_grows_138 (i := 16) rfl) ?_
                      refine zr_ladd (pc := 80) (zdal_p dlD_M_grows_138 (i := 17) rfl) ?_
                      have hx_ : ((a0_ * v34_) + 0) = (zgrw s_.1 a0_ a1_ a2_) (u7_).toNat := by show _ = _ * _ + (if _ then _ else _); rw [← hy_]; first | rw [if_pos (by omega)] | rw [if_neg (by omega)]
                      refine zr_last (pc := 81) (zh_105 (hf_N8_.w hW)).2 (by decide) (by decide) (by (exact i10_)) (by (exact zo_70 hF27_ hu7_b i11_)) (zdal_p dlD_M_grows_138 (i := 18) rfl) (fun N35_ hN35_ hsN35_ => ?_)
                      have hf_N35_ : zFr [60] [98, 105, 111] Mz N35_ := hf_N8_.tr hsN35_ (by decide) (by decide)
                      have hb0_N35_ : zFr [] [105] Mz N35_ := hs9_.tr hsN35_ (by decide) (by decide)
                      have e26_N35_ : ze N35_ 81 26 = ze N8_ 81 26 := hsN35_.e (by decide)
                      have c36_ : zRmk F_ K_ N35_ := zRmk.fr hsN35_ c13_ (by decide) (by decide)
                      have c37_ : zSR F_ s_ N35_ := zSR.fr hsN35_ c14_ (by decide) (by decide)
                      have hgi2_ : (∀ k : Nat, (k : Int) < u7_ + 1 → zg N35_ 105 k = (zgrw s_.1 a0_ a1_ a2_) k) := fun k_ hk_ => by by_cases g_ : (k_ : Int) = u7_; (rw [show k_ = (u7_).toNat by (exact zo_128 g_ hF27_ hk_ hu7_b i10_ i11_), zs_getJ hN35_ ⟨by omega, by omega⟩]; exact hx_); (rw [zs_othJ hN35_ (by (exact zo_148 i10_ g_))]; exact hgi_ k_ (by (exact zo_130 hk_ g_)))
                      refine zr_iinc (pc := 82) (i := 4) (a := u7_) (n := 1) (L2 := [some (.ref 81), some (.int (Int32.ofInt a0_)), some (.int (Int32.ofInt a1_)), some (.int (Int32.ofInt a2_)), some (.int (Int32.ofInt (u7_ + 1)))]) rfl (by decide) rfl (zdal_p dlD_M_grows_138 (i := 19) rfl) ?_
                      refine zw_goto (pc := 85) (tgt := 43) (by decide) (zdal_p dlD_M_grows_138 (i := 20) rfl) ?_
                      exact ih_43 (u7_ + 1) (by (exact zo_74 i10_)) (by (exact zo_75 hF27_ hu7_b i11_)) N35_ hb0_N35_ (show 0 ≤ (u7_ + 1) by first | with_reducible assumption | (exact zo_76 i10_) | assumption) (show (u7_ + 1) ≤ F_ by first | with_reducible assumption | (exact zo_77 hFc_ hc_49 hu7_b i11_) | assumption) (show (∀ k : Nat, (k : Int) < (u7_ + 1) → zg N35_ 105 k = (zgrw s_.1 a0_ a1_ a2_) k) by exact hgi2_) (by (exact zo_78 hFc_ hc_49 hlt_43 hu7_b i11_))
                    · skip
                      refine zw_iload_n (pc := 74) (n := 2) (x := Int32.ofInt a1_) rfl (zdal_p dlD_M_grows_138 (i := 13) rfl) ?_
                      refine zw_goto (pc := 75) (tgt := 79) (by decide) (zdal_p dlD_M_grows_138 (i := 14) rfl) ?_
                      refine zr_i2l (pc := 79) ⟨ha1_a, ha1_b⟩ (zdal_p dlD_M_grows_138 (i := 16) rfl) ?_
                      refine zr_ladd (pc := 80) (zdal_p dlD_M_grows_138 (i := 17) rfl) ?_
                      have hx_ : ((a0_ * v34_) + a1_) = (zgrw s_.1 a0_ a1_ a2_) (u7_).toNat := by show _ = _ * _ + (if _ then _ else _); rw [← hy_]; first | rw [if_pos (by omega)] | rw [if_neg (by omega)]
                      refine zr_last (pc := 81) (zh_105 (hf_N8_.w hW)).2 (by decide) (by decide) (by (exact i10_)) (by (exact zo_70 hF27_ hu7_b i11_)) (zdal_p dlD_M_grows_138 (i := 18) rfl) (fun N38_ hN38_ hsN38_ => ?_)
                      have hf_N38_ : zFr [60] [98, 105, 111] Mz N38_ := hf_N8_.tr hsN38_ (by decide) (by decide)
                      have hb0_N38_ : zFr [] [105] Mz N38_ := hs9_.tr hsN38_ (by decide) (by decide)
                      have e26_N38_ : ze N38_ 81 26 = ze N8_ 81 26 := hsN38_.e (by decide)
                      have c39_ : zRmk F_ K_ N38_ := zRmk.fr hsN38_ c13_ (by decide) (by decide)
                      have c40_ : zSR F_ s_ N38_ := zSR.fr hsN38_ c14_ (by decide) (by decide)
                      have hgi2_ : (∀ k : Nat, (k : Int) < u7_ + 1 → zg N38_ 105 k = (zgrw s_.1 a0_ a1_ a2_) k) := fun k_ hk_ => by by_cases g_ : (k_ : Int) = u7_; (rw [show k_ = (u7_).toNat by (exact zo_128 g_ hF27_ hk_ hu7_b i10_ i11_), zs_getJ hN38_ ⟨by omega, by omega⟩]; exact hx_); (rw [zs_othJ hN38_ (by (exact zo_148 i10_ g_))]; exact hgi_ k_ (by (exact zo_130 hk_ g_)))
                      refine zr_iinc (pc := 82) (i := 4) (a := u7_) (n := 1) (L2 := [some (.ref 81), some (.int (Int32.ofInt a0_)), some (.int (Int32.ofInt a1_)), some (.int (Int32.ofInt a2_)), some (.int (Int32.ofInt (u7_ + 1)))]) rfl (by decide) rfl (zdal_p dlD_M_grows_138 (i := 19) rfl) ?_
                      refine zw_goto (pc := 85) (tgt := 43) (by decide) (zdal_p dlD_M_grows_138 (i := 20) rfl) ?_
                      exact ih_43 (u7_ + 1) (by (exact zo_74 i10_)) (by (exact zo_75 hF27_ hu7_b i11_)) N38_ hb0_N38_ (show 0 ≤ (u7_ + 1) by first | with_reducible assumption | (exact zo_76 i10_) | assumption) (show (u7_ + 1) ≤ F_ by first | with_reducible assumption | (exact zo_77 hFc_ hc_49 hu7_b i11_) | assumption) (show (∀ k : Nat, (k : Int) < (u7_ + 1) → zg N38_ 105 k = (zgrw s_.1 a0_ a1_ a2_) k) by exact hgi2_) (by (exact zo_78 hFc_ hc_49 hlt_43 hu7_b i11_))
              exact lp_43 _ 0 (by decide) (by decide) Mz zFr.rf (show 0 ≤ (0 : Int) by first | with_reducible assumption | (decide) | assumption) (show (0 : Int) ≤ F_ by first | with_reducible assumption | (exact zo_85) | assumption) (show (∀ k : Nat, (k : Int) < (0 : Int) → zg Mz 105 k = (zgrw s_.1 a0_ a1_ a2_) k) by exact fun k_ hk_ => absurd hk_ (by (exact zo_131))) (Nat.lt_succ_self _)
            · skip
              exact absurd hc_33 (by decide)
          · skip
            show zW l m_M_grows (zn Mz + 0, zw Mz + 0) Mz 33 [some (.ref 81), some (.int (Int32.ofInt a0_)), some (.int (Int32.ofInt a1_)), some (.int (Int32.ofInt a2_)), none] [.int (Int32.ofInt 0)] _
            refine zr_if_ne (pc := 33) (tgt := 40) ⟨(by decide), (by decide)⟩ (by decide) (zdal_p dlD_M_grows_137 (i := 15) rfl) (fun hc_33 => ?_) (fun hc_33 => ?_)
            · skip
              exact absurd hc_33 (by decide)
            · skip
              refine zr_ldc2 (pc := 36) (n := (-9223372036854775808)) (by decide) k_M_470 (zdal_p dlD_M_grows_137 (i := 16) rfl) ?_
              exact zr_lret (pc := 39) rfl ⟨by (decide), by (decide)⟩ hf (show (((((-9 ≤ a0_ ∧ a0_ ≤ 9) ∧ (-999 ≤ a1_ ∧ a1_ ≤ 999) ∧ 0 ≤ a2_ ∧ a2_ < (F_ : Int)) ∧ zfit F_ K_ (zgrw s_.1 a0_ a1_ a2_)) ∧ zSR F_ (zpush s_ (zgrw s_.1 a0_ a1_ a2_)) Mz ∧ ((-9223372036854775808)) = (zgrw s_.1 a0_ a1_ a2_) (a2_).toNat) ∨ (¬ (((-9 ≤ a0_ ∧ a0_ ≤ 9) ∧ (-999 ≤ a1_ ∧ a1_ ≤ 999) ∧ 0 ≤ a2_ ∧ a2_ < (F_ : Int)) ∧ zfit F_ K_ (zgrw s_.1 a0_ a1_ a2_)) ∧ zSR F_ s_ Mz ∧ ((-9223372036854775808)) = (-9223372036854775808 : Int))) by exact Or.inr ⟨fun q_ => by have h_ := q_.1; omega, p1_, rfl⟩) (zdal_p dlD_M_grows_137 (i := 17) rfl)
      · skip
        show zW l m_M_grows (zn Mz + 0, zw Mz + 0) Mz 19 [some (.ref 81), some (.int (Int32.ofInt a0_)), some (.int (Int32.ofInt a1_)), some (.int (Int32.ofInt a2_)), none] [.int (Int32.ofInt 0)] _
        refine zr_if_eq (pc := 19) (tgt := 36) ⟨(by decide), (by decide)⟩ (by decide) (zdal_p dlD_M_grows_137 (i := 9) rfl) (fun hc_19 => ?_) (fun hc_19 => ?_)
        · skip
          refine zr_ldc2 (pc := 36) (n := (-9223372036854775808)) (by decide) k_M_470 (zdal_p dlD_M_grows_137 (i := 16) rfl) ?_
          exact zr_lret (pc := 39) rfl ⟨by (decide), by (decide)⟩ hf (show (((((-9 ≤ a0_ ∧ a0_ ≤ 9) ∧ (-999 ≤ a1_ ∧ a1_ ≤ 999) ∧ 0 ≤ a2_ ∧ a2_ < (F_ : Int)) ∧ zfit F_ K_ (zgrw s_.1 a0_ a1_ a2_)) ∧ zSR F_ (zpush s_ (zgrw s_.1 a0_ a1_ a2_)) Mz ∧ ((-9223372036854775808)) = (zgrw s_.1 a0_ a1_ a2_) (a2_).toNat) ∨ (¬ (((-9 ≤ a0_ ∧ a0_ ≤ 9) ∧ (-999 ≤ a1_ ∧ a1_ ≤ 999) ∧ 0 ≤ a2_ ∧ a2_ < (F_ : Int)) ∧ zfit F_ K_ (zgrw s_.1 a0_ a1_ a2_)) ∧ zSR F_ s_ Mz ∧ ((-9223372036854775808)) = (-9223372036854775808 : Int))) by exact Or.inr ⟨fun q_ => by have h_ := q_.1; omega, p1_, rfl⟩) (zdal_p dlD_M_grows_137 (i := 17) rfl)
        · skip
          exact absurd hc_19 (by decide)
  · skip
    show zW l m_M_grows (zn Mz + 0, zw Mz + 0) Mz 5 [some (.ref 81), some (.int (Int32.ofInt a0_)), some (.int (Int32.ofInt a1_)), some (.int (Int32.ofInt a2_)), none] [.int (Int32.ofInt 0)] _
    refine zr_if_eq (pc := 5) (tgt := 36) ⟨(by decide), (by decide)⟩ (by decide) (zdal_p dlD_M_grows_137 (i := 3) rfl) (fun hc_5 => ?_) (fun hc_5 => ?_)
    · skip
      refine zr_ldc2 (pc := 36) (n := (-9223372036854775808)) (by decide) k_M_470 (zdal_p dlD_M_grows_137 (i := 16) rfl) ?_
      exact zr_lret (pc := 39) rfl ⟨by (decide), by (decide)⟩ hf (show (((((-9 ≤ a0_ ∧ a0_ ≤ 9) ∧ (-999 ≤ a1_ ∧ a1_ ≤ 999) ∧ 0 ≤ a2_ ∧ a2_ < (F_ : Int)) ∧ zfit F_ K_ (zgrw s_.1 a0_ a1_ a2_)) ∧ zSR F_ (zpush s_ (zgrw s_.1 a0_ a1_ a2_)) Mz ∧ ((-9223372036854775808)) = (zgrw s_.1 a0_ a1_ a2_) (a2_).toNat) ∨ (¬ (((-9 ≤ a0_ ∧ a0_ ≤ 9) ∧ (-999 ≤ a1_ ∧ a1_ ≤ 999) ∧ 0 ≤ a2_ ∧ a2_ < (F_ : Int)) ∧ zfit F_ K_ (zgrw s_.1 a0_ a1_ a2_)) ∧ zSR F_ s_ Mz ∧ ((-9223372036854775808)) = (-9223372036854775808 : Int))) by exact Or.inr ⟨fun q_ => by have h_ := q_.1; omega, p1_, rfl⟩) (zdal_p dlD_M_grows_137 (i := 17) rfl)
    · skip
      exact absurd hc_5 (by decide)
