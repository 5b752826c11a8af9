section ZLS
variable {M N : zMem} {d d2 : Nat} {P : Nat} {mv : List Nat} {T : zGT} {FA : List (Nat × Nat)} {CA : List Nat} {FR : List (Nat × Nat)} {CR : List Nat}
def zLm (M : zMem) : Prop := ∃ P mv T d, zf M 0 2 = some (d + 0) ∧ zKW d M ∧ zRS P mv T M ∧ zKS P mv T d M
theorem zKS.e (he : ∀ o, o < 38 → ∀ j, ze N (d + o) j = ze M (d + o) j) (h : zKS P mv T d M) : zKS P mv T d N := by
  have e1 := he 1 (by decide)
  have e3 := he 3 (by decide)
  have e5 := he 5 (by decide)
  have e7 := he 7 (by decide)
  have e9 := he 9 (by decide)
  have e12 := he 12 (by decide)
  have e20 := he 20 (by decide)
  have e22 := he 22 (by decide)
  obtain ⟨a1, a2, a3, a4, a5, a6⟩ := h
  refine ⟨?_, ?_, ?_, ?_, ?_, a6.ee (e12 6) (he 14 (by decide)) (he 16 (by decide))⟩
  · unfold zMvK at a1 ⊢
    simp only [e1, e3]
    exact a1
  · unfold zGc zCo at a2 ⊢
    simp only [e1, e5]
    exact a2
  · unfold zTt at a3 ⊢
    simp only [e1, e7, e9]
    exact a3
  · unfold zFir at a4 ⊢
    simp only [e12, e20]
    exact a4
  · unfold zKm at a5 ⊢
    simp only [e12, e22]
    exact a5
theorem zRS.hi (h3 : ∀ q, 81 ≤ q → zi N q = zi M q ∧ zj N q = zj M q) (h1 : N.1 = M.1) (h2 : zsh N = zsh M) (h : zRS P mv T M) : zRS P mv T N := by
  have hfr : zFr [] (List.range 81) M (N.1, N.2.1, N.2.2.1, N.2.2.2.1, M.2.2.2.2) := by
    refine ⟨h1, h2, rfl, fun q hq hc => ?_, fun j _ => ?_⟩
    · have h81 : 81 ≤ q := by
        rcases Nat.lt_or_ge q 81 with g | g
        · exact absurd (List.mem_range.mpr g) hc
        · exact g
      exact ⟨(h3 q h81).1, (h3 q h81).2⟩
    · exact ⟨congrFun (h3 81 (by omega)).1 j, congrFun (h3 81 (by omega)).2 j⟩
  have h2 : zRS P mv T (N.1, N.2.1, N.2.2.1, N.2.2.2.1, M.2.2.2.2) := zRS.fr hfr h (by decide) (by decide)
  exact h2
theorem zKS.lo (h : zOl M N) (hd : d = 5 ∨ d = 43) (hk : zKS P mv T d M) : zKS P mv T d N := hk.e (fun o ho j => by
  unfold ze
  rw [(h.2.2.2 (d + o) (by omega)).1])
theorem zKS.fr (hW : zKW d M) (hf : zFc d FA CA FR CR M N) (h : zKS P mv T d M) (hc : ((1 ∉ CR ∧ (1, 5) ∉ FR) ∧ (1, 6) ∉ FR ∧ (1, 7) ∉ FR) ∧ (12 ∉ CR ∧ (12, 6) ∉ FR ∧ (12, 7) ∉ FR) ∧ ∀ o ∈ [3, 5, 7, 9, 14, 16, 20, 22], o ∉ CR ∧ ∀ x ∈ FR, x.1 ≠ o) : zKS P mv T d N := by
  obtain ⟨⟨⟨c1, c2⟩, c3, c4⟩, ⟨c5, c66, c6⟩, c7⟩ := hc
  have k3 := c7 3 (by decide)
  have k5 := c7 5 (by decide)
  have k7 := c7 7 (by decide)
  have k9 := c7 9 (by decide)
  have k20 := c7 20 (by decide)
  have k22 := c7 22 (by decide)
  obtain ⟨a1, a2, a3, a4, a5, a6⟩ := h
  exact ⟨zMvK.fr hW hf a1 ⟨⟨by decide, c1, c2⟩, ⟨by decide, c1, c3⟩, by decide, k3⟩, zGc.fr hW hf a2 ⟨⟨by decide, c1, c4⟩, by decide, k5⟩, zTt.fr hW hf a3 ⟨⟨by decide, c1, c4⟩, ⟨by decide, k7⟩, by decide, k9⟩, zFir.fr hW hf a4 ⟨⟨by decide, c5, c6⟩, by decide, k20⟩, zKm.fr hW hf a5 ⟨⟨by decide, c5, c6⟩, by decide, k22⟩, zSbK.fr hW hf a6 ⟨⟨c5, c66⟩, c7 14 (by decide), c7 16 (by decide)⟩⟩
theorem zLm.x (h : zLm M) (hf : zFc d FA CA FR CR M N) (hW : zKW d M) (hn : zf M 0 2 = some (d + 0)) (hc : (∀ x ∈ FA, x.1 < 81) ∧ ∀ x ∈ CA, x < 81) (hk : ((1 ∉ CR ∧ (1, 5) ∉ FR) ∧ (1, 6) ∉ FR ∧ (1, 7) ∉ FR) ∧ (12 ∉ CR ∧ (12, 6) ∉ FR ∧ (12, 7) ∉ FR) ∧ ∀ o ∈ [3, 5, 7, 9, 14, 16, 20, 22], o ∉ CR ∧ ∀ x ∈ FR, x.1 ≠ o) : zLm N := by
  obtain ⟨P, mv, T, d', hn', hW', hr, hs⟩ := h
  have e : d' = d := by
    rw [hn] at hn'
    have := Option.some.inj hn'
    omega
  subst e
  exact ⟨P, mv, T, d', by rw [hf.2.2.1]; exact hn, hf.w hW, hr.hi (fun q hq => hf.hi hW hc hq) hf.1 hf.2.1, hs.fr hW hf hk⟩
theorem zLm.ref {k : Int} (h : zLm M) (hg : zGo M N k) (hr : ∀ P mv T, zRS P mv T M → zRS P mv T N) : zLm N := by
  obtain ⟨P, mv, T, d, hn, hW, h1, hs⟩ := h
  exact ⟨P, mv, T, d, by rw [hg.1.2.2.1]; exact hn, hW.same hg.1.1 hg.1.2.1 (fun q j _ => by rw [hg.1.2.2.1]), hr P mv T h1, hs.lo hg.1 hW.2.1⟩
theorem zLm.tr {b : Nat → Int} {n s : Nat} {k : Int} (h1 : (zTrB b n s ∧ zLm M) ∨ ∃ P mv T, zTrP b n s P mv T ∧ ∃ d, zf M 0 2 = some (d + 0) ∧ zKW d M ∧ zKS P mv T d M) (hg : zGo M N k) (h2 : (zTrB b n s ∧ ∀ P mv T, zRS P mv T M → zRS P mv T N) ∨ ∃ P mv T, zTrP b n s P mv T ∧ zRS P mv T N) : zLm N := by
  rcases h1 with ⟨a1, a2⟩ | ⟨P, mv, T, a1, d, a2, a3, a4⟩
  · rcases h2 with ⟨b1, b2⟩ | ⟨P', mv', T', b1, b2⟩
    · exact a2.ref hg b2
    · exact absurd a1 (zTrG_b b1.g)
  · rcases h2 with ⟨b1, b2⟩ | ⟨P', mv', T', b1, b2⟩
    · exact absurd b1 (zTrG_b a1.g)
    · obtain ⟨rfl, rfl, rfl⟩ := zTrP_u a1 b1
      exact ⟨P, mv, T, d, by rw [hg.1.2.2.1]; exact a2, a3.same hg.1.1 hg.1.2.1 (fun q j _ => by rw [hg.1.2.2.1]), b2, a4.lo hg.1 a3.2.1⟩
end ZLS
abbrev zSg : Type := (Nat → Int) × Nat × (Nat → Nat → Int)
def zpush (s : zSg) (e : Nat → Int) : zSg := (e, if s.2.1 = 12 then 12 else s.2.1 + 1, fun m => if s.2.1 = 12 then (if m = 11 then s.1 else s.2.2 (m + 1)) else if m = s.2.1 then s.1 else s.2.2 m)
def zpop (s : zSg) : zSg := (s.2.2 (s.2.1 - 1), s.2.1 - 1, s.2.2)
def zlm (F : Nat) (e : Nat → Int) : Prop := ∀ k, k < F → -zLim ≤ e k ∧ e k ≤ zLim
def zSB (F : Nat) (s : zSg) : Prop := zlm F s.1 ∧ s.2.1 ≤ 12 ∧ ∀ m, m < s.2.1 → zlm F (s.2.2 m)
theorem zSB.pop {F : Nat} {s : zSg} (h : zSB F s) (hc : 1 ≤ s.2.1) : zSB F (zpop s) := by
  obtain ⟨h1, h2, h3⟩ := h
  refine ⟨h3 _ (by omega), ?_, fun m hm => ?_⟩
  · show s.2.1 - 1 ≤ 12
    omega
  · have hm2 : m < s.2.1 - 1 := hm
    exact h3 m (by omega)
def zSK (F : Nat) (s : zSg) (d : Nat) (M : zMem) : Prop := (ze M (d + 0) 7 = (s.2.1 : Int) ∧ s.2.1 ≤ 12) ∧ (0 ≤ ze M (d + 0) 8 ∧ ze M (d + 0) 8 ≤ 11) ∧ (∀ k : Nat, k < F → zg M (d + 25) k = s.1 k) ∧ ∀ m k : Nat, m < s.2.1 → k < F → zg M (d + 25) (27 * (9 + ((ze M (d + 0) 8).toNat + 12 - s.2.1 + m) % 12) + k) = s.2.2 m k
def zSR (F : Nat) (s : zSg) (M : zMem) : Prop := (ze M 81 60 = (s.2.1 : Int) ∧ s.2.1 ≤ 12) ∧ (∀ k : Nat, k < F → zg M 98 k = s.1 k) ∧ ∀ m k : Nat, m < s.2.1 → k < F → zg M 111 (64 * m + k) = s.2.2 m k
def zSA (F : Nat) (s : zSg) (M : zMem) : Prop := (ze M 81 60 = ((if s.2.1 = 12 then 12 else s.2.1 + 1 : Nat) : Int) ∧ s.2.1 ≤ 12) ∧ ∀ m k : Nat, m < (if s.2.1 = 12 then 12 else s.2.1 + 1) → k < F → zg M 111 (64 * m + k) = (if s.2.1 = 12 then (if m = 11 then s.1 else s.2.2 (m + 1)) else if m = s.2.1 then s.1 else s.2.2 m) k
section ZST
variable {F d : Nat} {s : zSg} {e : Nat → Int} {M N N1 N2 N3 : zMem} {FA : List (Nat × Nat)} {CA : List Nat} {FR : List (Nat × Nat)} {CR : List Nat} {S C : List Nat}
theorem zSK.fr (hf : zFc d FA CA FR CR M N) (hl : zLow d M N) (hF : F ≤ 27) (h : zSK F s d M) (hd : 0 ∉ CR ∧ (0, 7) ∉ FR ∧ (0, 8) ∉ FR) : zSK F s d N := by
  obtain ⟨⟨a1, a2⟩, b, c, e⟩ := h
  have e7 : ze N (d + 0) 7 = ze M (d + 0) 7 := hf.e ⟨by decide, hd.1, hd.2.1⟩
  have e8 : ze N (d + 0) 8 = ze M (d + 0) 8 := hf.e ⟨by decide, hd.1, hd.2.2⟩
  refine ⟨⟨e7.trans a1, a2⟩, by rw [e8]; exact b, fun k hk => (hl k (by omega)).trans (c k hk), fun m k hm hk => ?_⟩
  rw [e8]
  exact (hl _ (by omega)).trans (e m k hm hk)
theorem zSK.lo (h : zOl M N) (hd : d = 5 ∨ d = 43) (hk : zSK F s d M) : zSK F s d N := by
  have e1 : ∀ j, ze N (d + 0) j = ze M (d + 0) j := fun j => by
    unfold ze
    rw [(h.2.2.2 (d + 0) (by omega)).1]
  have e2 : ∀ j, zg N (d + 25) j = zg M (d + 25) j := fun j => by
    unfold zg
    rw [(h.2.2.2 (d + 25) (by omega)).2]
  obtain ⟨a, b, c, e⟩ := hk
  refine ⟨by rw [e1]; exact a, by rw [e1]; exact b, fun k hk => (e2 k).trans (c k hk), fun m k hm hk => ?_⟩
  rw [e1, e2]
  exact e m k hm hk
theorem zNm.lo {nm : List (Int × (Nat → Int))} {K : Nat → Nat → Int} (h : zOl M N) (hd : d = 5 ∨ d = 43) (hk : zNm nm F K d M) : zNm nm F K d N := by
  refine zNm_e ?_ (fun k => ?_) (fun k _ => ?_) hk
  · unfold ze
    rw [(h.2.2.2 (d + 0) (by omega)).1]
  · unfold ze
    rw [(h.2.2.2 (d + 37) (by omega)).1]
  · funext i
    unfold zvc zg
    rw [(h.2.2.2 (d + 25) (by omega)).2]
theorem zSK.pop {q : Int} (hF : F ≤ 27) (h : zSK F s d M) (hc : 1 ≤ s.2.1) (e3 : ∀ t : Nat, zg N2 (d + 25) t = zg M (d + 25) t) (h4 : zSh F d N2 N 0 (zvc F d N2 q)) (hq : q = 9 + ze N (d + 0) 8) (h8 : (ze M (d + 0) 8 = 0 ∧ ze N (d + 0) 8 = 11) ∨ (1 ≤ ze M (d + 0) 8 ∧ ze N (d + 0) 8 = ze M (d + 0) 8 - 1)) (h7 : ze N (d + 0) 7 = ze M (d + 0) 7 - 1) : zSK F (zpop s) d N := by
  obtain ⟨⟨a1, a2⟩, ⟨b1, b2⟩, c, e⟩ := h
  obtain ⟨r, hr⟩ : ∃ r : Nat, ze M (d + 0) 8 = (r : Int) := ⟨_, (Int.toNat_of_nonneg b1).symm⟩
  rw [hr] at b2 h8 e
  rw [Int.toNat_natCast] at e
  have r4 : ∀ t : Nat, 27 ≤ t → zg N (d + 25) t = zg M (d + 25) t := fun t ht => by rw [h4 t, if_neg (by omega), e3]
  have ex : ∀ k : Nat, k < F → zg N (d + 25) k = s.2.2 (s.2.1 - 1) k := fun k hk => by
    rw [h4 k, if_pos (by omega), show ((k : Int) - 27 * 0).toNat = k by omega]
    unfold zvc
    rw [if_pos hk, e3, show 27 * q.toNat + k = 27 * (9 + (r + 12 - s.2.1 + (s.2.1 - 1)) % 12) + k by omega]
    exact e _ k (by omega) hk
  refine ⟨⟨?_, ?_⟩, by omega, ex, fun m k hm hk => ?_⟩
  · show ze N (d + 0) 7 = ((s.2.1 - 1 : Nat) : Int)
    omega
  · show s.2.1 - 1 ≤ 12
    omega
  · have hm2 : m < s.2.1 - 1 := hm
    show zg N (d + 25) (27 * (9 + ((ze N (d + 0) 8).toNat + 12 - (s.2.1 - 1) + m) % 12) + k) = s.2.2 m k
    rw [r4 _ (by omega), show 27 * (9 + ((ze N (d + 0) 8).toNat + 12 - (s.2.1 - 1) + m) % 12) + k = 27 * (9 + (r + 12 - s.2.1 + m) % 12) + k by omega]
    exact e m k (by omega) hk
theorem zSR.fr (hf : zFr S C M N) (h : zSR F s M) (hs : 60 ∉ S) (hc : 98 ∉ C ∧ 111 ∉ C) : zSR F s N := by
  obtain ⟨a, b, c⟩ := h
  refine ⟨by rw [hf.e hs]; exact a, fun k hk => (hf.jg (by decide) hc.1 k).trans (b k hk), fun m k hm hk => (hf.jg (by decide) hc.2 _).trans (c m k hm hk)⟩
theorem zSA.fr (hf : zFr S C M N) (h : zSA F s M) (hs : 60 ∉ S) (hc : 111 ∉ C) : zSA F s N := by
  obtain ⟨a, c⟩ := h
  refine ⟨by rw [hf.e hs]; exact a, fun m k hm hk => (hf.jg (by decide) hc _).trans (c m k hm hk)⟩
theorem zSR.hi (h3 : ∀ q, 81 ≤ q → zi N q = zi M q ∧ zj N q = zj M q) (h : zSR F s M) : zSR F s N := by
  obtain ⟨a, b, c⟩ := h
  have e1 : ze N 81 60 = ze M 81 60 := by
    unfold ze
    rw [(h3 81 (by decide)).1]
  have e2 : ∀ q, 81 ≤ q → ∀ j, zg N q j = zg M q j := fun q hq j => by
    unfold zg
    rw [(h3 q hq).2]
  refine ⟨by rw [e1]; exact a, fun k hk => (e2 98 (by decide) k).trans (b k hk), fun m k hm hk => (e2 111 (by decide) _).trans (c m k hm hk)⟩
theorem zSR.pop (hF : F ≤ 64) (h : zSR F s M) (hc : 1 ≤ s.2.1) (hr : ∀ k : Nat, k < 64 → zg N 98 k = zg M 111 (64 * (s.2.1 - 1) + k)) (hp : ∀ t : Nat, zg N 111 t = zg M 111 t) (h60 : ze N 81 60 = (s.2.1 : Int) - 1) : zSR F (zpop s) N := by
  obtain ⟨⟨a1, a2⟩, b, c⟩ := h
  refine ⟨⟨?_, ?_⟩, fun k hk => (hr k (by omega)).trans (c _ k (by omega) hk), fun m k hm hk => ?_⟩
  · show ze N 81 60 = ((s.2.1 - 1 : Nat) : Int)
    omega
  · show s.2.1 - 1 ≤ 12
    omega
  · have hm2 : m < s.2.1 - 1 := hm
    exact (hp _).trans (c m k (by omega) hk)
theorem zSKc.fr (_ : zKW d M) (hf : zFc d FA CA FR CR M N) (h : zSK F s d M) (hd : (0 < 38 ∧ 0 ∉ CR ∧ (0, 7) ∉ FR) ∧ (0 < 38 ∧ 0 ∉ CR ∧ (0, 8) ∉ FR) ∧ 25 < 38 ∧ 25 ∉ CR ∧ ∀ x ∈ FR, x.1 ≠ 25) : zSK F s d N := by
  obtain ⟨a, b, c, e⟩ := h
  have e7 : ze N (d + 0) 7 = ze M (d + 0) 7 := hf.e hd.1
  have e8 : ze N (d + 0) 8 = ze M (d + 0) 8 := hf.e hd.2.1
  refine ⟨by rw [e7]; exact a, by rw [e8]; exact b, fun k hk => (hf.rg hd.2.2 k).trans (c k hk), fun m k hm hk => ?_⟩
  rw [e8]
  exact (hf.rg hd.2.2 _).trans (e m k hm hk)
theorem zSK.pc {f : Nat → Int} (h : zSK F (zpush s e) d M) (hc : ∀ k, k < F → e k = f k) : zSK F (zpush s f) d M := ⟨h.1, h.2.1, fun k hk => (h.2.2.1 k hk).trans (hc k hk), h.2.2.2⟩
theorem zSK.v (h : zSK F s d M) : ∀ k : Nat, k < F → zvc F d M 0 k = s.1 k := fun k hk => by
  unfold zvc
  rw [if_pos hk, show 27 * (0 : Int).toNat + k = k by omega]
  exact h.2.2.1 k hk
end ZST
theorem zsm_b {f : Nat → Int} {B : Nat} : ∀ k : Nat, (∀ i, i < k → (f i).natAbs ≤ B) → (zsm f k).natAbs ≤ k * B
  | 0, _ => by
    rw [Nat.zero_mul]
    exact Nat.le_refl _
  | k + 1, h => by
    have h1 := zsm_b k (fun i hi => h i (by omega))
    have h2 := h k (by omega)
    have h3 : (zsm f k + f k).natAbs ≤ (zsm f k).natAbs + (f k).natAbs := Int.natAbs_add_le _ _
    rw [Nat.add_mul, Nat.one_mul]
    exact Nat.le_trans h3 (by omega)
theorem zup_g {α : Type} {f : Nat → α} {x : α} : ∀ k i m : Nat, m < k → (zup f k i).getD m x = f (i + m)
  | 0, _, _, h => absurd h (Nat.not_lt_zero _)
  | _ + 1, _, 0, _ => rfl
  | k + 1, i, m + 1, h => by
    have h2 := zup_g (f := f) (x := x) k (i + 1) m (by omega)
    rw [show i + (m + 1) = i + 1 + m by omega]
    exact h2
def zvun (nm : List (Int × (Nat → Int))) (k : Nat) : Nat → Int := (nm.getD k (0, fun _ => 0)).2
theorem zNm.n {nm : List (Int × (Nat → Int))} {F d : Nat} {K : Nat → Nat → Int} {M : zMem} (h : zNm nm F K d M) : ((nm.length : Nat) : Int) = ze M (d + 0) 6 := by
  have h1 := h.1.1
  rw [← h.2.1]
  unfold zNl
  rw [zup_l]
  omega
theorem zNm.at {nm : List (Int × (Nat → Int))} {F d k : Nat} {K : Nat → Nat → Int} {M : zMem} (h : zNm nm F K d M) (hk : k < nm.length) : zvc F d M (1 + (k : Int)) = zvun nm k ∧ zfit F K (zvun nm k) := by
  have h1 := h.n
  have h2 := h.2.2 k (by omega)
  have e : zvc F d M (1 + (k : Int)) = zvun nm k := by
    unfold zvun
    rw [← h.2.1]
    unfold zNl
    rw [zup_g _ 0 k (by omega), Nat.zero_add]
    rfl
  rw [e] at h2
  exact ⟨e, h2⟩
theorem zRNi.n {nm : List (Int × (Nat → Int))} {F : Nat} {K : Nat → Nat → Int} {M : zMem} (h : zRNi nm F K M) : ((nm.length : Nat) : Int) = ze M 81 18 := by
  obtain ⟨h1, gk, h2, -⟩ := h
  rw [h2, zup_l]
  omega
theorem zRNi.at {nm : List (Int × (Nat → Int))} {F k : Nat} {K : Nat → Nat → Int} {M : zMem} (h : zRNi nm F K M) (hk : k < nm.length) : zrw F M 104 (64 * (k : Int)) = zvun nm k ∧ zfit F K (zvun nm k) := by
  have h1 := h.n
  obtain ⟨-, gk, h2, h3⟩ := h
  have h4 := (h3 k (by omega)).2
  have e : zrw F M 104 (64 * (k : Int)) = zvun nm k := by
    unfold zvun
    rw [h2]
    rw [h2, zup_l] at hk
    rw [zup_g _ 0 k hk, Nat.zero_add]
  rw [e] at h4
  exact ⟨e, h4⟩
def zsqA (F : Nat) (K : Nat → Nat → Int) (m : Nat → Int) : Nat → Nat → Int
  | 0 => fun _ => 0
  | k + 1 => fun i => if i = F - 1 - k then (m (F - 1 - k) - zsm (fun t => zsqA F K m k (F - 1 - k + 1 + t) * K (F - 1 - k + 1 + t) (F - 1 - k)) k).tdiv (K (F - 1 - k) (F - 1 - k)) else zsqA F K m k i
def zsq (F : Nat) (K : Nat → Nat → Int) (m : Nat → Int) : Nat → Int := zsqA F K m F
section ZSQ
variable {F : Nat} {K : Nat → Nat → Int} {m m' : Nat → Int}
theorem zsqA_st {k : Nat} : ∀ d, k + d ≤ F → ∀ i, F - k ≤ i → i < F → zsqA F K m (k + d) i = zsqA F K m k i
  | 0, _, _, _, _ => rfl
  | d + 1, h, i, h1, h2 => by
    have e : zsqA F K m (k + d + 1) i = zsqA F K m (k + d) i := by
      show (if i = F - 1 - (k + d) then _ else zsqA F K m (k + d) i) = _
      rw [if_neg (by omega)]
    rw [show k + (d + 1) = k + d + 1 by omega, e]
    exact zsqA_st d (by omega) i h1 h2
theorem zsq_e {j : Nat} (hj : j < F) : zsq F K m j = (m j - zsm (fun t => zsq F K m (j + 1 + t) * K (j + 1 + t) j) (F - 1 - j)).tdiv (K j j) := by
  have e1 : zsq F K m j = zsqA F K m (F - 1 - j + 1) j := by
    have h := zsqA_st (F := F) (K := K) (m := m) (k := F - 1 - j + 1) j (by omega) j (by omega) hj
    rw [show F - 1 - j + 1 + j = F by omega] at h
    exact h
  have e2 : zsqA F K m (F - 1 - j + 1) j = (m (F - 1 - (F - 1 - j)) - zsm (fun t => zsqA F K m (F - 1 - j) (F - 1 - (F - 1 - j) + 1 + t) * K (F - 1 - (F - 1 - j) + 1 + t) (F - 1 - (F - 1 - j))) (F - 1 - j)).tdiv (K (F - 1 - (F - 1 - j)) (F - 1 - (F - 1 - j))) := by
    show (if j = F - 1 - (F - 1 - j) then _ else _) = _
    rw [if_pos (by omega)]
  rw [e1, e2, show F - 1 - (F - 1 - j) = j by omega]
  congr 2
  refine zsm_c _ (fun t ht => ?_)
  congr 1
  have h := zsqA_st (F := F) (K := K) (m := m) (k := F - 1 - j) (j + 1) (by omega) (j + 1 + t) (by omega) (by omega)
  rw [show F - 1 - j + (j + 1) = F by omega] at h
  exact h.symm
theorem zsq_b (hA : zTA F K) (hm : ∀ j, j < F → -1000000 ≤ m j ∧ m j ≤ 1000000) : ∀ i, i < F → -200000000000 ≤ zsq F K m i ∧ zsq F K m i ≤ 200000000000 := fun i hi => by
  have hq : ∀ j, j < F → (zmq F K (zsq F K m) j).natAbs ≤ 1000024 := fun j hj => by
    have h1 := zmq_tail hA (u := zsq F K m) hj
    have h2 := zsq_e (K := K) (m := m) hj
    have h3 := hm j hj
    have h4 := hA.2.1 j j hj hj
    have h5 := hA.2.2.2.1 j hj
    generalize hr : m j - zsm (fun t => zsq F K m (j + 1 + t) * K (j + 1 + t) j) (F - 1 - j) = r at h2
    have h6 := Int.tmod_def r (K j j)
    have h7 : (r.tmod (K j j)).natAbs ≤ 24 := by
      rw [Int.natAbs_tmod]
      have h8 : r.natAbs % (K j j).natAbs < (K j j).natAbs := Nat.mod_lt _ (by omega)
      exact Nat.le_trans (Nat.le_of_lt h8) (by omega)
    have h9 : zsq F K m j * K j j = r - r.tmod (K j j) := by
      rw [h2, Int.mul_comm]
      omega
    rw [h1, h9]
    omega
  have hw := hA.2.2.2.2.2.1 (fun k => 500000 * zsq F K m k) (fun j hj => by
    rw [zmq_mul]
    have h1 := hq j hj
    unfold zLim
    omega) i hi
  have h5 := hA.2.2.2.1 i hi
  have h1 : (500000 * zsq F K m i * K i i).natAbs = (500000 * zsq F K m i).natAbs * (K i i).natAbs := Int.natAbs_mul _ _
  have h2 : (500000 * zsq F K m i).natAbs * 1 ≤ (500000 * zsq F K m i).natAbs * (K i i).natAbs := Nat.mul_le_mul_left _ (by omega)
  have hw2 : -100000000000000000 ≤ 500000 * zsq F K m i * K i i ∧ 500000 * zsq F K m i * K i i ≤ 100000000000000000 := hw
  omega
theorem zsq_c (h : ∀ j, j < F → m j = m' j) : ∀ d j, F - j ≤ d → j < F → zsq F K m j = zsq F K m' j
  | 0, _, h1, h2 => absurd h1 (by omega)
  | d + 1, j, h1, h2 => by
    rw [zsq_e h2, zsq_e h2, h j h2]
    congr 2
    refine zsm_c _ (fun t ht => ?_)
    rw [zsq_c h d (j + 1 + t) (by omega) (by omega)]
theorem zsq_cc (h : ∀ j, j < F → m j = m' j) : ∀ j, j < F → zsq F K m j = zsq F K m' j := fun j hj => zsq_c h F j (by omega) hj
def zrX (F : Nat) (K : Nat → Nat → Int) (m : Nat → Int) (r j i : Int) : Prop := Int64.ofInt r = Int64.ofInt (m j.toNat - zsm (fun t => zsq F K m (j.toNat + 1 + t) * K (j.toNat + 1 + t) j.toNat) (i - j - 1).toNat)
theorem zrX_0 {r j : Int} (hr : r = m j.toNat) : zrX F K m r j (j + 1) := by
  unfold zrX
  rw [show (j + 1 - j - 1).toNat = 0 by omega, hr]
  show _ = Int64.ofInt (_ - 0)
  rw [Int.sub_zero]
theorem zrX_s {r v x y i j : Int} (h : zrX F K m r j i) (hv : Int64.ofInt v = Int64.ofInt (r - x * y)) (j0 : 0 ≤ j) (ji : j < i) (iF : i < F) (hx : x = zsq F K m i.toNat) (hy : y = K i.toNat j.toNat) : zrX F K m v j (i + 1) := by
  have ei : j.toNat + 1 + (i - j - 1).toNat = i.toNat := by omega
  unfold zrX at h ⊢
  rw [show (i + 1 - j - 1).toNat = (i - j - 1).toNat + 1 by omega]
  show _ = Int64.ofInt (_ - (zsm _ (i - j - 1).toNat + zsq F K m (j.toNat + 1 + (i - j - 1).toNat) * K (j.toNat + 1 + (i - j - 1).toNat) j.toNat))
  rw [ei, hv, Int64.ofInt_sub, h, ← Int64.ofInt_sub, hx, hy]
  congr 1
  omega
theorem zrX_e (hA : zTA F K) (hm : ∀ j, j < F → -1000000 ≤ m j ∧ m j ≤ 1000000) {r j i q o : Int} (h : zrX F K m r j i) (hi : i = (F : Int)) (hr : zn64 r) (j0 : 0 ≤ j) (jF : j < F) (ho : o = K j.toNat j.toNat) (hq : q = zlquo r o) : q = zsq F K m j.toNat := by
  have hjn : j.toNat < F := by omega
  unfold zrX at h
  rw [hi, show ((F : Int) - j - 1).toNat = F - 1 - j.toNat by omega] at h
  have h2 := zsq_e (K := K) (m := m) hjn
  have hb : (zsm (fun t => zsq F K m (j.toNat + 1 + t) * K (j.toNat + 1 + t) j.toNat) (F - 1 - j.toNat)).natAbs ≤ (F - 1 - j.toNat) * (200000000000 * 24) := zsm_b _ (fun t ht => by
    rw [Int.natAbs_mul]
    have h3 := zsq_b hA hm (j.toNat + 1 + t) (by omega)
    have h4 := hA.2.1 (j.toNat + 1 + t) j.toNat (by omega) hjn
    exact Nat.mul_le_mul (by omega) (by omega))
  have hF := hA.1.2
  have hb2 : (F - 1 - j.toNat) * (200000000000 * 24) ≤ 27 * (200000000000 * 24) := Nat.mul_le_mul_right _ (by omega)
  have hmj := hm j.toNat hjn
  have e := z64q hr ⟨by omega, by omega⟩ h
  have h4 := hA.2.1 j.toNat j.toNat hjn hjn
  have h5 := hA.2.2.2.1 j.toNat hjn
  rw [hq, ho, zq_t (by omega) (by omega) (by omega) (by omega), h2, e]
end ZSQ
def tkn (z : List Nat) : Nat → Nat → Nat
  | 0, k => if k = 0 then 1 else 0
  | q + 1, k => if z.getD q 0 ≤ k then tkn z q k + tkn z q (k - z.getD q 0) else tkn z q k
section ZRCH
variable {mv : List Nat} {T : zGT} {c : Nat → Nat} {B P : Nat}
end ZRCH
section TKV
variable {P : Nat} {T : zGT} {c : Nat → Nat} {B : Nat} {what n v w : Int}
end TKV
theorem zGc.lt {mv : List Nat} {P : Nat} {T : zGT} {d : Nat} {M : zMem} (h : zGc mv P T d M) (hP : P ≤ 6) {i p : Nat} (hi : i < gN T) (hp : p < P) : gdg (zCo P d M i) p < P := by
  rw [← h.dg hP hi hp]
  exact (h.2.2 i hi).2.2.1 p hp (by omega)
theorem zUp_x {F d : Nat} {M N : zMem} {s j i x : Int} {u : Nat → Int} (h : zUp F d M N s u j) (ji : j < i) (iF : i < F) (s0 : 0 ≤ s) (hx : x = zg N (d + 25) (s * 27 + i).toNat) (i0 : 0 ≤ i) : x = u i.toNat := by
  rw [hx, (h _).2 (by omega) (by omega)]
  congr 1
  omega
def zTkZ (z : List Nat) (M : zMem) : Prop := (ze M 81 63 = ((z.length : Nat) : Int) ∧ z.length ≤ 6) ∧ ∀ k : Nat, k < z.length → ze M 112 k = ((z.getD k 0 : Nat) : Int) ∧ z.getD k 0 ≤ 6
section ZTK
variable {r z : List Nat} {M N N1 : zMem} {met : Int} {S C : List Nat}
theorem zTkZ.fr (hf : zFr S C M N) (h : zTkZ z M) (hs : 63 ∉ S) (hc : 112 ∉ C) : zTkZ z N := by
  refine ⟨by rw [hf.e hs]; exact h.1, fun k hk => ?_⟩
  rw [hf.ie (by decide) hc k]
  exact h.2 k hk
def zTkN (z : List Nat) (q : Nat) (M : zMem) : Prop := True ∧ ∀ k : Nat, k < 7 → ze M 113 k = ((tkn z q k : Nat) : Int)
theorem zTkN.fr {q : Nat} (hf : zFr S C M N) (h : zTkN z q M) (_ : True) (hc : 113 ∉ C) : zTkN z q N := ⟨trivial, fun k hk => by
  rw [hf.ie (by decide) hc k]
  exact h.2 k hk⟩
end ZTK
def zUw (q F : Nat) (N : zMem) (u : Nat → Int) (j : Int) : Prop := ∀ x : Nat, j < x → (x : Int) < F → zg N q x = u x
theorem zUw_0 {q F : Nat} {N : zMem} {u : Nat → Int} {j : Int} (hj : (F : Int) - 1 ≤ j) : zUw q F N u j := fun x h1 h2 => absurd h2 (by omega)
theorem zUw_s {q F : Nat} {N P : zMem} {u : Nat → Int} {j v : Int} (h : zUw q F N u j) (hP : P = zsJ N q j.toNat (Int64.ofInt v)) (hv2 : zn64 v) (j0 : 0 ≤ j) (hv : v = u j.toNat) : zUw q F P u (j - 1) := fun x g1 g2 => by
  by_cases g : (x : Int) = j
  · rw [show x = j.toNat by omega, zs_getJ hP hv2, hv]
  · rw [zs_othJ hP (by omega)]
    exact h x (by omega) g2
set_option maxHeartbeats 4000000 in
theorem u_Sums_solveS (l : Launch) (d_ : Nat) (Mz : zMem) (hW : zKW d_ Mz) (a0_ : Int) (ha0_a : -2147483648 ≤ a0_) (ha0_b : a0_ < 2147483648) (F_ : Nat) (K_ : Nat → Nat → Int) (hA_ : zTA F_ K_) (p0_ : zKm F_ K_ d_ Mz) (p1_ : 0 ≤ a0_) (p2_ : a0_ ≤ 39) (p3_ : (∀ j : Nat, j < F_ → -1000000 ≤ zg Mz (d_ + 27) j ∧ zg Mz (d_ + 27) j ≤ 1000000)) : zC l m_Sums_solve 0 0 [.ref (d_ + 23), .int (Int32.ofInt a0_)] Mz (zqcV d_ [] [] [] [25] Mz (fun N => zSh F_ d_ Mz N a0_ (zsq F_ K_ (fun j_ => zg Mz (d_ + 27) j_)))) := by
  refine zC_of (L0 := [some (.ref (d_ + 23)), some (.int (Int32.ofInt a0_)), none, none, none, none]) md_Sums_solve (Nat.le_of_ble_eq_true rfl) rfl ?_ zQ0
  have hf : zFc d_ [] [] [] [25] Mz Mz := zFc.rf
  have r_D12_7 := ze_r Mz (d_ + 12) 7
  obtain ⟨⟨hF1_, hF27_⟩, hAr_⟩ := id hA_
  obtain ⟨hFc_, hKt_⟩ := id p0_
  refine zw_aload_n (pc := 0) (n := 0) (x := (d_ + 23)) rfl (zdal_p dlA_Sums_solve_140 (i := 0) rfl) ?_
  refine zw_getF (pc := 1) f_Sums_23 rfl ((hf.w hW).kr (o := 23) (by decide)) ((hf.w hW).lr (o := 23) (s := 0) (r := 12) (by decide)) (zdal_p dlA_Sums_solve_140 (i := 1) rfl) ?_
  refine zk_getI (pc := 4) f_Sums_35 rfl ((hf.w hW).kr (o := 12) (by decide)) (zdal_p dlA_Sums_solve_140 (i := 2) rfl) ?_
  refine zw_iconst (pc := 7) (v := Int32.ofInt 1) (by decide) (zdal_p dlA_Sums_solve_140 (i := 3) rfl) ?_
  refine zr_isub (pc := 8) (zdal_p dlA_Sums_solve_140 (i := 4) rfl) ?_
  refine zw_istore_n (pc := 9) (i := 2) (L2 := [some (.ref (d_ + 23)), some (.int (Int32.ofInt a0_)), some (.int (Int32.ofInt ((ze Mz (d_ + 12) 7) - 1))), none, none, none]) rfl (by decide) rfl (zdal_p dlA_Sums_solve_140 (i := 5) rfl) ?_
  have lp_10 : ∀ (n : Nat) (u1_ : Int) (hu1_a : -2147483648 ≤ u1_) (hu1_b : u1_ < 2147483648) (N2_ : zMem) (hs3_ : zFc d_ [] [] [] [25] Mz N2_) (i4_ : u1_ < F_) (i5_ : -1 ≤ u1_) (i6_ : zUp F_ d_ Mz N2_ a0_ (zsq F_ K_ (fun j_ => zg Mz (d_ + 27) j_)) u1_), (u1_ + 1).toNat < n → zW l m_Sums_solve (zn Mz + 0, zw Mz + 0) N2_ 10 [some (.ref (d_ + 23)), some (.int (Int32.ofInt a0_)), some (.int (Int32.ofInt u1_)), none, none, none] [] (zqcV d_ [] [] [] [25] Mz (fun N => zSh F_ d_ Mz N a0_ (zsq F_ K_ (fun j_ => zg Mz (d_ + 27) j_)))) := by
    intro n
    induction n with
    | zero =>
      intro u1_ hu1_a hu1_b N2_ hs3_ i4_ i5_ i6_ h0
      exact absurd h0 (Nat.not_lt_zero _)
    | succ n ih_10 =>
      intro u1_ hu1_a hu1_b N2_ hs3_ i4_ i5_ i6_ hlt_10
      have hf_N2_ : zFc d_ [] [] [] [25] Mz N2_ := hf.tr hs3_ (by decide) (by decide) (by decide) (by decide)
      have eD12_7_N2_ : ze N2_ (d_ + 12) 7 = ze Mz (d_ + 12) 7 := hs3_.e (by decide)
      have c7_ : zKm F_ K_ d_ N2_ := zKm.fr (hf.w hW) hs3_ p0_ (by decide)
      refine zw_iload_n (pc := 10) (n := 2) (x := Int32.ofInt u1_) rfl (zdal_p dlA_Sums_solve_140 (i := 6) rfl) ?_
      refine zr_if_lt (pc := 11) (tgt := 133) ⟨hu1_a, hu1_b⟩ (by decide) (zdal_p dlA_Sums_solve_140 (i := 7) rfl) (fun hc_11 => ?_) (fun hc_11 => ?_)
      · skip
        exact zk_vret (pc := 133) rfl hf_N2_ (show zSh F_ d_ Mz N2_ a0_ (zsq F_ K_ (fun j_ => zg Mz (d_ + 27) j_)) by exact zUp_e (show zUp F_ d_ Mz N2_ a0_ (zsq F_ K_ (fun j_ => zg Mz (d_ + 27) j_)) u1_ by first | with_reducible assumption | assumption) (by omega)) (zdal_p dlA_Sums_solve_143 (i := 2) rfl)
      · skip
        refine zw_aload_n (pc := 14) (n := 0) (x := (d_ + 23)) rfl (zdal_p dlA_Sums_solve_140 (i := 8) rfl) ?_
        refine zw_getF (pc := 15) f_Sums_20 rfl ((hf_N2_.w hW).kr (o := 23) (by decide)) ((hf_N2_.w hW).lr (o := 23) (s := 2) (r := 26) (by decide)) (zdal_p dlA_Sums_solve_140 (i := 9) rfl) ?_
        refine zw_iload_n (pc := 18) (n := 2) (x := Int32.ofInt u1_) rfl (zdal_p dlA_Sums_solve_140 (i := 10) rfl) ?_
        refine zk_atJ hf_N2_.x (pc := 19) l_Sums_27 ((hf_N2_.w hW).kr (o := 26) (by decide)) ((hf_N2_.w hW).lr (o := 26) (s := 0) (r := 27) (by decide)) ((hf_N2_.w hW).rr (o := 27) (t := 2) (n := 27) (by decide)) (by decide) (by omega) (by omega) (by decide) (Nat.le_of_ble_eq_true rfl) (zdal_p dlA_Sums_solve_140 (i := 11) rfl) (fun v8_ hv8_ hv8_a hv8_b => ?_)
        rw [hf_N2_.rg (by decide)] at hv8_
        refine zw_lstore_n (pc := 22) (i := 3) (L2 := [some (.ref (d_ + 23)), some (.int (Int32.ofInt a0_)), some (.int (Int32.ofInt u1_)), some (.long (Int64.ofInt v8_)), none, none]) rfl (by decide) rfl (zdal_p dlA_Sums_solve_140 (i := 12) rfl) ?_
        refine zw_iload_n (pc := 23) (n := 2) (x := Int32.ofInt u1_) rfl (zdal_p dlA_Sums_solve_140 (i := 13) rfl) ?_
        refine zw_iconst (pc := 24) (v := Int32.ofInt 1) (by decide) (zdal_p dlA_Sums_solve_140 (i := 14) rfl) ?_
        refine zr_iadd (pc := 25) (zdal_p dlA_Sums_solve_140 (i := 15) rfl) ?_
        refine zw_istore (pc := 26) (i := 5) (L2 := [some (.ref (d_ + 23)), some (.int (Int32.ofInt a0_)), some (.int (Int32.ofInt u1_)), some (.long (Int64.ofInt v8_)), none, some (.int (Int32.ofInt (u1_ + 1)))]) (by decide) rfl (zdal_p dlA_Sums_solve_140 (i := 16) rfl) ?_
        have hup_ := (show zUp F_ d_ Mz N2_ a0_ (zsq F_ K_ (fun j_ => zg Mz (d_ + 27) j_)) u1_ by first | with_reducible assumption | assumption)
        have lp_28 : ∀ (n : Nat) (u9_ : Int) (hu9_a : -9223372036854775808 ≤ u9_) (hu9_b : u9_ < 9223372036854775808) (u10_ : Int) (hu10_a : -2147483648 ≤ u10_) (hu10_b : u10_ < 2147483648) (i11_ : u1_ < u10_) (i12_ : u10_ ≤ F_) (i13_ : zrX F_ K_ (fun j_ => zg Mz (d_ + 27) j_) u9_ u1_ u10_), (F_ - u10_).toNat < n → zW l m_Sums_solve (zn Mz + 0, zw Mz + 0) N2_ 28 [some (.ref (d_ + 23)), some (.int (Int32.ofInt a0_)), some (.int (Int32.ofInt u1_)), some (.long (Int64.ofInt u9_)), none, some (.int (Int32.ofInt u10_))] [] (zqcV d_ [] [] [] [25] Mz (fun N => zSh F_ d_ Mz N a0_ (zsq F_ K_ (fun j_ => zg Mz (d_ + 27) j_)))) := by
          intro n
          induction n with
          | zero =>
            intro u9_ hu9_a hu9_b u10_ hu10_a hu10_b i11_ i12_ i13_ h0
            exact absurd h0 (Nat.not_lt_zero _)
          | succ n ih_28 =>
            intro u9_ hu9_a hu9_b u10_ hu10_a hu10_b i11_ i12_ i13_ hlt_28
            refine zw_iload (pc := 28) (i := 5) (x := Int32.ofInt u10_) rfl (zdal_p dlA_Sums_solve_140 (i := 17) rfl) ?_
            refine zw_aload_n (pc := 30) (n := 0) (x := (d_ + 23)) rfl (zdal_p dlA_Sums_solve_140 (i := 18) rfl) ?_
            refine zw_getF (pc := 31) f_Sums_23 rfl ((hf_N2_.w hW).kr (o := 23) (by decide)) ((hf_N2_.w hW).lr (o := 23) (s := 0) (r := 12) (by decide)) (zdal_p dlA_Sums_solve_140 (i := 19) rfl) ?_
            refine zk_getI (pc := 34) f_Sums_35 rfl ((hf_N2_.w hW).kr (o := 12) (by decide)) (zdal_p dlA_Sums_solve_140 (i := 20) rfl) ?_
            rw [hf_N2_.e (by decide)]
            refine zr_icmp_ge (pc := 37) (tgt := 82) ⟨hu10_a, hu10_b⟩ ⟨(ze_r Mz (d_ + 12) 7).1, (ze_r Mz (d_ + 12) 7).2⟩ (by decide) (zdal_p dlA_Sums_solve_140 (i := 21) rfl) (fun hc_37 => ?_) (fun hc_37 => ?_)
            · skip
              refine zw_aload_n (pc := 82) (n := 0) (x := (d_ + 23)) rfl (zdal_p dlA_Sums_solve_141 (i := 22) rfl) ?_
              refine zw_getF (pc := 83) f_Sums_23 rfl ((hf_N2_.w hW).kr (o := 23) (by decide)) ((hf_N2_.w hW).lr (o := 23) (s := 0) (r := 12) (by decide)) (zdal_p dlA_Sums_solve_141 (i := 23) rfl) ?_
              refine zw_getF (pc := 86) f_Sums_41 rfl ((hf_N2_.w hW).kr (o := 12) (by decide)) ((hf_N2_.w hW).lr (o := 12) (s := 5) (r := 21) (by decide)) (zdal_p dlA_Sums_solve_142 (i := 0) rfl) ?_
              refine zw_iload_n (pc := 89) (n := 2) (x := Int32.ofInt u1_) rfl (zdal_p dlA_Sums_solve_142 (i := 1) rfl) ?_
              refine zw_bipush (pc := 90) (v := Int32.ofInt 27) (by decide) (zdal_p dlA_Sums_solve_142 (i := 2) rfl) ?_
              refine zr_imul (pc := 92) (zdal_p dlA_Sums_solve_142 (i := 3) rfl) ?_
              refine zw_iload_n (pc := 93) (n := 2) (x := Int32.ofInt u1_) rfl (zdal_p dlA_Sums_solve_142 (i := 4) rfl) ?_
              refine zr_iadd (pc := 94) (zdal_p dlA_Sums_solve_142 (i := 5) rfl) ?_
              refine zk_at hf_N2_.x (pc := 95) l_Sums_45 ((hf_N2_.w hW).kr (o := 21) (by decide)) ((hf_N2_.w hW).lr (o := 21) (s := 0) (r := 22) (by decide)) ((hf_N2_.w hW).rr (o := 22) (t := 1) (n := 729) (by decide)) (by decide) (by omega) (by omega) (by decide) (Nat.le_of_ble_eq_true rfl) (zdal_p dlA_Sums_solve_142 (i := 6) rfl) (fun v14_ hv14_ hv14_a hv14_b => ?_)
              rw [hf_N2_.r (by decide)] at hv14_
              have hm_ := p0_.k (by omega) (by omega) (by omega) (by omega) hv14_
              have hm1_ := hAr_.2.2.1 (u1_).toNat (by omega)
              have hL5_ : u10_ = (F_ : Int) := by omega
              have hin_ := (show zrX F_ K_ (fun j_ => zg Mz (d_ + 27) j_) u9_ u1_ u10_ by first | with_reducible assumption | assumption)
              refine zw_istore (pc := 98) (i := 5) (L2 := [some (.ref (d_ + 23)), some (.int (Int32.ofInt a0_)), some (.int (Int32.ofInt u1_)), some (.long (Int64.ofInt u9_)), none, some (.int (Int32.ofInt v14_))]) (by decide) rfl (zdal_p dlA_Sums_solve_142 (i := 7) rfl) ?_
              refine zw_aload_n (pc := 100) (n := 0) (x := (d_ + 23)) rfl (zdal_p dlA_Sums_solve_142 (i := 8) rfl) ?_
              refine zw_getF (pc := 101) f_Sums_16 rfl ((hf_N2_.w hW).kr (o := 23) (by decide)) ((hf_N2_.w hW).lr (o := 23) (s := 1) (r := 24) (by decide)) (zdal_p dlA_Sums_solve_142 (i := 9) rfl) ?_
              refine zw_iload_n (pc := 104) (n := 1) (x := Int32.ofInt a0_) rfl (zdal_p dlA_Sums_solve_142 (i := 10) rfl) ?_
              refine zw_bipush (pc := 105) (v := Int32.ofInt 27) (by decide) (zdal_p dlA_Sums_solve_142 (i := 11) rfl) ?_
              refine zr_imul (pc := 107) (zdal_p dlA_Sums_solve_142 (i := 12) rfl) ?_
              refine zw_iload_n (pc := 108) (n := 2) (x := Int32.ofInt u1_) rfl (zdal_p dlA_Sums_solve_142 (i := 13) rfl) ?_
              refine zr_iadd (pc := 109) (zdal_p dlA_Sums_solve_142 (i := 14) rfl) ?_
              refine zw_iload (pc := 110) (i := 5) (x := Int32.ofInt v14_) rfl (zdal_p dlA_Sums_solve_142 (i := 15) rfl) ?_
              refine zr_if_eq (pc := 112) (tgt := 123) ⟨hv14_a, hv14_b⟩ (by decide) (zdal_p dlA_Sums_solve_142 (i := 16) rfl) (fun hc_112 => ?_) (fun hc_112 => ?_)
              · skip
                refine zw_lconst (pc := 123) (v := Int64.ofInt 0) (by decide) (zdal_p dlA_Sums_solve_142 (i := 22) rfl) ?_
                refine zk_stJ hf_N2_.x (pc := 124) (o := 25) (by decide) l_Sums_31 ((hf_N2_.w hW).kr (o := 24) (by decide)) ((hf_N2_.w hW).lr (o := 24) (s := 0) (r := 25) (by decide)) ((hf_N2_.w hW).rr (o := 25) (t := 2) (n := 1080) (by decide)) (by decide) (by omega) (by omega) (by decide) (Nat.le_of_ble_eq_true rfl) d_Sums_solve_124 (fun N15_ hN15_ hsN15_ => ?_)
                have hf_N15_ : zFc d_ [] [] [] [25] Mz N15_ := hf_N2_.tr hsN15_ (by decide) (by decide) (by decide) (by decide)
                have hb0_N15_ : zFc d_ [] [] [] [25] Mz N15_ := hs3_.tr hsN15_ (by decide) (by decide) (by decide) (by decide)
                have eD12_7_N15_ : ze N15_ (d_ + 12) 7 = ze N2_ (d_ + 12) 7 := hsN15_.e (by decide)
                have c16_ : zKm F_ K_ d_ N15_ := zKm.fr (hf_N2_.w hW) hsN15_ c7_ (by decide)
                have h1_ := zS1_i hN15_ ⟨by omega, by omega⟩ (by omega)
                have hu1_ := zUp_s hup_ h1_ rfl (by omega) (by omega) (by first | (exfalso; omega) | (rw [← hq_]; exact hqu_))
                refine zr_iinc (pc := 127) (i := 2) (a := u1_) (n := -1) (L2 := [some (.ref (d_ + 23)), some (.int (Int32.ofInt a0_)), some (.int (Int32.ofInt (u1_ + (-1)))), some (.long (Int64.ofInt u9_)), none, some (.int (Int32.ofInt v14_))]) rfl (by decide) rfl d_Sums_solve_127 ?_
                refine zw_goto (pc := 130) (tgt := 10) (by decide) d_Sums_solve_130 ?_
                refine zW_le [some (.ref (d_ + 23)), some (.int (Int32.ofInt a0_)), some (.int (Int32.ofInt (u1_ + (-1)))), none, none, none] (⟨rfl, rfl, rfl, trivial⟩) ?_
                exact ih_10 (u1_ + (-1)) (by omega) (by omega) N15_ hb0_N15_ (show (u1_ + (-1)) < F_ by first | with_reducible assumption | assumption | omega) (show -1 ≤ (u1_ + (-1)) by first | with_reducible assumption | assumption | omega) (show zUp F_ d_ Mz N15_ a0_ (zsq F_ K_ (fun j_ => zg Mz (d_ + 27) j_)) (u1_ + (-1)) by exact hu1_) (by omega)
              · skip
                refine zw_lload_n (pc := 115) (n := 3) (x := Int64.ofInt u9_) rfl (zdal_p dlA_Sums_solve_142 (i := 17) rfl) ?_
                refine zw_iload (pc := 116) (i := 5) (x := Int32.ofInt v14_) rfl (zdal_p dlA_Sums_solve_142 (i := 18) rfl) ?_
                refine zr_i2l (pc := 118) ⟨hv14_a, hv14_b⟩ (zdal_p dlA_Sums_solve_142 (i := 19) rfl) ?_
                refine zr_ldiv (pc := 119) ⟨by omega, by omega⟩ (by omega) (zdal_p dlA_Sums_solve_142 (i := 20) rfl) ?_
                have hr17_ := zlquo_r u9_ v14_
                obtain ⟨q_, hq_⟩ : ∃ q, q = (zlquo u9_ v14_) := ⟨_, rfl⟩
                have hqu_ := zrX_e hA_ p3_ hin_ hL5_ ⟨by omega, by omega⟩ (by omega) (by omega) hm_ hq_
                refine zw_goto (pc := 120) (tgt := 124) (by decide) (zdal_p dlA_Sums_solve_142 (i := 21) rfl) ?_
                refine zk_stJ hf_N2_.x (pc := 124) (o := 25) (by decide) l_Sums_31 ((hf_N2_.w hW).kr (o := 24) (by decide)) ((hf_N2_.w hW).lr (o := 24) (s := 0) (r := 25) (by decide)) ((hf_N2_.w hW).rr (o := 25) (t := 2) (n := 1080) (by decide)) (by decide) (by omega) (by omega) (by decide) (Nat.le_of_ble_eq_true rfl) d_Sums_solve_124 (fun N18_ hN18_ hsN18_ => ?_)
                have hf_N18_ : zFc d_ [] [] [] [25] Mz N18_ := hf_N2_.tr hsN18_ (by decide) (by decide) (by decide) (by decide)
                have hb0_N18_ : zFc d_ [] [] [] [25] Mz N18_ := hs3_.tr hsN18_ (by decide) (by decide) (by decide) (by decide)
                have eD12_7_N18_ : ze N18_ (d_ + 12) 7 = ze N2_ (d_ + 12) 7 := hsN18_.e (by decide)
                have c19_ : zKm F_ K_ d_ N18_ := zKm.fr (hf_N2_.w hW) hsN18_ c7_ (by decide)
                have h1_ := zS1_i hN18_ ⟨by omega, by omega⟩ (by omega)
                have hu1_ := zUp_s hup_ h1_ rfl (by omega) (by omega) (by first | (exfalso; omega) | (rw [← hq_]; exact hqu_))
                refine zr_iinc (pc := 127) (i := 2) (a := u1_) (n := -1) (L2 := [some (.ref (d_ + 23)), some (.int (Int32.ofInt a0_)), some (.int (Int32.ofInt (u1_ + (-1)))), some (.long (Int64.ofInt u9_)), none, some (.int (Int32.ofInt v14_))]) rfl (by decide) rfl d_Sums_solve_127 ?_
                refine zw_goto (pc := 130) (tgt := 10) (by decide) d_Sums_solve_130 ?_
                refine zW_le [some (.ref (d_ + 23)), some (.int (Int32.ofInt a0_)), some (.int (Int32.ofInt (u1_ + (-1)))), none, none, none] (⟨rfl, rfl, rfl, trivial⟩) ?_
                exact ih_10 (u1_ + (-1)) (by omega) (by omega) N18_ hb0_N18_ (show (u1_ + (-1)) < F_ by first | with_reducible assumption | assumption | omega) (show -1 ≤ (u1_ + (-1)) by first | with_reducible assumption | assumption | omega) (show zUp F_ d_ Mz N18_ a0_ (zsq F_ K_ (fun j_ => zg Mz (d_ + 27) j_)) (u1_ + (-1)) by exact hu1_) (by omega)
            · skip
              refine zw_lload_n (pc := 40) (n := 3) (x := Int64.ofInt u9_) rfl (zdal_p dlA_Sums_solve_140 (i := 22) rfl) ?_
              refine zw_aload_n (pc := 41) (n := 0) (x := (d_ + 23)) rfl (zdal_p dlA_Sums_solve_140 (i := 23) rfl) ?_
              refine zw_getF (pc := 42) f_Sums_16 rfl ((hf_N2_.w hW).kr (o := 23) (by decide)) ((hf_N2_.w hW).lr (o := 23) (s := 1) (r := 24) (by decide)) (zdal_p dlA_Sums_solve_141 (i := 0) rfl) ?_
              refine zw_iload_n (pc := 45) (n := 1) (x := Int32.ofInt a0_) rfl (zdal_p dlA_Sums_solve_141 (i := 1) rfl) ?_
              refine zw_bipush (pc := 46) (v := Int32.ofInt 27) (by decide) (zdal_p dlA_Sums_solve_141 (i := 2) rfl) ?_
              refine zr_imul (pc := 48) (zdal_p dlA_Sums_solve_141 (i := 3) rfl) ?_
              refine zw_iload (pc := 49) (i := 5) (x := Int32.ofInt u10_) rfl (zdal_p dlA_Sums_solve_141 (i := 4) rfl) ?_
              refine zr_iadd (pc := 51) (zdal_p dlA_Sums_solve_141 (i := 5) rfl) ?_
              refine zk_atJ hf_N2_.x (pc := 52) l_Sums_27 ((hf_N2_.w hW).kr (o := 24) (by decide)) ((hf_N2_.w hW).lr (o := 24) (s := 0) (r := 25) (by decide)) ((hf_N2_.w hW).rr (o := 25) (t := 2) (n := 1080) (by decide)) (by decide) (by omega) (by omega) (by decide) (Nat.le_of_ble_eq_true rfl) (zdal_p dlA_Sums_solve_141 (i := 6) rfl) (fun v20_ hv20_ hv20_a hv20_b => ?_)
              have hx_ := zUp_x hup_ (by omega) (by omega) (by omega) hv20_ (by omega)
              refine zw_aload_n (pc := 55) (n := 0) (x := (d_ + 23)) rfl (zdal_p dlA_Sums_solve_141 (i := 7) rfl) ?_
              refine zw_getF (pc := 56) f_Sums_23 rfl ((hf_N2_.w hW).kr (o := 23) (by decide)) ((hf_N2_.w hW).lr (o := 23) (s := 0) (r := 12) (by decide)) (zdal_p dlA_Sums_solve_141 (i := 8) rfl) ?_
              refine zw_getF (pc := 59) f_Sums_41 rfl ((hf_N2_.w hW).kr (o := 12) (by decide)) ((hf_N2_.w hW).lr (o := 12) (s := 5) (r := 21) (by decide)) (zdal_p dlA_Sums_solve_141 (i := 9) rfl) ?_
              refine zw_iload (pc := 62) (i := 5) (x := Int32.ofInt u10_) rfl (zdal_p dlA_Sums_solve_141 (i := 10) rfl) ?_
              refine zw_bipush (pc := 64) (v := Int32.ofInt 27) (by decide) (zdal_p dlA_Sums_solve_141 (i := 11) rfl) ?_
              refine zr_imul (pc := 66) (zdal_p dlA_Sums_solve_141 (i := 12) rfl) ?_
              refine zw_iload_n (pc := 67) (n := 2) (x := Int32.ofInt u1_) rfl (zdal_p dlA_Sums_solve_141 (i := 13) rfl) ?_
              refine zr_iadd (pc := 68) (zdal_p dlA_Sums_solve_141 (i := 14) rfl) ?_
              refine zk_at hf_N2_.x (pc := 69) l_Sums_45 ((hf_N2_.w hW).kr (o := 21) (by decide)) ((hf_N2_.w hW).lr (o := 21) (s := 0) (r := 22) (by decide)) ((hf_N2_.w hW).rr (o := 22) (t := 1) (n := 729) (by decide)) (by decide) (by omega) (by omega) (by decide) (Nat.le_of_ble_eq_true rfl) (zdal_p dlA_Sums_solve_141 (i := 15) rfl) (fun v21_ hv21_ hv21_a hv21_b => ?_)
              rw [hf_N2_.r (by decide)] at hv21_
              have hy_ := p0_.k (by omega) (by omega) (by omega) (by omega) hv21_
              refine zr_i2l (pc := 72) ⟨hv21_a, hv21_b⟩ (zdal_p dlA_Sums_solve_141 (i := 16) rfl) ?_
              refine zr_lmul (pc := 73) (zdal_p dlA_Sums_solve_141 (i := 17) rfl) ?_
              refine zr_lsub (pc := 74) (zdal_p dlA_Sums_solve_141 (i := 18) rfl) ?_
              refine zk_nmJ (fun v22_ hv22_ hv22_e => ?_)
              obtain ⟨hv22_a, hv22_b⟩ := hv22_
              have hz_ := zrX_s (show zrX F_ K_ (fun j_ => zg Mz (d_ + 27) j_) u9_ u1_ u10_ by first | with_reducible assumption | assumption) hv22_e (by omega) (by omega) (by omega) hx_ hy_
              refine zw_lstore_n (pc := 75) (i := 3) (L2 := [some (.ref (d_ + 23)), some (.int (Int32.ofInt a0_)), some (.int (Int32.ofInt u1_)), some (.long (Int64.ofInt v22_)), none, some (.int (Int32.ofInt u10_))]) rfl (by decide) rfl (zdal_p dlA_Sums_solve_141 (i := 19) rfl) ?_
              refine zr_iinc (pc := 76) (i := 5) (a := u10_) (n := 1) (L2 := [some (.ref (d_ + 23)), some (.int (Int32.ofInt a0_)), some (.int (Int32.ofInt u1_)), some (.long (Int64.ofInt v22_)), none, some (.int (Int32.ofInt (u10_ + 1)))]) rfl (by decide) rfl (zdal_p dlA_Sums_solve_141 (i := 20) rfl) ?_
              refine zw_goto (pc := 79) (tgt := 28) (by decide) (zdal_p dlA_Sums_solve_141 (i := 21) rfl) ?_
              exact ih_28 v22_ hv22_a hv22_b (u10_ + 1) (by omega) (by omega) (show u1_ < (u10_ + 1) by first | with_reducible assumption | assumption | omega) (show (u10_ + 1) ≤ F_ by first | with_reducible assumption | assumption | omega) (show zrX F_ K_ (fun j_ => zg Mz (d_ + 27) j_) v22_ u1_ (u10_ + 1) by exact hz_) (by omega)
        exact lp_28 _ v8_ hv8_a hv8_b (u1_ + 1) (by omega) (by omega) (show u1_ < (u1_ + 1) by first | with_reducible assumption | assumption | omega) (show (u1_ + 1) ≤ F_ by first | with_reducible assumption | assumption | omega) (show zrX F_ K_ (fun j_ => zg Mz (d_ + 27) j_) v8_ u1_ (u1_ + 1) by exact zrX_0 (by first | with_reducible assumption | assumption)) (Nat.lt_succ_self _)
  exact lp_10 _ ((ze Mz (d_ + 12) 7) - 1) (by omega) (by omega) Mz zFc.rf (show ((ze Mz (d_ + 12) 7) - 1) < F_ by first | with_reducible assumption | assumption | omega) (show -1 ≤ ((ze Mz (d_ + 12) 7) - 1) by first | with_reducible assumption | assumption | omega) (show zUp F_ d_ Mz Mz a0_ (zsq F_ K_ (fun j_ => zg Mz (d_ + 27) j_)) ((ze Mz (d_ + 12) 7) - 1) by exact zUp_0 (by omega)) (Nat.lt_succ_self _)
noncomputable def gsr (T : zGT) (X : Nat) : Nat := @dite _ (∃ i : Nat, ∃ R, gLC T X R ∧ zSrt T R ((i : Nat) : Int)) (Classical.propDecidable _) (fun h => Classical.choose h) (fun _ => 0)
theorem gsr_u {T : zGT} (hO : gOK T) {X R : Nat} {v : Int} (h : gLC T X R) (hv : zSrt T R v) : v = ((gsr T X : Nat) : Int) := by
  have he : ∃ i : Nat, ∃ R, gLC T X R ∧ zSrt T R ((i : Nat) : Int) := ⟨v.toNat, R, h, by rw [Int.toNat_of_nonneg hv.1.1]; exact hv⟩
  have hs := Classical.choose_spec he
  have e : gsr T X = Classical.choose he := by
    unfold gsr
    rw [dif_pos he]
  obtain ⟨R', h1, h2⟩ := hs
  obtain rfl := h.uq h1
  rw [e]
  exact hv.u hO h2
theorem gsr_c {T : zGT} {X Y : Nat} (h : ∀ R, gLC T X R ↔ gLC T Y R) : gsr T X = gsr T Y := by
  have e : (fun i : Nat => ∃ R, gLC T X R ∧ zSrt T R ((i : Nat) : Int)) = (fun i : Nat => ∃ R, gLC T Y R ∧ zSrt T R ((i : Nat) : Int)) := funext fun i => propext ⟨fun ⟨R, h1, h2⟩ => ⟨R, (h R).mp h1, h2⟩, fun ⟨R, h1, h2⟩ => ⟨R, (h R).mpr h1, h2⟩⟩
  unfold gsr
  rw [e]
section GCG
variable {T : zGT} {H g x y h : Nat}
theorem gmz (hA : gGr T) (hG : gGd T) : gm T 0 0 = 0 := hA.1.2.1 0 (by have := hG.1; omega)
theorem gCl_i (hA : gGr T) (hG : gGd T) (hX : gEx T) (hB : gCl T H) (ha : h < gN T) (hb : H.testBit h = true) : H.testBit (gi T h) = true := by
  obtain ⟨V, ⟨hv1, hv2, -⟩, -⟩ := gOr_x hG hX ha
  have hin : ∀ k, H.testBit (gpw T h k) = true := fun k => by
    induction k with
    | zero => exact hb
    | succ k ih => exact hB.2 _ _ (gpw_lt hG ha k) ha ih hb
  have h1 := hA.2 h ha
  have hl := hA.l hG ha
  have key : ∀ b, b < gN T → gm T b h = 0 → gi T h = b := fun b hb1 hb2 => by
    have e : gm T b (gm T h (gi T h)) = gm T (gm T b h) (gi T h) := (hA.1.1 _ _ _ hb1 ha h1.1).symm
    rw [h1.2, hb2, hA.1.2.2 b hb1, hA.1.2.1 _ h1.1] at e
    exact e.symm
  by_cases g : V = 1
  · rw [g] at hv2
    have e : h = 0 := hv2
    have := key 0 (by have := hG.1; omega) (by rw [e]; exact gmz hA hG)
    rw [this]
    exact hB.1
  · rw [show V - 1 = V - 2 + 1 by omega] at hv2
    rw [key _ (gpw_lt hG ha (V - 2)) hv2]
    exact hin _
theorem gcos_k (hA : gGr T) (hG : gGd T) (hB : gCl T H) (hx : x < gN T) : ∀ k, k ≤ gN T → (∀ h, h < k → H.testBit h = true → gup (gcoF T H x) x k ≤ gm T h x) ∧ ∃ h, h < gN T ∧ H.testBit h = true ∧ gup (gcoF T H x) x k = gm T h x
  | 0, _ => ⟨fun h hh => absurd hh (Nat.not_lt_zero h), 0, by omega, hB.1, (hA.1.2.1 x hx).symm⟩
  | k + 1, hk => by
    obtain ⟨h1, h2, h3, h4, h5⟩ := gcos_k hA hG hB hx k (by omega)
    have e : gup (gcoF T H x) x (k + 1) = if (H.testBit k && decide (gm T k x < gup (gcoF T H x) x k)) = true then gm T k x else gup (gcoF T H x) x k := rfl
    rw [e]
    by_cases c : (H.testBit k && decide (gm T k x < gup (gcoF T H x) x k)) = true
    · rw [if_pos c]
      rw [Bool.and_eq_true, decide_eq_true_iff] at c
      refine ⟨fun h hh hb => ?_, k, by omega, c.1, rfl⟩
      by_cases q : h = k
      · rw [q]
        exact Nat.le_refl _
      · exact Nat.le_trans (Nat.le_of_lt c.2) (h1 h (by omega) hb)
    · rw [if_neg c]
      refine ⟨fun h hh hb => ?_, h2, h3, h4, h5⟩
      by_cases q : h = k
      · rw [q] at hb ⊢
        rcases Nat.lt_or_ge (gm T k x) (gup (gcoF T H x) x k) with q2 | q2
        · refine absurd ?_ c
          rw [hb, decide_eq_true q2]
          rfl
        · exact q2
      · exact h1 h (by omega) hb
theorem gcos_x (hA : gGr T) (hG : gGd T) (hB : gCl T H) (hx : x < gN T) : (∀ h, h < gN T → H.testBit h = true → gcos T H x ≤ gm T h x) ∧ ∃ h, h < gN T ∧ H.testBit h = true ∧ gcos T H x = gm T h x := by
  rw [gcos_e]
  exact gcos_k hA hG hB hx (gN T) (Nat.le_refl _)
theorem gcos_h (hA : gGr T) (hG : gGd T) (hX : gEx T) (hB : gCl T H) (hx : x < gN T) (ha : h < gN T) (hb : H.testBit h = true) : gcos T H (gm T h x) = gcos T H x := by
  have hy := hG.2.2.2 h x ha hx
  obtain ⟨a1, k, k1, k2, k3⟩ := gcos_x hA hG hB hx
  obtain ⟨b1, m, m1, m2, m3⟩ := gcos_x hA hG hB hy
  have hi := hA.2 h ha
  have hib := gCl_i hA hG hX hB ha hb
  refine Nat.le_antisymm ?_ ?_
  · have e : gm T (gm T k (gi T h)) (gm T h x) = gm T k x := by
      rw [hA.1.1 _ _ _ k1 hi.1 hy, ← hA.1.1 _ _ _ hi.1 ha hx, hA.l hG ha, hA.1.2.1 x hx]
    rw [k3, ← e]
    exact b1 _ (hG.2.2.2 _ _ k1 hi.1) (hB.2 _ _ k1 hi.1 k2 hib)
  · rw [m3, ← hA.1.1 _ _ _ m1 ha hx]
    exact a1 _ (hG.2.2.2 _ _ m1 ha) (hB.2 _ _ m1 ha m2 hb)
theorem gcos_lt (hA : gGr T) (hG : gGd T) (hB : gCl T H) (hx : x < gN T) : gcos T H x < gN T := by
  obtain ⟨-, k, k1, k2, k3⟩ := gcos_x hA hG hB hx
  rw [k3]
  exact hG.2.2.2 _ _ k1 hx
theorem gcos_i (hA : gGr T) (hG : gGd T) (hX : gEx T) (hB : gCl T H) (hx : x < gN T) : gcos T H (gcos T H x) = gcos T H x := by
  obtain ⟨-, k, k1, k2, k3⟩ := gcos_x hA hG hB hx
  conv => lhs; rw [k3]
  exact gcos_h hA hG hX hB hx k1 k2
theorem gtr_in (hA : gGr T) (hG : gGd T) (hX : gEx T) (hB : gCl T H) (hH : H < 2 ^ gN T) (ha : h < gN T) (hb : H.testBit h = true) : gtr T H h = H := by
  have hi := hA.2 h ha
  have hib := gCl_i hA hG hX hB ha hb
  refine Nat.eq_of_testBit_eq fun y => ?_
  rw [Bool.eq_iff_iff, gtr_x hG ha]
  constructor
  · rintro ⟨x, x1, x2, rfl⟩
    exact hB.2 _ _ (hG.2.2.2 _ _ hi.1 x1) ha (hB.2 _ _ hi.1 x1 hib x2) hb
  · intro hy
    have hyn := gbit_lt hH hy
    refine ⟨gm T (gm T h y) (gi T h), hG.2.2.2 _ _ (hG.2.2.2 _ _ ha hyn) hi.1, hB.2 _ _ (hG.2.2.2 _ _ ha hyn) hi.1 (hB.2 _ _ ha hyn hb hy) hib, ?_⟩
    rw [← hA.1.1 _ _ _ hi.1 (hG.2.2.2 _ _ ha hyn) hi.1, ← hA.1.1 _ _ _ hi.1 ha hyn, hA.l hG ha, hA.1.2.1 y hyn, hA.1.1 _ _ _ hyn hi.1 ha, hA.l hG ha, hA.1.2.2 y hyn]
theorem gtr_co (hA : gGr T) (hG : gGd T) (hX : gEx T) (hB : gCl T H) (hH : H < 2 ^ gN T) (hx : x < gN T) : gtr T H (gcos T H x) = gtr T H x := by
  obtain ⟨-, k, k1, k2, k3⟩ := gcos_x hA hG hB hx
  rw [k3, ← gtr_cm hA hG k1 hx, gtr_in hA hG hX hB hH k1 k2]
theorem gsr_co (hA : gGr T) (hG : gGd T) (hX : gEx T) (hB : gCl T H) (hx : x < gN T) : gsr T (H ||| 2 ^ gcos T H x) = gsr T (H ||| 2 ^ x) := by
  obtain ⟨-, k, k1, k2, k3⟩ := gcos_x hA hG hB hx
  have hi := hA.2 k k1
  have hib := gCl_i hA hG hX hB k1 k2
  have hy := hG.2.2.2 k x k1 hx
  have key : ∀ C, gCl T C → (gSb (H ||| 2 ^ gcos T H x) C ↔ gSb (H ||| 2 ^ x) C) := fun C hC => by
    rw [k3]
    constructor
    · intro h
      have h1 : gSb H C := fun q hq => h q (gSb.ol _ _ q hq)
      have h2 : C.testBit (gm T k x) = true := h _ (gSb.orr _ _ _ (by rw [Nat.testBit_two_pow, decide_eq_true_iff]))
      refine gSb.or h1 (gSb.p2 ?_)
      have h3 := hC.2 _ _ hi.1 hy (h1 _ hib) h2
      rw [← hA.1.1 _ _ _ hi.1 k1 hx, hA.l hG k1, hA.1.2.1 x hx] at h3
      exact h3
    · intro h
      have h1 : gSb H C := fun q hq => h q (gSb.ol _ _ q hq)
      have h2 : C.testBit x = true := h _ (gSb.orr _ _ _ (by rw [Nat.testBit_two_pow, decide_eq_true_iff]))
      exact gSb.or h1 (gSb.p2 (hC.2 _ _ k1 hx (h1 _ k2) h2))
  refine gsr_c (fun R => ?_)
  constructor
  · rintro ⟨a1, a2, a3, a4⟩
    exact ⟨a1, (key R a3).mp a2, a3, fun C hC hs => a4 C hC ((key C hC).mpr hs)⟩
  · rintro ⟨a1, a2, a3, a4⟩
    exact ⟨a1, (key R a3).mpr a2, a3, fun C hC hs => a4 C hC ((key C hC).mp hs)⟩
end GCG
noncomputable def zmi (T : zGT) (H : Nat) (F : Nat → Int) (x : Nat) : Int := zif (gtr T H x = H ∧ gcos T H x = x) (F x) 0
noncomputable def zcgF (T : zGT) (H : Nat) (f : Nat → Int) : Nat → Int := fun x => f (gsr T (H ||| 2 ^ x))
def zCgr (T : zGT) (H : Nat) (f : Nat → Int) : Prop := ((gmm T H : Nat) : Int) ∣ zsm (zmi T H (zcgF T H f)) (gN T)
section ZCG
variable {T : zGT} {H : Nat} {f : Nat → Int}
end ZCG
def zMss (T : zGT) (H : Nat) (M : zMem) (x : Int) : Prop := True ∧ ∀ f : Nat → Int, zsm (fun k => f (ze M 109 k).toNat) (ze M 81 55).toNat = zsm (zmi T H (zcgF T H f)) x.toNat
section ZMS
variable {T : zGT} {H : Nat} {M N P : zMem} {x : Int} {S C : List Nat}
theorem zMss_0 (h : ze M 81 55 = 0) : zMss T H M 0 := ⟨trivial, fun f => by
  rw [h]
  rfl⟩
theorem zMss_n (h : zMss T H M x) (x0 : 0 ≤ x) (hn : gtr T H x.toNat ≠ H ∨ gcos T H x.toNat ≠ x.toNat) : zMss T H M (x + 1) := ⟨trivial, fun f => by
  rw [h.2 f, show (x + 1).toNat = x.toNat + 1 by omega]
  show _ = zsm (zmi T H (zcgF T H f)) x.toNat + zif (gtr T H x.toNat = H ∧ gcos T H x.toNat = x.toNat) (zcgF T H f x.toNat) 0
  rw [zif_f (fun q => by
    rcases hn with hn | hn
    · exact hn q.1
    · exact hn q.2), Int.add_zero]⟩
theorem zMss_s {v : Int} (h : zMss T H M x) (x0 : 0 ≤ x) (h1 : gtr T H x.toNat = H) (h2 : gcos T H x.toNat = x.toNat) (hv : v = ((gsr T (H ||| 2 ^ x.toNat) : Nat) : Int)) (hN : N = zsI M 109 (ze M 81 55).toNat (Int32.ofInt v)) (hv2 : zn32 v) (hP : zFr [55] [] N P) (h55 : ze P 81 55 = ze M 81 55 + 1) (c0 : 0 ≤ ze M 81 55) : zMss T H P (x + 1) := ⟨trivial, fun f => by
  have e1 : ∀ k : Nat, k < (ze M 81 55).toNat → f (ze P 109 k).toNat = f (ze M 109 k).toNat := fun k hk => by
    rw [hP.ie (by decide) (by decide) k, zs_oth hN (by omega)]
  have e2 : ze P 109 (ze M 81 55).toNat = v := by
    rw [hP.ie (by decide) (by decide)]
    exact zs_get hN hv2
  rw [h55, show (ze M 81 55 + 1).toNat = (ze M 81 55).toNat + 1 by omega, show (x + 1).toNat = x.toNat + 1 by omega]
  show zsm (fun k => f (ze P 109 k).toNat) (ze M 81 55).toNat + f (ze P 109 (ze M 81 55).toNat).toNat = zsm (zmi T H (zcgF T H f)) x.toNat + zif (gtr T H x.toNat = H ∧ gcos T H x.toNat = x.toNat) (zcgF T H f x.toNat) 0
  rw [zif_t ⟨h1, h2⟩, zsm_c _ e1, h.2 f, e2, hv, Int.toNat_natCast]
  rfl⟩
theorem zMss.fr (hf : zFr S C M N) (h : zMss T H M x) (hs : 55 ∉ S) (hc : 109 ∉ C) : zMss T H N x := ⟨trivial, fun f => by
  rw [hf.e hs, ← h.2 f]
  exact zsm_c _ (fun k _ => by rw [hf.ie (by decide) hc k])⟩
end ZMS
theorem gsr_lt {T : zGT} (hT : T ∈ gTabs) (X : Nat) : gsr T X < (gF T).length := by
  have hF := (gT_zTA hT).1.1
  by_cases h : ∃ i : Nat, ∃ R, gLC T X R ∧ zSrt T R ((i : Nat) : Int)
  · have hs := Classical.choose_spec h
    have e : gsr T X = Classical.choose h := by
      unfold gsr
      rw [dif_pos h]
    obtain ⟨R', h1, h2⟩ := hs
    have h3 := h2.1
    rw [e]
    omega
  · unfold gsr
    rw [dif_neg h]
    omega
theorem zsh_2 {k : Int} (k0 : 0 ≤ k) (k1 : k < 31) : (zshl 1 k).toNat = 2 ^ k.toNat := by
  have h : ∀ p : Nat, p < 31 → (zshl 1 (p : Int)).toNat = 2 ^ p := by decide +kernel
  have h2 := h k.toNat (by omega)
  rw [Int.toNat_of_nonneg k0] at h2
  exact h2
theorem norm_in {T : zGT} {H : Nat} {v g : Int} (hv : v = ((zbq (gNb T H) (gN T) : Nat) : Int)) (hg : 0 ≤ g ∧ g < (gN T : Int)) : zbt v g ↔ gtr T H g.toNat = H := by
  show v.toNat.testBit g.toNat = true ↔ _
  rw [hv, Int.toNat_natCast, zbq_t]
  exact ⟨fun q => q.2, fun q => ⟨by omega, q⟩⟩
theorem norm_or {T : zGT} {H : Nat} {v g : Int} (hv : v = ((H : Nat) : Int)) (hH : H < 16777216) (g0 : 0 ≤ g) (g1 : g < 31) : (zor v (zshl 1 g)).toNat = H ||| 2 ^ g.toNat := by
  have h1 := zsh_2 g0 g1
  have h2 : 0 ≤ zshl 1 g := by
    have h : ∀ p : Nat, p < 31 → 0 ≤ zshl 1 (p : Int) := by decide +kernel
    have h3 := h g.toNat (by omega)
    rwa [Int.toNat_of_nonneg g0] at h3
  have h3 : zshl 1 g = ((2 ^ g.toNat : Nat) : Int) := by
    rw [← h1]
    exact (Int.toNat_of_nonneg h2).symm
  have h4 : 2 ^ g.toNat < 2 ^ 31 := Nat.pow_lt_pow_right (by decide) (by omega)
  rw [hv, h3, zor_n _ _ (by omega) (by omega), Int.toNat_natCast]
theorem zsh_0 {k : Int} (k0 : 0 ≤ k) (k1 : k < 31) : 0 ≤ zshl 1 k := by
  have h : ∀ p : Nat, p < 31 → 0 ≤ zshl 1 (p : Int) := by decide +kernel
  have h2 := h k.toNat (by omega)
  rwa [Int.toNat_of_nonneg k0] at h2
def zNb (b : Nat → Int) (n p : Nat) (v : Int) (q : Nat) : Prop := ∃ s t : Nat, ((p < n ∧ b p = 45 ∧ s = p + 1) ∨ (¬ (p < n ∧ b p = 45) ∧ s = p)) ∧ t = zru zpD b n s ∧ (s + 1 ≤ t ∧ t ≤ s + 6) ∧ (t < n → zpB (b t) = true) ∧ ((p < n ∧ b p = 45 ∧ v = -zvl b s (t - s)) ∨ (¬ (p < n ∧ b p = 45) ∧ v = zvl b s (t - s))) ∧ q = zru zpB b n t
def zNs (b : Nat → Int) (n p : Nat) (v : Int) (t : Nat) : Prop := ∃ s : Nat, ((p < n ∧ b p = 45 ∧ s = p + 1) ∨ (¬ (p < n ∧ b p = 45) ∧ s = p)) ∧ t = zru zpD b n s ∧ (s + 1 ≤ t ∧ t ≤ s + 6) ∧ ((p < n ∧ b p = 45 ∧ v = -zvl b s (t - s)) ∨ (¬ (p < n ∧ b p = 45) ∧ v = zvl b s (t - s)))
theorem zNs.b {b : Nat → Int} {n p t q : Nat} {v : Int} (h : zNs b n p v t) (ht : t < n → zpB (b t) = true) (hq : q = zru zpB b n t) : zNb b n p v q := by
  obtain ⟨s, h1, h2, h3, h4⟩ := h
  exact ⟨s, t, h1, h2, h3, ht, h4, hq⟩
def zR82 (b : Nat → Int) (n : Nat) (M : zMem) : Prop := n ≤ 700 ∧ zBy b n ∧ ∀ k, k < n → ze M 82 k = b k
theorem zR82.fr {b : Nat → Int} {n : Nat} {S C : List Nat} {M N : zMem} (hf : zFr S C M N) (h : zR82 b n M) (_ : True) (hc : 82 ∉ C) : zR82 b n N := ⟨h.1, h.2.1, fun k hk => (hf.ie (by decide) hc k).trans (h.2.2 k hk)⟩
set_option maxHeartbeats 4000000 in
theorem c_M_laysMadeS (l : Launch) (Mz : zMem) (hW : zMt Mz) (a0_ : Int) (ha0_a : -2147483648 ≤ a0_) (ha0_b : a0_ < 2147483648) (T : zGT) (hO : gOK T) (hX : gEx T) (p0_ : zGB T Mz) (p1_ : 0 ≤ a0_) (p2_ : a0_ < ze Mz 81 26) : zC l m_M_laysMade 0 0 [.ref 81, .int (Int32.ofInt a0_)] Mz (zpV [55] [109] Mz (fun N => zMq T a0_ N ∧ 1 ≤ ze N 81 55 ∧ ze N 81 55 ≤ 24 ∧ zMss T (gFn T (a0_).toNat) N (gN T : Int))) := by
  refine zC_of (L0 := [some (.ref 81), some (.int (Int32.ofInt a0_)), none, none, none]) md_M_laysMade (Nat.le_of_ble_eq_true rfl) rfl ?_ zQ0
  have hf : zFr [55] [109] Mz Mz := zFr.rf
  have r_20 := ze_r Mz 81 20
  have r_26 := ze_r Mz 81 26
  have r_55 := ze_r Mz 81 55
  have hG := hO.1
  have g24 := hG.2.1
  have g1 := hG.1
  have dv0 : zTab T Mz := p0_.1
  have dv1 : zB 85 144 0 5 Mz := p0_.2.1
  have dv2 : zJX T Mz := p0_.2.2.1
  have dv3 : zFirs T Mz := p0_.2.2.2.1
  have dv4 : zSSm T Mz := p0_.2.2.2.2.1
  have dv5 : zGD Mz := zGB.d hO p0_
  have gb := dv5.1
  have gn := dv0.1
  have gfl := dv3.1
  have gf6 := gF_pos hO
  have gxl := hX.2.1
  have hfz := dv3.2 (a0_).toNat (by omega)
  have hfg := dv3.g hO (e := a0_) (by omega) (by omega)
  have hH_ : (ze Mz 91 (a0_).toNat).toNat = (gFn T (a0_).toNat) := by rw [hfz]; rfl
  refine zw_aload_n (pc := 0) (n := 0) (x := 81) rfl (zdal_p dlD_M_laysMade_81 (i := 0) rfl) ?_
  refine zr_getF (r := 91) (hf.w hW) (pc := 1) f_M_44 rfl (zh_91 (hf.w hW)).1 (zdal_p dlD_M_laysMade_81 (i := 1) rfl) ?_
  refine zw_iload_n (pc := 4) (n := 1) (x := Int32.ofInt a0_) rfl (zdal_p dlD_M_laysMade_81 (i := 2) rfl) ?_
  refine zr_ialdn (pc := 5) (zh_91 (hf.w hW)).2 (by decide) (by omega) (by omega) (zdal_p dlD_M_laysMade_81 (i := 3) rfl) (fun v1_ hv1_ hv1_a hv1_b => ?_)
  refine zr_toI (show v1_ = ze Mz 91 (a0_).toNat by omega) ?_
  refine zw_istore_n (pc := 6) (i := 2) (L2 := [some (.ref 81), some (.int (Int32.ofInt a0_)), some (.int (Int32.ofInt (ze Mz 91 (a0_).toNat))), none, none]) rfl (by decide) rfl (zdal_p dlD_M_laysMade_81 (i := 4) rfl) ?_
  refine zw_aload_n (pc := 7) (n := 0) (x := 81) rfl (zdal_p dlD_M_laysMade_81 (i := 5) rfl) ?_
  refine zw_iload_n (pc := 8) (n := 2) (x := Int32.ofInt (ze Mz 91 (a0_).toNat)) rfl (zdal_p dlD_M_laysMade_81 (i := 6) rfl) ?_
  refine zr_callV (hf.w hW) hf.x (pc := 9) [.int (Int32.ofInt (ze Mz 91 (a0_).toNat))] [] l_M_417 (c_M_normOfF l Mz (hf.w hW) (ze Mz 91 (a0_).toNat) (by omega) (by omega) T hO p0_ (show 0 ≤ (ze Mz 91 (a0_).toNat) by first | with_reducible assumption | assumption | omega) (show (ze Mz 91 (a0_).toNat) < 16777216 by first | with_reducible assumption | assumption | omega)) rfl rfl rfl (by decide) (Nat.le_of_ble_eq_true rfl) (zdal_p dlD_M_laysMade_81 (i := 7) rfl) ?_
  rintro _ N2_ ⟨v3_, rfl, ⟨hv3_a, hv3_b⟩, hsN2_, ⟨hp0_N2_, hp1_N2_, hp2_N2_⟩⟩
  obtain rfl := hsN2_.eq.symm
  show zW l m_M_laysMade (zn Mz + 0, zw Mz + 0) Mz 12 [some (.ref 81), some (.int (Int32.ofInt a0_)), some (.int (Int32.ofInt (ze Mz 91 (a0_).toNat))), none, none] [.int (Int32.ofInt v3_)] _
  have hnm_ := hp2_N2_
  refine zw_istore_n (pc := 12) (i := 3) (L2 := [some (.ref 81), some (.int (Int32.ofInt a0_)), some (.int (Int32.ofInt (ze Mz 91 (a0_).toNat))), some (.int (Int32.ofInt v3_)), none]) rfl (by decide) rfl (zdal_p dlD_M_laysMade_81 (i := 8) rfl) ?_
  refine zw_aload_n (pc := 13) (n := 0) (x := 81) rfl (zdal_p dlD_M_laysMade_81 (i := 9) rfl) ?_
  refine zw_iconst (pc := 14) (v := Int32.ofInt 0) (by decide) (zdal_p dlD_M_laysMade_81 (i := 10) rfl) ?_
  refine zr_putI (hf.w hW) (pc := 15) f_M_453 rfl rfl ⟨by omega, by omega⟩ rfl rfl (zdal_p dlD_M_laysMade_81 (i := 11) rfl) (fun N4_ hsN4_ hvN4_ => ?_)
  have hf_N4_ : zFr [55] [109] Mz N4_ := hf.tr hsN4_ (by decide) (by decide)
  have e20_N4_ : ze N4_ 81 20 = ze Mz 81 20 := hsN4_.e (by decide)
  have e26_N4_ : ze N4_ 81 26 = ze Mz 81 26 := hsN4_.e (by decide)
  have r55_N4_ := ze_r N4_ 81 55
  have c5_ : zGB T N4_ := zGB.fr hsN4_ p0_ (by decide) (by decide)
  have c6_ : zTab T N4_ := zTab.fr hsN4_ dv0 (by decide) (by decide)
  have c7_ : zB 85 144 0 5 N4_ := zB.fr hsN4_ dv1 (by decide) (by decide)
  have c8_ : zJX T N4_ := zJX.fr hsN4_ dv2 (by decide) (by decide)
  have c9_ : zFirs T N4_ := zFirs.fr hsN4_ dv3 (by decide) (by decide)
  have c10_ : zSSm T N4_ := zSSm.fr hsN4_ dv4 (by decide) (by decide)
  have c11_ : zGD N4_ := zGD.fr hsN4_ dv5 (by decide) (by decide)
  refine zw_iconst (pc := 18) (v := Int32.ofInt 0) (by decide) (zdal_p dlD_M_laysMade_81 (i := 12) rfl) ?_
  refine zw_istore (pc := 19) (i := 4) (L2 := [some (.ref 81), some (.int (Int32.ofInt a0_)), some (.int (Int32.ofInt (ze Mz 91 (a0_).toNat))), some (.int (Int32.ofInt v3_)), some (.int (Int32.ofInt 0))]) (by decide) rfl (zdal_p dlD_M_laysMade_81 (i := 13) rfl) ?_
  have lp_21 : ∀ (n : Nat) (u12_ : Int) (hu12_a : -2147483648 ≤ u12_) (hu12_b : u12_ < 2147483648) (N13_ : zMem) (hs14_ : zFr [55] [109] N4_ N13_) (i15_ : 0 ≤ u12_) (i16_ : zMl T a0_ N13_ u12_) (i17_ : u12_ ≤ ze Mz 81 20) (i18_ : 0 ≤ ze N13_ 81 55) (i19_ : ze N13_ 81 55 ≤ u12_) (i20_ : zMss T (gFn T (a0_).toNat) N13_ u12_), (ze Mz 81 20 - u12_).toNat < n → zW l m_M_laysMade (zn Mz + 0, zw Mz + 0) N13_ 21 [some (.ref 81), some (.int (Int32.ofInt a0_)), some (.int (Int32.ofInt (ze Mz 91 (a0_).toNat))), some (.int (Int32.ofInt v3_)), some (.int (Int32.ofInt u12_))] [] (zpV [55] [109] Mz (fun N => zMq T a0_ N ∧ 1 ≤ ze N 81 55 ∧ ze N 81 55 ≤ 24 ∧ zMss T (gFn T (a0_).toNat) N (gN T : Int))) := by
    intro n
    induction n with
    | zero =>
      intro u12_ hu12_a hu12_b N13_ hs14_ i15_ i16_ i17_ i18_ i19_ i20_ h0
      exact absurd h0 (Nat.not_lt_zero _)
    | succ n ih_21 =>
      intro u12_ hu12_a hu12_b N13_ hs14_ i15_ i16_ i17_ i18_ i19_ i20_ hlt_21
      have hf_N13_ : zFr [55] [109] Mz N13_ := hf_N4_.tr hs14_ (by decide) (by decide)
      have e20_N13_ : ze N13_ 81 20 = ze N4_ 81 20 := hs14_.e (by decide)
      have e26_N13_ : ze N13_ 81 26 = ze N4_ 81 26 := hs14_.e (by decide)
      have r55_N13_ := ze_r N13_ 81 55
      have c21_ : zGB T N13_ := zGB.fr hs14_ c5_ (by decide) (by decide)
      have c22_ : zTab T N13_ := zTab.fr hs14_ c6_ (by decide) (by decide)
      have c23_ : zB 85 144 0 5 N13_ := zB.fr hs14_ c7_ (by decide) (by decide)
      have c24_ : zJX T N13_ := zJX.fr hs14_ c8_ (by decide) (by decide)
      have c25_ : zFirs T N13_ := zFirs.fr hs14_ c9_ (by decide) (by decide)
      have c26_ : zSSm T N13_ := zSSm.fr hs14_ c10_ (by decide) (by decide)
      have c27_ : zGD N13_ := zGD.fr hs14_ c11_ (by decide) (by decide)
      have hms0_ := (show zMss T (gFn T (a0_).toNat) N13_ u12_ by first | with_reducible assumption | assumption)
      refine zw_iload (pc := 21) (i := 4) (x := Int32.ofInt u12_) rfl (zdal_p dlD_M_laysMade_81 (i := 14) rfl) ?_
      refine zw_aload_n (pc := 23) (n := 0) (x := 81) rfl (zdal_p dlD_M_laysMade_81 (i := 15) rfl) ?_
      refine zr_getI0 hf_N13_ hW (pc := 24) (by decide) f_M_196 rfl (zdal_p dlD_M_laysMade_81 (i := 16) rfl) ?_
      refine zr_icmp_ge (pc := 27) (tgt := 93) ⟨hu12_a, hu12_b⟩ ⟨(ze_r Mz 81 20).1, (ze_r Mz 81 20).2⟩ (by decide) (zdal_p dlD_M_laysMade_81 (i := 17) rfl) (fun hc_27 => ?_) (fun hc_27 => ?_)
      · skip
        have hMd_ := zMl_e hG (show zMl T a0_ N13_ u12_ by first | with_reducible assumption | assumption) (by omega)
        have hMd1_ := hMd_.1
        exact zr_vret (pc := 93) rfl hf_N13_ ⟨(show zMq T a0_ N13_ by exact hMd_), (show 1 ≤ ze N13_ 81 55 by first | with_reducible assumption | assumption | omega), (show ze N13_ 81 55 ≤ 24 by first | with_reducible assumption | assumption | omega), (show zMss T (gFn T (a0_).toNat) N13_ (gN T : Int) by have h_ := hms0_; rw [show u12_ = (gN T : Int) by omega] at h_; exact h_)⟩ (zdal_p dlD_M_laysMade_83 (i := 3) rfl)
      · skip
        refine zw_iload_n (pc := 30) (n := 3) (x := Int32.ofInt v3_) rfl (zdal_p dlD_M_laysMade_81 (i := 18) rfl) ?_
        refine zw_iload (pc := 31) (i := 4) (x := Int32.ofInt u12_) rfl (zdal_p dlD_M_laysMade_81 (i := 19) rfl) ?_
        refine zr_callS hf_N13_.x (pc := 33) [.int (Int32.ofInt v3_), .int (Int32.ofInt u12_)] [] l_M_213 (c_M_holds l N13_ (hf_N13_.w hW) v3_ hv3_a hv3_b u12_ hu12_a hu12_b (show 0 ≤ v3_ by first | with_reducible assumption | assumption | omega) (show 0 ≤ u12_ by first | with_reducible assumption | assumption | omega) (show u12_ < 32 by first | with_reducible assumption | assumption | omega)) rfl rfl (by decide) (Nat.le_of_ble_eq_true rfl) (zdal_p dlD_M_laysMade_81 (i := 20) rfl) ?_
        rintro _ N28_ ⟨v29_, rfl, ⟨hv29_a, hv29_b⟩, hsN28_, hp0_N28_⟩
        obtain rfl := hsN28_.eq.symm
        replace hp0_N28_ : ((v29_ = 1 ∧ zbt v3_ u12_) ∨ (v29_ = 0 ∧ ¬ zbt v3_ u12_)) := hp0_N28_
        rcases hp0_N28_ with ⟨rfl, ha33_0_hp0_N28_⟩ | ⟨rfl, ha33_0_hp0_N28_⟩
        · skip
          have hnt_ := (hnm_ (u12_).toNat (by omega)).mp ha33_0_hp0_N28_
          show zW l m_M_laysMade (zn Mz + 0, zw Mz + 0) N13_ 36 [some (.ref 81), some (.int (Int32.ofInt a0_)), some (.int (Int32.ofInt (ze Mz 91 (a0_).toNat))), some (.int (Int32.ofInt v3_)), some (.int (Int32.ofInt u12_))] [.int (Int32.ofInt 1)] _
          refine zr_if_eq (pc := 36) (tgt := 87) ⟨(by decide), (by decide)⟩ (by decide) (zdal_p dlD_M_laysMade_81 (i := 21) rfl) (fun hc_36 => ?_) (fun hc_36 => ?_)
          · skip
            exact absurd hc_36 (by decide)
          · skip
            refine zw_aload_n (pc := 39) (n := 0) (x := 81) rfl (zdal_p dlD_M_laysMade_81 (i := 22) rfl) ?_
            refine zw_iload_n (pc := 40) (n := 2) (x := Int32.ofInt (ze Mz 91 (a0_).toNat)) rfl (zdal_p dlD_M_laysMade_81 (i := 23) rfl) ?_
            refine zw_iload (pc := 41) (i := 4) (x := Int32.ofInt u12_) rfl (zdal_p dlD_M_laysMade_82 (i := 0) rfl) ?_
            refine zr_callV (hf_N13_.w hW) hf_N13_.x (pc := 43) [.int (Int32.ofInt (ze Mz 91 (a0_).toNat)), .int (Int32.ofInt u12_)] [] l_M_247 (c_M_leastOf l N13_ (hf_N13_.w hW) (ze Mz 91 (a0_).toNat) (by omega) (by omega) u12_ hu12_a hu12_b T hG c22_ (show 0 ≤ (ze Mz 91 (a0_).toNat) by first | with_reducible assumption | assumption | omega) (show 0 ≤ u12_ by first | with_reducible assumption | assumption | omega) (show u12_ < ze N13_ 81 20 by first | with_reducible assumption | assumption | omega)) rfl rfl rfl (by decide) (Nat.le_of_ble_eq_true rfl) (zdal_p dlD_M_laysMade_82 (i := 1) rfl) ?_
            rintro _ N30_ ⟨v31_, rfl, ⟨hv31_a, hv31_b⟩, hsN30_, ⟨hp0_N30_, hp1_N30_, hp2_N30_⟩⟩
            obtain rfl := hsN30_.eq.symm
            show zW l m_M_laysMade (zn Mz + 0, zw Mz + 0) N13_ 46 [some (.ref 81), some (.int (Int32.ofInt a0_)), some (.int (Int32.ofInt (ze Mz 91 (a0_).toNat))), some (.int (Int32.ofInt v3_)), some (.int (Int32.ofInt u12_))] [.int (Int32.ofInt v31_)] _
            refine zw_iload (pc := 46) (i := 4) (x := Int32.ofInt u12_) rfl (zdal_p dlD_M_laysMade_82 (i := 2) rfl) ?_
            refine zr_icmp_eq (pc := 48) (tgt := 54) ⟨hv31_a, hv31_b⟩ ⟨hu12_a, hu12_b⟩ (by decide) (zdal_p dlD_M_laysMade_82 (i := 3) rfl) (fun hc_48 => ?_) (fun hc_48 => ?_)
            · skip
              refine zw_aload_n (pc := 54) (n := 0) (x := 81) rfl (zdal_p dlD_M_laysMade_82 (i := 5) rfl) ?_
              refine zr_getF (r := 109) (hf_N13_.w hW) (pc := 55) f_M_99 rfl (zh_109 (hf_N13_.w hW)).1 (zdal_p dlD_M_laysMade_82 (i := 6) rfl) ?_
              refine zw_aload_n (pc := 58) (n := 0) (x := 81) rfl (zdal_p dlD_M_laysMade_82 (i := 7) rfl) ?_
              refine zr_getI (hf_N13_.w hW) (pc := 59) f_M_453 rfl (zdal_p dlD_M_laysMade_82 (i := 8) rfl) ?_
              refine zw_aload_n (pc := 62) (n := 0) (x := 81) rfl (zdal_p dlD_M_laysMade_82 (i := 9) rfl) ?_
              refine zw_aload_n (pc := 63) (n := 0) (x := 81) rfl (zdal_p dlD_M_laysMade_82 (i := 10) rfl) ?_
              refine zw_iload_n (pc := 64) (n := 2) (x := Int32.ofInt (ze Mz 91 (a0_).toNat)) rfl (zdal_p dlD_M_laysMade_82 (i := 11) rfl) ?_
              refine zw_iconst (pc := 65) (v := Int32.ofInt 1) (by decide) (zdal_p dlD_M_laysMade_82 (i := 12) rfl) ?_
              refine zw_iload (pc := 66) (i := 4) (x := Int32.ofInt u12_) rfl (zdal_p dlD_M_laysMade_82 (i := 13) rfl) ?_
              refine zr_ishl (pc := 68) (zdal_p dlD_M_laysMade_82 (i := 14) rfl) ?_
              have hr32_ := zshl_r 1 u12_
              have hgi_ := gIn_or hG (x := (ze Mz 91 (a0_).toNat)) (g := u12_) (by omega) (hfg.1.i hO).2 (by omega) (by omega)
              refine zr_ior (pc := 69) (zdal_p dlD_M_laysMade_82 (i := 15) rfl) ?_
              have hr33_ := zor_r (ze Mz 91 (a0_).toNat) (zshl 1 u12_)
              refine zr_callV (hf_N13_.w hW) hf_N13_.x (pc := 70) [.int (Int32.ofInt (zor (ze Mz 91 (a0_).toNat) (zshl 1 u12_)))] [.ref 81, .int (Int32.ofInt (ze N13_ 81 55)), .ref 109] l_M_229 (c_M_closed l N13_ (hf_N13_.w hW) (zor (ze Mz 91 (a0_).toNat) (zshl 1 u12_)) (by omega) (by omega) T hG c22_ (show gIn T (zor (ze Mz 91 (a0_).toNat) (zshl 1 u12_)) by exact hgi_.1)) rfl rfl rfl (by decide) (Nat.le_of_ble_eq_true rfl) (zdal_p dlD_M_laysMade_82 (i := 16) rfl) ?_
              rintro _ N34_ ⟨v35_, rfl, ⟨hv35_a, hv35_b⟩, hsN34_, ⟨hp0_N34_, hp1_N34_, hp2_N34_⟩⟩
              obtain rfl := hsN34_.eq.symm
              show zW l m_M_laysMade (zn Mz + 0, zw Mz + 0) N13_ 73 [some (.ref 81), some (.int (Int32.ofInt a0_)), some (.int (Int32.ofInt (ze Mz 91 (a0_).toNat))), some (.int (Int32.ofInt v3_)), some (.int (Int32.ofInt u12_))] [.int (Int32.ofInt v35_), .ref 81, .int (Int32.ofInt (ze N13_ 81 55)), .ref 109] _
              have hLC_ := hp0_N34_
              rw [hgi_.2] at hLC_
              have hm_N13_ := gMe_c hO hp0_N34_ (by omega)
              refine zr_callV (hf_N13_.w hW) hf_N13_.x (pc := 73) [.int (Int32.ofInt v35_)] [.int (Int32.ofInt (ze N13_ 81 55)), .ref 109] l_M_411 (c_M_sortOfSetF l N13_ (hf_N13_.w hW) v35_ hv35_a hv35_b T hO c21_ (show gMe T v35_ by first | with_reducible assumption | assumption)) rfl rfl rfl (by decide) (Nat.le_of_ble_eq_true rfl) (zdal_p dlD_M_laysMade_82 (i := 17) rfl) ?_
              rintro _ N36_ ⟨v37_, rfl, ⟨hv37_a, hv37_b⟩, hsN36_, ⟨hp0_N36_, hp1_N36_, hp2_N36_⟩⟩
              obtain rfl := hsN36_.eq.symm
              show zW l m_M_laysMade (zn Mz + 0, zw Mz + 0) N13_ 76 [some (.ref 81), some (.int (Int32.ofInt a0_)), some (.int (Int32.ofInt (ze Mz 91 (a0_).toNat))), some (.int (Int32.ofInt v3_)), some (.int (Int32.ofInt u12_))] [.int (Int32.ofInt v37_), .int (Int32.ofInt (ze N13_ 81 55)), .ref 109] _
              have hgl_ := hp2_N36_
              have hFi_ := c25_
              have hg0_ := hp0_N36_
              have hg1_ := hp1_N36_
              have hgs_ : v37_ = ((gsr T ((gFn T (a0_).toNat) ||| 2 ^ (u12_).toNat) : Nat) : Int) := gsr_u hO (by rw [← hH_]; exact hLC_) ⟨⟨hg0_, by omega⟩, Int.ofNat_inj.mp ((hFi_.2 _ (by omega)).symm.trans hgl_)⟩
              refine zr_iast (pc := 76) (zh_109 (hf_N13_.w hW)).2 (by decide) (by decide) (by omega) (by omega) (zdal_p dlD_M_laysMade_82 (i := 18) rfl) (fun N38_ hN38_ hsN38_ => ?_)
              have hf_N38_ : zFr [55] [109] Mz N38_ := hf_N13_.tr hsN38_ (by decide) (by decide)
              have hb0_N38_ : zFr [55] [109] N4_ N38_ := hs14_.tr hsN38_ (by decide) (by decide)
              have e20_N38_ : ze N38_ 81 20 = ze N13_ 81 20 := hsN38_.e (by decide)
              have e26_N38_ : ze N38_ 81 26 = ze N13_ 81 26 := hsN38_.e (by decide)
              have e55_N38_ : ze N38_ 81 55 = ze N13_ 81 55 := hsN38_.e (by decide)
              have c39_ : zGB T N38_ := zGB.fr hsN38_ c21_ (by decide) (by decide)
              have c40_ : zTab T N38_ := zTab.fr hsN38_ c22_ (by decide) (by decide)
              have c41_ : zB 85 144 0 5 N38_ := zB.fr hsN38_ c23_ (by decide) (by decide)
              have c42_ : zJX T N38_ := zJX.fr hsN38_ c24_ (by decide) (by decide)
              have c43_ : zFirs T N38_ := zFirs.fr hsN38_ c25_ (by decide) (by decide)
              have c44_ : zSSm T N38_ := zSSm.fr hsN38_ c26_ (by decide) (by decide)
              have c45_ : zGD N38_ := zGD.fr hsN38_ c27_ (by decide) (by decide)
              refine zw_aload_n (pc := 77) (n := 0) (x := 81) rfl (zdal_p dlD_M_laysMade_82 (i := 19) rfl) ?_
              refine zw_dup (pc := 78) rfl (zdal_p dlD_M_laysMade_82 (i := 20) rfl) ?_
              refine zr_getI (hf_N38_.w hW) (pc := 79) f_M_453 rfl (zdal_p dlD_M_laysMade_82 (i := 21) rfl) ?_
              refine zw_iconst (pc := 82) (v := Int32.ofInt 1) (by decide) (zdal_p dlD_M_laysMade_82 (i := 22) rfl) ?_
              refine zr_iadd (pc := 83) (zdal_p dlD_M_laysMade_82 (i := 23) rfl) ?_
              refine zr_putI (hf_N38_.w hW) (pc := 84) f_M_453 rfl rfl ⟨by omega, by omega⟩ rfl rfl (zdal_p dlD_M_laysMade_83 (i := 0) rfl) (fun N46_ hsN46_ hvN46_ => ?_)
              have hf_N46_ : zFr [55] [109] Mz N46_ := hf_N38_.tr hsN46_ (by decide) (by decide)
              have hb0_N46_ : zFr [55] [109] N4_ N46_ := hb0_N38_.tr hsN46_ (by decide) (by decide)
              have e20_N46_ : ze N46_ 81 20 = ze N38_ 81 20 := hsN46_.e (by decide)
              have e26_N46_ : ze N46_ 81 26 = ze N38_ 81 26 := hsN46_.e (by decide)
              have r55_N46_ := ze_r N46_ 81 55
              have c47_ : zGB T N46_ := zGB.fr hsN46_ c39_ (by decide) (by decide)
              have c48_ : zTab T N46_ := zTab.fr hsN46_ c40_ (by decide) (by decide)
              have c49_ : zB 85 144 0 5 N46_ := zB.fr hsN46_ c41_ (by decide) (by decide)
              have c50_ : zJX T N46_ := zJX.fr hsN46_ c42_ (by decide) (by decide)
              have c51_ : zFirs T N46_ := zFirs.fr hsN46_ c43_ (by decide) (by decide)
              have c52_ : zSSm T N46_ := zSSm.fr hsN46_ c44_ (by decide) (by decide)
              have c53_ : zGD N46_ := zGD.fr hsN46_ c45_ (by decide) (by decide)
              have hns_ := zMl_s hO hX hFi_ (show zMl T a0_ N13_ u12_ by first | with_reducible assumption | assumption) (by omega) (by omega) (by omega) (by omega) (F := (ze Mz 91 (a0_).toNat)) (by omega) hnt_ (by omega) hLC_ (by omega) (by omega) hgl_ hN38_ hsN46_ (by omega)
              have hms_ := zMss_s (show zMss T (gFn T (a0_).toNat) N13_ u12_ by first | with_reducible assumption | assumption) (by omega) (by rw [← hH_]; exact hnt_) (by rw [← hH_]; omega) hgs_ hN38_ ⟨by omega, by omega⟩ hsN46_ (by omega) (by omega)
              refine zr_iinc (pc := 87) (i := 4) (a := u12_) (n := 1) (L2 := [some (.ref 81), some (.int (Int32.ofInt a0_)), some (.int (Int32.ofInt (ze Mz 91 (a0_).toNat))), some (.int (Int32.ofInt v3_)), some (.int (Int32.ofInt (u12_ + 1)))]) rfl (by decide) rfl d_M_laysMade_87 ?_
              refine zw_goto (pc := 90) (tgt := 21) (by decide) d_M_laysMade_90 ?_
              exact ih_21 (u12_ + 1) (by omega) (by omega) N46_ hb0_N46_ (show 0 ≤ (u12_ + 1) by first | with_reducible assumption | assumption | omega) (show zMl T a0_ N46_ (u12_ + 1) by exact hns_) (show (u12_ + 1) ≤ ze Mz 81 20 by first | with_reducible assumption | assumption | omega) (show 0 ≤ ze N46_ 81 55 by first | with_reducible assumption | assumption | omega) (show ze N46_ 81 55 ≤ (u12_ + 1) by first | with_reducible assumption | assumption | omega) (show zMss T (gFn T (a0_).toNat) N46_ (u12_ + 1) by first | exact hms_ | exact hmn_) (by omega)
            · skip
              have hns_ := zMl_n hO hX (show zMl T a0_ N13_ u12_ by first | with_reducible assumption | assumption) (by omega) (by omega) (by omega) (F := (ze Mz 91 (a0_).toNat)) (by omega) (Or.inr (by omega))
              have hmn_ := zMss_n hms0_ (by omega) (Or.inr (by rw [← hH_]; omega))
              refine zw_goto (pc := 51) (tgt := 87) (by decide) (zdal_p dlD_M_laysMade_82 (i := 4) rfl) ?_
              refine zr_iinc (pc := 87) (i := 4) (a := u12_) (n := 1) (L2 := [some (.ref 81), some (.int (Int32.ofInt a0_)), some (.int (Int32.ofInt (ze Mz 91 (a0_).toNat))), some (.int (Int32.ofInt v3_)), some (.int (Int32.ofInt (u12_ + 1)))]) rfl (by decide) rfl d_M_laysMade_87 ?_
              refine zw_goto (pc := 90) (tgt := 21) (by decide) d_M_laysMade_90 ?_
              exact ih_21 (u12_ + 1) (by omega) (by omega) N13_ hs14_ (show 0 ≤ (u12_ + 1) by first | with_reducible assumption | assumption | omega) (show zMl T a0_ N13_ (u12_ + 1) by exact hns_) (show (u12_ + 1) ≤ ze Mz 81 20 by first | with_reducible assumption | assumption | omega) (show 0 ≤ ze N13_ 81 55 by first | with_reducible assumption | assumption | omega) (show ze N13_ 81 55 ≤ (u12_ + 1) by first | with_reducible assumption | assumption | omega) (show zMss T (gFn T (a0_).toNat) N13_ (u12_ + 1) by first | exact hms_ | exact hmn_) (by omega)
        · skip
          have hns_ := zMl_n hO hX (show zMl T a0_ N13_ u12_ by first | with_reducible assumption | assumption) (by omega) (by omega) (by omega) (F := (ze Mz 91 (a0_).toNat)) (by omega) (Or.inl (fun e => ha33_0_hp0_N28_ ((hnm_ (u12_).toNat (by omega)).mpr e)))
          have hmn_ := zMss_n hms0_ (by omega) (Or.inl (fun e => ha33_0_hp0_N28_ ((hnm_ (u12_).toNat (by omega)).mpr (by rw [hH_]; exact e))))
          show zW l m_M_laysMade (zn Mz + 0, zw Mz + 0) N13_ 36 [some (.ref 81), some (.int (Int32.ofInt a0_)), some (.int (Int32.ofInt (ze Mz 91 (a0_).toNat))), some (.int (Int32.ofInt v3_)), some (.int (Int32.ofInt u12_))] [.int (Int32.ofInt 0)] _
          refine zr_if_eq (pc := 36) (tgt := 87) ⟨(by decide), (by decide)⟩ (by decide) (zdal_p dlD_M_laysMade_81 (i := 21) rfl) (fun hc_36 => ?_) (fun hc_36 => ?_)
          · skip
            refine zr_iinc (pc := 87) (i := 4) (a := u12_) (n := 1) (L2 := [some (.ref 81), some (.int (Int32.ofInt a0_)), some (.int (Int32.ofInt (ze Mz 91 (a0_).toNat))), some (.int (Int32.ofInt v3_)), some (.int (Int32.ofInt (u12_ + 1)))]) rfl (by decide) rfl d_M_laysMade_87 ?_
            refine zw_goto (pc := 90) (tgt := 21) (by decide) d_M_laysMade_90 ?_
            exact ih_21 (u12_ + 1) (by omega) (by omega) N13_ hs14_ (show 0 ≤ (u12_ + 1) by first | with_reducible assumption | assumption | omega) (show zMl T a0_ N13_ (u12_ + 1) by exact hns_) (show (u12_ + 1) ≤ ze Mz 81 20 by first | with_reducible assumption | assumption | omega) (show 0 ≤ ze N13_ 81 55 by first | with_reducible assumption | assumption | omega) (show ze N13_ 81 55 ≤ (u12_ + 1) by first | with_reducible assumption | assumption | omega) (show zMss T (gFn T (a0_).toNat) N13_ (u12_ + 1) by first | exact hms_ | exact hmn_) (by omega)
          · skip
            exact absurd hc_36 (by decide)
  exact lp_21 _ 0 (by decide) (by decide) N4_ zFr.rf (show 0 ≤ (0 : Int) by first | with_reducible assumption | assumption | omega) (show zMl T a0_ N4_ (0 : Int) by exact zMl_0 (by omega)) (show (0 : Int) ≤ ze Mz 81 20 by first | with_reducible assumption | assumption | omega) (show 0 ≤ ze N4_ 81 55 by first | with_reducible assumption | assumption | omega) (show ze N4_ 81 55 ≤ (0 : Int) by first | with_reducible assumption | assumption | omega) (show zMss T (gFn T (a0_).toNat) N4_ (0 : Int) by exact zMss_0 (by omega)) (Nat.lt_succ_self _)
