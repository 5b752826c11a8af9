abbrev zSg : Type := (Nat → Int) × Nat × (Nat → Nat → Int)
def zpush (s : zSg) (e : Nat → Int) : zSg := (e, if s.2.1 = 12 then 12 else s.2.1 + 1, fun m => if s.2.1 = 12 then (if m = 11 then s.1 else s.2.2 (m + 1)) else if m = s.2.1 then s.1 else s.2.2 m)
def zpop (s : zSg) : zSg := (s.2.2 (s.2.1 - 1), s.2.1 - 1, s.2.2)
def zgrw (e : Nat → Int) (n m i : Int) : Nat → Int := fun k => n * e k + if (k : Int) = i then m else 0
def zlm (F : Nat) (e : Nat → Int) : Prop := ∀ k, k < F → -zLim ≤ e k ∧ e k ≤ zLim
def zSB (F : Nat) (s : zSg) : Prop := zlm F s.1 ∧ s.2.1 ≤ 12 ∧ ∀ m, m < s.2.1 → zlm F (s.2.2 m)
theorem zSB.push {F : Nat} {s : zSg} {e : Nat → Int} (h : zSB F s) (he : zlm F e) : zSB F (zpush s e) := by
  obtain ⟨h1, h2, h3⟩ := h
  refine ⟨he, ?_, fun m hm => ?_⟩
  · show (if s.2.1 = 12 then 12 else s.2.1 + 1) ≤ 12
    by_cases g : s.2.1 = 12
    · rw [if_pos g]
      exact Nat.le_refl _
    · rw [if_neg g]
      omega
  · have hm2 : m < (if s.2.1 = 12 then 12 else s.2.1 + 1) := hm
    show zlm F (if s.2.1 = 12 then (if m = 11 then s.1 else s.2.2 (m + 1)) else if m = s.2.1 then s.1 else s.2.2 m)
    by_cases g : s.2.1 = 12
    · rw [if_pos g] at hm2
      rw [if_pos g]
      by_cases g2 : m = 11
      · rw [if_pos g2]
        exact h1
      · rw [if_neg g2]
        exact h3 _ (by omega)
    · rw [if_neg g] at hm2
      rw [if_neg g]
      by_cases g2 : m = s.2.1
      · rw [if_pos g2]
        exact h1
      · rw [if_neg g2]
        exact h3 _ (by omega)
theorem zSB.pop {F : Nat} {s : zSg} (h : zSB F s) (hc : 1 ≤ s.2.1) : zSB F (zpop s) := by
  obtain ⟨h1, h2, h3⟩ := h
  refine ⟨h3 _ (by omega), ?_, fun m hm => ?_⟩
  · show s.2.1 - 1 ≤ 12
    omega
  · have hm2 : m < s.2.1 - 1 := hm
    exact h3 m (by omega)
theorem zSB_0 {F : Nat} {P : Nat → Nat → Int} : zSB F (fun _ => 0, 0, P) := ⟨fun _ _ => by
  show -zLim ≤ (0 : Int) ∧ (0 : Int) ≤ zLim
  unfold zLim
  omega, Nat.zero_le _, fun m hm => absurd hm (Nat.not_lt_zero m)⟩
theorem zfit.lm {F : Nat} {K : Nat → Nat → Int} {e : Nat → Int} (h : zfit F K e) : zlm F e := fun k hk => (h k hk).1
theorem zlm_c {F : Nat} {e f : Nat → Int} (h : zlm F e) (hc : ∀ k, k < F → f k = e k) : zlm F f := fun k hk => by
  rw [hc k hk]
  exact h k hk
def zSK (F : Nat) (s : zSg) (d : Nat) (M : zMem) : Prop := (ze M (d + 0) 7 = (s.2.1 : Int) ∧ s.2.1 ≤ 12) ∧ (0 ≤ ze M (d + 0) 8 ∧ ze M (d + 0) 8 ≤ 11) ∧ (∀ k : Nat, k < F → zg M (d + 25) k = s.1 k) ∧ ∀ m k : Nat, m < s.2.1 → k < F → zg M (d + 25) (27 * (9 + ((ze M (d + 0) 8).toNat + 12 - s.2.1 + m) % 12) + k) = s.2.2 m k
def zSR (F : Nat) (s : zSg) (M : zMem) : Prop := (ze M 81 60 = (s.2.1 : Int) ∧ s.2.1 ≤ 12) ∧ (∀ k : Nat, k < F → zg M 98 k = s.1 k) ∧ ∀ m k : Nat, m < s.2.1 → k < F → zg M 111 (64 * m + k) = s.2.2 m k
def zSA (F : Nat) (s : zSg) (M : zMem) : Prop := (ze M 81 60 = ((if s.2.1 = 12 then 12 else s.2.1 + 1 : Nat) : Int) ∧ s.2.1 ≤ 12) ∧ ∀ m k : Nat, m < (if s.2.1 = 12 then 12 else s.2.1 + 1) → k < F → zg M 111 (64 * m + k) = (if s.2.1 = 12 then (if m = 11 then s.1 else s.2.2 (m + 1)) else if m = s.2.1 then s.1 else s.2.2 m) k
section ZST
variable {F d : Nat} {s : zSg} {e : Nat → Int} {M N N1 N2 N3 : zMem} {FA : List (Nat × Nat)} {CA : List Nat} {FR : List (Nat × Nat)} {CR : List Nat} {S C : List Nat}
theorem zLow.ou {x : Int} (h : zOu F d M N x) (hx : 21 ≤ x) : zLow d M N := fun t ht => h t (by omega)
theorem zSK.fr (hf : zFc d FA CA FR CR M N) (hl : zLow d M N) (hF : F ≤ 27) (h : zSK F s d M) (hd : 0 ∉ CR ∧ (0, 7) ∉ FR ∧ (0, 8) ∉ FR) : zSK F s d N := by
  obtain ⟨⟨a1, a2⟩, b, c, e⟩ := h
  have e7 : ze N (d + 0) 7 = ze M (d + 0) 7 := hf.e ⟨by decide, hd.1, hd.2.1⟩
  have e8 : ze N (d + 0) 8 = ze M (d + 0) 8 := hf.e ⟨by decide, hd.1, hd.2.2⟩
  refine ⟨⟨e7.trans a1, a2⟩, by rw [e8]; exact b, fun k hk => (hl k (by omega)).trans (c k hk), fun m k hm hk => ?_⟩
  rw [e8]
  exact (hl _ (by omega)).trans (e m k hm hk)
theorem zSK.lo (h : zOl M N) (hd : d = 5 ∨ d = 43) (hk : zSK F s d M) : zSK F s d N := by
  have e1 : ∀ j, ze N (d + 0) j = ze M (d + 0) j := fun j => by
    unfold ze
    rw [(h.2.2.2 (d + 0) (by omega)).1]
  have e2 : ∀ j, zg N (d + 25) j = zg M (d + 25) j := fun j => by
    unfold zg
    rw [(h.2.2.2 (d + 25) (by omega)).2]
  obtain ⟨a, b, c, e⟩ := hk
  refine ⟨by rw [e1]; exact a, by rw [e1]; exact b, fun k hk => (e2 k).trans (c k hk), fun m k hm hk => ?_⟩
  rw [e1, e2]
  exact e m k hm hk
theorem zNm.lo {nm : List (Int × (Nat → Int))} {K : Nat → Nat → Int} (h : zOl M N) (hd : d = 5 ∨ d = 43) (hk : zNm nm F K d M) : zNm nm F K d N := by
  refine zNm_e ?_ (fun k => ?_) (fun k _ => ?_) hk
  · unfold ze
    rw [(h.2.2.2 (d + 0) (by omega)).1]
  · unfold ze
    rw [(h.2.2.2 (d + 37) (by omega)).1]
  · funext i
    unfold zvc zg
    rw [(h.2.2.2 (d + 25) (by omega)).2]
theorem zSK.push {x : Int} (hF : F ≤ 27) (h : zSK F s d M) (h1 : zSh F d M N1 (9 + ze M (d + 0) 8) (zvc F d M 0)) (e3 : ∀ t : Nat, zg N3 (d + 25) t = zg N1 (d + 25) t) (h4 : zSh F d N3 N 0 (zvc F d N3 x)) (hx : (1 ≤ x ∧ x ≤ 8) ∨ (21 ≤ x ∧ x ≤ 39)) (h8 : (ze M (d + 0) 8 = 11 ∧ ze N (d + 0) 8 = 0) ∨ (ze M (d + 0) 8 < 11 ∧ ze N (d + 0) 8 = ze M (d + 0) 8 + 1)) (h7 : (ze M (d + 0) 7 = 12 ∧ ze N (d + 0) 7 = 12) ∨ (ze M (d + 0) 7 < 12 ∧ ze N (d + 0) 7 = ze M (d + 0) 7 + 1)) : zSK F (zpush s (zvc F d M x)) d N := by
  obtain ⟨⟨a1, a2⟩, ⟨b1, b2⟩, c, e⟩ := h
  obtain ⟨r, hr⟩ : ∃ r : Nat, ze M (d + 0) 8 = (r : Int) := ⟨_, (Int.toNat_of_nonneg b1).symm⟩
  rw [hr] at b2 h1 h8 e
  rw [Int.toNat_natCast] at e
  have r4 : ∀ t : Nat, 27 ≤ t → zg N (d + 25) t = zg N1 (d + 25) t := fun t ht => by rw [h4 t, if_neg (by omega), e3]
  have r1 : ∀ t : Nat, ¬ (27 * (9 + r) ≤ t ∧ t < 27 * (9 + r) + F) → zg N1 (d + 25) t = zg M (d + 25) t := fun t ht => by rw [h1 t, if_neg (by omega)]
  have rn : ∀ k : Nat, k < F → zg N1 (d + 25) (27 * (9 + r) + k) = s.1 k := fun k hk => by
    rw [h1 _, if_pos (by omega), show (((27 * (9 + r) + k : Nat) : Int) - 27 * (9 + (r : Int))).toNat = k by omega]
    unfold zvc
    rw [if_pos hk, show 27 * (0 : Int).toNat + k = k by omega]
    exact c k hk
  have ex : ∀ k : Nat, k < F → zg N (d + 25) k = zvc F d M x k := fun k hk => by
    rw [h4 k, if_pos (by omega), show ((k : Int) - 27 * 0).toNat = k by omega]
    unfold zvc
    rw [if_pos hk, if_pos hk, e3]
    exact r1 _ (by omega)
  refine ⟨⟨?_, ?_⟩, by omega, ex, fun m k hm hk => ?_⟩
  · show ze N (d + 0) 7 = ((if s.2.1 = 12 then 12 else s.2.1 + 1 : Nat) : Int)
    by_cases g : s.2.1 = 12
    · rw [if_pos g]
      omega
    · rw [if_neg g]
      omega
  · show (if s.2.1 = 12 then 12 else s.2.1 + 1) ≤ 12
    by_cases g : s.2.1 = 12
    · rw [if_pos g]
      exact Nat.le_refl _
    · rw [if_neg g]
      omega
  · have hm2 : m < (if s.2.1 = 12 then 12 else s.2.1 + 1) := hm
    show zg N (d + 25) (27 * (9 + ((ze N (d + 0) 8).toNat + 12 - (if s.2.1 = 12 then 12 else s.2.1 + 1) + m) % 12) + k) = (if s.2.1 = 12 then (if m = 11 then s.1 else s.2.2 (m + 1)) else if m = s.2.1 then s.1 else s.2.2 m) k
    rw [r4 _ (by omega)]
    by_cases g : s.2.1 = 12
    · rw [if_pos g] at hm2
      rw [if_pos g, if_pos g]
      by_cases g2 : m = 11
      · rw [if_pos g2, show 27 * (9 + ((ze N (d + 0) 8).toNat + 12 - 12 + m) % 12) + k = 27 * (9 + r) + k by omega]
        exact rn k hk
      · rw [if_neg g2, show 27 * (9 + ((ze N (d + 0) 8).toNat + 12 - 12 + m) % 12) + k = 27 * (9 + (r + 12 - s.2.1 + (m + 1)) % 12) + k by omega, r1 _ (by omega)]
        exact e (m + 1) k (by omega) hk
    · rw [if_neg g] at hm2
      rw [if_neg g, if_neg g]
      by_cases g2 : m = s.2.1
      · rw [if_pos g2, show 27 * (9 + ((ze N (d + 0) 8).toNat + 12 - (s.2.1 + 1) + m) % 12) + k = 27 * (9 + r) + k by omega]
        exact rn k hk
      · rw [if_neg g2, show 27 * (9 + ((ze N (d + 0) 8).toNat + 12 - (s.2.1 + 1) + m) % 12) + k = 27 * (9 + (r + 12 - s.2.1 + m) % 12) + k by omega, r1 _ (by omega)]
        exact e m k (by omega) hk
theorem zSK.pop {q : Int} (hF : F ≤ 27) (h : zSK F s d M) (hc : 1 ≤ s.2.1) (e3 : ∀ t : Nat, zg N2 (d + 25) t = zg M (d + 25) t) (h4 : zSh F d N2 N 0 (zvc F d N2 q)) (hq : q = 9 + ze N (d + 0) 8) (h8 : (ze M (d + 0) 8 = 0 ∧ ze N (d + 0) 8 = 11) ∨ (1 ≤ ze M (d + 0) 8 ∧ ze N (d + 0) 8 = ze M (d + 0) 8 - 1)) (h7 : ze N (d + 0) 7 = ze M (d + 0) 7 - 1) : zSK F (zpop s) d N := by
  obtain ⟨⟨a1, a2⟩, ⟨b1, b2⟩, c, e⟩ := h
  obtain ⟨r, hr⟩ : ∃ r : Nat, ze M (d + 0) 8 = (r : Int) := ⟨_, (Int.toNat_of_nonneg b1).symm⟩
  rw [hr] at b2 h8 e
  rw [Int.toNat_natCast] at e
  have r4 : ∀ t : Nat, 27 ≤ t → zg N (d + 25) t = zg M (d + 25) t := fun t ht => by rw [h4 t, if_neg (by omega), e3]
  have ex : ∀ k : Nat, k < F → zg N (d + 25) k = s.2.2 (s.2.1 - 1) k := fun k hk => by
    rw [h4 k, if_pos (by omega), show ((k : Int) - 27 * 0).toNat = k by omega]
    unfold zvc
    rw [if_pos hk, e3, show 27 * q.toNat + k = 27 * (9 + (r + 12 - s.2.1 + (s.2.1 - 1)) % 12) + k by omega]
    exact e _ k (by omega) hk
  refine ⟨⟨?_, ?_⟩, by omega, ex, fun m k hm hk => ?_⟩
  · show ze N (d + 0) 7 = ((s.2.1 - 1 : Nat) : Int)
    omega
  · show s.2.1 - 1 ≤ 12
    omega
  · have hm2 : m < s.2.1 - 1 := hm
    show zg N (d + 25) (27 * (9 + ((ze N (d + 0) 8).toNat + 12 - (s.2.1 - 1) + m) % 12) + k) = s.2.2 m k
    rw [r4 _ (by omega), show 27 * (9 + ((ze N (d + 0) 8).toNat + 12 - (s.2.1 - 1) + m) % 12) + k = 27 * (9 + (r + 12 - s.2.1 + m) % 12) + k by omega]
    exact e m k (by omega) hk
theorem zSR.fr (hf : zFr S C M N) (h : zSR F s M) (hs : 60 ∉ S) (hc : 98 ∉ C ∧ 111 ∉ C) : zSR F s N := by
  obtain ⟨a, b, c⟩ := h
  refine ⟨by rw [hf.e hs]; exact a, fun k hk => (hf.jg (by decide) hc.1 k).trans (b k hk), fun m k hm hk => (hf.jg (by decide) hc.2 _).trans (c m k hm hk)⟩
theorem zSA.fr (hf : zFr S C M N) (h : zSA F s M) (hs : 60 ∉ S) (hc : 111 ∉ C) : zSA F s N := by
  obtain ⟨a, c⟩ := h
  refine ⟨by rw [hf.e hs]; exact a, fun m k hm hk => (hf.jg (by decide) hc _).trans (c m k hm hk)⟩
theorem zSR.hi (h3 : ∀ q, 81 ≤ q → zi N q = zi M q ∧ zj N q = zj M q) (h : zSR F s M) : zSR F s N := by
  obtain ⟨a, b, c⟩ := h
  have e1 : ze N 81 60 = ze M 81 60 := by
    unfold ze
    rw [(h3 81 (by decide)).1]
  have e2 : ∀ q, 81 ≤ q → ∀ j, zg N q j = zg M q j := fun q hq j => by
    unfold zg
    rw [(h3 q hq).2]
  refine ⟨by rw [e1]; exact a, fun k hk => (e2 98 (by decide) k).trans (b k hk), fun m k hm hk => (e2 111 (by decide) _).trans (c m k hm hk)⟩
theorem zSA.ps (h : zSA F s M) (he : ∀ k : Nat, k < F → zg M 98 k = e k) : zSR F (zpush s e) M := ⟨⟨h.1.1, by
  have h2 := h.1.2
  show (if s.2.1 = 12 then 12 else s.2.1 + 1) ≤ 12
  by_cases g : s.2.1 = 12
  · rw [if_pos g]
    exact Nat.le_refl _
  · rw [if_neg g]
    omega⟩, he, h.2⟩
def zRwS (M N : zMem) (x : Int) : Prop := ∀ t : Nat, zg N 111 t = if (t : Int) + 64 < x then zg M 111 (t + 64) else zg M 111 t
theorem zRwS_0 : zRwS M M 64 := fun t => by rw [if_neg (by omega)]
theorem zRwS_s {x v : Int} (h : zRwS M N x) (hv : v = zg N 111 x.toNat) (hN : N1 = zsJ N 111 (x - 64).toNat (Int64.ofInt v)) (x0 : 64 ≤ x) (hr : zn64 v) : zRwS M N1 (x + 1) := fun t => by
  by_cases g : (t : Int) + 64 = x
  · rw [if_pos (by omega), show t = (x - 64).toNat by omega, zs_getJ hN hr, hv, h _, if_neg (by omega), show (x - 64).toNat + 64 = x.toNat by omega]
  · rw [zs_othJ hN (by omega), h t]
    by_cases g2 : (t : Int) + 64 < x
    · rw [if_pos g2, if_pos (by omega)]
    · rw [if_neg g2, if_neg (by omega)]
def zRwD (c : Nat) (M N : zMem) (x : Int) : Prop := ∀ t : Nat, zg N 111 t = if 64 * (if c = 12 then 11 else c) ≤ t ∧ (t : Int) < 64 * ((if c = 12 then 11 else c : Nat) : Int) + x then zg M 98 (t - 64 * (if c = 12 then 11 else c)) else if c = 12 ∧ t + 64 < 768 then zg M 111 (t + 64) else zg M 111 t
theorem zRwD_A {c : Nat} {x : Int} (hc : c = 12) (h : zRwS M N1 x) (hx : x = 768) (he : ∀ t : Nat, zg N 111 t = zg N1 111 t) : zRwD c M N 0 := fun t => by
  rw [if_neg (by omega), he t, h t]
  by_cases g : t + 64 < 768
  · rw [if_pos (by omega), if_pos ⟨hc, g⟩]
  · rw [if_neg (by omega), if_neg (fun q => g q.2)]
theorem zRwD_B {c : Nat} (hc : c ≠ 12) (he : ∀ t : Nat, zg N 111 t = zg M 111 t) : zRwD c M N 0 := fun t => by
  rw [if_neg (by omega), he t, if_neg (fun q => hc q.1)]
theorem zRwD_s {c : Nat} {x v i : Int} (h : zRwD c M N x) (hv : v = zg M 98 x.toNat) (hN : N1 = zsJ N 111 i.toNat (Int64.ofInt v)) (hi : i = 64 * ((if c = 12 then 11 else c : Nat) : Int) + x) (x0 : 0 ≤ x) (hr : zn64 v) : zRwD c M N1 (x + 1) := by
  unfold zRwD at h ⊢
  generalize (if c = 12 then 11 else c) = K at h hi ⊢
  intro t
  by_cases g : (t : Int) = i
  · rw [if_pos (show 64 * K ≤ t ∧ (t : Int) < 64 * (K : Int) + (x + 1) by omega), show t = i.toNat by omega, zs_getJ hN hr, hv, show i.toNat - 64 * K = x.toNat by omega]
  · rw [zs_othJ hN (by omega), h t]
    by_cases g2 : 64 * K ≤ t ∧ (t : Int) < 64 * (K : Int) + x
    · rw [if_pos g2, if_pos (show 64 * K ≤ t ∧ (t : Int) < 64 * (K : Int) + (x + 1) by omega)]
    · rw [if_neg g2, if_neg (show ¬ (64 * K ≤ t ∧ (t : Int) < 64 * (K : Int) + (x + 1)) by omega)]
theorem zSA_i (hF : F ≤ 64) (h : zSR F s M) (hd : zRwD s.2.1 M N 64) (h60 : (s.2.1 = 12 ∧ ze N 81 60 = 12) ∨ (s.2.1 < 12 ∧ ze N 81 60 = (s.2.1 : Int) + 1)) : zSA F s N := by
  obtain ⟨⟨a1, a2⟩, b, c⟩ := h
  by_cases g : s.2.1 = 12
  · refine ⟨⟨by rw [if_pos g]; omega, a2⟩, fun m k hm hk => ?_⟩
    have hd2 := hd (64 * m + k)
    rw [if_pos g] at hm
    rw [if_pos g] at hd2
    rw [if_pos g, hd2]
    by_cases g2 : m = 11
    · rw [if_pos g2, if_pos (by omega), show 64 * m + k - 64 * 11 = k by omega]
      exact b k hk
    · rw [if_neg g2, if_neg (by omega), if_pos (by omega), show 64 * m + k + 64 = 64 * (m + 1) + k by omega]
      exact c _ k (by omega) hk
  · refine ⟨⟨by rw [if_neg g]; omega, a2⟩, fun m k hm hk => ?_⟩
    have hd2 := hd (64 * m + k)
    rw [if_neg g] at hm
    rw [if_neg g] at hd2
    rw [if_neg g, hd2]
    by_cases g2 : m = s.2.1
    · rw [if_pos g2, if_pos (by omega), show 64 * m + k - 64 * s.2.1 = k by omega]
      exact b k hk
    · rw [if_neg g2, if_neg (by omega), if_neg (fun q => g q.1)]
      exact c m k (by omega) hk
theorem zSR.pop (hF : F ≤ 64) (h : zSR F s M) (hc : 1 ≤ s.2.1) (hr : ∀ k : Nat, k < 64 → zg N 98 k = zg M 111 (64 * (s.2.1 - 1) + k)) (hp : ∀ t : Nat, zg N 111 t = zg M 111 t) (h60 : ze N 81 60 = (s.2.1 : Int) - 1) : zSR F (zpop s) N := by
  obtain ⟨⟨a1, a2⟩, b, c⟩ := h
  refine ⟨⟨?_, ?_⟩, fun k hk => (hr k (by omega)).trans (c _ k (by omega) hk), fun m k hm hk => ?_⟩
  · show ze N 81 60 = ((s.2.1 - 1 : Nat) : Int)
    omega
  · show s.2.1 - 1 ≤ 12
    omega
  · have hm2 : m < s.2.1 - 1 := hm
    exact (hp _).trans (c m k (by omega) hk)
theorem zSKc.fr (_ : zKW d M) (hf : zFc d FA CA FR CR M N) (h : zSK F s d M) (hd : (0 < 38 ∧ 0 ∉ CR ∧ (0, 7) ∉ FR) ∧ (0 < 38 ∧ 0 ∉ CR ∧ (0, 8) ∉ FR) ∧ 25 < 38 ∧ 25 ∉ CR ∧ ∀ x ∈ FR, x.1 ≠ 25) : zSK F s d N := by
  obtain ⟨a, b, c, e⟩ := h
  have e7 : ze N (d + 0) 7 = ze M (d + 0) 7 := hf.e hd.1
  have e8 : ze N (d + 0) 8 = ze M (d + 0) 8 := hf.e hd.2.1
  refine ⟨by rw [e7]; exact a, by rw [e8]; exact b, fun k hk => (hf.rg hd.2.2 k).trans (c k hk), fun m k hm hk => ?_⟩
  rw [e8]
  exact (hf.rg hd.2.2 _).trans (e m k hm hk)
theorem zSK.pc {f : Nat → Int} (h : zSK F (zpush s e) d M) (hc : ∀ k, k < F → e k = f k) : zSK F (zpush s f) d M := ⟨h.1, h.2.1, fun k hk => (h.2.2.1 k hk).trans (hc k hk), h.2.2.2⟩
theorem zSK.v (h : zSK F s d M) : ∀ k : Nat, k < F → zvc F d M 0 k = s.1 k := fun k hk => by
  unfold zvc
  rw [if_pos hk, show 27 * (0 : Int).toNat + k = k by omega]
  exact h.2.2.1 k hk
theorem zNm.md {nm : List (Int × (Nat → Int))} {K : Nat → Nat → Int} (hf : zFc d FA CA FR CR M N) (hm : ∀ t : Nat, 27 ≤ t → t < 243 → zg N (d + 25) t = zg M (d + 25) t) (hF : F ≤ 27) (h : zNm nm F K d M) (hd : (0 < 38 ∧ 0 ∉ CR ∧ (0, 6) ∉ FR) ∧ 37 < 38 ∧ 37 ∉ CR ∧ ∀ x ∈ FR, x.1 ≠ 37) : zNm nm F K d N := by
  refine zNm_e (hf.e hd.1) (fun k => hf.r hd.2 k) (fun k hk => ?_) h
  funext i
  unfold zvc
  by_cases g : i < F
  · rw [if_pos g, if_pos g]
    exact hm _ (by omega) (by omega)
  · rw [if_neg g, if_neg g]
end ZST
theorem zrem12 {a : Int} (a0 : 0 ≤ a) (a1 : a ≤ 1000000) : zrem a 12 = a % 12 := by
  rw [zrem_t (by omega) (by omega) (by decide) (by decide)]
  exact Int.tmod_eq_emod_of_nonneg a0
theorem zmul9 {n x : Int} (n0 : -9 ≤ n) (n1 : n ≤ 9) (x0 : -1000000000000 ≤ x) (x1 : x ≤ 1000000000000) : -9000000000000 ≤ n * x ∧ n * x ≤ 9000000000000 := by
  have h : (n * x).natAbs ≤ 9 * 1000000000000 := by
    rw [Int.natAbs_mul]
    exact Nat.mul_le_mul (by omega) (by omega)
  omega
theorem zsm_b {f : Nat → Int} {B : Nat} : ∀ k : Nat, (∀ i, i < k → (f i).natAbs ≤ B) → (zsm f k).natAbs ≤ k * B
  | 0, _ => by
    rw [Nat.zero_mul]
    exact Nat.le_refl _
  | k + 1, h => by
    have h1 := zsm_b k (fun i hi => h i (by omega))
    have h2 := h k (by omega)
    have h3 : (zsm f k + f k).natAbs ≤ (zsm f k).natAbs + (f k).natAbs := Int.natAbs_add_le _ _
    rw [Nat.add_mul, Nat.one_mul]
    exact Nat.le_trans h3 (by omega)
theorem zmq_b {F : Nat} {K : Nat → Nat → Int} {v : Nat → Int} {j : Nat} (hF : F ≤ 27) (hK : ∀ i, i < F → 0 ≤ K i j ∧ K i j ≤ 24) (hv : ∀ i, i < F → -10000000000000 ≤ v i ∧ v i ≤ 10000000000000) : -6480000000000000 ≤ zmq F K v j ∧ zmq F K v j ≤ 6480000000000000 := by
  have h : (zmq F K v j).natAbs ≤ F * (10000000000000 * 24) := zsm_b F (fun i hi => by
    rw [Int.natAbs_mul]
    have h1 := hv i hi
    have h2 := hK i hi
    exact Nat.mul_le_mul (by omega) (by omega))
  have h2 : F * (10000000000000 * 24) ≤ 27 * (10000000000000 * 24) := Nat.mul_le_mul_right _ hF
  omega
theorem zup_g {α : Type} {f : Nat → α} {x : α} : ∀ k i m : Nat, m < k → (zup f k i).getD m x = f (i + m)
  | 0, _, _, h => absurd h (Nat.not_lt_zero _)
  | _ + 1, _, 0, _ => rfl
  | k + 1, i, m + 1, h => by
    have h2 := zup_g (f := f) (x := x) k (i + 1) m (by omega)
    rw [show i + (m + 1) = i + 1 + m by omega]
    exact h2
def zvun (nm : List (Int × (Nat → Int))) (k : Nat) : Nat → Int := (nm.getD k (0, fun _ => 0)).2
theorem zNm.n {nm : List (Int × (Nat → Int))} {F d : Nat} {K : Nat → Nat → Int} {M : zMem} (h : zNm nm F K d M) : ((nm.length : Nat) : Int) = ze M (d + 0) 6 := by
  have h1 := h.1.1
  rw [← h.2.1]
  unfold zNl
  rw [zup_l]
  omega
theorem zNm.at {nm : List (Int × (Nat → Int))} {F d k : Nat} {K : Nat → Nat → Int} {M : zMem} (h : zNm nm F K d M) (hk : k < nm.length) : zvc F d M (1 + (k : Int)) = zvun nm k ∧ zfit F K (zvun nm k) := by
  have h1 := h.n
  have h2 := h.2.2 k (by omega)
  have e : zvc F d M (1 + (k : Int)) = zvun nm k := by
    unfold zvun
    rw [← h.2.1]
    unfold zNl
    rw [zup_g _ 0 k (by omega), Nat.zero_add]
    rfl
  rw [e] at h2
  exact ⟨e, h2⟩
theorem zfit_c {F : Nat} {K : Nat → Nat → Int} {v w : Nat → Int} (h : zfit F K v) (hc : ∀ i, i < F → v i = w i) : zfit F K w := fun i hi => by
  rw [← hc i hi, ← zmq_c hc]
  exact h i hi
theorem zgrw_c {F : Nat} {e f : Nat → Int} {n m i : Int} (h : ∀ k, k < F → e k = f k) : ∀ k, k < F → zgrw e n m i k = zgrw f n m i k := fun k hk => by
  unfold zgrw
  rw [h k hk]
theorem zgrw_b {F : Nat} {e : Nat → Int} {n m i : Int} (h : zlm F e) (n0 : -9 ≤ n) (n1 : n ≤ 9) (m0 : -999 ≤ m) (m1 : m ≤ 999) : ∀ k, k < F → -10000000000000 ≤ zgrw e n m i k ∧ zgrw e n m i k ≤ 10000000000000 := fun k hk => by
  have h1 := h k hk
  unfold zLim at h1
  have h2 := zmul9 n0 n1 h1.1 h1.2
  show -10000000000000 ≤ n * e k + (if (k : Int) = i then m else 0) ∧ n * e k + (if (k : Int) = i then m else 0) ≤ 10000000000000
  by_cases g : (k : Int) = i
  · rw [if_pos g]
    omega
  · rw [if_neg g]
    omega
def znzc (e : Nat → Int) : Nat → Nat
  | 0 => 0
  | k + 1 => znzc e k + if e k = 0 then 0 else 1
theorem znzc_c {e f : Nat → Int} : ∀ k : Nat, (∀ i, i < k → e i = f i) → znzc e k = znzc f k
  | 0, _ => rfl
  | k + 1, h => by
    show znzc e k + _ = znzc f k + _
    rw [znzc_c k (fun i hi => h i (by omega)), h k (by omega)]
theorem znzc_s {e : Nat → Int} {a k : Int} (h : a = (znzc e k.toNat : Nat)) (k0 : 0 ≤ k) (b x : Int) (hx : x = e k.toNat) (hb : (x = 0 ∧ b = a) ∨ (x ≠ 0 ∧ b = a + 1)) : b = (znzc e (k + 1).toNat : Nat) := by
  rw [show (k + 1).toNat = k.toNat + 1 by omega]
  show b = ((znzc e k.toNat + (if e k.toNat = 0 then 0 else 1) : Nat) : Int)
  rw [← hx]
  rcases hb with ⟨h1, h2⟩ | ⟨h1, h2⟩
  · rw [if_pos h1]
    omega
  · rw [if_neg h1]
    omega
theorem zRNi.n {nm : List (Int × (Nat → Int))} {F : Nat} {K : Nat → Nat → Int} {M : zMem} (h : zRNi nm F K M) : ((nm.length : Nat) : Int) = ze M 81 18 := by
  obtain ⟨h1, gk, h2, -⟩ := h
  rw [h2, zup_l]
  omega
theorem zRNi.at {nm : List (Int × (Nat → Int))} {F k : Nat} {K : Nat → Nat → Int} {M : zMem} (h : zRNi nm F K M) (hk : k < nm.length) : zrw F M 104 (64 * (k : Int)) = zvun nm k ∧ zfit F K (zvun nm k) := by
  have h1 := h.n
  obtain ⟨-, gk, h2, h3⟩ := h
  have h4 := (h3 k (by omega)).2
  have e : zrw F M 104 (64 * (k : Int)) = zvun nm k := by
    unfold zvun
    rw [h2]
    rw [h2, zup_l] at hk
    rw [zup_g _ 0 k hk, Nat.zero_add]
  rw [e] at h4
  exact ⟨e, h4⟩
theorem zSK_00 {F d : Nat} {M : zMem} (hF : F ≤ 27) (h7 : ze M (d + 0) 7 = 0) (h8 : ze M (d + 0) 8 = 0) (h0 : ∀ k : Nat, k < F → zg M (d + 25) k = 0) : zSK F (fun _ => 0, 0, fun _ _ => 0) d M := ⟨⟨h7, Nat.zero_le _⟩, ⟨by omega, by omega⟩, h0, fun m _ hm => absurd hm (Nat.not_lt_zero m)⟩
