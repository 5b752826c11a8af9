def zMr (T : zGT) (M : zMem) : Prop := ∀ k : Nat, (k : Int) < ze M 81 55 → 0 ≤ ze M 109 k ∧ ze M 109 k < ((gF T).length : Int)
def zMq (T : zGT) (j : Int) (M : zMem) : Prop := (ze M 81 55 = ((gmm T ((gF T).getD j.toNat 0) : Nat) : Int) ∧ 1 ≤ ze M 81 55 ∧ ze M 81 55 ≤ 24) ∧ zMr T M ∧ ze M 109 0 = j ∧ ∀ k : Nat, 1 ≤ k → (k : Int) < ze M 81 55 → ze M 109 k ≠ j
theorem zMq.fr {S C : List Nat} {M N : zMem} {T : zGT} {j : Int} (hf : zFr S C M N) (h : zMq T j M) (hs : 55 ∉ S) (hc : 109 ∉ C) : zMq T j N := by
  unfold zMq zMr
  simp only [hf.e hs, hf.ie (by decide) hc]
  exact h
def zMl (T : zGT) (j : Int) (M : zMem) (x : Int) : Prop := (ze M 81 55 = ((gup (gmmF T ((gF T).getD j.toNat 0)) 0 x.toNat : Nat) : Int) ∧ 0 ≤ ze M 81 55 ∧ ze M 81 55 ≤ x) ∧ zMr T M ∧ (x = 0 ∨ (1 ≤ ze M 81 55 ∧ ze M 109 0 = j)) ∧ ∀ k : Nat, 1 ≤ k → (k : Int) < ze M 81 55 → ze M 109 k ≠ j
theorem zMl_0 {T : zGT} {j : Int} {M : zMem} (h : ze M 81 55 = 0) : zMl T j M 0 := by
  refine ⟨⟨h, by (exact zo_718 h), by (exact zo_2497 h)⟩, fun k hk => by omega, Or.inl rfl, fun k h1 h2 => by omega⟩
theorem zMl_e {T : zGT} {j x : Int} {M : zMem} (hG : gGd T) (h : zMl T j M x) (hx : x = (gN T : Int)) : zMq T j M := by
  obtain ⟨⟨a1, a2, a3⟩, a4, a5, a6⟩ := h
  have g1 := hG.1
  have g24 := hG.2.1
  have a7 : 1 ≤ ze M 81 55 ∧ ze M 109 0 = j := by rcases a5 with a5 | a5; omega; exact a5
  refine ⟨⟨?_, a7.1, by omega⟩, a4, a7.2, a6⟩
  rw [a1, hx, Int.toNat_natCast]
  rfl
theorem zMl_n {T : zGT} (hO : gOK T) (hX : gEx T) {j x F : Int} {M : zMem} (h : zMl T j M x) (x0 : 0 ≤ x) (j0 : 0 ≤ j) (j1 : j < ((gF T).length : Int)) (hF : F = (((gF T).getD j.toNat 0 : Nat) : Int)) (hn : gtr T F.toNat x.toNat ≠ F.toNat ∨ gcos T F.toNat x.toNat ≠ x.toNat) : zMl T j M (x + 1) := by
  obtain ⟨⟨a1, a2, a3⟩, a4, a5, a6⟩ := h
  have hm := gF_m (T := T) (i := j.toNat) (by (exact zo_1085 j0 j1))
  have hFn : F.toNat = (gF T).getD j.toNat 0 := by (exact zo_1103 hF)
  rw [hFn] at hn
  have hx : x ≠ 0 := by
    rintro rfl
    rcases hn with hn | hn
    · exact hn (hX.2.2.1 _ hm)
    · refine hn (Nat.le_zero.mp ?_)
      have := gcos_b hO.1 (S := (gF T).getD j.toNat 0) (x := 0) (by have := hO.1.1; omega) (gN T) (Nat.le_refl _)
      rw [gcos_e]
      exact this
  refine ⟨⟨?_, a2, by (exact zo_961 a3)⟩, a4, Or.inr (a5.resolve_left hx), a6⟩
  rw [gup_s _ _ x0, a1]
  generalize gup _ 0 x.toNat = r
  unfold gmmF
  rw [if_neg (by rintro ⟨h1, h2⟩; rcases hn with hn | hn; exact hn h1; exact hn h2)]
theorem zMl_s {T : zGT} (hO : gOK T) (hX : gEx T) {j x F R v : Int} {M N P : zMem} (hFi : zFirs T M) (h : zMl T j M x) (x0 : 0 ≤ x) (x1 : x < (gN T : Int)) (j0 : 0 ≤ j) (j1 : j < ((gF T).length : Int)) (hF : F = (((gF T).getD j.toNat 0 : Nat) : Int)) (ht : gtr T F.toNat x.toNat = F.toNat) (hc : gcos T F.toNat x.toNat = x.toNat) (hR : gLC T (F.toNat ||| 2 ^ x.toNat) R.toNat) (v0 : 0 ≤ v) (v1 : v < ((gF T).length : Int)) (hv : ze M 91 v.toNat = ((glt T R.toNat : Nat) : Int)) (hN : N = zsI M 109 (ze M 81 55).toNat (Int32.ofInt v)) (hP : zFr [55] [] N P) (he : ze P 81 55 = ze N 81 55 + 1) : zMl T j P (x + 1) := by
  obtain ⟨⟨a1, a2, a3⟩, a4, a5, a6⟩ := h
  have g24 := hO.1.2.1
  have hlen := hX.2.1
  have hm := gF_m (T := T) (i := j.toNat) (by (exact zo_1085 j0 j1))
  have hFn : F.toNat = (gF T).getD j.toNat 0 := by (exact zo_1103 hF)
  rw [hFn] at ht hc hR
  have hf1 : zFr [] [109] M N := by rw [hN]; exact zFr.sA (by decide)
  have e0 : ze N 81 55 = ze M 81 55 := hf1.e (by decide)
  have r1 : ze P 109 (ze M 81 55).toNat = v := by
    rw [hP.ie (by decide) (by decide)]
    exact zs_get hN ⟨by (exact zo_168 v0), by omega⟩
  have r2 : ∀ k : Nat, k ≠ (ze M 81 55).toNat → ze P 109 k = ze M 109 k := fun k hk => by
    rw [hP.ie (by decide) (by decide)]
    exact zs_oth hN hk
  have e1 : ze M 91 v.toNat = (((gF T).getD v.toNat 0 : Nat) : Int) := hFi.2 v.toNat (by (exact zo_1085 v0 v1))
  -- which sort it is
  have hj : v = j ↔ glt T R.toNat = (gF T).getD j.toNat 0 := by
    constructor
    · rintro rfl; omega
    · intro e
      rw [e] at hv
      rw [e1] at hv
      have e2 : (gF T).getD v.toNat 0 = (gF T).getD j.toNat 0 := by omega
      rcases Nat.lt_trichotomy v.toNat j.toNat with g | g | g
      · have := hO.2.2.1.2.2 v.toNat j.toNat g (by (exact zo_1085 j0 j1)); rw [e2] at this; omega
      · omega
      · have := hO.2.2.1.2.2 j.toNat v.toNat g (by (exact zo_1085 v0 v1)); rw [e2] at this; omega
  have hz : x = 0 → v = j := by
    rintro rfl
    obtain ⟨hFS, hFl⟩ := hO.2.2.1.2.1 _ hm
    obtain ⟨s1, s2, s3⟩ := (hO.2.1.2.2 _ hFS).1
    have : R.toNat = (gF T).getD j.toNat 0 := hR.uq ⟨s2, by
      refine gSb.or (gSb.rf _) (gSb.p2 s3.1), s3, fun C hC hs => fun k hk => hs k (gSb.ol _ _ k hk)⟩
    rw [hj, this, hFl]
  have hnz : x ≠ 0 → v ≠ j := fun hx e => hX.2.2.2.2.1 _ hm x.toNat (by (exact zo_1085 x0 x1)) (by omega) hc _ hR (hj.mp e)
  refine ⟨⟨?_, by omega, by omega⟩, fun k hk => ?_, Or.inr ⟨by omega, ?_⟩, fun k h1 h2 => ?_⟩
  · rw [he, e0, gup_s _ _ x0, a1]
    generalize gup _ 0 x.toNat = r
    unfold gmmF
    rw [if_pos ⟨ht, hc⟩]
    omega
  · by_cases e : k = (ze M 81 55).toNat
    · rw [e, r1]; exact ⟨v0, v1⟩
    · rw [r2 k e]; exact a4 k (by omega)
  · rcases a5 with a5 | a5
    · have : (ze M 81 55).toNat = 0 := by omega
      rw [← this, r1]
      exact hz a5
    · rw [r2 0 (by omega)]; exact a5.2
  · by_cases e : k = (ze M 81 55).toNat
    · rw [e, r1]
      rcases a5 with a5 | a5
      · omega
      · refine hnz ?_
        rintro rfl
        (exact zo_1329 a3 a5.1)
    · rw [r2 k e]; exact a6 k h1 (by omega)
def zus (M : zMem) (s : Int) : Nat → Int
  | 0 => 0
  | k + 1 => zus M s k + (if s.toNat.testBit (ze M 81 26 - 1 - ze M 109 k).toNat then -1 else 1)
theorem zus_b (M : zMem) (s : Int) : ∀ k : Nat, -(k : Int) ≤ zus M s k ∧ zus M s k ≤ k
  | 0 => ⟨Int.le_refl _, Int.le_refl _⟩
  | k + 1 => by
    have := zus_b M s k
    unfold zus
    split <;> omega
theorem zus_s {M : zMem} {s k n t i : Int} (k0 : 0 ≤ k) (h : n = zus M s k.toNat) (hi : i = ze M 81 26 - 1 - ze M 109 k.toNat) (ht : (t = -1 ∧ zbt s i) ∨ (t = 1 ∧ ¬ zbt s i)) : n + t = zus M s (k + 1).toNat := by
  rw [show (k + 1).toNat = k.toNat + 1 by (exact zo_1084 k0)]
  unfold zus
  unfold zbt at ht
  rw [← hi, h]
  rcases ht with ⟨h1, h2⟩ | ⟨h1, h2⟩
  · rw [if_pos h2, h1]
  · rw [if_neg h2, h1]
theorem zus_f {S C : List Nat} {M N : zMem} (hf : zFr S C M N) (hs : 26 ∉ S) (hc : 109 ∉ C) (s : Int) : ∀ k : Nat, zus N s k = zus M s k
  | 0 => rfl
  | k + 1 => by
    unfold zus
    rw [zus_f hf hs hc s k, hf.e hs, hf.ie (by decide) hc]
def zuk (M : zMem) (s : Int) : Prop := ze M 81 55 ∣ zus M s (ze M 81 55).toNat
theorem zbor {s b : Int} {d : Nat} (s0 : 0 ≤ s) (s1 : s < 2147483648) (hd : d < 31) (hb : b = zshl 1 (d : Int)) : (zor s b).toNat = s.toNat ||| 2 ^ d ∧ 0 ≤ zor s b := by
  rw [hb, zorb s0 s1 (by (exact zo_85)) (by omega), Int.toNat_natCast]
  exact ⟨rfl, by (exact zo_85)⟩
theorem zus_or {T : zGT} {M : zMem} {j s b : Int} {d : Nat} (hd : (d : Int) = ze M 81 26 - 1 - j) (hd1 : d < 31) (hlen : ze M 81 26 = ((gF T).length : Int)) (h : zMq T j M) (s0 : 0 ≤ s) (s1 : s < 2 ^ d) (hb : b = zshl 1 (d : Int)) : ∀ k : Nat, 1 ≤ k → (k : Int) ≤ ze M 81 55 → zus M (zor s b) k = zus M s k - 2
  | 0, h, _ => absurd h (by (decide))
  | k + 1, _, h2 => by
    have hp : (2 : Int) ^ d ≤ 2147483648 := by
      have : (2 : Nat) ^ d ≤ 2 ^ 31 := Nat.pow_le_pow_right (by (decide)) (by omega)
      have h3 : ((2 ^ d : Nat) : Int) = (2 : Int) ^ d := by rw [Int.natCast_pow]; rfl
      omega
    have ho := (zbor s0 (by omega) hd1 hb).1
    have hsn : s.toNat < 2 ^ d := by
      have h3 : ((2 ^ d : Nat) : Int) = (2 : Int) ^ d := by rw [Int.natCast_pow]; rfl
      omega
    have hq_ := h
    obtain ⟨-, a1, a2, a3⟩ := h
    have a1k := a1 k (by omega)
    show zus M (zor s b) k + _ = zus M s k + _ - 2
    rw [ho]
    by_cases e : k = 0
    · subst e
      rw [a2, show (ze M 81 26 - 1 - j).toNat = d by omega, Nat.testBit_or, Nat.testBit_two_pow_self, Bool.or_true, if_pos rfl, Nat.testBit_lt_two_pow hsn]
      rfl
    · rw [zus_or hd hd1 hlen hq_ s0 s1 hb k (by omega) (by omega), Nat.testBit_or, Nat.testBit_two_pow]
      have hne := a3 k (by omega) (by omega)
      rw [show decide (d = (ze M 81 26 - 1 - ze M 109 k).toNat) = false from decide_eq_false (by omega), Bool.or_false]
      omega
theorem zuk_2 {T : zGT} {M : zMem} {j s b : Int} {d : Nat} (hd : (d : Int) = ze M 81 26 - 1 - j) (hd1 : d < 31) (hlen : ze M 81 26 = ((gF T).length : Int)) (h : zMq T j M) (s0 : 0 ≤ s) (s1 : s < 2 ^ d) (hb : b = zshl 1 (d : Int)) (h1 : zuk M s) (h2 : zuk M (zor s b)) : ze M 81 55 ≤ 2 := by
  have h0 := h.1.2.1
  have h3 := zus_or hd hd1 hlen h s0 s1 hb (ze M 81 55).toNat (by omega) (by omega)
  unfold zuk at h1 h2
  rw [h3] at h2
  have h4 : ze M 81 55 ∣ 2 := by
    have := Int.dvd_sub h1 h2
    rwa [show zus M s (ze M 81 55).toNat - (zus M s (ze M 81 55).toNat - 2) = 2 by omega] at this
  exact Int.le_of_dvd (by (decide)) h4
def zkb (M : zMem) (s : Int) : Bool := decide (zus M s (ze M 81 55).toNat % ze M 81 55 = 0)
theorem zkb_t {M : zMem} {s : Int} : zkb M s = true ↔ zuk M s := by
  unfold zkb zuk
  rw [decide_eq_true_eq]
  exact (Int.dvd_iff_emod_eq_zero).symm
theorem zkb_n {M : zMem} {s : Int} (h : ¬ zuk M s) : zkb M s = false := by
  cases hb : zkb M s with
  | false => rfl
  | true => exact absurd (zkb_t.mp hb) h
theorem zkb_f {S C : List Nat} {M N : zMem} (hf : zFr S C M N) (hs : 26 ∉ S ∧ 55 ∉ S) (hc : 109 ∉ C) (s : Int) : zkb N s = zkb M s := by
  unfold zkb
  rw [hf.e hs.2, zus_f hf hs.1 hc]
def ucn (f : Nat → Bool) (a : Nat) : Nat → Nat
  | 0 => 0
  | n + 1 => ucn f a n + (f (a + n)).toNat
theorem ucn_l (f : Nat → Bool) (a : Nat) : ∀ n : Nat, ucn f a (n + 1) = (f a).toNat + ucn f (a + 1) n
  | 0 => by
    show 0 + (f (a + 0)).toNat = (f a).toNat + 0
    rw [Nat.zero_add, Nat.add_zero, Nat.add_zero]
  | n + 1 => by
    show ucn f a (n + 1) + (f (a + (n + 1))).toNat = (f a).toNat + (ucn f (a + 1) n + (f (a + 1 + n)).toNat)
    rw [ucn_l f a n, Nat.add_assoc, show a + (n + 1) = a + 1 + n by omega]
theorem ucn_c {f g : Nat → Bool} (a : Nat) : ∀ n : Nat, (∀ k, k < n → f (a + k) = g (a + k)) → ucn f a n = ucn g a n
  | 0, _ => rfl
  | n + 1, h => by
    unfold ucn
    rw [ucn_c a n (fun k hk => h k (by omega)), h n (by (exact zo_1083))]
theorem ubt (b : Bool) : b.toNat ≤ 1 := by cases b <;> decide
def uKf (M : zMem) : Nat → Bool := fun i => zkb M (ze M 110 i)
theorem uKf_s {M N : zMem} {p : Nat} {v : Int32} (hN : N = zsI M 110 p v) {i : Nat} (hi : i ≠ p) : uKf N i = uKf M i := by
  unfold uKf
  rw [zs_oth hN hi]
  exact zkb_f (S := []) (C := [110]) (by rw [hN]; exact zFr.sA (by decide)) (by decide) (by decide) _
def zUr (M : zMem) (n : Int) (d : Nat) : Prop := ∀ i : Nat, (i : Int) < n → 0 ≤ ze M 110 i ∧ ze M 110 i < ((2 ^ d : Nat) : Int)
theorem zUr_up {M : zMem} {n : Int} {d : Nat} (h : zUr M n d) : zUr M n (d + 1) := fun i hi => by
  have h1 := h i hi
  have h2 : (2 : Nat) ^ d ≤ 2 ^ (d + 1) := Nat.pow_le_pow_right (by (decide)) (by (exact zo_1081))
  omega
theorem zUr_s {M N : zMem} {n m p v : Int} {d : Nat} (h : zUr M n d) (hd : d ≤ 31) (p0 : 0 ≤ p) (hN : N = zsI M 110 p.toNat (Int32.ofInt v)) (hv : 0 ≤ v ∧ v < ((2 ^ d : Nat) : Int)) (hm : m ≤ n ∨ (p = n ∧ m = n + 1)) : zUr N m d := by
  have h3 : (2 : Nat) ^ d ≤ 2 ^ 31 := Nat.pow_le_pow_right (by (decide)) hd
  have h4 : (2 : Nat) ^ 31 = 2147483648 := rfl
  intro i hi
  by_cases e : i = p.toNat
  · rw [e, zs_get hN ⟨by (exact zo_168 hv.1), by omega⟩]
    exact hv
  · rw [zs_oth hN e]
    exact h i (by omega)
def zUa (M : zMem) (d : Nat) (um en k : Int) : Prop := (0 ≤ k ∧ k ≤ um ∧ um ≤ en ∧ en ≤ um + k) ∧ zUr M um d ∧ zUr M en (d + 1) ∧ (3 ≤ ze M 81 55 → en + (ucn (uKf M) 0 k.toNat : Int) ≤ um + k)
theorem zUa_0 {M : zMem} {d : Nat} {um : Int} (h0 : 0 ≤ um) (h : zUr M um d) : zUa M d um um 0 := by
  refine ⟨⟨by (decide), h0, by (exact zo_628), by (exact zo_972)⟩, h, zUr_up h, fun _ => ?_⟩
  show um + ((0 : Nat) : Int) ≤ um + 0
  omega
theorem zUa_s0 {M : zMem} {d : Nat} {um en k : Int} (h : zUa M d um en k) (hk : k < um) : zUa M d um en (k + 1) := by
  obtain ⟨h1, h2, h3, h4⟩ := h
  refine ⟨⟨by (exact zo_76 h1.1), by omega, by (exact zo_2544 h1.2.2.1), by (exact zo_970 h1.2.2.2)⟩, h2, h3, fun g => ?_⟩
  have := h4 g
  rw [show (k + 1).toNat = k.toNat + 1 by (exact zo_1084 h1.1)]
  have h5 := ubt (uKf M (0 + k.toNat))
  unfold ucn
  omega
theorem zUa_s1 {T : zGT} {M N : zMem} {d : Nat} {um en k j b s w : Int} (hd : (d : Int) = ze M 81 26 - 1 - j) (hd1 : d < 31) (hlen : ze M 81 26 = ((gF T).length : Int)) (hMd : zMq T j M) (hb : b = zshl 1 (d : Int)) (h : zUa M d um en k) (hk : k < um) (hs : s = ze M 110 k.toNat) (hz : zuk M (zor s b)) (hw : w = zor s b) (hN : N = zsI M 110 en.toNat (Int32.ofInt w)) : zUa N d um (en + 1) (k + 1) := by
  obtain ⟨h1, h2, h3, h4⟩ := h
  have hf1 : zFr [] [110] M N := by rw [hN]; exact zFr.sA (by decide)
  have hsr := h2 k.toNat (by omega)
  rw [← hs] at hsr
  have h31 : (2 : Nat) ^ d < 2 ^ 31 := Nat.pow_lt_pow_right (by (decide)) hd1
  have h32 : (2 : Nat) ^ 31 = 2147483648 := rfl
  have ho := zbor hsr.1 (by omega) hd1 hb
  have hor : s.toNat ||| 2 ^ d < 2 ^ (d + 1) := Nat.or_lt_two_pow (by
    have : (2 : Nat) ^ d ≤ 2 ^ (d + 1) := Nat.pow_le_pow_right (by (decide)) (by (exact zo_1081))
    omega) (Nat.pow_lt_pow_right (by (decide)) (by (exact zo_1083)))
  refine ⟨⟨by (exact zo_76 h1.1), by omega, by (exact zo_961 h1.2.2.1), by omega⟩, fun i hi => ?_, ?_, fun g => ?_⟩
  · rw [zs_oth hN (by omega)]
    exact h2 i hi
  · exact zUr_s h3 (by (exact zo_2549 hd1)) (by omega) hN (by rw [hw]; omega) (Or.inr ⟨rfl, rfl⟩)
  · have e55 : ze N 81 55 = ze M 81 55 := hf1.e (by decide)
    rw [e55] at g
    have := h4 g
    rw [show (k + 1).toNat = k.toNat + 1 by (exact zo_1084 h1.1)]
    unfold ucn
    rw [ucn_c (g := uKf M) 0 k.toNat (fun i hi => uKf_s hN (by omega)), uKf_s hN (by omega)]
    have hz0 : uKf M (0 + k.toNat) = false := by
      unfold uKf
      rw [Nat.zero_add, ← hs]
      refine zkb_n (fun hz1 => ?_)
      have := zuk_2 hd hd1 hlen hMd hsr.1 (by
        have h3 : ((2 ^ d : Nat) : Int) = (2 : Int) ^ d := by rw [Int.natCast_pow]; rfl
        omega) hb hz1 hz
      omega
    rw [hz0]
    show en + 1 + ((_ + 0 : Nat) : Int) ≤ _
    omega
def zUb (M : zMem) (d : Nat) (um en kp k : Int) : Prop := (0 ≤ kp ∧ kp ≤ k ∧ k ≤ um ∧ um ≤ en ∧ en ≤ 2 * um) ∧ zUr M en (d + 1) ∧ (3 ≤ ze M 81 55 → kp + (ucn (uKf M) k.toNat (um - k).toNat : Int) + en ≤ 2 * um)
theorem zUb_0 {M : zMem} {d : Nat} {um en k : Int} (h : zUa M d um en k) (hk : um ≤ k) : zUb M d um en 0 0 := by
  obtain ⟨h1, h2, h3, h4⟩ := h
  refine ⟨⟨by (decide), by (decide), by (exact zo_962 h1.1 h1.2.1), by (exact zo_2544 h1.2.2.1), by (exact zo_963 h1.2.1 h1.2.2.2)⟩, h3, fun g => ?_⟩
  have := h4 g
  rw [show (um - 0).toNat = k.toNat by omega]
  show 0 + (ucn (uKf M) 0 k.toNat : Int) + en ≤ 2 * um
  omega
theorem ucn_k {f : Nat → Bool} {k um : Int} (k0 : 0 ≤ k) (hk : k < um) : ucn f k.toNat (um - k).toNat = (f k.toNat).toNat + ucn f (k + 1).toNat (um - (k + 1)).toNat := by
  rw [show (um - k).toNat = (um - (k + 1)).toNat + 1 by omega, ucn_l, show (k + 1).toNat = k.toNat + 1 by (exact zo_1084 k0)]
theorem zUb_s0 {M : zMem} {d : Nat} {um en kp k : Int} (h : zUb M d um en kp k) (hk : k < um) : zUb M d um en kp (k + 1) := by
  obtain ⟨h1, h2, h3⟩ := h
  refine ⟨⟨by (exact zo_57 h1.1), by (exact zo_961 h1.2.1), by (exact zo_2559 hk), by (exact zo_2544 h1.2.2.2.1), by (exact zo_2560 h1.2.2.2.2)⟩, h2, fun g => ?_⟩
  have := h3 g
  rw [ucn_k (by (exact zo_962 h1.1 h1.2.1)) hk] at this
  omega
theorem zUb_s1 {M N : zMem} {d : Nat} (hd1 : d < 31) {um en kp k s : Int} (h : zUb M d um en kp k) (hk : k < um) (hs : s = ze M 110 k.toNat) (hz : zuk M s) (hN : N = zsI M 110 kp.toNat (Int32.ofInt s)) : zUb N d um en (kp + 1) (k + 1) := by
  obtain ⟨h1, h2, h3⟩ := h
  have hf1 : zFr [] [110] M N := by rw [hN]; exact zFr.sA (by decide)
  refine ⟨⟨by (exact zo_76 h1.1), by (exact zo_951 h1.2.1), by (exact zo_2559 hk), by (exact zo_2544 h1.2.2.2.1), by (exact zo_2560 h1.2.2.2.2)⟩, ?_, fun g => ?_⟩
  · refine zUr_s h2 (by (exact zo_2549 hd1)) (by (exact zo_57 h1.1)) hN ?_ (Or.inl (Int.le_refl _))
    rw [hs]
    exact h2 k.toNat (by omega)
  · have e55 : ze N 81 55 = ze M 81 55 := hf1.e (by decide)
    rw [e55] at g
    have := h3 g
    rw [ucn_k (by (exact zo_962 h1.1 h1.2.1)) hk] at this
    have h5 : uKf M k.toNat = true := by
      unfold uKf
      rw [← hs]
      exact zkb_t.mpr hz
    rw [h5] at this
    rw [ucn_c (g := uKf M) (k + 1).toNat _ (fun i hi => uKf_s hN (by omega))]
    have e1 : (true.toNat : Nat) = 1 := rfl
    rw [e1] at this
    omega
def zUc (M : zMem) (d : Nat) (um en kp k : Int) : Prop := (0 ≤ kp ∧ kp ≤ k ∧ um ≤ k ∧ k ≤ en ∧ en ≤ 2 * um) ∧ zUr M en (d + 1) ∧ (3 ≤ ze M 81 55 → kp + (en - k) ≤ um)
theorem zUc_0 {M : zMem} {d : Nat} {um en kp k : Int} (h : zUb M d um en kp k) (hk : um ≤ k) : zUc M d um en kp um := by
  obtain ⟨h1, h2, h3⟩ := h
  refine ⟨⟨by (exact zo_57 h1.1), by (exact zo_954 h1.2.1 h1.2.2.1), by (exact zo_628), by (exact zo_2544 h1.2.2.2.1), by (exact zo_2560 h1.2.2.2.2)⟩, h2, fun g => ?_⟩
  have := h3 g
  omega
theorem zUc_s {M N : zMem} {d : Nat} (hd1 : d < 31) {um en kp k s : Int} (h : zUc M d um en kp k) (hk : k < en) (hs : s = ze M 110 k.toNat) (hN : N = zsI M 110 kp.toNat (Int32.ofInt s)) : zUc N d um en (kp + 1) (k + 1) := by
  obtain ⟨h1, h2, h3⟩ := h
  have hf1 : zFr [] [110] M N := by rw [hN]; exact zFr.sA (by decide)
  refine ⟨⟨by (exact zo_76 h1.1), by (exact zo_951 h1.2.1), by (exact zo_961 h1.2.2.1), by (exact zo_2559 hk), by (exact zo_2560 h1.2.2.2.2)⟩, ?_, fun g => ?_⟩
  · refine zUr_s h2 (by (exact zo_2549 hd1)) (by (exact zo_57 h1.1)) hN ?_ (Or.inl (Int.le_refl _))
    rw [hs]
    exact h2 k.toNat (by omega)
  · have e55 : ze N 81 55 = ze M 81 55 := hf1.e (by decide)
    rw [e55] at g
    have := h3 g
    omega
def zUo (T : zGT) (M : zMem) (d : Nat) (um : Int) : Prop := 0 ≤ um ∧ um ≤ ((2 ^ gcu T d : Nat) : Int) ∧ zUr M um d
theorem gcu_m (T : zGT) : ∀ d e : Nat, gcu T d ≤ gcu T (d + e)
  | d, 0 => Nat.le_refl _
  | d, e + 1 => Nat.le_trans (gcu_m T d e) (Nat.le_add_right _ _)
theorem gcu_b {T : zGT} (hX : gEx T) {d : Nat} (hd : d ≤ (gF T).length) : (2 : Nat) ^ gcu T d ≤ 32768 := by
  have h1 := gcu_m T d ((gF T).length - d)
  rw [show d + ((gF T).length - d) = (gF T).length by omega] at h1
  have h2 := hX.2.2.2.1
  have h3 : (2 : Nat) ^ gcu T d ≤ 2 ^ 15 := Nat.pow_le_pow_right (by (decide)) (by omega)
  exact h3
theorem zUo_b {T : zGT} (hX : gEx T) {M : zMem} {d : Nat} {um : Int} (hd : d ≤ (gF T).length) (h : zUo T M d um) : 0 ≤ um ∧ um ≤ 32768 := by
  have h1 := gcu_b hX hd
  have h2 := h.1
  have h3 := h.2.1
  omega
theorem zUo_0 {T : zGT} {M : zMem} (h : ze M 110 0 = 0) : zUo T M 0 1 := ⟨by (decide), by
  show (1 : Int) ≤ ((2 ^ 0 : Nat) : Int)
  decide, fun i hi => by
  rw [show i = 0 by omega, h]
  decide⟩
theorem zUo_s {T : zGT} {M N : zMem} {d : Nat} {j um en kp k : Int} (hj : (d : Int) = ((gF T).length : Int) - 1 - j) (j0 : 0 ≤ j) (ho : um ≤ ((2 ^ gcu T d : Nat) : Int)) (hMd : zMq T j M) (h : zUc M d um en kp k) (hk : en ≤ k) (hN : ∀ i, ze N 110 i = ze M 110 i) : zUo T N (d + 1) kp := by
  obtain ⟨h1, h2, h3⟩ := h
  refine ⟨by (exact zo_57 h1.1), ?_, fun i hi => by rw [hN]; exact h2 i (by omega)⟩
  have hm := hMd.1.1
  have hg : gcu T (d + 1) = gcu T d + (if gmm T ((gF T).getD ((gF T).length - 1 - d) 0) ≤ 2 then 1 else 0) := rfl
  rw [show (gF T).length - 1 - d = j.toNat by omega] at hg
  by_cases e : gmm T ((gF T).getD j.toNat 0) ≤ 2
  · rw [if_pos e] at hg
    rw [hg, Nat.pow_succ]
    omega
  · rw [if_neg e] at hg
    rw [hg, Nat.add_zero]
    have := h3 (by omega)
    omega
theorem zshl_p {k : Int} (k0 : 0 ≤ k) (k1 : k < 31) : 0 ≤ zshl 1 k := by
  obtain ⟨n, rfl⟩ := Int.eq_ofNat_of_zero_le k0
  rw [zshl1 n (by omega)]
  exact Int.natCast_nonneg _
theorem zUo.fr {S C : List Nat} {M N : zMem} {T : zGT} {d : Nat} {um : Int} (hf : zFr S C M N) (h : zUo T M d um) (hc : 110 ∉ C) : zUo T N d um := ⟨h.1, h.2.1, fun i hi => by rw [hf.ie (by decide) hc]; exact h.2.2 i hi⟩
theorem gp30 {d : Nat} (h : d ≤ 30) : ((2 ^ d : Nat) : Int) ≤ 1073741824 := by
  have : (2 : Nat) ^ d ≤ 2 ^ 30 := Nat.pow_le_pow_right (by (decide)) h
  have h4 : (2 : Nat) ^ 30 = 1073741824 := rfl
  omega
def zNo (T : zGT) (S : Nat) (v g : Int) : Prop := gIn T v ∧ (∀ x : Nat, (x : Int) < g → x < gN T → (v.toNat.testBit x = true ↔ gtr T S x = S)) ∧ ∀ x : Nat, g ≤ (x : Int) → v.toNat.testBit x = false
theorem zNo_0 (T : zGT) (S : Nat) : zNo T S 0 0 := ⟨gIn_0 T, fun x h => absurd h (by (exact zo_131)), fun x _ => Nat.zero_testBit x⟩
theorem zNo_s {T : zGT} (hG : gGd T) {S : Nat} {v g t : Int} (h : zNo T S v g) (g0 : 0 ≤ g) (g1 : g < gN T) (ht : (t = 1 ∧ gtr T S g.toNat = S) ∨ (t = 0 ∧ gtr T S g.toNat ≠ S)) : zNo T S (zor v (zshl t g)) (g + 1) := by
  obtain ⟨h1, h2, h3⟩ := h
  have hb := h1.b hG
  have h24 := hG.2.1
  refine ⟨gIn_t hG h1 (by omega) g0 g1, ?_⟩
  rcases ht with ⟨rfl, ht⟩ | ⟨rfl, ht⟩
  · rw [zorb hb.1 (by omega) g0 (by omega), Int.toNat_natCast]
    refine ⟨fun x hx hxn => ?_, fun x hx => ?_⟩
    · rw [Nat.testBit_or, Nat.testBit_two_pow, Bool.or_eq_true, decide_eq_true_eq]
      by_cases e : g.toNat = x
      · subst e
        exact ⟨fun _ => ht, fun _ => Or.inr rfl⟩
      · rw [← h2 x (by omega) hxn]
        exact ⟨fun h => h.resolve_right e, fun h => Or.inl h⟩
    · rw [Nat.testBit_or, Nat.testBit_two_pow, h3 x (by omega), Bool.false_or]
      exact decide_eq_false (by omega)
  · have e0 : zor v (zshl 0 g) = v := by
      obtain ⟨n, rfl⟩ := Int.eq_ofNat_of_zero_le g0
      obtain ⟨m, rfl⟩ := Int.eq_ofNat_of_zero_le hb.1
      rw [show zshl 0 (n : Int) = 0 from zshl0_k ⟨n, by omega⟩]
      have e3 : ((0 : Nat) : Int) = 0 := rfl
      rw [← e3, zor_n m 0 (by omega) (by (decide)), Nat.or_zero]
    rw [e0]
    refine ⟨fun x hx hxn => ?_, fun x hx => h3 x (by omega)⟩
    by_cases e : g.toNat = x
    · subst e
      rw [h3 g.toNat (by (exact zo_68))]
      exact ⟨fun h => (by cases h), fun h => absurd h ht⟩
    · exact h2 x (by omega) hxn
set_option maxHeartbeats 4000000 in
theorem c_M_normOfF (l : Launch) (Mz : zMem) (hW : zMt Mz) (a0_ : Int) (ha0_a : -2147483648 ≤ a0_) (ha0_b : a0_ < 2147483648) (T : zGT) (hO : gOK T) (p0_ : zGB T Mz) (p1_ : 0 ≤ a0_) (p2_ : a0_ < 16777216) : zC l m_M_normOf 0 0 [.ref 81, .int (Int32.ofInt a0_)] Mz (zpI [] [] Mz (fun v N => gIn T v ∧ 0 ≤ v ∧ ∀ g : Nat, g < gN T → ((v).toNat.testBit g = true ↔ gtr T (a0_).toNat g = (a0_).toNat))) := by
  refine zC_of (L0 := [some (.ref 81), some (.int (Int32.ofInt a0_)), none, none]) md_M_normOf (Nat.le_of_ble_eq_true rfl) rfl ?_ zQ0
  have hf : zFr [] [] Mz Mz := zFr.rf
  have r_20 := ze_r Mz 81 20
  have hG := hO.1
  have g24 := hG.2.1
  have g1 := hG.1
  have dv0 : zTab T Mz := p0_.1
  have dv1 : zB 85 144 0 5 Mz := p0_.2.1
  have dv2 : zJX T Mz := p0_.2.2.1
  have dv3 : zFirs T Mz := p0_.2.2.2.1
  have dv4 : zSSm T Mz := p0_.2.2.2.2.1
  have dv5 : zGD Mz := zGB.d hO p0_
  have gb := dv5.1
  have gn := dv0.1
  refine zw_iconst (pc := 0) (v := Int32.ofInt 0) (by decide) (zdal_p dlD_M_normOf_18 (i := 0) rfl) ?_
  refine zw_istore_n (pc := 1) (i := 2) (L2 := [some (.ref 81), some (.int (Int32.ofInt a0_)), some (.int (Int32.ofInt 0)), none]) rfl (by decide) rfl (zdal_p dlD_M_normOf_18 (i := 1) rfl) ?_
  refine zw_iconst (pc := 2) (v := Int32.ofInt 0) (by decide) (zdal_p dlD_M_normOf_18 (i := 2) rfl) ?_
  refine zw_istore_n (pc := 3) (i := 3) (L2 := [some (.ref 81), some (.int (Int32.ofInt a0_)), some (.int (Int32.ofInt 0)), some (.int (Int32.ofInt 0))]) rfl (by decide) rfl (zdal_p dlD_M_normOf_18 (i := 3) rfl) ?_
  have lp_4 : ∀ (n : Nat) (u1_ : Int) (hu1_a : -2147483648 ≤ u1_) (hu1_b : u1_ < 2147483648) (u2_ : Int) (hu2_a : -2147483648 ≤ u2_) (hu2_b : u2_ < 2147483648) (i3_ : 0 ≤ u2_) (i4_ : zNo T (a0_).toNat u1_ u2_) (i5_ : u2_ ≤ ze Mz 81 20), (ze Mz 81 20 - u2_).toNat < n → zW l m_M_normOf (zn Mz + 0, zw Mz + 0) Mz 4 [some (.ref 81), some (.int (Int32.ofInt a0_)), some (.int (Int32.ofInt u1_)), some (.int (Int32.ofInt u2_))] [] (zpI [] [] Mz (fun v N => gIn T v ∧ 0 ≤ v ∧ ∀ g : Nat, g < gN T → ((v).toNat.testBit g = true ↔ gtr T (a0_).toNat g = (a0_).toNat))) := by
    intro n
    induction n with
    | zero =>
      intro u1_ hu1_a hu1_b u2_ hu2_a hu2_b i3_ i4_ i5_ h0
      exact absurd h0 (Nat.not_lt_zero _)
    | succ n ih_4 =>
      intro u1_ hu1_a hu1_b u2_ hu2_a hu2_b i3_ i4_ i5_ hlt_4
      refine zw_iload_n (pc := 4) (n := 3) (x := Int32.ofInt u2_) rfl (zdal_p dlD_M_normOf_18 (i := 4) rfl) ?_
      refine zw_aload_n (pc := 5) (n := 0) (x := 81) rfl (zdal_p dlD_M_normOf_18 (i := 5) rfl) ?_
      refine zr_getI0 hf hW (pc := 6) (by decide) f_M_196 rfl (zdal_p dlD_M_normOf_18 (i := 6) rfl) ?_
      refine zr_icmp_ge (pc := 9) (tgt := 41) ⟨hu2_a, hu2_b⟩ ⟨(ze_r Mz 81 20).1, (ze_r Mz 81 20).2⟩ (by decide) (zdal_p dlD_M_normOf_18 (i := 7) rfl) (fun hc_9 => ?_) (fun hc_9 => ?_)
      · skip
        refine zw_iload_n (pc := 41) (n := 2) (x := Int32.ofInt u1_) rfl (zdal_p dlD_M_normOf_19 (i := 1) rfl) ?_
        have hnz_ := (show zNo T (a0_).toNat u1_ u2_ by first | with_reducible assumption | assumption)
        exact zr_iret (pc := 42) (ty := .int) rfl rfl ⟨by (exact hu1_a), by (exact hu1_b)⟩ hf ⟨(show gIn T u1_ by exact hnz_.1), (show 0 ≤ u1_ by exact hnz_.1.1), (show ∀ g : Nat, g < gN T → ((u1_).toNat.testBit g = true ↔ gtr T (a0_).toNat g = (a0_).toNat) by exact fun g hg => hnz_.2.1 g (by omega) hg)⟩ (zdal_p dlD_M_normOf_19 (i := 2) rfl)
      · skip
        refine zw_iload_n (pc := 12) (n := 2) (x := Int32.ofInt u1_) rfl (zdal_p dlD_M_normOf_18 (i := 8) rfl) ?_
        refine zw_aload_n (pc := 13) (n := 0) (x := 81) rfl (zdal_p dlD_M_normOf_18 (i := 9) rfl) ?_
        refine zw_iload_n (pc := 14) (n := 1) (x := Int32.ofInt a0_) rfl (zdal_p dlD_M_normOf_18 (i := 10) rfl) ?_
        refine zw_iload_n (pc := 15) (n := 3) (x := Int32.ofInt u2_) rfl (zdal_p dlD_M_normOf_18 (i := 11) rfl) ?_
        refine zr_callV (hf.w hW) hf.x (pc := 16) [.int (Int32.ofInt a0_), .int (Int32.ofInt u2_)] [.int (Int32.ofInt u1_)] l_M_223 (c_M_turned l Mz (hf.w hW) a0_ ha0_a ha0_b u2_ hu2_a hu2_b T hG dv0 (show 0 ≤ a0_ by first | with_reducible assumption | assumption | omega) (show 0 ≤ u2_ by first | with_reducible assumption | assumption | omega) (show u2_ < ze Mz 81 20 by first | with_reducible assumption | assumption | omega)) rfl rfl rfl (by decide) (Nat.le_of_ble_eq_true rfl) (zdal_p dlD_M_normOf_18 (i := 12) rfl) ?_
        rintro _ N6_ ⟨v7_, rfl, ⟨hv7_a, hv7_b⟩, hsN6_, ⟨hp0_N6_, hp1_N6_, hp2_N6_⟩⟩
        obtain rfl := hsN6_.eq.symm
        show zW l m_M_normOf (zn Mz + 0, zw Mz + 0) Mz 19 [some (.ref 81), some (.int (Int32.ofInt a0_)), some (.int (Int32.ofInt u1_)), some (.int (Int32.ofInt u2_))] [.int (Int32.ofInt v7_), .int (Int32.ofInt u1_)] _
        refine zw_iload_n (pc := 19) (n := 1) (x := Int32.ofInt a0_) rfl (zdal_p dlD_M_normOf_18 (i := 13) rfl) ?_
        refine zr_icmp_ne (pc := 20) (tgt := 27) ⟨hv7_a, hv7_b⟩ ⟨ha0_a, ha0_b⟩ (by decide) (zdal_p dlD_M_normOf_18 (i := 14) rfl) (fun hc_20 => ?_) (fun hc_20 => ?_)
        · skip
          refine zw_iconst (pc := 27) (v := Int32.ofInt 0) (by decide) (zdal_p dlD_M_normOf_18 (i := 17) rfl) ?_
          refine zr_callS hf.x (pc := 28) [.int (Int32.ofInt 0)] [.int (Int32.ofInt u1_)] l_M_256 (c_M_truth l Mz (hf.w hW) 0 (by decide) (by decide) (by (decide))) rfl rfl (by decide) (Nat.le_of_ble_eq_true rfl) (zdal_p dlD_M_normOf_18 (i := 18) rfl) ?_
          rintro _ N8_ ⟨v9_, rfl, ⟨hv9_a, hv9_b⟩, hsN8_, hp0_N8_⟩
          obtain rfl := hsN8_.eq.symm
          replace hp0_N8_ : v9_ = 0 := hp0_N8_
          show zW l m_M_normOf (zn Mz + 0, zw Mz + 0) Mz 31 [some (.ref 81), some (.int (Int32.ofInt a0_)), some (.int (Int32.ofInt u1_)), some (.int (Int32.ofInt u2_))] [.int (Int32.ofInt v9_), .int (Int32.ofInt u1_)] _
          have hnt_ : (v9_ = 1 ∧ gtr T (a0_).toNat (u2_).toNat = (a0_).toNat) ∨ (v9_ = 0 ∧ gtr T (a0_).toNat (u2_).toNat ≠ (a0_).toNat) := by omega
          have hno_ := zNo_s hG (show zNo T (a0_).toNat u1_ u2_ by first | with_reducible assumption | assumption) (by (exact i3_)) (by (exact zo_1014 gn hc_9)) hnt_
          refine zw_iload_n (pc := 31) (n := 3) (x := Int32.ofInt u2_) rfl (zdal_p dlD_M_normOf_18 (i := 19) rfl) ?_
          refine zr_ishl (pc := 32) (zdal_p dlD_M_normOf_18 (i := 20) rfl) ?_
          have hr10_ := zshl_r v9_ u2_
          refine zr_ior (pc := 33) (zdal_p dlD_M_normOf_18 (i := 21) rfl) ?_
          have hr11_ := zor_r u1_ (zshl v9_ u2_)
          refine zw_istore_n (pc := 34) (i := 2) (L2 := [some (.ref 81), some (.int (Int32.ofInt a0_)), some (.int (Int32.ofInt (zor u1_ (zshl v9_ u2_)))), some (.int (Int32.ofInt u2_))]) rfl (by decide) rfl (zdal_p dlD_M_normOf_18 (i := 22) rfl) ?_
          refine zr_iinc (pc := 35) (i := 3) (a := u2_) (n := 1) (L2 := [some (.ref 81), some (.int (Int32.ofInt a0_)), some (.int (Int32.ofInt (zor u1_ (zshl v9_ u2_)))), some (.int (Int32.ofInt (u2_ + 1)))]) rfl (by decide) rfl (zdal_p dlD_M_normOf_18 (i := 23) rfl) ?_
          refine zw_goto (pc := 38) (tgt := 4) (by decide) (zdal_p dlD_M_normOf_19 (i := 0) rfl) ?_
          exact ih_4 (zor u1_ (zshl v9_ u2_)) (by (exact zo_284 hr11_.1)) (by (exact zo_285 hr11_.2)) (u2_ + 1) (by (exact zo_74 i3_)) (by (exact zo_919 gb.2.1 hc_9)) (show 0 ≤ (u2_ + 1) by first | with_reducible assumption | (exact zo_76 i3_) | assumption) (show zNo T (a0_).toNat (zor u1_ (zshl v9_ u2_)) (u2_ + 1) by exact hno_) (show (u2_ + 1) ≤ ze Mz 81 20 by first | with_reducible assumption | assumption | omega) (by (exact zo_147 hc_9 hlt_4))
        · skip
          refine zw_iconst (pc := 23) (v := Int32.ofInt 1) (by decide) (zdal_p dlD_M_normOf_18 (i := 15) rfl) ?_
          refine zw_goto (pc := 24) (tgt := 28) (by decide) (zdal_p dlD_M_normOf_18 (i := 16) rfl) ?_
          refine zr_callS hf.x (pc := 28) [.int (Int32.ofInt 1)] [.int (Int32.ofInt u1_)] l_M_256 (c_M_truth l Mz (hf.w hW) 1 (by decide) (by decide) (by (decide))) rfl rfl (by decide) (Nat.le_of_ble_eq_true rfl) (zdal_p dlD_M_normOf_18 (i := 18) rfl) ?_
          rintro _ N12_ ⟨v13_, rfl, ⟨hv13_a, hv13_b⟩, hsN12_, hp0_N12_⟩
          obtain rfl := hsN12_.eq.symm
          replace hp0_N12_ : v13_ = 1 := hp0_N12_
          show zW l m_M_normOf (zn Mz + 0, zw Mz + 0) Mz 31 [some (.ref 81), some (.int (Int32.ofInt a0_)), some (.int (Int32.ofInt u1_)), some (.int (Int32.ofInt u2_))] [.int (Int32.ofInt v13_), .int (Int32.ofInt u1_)] _
          have hnt_ : (v13_ = 1 ∧ gtr T (a0_).toNat (u2_).toNat = (a0_).toNat) ∨ (v13_ = 0 ∧ gtr T (a0_).toNat (u2_).toNat ≠ (a0_).toNat) := by omega
          have hno_ := zNo_s hG (show zNo T (a0_).toNat u1_ u2_ by first | with_reducible assumption | assumption) (by (exact i3_)) (by (exact zo_1014 gn hc_9)) hnt_
          refine zw_iload_n (pc := 31) (n := 3) (x := Int32.ofInt u2_) rfl (zdal_p dlD_M_normOf_18 (i := 19) rfl) ?_
          refine zr_ishl (pc := 32) (zdal_p dlD_M_normOf_18 (i := 20) rfl) ?_
          have hr14_ := zshl_r v13_ u2_
          refine zr_ior (pc := 33) (zdal_p dlD_M_normOf_18 (i := 21) rfl) ?_
          have hr15_ := zor_r u1_ (zshl v13_ u2_)
          refine zw_istore_n (pc := 34) (i := 2) (L2 := [some (.ref 81), some (.int (Int32.ofInt a0_)), some (.int (Int32.ofInt (zor u1_ (zshl v13_ u2_)))), some (.int (Int32.ofInt u2_))]) rfl (by decide) rfl (zdal_p dlD_M_normOf_18 (i := 22) rfl) ?_
          refine zr_iinc (pc := 35) (i := 3) (a := u2_) (n := 1) (L2 := [some (.ref 81), some (.int (Int32.ofInt a0_)), some (.int (Int32.ofInt (zor u1_ (zshl v13_ u2_)))), some (.int (Int32.ofInt (u2_ + 1)))]) rfl (by decide) rfl (zdal_p dlD_M_normOf_18 (i := 23) rfl) ?_
          refine zw_goto (pc := 38) (tgt := 4) (by decide) (zdal_p dlD_M_normOf_19 (i := 0) rfl) ?_
          exact ih_4 (zor u1_ (zshl v13_ u2_)) (by (exact zo_284 hr15_.1)) (by (exact zo_285 hr15_.2)) (u2_ + 1) (by (exact zo_74 i3_)) (by (exact zo_919 gb.2.1 hc_9)) (show 0 ≤ (u2_ + 1) by first | with_reducible assumption | (exact zo_76 i3_) | assumption) (show zNo T (a0_).toNat (zor u1_ (zshl v13_ u2_)) (u2_ + 1) by exact hno_) (show (u2_ + 1) ≤ ze Mz 81 20 by first | with_reducible assumption | assumption | omega) (by (exact zo_147 hc_9 hlt_4))
  exact lp_4 _ 0 (by decide) (by decide) 0 (by decide) (by decide) (show 0 ≤ (0 : Int) by first | with_reducible assumption | (decide) | assumption) (show zNo T (a0_).toNat (0 : Int) (0 : Int) by exact zNo_0 T _) (show (0 : Int) ≤ ze Mz 81 20 by first | with_reducible assumption | (exact zo_564 gb.1) | assumption) (Nat.lt_succ_self _)
set_option maxHeartbeats 4000000 in
theorem c_M_sortOfSetF (l : Launch) (Mz : zMem) (hW : zMt Mz) (a0_ : Int) (ha0_a : -2147483648 ≤ a0_) (ha0_b : a0_ < 2147483648) (T : zGT) (hO : gOK T) (p0_ : zGB T Mz) (p1_ : gMe T a0_) : zC l m_M_sortOfSet 0 0 [.ref 81, .int (Int32.ofInt a0_)] Mz (zpI [] [] Mz (fun v N => 0 ≤ v ∧ v < ze Mz 81 26 ∧ ze Mz 91 (v).toNat = ((glt T (a0_).toNat : Nat) : Int))) := by
  refine zC_of (L0 := [some (.ref 81), some (.int (Int32.ofInt a0_))]) md_M_sortOfSet (Nat.le_of_ble_eq_true rfl) rfl ?_ zQ0
  have hf : zFr [] [] Mz Mz := zFr.rf
  have r_25 := ze_r Mz 81 25
  have r_26 := ze_r Mz 81 26
  have hG := hO.1
  have g24 := hG.2.1
  have g1 := hG.1
  have dv0 : zTab T Mz := p0_.1
  have dv1 : zB 85 144 0 5 Mz := p0_.2.1
  have dv2 : zJX T Mz := p0_.2.2.1
  have dv3 : zFirs T Mz := p0_.2.2.2.1
  have dv4 : zSSm T Mz := p0_.2.2.2.2.1
  have dv5 : zGD Mz := zGB.d hO p0_
  have gb := dv5.1
  have gn := dv0.1
  refine zw_aload_n (pc := 0) (n := 0) (x := 81) rfl (zdal_p dlD_M_sortOfSet_13 (i := 0) rfl) ?_
  refine zr_getF (r := 90) (hf.w hW) (pc := 1) f_M_41 rfl (zh_90 (hf.w hW)).1 (zdal_p dlD_M_sortOfSet_13 (i := 1) rfl) ?_
  refine zw_aload_n (pc := 4) (n := 0) (x := 81) rfl (zdal_p dlD_M_sortOfSet_13 (i := 2) rfl) ?_
  refine zw_iload_n (pc := 5) (n := 1) (x := Int32.ofInt a0_) rfl (zdal_p dlD_M_sortOfSet_13 (i := 3) rfl) ?_
  refine zr_callV (hf.w hW) hf.x (pc := 6) [.int (Int32.ofInt a0_)] [.ref 90] l_M_232 (c_M_subIndex l Mz (hf.w hW) a0_ ha0_a ha0_b (show 0 ≤ ze Mz 81 25 by first | with_reducible assumption | (exact zo_564 gb.2.2.1) | assumption) (show ze Mz 81 25 ≤ 128 by first | with_reducible assumption | (exact zo_579 gb.2.2.2.1) | assumption)) rfl rfl rfl (by decide) (Nat.le_of_ble_eq_true rfl) (zdal_p dlD_M_sortOfSet_13 (i := 4) rfl) ?_
  rintro _ N1_ ⟨v2_, rfl, ⟨hv2_a, hv2_b⟩, hsN1_, hp0_N1_⟩
  obtain rfl := hsN1_.eq.symm
  replace hp0_N1_ : ((0 ≤ v2_ ∧ v2_ < ze Mz 81 25 ∧ ze Mz 89 (v2_).toNat = a0_) ∨ (v2_ = -1 ∧ ∀ k : Nat, (k : Int) < ze Mz 81 25 → ze Mz 89 k ≠ a0_)) := hp0_N1_
  rcases hp0_N1_ with ⟨ha6_0_hp0_N1_, ha6_1_hp0_N1_, ha6_2_hp0_N1_⟩ | ⟨rfl, ha6_0_hp0_N1_⟩
  · skip
    show zW l m_M_sortOfSet (zn Mz + 0, zw Mz + 0) Mz 9 [some (.ref 81), some (.int (Int32.ofInt a0_))] [.int (Int32.ofInt v2_), .ref 90] _
    have hs := dv4 (v2_).toNat (by (exact zo_587 ha6_0_hp0_N1_ ha6_1_hp0_N1_))
    have hs3 : ze Mz 91 (ze Mz 90 (v2_).toNat).toNat = ((glt T (a0_).toNat : Nat) : Int) := by rw [hs.2.2, show ze Mz 89 (v2_).toNat = a0_ by assumption]
    refine zr_ialdn (pc := 9) (zh_90 (hf.w hW)).2 (by decide) (by (exact ha6_0_hp0_N1_)) (by omega) (zdal_p dlD_M_sortOfSet_13 (i := 5) rfl) (fun v3_ hv3_ hv3_a hv3_b => ?_)
    exact zr_iret (pc := 10) (ty := .int) rfl rfl ⟨by (exact hv3_a), by (exact hv3_b)⟩ hf ⟨(show 0 ≤ v3_ by first | with_reducible assumption | (exact zo_574 hs.1 hv3_ hv3_a) | assumption), (show v3_ < ze Mz 81 26 by first | with_reducible assumption | assumption | omega), (show ze Mz 91 (v3_).toNat = ((glt T (a0_).toNat : Nat) : Int) by rw [‹v3_ = ze Mz 90 _›]; exact hs3)⟩ (zdal_p dlD_M_sortOfSet_13 (i := 6) rfl)
  · skip
    obtain ⟨i0, hi0, hi1⟩ := (p1_).f hO dv2
    exact absurd hi1 (ha6_0_hp0_N1_ i0 hi0)
set_option maxHeartbeats 20000000 in
theorem c_M_laysMade (l : Launch) (Mz : zMem) (hW : zMt Mz) (a0_ : Int) (ha0_a : -2147483648 ≤ a0_) (ha0_b : a0_ < 2147483648) (T : zGT) (hO : gOK T) (hX : gEx T) (p0_ : zGB T Mz) (p1_ : 0 ≤ a0_) (p2_ : a0_ < ze Mz 81 26) : zC l m_M_laysMade 0 0 [.ref 81, .int (Int32.ofInt a0_)] Mz (zpV [55] [109] Mz (fun N => zMq T a0_ N ∧ 1 ≤ ze N 81 55 ∧ ze N 81 55 ≤ 24)) := by
  refine zC_of (L0 := [some (.ref 81), some (.int (Int32.ofInt a0_)), none, none, none]) md_M_laysMade (Nat.le_of_ble_eq_true rfl) rfl ?_ zQ0
  have hf : zFr [55] [109] Mz Mz := zFr.rf
  have r_20 := ze_r Mz 81 20
  have r_26 := ze_r Mz 81 26
  have r_55 := ze_r Mz 81 55
  have hG := hO.1
  have g24 := hG.2.1
  have g1 := hG.1
  have dv0 : zTab T Mz := p0_.1
  have dv1 : zB 85 144 0 5 Mz := p0_.2.1
  have dv2 : zJX T Mz := p0_.2.2.1
  have dv3 : zFirs T Mz := p0_.2.2.2.1
  have dv4 : zSSm T Mz := p0_.2.2.2.2.1
  have dv5 : zGD Mz := zGB.d hO p0_
  have gb := dv5.1
  have gn := dv0.1
  have gfl := dv3.1
  have gf6 := gF_pos hO
  have gxl := hX.2.1
  have hfz := dv3.2 (a0_).toNat (by (exact zo_1001 gb.2.2.2.2.2 gfl p1_ p2_))
  have hfg := dv3.g hO (e := a0_) (by (exact p1_)) (by (exact p2_))
  refine zw_aload_n (pc := 0) (n := 0) (x := 81) rfl (zdal_p dlD_M_laysMade_81 (i := 0) rfl) ?_
  refine zr_getF (r := 91) (hf.w hW) (pc := 1) f_M_44 rfl (zh_91 (hf.w hW)).1 (zdal_p dlD_M_laysMade_81 (i := 1) rfl) ?_
  refine zw_iload_n (pc := 4) (n := 1) (x := Int32.ofInt a0_) rfl (zdal_p dlD_M_laysMade_81 (i := 2) rfl) ?_
  refine zr_ialdn (pc := 5) (zh_91 (hf.w hW)).2 (by decide) (by (exact p1_)) (by (exact zo_906 gb.2.2.2.2.2 ha0_b p2_)) (zdal_p dlD_M_laysMade_81 (i := 3) rfl) (fun v1_ hv1_ hv1_a hv1_b => ?_)
  refine zr_toI (show v1_ = ze Mz 91 (a0_).toNat by (exact hv1_)) ?_
  refine zw_istore_n (pc := 6) (i := 2) (L2 := [some (.ref 81), some (.int (Int32.ofInt a0_)), some (.int (Int32.ofInt (ze Mz 91 (a0_).toNat))), none, none]) rfl (by decide) rfl (zdal_p dlD_M_laysMade_81 (i := 4) rfl) ?_
  refine zw_aload_n (pc := 7) (n := 0) (x := 81) rfl (zdal_p dlD_M_laysMade_81 (i := 5) rfl) ?_
  refine zw_iload_n (pc := 8) (n := 2) (x := Int32.ofInt (ze Mz 91 (a0_).toNat)) rfl (zdal_p dlD_M_laysMade_81 (i := 6) rfl) ?_
  refine zr_callV (hf.w hW) hf.x (pc := 9) [.int (Int32.ofInt (ze Mz 91 (a0_).toNat))] [] l_M_417 (c_M_normOfF l Mz (hf.w hW) (ze Mz 91 (a0_).toNat) (by (exact zo_168 hfg.2.1)) (by (exact zo_550 hv1_ hv1_b)) T hO p0_ (show 0 ≤ (ze Mz 91 (a0_).toNat) by first | with_reducible assumption | (exact zo_57 hfg.2.1) | assumption) (show (ze Mz 91 (a0_).toNat) < 16777216 by first | with_reducible assumption | assumption | omega)) rfl rfl rfl (by decide) (Nat.le_of_ble_eq_true rfl) (zdal_p dlD_M_laysMade_81 (i := 7) rfl) ?_
  rintro _ N2_ ⟨v3_, rfl, ⟨hv3_a, hv3_b⟩, hsN2_, ⟨hp0_N2_, hp1_N2_, hp2_N2_⟩⟩
  obtain rfl := hsN2_.eq.symm
  show zW l m_M_laysMade (zn Mz + 0, zw Mz + 0) Mz 12 [some (.ref 81), some (.int (Int32.ofInt a0_)), some (.int (Int32.ofInt (ze Mz 91 (a0_).toNat))), none, none] [.int (Int32.ofInt v3_)] _
  have hnm_ := hp2_N2_
  refine zw_istore_n (pc := 12) (i := 3) (L2 := [some (.ref 81), some (.int (Int32.ofInt a0_)), some (.int (Int32.ofInt (ze Mz 91 (a0_).toNat))), some (.int (Int32.ofInt v3_)), none]) rfl (by decide) rfl (zdal_p dlD_M_laysMade_81 (i := 8) rfl) ?_
  refine zw_aload_n (pc := 13) (n := 0) (x := 81) rfl (zdal_p dlD_M_laysMade_81 (i := 9) rfl) ?_
  refine zw_iconst (pc := 14) (v := Int32.ofInt 0) (by decide) (zdal_p dlD_M_laysMade_81 (i := 10) rfl) ?_
  refine zr_putI (hf.w hW) (pc := 15) f_M_453 rfl rfl ⟨by (decide), by (decide)⟩ rfl rfl (zdal_p dlD_M_laysMade_81 (i := 11) rfl) (fun N4_ hsN4_ hvN4_ => ?_)
  have hf_N4_ : zFr [55] [109] Mz N4_ := hf.tr hsN4_ (by decide) (by decide)
  have e20_N4_ : ze N4_ 81 20 = ze Mz 81 20 := hsN4_.e (by decide)
  have e26_N4_ : ze N4_ 81 26 = ze Mz 81 26 := hsN4_.e (by decide)
  have r55_N4_ := ze_r N4_ 81 55
  have c5_ : zGB T N4_ := zGB.fr hsN4_ p0_ (by decide) (by decide)
  have c6_ : zTab T N4_ := zTab.fr hsN4_ dv0 (by decide) (by decide)
  have c9_ : zFirs T N4_ := zFirs.fr hsN4_ dv3 (by decide) (by decide)
  refine zw_iconst (pc := 18) (v := Int32.ofInt 0) (by decide) (zdal_p dlD_M_laysMade_81 (i := 12) rfl) ?_
  refine zw_istore (pc := 19) (i := 4) (L2 := [some (.ref 81), some (.int (Int32.ofInt a0_)), some (.int (Int32.ofInt (ze Mz 91 (a0_).toNat))), some (.int (Int32.ofInt v3_)), some (.int (Int32.ofInt 0))]) (by decide) rfl (zdal_p dlD_M_laysMade_81 (i := 13) rfl) ?_
  have lp_21 : ∀ (n : Nat) (u12_ : Int) (hu12_a : -2147483648 ≤ u12_) (hu12_b : u12_ < 2147483648) (N13_ : zMem) (hs14_ : zFr [55] [109] N4_ N13_) (i15_ : 0 ≤ u12_) (i16_ : zMl T a0_ N13_ u12_) (i17_ : u12_ ≤ ze Mz 81 20) (i18_ : 0 ≤ ze N13_ 81 55) (i19_ : ze N13_ 81 55 ≤ u12_), (ze Mz 81 20 - u12_).toNat < n → zW l m_M_laysMade (zn Mz + 0, zw Mz + 0) N13_ 21 [some (.ref 81), some (.int (Int32.ofInt a0_)), some (.int (Int32.ofInt (ze Mz 91 (a0_).toNat))), some (.int (Int32.ofInt v3_)), some (.int (Int32.ofInt u12_))] [] (zpV [55] [109] Mz (fun N => zMq T a0_ N ∧ 1 ≤ ze N 81 55 ∧ ze N 81 55 ≤ 24)) := by
    intro n
    induction n with
    | zero =>
      intro u12_ hu12_a hu12_b N13_ hs14_ i15_ i16_ i17_ i18_ i19_ h0
      exact absurd h0 (Nat.not_lt_zero _)
    | succ n ih_21 =>
      intro u12_ hu12_a hu12_b N13_ hs14_ i15_ i16_ i17_ i18_ i19_ hlt_21
      have hf_N13_ : zFr [55] [109] Mz N13_ := hf_N4_.tr hs14_ (by decide) (by decide)
      have e20_N13_ : ze N13_ 81 20 = ze N4_ 81 20 := hs14_.e (by decide)
      have e26_N13_ : ze N13_ 81 26 = ze N4_ 81 26 := hs14_.e (by decide)
      have r55_N13_ := ze_r N13_ 81 55
      have c20_ : zGB T N13_ := zGB.fr hs14_ c5_ (by decide) (by decide)
      have c21_ : zTab T N13_ := zTab.fr hs14_ c6_ (by decide) (by decide)
      have c24_ : zFirs T N13_ := zFirs.fr hs14_ c9_ (by decide) (by decide)
      refine zw_iload (pc := 21) (i := 4) (x := Int32.ofInt u12_) rfl (zdal_p dlD_M_laysMade_81 (i := 14) rfl) ?_
      refine zw_aload_n (pc := 23) (n := 0) (x := 81) rfl (zdal_p dlD_M_laysMade_81 (i := 15) rfl) ?_
      refine zr_getI0 hf_N13_ hW (pc := 24) (by decide) f_M_196 rfl (zdal_p dlD_M_laysMade_81 (i := 16) rfl) ?_
      refine zr_icmp_ge (pc := 27) (tgt := 93) ⟨hu12_a, hu12_b⟩ ⟨(ze_r Mz 81 20).1, (ze_r Mz 81 20).2⟩ (by decide) (zdal_p dlD_M_laysMade_81 (i := 17) rfl) (fun hc_27 => ?_) (fun hc_27 => ?_)
      · skip
        have hMd_ := zMl_e hG (show zMl T a0_ N13_ u12_ by first | with_reducible assumption | assumption) (by omega)
        have hMd1_ := hMd_.1
        exact zr_vret (pc := 93) rfl hf_N13_ ⟨(show zMq T a0_ N13_ by exact hMd_), (show 1 ≤ ze N13_ 81 55 by first | with_reducible assumption | (exact zo_694 hMd1_.2.1) | assumption), (show ze N13_ 81 55 ≤ 24 by first | with_reducible assumption | (exact zo_0 hMd1_.2.2) | assumption)⟩ (zdal_p dlD_M_laysMade_83 (i := 3) rfl)
      · skip
        refine zw_iload_n (pc := 30) (n := 3) (x := Int32.ofInt v3_) rfl (zdal_p dlD_M_laysMade_81 (i := 18) rfl) ?_
        refine zw_iload (pc := 31) (i := 4) (x := Int32.ofInt u12_) rfl (zdal_p dlD_M_laysMade_81 (i := 19) rfl) ?_
        refine zr_callS hf_N13_.x (pc := 33) [.int (Int32.ofInt v3_), .int (Int32.ofInt u12_)] [] l_M_213 (c_M_holds l N13_ (hf_N13_.w hW) v3_ hv3_a hv3_b u12_ hu12_a hu12_b (show 0 ≤ v3_ by first | with_reducible assumption | assumption | omega) (show 0 ≤ u12_ by first | with_reducible assumption | assumption | omega) (show u12_ < 32 by first | with_reducible assumption | (exact zo_918 gb.2.1 hc_27) | assumption)) rfl rfl (by decide) (Nat.le_of_ble_eq_true rfl) (zdal_p dlD_M_laysMade_81 (i := 20) rfl) ?_
        rintro _ N27_ ⟨v28_, rfl, ⟨hv28_a, hv28_b⟩, hsN27_, hp0_N27_⟩
        obtain rfl := hsN27_.eq.symm
        replace hp0_N27_ : ((v28_ = 1 ∧ zbt v3_ u12_) ∨ (v28_ = 0 ∧ ¬ zbt v3_ u12_)) := hp0_N27_
        rcases hp0_N27_ with ⟨rfl, ha33_0_hp0_N27_⟩ | ⟨rfl, ha33_0_hp0_N27_⟩
        · skip
          have hnt_ := (hnm_ (u12_).toNat (by (exact zo_925 gn hc_27 i15_))).mp ha33_0_hp0_N27_
          show zW l m_M_laysMade (zn Mz + 0, zw Mz + 0) N13_ 36 [some (.ref 81), some (.int (Int32.ofInt a0_)), some (.int (Int32.ofInt (ze Mz 91 (a0_).toNat))), some (.int (Int32.ofInt v3_)), some (.int (Int32.ofInt u12_))] [.int (Int32.ofInt 1)] _
          refine zr_if_eq (pc := 36) (tgt := 87) ⟨(by decide), (by decide)⟩ (by decide) (zdal_p dlD_M_laysMade_81 (i := 21) rfl) (fun hc_36 => ?_) (fun hc_36 => ?_)
          · skip
            exact absurd hc_36 (by decide)
          · skip
            refine zw_aload_n (pc := 39) (n := 0) (x := 81) rfl (zdal_p dlD_M_laysMade_81 (i := 22) rfl) ?_
            refine zw_iload_n (pc := 40) (n := 2) (x := Int32.ofInt (ze Mz 91 (a0_).toNat)) rfl (zdal_p dlD_M_laysMade_81 (i := 23) rfl) ?_
            refine zw_iload (pc := 41) (i := 4) (x := Int32.ofInt u12_) rfl (zdal_p dlD_M_laysMade_82 (i := 0) rfl) ?_
            refine zr_callV (hf_N13_.w hW) hf_N13_.x (pc := 43) [.int (Int32.ofInt (ze Mz 91 (a0_).toNat)), .int (Int32.ofInt u12_)] [] l_M_247 (c_M_leastOf l N13_ (hf_N13_.w hW) (ze Mz 91 (a0_).toNat) (by (exact zo_168 hfg.2.1)) (by (exact zo_550 hv1_ hv1_b)) u12_ hu12_a hu12_b T hG c21_ (show 0 ≤ (ze Mz 91 (a0_).toNat) by first | with_reducible assumption | (exact zo_57 hfg.2.1) | assumption) (show 0 ≤ u12_ by first | with_reducible assumption | assumption | omega) (show u12_ < ze N13_ 81 20 by first | with_reducible assumption | assumption | omega)) rfl rfl rfl (by decide) (Nat.le_of_ble_eq_true rfl) (zdal_p dlD_M_laysMade_82 (i := 1) rfl) ?_
            rintro _ N29_ ⟨v30_, rfl, ⟨hv30_a, hv30_b⟩, hsN29_, ⟨hp0_N29_, hp1_N29_, hp2_N29_⟩⟩
            obtain rfl := hsN29_.eq.symm
            show zW l m_M_laysMade (zn Mz + 0, zw Mz + 0) N13_ 46 [some (.ref 81), some (.int (Int32.ofInt a0_)), some (.int (Int32.ofInt (ze Mz 91 (a0_).toNat))), some (.int (Int32.ofInt v3_)), some (.int (Int32.ofInt u12_))] [.int (Int32.ofInt v30_)] _
            refine zw_iload (pc := 46) (i := 4) (x := Int32.ofInt u12_) rfl (zdal_p dlD_M_laysMade_82 (i := 2) rfl) ?_
            refine zr_icmp_eq (pc := 48) (tgt := 54) ⟨hv30_a, hv30_b⟩ ⟨hu12_a, hu12_b⟩ (by decide) (zdal_p dlD_M_laysMade_82 (i := 3) rfl) (fun hc_48 => ?_) (fun hc_48 => ?_)
            · skip
              refine zw_aload_n (pc := 54) (n := 0) (x := 81) rfl (zdal_p dlD_M_laysMade_82 (i := 5) rfl) ?_
              refine zr_getF (r := 109) (hf_N13_.w hW) (pc := 55) f_M_99 rfl (zh_109 (hf_N13_.w hW)).1 (zdal_p dlD_M_laysMade_82 (i := 6) rfl) ?_
              refine zw_aload_n (pc := 58) (n := 0) (x := 81) rfl (zdal_p dlD_M_laysMade_82 (i := 7) rfl) ?_
              refine zr_getI (hf_N13_.w hW) (pc := 59) f_M_453 rfl (zdal_p dlD_M_laysMade_82 (i := 8) rfl) ?_
              refine zw_aload_n (pc := 62) (n := 0) (x := 81) rfl (zdal_p dlD_M_laysMade_82 (i := 9) rfl) ?_
              refine zw_aload_n (pc := 63) (n := 0) (x := 81) rfl (zdal_p dlD_M_laysMade_82 (i := 10) rfl) ?_
              refine zw_iload_n (pc := 64) (n := 2) (x := Int32.ofInt (ze Mz 91 (a0_).toNat)) rfl (zdal_p dlD_M_laysMade_82 (i := 11) rfl) ?_
              refine zw_iconst (pc := 65) (v := Int32.ofInt 1) (by decide) (zdal_p dlD_M_laysMade_82 (i := 12) rfl) ?_
              refine zw_iload (pc := 66) (i := 4) (x := Int32.ofInt u12_) rfl (zdal_p dlD_M_laysMade_82 (i := 13) rfl) ?_
              refine zr_ishl (pc := 68) (zdal_p dlD_M_laysMade_82 (i := 14) rfl) ?_
              have hr31_ := zshl_r 1 u12_
              have hgi_ := gIn_or hG (x := (ze Mz 91 (a0_).toNat)) (g := u12_) (by (exact zo_57 hfg.2.1)) (hfg.1.i hO).2 (by (exact i15_)) (by (exact zo_1014 gn hc_27))
              refine zr_ior (pc := 69) (zdal_p dlD_M_laysMade_82 (i := 15) rfl) ?_
              have hr32_ := zor_r (ze Mz 91 (a0_).toNat) (zshl 1 u12_)
              refine zr_callV (hf_N13_.w hW) hf_N13_.x (pc := 70) [.int (Int32.ofInt (zor (ze Mz 91 (a0_).toNat) (zshl 1 u12_)))] [.ref 81, .int (Int32.ofInt (ze N13_ 81 55)), .ref 109] l_M_229 (c_M_closed l N13_ (hf_N13_.w hW) (zor (ze Mz 91 (a0_).toNat) (zshl 1 u12_)) (by (exact zo_284 hr32_.1)) (by (exact zo_285 hr32_.2)) T hG c21_ (show gIn T (zor (ze Mz 91 (a0_).toNat) (zshl 1 u12_)) by exact hgi_.1)) rfl rfl rfl (by decide) (Nat.le_of_ble_eq_true rfl) (zdal_p dlD_M_laysMade_82 (i := 16) rfl) ?_
              rintro _ N33_ ⟨v34_, rfl, ⟨hv34_a, hv34_b⟩, hsN33_, ⟨hp0_N33_, hp1_N33_, hp2_N33_⟩⟩
              obtain rfl := hsN33_.eq.symm
              show zW l m_M_laysMade (zn Mz + 0, zw Mz + 0) N13_ 73 [some (.ref 81), some (.int (Int32.ofInt a0_)), some (.int (Int32.ofInt (ze Mz 91 (a0_).toNat))), some (.int (Int32.ofInt v3_)), some (.int (Int32.ofInt u12_))] [.int (Int32.ofInt v34_), .ref 81, .int (Int32.ofInt (ze N13_ 81 55)), .ref 109] _
              have hLC_ := hp0_N33_
              rw [hgi_.2] at hLC_
              have hm_N13_ := gMe_c hO hp0_N33_ (by (exact hp1_N33_))
              refine zr_callV (hf_N13_.w hW) hf_N13_.x (pc := 73) [.int (Int32.ofInt v34_)] [.int (Int32.ofInt (ze N13_ 81 55)), .ref 109] l_M_411 (c_M_sortOfSetF l N13_ (hf_N13_.w hW) v34_ hv34_a hv34_b T hO c20_ (show gMe T v34_ by first | with_reducible assumption | assumption)) rfl rfl rfl (by decide) (Nat.le_of_ble_eq_true rfl) (zdal_p dlD_M_laysMade_82 (i := 17) rfl) ?_
              rintro _ N35_ ⟨v36_, rfl, ⟨hv36_a, hv36_b⟩, hsN35_, ⟨hp0_N35_, hp1_N35_, hp2_N35_⟩⟩
              obtain rfl := hsN35_.eq.symm
              show zW l m_M_laysMade (zn Mz + 0, zw Mz + 0) N13_ 76 [some (.ref 81), some (.int (Int32.ofInt a0_)), some (.int (Int32.ofInt (ze Mz 91 (a0_).toNat))), some (.int (Int32.ofInt v3_)), some (.int (Int32.ofInt u12_))] [.int (Int32.ofInt v36_), .int (Int32.ofInt (ze N13_ 81 55)), .ref 109] _
              have hgl_ := hp2_N35_
              have hFi_ := c24_
              refine zr_iast (pc := 76) (zh_109 (hf_N13_.w hW)).2 (by decide) (by decide) (by (exact i18_)) (by omega) (zdal_p dlD_M_laysMade_82 (i := 18) rfl) (fun N37_ hN37_ hsN37_ => ?_)
              have hf_N37_ : zFr [55] [109] Mz N37_ := hf_N13_.tr hsN37_ (by decide) (by decide)
              have hb0_N37_ : zFr [55] [109] N4_ N37_ := hs14_.tr hsN37_ (by decide) (by decide)
              have e20_N37_ : ze N37_ 81 20 = ze N13_ 81 20 := hsN37_.e (by decide)
              have e26_N37_ : ze N37_ 81 26 = ze N13_ 81 26 := hsN37_.e (by decide)
              have e55_N37_ : ze N37_ 81 55 = ze N13_ 81 55 := hsN37_.e (by decide)
              refine zw_aload_n (pc := 77) (n := 0) (x := 81) rfl (zdal_p dlD_M_laysMade_82 (i := 19) rfl) ?_
              refine zw_dup (pc := 78) rfl (zdal_p dlD_M_laysMade_82 (i := 20) rfl) ?_
              refine zr_getI (hf_N37_.w hW) (pc := 79) f_M_453 rfl (zdal_p dlD_M_laysMade_82 (i := 21) rfl) ?_
              refine zw_iconst (pc := 82) (v := Int32.ofInt 1) (by decide) (zdal_p dlD_M_laysMade_82 (i := 22) rfl) ?_
              refine zr_iadd (pc := 83) (zdal_p dlD_M_laysMade_82 (i := 23) rfl) ?_
              refine zr_putI (hf_N37_.w hW) (pc := 84) f_M_453 rfl rfl ⟨by (exact zo_1205 e55_N37_ i18_), by omega⟩ rfl rfl (zdal_p dlD_M_laysMade_83 (i := 0) rfl) (fun N45_ hsN45_ hvN45_ => ?_)
              have hf_N45_ : zFr [55] [109] Mz N45_ := hf_N37_.tr hsN45_ (by decide) (by decide)
              have hb0_N45_ : zFr [55] [109] N4_ N45_ := hb0_N37_.tr hsN45_ (by decide) (by decide)
              have e20_N45_ : ze N45_ 81 20 = ze N37_ 81 20 := hsN45_.e (by decide)
              have e26_N45_ : ze N45_ 81 26 = ze N37_ 81 26 := hsN45_.e (by decide)
              have r55_N45_ := ze_r N45_ 81 55
              have hns_ := zMl_s hO hX hFi_ (show zMl T a0_ N13_ u12_ by first | with_reducible assumption | assumption) (by (exact i15_)) (by (exact zo_1014 gn hc_27)) (by (exact p1_)) (by (exact zo_2587 gb.2.2.2.2.2 gfl p2_)) (F := (ze Mz 91 (a0_).toNat)) (by (exact hfz)) hnt_ (by omega) hLC_ (by (exact hp0_N35_)) (by omega) hgl_ hN37_ hsN45_ (by (exact hvN45_))
              refine zr_iinc (pc := 87) (i := 4) (a := u12_) (n := 1) (L2 := [some (.ref 81), some (.int (Int32.ofInt a0_)), some (.int (Int32.ofInt (ze Mz 91 (a0_).toNat))), some (.int (Int32.ofInt v3_)), some (.int (Int32.ofInt (u12_ + 1)))]) rfl (by decide) rfl (zdal_p dlD_M_laysMade_83 (i := 1) rfl) ?_
              refine zw_goto (pc := 90) (tgt := 21) (by decide) (zdal_p dlD_M_laysMade_83 (i := 2) rfl) ?_
              exact ih_21 (u12_ + 1) (by (exact zo_74 i15_)) (by (exact zo_919 gb.2.1 hc_27)) N45_ hb0_N45_ (show 0 ≤ (u12_ + 1) by first | with_reducible assumption | (exact zo_76 i15_) | assumption) (show zMl T a0_ N45_ (u12_ + 1) by exact hns_) (show (u12_ + 1) ≤ ze Mz 81 20 by first | with_reducible assumption | assumption | omega) (show 0 ≤ ze N45_ 81 55 by first | with_reducible assumption | assumption | omega) (show ze N45_ 81 55 ≤ (u12_ + 1) by first | with_reducible assumption | assumption | omega) (by (exact zo_147 hc_27 hlt_21))
            · skip
              have hns_ := zMl_n hO hX (show zMl T a0_ N13_ u12_ by first | with_reducible assumption | assumption) (by (exact i15_)) (by (exact p1_)) (by (exact zo_2587 gb.2.2.2.2.2 gfl p2_)) (F := (ze Mz 91 (a0_).toNat)) (by (exact hfz)) (Or.inr (by omega))
              refine zw_goto (pc := 51) (tgt := 87) (by decide) (zdal_p dlD_M_laysMade_82 (i := 4) rfl) ?_
              refine zr_iinc (pc := 87) (i := 4) (a := u12_) (n := 1) (L2 := [some (.ref 81), some (.int (Int32.ofInt a0_)), some (.int (Int32.ofInt (ze Mz 91 (a0_).toNat))), some (.int (Int32.ofInt v3_)), some (.int (Int32.ofInt (u12_ + 1)))]) rfl (by decide) rfl (zdal_p dlD_M_laysMade_83 (i := 1) rfl) ?_
              refine zw_goto (pc := 90) (tgt := 21) (by decide) (zdal_p dlD_M_laysMade_83 (i := 2) rfl) ?_
              exact ih_21 (u12_ + 1) (by (exact zo_74 i15_)) (by (exact zo_919 gb.2.1 hc_27)) N13_ hs14_ (show 0 ≤ (u12_ + 1) by first | with_reducible assumption | (exact zo_76 i15_) | assumption) (show zMl T a0_ N13_ (u12_ + 1) by exact hns_) (show (u12_ + 1) ≤ ze Mz 81 20 by first | with_reducible assumption | assumption | omega) (show 0 ≤ ze N13_ 81 55 by first | with_reducible assumption | assumption | omega) (show ze N13_ 81 55 ≤ (u12_ + 1) by first | with_reducible assumption | (exact zo_961 i19_) | assumption) (by (exact zo_147 hc_27 hlt_21))
        · skip
          have hns_ := zMl_n hO hX (show zMl T a0_ N13_ u12_ by first | with_reducible assumption | assumption) (by (exact i15_)) (by (exact p1_)) (by (exact zo_2587 gb.2.2.2.2.2 gfl p2_)) (F := (ze Mz 91 (a0_).toNat)) (by (exact hfz)) (Or.inl (fun e => ha33_0_hp0_N27_ ((hnm_ (u12_).toNat (by (exact zo_925 gn hc_27 i15_))).mpr e)))
          show zW l m_M_laysMade (zn Mz + 0, zw Mz + 0) N13_ 36 [some (.ref 81), some (.int (Int32.ofInt a0_)), some (.int (Int32.ofInt (ze Mz 91 (a0_).toNat))), some (.int (Int32.ofInt v3_)), some (.int (Int32.ofInt u12_))] [.int (Int32.ofInt 0)] _
          refine zr_if_eq (pc := 36) (tgt := 87) ⟨(by decide), (by decide)⟩ (by decide) (zdal_p dlD_M_laysMade_81 (i := 21) rfl) (fun hc_36 => ?_) (fun hc_36 => ?_)
          · skip
            refine zr_iinc (pc := 87) (i := 4) (a := u12_) (n := 1) (L2 := [some (.ref 81), some (.int (Int32.ofInt a0_)), some (.int (Int32.ofInt (ze Mz 91 (a0_).toNat))), some (.int (Int32.ofInt v3_)), some (.int (Int32.ofInt (u12_ + 1)))]) rfl (by decide) rfl (zdal_p dlD_M_laysMade_83 (i := 1) rfl) ?_
            refine zw_goto (pc := 90) (tgt := 21) (by decide) (zdal_p dlD_M_laysMade_83 (i := 2) rfl) ?_
            exact ih_21 (u12_ + 1) (by (exact zo_74 i15_)) (by (exact zo_919 gb.2.1 hc_27)) N13_ hs14_ (show 0 ≤ (u12_ + 1) by first | with_reducible assumption | (exact zo_76 i15_) | assumption) (show zMl T a0_ N13_ (u12_ + 1) by exact hns_) (show (u12_ + 1) ≤ ze Mz 81 20 by first | with_reducible assumption | assumption | omega) (show 0 ≤ ze N13_ 81 55 by first | with_reducible assumption | assumption | omega) (show ze N13_ 81 55 ≤ (u12_ + 1) by first | with_reducible assumption | (exact zo_961 i19_) | assumption) (by (exact zo_147 hc_27 hlt_21))
          · skip
            exact absurd hc_36 (by decide)
  exact lp_21 _ 0 (by decide) (by decide) N4_ zFr.rf (show 0 ≤ (0 : Int) by first | with_reducible assumption | (decide) | assumption) (show zMl T a0_ N4_ (0 : Int) by exact zMl_0 (by (exact hvN4_))) (show (0 : Int) ≤ ze Mz 81 20 by first | with_reducible assumption | (exact zo_564 gb.1) | assumption) (show 0 ≤ ze N4_ 81 55 by first | with_reducible assumption | (exact zo_718 hvN4_) | assumption) (show ze N4_ 81 55 ≤ (0 : Int) by first | with_reducible assumption | (exact zo_2497 hvN4_) | assumption) (Nat.lt_succ_self _)
set_option maxHeartbeats 4000000 in
theorem c_M_isUnitAt (l : Launch) (Mz : zMem) (hW : zMt Mz) (a0_ : Int) (ha0_a : -2147483648 ≤ a0_) (ha0_b : a0_ < 2147483648) (a1_ : Int) (ha1_a : -2147483648 ≤ a1_) (ha1_b : a1_ < 2147483648) (T : zGT) (hO : gOK T) (hX : gEx T) (p0_ : zGB T Mz) (p1_ : 0 ≤ a0_) (p2_ : zMq T a1_ Mz) : zC l m_M_isUnitAt 0 0 [.ref 81, .int (Int32.ofInt a0_), .int (Int32.ofInt a1_)] Mz (zpI [] [] Mz (fun v N => (((v = 1 ∧ zuk Mz a0_) ∨ (v = 0 ∧ ¬ zuk Mz a0_))))) := by
  refine zC_of (L0 := [some (.ref 81), some (.int (Int32.ofInt a0_)), some (.int (Int32.ofInt a1_)), none, none]) md_M_isUnitAt (Nat.le_of_ble_eq_true rfl) rfl ?_ zQ0
  have hf : zFr [] [] Mz Mz := zFr.rf
  have r_26 := ze_r Mz 81 26
  have r_55 := ze_r Mz 81 55
  have hG := hO.1
  have g24 := hG.2.1
  have g1 := hG.1
  have dv0 : zTab T Mz := p0_.1
  have dv1 : zB 85 144 0 5 Mz := p0_.2.1
  have dv2 : zJX T Mz := p0_.2.2.1
  have dv3 : zFirs T Mz := p0_.2.2.2.1
  have dv4 : zSSm T Mz := p0_.2.2.2.2.1
  have dv5 : zGD Mz := zGB.d hO p0_
  have gb := dv5.1
  have gn := dv0.1
  have gfl := dv3.1
  have gf6 := gF_pos hO
  have gxl := hX.2.1
  have hmd1_ := p2_.1
  refine zw_iconst (pc := 0) (v := Int32.ofInt 0) (by decide) (zdal_p dlD_M_isUnitAt_84 (i := 0) rfl) ?_
  refine zw_istore_n (pc := 1) (i := 3) (L2 := [some (.ref 81), some (.int (Int32.ofInt a0_)), some (.int (Int32.ofInt a1_)), some (.int (Int32.ofInt 0)), none]) rfl (by decide) rfl (zdal_p dlD_M_isUnitAt_84 (i := 1) rfl) ?_
  refine zw_iconst (pc := 2) (v := Int32.ofInt 0) (by decide) (zdal_p dlD_M_isUnitAt_84 (i := 2) rfl) ?_
  refine zw_istore (pc := 3) (i := 4) (L2 := [some (.ref 81), some (.int (Int32.ofInt a0_)), some (.int (Int32.ofInt a1_)), some (.int (Int32.ofInt 0)), some (.int (Int32.ofInt 0))]) (by decide) rfl (zdal_p dlD_M_isUnitAt_84 (i := 3) rfl) ?_
  have lp_5 : ∀ (n : Nat) (u1_ : Int) (hu1_a : -2147483648 ≤ u1_) (hu1_b : u1_ < 2147483648) (u2_ : Int) (hu2_a : -2147483648 ≤ u2_) (hu2_b : u2_ < 2147483648) (i3_ : 0 ≤ u2_) (i4_ : u2_ ≤ ze Mz 81 55) (i5_ : u1_ = zus Mz a0_ (u2_).toNat), (ze Mz 81 55 - u2_).toNat < n → zW l m_M_isUnitAt (zn Mz + 0, zw Mz + 0) Mz 5 [some (.ref 81), some (.int (Int32.ofInt a0_)), some (.int (Int32.ofInt a1_)), some (.int (Int32.ofInt u1_)), some (.int (Int32.ofInt u2_))] [] (zpI [] [] Mz (fun v N => (((v = 1 ∧ zuk Mz a0_) ∨ (v = 0 ∧ ¬ zuk Mz a0_))))) := by
    intro n
    induction n with
    | zero =>
      intro u1_ hu1_a hu1_b u2_ hu2_a hu2_b i3_ i4_ i5_ h0
      exact absurd h0 (Nat.not_lt_zero _)
    | succ n ih_5 =>
      intro u1_ hu1_a hu1_b u2_ hu2_a hu2_b i3_ i4_ i5_ hlt_5
      have hzb_ := zus_b Mz a0_ (u2_).toNat
      refine zw_iload (pc := 5) (i := 4) (x := Int32.ofInt u2_) rfl (zdal_p dlD_M_isUnitAt_84 (i := 4) rfl) ?_
      refine zw_aload_n (pc := 7) (n := 0) (x := 81) rfl (zdal_p dlD_M_isUnitAt_84 (i := 5) rfl) ?_
      refine zr_getI0 hf hW (pc := 8) (by decide) f_M_453 rfl (zdal_p dlD_M_isUnitAt_84 (i := 6) rfl) ?_
      refine zr_icmp_ge (pc := 11) (tgt := 49) ⟨hu2_a, hu2_b⟩ ⟨(ze_r Mz 81 55).1, (ze_r Mz 81 55).2⟩ (by decide) (zdal_p dlD_M_isUnitAt_84 (i := 7) rfl) (fun hc_11 => ?_) (fun hc_11 => ?_)
      · skip
        refine zw_iload_n (pc := 49) (n := 3) (x := Int32.ofInt u1_) rfl (zdal_p dlD_M_isUnitAt_85 (i := 4) rfl) ?_
        refine zw_aload_n (pc := 50) (n := 0) (x := 81) rfl (zdal_p dlD_M_isUnitAt_85 (i := 5) rfl) ?_
        refine zr_getI0 hf hW (pc := 51) (by decide) f_M_453 rfl (zdal_p dlD_M_isUnitAt_85 (i := 6) rfl) ?_
        refine zr_irem (pc := 54) ⟨by omega, by (exact zo_1006 hmd1_.2.2)⟩ (by (exact zo_999 hmd1_.2.1)) (zdal_p dlD_M_isUnitAt_85 (i := 7) rfl) ?_
        have hr6_ := zrem_r u1_ (ze Mz 81 55)
        have hzd_ := zrem_d (a := u1_) (b := ze Mz 81 55) (by omega) (by omega) (by omega) (by omega)
        refine zr_if_ne (pc := 55) (tgt := 62) ⟨(by (exact zo_284 hr6_.1)), (by (exact zo_285 hr6_.2))⟩ (by decide) (zdal_p dlD_M_isUnitAt_85 (i := 8) rfl) (fun hc_55 => ?_) (fun hc_55 => ?_)
        · skip
          refine zw_iconst (pc := 62) (v := Int32.ofInt 0) (by decide) (zdal_p dlD_M_isUnitAt_85 (i := 11) rfl) ?_
          have hL_ : u1_ = zus Mz a0_ (ze Mz 81 55).toNat := by rw [show ze Mz 81 55 = u2_ by omega]; assumption
          exact zr_iret (pc := 63) (ty := .boolean) rfl (z_narB (by (decide))) ⟨by (decide), by (decide)⟩ hf (show ((0 = 1 ∧ zuk Mz a0_) ∨ (0 = 0 ∧ ¬ zuk Mz a0_)) from Or.inr (⟨(show 0 = 0 by first | rfl | (intro hk_; unfold zuk at hk_; rw [← hL_] at hk_; exact absurd (hzd_.mpr hk_) (by omega))), (show ¬ zuk Mz a0_ by first | rfl | (intro hk_; unfold zuk at hk_; rw [← hL_] at hk_; exact absurd (hzd_.mpr hk_) (by omega)))⟩)) (zdal_p dlD_M_isUnitAt_85 (i := 12) rfl)
        · skip
          refine zw_iconst (pc := 58) (v := Int32.ofInt 1) (by decide) (zdal_p dlD_M_isUnitAt_85 (i := 9) rfl) ?_
          refine zw_goto (pc := 59) (tgt := 63) (by decide) (zdal_p dlD_M_isUnitAt_85 (i := 10) rfl) ?_
          have hL_ : u1_ = zus Mz a0_ (ze Mz 81 55).toNat := by rw [show ze Mz 81 55 = u2_ by omega]; assumption
          exact zr_iret (pc := 63) (ty := .boolean) rfl (z_narB (by (decide))) ⟨by (decide), by (decide)⟩ hf (show ((1 = 1 ∧ zuk Mz a0_) ∨ (1 = 0 ∧ ¬ zuk Mz a0_)) from Or.inl (⟨(show 1 = 1 by first | rfl | (have h := hzd_.mp (by omega); rwa [hL_] at h)), (show zuk Mz a0_ by first | rfl | (have h := hzd_.mp (by (exact hc_55)); rwa [hL_] at h))⟩)) (zdal_p dlD_M_isUnitAt_85 (i := 12) rfl)
      · skip
        refine zw_iload_n (pc := 14) (n := 3) (x := Int32.ofInt u1_) rfl (zdal_p dlD_M_isUnitAt_84 (i := 8) rfl) ?_
        refine zw_iload_n (pc := 15) (n := 1) (x := Int32.ofInt a0_) rfl (zdal_p dlD_M_isUnitAt_84 (i := 9) rfl) ?_
        refine zw_aload_n (pc := 16) (n := 0) (x := 81) rfl (zdal_p dlD_M_isUnitAt_84 (i := 10) rfl) ?_
        refine zr_getI0 hf hW (pc := 17) (by decide) f_M_235 rfl (zdal_p dlD_M_isUnitAt_84 (i := 11) rfl) ?_
        refine zw_iconst (pc := 20) (v := Int32.ofInt 1) (by decide) (zdal_p dlD_M_isUnitAt_84 (i := 12) rfl) ?_
        refine zr_isub (pc := 21) (zdal_p dlD_M_isUnitAt_84 (i := 13) rfl) ?_
        refine zw_aload_n (pc := 22) (n := 0) (x := 81) rfl (zdal_p dlD_M_isUnitAt_84 (i := 14) rfl) ?_
        refine zr_getF (r := 109) (hf.w hW) (pc := 23) f_M_99 rfl (zh_109 (hf.w hW)).1 (zdal_p dlD_M_isUnitAt_84 (i := 15) rfl) ?_
        refine zw_iload (pc := 26) (i := 4) (x := Int32.ofInt u2_) rfl (zdal_p dlD_M_isUnitAt_84 (i := 16) rfl) ?_
        refine zr_ialdn (pc := 28) (zh_109 (hf.w hW)).2 (by decide) (by (exact i3_)) (by (exact zo_1374 hc_11 hmd1_.2.2)) (zdal_p dlD_M_isUnitAt_84 (i := 17) rfl) (fun v7_ hv7_ hv7_a hv7_b => ?_)
        have hmr_ := p2_.2.1 (u2_).toNat (by (exact zo_695 hc_11 i3_))
        refine zr_isub (pc := 29) (zdal_p dlD_M_isUnitAt_84 (i := 18) rfl) ?_
        have hix_ : (((ze Mz 81 26) - 1) - v7_) = ze Mz 81 26 - 1 - ze Mz 109 (u2_).toNat := by omega
        refine zr_callS hf.x (pc := 30) [.int (Int32.ofInt a0_), .int (Int32.ofInt (((ze Mz 81 26) - 1) - v7_))] [.int (Int32.ofInt u1_)] l_M_213 (c_M_holds l Mz (hf.w hW) a0_ ha0_a ha0_b (((ze Mz 81 26) - 1) - v7_) (by omega) (by omega) (show 0 ≤ a0_ by first | with_reducible assumption | assumption | omega) (show 0 ≤ (((ze Mz 81 26) - 1) - v7_) by first | with_reducible assumption | assumption | omega) (show (((ze Mz 81 26) - 1) - v7_) < 32 by first | with_reducible assumption | assumption | omega)) rfl rfl (by decide) (Nat.le_of_ble_eq_true rfl) (zdal_p dlD_M_isUnitAt_84 (i := 19) rfl) ?_
        rintro _ N8_ ⟨v9_, rfl, ⟨hv9_a, hv9_b⟩, hsN8_, hp0_N8_⟩
        obtain rfl := hsN8_.eq.symm
        replace hp0_N8_ : ((v9_ = 1 ∧ zbt a0_ (((ze Mz 81 26) - 1) - v7_)) ∨ (v9_ = 0 ∧ ¬ zbt a0_ (((ze Mz 81 26) - 1) - v7_))) := hp0_N8_
        rcases hp0_N8_ with ⟨rfl, ha30_0_hp0_N8_⟩ | ⟨rfl, ha30_0_hp0_N8_⟩
        · skip
          have hzs_ := zus_s (t := -1) (by (exact i3_)) (show u1_ = zus Mz a0_ (u2_).toNat by first | with_reducible assumption | assumption) hix_ (Or.inl ⟨rfl, ha30_0_hp0_N8_⟩)
          show zW l m_M_isUnitAt (zn Mz + 0, zw Mz + 0) Mz 33 [some (.ref 81), some (.int (Int32.ofInt a0_)), some (.int (Int32.ofInt a1_)), some (.int (Int32.ofInt u1_)), some (.int (Int32.ofInt u2_))] [.int (Int32.ofInt 1), .int (Int32.ofInt u1_)] _
          refine zr_if_eq (pc := 33) (tgt := 40) ⟨(by decide), (by decide)⟩ (by decide) (zdal_p dlD_M_isUnitAt_84 (i := 20) rfl) (fun hc_33 => ?_) (fun hc_33 => ?_)
          · skip
            exact absurd hc_33 (by decide)
          · skip
            refine zw_iconst (pc := 36) (v := Int32.ofInt (-1)) (by decide) (zdal_p dlD_M_isUnitAt_84 (i := 21) rfl) ?_
            refine zw_goto (pc := 37) (tgt := 41) (by decide) (zdal_p dlD_M_isUnitAt_84 (i := 22) rfl) ?_
            refine zr_iadd (pc := 41) (zdal_p dlD_M_isUnitAt_85 (i := 0) rfl) ?_
            refine zw_istore_n (pc := 42) (i := 3) (L2 := [some (.ref 81), some (.int (Int32.ofInt a0_)), some (.int (Int32.ofInt a1_)), some (.int (Int32.ofInt (u1_ + ((-1))))), some (.int (Int32.ofInt u2_))]) rfl (by decide) rfl (zdal_p dlD_M_isUnitAt_85 (i := 1) rfl) ?_
            refine zr_iinc (pc := 43) (i := 4) (a := u2_) (n := 1) (L2 := [some (.ref 81), some (.int (Int32.ofInt a0_)), some (.int (Int32.ofInt a1_)), some (.int (Int32.ofInt (u1_ + ((-1))))), some (.int (Int32.ofInt (u2_ + 1)))]) rfl (by decide) rfl (zdal_p dlD_M_isUnitAt_85 (i := 2) rfl) ?_
            refine zw_goto (pc := 46) (tgt := 5) (by decide) (zdal_p dlD_M_isUnitAt_85 (i := 3) rfl) ?_
            exact ih_5 (u1_ + ((-1))) (by omega) (by (exact zo_893 hu1_b)) (u2_ + 1) (by (exact zo_74 i3_)) (by (exact zo_1371 hc_11 hmd1_.2.2)) (show 0 ≤ (u2_ + 1) by first | with_reducible assumption | (exact zo_76 i3_) | assumption) (show (u2_ + 1) ≤ ze Mz 81 55 by first | with_reducible assumption | assumption | omega) (show (u1_ + ((-1))) = zus Mz a0_ ((u2_ + 1)).toNat by exact hzs_) (by omega)
        · skip
          have hzs_ := zus_s (t := 1) (by (exact i3_)) (show u1_ = zus Mz a0_ (u2_).toNat by first | with_reducible assumption | assumption) hix_ (Or.inr ⟨rfl, ha30_0_hp0_N8_⟩)
          show zW l m_M_isUnitAt (zn Mz + 0, zw Mz + 0) Mz 33 [some (.ref 81), some (.int (Int32.ofInt a0_)), some (.int (Int32.ofInt a1_)), some (.int (Int32.ofInt u1_)), some (.int (Int32.ofInt u2_))] [.int (Int32.ofInt 0), .int (Int32.ofInt u1_)] _
          refine zr_if_eq (pc := 33) (tgt := 40) ⟨(by decide), (by decide)⟩ (by decide) (zdal_p dlD_M_isUnitAt_84 (i := 20) rfl) (fun hc_33 => ?_) (fun hc_33 => ?_)
          · skip
            refine zw_iconst (pc := 40) (v := Int32.ofInt 1) (by decide) (zdal_p dlD_M_isUnitAt_84 (i := 23) rfl) ?_
            refine zr_iadd (pc := 41) (zdal_p dlD_M_isUnitAt_85 (i := 0) rfl) ?_
            refine zw_istore_n (pc := 42) (i := 3) (L2 := [some (.ref 81), some (.int (Int32.ofInt a0_)), some (.int (Int32.ofInt a1_)), some (.int (Int32.ofInt (u1_ + 1))), some (.int (Int32.ofInt u2_))]) rfl (by decide) rfl (zdal_p dlD_M_isUnitAt_85 (i := 1) rfl) ?_
            refine zr_iinc (pc := 43) (i := 4) (a := u2_) (n := 1) (L2 := [some (.ref 81), some (.int (Int32.ofInt a0_)), some (.int (Int32.ofInt a1_)), some (.int (Int32.ofInt (u1_ + 1))), some (.int (Int32.ofInt (u2_ + 1)))]) rfl (by decide) rfl (zdal_p dlD_M_isUnitAt_85 (i := 2) rfl) ?_
            refine zw_goto (pc := 46) (tgt := 5) (by decide) (zdal_p dlD_M_isUnitAt_85 (i := 3) rfl) ?_
            exact ih_5 (u1_ + 1) (by (exact zo_679 hu1_a)) (by omega) (u2_ + 1) (by (exact zo_74 i3_)) (by (exact zo_1371 hc_11 hmd1_.2.2)) (show 0 ≤ (u2_ + 1) by first | with_reducible assumption | (exact zo_76 i3_) | assumption) (show (u2_ + 1) ≤ ze Mz 81 55 by first | with_reducible assumption | assumption | omega) (show (u1_ + 1) = zus Mz a0_ ((u2_ + 1)).toNat by exact hzs_) (by omega)
          · skip
            exact absurd hc_33 (by decide)
  exact lp_5 _ 0 (by decide) (by decide) 0 (by decide) (by decide) (show 0 ≤ (0 : Int) by first | with_reducible assumption | (decide) | assumption) (show (0 : Int) ≤ ze Mz 81 55 by first | with_reducible assumption | (exact zo_564 hmd1_.2.1) | assumption) (show (0 : Int) = zus Mz a0_ ((0 : Int)).toNat by rfl) (Nat.lt_succ_self _)
set_option maxHeartbeats 40000000 in
theorem c_M_laysUnits (l : Launch) (Mz : zMem) (hW : zMt Mz) (T : zGT) (hO : gOK T) (hX : gEx T) (p0_ : zGB T Mz) (p1_ : zB 110 65536 0 2147483647 Mz) (p2_ : 0 ≤ ze Mz 81 57) (p3_ : ze Mz 81 57 ≤ 65536) : zC l m_M_laysUnits 0 0 [.ref 81] Mz (zpV [55, 57, 58] [109, 110] Mz (fun N => zB 110 65536 0 2147483647 N ∧ 0 ≤ ze N 81 57 ∧ ze N 81 57 ≤ 65536)) := by
  refine zC_of (L0 := [some (.ref 81), none, none, none, none, none]) md_M_laysUnits (Nat.le_of_ble_eq_true rfl) rfl ?_ zQ0
  have hf : zFr [55, 57, 58] [109, 110] Mz Mz := zFr.rf
  have r_26 := ze_r Mz 81 26
  have r_55 := ze_r Mz 81 55
  have r_57 := ze_r Mz 81 57
  have r_58 := ze_r Mz 81 58
  have hG := hO.1
  have g24 := hG.2.1
  have g1 := hG.1
  have dv0 : zTab T Mz := p0_.1
  have dv1 : zB 85 144 0 5 Mz := p0_.2.1
  have dv2 : zJX T Mz := p0_.2.2.1
  have dv3 : zFirs T Mz := p0_.2.2.2.1
  have dv4 : zSSm T Mz := p0_.2.2.2.2.1
  have dv5 : zGD Mz := zGB.d hO p0_
  have gb := dv5.1
  have gn := dv0.1
  have gfl := dv3.1
  have gf6 := gF_pos hO
  have gxl := hX.2.1
  refine zw_aload_n (pc := 0) (n := 0) (x := 81) rfl (zdal_p dlD_M_laysUnits_76 (i := 0) rfl) ?_
  refine zr_getI (hf.w hW) (pc := 1) f_M_394 rfl (zdal_p dlD_M_laysUnits_76 (i := 1) rfl) ?_
  refine zr_if_eq (pc := 4) (tgt := 8) ⟨(ze_r Mz 81 58).1, (ze_r Mz 81 58).2⟩ (by decide) (zdal_p dlD_M_laysUnits_76 (i := 2) rfl) (fun hc_4 => ?_) (fun hc_4 => ?_)
  · skip
    refine zw_aload_n (pc := 8) (n := 0) (x := 81) rfl (zdal_p dlD_M_laysUnits_76 (i := 4) rfl) ?_
    refine zw_iconst (pc := 9) (v := Int32.ofInt 1) (by decide) (zdal_p dlD_M_laysUnits_76 (i := 5) rfl) ?_
    refine zr_putI (hf.w hW) (pc := 10) f_M_394 rfl rfl ⟨by (decide), by (decide)⟩ (z_narB (by (decide))) (z_fitB (by (decide))) (zdal_p dlD_M_laysUnits_76 (i := 6) rfl) (fun N1_ hsN1_ hvN1_ => ?_)
    have hf_N1_ : zFr [55, 57, 58] [109, 110] Mz N1_ := hf.tr hsN1_ (by decide) (by decide)
    have e26_N1_ : ze N1_ 81 26 = ze Mz 81 26 := hsN1_.e (by decide)
    have e55_N1_ : ze N1_ 81 55 = ze Mz 81 55 := hsN1_.e (by decide)
    have e57_N1_ : ze N1_ 81 57 = ze Mz 81 57 := hsN1_.e (by decide)
    have r58_N1_ := ze_r N1_ 81 58
    have c2_ : zGB T N1_ := zGB.fr hsN1_ p0_ (by decide) (by decide)
    have c3_ : zB 110 65536 0 2147483647 N1_ := zB.fr hsN1_ p1_ (by decide) (by decide)
    have c4_ : zTab T N1_ := zTab.fr hsN1_ dv0 (by decide) (by decide)
    have c5_ : zB 85 144 0 5 N1_ := zB.fr hsN1_ dv1 (by decide) (by decide)
    have c6_ : zJX T N1_ := zJX.fr hsN1_ dv2 (by decide) (by decide)
    have c7_ : zFirs T N1_ := zFirs.fr hsN1_ dv3 (by decide) (by decide)
    have c8_ : zSSm T N1_ := zSSm.fr hsN1_ dv4 (by decide) (by decide)
    have c9_ : zGD N1_ := zGD.fr hsN1_ dv5 (by decide) (by decide)
    refine zw_aload_n (pc := 13) (n := 0) (x := 81) rfl (zdal_p dlD_M_laysUnits_76 (i := 7) rfl) ?_
    refine zw_iconst (pc := 14) (v := Int32.ofInt 1) (by decide) (zdal_p dlD_M_laysUnits_76 (i := 8) rfl) ?_
    refine zr_putI (hf_N1_.w hW) (pc := 15) f_M_459 rfl rfl ⟨by (decide), by (decide)⟩ rfl rfl (zdal_p dlD_M_laysUnits_76 (i := 9) rfl) (fun N10_ hsN10_ hvN10_ => ?_)
    have hf_N10_ : zFr [55, 57, 58] [109, 110] Mz N10_ := hf_N1_.tr hsN10_ (by decide) (by decide)
    have e26_N10_ : ze N10_ 81 26 = ze N1_ 81 26 := hsN10_.e (by decide)
    have e55_N10_ : ze N10_ 81 55 = ze N1_ 81 55 := hsN10_.e (by decide)
    have r57_N10_ := ze_r N10_ 81 57
    have e58_N10_ : ze N10_ 81 58 = ze N1_ 81 58 := hsN10_.e (by decide)
    have c11_ : zGB T N10_ := zGB.fr hsN10_ c2_ (by decide) (by decide)
    have c12_ : zB 110 65536 0 2147483647 N10_ := zB.fr hsN10_ c3_ (by decide) (by decide)
    have c13_ : zTab T N10_ := zTab.fr hsN10_ c4_ (by decide) (by decide)
    have c14_ : zB 85 144 0 5 N10_ := zB.fr hsN10_ c5_ (by decide) (by decide)
    have c15_ : zJX T N10_ := zJX.fr hsN10_ c6_ (by decide) (by decide)
    have c16_ : zFirs T N10_ := zFirs.fr hsN10_ c7_ (by decide) (by decide)
    have c17_ : zSSm T N10_ := zSSm.fr hsN10_ c8_ (by decide) (by decide)
    have c18_ : zGD N10_ := zGD.fr hsN10_ c9_ (by decide) (by decide)
    refine zw_aload_n (pc := 18) (n := 0) (x := 81) rfl (zdal_p dlD_M_laysUnits_76 (i := 10) rfl) ?_
    refine zr_getF (r := 110) (hf_N10_.w hW) (pc := 19) f_M_103 rfl (zh_110 (hf_N10_.w hW)).1 (zdal_p dlD_M_laysUnits_76 (i := 11) rfl) ?_
    refine zw_iconst (pc := 22) (v := Int32.ofInt 0) (by decide) (zdal_p dlD_M_laysUnits_76 (i := 12) rfl) ?_
    refine zw_iconst (pc := 23) (v := Int32.ofInt 0) (by decide) (zdal_p dlD_M_laysUnits_76 (i := 13) rfl) ?_
    refine zr_iast (pc := 24) (zh_110 (hf_N10_.w hW)).2 (by decide) (by decide) (by (decide)) (by (decide)) (zdal_p dlD_M_laysUnits_76 (i := 14) rfl) (fun N19_ hN19_ hsN19_ => ?_)
    have hf_N19_ : zFr [55, 57, 58] [109, 110] Mz N19_ := hf_N10_.tr hsN19_ (by decide) (by decide)
    have e26_N19_ : ze N19_ 81 26 = ze N10_ 81 26 := hsN19_.e (by decide)
    have e55_N19_ : ze N19_ 81 55 = ze N10_ 81 55 := hsN19_.e (by decide)
    have e57_N19_ : ze N19_ 81 57 = ze N10_ 81 57 := hsN19_.e (by decide)
    have e58_N19_ : ze N19_ 81 58 = ze N10_ 81 58 := hsN19_.e (by decide)
    have c20_ : zGB T N19_ := zGB.fr hsN19_ c11_ (by decide) (by decide)
    have c21_ : zB 110 65536 0 2147483647 N19_ := zB.s c12_ hN19_ (by (decide)) (by (decide)) (by decide) (by decide)
    have c22_ : zTab T N19_ := zTab.fr hsN19_ c13_ (by decide) (by decide)
    have c23_ : zB 85 144 0 5 N19_ := zB.fr hsN19_ c14_ (by decide) (by decide)
    have c24_ : zJX T N19_ := zJX.fr hsN19_ c15_ (by decide) (by decide)
    have c25_ : zFirs T N19_ := zFirs.fr hsN19_ c16_ (by decide) (by decide)
    have c26_ : zSSm T N19_ := zSSm.fr hsN19_ c17_ (by decide) (by decide)
    have c27_ : zGD N19_ := zGD.fr hsN19_ c18_ (by decide) (by decide)
    have hz0_ : ze N19_ 110 0 = 0 := zs_get hN19_ ⟨by decide, by decide⟩
    refine zw_aload_n (pc := 25) (n := 0) (x := 81) rfl (zdal_p dlD_M_laysUnits_76 (i := 15) rfl) ?_
    refine zr_getI0 hf_N19_ hW (pc := 26) (by decide) f_M_235 rfl (zdal_p dlD_M_laysUnits_76 (i := 16) rfl) ?_
    refine zw_iconst (pc := 29) (v := Int32.ofInt 1) (by decide) (zdal_p dlD_M_laysUnits_76 (i := 17) rfl) ?_
    refine zr_isub (pc := 30) (zdal_p dlD_M_laysUnits_76 (i := 18) rfl) ?_
    refine zw_istore_n (pc := 31) (i := 1) (L2 := [some (.ref 81), some (.int (Int32.ofInt ((ze Mz 81 26) - 1))), none, none, none, none]) rfl (by decide) rfl (zdal_p dlD_M_laysUnits_76 (i := 19) rfl) ?_
    have lp_32 : ∀ (n : Nat) (u28_ : Int) (hu28_a : -2147483648 ≤ u28_) (hu28_b : u28_ < 2147483648) (N29_ : zMem) (hs30_ : zFr [55, 57] [109, 110] N19_ N29_) (i31_ : -1 ≤ u28_) (i32_ : u28_ ≤ ze Mz 81 26 - 1) (i33_ : zUo T N29_ (ze Mz 81 26 - 1 - u28_).toNat (ze N29_ 81 57)) (i34_ : 0 ≤ ze N29_ 81 57) (i35_ : ze N29_ 81 57 ≤ 65536) (i36_ : zB 110 65536 0 2147483647 N29_), (u28_ + 1).toNat < n → zW l m_M_laysUnits (zn Mz + 0, zw Mz + 0) N29_ 32 [some (.ref 81), some (.int (Int32.ofInt u28_)), none, none, none, none] [] (zpV [55, 57, 58] [109, 110] Mz (fun N => zB 110 65536 0 2147483647 N ∧ 0 ≤ ze N 81 57 ∧ ze N 81 57 ≤ 65536)) := by
      intro n
      induction n with
      | zero =>
        intro u28_ hu28_a hu28_b N29_ hs30_ i31_ i32_ i33_ i34_ i35_ i36_ h0
        exact absurd h0 (Nat.not_lt_zero _)
      | succ n ih_32 =>
        intro u28_ hu28_a hu28_b N29_ hs30_ i31_ i32_ i33_ i34_ i35_ i36_ hlt_32
        have hf_N29_ : zFr [55, 57, 58] [109, 110] Mz N29_ := hf_N19_.tr hs30_ (by decide) (by decide)
        have e26_N29_ : ze N29_ 81 26 = ze N19_ 81 26 := hs30_.e (by decide)
        have r55_N29_ := ze_r N29_ 81 55
        have r57_N29_ := ze_r N29_ 81 57
        have e58_N29_ : ze N29_ 81 58 = ze N19_ 81 58 := hs30_.e (by decide)
        have c37_ : zGB T N29_ := zGB.fr hs30_ c20_ (by decide) (by decide)
        have c38_ : zTab T N29_ := zTab.fr hs30_ c22_ (by decide) (by decide)
        have c39_ : zB 85 144 0 5 N29_ := zB.fr hs30_ c23_ (by decide) (by decide)
        have c40_ : zJX T N29_ := zJX.fr hs30_ c24_ (by decide) (by decide)
        have c41_ : zFirs T N29_ := zFirs.fr hs30_ c25_ (by decide) (by decide)
        have c42_ : zSSm T N29_ := zSSm.fr hs30_ c26_ (by decide) (by decide)
        have c43_ : zGD N29_ := zGD.fr hs30_ c27_ (by decide) (by decide)
        refine zw_iload_n (pc := 32) (n := 1) (x := Int32.ofInt u28_) rfl (zdal_p dlD_M_laysUnits_76 (i := 20) rfl) ?_
        refine zr_if_lt (pc := 33) (tgt := 215) ⟨hu28_a, hu28_b⟩ (by decide) (zdal_p dlD_M_laysUnits_76 (i := 21) rfl) (fun hc_33 => ?_) (fun hc_33 => ?_)
        · skip
          exact zr_vret (pc := 215) rfl hf_N29_ ⟨i36_, (show 0 ≤ ze N29_ 81 57 by first | with_reducible assumption | assumption | omega), (show ze N29_ 81 57 ≤ 65536 by first | with_reducible assumption | assumption | omega)⟩ (zdal_p dlD_M_laysUnits_80 (i := 21) rfl)
        · skip
          refine zw_aload_n (pc := 36) (n := 0) (x := 81) rfl (zdal_p dlD_M_laysUnits_76 (i := 22) rfl) ?_
          refine zw_iload_n (pc := 37) (n := 1) (x := Int32.ofInt u28_) rfl (zdal_p dlD_M_laysUnits_76 (i := 23) rfl) ?_
          refine zr_callV (hf_N29_.w hW) hf_N29_.x (pc := 38) [.int (Int32.ofInt u28_)] [] l_M_456 (c_M_laysMade l N29_ (hf_N29_.w hW) u28_ hu28_a hu28_b T hO hX c37_ (show 0 ≤ u28_ by first | with_reducible assumption | assumption | omega) (show u28_ < ze N29_ 81 26 by first | with_reducible assumption | (exact zo_930 e26_N10_ e26_N19_ e26_N1_ e26_N29_ i32_) | assumption)) rfl rfl rfl (by decide) (Nat.le_of_ble_eq_true rfl) (zdal_p dlD_M_laysUnits_77 (i := 0) rfl) ?_
          rintro _ N44_ ⟨rfl, hsN44_, ⟨hp0_N44_, hp1_N44_, hp2_N44_⟩⟩
          have hf_N44_ : zFr [55, 57, 58] [109, 110] Mz N44_ := hf_N29_.tr hsN44_ (by decide) (by decide)
          have hb0_N44_ : zFr [55, 57] [109, 110] N19_ N44_ := hs30_.tr hsN44_ (by decide) (by decide)
          have e26_N44_ : ze N44_ 81 26 = ze N29_ 81 26 := hsN44_.e (by decide)
          have r55_N44_ := ze_r N44_ 81 55
          have e57_N44_ : ze N44_ 81 57 = ze N29_ 81 57 := hsN44_.e (by decide)
          have e58_N44_ : ze N44_ 81 58 = ze N29_ 81 58 := hsN44_.e (by decide)
          have c46_ : zGB T N44_ := zGB.fr hsN44_ c37_ (by decide) (by decide)
          have c47_ : zTab T N44_ := zTab.fr hsN44_ c38_ (by decide) (by decide)
          have c48_ : zB 85 144 0 5 N44_ := zB.fr hsN44_ c39_ (by decide) (by decide)
          have c49_ : zJX T N44_ := zJX.fr hsN44_ c40_ (by decide) (by decide)
          have c50_ : zFirs T N44_ := zFirs.fr hsN44_ c41_ (by decide) (by decide)
          have c51_ : zSSm T N44_ := zSSm.fr hsN44_ c42_ (by decide) (by decide)
          have c52_ : zGD N44_ := zGD.fr hsN44_ c43_ (by decide) (by decide)
          have c53_ : zB 110 65536 0 2147483647 N44_ := zB.fr hsN44_ i36_ (by decide) (by decide)
          show zW l m_M_laysUnits (zn Mz + 0, zw Mz + 0) N44_ 41 [some (.ref 81), some (.int (Int32.ofInt u28_)), none, none, none, none] [] _
          have hUo_ : zUo T N44_ (ze Mz 81 26 - 1 - u28_).toNat (ze N44_ 81 57) := by rw [show ze N44_ 81 57 = ze N29_ 81 57 by (exact e57_N44_)]; exact zUo.fr hsN44_ (by first | with_reducible assumption | assumption) (by decide)
          have hbd_ := zUo_b hX (by (exact zo_931 gb.2.2.2.2.2 gfl hc_33 i32_)) hUo_
          have hUa_ := zUa_0 hUo_.1 hUo_.2.2
          have hug_ := hUo_.2.1
          have h2d_ := gp30 (d := (ze Mz 81 26 - 1 - u28_).toNat) (by (exact zo_932 gb.2.2.2.2.2 gfl gxl hc_33 i32_))
          refine zw_iconst (pc := 41) (v := Int32.ofInt 1) (by decide) (zdal_p dlD_M_laysUnits_77 (i := 1) rfl) ?_
          refine zw_aload_n (pc := 42) (n := 0) (x := 81) rfl (zdal_p dlD_M_laysUnits_77 (i := 2) rfl) ?_
          refine zr_getI0 hf_N44_ hW (pc := 43) (by decide) f_M_235 rfl (zdal_p dlD_M_laysUnits_77 (i := 3) rfl) ?_
          refine zw_iconst (pc := 46) (v := Int32.ofInt 1) (by decide) (zdal_p dlD_M_laysUnits_77 (i := 4) rfl) ?_
          refine zr_isub (pc := 47) (zdal_p dlD_M_laysUnits_77 (i := 5) rfl) ?_
          refine zw_iload_n (pc := 48) (n := 1) (x := Int32.ofInt u28_) rfl (zdal_p dlD_M_laysUnits_77 (i := 6) rfl) ?_
          refine zr_isub (pc := 49) (zdal_p dlD_M_laysUnits_77 (i := 7) rfl) ?_
          refine zr_ishl (pc := 50) (zdal_p dlD_M_laysUnits_77 (i := 8) rfl) ?_
          have hr54_ := zshl_r 1 (((ze Mz 81 26) - 1) - u28_)
          have hbit_ : (zshl 1 (((ze Mz 81 26) - 1) - u28_)) = zshl 1 (((ze Mz 81 26 - 1 - u28_).toNat : Nat) : Int) := by rw [show (((ze Mz 81 26 - 1 - u28_).toNat : Nat) : Int) = ze Mz 81 26 - 1 - u28_ by (exact zo_933 i32_)]
          have hbp_ := zshl_p (k := ze Mz 81 26 - 1 - u28_) (by (exact zo_934 i32_)) (by (exact zo_935 gb.2.2.2.2.2 gfl gxl hc_33))
          refine zw_istore_n (pc := 51) (i := 2) (L2 := [some (.ref 81), some (.int (Int32.ofInt u28_)), some (.int (Int32.ofInt (zshl 1 (((ze Mz 81 26) - 1) - u28_)))), none, none, none]) rfl (by decide) rfl (zdal_p dlD_M_laysUnits_77 (i := 9) rfl) ?_
          refine zw_iconst (pc := 52) (v := Int32.ofInt 0) (by decide) (zdal_p dlD_M_laysUnits_77 (i := 10) rfl) ?_
          refine zw_istore_n (pc := 53) (i := 3) (L2 := [some (.ref 81), some (.int (Int32.ofInt u28_)), some (.int (Int32.ofInt (zshl 1 (((ze Mz 81 26) - 1) - u28_)))), some (.int (Int32.ofInt 0)), none, none]) rfl (by decide) rfl (zdal_p dlD_M_laysUnits_77 (i := 11) rfl) ?_
          refine zw_aload_n (pc := 54) (n := 0) (x := 81) rfl (zdal_p dlD_M_laysUnits_77 (i := 12) rfl) ?_
          refine zr_getI (hf_N44_.w hW) (pc := 55) f_M_459 rfl (zdal_p dlD_M_laysUnits_77 (i := 13) rfl) ?_
          refine zw_istore (pc := 58) (i := 4) (L2 := [some (.ref 81), some (.int (Int32.ofInt u28_)), some (.int (Int32.ofInt (zshl 1 (((ze Mz 81 26) - 1) - u28_)))), some (.int (Int32.ofInt 0)), some (.int (Int32.ofInt (ze N44_ 81 57))), none]) (by decide) rfl (zdal_p dlD_M_laysUnits_77 (i := 14) rfl) ?_
          refine zw_iconst (pc := 60) (v := Int32.ofInt 0) (by decide) (zdal_p dlD_M_laysUnits_77 (i := 15) rfl) ?_
          refine zw_istore (pc := 61) (i := 5) (L2 := [some (.ref 81), some (.int (Int32.ofInt u28_)), some (.int (Int32.ofInt (zshl 1 (((ze Mz 81 26) - 1) - u28_)))), some (.int (Int32.ofInt 0)), some (.int (Int32.ofInt (ze N44_ 81 57))), some (.int (Int32.ofInt 0))]) (by decide) rfl (zdal_p dlD_M_laysUnits_77 (i := 16) rfl) ?_
          have lp_63 : ∀ (n : Nat) (u55_ : Int) (hu55_a : -2147483648 ≤ u55_) (hu55_b : u55_ < 2147483648) (u56_ : Int) (hu56_a : -2147483648 ≤ u56_) (hu56_b : u56_ < 2147483648) (N57_ : zMem) (hs58_ : zFr [] [110] N44_ N57_) (i59_ : zUa N57_ (ze Mz 81 26 - 1 - u28_).toNat (ze N57_ 81 57) u55_ u56_) (i60_ : zMq T u28_ N57_) (i61_ : ze N57_ 81 57 ≤ 32768) (i62_ : ze N57_ 81 57 ≤ ((2 ^ gcu T (ze Mz 81 26 - 1 - u28_).toNat : Nat) : Int)) (i63_ : 0 ≤ u56_) (i64_ : u56_ ≤ ze N57_ 81 57) (i65_ : ze N57_ 81 57 ≤ u55_) (i66_ : u55_ ≤ ze N57_ 81 57 + u56_) (i67_ : zB 110 65536 0 2147483647 N57_), (ze N57_ 81 57 - u56_).toNat < n → zW l m_M_laysUnits (zn Mz + 0, zw Mz + 0) N57_ 63 [some (.ref 81), some (.int (Int32.ofInt u28_)), some (.int (Int32.ofInt (zshl 1 (((ze Mz 81 26) - 1) - u28_)))), some (.int (Int32.ofInt 0)), some (.int (Int32.ofInt u55_)), some (.int (Int32.ofInt u56_))] [] (zpV [55, 57, 58] [109, 110] Mz (fun N => zB 110 65536 0 2147483647 N ∧ 0 ≤ ze N 81 57 ∧ ze N 81 57 ≤ 65536)) := by
            intro n
            induction n with
            | zero =>
              intro u55_ hu55_a hu55_b u56_ hu56_a hu56_b N57_ hs58_ i59_ i60_ i61_ i62_ i63_ i64_ i65_ i66_ i67_ h0
              exact absurd h0 (Nat.not_lt_zero _)
            | succ n ih_63 =>
              intro u55_ hu55_a hu55_b u56_ hu56_a hu56_b N57_ hs58_ i59_ i60_ i61_ i62_ i63_ i64_ i65_ i66_ i67_ hlt_63
              have hf_N57_ : zFr [55, 57, 58] [109, 110] Mz N57_ := hf_N44_.tr hs58_ (by decide) (by decide)
              have hb0_N57_ : zFr [55, 57] [109, 110] N19_ N57_ := hb0_N44_.tr hs58_ (by decide) (by decide)
              have e26_N57_ : ze N57_ 81 26 = ze N44_ 81 26 := hs58_.e (by decide)
              have e55_N57_ : ze N57_ 81 55 = ze N44_ 81 55 := hs58_.e (by decide)
              have e57_N57_ : ze N57_ 81 57 = ze N44_ 81 57 := hs58_.e (by decide)
              have e58_N57_ : ze N57_ 81 58 = ze N44_ 81 58 := hs58_.e (by decide)
              have c68_ : zGB T N57_ := zGB.fr hs58_ c46_ (by decide) (by decide)
              have c69_ : zTab T N57_ := zTab.fr hs58_ c47_ (by decide) (by decide)
              have c70_ : zB 85 144 0 5 N57_ := zB.fr hs58_ c48_ (by decide) (by decide)
              have c71_ : zJX T N57_ := zJX.fr hs58_ c49_ (by decide) (by decide)
              have c72_ : zFirs T N57_ := zFirs.fr hs58_ c50_ (by decide) (by decide)
              have c73_ : zSSm T N57_ := zSSm.fr hs58_ c51_ (by decide) (by decide)
              have c74_ : zGD N57_ := zGD.fr hs58_ c52_ (by decide) (by decide)
              refine zw_iload (pc := 63) (i := 5) (x := Int32.ofInt u56_) rfl (zdal_p dlD_M_laysUnits_77 (i := 17) rfl) ?_
              refine zw_aload_n (pc := 65) (n := 0) (x := 81) rfl (zdal_p dlD_M_laysUnits_77 (i := 18) rfl) ?_
              refine zr_getI (hf_N57_.w hW) (pc := 66) f_M_459 rfl (zdal_p dlD_M_laysUnits_77 (i := 19) rfl) ?_
              refine zr_icmp_ge (pc := 69) (tgt := 117) ⟨hu56_a, hu56_b⟩ ⟨(ze_r N57_ 81 57).1, (ze_r N57_ 81 57).2⟩ (by decide) (zdal_p dlD_M_laysUnits_77 (i := 20) rfl) (fun hc_69 => ?_) (fun hc_69 => ?_)
              · skip
                refine zw_iconst (pc := 117) (v := Int32.ofInt 0) (by decide) (zdal_p dlD_M_laysUnits_78 (i := 21) rfl) ?_
                refine zw_istore (pc := 118) (i := 5) (L2 := [some (.ref 81), some (.int (Int32.ofInt u28_)), some (.int (Int32.ofInt (zshl 1 (((ze Mz 81 26) - 1) - u28_)))), some (.int (Int32.ofInt 0)), some (.int (Int32.ofInt u55_)), some (.int (Int32.ofInt 0))]) (by decide) rfl (zdal_p dlD_M_laysUnits_78 (i := 22) rfl) ?_
                have lp_120 : ∀ (n : Nat) (u75_ : Int) (hu75_a : -2147483648 ≤ u75_) (hu75_b : u75_ < 2147483648) (u76_ : Int) (hu76_a : -2147483648 ≤ u76_) (hu76_b : u76_ < 2147483648) (N77_ : zMem) (hs78_ : zFr [] [110] N57_ N77_) (i79_ : zUb N77_ (ze Mz 81 26 - 1 - u28_).toNat (ze N77_ 81 57) u55_ u75_ u76_) (i80_ : zMq T u28_ N77_) (i81_ : ze N77_ 81 57 ≤ 32768) (i82_ : ze N77_ 81 57 ≤ ((2 ^ gcu T (ze Mz 81 26 - 1 - u28_).toNat : Nat) : Int)) (i83_ : 0 ≤ u75_) (i84_ : u75_ ≤ u76_) (i85_ : u76_ ≤ ze N77_ 81 57) (i86_ : ze N77_ 81 57 ≤ u55_) (i87_ : u55_ ≤ 2 * ze N77_ 81 57) (i88_ : zB 110 65536 0 2147483647 N77_), (ze N77_ 81 57 - u76_).toNat < n → zW l m_M_laysUnits (zn Mz + 0, zw Mz + 0) N77_ 120 [some (.ref 81), some (.int (Int32.ofInt u28_)), some (.int (Int32.ofInt (zshl 1 (((ze Mz 81 26) - 1) - u28_)))), some (.int (Int32.ofInt u75_)), some (.int (Int32.ofInt u55_)), some (.int (Int32.ofInt u76_))] [] (zpV [55, 57, 58] [109, 110] Mz (fun N => zB 110 65536 0 2147483647 N ∧ 0 ≤ ze N 81 57 ∧ ze N 81 57 ≤ 65536)) := by
                  intro n
                  induction n with
                  | zero =>
                    intro u75_ hu75_a hu75_b u76_ hu76_a hu76_b N77_ hs78_ i79_ i80_ i81_ i82_ i83_ i84_ i85_ i86_ i87_ i88_ h0
                    exact absurd h0 (Nat.not_lt_zero _)
                  | succ n ih_120 =>
                    intro u75_ hu75_a hu75_b u76_ hu76_a hu76_b N77_ hs78_ i79_ i80_ i81_ i82_ i83_ i84_ i85_ i86_ i87_ i88_ hlt_120
                    have hf_N77_ : zFr [55, 57, 58] [109, 110] Mz N77_ := hf_N57_.tr hs78_ (by decide) (by decide)
                    have hb0_N77_ : zFr [55, 57] [109, 110] N19_ N77_ := hb0_N57_.tr hs78_ (by decide) (by decide)
                    have e26_N77_ : ze N77_ 81 26 = ze N57_ 81 26 := hs78_.e (by decide)
                    have e55_N77_ : ze N77_ 81 55 = ze N57_ 81 55 := hs78_.e (by decide)
                    have e57_N77_ : ze N77_ 81 57 = ze N57_ 81 57 := hs78_.e (by decide)
                    have e58_N77_ : ze N77_ 81 58 = ze N57_ 81 58 := hs78_.e (by decide)
                    have c89_ : zGB T N77_ := zGB.fr hs78_ c68_ (by decide) (by decide)
                    have c90_ : zTab T N77_ := zTab.fr hs78_ c69_ (by decide) (by decide)
                    have c91_ : zB 85 144 0 5 N77_ := zB.fr hs78_ c70_ (by decide) (by decide)
                    have c92_ : zJX T N77_ := zJX.fr hs78_ c71_ (by decide) (by decide)
                    have c93_ : zFirs T N77_ := zFirs.fr hs78_ c72_ (by decide) (by decide)
                    have c94_ : zSSm T N77_ := zSSm.fr hs78_ c73_ (by decide) (by decide)
                    have c95_ : zGD N77_ := zGD.fr hs78_ c74_ (by decide) (by decide)
                    refine zw_iload (pc := 120) (i := 5) (x := Int32.ofInt u76_) rfl (zdal_p dlD_M_laysUnits_78 (i := 23) rfl) ?_
                    refine zw_aload_n (pc := 122) (n := 0) (x := 81) rfl (zdal_p dlD_M_laysUnits_79 (i := 0) rfl) ?_
                    refine zr_getI (hf_N77_.w hW) (pc := 123) f_M_459 rfl (zdal_p dlD_M_laysUnits_79 (i := 1) rfl) ?_
                    refine zr_icmp_ge (pc := 126) (tgt := 169) ⟨hu76_a, hu76_b⟩ ⟨(ze_r N77_ 81 57).1, (ze_r N77_ 81 57).2⟩ (by decide) (zdal_p dlD_M_laysUnits_79 (i := 2) rfl) (fun hc_126 => ?_) (fun hc_126 => ?_)
                    · skip
                      refine zw_aload_n (pc := 169) (n := 0) (x := 81) rfl (zdal_p dlD_M_laysUnits_79 (i := 23) rfl) ?_
                      refine zr_getI (hf_N77_.w hW) (pc := 170) f_M_459 rfl (zdal_p dlD_M_laysUnits_80 (i := 0) rfl) ?_
                      refine zw_istore (pc := 173) (i := 5) (L2 := [some (.ref 81), some (.int (Int32.ofInt u28_)), some (.int (Int32.ofInt (zshl 1 (((ze Mz 81 26) - 1) - u28_)))), some (.int (Int32.ofInt u75_)), some (.int (Int32.ofInt u55_)), some (.int (Int32.ofInt (ze N77_ 81 57)))]) (by decide) rfl (zdal_p dlD_M_laysUnits_80 (i := 1) rfl) ?_
                      have lp_175 : ∀ (n : Nat) (u96_ : Int) (hu96_a : -2147483648 ≤ u96_) (hu96_b : u96_ < 2147483648) (u97_ : Int) (hu97_a : -2147483648 ≤ u97_) (hu97_b : u97_ < 2147483648) (N98_ : zMem) (hs99_ : zFr [] [110] N77_ N98_) (i100_ : zUc N98_ (ze Mz 81 26 - 1 - u28_).toNat (ze N98_ 81 57) u55_ u96_ u97_) (i101_ : zMq T u28_ N98_) (i102_ : ze N98_ 81 57 ≤ 32768) (i103_ : ze N98_ 81 57 ≤ ((2 ^ gcu T (ze Mz 81 26 - 1 - u28_).toNat : Nat) : Int)) (i104_ : 0 ≤ u96_) (i105_ : u96_ ≤ u97_) (i106_ : ze N98_ 81 57 ≤ u97_) (i107_ : u97_ ≤ u55_) (i108_ : u55_ ≤ 2 * ze N98_ 81 57) (i109_ : zB 110 65536 0 2147483647 N98_), (u55_ - u97_).toNat < n → zW l m_M_laysUnits (zn Mz + 0, zw Mz + 0) N98_ 175 [some (.ref 81), some (.int (Int32.ofInt u28_)), some (.int (Int32.ofInt (zshl 1 (((ze Mz 81 26) - 1) - u28_)))), some (.int (Int32.ofInt u96_)), some (.int (Int32.ofInt u55_)), some (.int (Int32.ofInt u97_))] [] (zpV [55, 57, 58] [109, 110] Mz (fun N => zB 110 65536 0 2147483647 N ∧ 0 ≤ ze N 81 57 ∧ ze N 81 57 ≤ 65536)) := by
                        intro n
                        induction n with
                        | zero =>
                          intro u96_ hu96_a hu96_b u97_ hu97_a hu97_b N98_ hs99_ i100_ i101_ i102_ i103_ i104_ i105_ i106_ i107_ i108_ i109_ h0
                          exact absurd h0 (Nat.not_lt_zero _)
                        | succ n ih_175 =>
                          intro u96_ hu96_a hu96_b u97_ hu97_a hu97_b N98_ hs99_ i100_ i101_ i102_ i103_ i104_ i105_ i106_ i107_ i108_ i109_ hlt_175
                          have hf_N98_ : zFr [55, 57, 58] [109, 110] Mz N98_ := hf_N77_.tr hs99_ (by decide) (by decide)
                          have hb0_N98_ : zFr [55, 57] [109, 110] N19_ N98_ := hb0_N77_.tr hs99_ (by decide) (by decide)
                          have e26_N98_ : ze N98_ 81 26 = ze N77_ 81 26 := hs99_.e (by decide)
                          have e55_N98_ : ze N98_ 81 55 = ze N77_ 81 55 := hs99_.e (by decide)
                          have e57_N98_ : ze N98_ 81 57 = ze N77_ 81 57 := hs99_.e (by decide)
                          have e58_N98_ : ze N98_ 81 58 = ze N77_ 81 58 := hs99_.e (by decide)
                          have c110_ : zGB T N98_ := zGB.fr hs99_ c89_ (by decide) (by decide)
                          have c111_ : zTab T N98_ := zTab.fr hs99_ c90_ (by decide) (by decide)
                          have c112_ : zB 85 144 0 5 N98_ := zB.fr hs99_ c91_ (by decide) (by decide)
                          have c113_ : zJX T N98_ := zJX.fr hs99_ c92_ (by decide) (by decide)
                          have c114_ : zFirs T N98_ := zFirs.fr hs99_ c93_ (by decide) (by decide)
                          have c115_ : zSSm T N98_ := zSSm.fr hs99_ c94_ (by decide) (by decide)
                          have c116_ : zGD N98_ := zGD.fr hs99_ c95_ (by decide) (by decide)
                          refine zw_iload (pc := 175) (i := 5) (x := Int32.ofInt u97_) rfl (zdal_p dlD_M_laysUnits_80 (i := 2) rfl) ?_
                          refine zw_iload (pc := 177) (i := 4) (x := Int32.ofInt u55_) rfl (zdal_p dlD_M_laysUnits_80 (i := 3) rfl) ?_
                          refine zr_icmp_ge (pc := 179) (tgt := 204) ⟨hu97_a, hu97_b⟩ ⟨hu55_a, hu55_b⟩ (by decide) (zdal_p dlD_M_laysUnits_80 (i := 4) rfl) (fun hc_179 => ?_) (fun hc_179 => ?_)
                          · skip
                            refine zw_aload_n (pc := 204) (n := 0) (x := 81) rfl (zdal_p dlD_M_laysUnits_80 (i := 16) rfl) ?_
                            refine zw_iload_n (pc := 205) (n := 3) (x := Int32.ofInt u96_) rfl (zdal_p dlD_M_laysUnits_80 (i := 17) rfl) ?_
                            refine zr_putI (hf_N98_.w hW) (pc := 206) f_M_459 rfl rfl ⟨by (exact hu96_a), by (exact hu96_b)⟩ rfl rfl (zdal_p dlD_M_laysUnits_80 (i := 18) rfl) (fun N117_ hsN117_ hvN117_ => ?_)
                            have hf_N117_ : zFr [55, 57, 58] [109, 110] Mz N117_ := hf_N98_.tr hsN117_ (by decide) (by decide)
                            have hb0_N117_ : zFr [55, 57] [109, 110] N19_ N117_ := hb0_N98_.tr hsN117_ (by decide) (by decide)
                            have e26_N117_ : ze N117_ 81 26 = ze N98_ 81 26 := hsN117_.e (by decide)
                            have e55_N117_ : ze N117_ 81 55 = ze N98_ 81 55 := hsN117_.e (by decide)
                            have r57_N117_ := ze_r N117_ 81 57
                            have e58_N117_ : ze N117_ 81 58 = ze N98_ 81 58 := hsN117_.e (by decide)
                            have c125_ : zB 110 65536 0 2147483647 N117_ := zB.fr hsN117_ i109_ (by decide) (by decide)
                            have hUn_ := zUo_s (d := (ze Mz 81 26 - 1 - u28_).toNat) (j := u28_) (by (exact zo_936 gb.2.2.2.2.2 gfl gxl hc_33 i32_)) (by (exact hc_33)) (show ze N98_ 81 57 ≤ ((2 ^ gcu T (ze Mz 81 26 - 1 - u28_).toNat : Nat) : Int) by first | with_reducible assumption | assumption) (show zMq T u28_ N98_ by first | with_reducible assumption | assumption) (show zUc N98_ (ze Mz 81 26 - 1 - u28_).toNat (ze N98_ 81 57) u55_ u96_ u97_ by first | with_reducible assumption | assumption) (by (exact hc_179)) (fun i => hsN117_.ie (by decide) (by decide) i)
                            have hUm_ : zUo T N117_ (ze Mz 81 26 - 1 - (u28_ + (-1))).toNat (ze N117_ 81 57) := by rw [show (ze Mz 81 26 - 1 - (u28_ + (-1))).toNat = (ze Mz 81 26 - 1 - u28_).toNat + 1 by (exact zo_937 i32_), show ze N117_ 81 57 = u96_ by (exact hvN117_)]; exact hUn_
                            refine zr_iinc (pc := 209) (i := 1) (a := u28_) (n := -1) (L2 := [some (.ref 81), some (.int (Int32.ofInt (u28_ + (-1)))), some (.int (Int32.ofInt (zshl 1 (((ze Mz 81 26) - 1) - u28_)))), some (.int (Int32.ofInt u96_)), some (.int (Int32.ofInt u55_)), some (.int (Int32.ofInt u97_))]) rfl (by decide) rfl (zdal_p dlD_M_laysUnits_80 (i := 19) rfl) ?_
                            refine zw_goto (pc := 212) (tgt := 32) (by decide) (zdal_p dlD_M_laysUnits_80 (i := 20) rfl) ?_
                            refine zW_le [some (.ref 81), some (.int (Int32.ofInt (u28_ + (-1)))), none, none, none, none] (⟨rfl, rfl, trivial⟩) ?_
                            exact ih_32 (u28_ + (-1)) (by (exact zo_892 hc_33)) (by (exact zo_893 hu28_b)) N117_ hb0_N117_ (show -1 ≤ (u28_ + (-1)) by first | with_reducible assumption | (exact zo_938 hc_33) | assumption) (show (u28_ + (-1)) ≤ ze Mz 81 26 - 1 by first | with_reducible assumption | (exact zo_894 i32_) | assumption) (show zUo T N117_ (ze Mz 81 26 - 1 - (u28_ + (-1))).toNat (ze N117_ 81 57) by exact hUm_) (show 0 ≤ ze N117_ 81 57 by first | with_reducible assumption | (exact zo_939 hvN117_ i104_ r57_N117_.1) | assumption) (show ze N117_ 81 57 ≤ 65536 by first | with_reducible assumption | (exact zo_940 hvN117_ i105_ i107_ i81_ i87_ r57_N117_.2) | assumption) c125_ (by (exact zo_896 hc_33 hlt_32 hu28_b))
                          · skip
                            refine zw_aload_n (pc := 182) (n := 0) (x := 81) rfl (zdal_p dlD_M_laysUnits_80 (i := 5) rfl) ?_
                            refine zr_getF (r := 110) (hf_N98_.w hW) (pc := 183) f_M_103 rfl (zh_110 (hf_N98_.w hW)).1 (zdal_p dlD_M_laysUnits_80 (i := 6) rfl) ?_
                            refine zw_iload_n (pc := 186) (n := 3) (x := Int32.ofInt u96_) rfl (zdal_p dlD_M_laysUnits_80 (i := 7) rfl) ?_
                            refine zw_aload_n (pc := 187) (n := 0) (x := 81) rfl (zdal_p dlD_M_laysUnits_80 (i := 8) rfl) ?_
                            refine zr_getF (r := 110) (hf_N98_.w hW) (pc := 188) f_M_103 rfl (zh_110 (hf_N98_.w hW)).1 (zdal_p dlD_M_laysUnits_80 (i := 9) rfl) ?_
                            refine zw_iload (pc := 191) (i := 5) (x := Int32.ofInt u97_) rfl (zdal_p dlD_M_laysUnits_80 (i := 10) rfl) ?_
                            refine zr_ialdn (pc := 193) (zh_110 (hf_N98_.w hW)).2 (by decide) (by (exact zo_941 hu97_a i104_ i105_)) (by (exact zo_942 hc_179 i81_ i87_)) (zdal_p dlD_M_laysUnits_80 (i := 11) rfl) (fun v126_ hv126_ hv126_a hv126_b => ?_)
                            have hr127_ := i109_.g (e := u97_) (by (exact zo_941 hu97_a i104_ i105_)) (by (exact zo_942 hc_179 i81_ i87_))
                            rw [← hv126_] at hr127_
                            have hUi_N98_ := (show zUc N98_ (ze Mz 81 26 - 1 - u28_).toNat (ze N98_ 81 57) u55_ u96_ u97_ by first | with_reducible assumption | assumption).2.1 (u97_).toNat (by (exact zo_943 hc_179 hu97_a i104_ i105_))
                            refine zr_toI (show v126_ = ze N98_ 110 (u97_).toNat by (exact hv126_)) ?_
                            refine zr_iast (pc := 194) (zh_110 (hf_N98_.w hW)).2 (by decide) (by decide) (by (exact i104_)) (by (exact zo_944 hc_179 i105_ i81_ i87_)) (zdal_p dlD_M_laysUnits_80 (i := 12) rfl) (fun N128_ hN128_ hsN128_ => ?_)
                            have hf_N128_ : zFr [55, 57, 58] [109, 110] Mz N128_ := hf_N98_.tr hsN128_ (by decide) (by decide)
                            have hb0_N128_ : zFr [55, 57] [109, 110] N19_ N128_ := hb0_N98_.tr hsN128_ (by decide) (by decide)
                            have hb1_N128_ : zFr [] [110] N77_ N128_ := hs99_.tr hsN128_ (by decide) (by decide)
                            have e26_N128_ : ze N128_ 81 26 = ze N98_ 81 26 := hsN128_.e (by decide)
                            have e55_N128_ : ze N128_ 81 55 = ze N98_ 81 55 := hsN128_.e (by decide)
                            have e57_N128_ : ze N128_ 81 57 = ze N98_ 81 57 := hsN128_.e (by decide)
                            have e58_N128_ : ze N128_ 81 58 = ze N98_ 81 58 := hsN128_.e (by decide)
                            have c129_ : zGB T N128_ := zGB.fr hsN128_ c110_ (by decide) (by decide)
                            have c130_ : zTab T N128_ := zTab.fr hsN128_ c111_ (by decide) (by decide)
                            have c131_ : zB 85 144 0 5 N128_ := zB.fr hsN128_ c112_ (by decide) (by decide)
                            have c132_ : zJX T N128_ := zJX.fr hsN128_ c113_ (by decide) (by decide)
                            have c133_ : zFirs T N128_ := zFirs.fr hsN128_ c114_ (by decide) (by decide)
                            have c134_ : zSSm T N128_ := zSSm.fr hsN128_ c115_ (by decide) (by decide)
                            have c135_ : zGD N128_ := zGD.fr hsN128_ c116_ (by decide) (by decide)
                            have c136_ : zB 110 65536 0 2147483647 N128_ := zB.s i109_ hN128_ (by (exact zo_57 hUi_N98_.1)) (by (exact zo_945 hv126_ hv126_b)) (by decide) (by decide)
                            have hUv_ := zUc_s (d := (ze Mz 81 26 - 1 - u28_).toNat) (by (exact zo_946 gb.2.2.2.2.2 gfl gxl hc_33 i32_)) (show zUc N98_ (ze Mz 81 26 - 1 - u28_).toNat (ze N98_ 81 57) u55_ u96_ u97_ by first | with_reducible assumption | assumption) (by (exact hc_179)) rfl hN128_
                            refine zr_iinc (pc := 195) (i := 3) (a := u96_) (n := 1) (L2 := [some (.ref 81), some (.int (Int32.ofInt u28_)), some (.int (Int32.ofInt (zshl 1 (((ze Mz 81 26) - 1) - u28_)))), some (.int (Int32.ofInt (u96_ + 1))), some (.int (Int32.ofInt u55_)), some (.int (Int32.ofInt u97_))]) rfl (by decide) rfl (zdal_p dlD_M_laysUnits_80 (i := 13) rfl) ?_
                            refine zr_iinc (pc := 198) (i := 5) (a := u97_) (n := 1) (L2 := [some (.ref 81), some (.int (Int32.ofInt u28_)), some (.int (Int32.ofInt (zshl 1 (((ze Mz 81 26) - 1) - u28_)))), some (.int (Int32.ofInt (u96_ + 1))), some (.int (Int32.ofInt u55_)), some (.int (Int32.ofInt (u97_ + 1)))]) rfl (by decide) rfl (zdal_p dlD_M_laysUnits_80 (i := 14) rfl) ?_
                            refine zw_goto (pc := 201) (tgt := 175) (by decide) (zdal_p dlD_M_laysUnits_80 (i := 15) rfl) ?_
                            have hMb_ : zMq T u28_ N128_ := by first | with_reducible assumption | exact zMq.fr hsN128_ (by first | with_reducible assumption | assumption) (by decide) (by decide) | assumption
                            have hUb_ : zUc N128_ (ze Mz 81 26 - 1 - u28_).toNat (ze N128_ 81 57) u55_ (u96_ + 1) (u97_ + 1) := by (rw [show ze N128_ 81 57 = ze N98_ 81 57 by (exact e57_N128_)]; exact hUv_)
                            exact ih_175 (u96_ + 1) (by (exact zo_74 i104_)) (by (exact zo_947 hc_179 hu55_b hu96_b i105_)) (u97_ + 1) (by (exact zo_679 hu97_a)) (by (exact zo_948 hc_179 hu55_b hu97_b)) N128_ hb1_N128_ (show zUc N128_ (ze Mz 81 26 - 1 - u28_).toNat (ze N128_ 81 57) u55_ (u96_ + 1) (u97_ + 1) by exact hUb_) (show zMq T u28_ N128_ by first | with_reducible assumption | assumption | omega) (show ze N128_ 81 57 ≤ 32768 by first | with_reducible assumption | (exact zo_949 e57_N128_ i102_) | assumption) (show ze N128_ 81 57 ≤ ((2 ^ gcu T (ze Mz 81 26 - 1 - u28_).toNat : Nat) : Int) by first | with_reducible assumption | (exact zo_950 e57_N128_ i102_ i103_) | assumption) (show 0 ≤ (u96_ + 1) by first | with_reducible assumption | (exact zo_76 i104_) | assumption) (show (u96_ + 1) ≤ (u97_ + 1) by first | with_reducible assumption | (exact zo_951 i105_) | assumption) (show ze N128_ 81 57 ≤ (u97_ + 1) by first | with_reducible assumption | (exact zo_952 e57_N128_ i106_) | assumption) (show (u97_ + 1) ≤ u55_ by first | with_reducible assumption | assumption | omega) (show u55_ ≤ 2 * ze N128_ 81 57 by first | with_reducible assumption | (exact zo_953 e57_N128_ i108_) | assumption) c136_ (by (exact zo_147 hc_179 hlt_175))
                      exact lp_175 _ u75_ hu75_a hu75_b (ze N77_ 81 57) (ze_r N77_ 81 57).1 (ze_r N77_ 81 57).2 N77_ zFr.rf (show zUc N77_ (ze Mz 81 26 - 1 - u28_).toNat (ze N77_ 81 57) u55_ u75_ (ze N77_ 81 57) by exact zUc_0 (by first | with_reducible assumption | assumption) (by (exact hc_126))) (show zMq T u28_ N77_ by first | with_reducible assumption | assumption | omega) (show ze N77_ 81 57 ≤ 32768 by first | with_reducible assumption | assumption | omega) (show ze N77_ 81 57 ≤ ((2 ^ gcu T (ze Mz 81 26 - 1 - u28_).toNat : Nat) : Int) by first | with_reducible assumption | assumption | omega) (show 0 ≤ u75_ by first | with_reducible assumption | assumption | omega) (show u75_ ≤ (ze N77_ 81 57) by first | with_reducible assumption | (exact zo_954 i84_ i85_) | assumption) (show ze N77_ 81 57 ≤ (ze N77_ 81 57) by first | with_reducible assumption | (exact zo_628) | assumption) (show (ze N77_ 81 57) ≤ u55_ by first | with_reducible assumption | assumption | omega) (show u55_ ≤ 2 * ze N77_ 81 57 by first | with_reducible assumption | assumption | omega) i88_ (Nat.lt_succ_self _)
                    · skip
                      refine zw_aload_n (pc := 129) (n := 0) (x := 81) rfl (zdal_p dlD_M_laysUnits_79 (i := 3) rfl) ?_
                      refine zw_aload_n (pc := 130) (n := 0) (x := 81) rfl (zdal_p dlD_M_laysUnits_79 (i := 4) rfl) ?_
                      refine zr_getF (r := 110) (hf_N77_.w hW) (pc := 131) f_M_103 rfl (zh_110 (hf_N77_.w hW)).1 (zdal_p dlD_M_laysUnits_79 (i := 5) rfl) ?_
                      refine zw_iload (pc := 134) (i := 5) (x := Int32.ofInt u76_) rfl (zdal_p dlD_M_laysUnits_79 (i := 6) rfl) ?_
                      refine zr_ialdn (pc := 136) (zh_110 (hf_N77_.w hW)).2 (by decide) (by (exact zo_941 hu76_a i83_ i84_)) (by (exact zo_955 hc_126 i81_)) (zdal_p dlD_M_laysUnits_79 (i := 7) rfl) (fun v137_ hv137_ hv137_a hv137_b => ?_)
                      have hr138_ := i88_.g (e := u76_) (by (exact zo_941 hu76_a i83_ i84_)) (by (exact zo_955 hc_126 i81_))
                      rw [← hv137_] at hr138_
                      have hUi_N77_ := (show zUb N77_ (ze Mz 81 26 - 1 - u28_).toNat (ze N77_ 81 57) u55_ u75_ u76_ by first | with_reducible assumption | assumption).2.1 (u76_).toNat (by (exact zo_956 hc_126 hu76_a i83_ i84_ i86_))
                      refine zr_toI (show v137_ = ze N77_ 110 (u76_).toNat by (exact hv137_)) ?_
                      refine zw_iload_n (pc := 137) (n := 1) (x := Int32.ofInt u28_) rfl (zdal_p dlD_M_laysUnits_79 (i := 8) rfl) ?_
                      refine zr_callV (hf_N77_.w hW) hf_N77_.x (pc := 138) [.int (Int32.ofInt (ze N77_ 110 (u76_).toNat)), .int (Int32.ofInt u28_)] [] l_M_462 (c_M_isUnitAt l N77_ (hf_N77_.w hW) (ze N77_ 110 (u76_).toNat) (by (exact zo_168 hUi_N77_.1)) (by (exact zo_550 hv137_ hv137_b)) u28_ hu28_a hu28_b T hO hX c89_ (show 0 ≤ (ze N77_ 110 (u76_).toNat) by first | with_reducible assumption | (exact zo_57 hUi_N77_.1) | assumption) (show zMq T u28_ N77_ by first | with_reducible assumption | assumption | omega)) rfl rfl rfl (by decide) (Nat.le_of_ble_eq_true rfl) (zdal_p dlD_M_laysUnits_79 (i := 9) rfl) ?_
                      rintro _ N139_ ⟨v140_, rfl, ⟨hv140_a, hv140_b⟩, hsN139_, hp0_N139_⟩
                      obtain rfl := hsN139_.eq.symm
                      replace hp0_N139_ : ((v140_ = 1 ∧ zuk N77_ (ze N77_ 110 (u76_).toNat)) ∨ (v140_ = 0 ∧ ¬ zuk N77_ (ze N77_ 110 (u76_).toNat))) := hp0_N139_
                      rcases hp0_N139_ with ⟨rfl, ha138_0_hp0_N139_⟩ | ⟨rfl, ha138_0_hp0_N139_⟩
                      · skip
                        have hzk_ := ha138_0_hp0_N139_
                        show zW l m_M_laysUnits (zn Mz + 0, zw Mz + 0) N77_ 141 [some (.ref 81), some (.int (Int32.ofInt u28_)), some (.int (Int32.ofInt (zshl 1 (((ze Mz 81 26) - 1) - u28_)))), some (.int (Int32.ofInt u75_)), some (.int (Int32.ofInt u55_)), some (.int (Int32.ofInt u76_))] [.int (Int32.ofInt 1)] _
                        refine zr_if_ne (pc := 141) (tgt := 147) ⟨(by decide), (by decide)⟩ (by decide) (zdal_p dlD_M_laysUnits_79 (i := 10) rfl) (fun hc_141 => ?_) (fun hc_141 => ?_)
                        · skip
                          refine zw_aload_n (pc := 147) (n := 0) (x := 81) rfl (zdal_p dlD_M_laysUnits_79 (i := 12) rfl) ?_
                          refine zr_getF (r := 110) (hf_N77_.w hW) (pc := 148) f_M_103 rfl (zh_110 (hf_N77_.w hW)).1 (zdal_p dlD_M_laysUnits_79 (i := 13) rfl) ?_
                          refine zw_iload_n (pc := 151) (n := 3) (x := Int32.ofInt u75_) rfl (zdal_p dlD_M_laysUnits_79 (i := 14) rfl) ?_
                          refine zw_aload_n (pc := 152) (n := 0) (x := 81) rfl (zdal_p dlD_M_laysUnits_79 (i := 15) rfl) ?_
                          refine zr_getF (r := 110) (hf_N77_.w hW) (pc := 153) f_M_103 rfl (zh_110 (hf_N77_.w hW)).1 (zdal_p dlD_M_laysUnits_79 (i := 16) rfl) ?_
                          refine zw_iload (pc := 156) (i := 5) (x := Int32.ofInt u76_) rfl (zdal_p dlD_M_laysUnits_79 (i := 17) rfl) ?_
                          refine zr_ialdn (pc := 158) (zh_110 (hf_N77_.w hW)).2 (by decide) (by (exact zo_941 hu76_a i83_ i84_)) (by (exact zo_955 hc_126 i81_)) (zdal_p dlD_M_laysUnits_79 (i := 18) rfl) (fun v141_ hv141_ hv141_a hv141_b => ?_)
                          have hr142_ := i88_.g (e := u76_) (by (exact zo_941 hu76_a i83_ i84_)) (by (exact zo_955 hc_126 i81_))
                          rw [← hv141_] at hr142_
                          refine zr_toI (show v141_ = ze N77_ 110 (u76_).toNat by (exact hv141_)) ?_
                          refine zr_iast (pc := 159) (zh_110 (hf_N77_.w hW)).2 (by decide) (by decide) (by (exact i83_)) (by (exact zo_957 hc_126 hu75_b i81_ i84_)) (zdal_p dlD_M_laysUnits_79 (i := 19) rfl) (fun N143_ hN143_ hsN143_ => ?_)
                          have hf_N143_ : zFr [55, 57, 58] [109, 110] Mz N143_ := hf_N77_.tr hsN143_ (by decide) (by decide)
                          have hb0_N143_ : zFr [55, 57] [109, 110] N19_ N143_ := hb0_N77_.tr hsN143_ (by decide) (by decide)
                          have hb1_N143_ : zFr [] [110] N57_ N143_ := hs78_.tr hsN143_ (by decide) (by decide)
                          have e26_N143_ : ze N143_ 81 26 = ze N77_ 81 26 := hsN143_.e (by decide)
                          have e55_N143_ : ze N143_ 81 55 = ze N77_ 81 55 := hsN143_.e (by decide)
                          have e57_N143_ : ze N143_ 81 57 = ze N77_ 81 57 := hsN143_.e (by decide)
                          have e58_N143_ : ze N143_ 81 58 = ze N77_ 81 58 := hsN143_.e (by decide)
                          have c144_ : zGB T N143_ := zGB.fr hsN143_ c89_ (by decide) (by decide)
                          have c145_ : zTab T N143_ := zTab.fr hsN143_ c90_ (by decide) (by decide)
                          have c146_ : zB 85 144 0 5 N143_ := zB.fr hsN143_ c91_ (by decide) (by decide)
                          have c147_ : zJX T N143_ := zJX.fr hsN143_ c92_ (by decide) (by decide)
                          have c148_ : zFirs T N143_ := zFirs.fr hsN143_ c93_ (by decide) (by decide)
                          have c149_ : zSSm T N143_ := zSSm.fr hsN143_ c94_ (by decide) (by decide)
                          have c150_ : zGD N143_ := zGD.fr hsN143_ c95_ (by decide) (by decide)
                          have c151_ : zB 110 65536 0 2147483647 N143_ := zB.s i88_ hN143_ (by (exact zo_57 hUi_N77_.1)) (by (exact zo_945 hv141_ hv141_b)) (by decide) (by decide)
                          have hUt_ := zUb_s1 (d := (ze Mz 81 26 - 1 - u28_).toNat) (by (exact zo_946 gb.2.2.2.2.2 gfl gxl hc_33 i32_)) (show zUb N77_ (ze Mz 81 26 - 1 - u28_).toNat (ze N77_ 81 57) u55_ u75_ u76_ by first | with_reducible assumption | assumption) (by (exact hc_126)) rfl hzk_ hN143_
                          refine zr_iinc (pc := 160) (i := 3) (a := u75_) (n := 1) (L2 := [some (.ref 81), some (.int (Int32.ofInt u28_)), some (.int (Int32.ofInt (zshl 1 (((ze Mz 81 26) - 1) - u28_)))), some (.int (Int32.ofInt (u75_ + 1))), some (.int (Int32.ofInt u55_)), some (.int (Int32.ofInt u76_))]) rfl (by decide) rfl (zdal_p dlD_M_laysUnits_79 (i := 20) rfl) ?_
                          refine zr_iinc (pc := 163) (i := 5) (a := u76_) (n := 1) (L2 := [some (.ref 81), some (.int (Int32.ofInt u28_)), some (.int (Int32.ofInt (zshl 1 (((ze Mz 81 26) - 1) - u28_)))), some (.int (Int32.ofInt (u75_ + 1))), some (.int (Int32.ofInt u55_)), some (.int (Int32.ofInt (u76_ + 1)))]) rfl (by decide) rfl (zdal_p dlD_M_laysUnits_79 (i := 21) rfl) ?_
                          refine zw_goto (pc := 166) (tgt := 120) (by decide) (zdal_p dlD_M_laysUnits_79 (i := 22) rfl) ?_
                          have hMb_ : zMq T u28_ N143_ := by first | with_reducible assumption | exact zMq.fr hsN143_ (by first | with_reducible assumption | assumption) (by decide) (by decide) | assumption
                          have hUb_ : zUb N143_ (ze Mz 81 26 - 1 - u28_).toNat (ze N143_ 81 57) u55_ (u75_ + 1) (u76_ + 1) := by first | exact zUb_s0 (by first | with_reducible assumption | assumption) (by omega) | (rw [show ze N143_ 81 57 = ze N77_ 81 57 by (exact e57_N143_)]; exact hUt_)
                          exact ih_120 (u75_ + 1) (by (exact zo_74 i83_)) (by (exact zo_958 hc_126 hu55_b hu75_b i84_ i86_)) (u76_ + 1) (by (exact zo_679 hu76_a)) (by (exact zo_959 hc_126 i81_)) N143_ hb1_N143_ (show zUb N143_ (ze Mz 81 26 - 1 - u28_).toNat (ze N143_ 81 57) u55_ (u75_ + 1) (u76_ + 1) by exact hUb_) (show zMq T u28_ N143_ by first | with_reducible assumption | assumption | omega) (show ze N143_ 81 57 ≤ 32768 by first | with_reducible assumption | (exact zo_949 e57_N143_ i81_) | assumption) (show ze N143_ 81 57 ≤ ((2 ^ gcu T (ze Mz 81 26 - 1 - u28_).toNat : Nat) : Int) by first | with_reducible assumption | (exact zo_950 e57_N143_ i81_ i82_) | assumption) (show 0 ≤ (u75_ + 1) by first | with_reducible assumption | (exact zo_76 i83_) | assumption) (show (u75_ + 1) ≤ (u76_ + 1) by first | with_reducible assumption | (exact zo_951 i84_) | assumption) (show (u76_ + 1) ≤ ze N143_ 81 57 by first | with_reducible assumption | (exact zo_536 e57_N143_ hc_126) | assumption) (show ze N143_ 81 57 ≤ u55_ by first | with_reducible assumption | (exact zo_840 e57_N143_ i86_) | assumption) (show u55_ ≤ 2 * ze N143_ 81 57 by first | with_reducible assumption | (exact zo_953 e57_N143_ i87_) | assumption) c151_ (by (exact zo_960 e57_N143_ hc_126 hlt_120))
                        · skip
                          exact absurd hc_141 (by decide)
                      · skip
                        show zW l m_M_laysUnits (zn Mz + 0, zw Mz + 0) N77_ 141 [some (.ref 81), some (.int (Int32.ofInt u28_)), some (.int (Int32.ofInt (zshl 1 (((ze Mz 81 26) - 1) - u28_)))), some (.int (Int32.ofInt u75_)), some (.int (Int32.ofInt u55_)), some (.int (Int32.ofInt u76_))] [.int (Int32.ofInt 0)] _
                        refine zr_if_ne (pc := 141) (tgt := 147) ⟨(by decide), (by decide)⟩ (by decide) (zdal_p dlD_M_laysUnits_79 (i := 10) rfl) (fun hc_141 => ?_) (fun hc_141 => ?_)
                        · skip
                          exact absurd hc_141 (by decide)
                        · skip
                          refine zw_goto (pc := 144) (tgt := 163) (by decide) (zdal_p dlD_M_laysUnits_79 (i := 11) rfl) ?_
                          refine zr_iinc (pc := 163) (i := 5) (a := u76_) (n := 1) (L2 := [some (.ref 81), some (.int (Int32.ofInt u28_)), some (.int (Int32.ofInt (zshl 1 (((ze Mz 81 26) - 1) - u28_)))), some (.int (Int32.ofInt u75_)), some (.int (Int32.ofInt u55_)), some (.int (Int32.ofInt (u76_ + 1)))]) rfl (by decide) rfl (zdal_p dlD_M_laysUnits_79 (i := 21) rfl) ?_
                          refine zw_goto (pc := 166) (tgt := 120) (by decide) (zdal_p dlD_M_laysUnits_79 (i := 22) rfl) ?_
                          have hMb_ : zMq T u28_ N77_ := by first | with_reducible assumption | exact zMq.fr hsN77_ (by first | with_reducible assumption | assumption) (by decide) (by decide) | assumption
                          have hUb_ : zUb N77_ (ze Mz 81 26 - 1 - u28_).toNat (ze N77_ 81 57) u55_ u75_ (u76_ + 1) := by first | exact zUb_s0 (by first | with_reducible assumption | assumption) (by (exact hc_126)) | (rw [show ze N77_ 81 57 = ze N57_ 81 57 by omega]; exact hUt_)
                          exact ih_120 u75_ hu75_a hu75_b (u76_ + 1) (by (exact zo_679 hu76_a)) (by (exact zo_959 hc_126 i81_)) N77_ hs78_ (show zUb N77_ (ze Mz 81 26 - 1 - u28_).toNat (ze N77_ 81 57) u55_ u75_ (u76_ + 1) by exact hUb_) (show zMq T u28_ N77_ by first | with_reducible assumption | assumption | omega) (show ze N77_ 81 57 ≤ 32768 by first | with_reducible assumption | assumption | omega) (show ze N77_ 81 57 ≤ ((2 ^ gcu T (ze Mz 81 26 - 1 - u28_).toNat : Nat) : Int) by first | with_reducible assumption | assumption | omega) (show 0 ≤ u75_ by first | with_reducible assumption | assumption | omega) (show u75_ ≤ (u76_ + 1) by first | with_reducible assumption | (exact zo_961 i84_) | assumption) (show (u76_ + 1) ≤ ze N77_ 81 57 by first | with_reducible assumption | assumption | omega) (show ze N77_ 81 57 ≤ u55_ by first | with_reducible assumption | assumption | omega) (show u55_ ≤ 2 * ze N77_ 81 57 by first | with_reducible assumption | assumption | omega) i88_ (by (exact zo_147 hc_126 hlt_120))
                exact lp_120 _ 0 (by decide) (by decide) 0 (by decide) (by decide) N57_ zFr.rf (show zUb N57_ (ze Mz 81 26 - 1 - u28_).toNat (ze N57_ 81 57) u55_ (0 : Int) (0 : Int) by exact zUb_0 (by first | with_reducible assumption | assumption) (by (exact hc_69))) (show zMq T u28_ N57_ by first | with_reducible assumption | assumption | omega) (show ze N57_ 81 57 ≤ 32768 by first | with_reducible assumption | assumption | omega) (show ze N57_ 81 57 ≤ ((2 ^ gcu T (ze Mz 81 26 - 1 - u28_).toNat : Nat) : Int) by first | with_reducible assumption | assumption | omega) (show 0 ≤ (0 : Int) by first | with_reducible assumption | (decide) | assumption) (show (0 : Int) ≤ (0 : Int) by first | with_reducible assumption | (decide) | assumption) (show (0 : Int) ≤ ze N57_ 81 57 by first | with_reducible assumption | (exact zo_962 i63_ i64_) | assumption) (show ze N57_ 81 57 ≤ u55_ by first | with_reducible assumption | assumption | omega) (show u55_ ≤ 2 * ze N57_ 81 57 by first | with_reducible assumption | (exact zo_963 i64_ i66_) | assumption) i67_ (Nat.lt_succ_self _)
              · skip
                refine zw_aload_n (pc := 72) (n := 0) (x := 81) rfl (zdal_p dlD_M_laysUnits_77 (i := 21) rfl) ?_
                refine zw_aload_n (pc := 73) (n := 0) (x := 81) rfl (zdal_p dlD_M_laysUnits_77 (i := 22) rfl) ?_
                refine zr_getF (r := 110) (hf_N57_.w hW) (pc := 74) f_M_103 rfl (zh_110 (hf_N57_.w hW)).1 (zdal_p dlD_M_laysUnits_77 (i := 23) rfl) ?_
                refine zw_iload (pc := 77) (i := 5) (x := Int32.ofInt u56_) rfl (zdal_p dlD_M_laysUnits_78 (i := 0) rfl) ?_
                refine zr_ialdn (pc := 79) (zh_110 (hf_N57_.w hW)).2 (by decide) (by (exact i63_)) (by (exact zo_955 hc_69 i61_)) (zdal_p dlD_M_laysUnits_78 (i := 1) rfl) (fun v152_ hv152_ hv152_a hv152_b => ?_)
                have hr153_ := i67_.g (e := u56_) (by (exact i63_)) (by (exact zo_955 hc_69 i61_))
                rw [← hv152_] at hr153_
                have hUi_N57_ := (show zUa N57_ (ze Mz 81 26 - 1 - u28_).toNat (ze N57_ 81 57) u55_ u56_ by first | with_reducible assumption | assumption).2.1 (u56_).toNat (by (exact zo_695 hc_69 i63_))
                refine zr_toI (show v152_ = ze N57_ 110 (u56_).toNat by (exact hv152_)) ?_
                refine zw_iload_n (pc := 80) (n := 2) (x := Int32.ofInt (zshl 1 (((ze Mz 81 26) - 1) - u28_))) rfl (zdal_p dlD_M_laysUnits_78 (i := 2) rfl) ?_
                refine zr_ior (pc := 81) (zdal_p dlD_M_laysUnits_78 (i := 3) rfl) ?_
                have hr154_ := zor_r (ze N57_ 110 (u56_).toNat) (zshl 1 (((ze Mz 81 26) - 1) - u28_))
                have hbo_N57_ : 0 ≤ (zor (ze N57_ 110 (u56_).toNat) (zshl 1 (((ze Mz 81 26) - 1) - u28_))) := (zbor (by (exact zo_57 hUi_N57_.1)) (by (exact zo_550 hv152_ hv152_b)) (by (exact zo_946 gb.2.2.2.2.2 gfl gxl hc_33 i32_)) hbit_).2
                refine zw_iload_n (pc := 82) (n := 1) (x := Int32.ofInt u28_) rfl (zdal_p dlD_M_laysUnits_78 (i := 4) rfl) ?_
                refine zr_callV (hf_N57_.w hW) hf_N57_.x (pc := 83) [.int (Int32.ofInt (zor (ze N57_ 110 (u56_).toNat) (zshl 1 (((ze Mz 81 26) - 1) - u28_)))), .int (Int32.ofInt u28_)] [] l_M_462 (c_M_isUnitAt l N57_ (hf_N57_.w hW) (zor (ze N57_ 110 (u56_).toNat) (zshl 1 (((ze Mz 81 26) - 1) - u28_))) (by (exact zo_168 hbo_N57_)) (by (exact zo_285 hr154_.2)) u28_ hu28_a hu28_b T hO hX c68_ (show 0 ≤ (zor (ze N57_ 110 (u56_).toNat) (zshl 1 (((ze Mz 81 26) - 1) - u28_))) by first | with_reducible assumption | assumption | omega) (show zMq T u28_ N57_ by first | with_reducible assumption | assumption | omega)) rfl rfl rfl (by decide) (Nat.le_of_ble_eq_true rfl) (zdal_p dlD_M_laysUnits_78 (i := 5) rfl) ?_
                rintro _ N155_ ⟨v156_, rfl, ⟨hv156_a, hv156_b⟩, hsN155_, hp0_N155_⟩
                obtain rfl := hsN155_.eq.symm
                replace hp0_N155_ : ((v156_ = 1 ∧ zuk N57_ (zor (ze N57_ 110 (u56_).toNat) (zshl 1 (((ze Mz 81 26) - 1) - u28_)))) ∨ (v156_ = 0 ∧ ¬ zuk N57_ (zor (ze N57_ 110 (u56_).toNat) (zshl 1 (((ze Mz 81 26) - 1) - u28_))))) := hp0_N155_
                rcases hp0_N155_ with ⟨rfl, ha83_0_hp0_N155_⟩ | ⟨rfl, ha83_0_hp0_N155_⟩
                · skip
                  have hzk_ := ha83_0_hp0_N155_
                  show zW l m_M_laysUnits (zn Mz + 0, zw Mz + 0) N57_ 86 [some (.ref 81), some (.int (Int32.ofInt u28_)), some (.int (Int32.ofInt (zshl 1 (((ze Mz 81 26) - 1) - u28_)))), some (.int (Int32.ofInt 0)), some (.int (Int32.ofInt u55_)), some (.int (Int32.ofInt u56_))] [.int (Int32.ofInt 1)] _
                  refine zr_if_ne (pc := 86) (tgt := 92) ⟨(by decide), (by decide)⟩ (by decide) (zdal_p dlD_M_laysUnits_78 (i := 6) rfl) (fun hc_86 => ?_) (fun hc_86 => ?_)
                  · skip
                    refine zw_aload_n (pc := 92) (n := 0) (x := 81) rfl (zdal_p dlD_M_laysUnits_78 (i := 8) rfl) ?_
                    refine zr_getF (r := 110) (hf_N57_.w hW) (pc := 93) f_M_103 rfl (zh_110 (hf_N57_.w hW)).1 (zdal_p dlD_M_laysUnits_78 (i := 9) rfl) ?_
                    refine zw_iload (pc := 96) (i := 4) (x := Int32.ofInt u55_) rfl (zdal_p dlD_M_laysUnits_78 (i := 10) rfl) ?_
                    refine zw_aload_n (pc := 98) (n := 0) (x := 81) rfl (zdal_p dlD_M_laysUnits_78 (i := 11) rfl) ?_
                    refine zr_getF (r := 110) (hf_N57_.w hW) (pc := 99) f_M_103 rfl (zh_110 (hf_N57_.w hW)).1 (zdal_p dlD_M_laysUnits_78 (i := 12) rfl) ?_
                    refine zw_iload (pc := 102) (i := 5) (x := Int32.ofInt u56_) rfl (zdal_p dlD_M_laysUnits_78 (i := 13) rfl) ?_
                    refine zr_ialdn (pc := 104) (zh_110 (hf_N57_.w hW)).2 (by decide) (by (exact i63_)) (by (exact zo_955 hc_69 i61_)) (zdal_p dlD_M_laysUnits_78 (i := 14) rfl) (fun v157_ hv157_ hv157_a hv157_b => ?_)
                    have hr158_ := i67_.g (e := u56_) (by (exact i63_)) (by (exact zo_955 hc_69 i61_))
                    rw [← hv157_] at hr158_
                    refine zr_toI (show v157_ = ze N57_ 110 (u56_).toNat by (exact hv157_)) ?_
                    refine zw_iload_n (pc := 105) (n := 2) (x := Int32.ofInt (zshl 1 (((ze Mz 81 26) - 1) - u28_))) rfl (zdal_p dlD_M_laysUnits_78 (i := 15) rfl) ?_
                    refine zr_ior (pc := 106) (zdal_p dlD_M_laysUnits_78 (i := 16) rfl) ?_
                    have hr159_ := zor_r (ze N57_ 110 (u56_).toNat) (zshl 1 (((ze Mz 81 26) - 1) - u28_))
                    refine zr_iast (pc := 107) (zh_110 (hf_N57_.w hW)).2 (by decide) (by decide) (by (exact zo_964 hc_69 hu55_a i63_ i65_)) (by (exact zo_965 hc_69 i61_ i66_)) (zdal_p dlD_M_laysUnits_78 (i := 17) rfl) (fun N160_ hN160_ hsN160_ => ?_)
                    have hf_N160_ : zFr [55, 57, 58] [109, 110] Mz N160_ := hf_N57_.tr hsN160_ (by decide) (by decide)
                    have hb0_N160_ : zFr [55, 57] [109, 110] N19_ N160_ := hb0_N57_.tr hsN160_ (by decide) (by decide)
                    have hb1_N160_ : zFr [] [110] N44_ N160_ := hs58_.tr hsN160_ (by decide) (by decide)
                    have e26_N160_ : ze N160_ 81 26 = ze N57_ 81 26 := hsN160_.e (by decide)
                    have e55_N160_ : ze N160_ 81 55 = ze N57_ 81 55 := hsN160_.e (by decide)
                    have e57_N160_ : ze N160_ 81 57 = ze N57_ 81 57 := hsN160_.e (by decide)
                    have e58_N160_ : ze N160_ 81 58 = ze N57_ 81 58 := hsN160_.e (by decide)
                    have c161_ : zGB T N160_ := zGB.fr hsN160_ c68_ (by decide) (by decide)
                    have c162_ : zTab T N160_ := zTab.fr hsN160_ c69_ (by decide) (by decide)
                    have c163_ : zB 85 144 0 5 N160_ := zB.fr hsN160_ c70_ (by decide) (by decide)
                    have c164_ : zJX T N160_ := zJX.fr hsN160_ c71_ (by decide) (by decide)
                    have c165_ : zFirs T N160_ := zFirs.fr hsN160_ c72_ (by decide) (by decide)
                    have c166_ : zSSm T N160_ := zSSm.fr hsN160_ c73_ (by decide) (by decide)
                    have c167_ : zGD N160_ := zGD.fr hsN160_ c74_ (by decide) (by decide)
                    have c168_ : zB 110 65536 0 2147483647 N160_ := zB.s i67_ hN160_ (by (exact hbo_N57_)) (by (exact zo_966 hr154_.2)) (by decide) (by decide)
                    have hUs_ := zUa_s1 (T := T) (d := (ze Mz 81 26 - 1 - u28_).toNat) (j := u28_) (by (exact zo_967 e26_N10_ e26_N19_ e26_N1_ e26_N29_ e26_N44_ e26_N57_ i32_)) (by (exact zo_946 gb.2.2.2.2.2 gfl gxl hc_33 i32_)) (by (exact zo_968 e26_N10_ e26_N19_ e26_N1_ e26_N29_ e26_N44_ e26_N57_ gb.2.2.2.2.2 gfl)) (show zMq T u28_ N57_ by first | with_reducible assumption | assumption) hbit_ (show zUa N57_ (ze Mz 81 26 - 1 - u28_).toNat (ze N57_ 81 57) u55_ u56_ by first | with_reducible assumption | assumption) (by (exact hc_69)) rfl hzk_ rfl hN160_
                    refine zr_iinc (pc := 108) (i := 4) (a := u55_) (n := 1) (L2 := [some (.ref 81), some (.int (Int32.ofInt u28_)), some (.int (Int32.ofInt (zshl 1 (((ze Mz 81 26) - 1) - u28_)))), some (.int (Int32.ofInt 0)), some (.int (Int32.ofInt (u55_ + 1))), some (.int (Int32.ofInt u56_))]) rfl (by decide) rfl (zdal_p dlD_M_laysUnits_78 (i := 18) rfl) ?_
                    refine zr_iinc (pc := 111) (i := 5) (a := u56_) (n := 1) (L2 := [some (.ref 81), some (.int (Int32.ofInt u28_)), some (.int (Int32.ofInt (zshl 1 (((ze Mz 81 26) - 1) - u28_)))), some (.int (Int32.ofInt 0)), some (.int (Int32.ofInt (u55_ + 1))), some (.int (Int32.ofInt (u56_ + 1)))]) rfl (by decide) rfl (zdal_p dlD_M_laysUnits_78 (i := 19) rfl) ?_
                    refine zw_goto (pc := 114) (tgt := 63) (by decide) (zdal_p dlD_M_laysUnits_78 (i := 20) rfl) ?_
                    have hMb_ : zMq T u28_ N160_ := by first | with_reducible assumption | exact zMq.fr hsN160_ (by first | with_reducible assumption | assumption) (by decide) (by decide) | assumption
                    have hUb_ : zUa N160_ (ze Mz 81 26 - 1 - u28_).toNat (ze N160_ 81 57) (u55_ + 1) (u56_ + 1) := by first | exact zUa_s0 (by first | with_reducible assumption | assumption) (by omega) | (rw [show ze N160_ 81 57 = ze N57_ 81 57 by (exact e57_N160_)]; exact hUs_)
                    exact ih_63 (u55_ + 1) (by (exact zo_679 hu55_a)) (by omega) (u56_ + 1) (by (exact zo_74 i63_)) (by (exact zo_959 hc_69 i61_)) N160_ hb1_N160_ (show zUa N160_ (ze Mz 81 26 - 1 - u28_).toNat (ze N160_ 81 57) (u55_ + 1) (u56_ + 1) by exact hUb_) (show zMq T u28_ N160_ by first | with_reducible assumption | assumption | omega) (show ze N160_ 81 57 ≤ 32768 by first | with_reducible assumption | (exact zo_949 e57_N160_ i61_) | assumption) (show ze N160_ 81 57 ≤ ((2 ^ gcu T (ze Mz 81 26 - 1 - u28_).toNat : Nat) : Int) by first | with_reducible assumption | (exact zo_950 e57_N160_ i61_ i62_) | assumption) (show 0 ≤ (u56_ + 1) by first | with_reducible assumption | (exact zo_76 i63_) | assumption) (show (u56_ + 1) ≤ ze N160_ 81 57 by first | with_reducible assumption | (exact zo_536 e57_N160_ hc_69) | assumption) (show ze N160_ 81 57 ≤ (u55_ + 1) by first | with_reducible assumption | (exact zo_952 e57_N160_ i65_) | assumption) (show (u55_ + 1) ≤ ze N160_ 81 57 + (u56_ + 1) by first | with_reducible assumption | (exact zo_969 e57_N160_ i66_) | assumption) c168_ (by (exact zo_960 e57_N160_ hc_69 hlt_63))
                  · skip
                    exact absurd hc_86 (by decide)
                · skip
                  show zW l m_M_laysUnits (zn Mz + 0, zw Mz + 0) N57_ 86 [some (.ref 81), some (.int (Int32.ofInt u28_)), some (.int (Int32.ofInt (zshl 1 (((ze Mz 81 26) - 1) - u28_)))), some (.int (Int32.ofInt 0)), some (.int (Int32.ofInt u55_)), some (.int (Int32.ofInt u56_))] [.int (Int32.ofInt 0)] _
                  refine zr_if_ne (pc := 86) (tgt := 92) ⟨(by decide), (by decide)⟩ (by decide) (zdal_p dlD_M_laysUnits_78 (i := 6) rfl) (fun hc_86 => ?_) (fun hc_86 => ?_)
                  · skip
                    exact absurd hc_86 (by decide)
                  · skip
                    refine zw_goto (pc := 89) (tgt := 111) (by decide) (zdal_p dlD_M_laysUnits_78 (i := 7) rfl) ?_
                    refine zr_iinc (pc := 111) (i := 5) (a := u56_) (n := 1) (L2 := [some (.ref 81), some (.int (Int32.ofInt u28_)), some (.int (Int32.ofInt (zshl 1 (((ze Mz 81 26) - 1) - u28_)))), some (.int (Int32.ofInt 0)), some (.int (Int32.ofInt u55_)), some (.int (Int32.ofInt (u56_ + 1)))]) rfl (by decide) rfl (zdal_p dlD_M_laysUnits_78 (i := 19) rfl) ?_
                    refine zw_goto (pc := 114) (tgt := 63) (by decide) (zdal_p dlD_M_laysUnits_78 (i := 20) rfl) ?_
                    have hMb_ : zMq T u28_ N57_ := by first | with_reducible assumption | exact zMq.fr hsN57_ (by first | with_reducible assumption | assumption) (by decide) (by decide) | assumption
                    have hUb_ : zUa N57_ (ze Mz 81 26 - 1 - u28_).toNat (ze N57_ 81 57) u55_ (u56_ + 1) := by first | exact zUa_s0 (by first | with_reducible assumption | assumption) (by (exact hc_69)) | (rw [show ze N57_ 81 57 = ze N44_ 81 57 by omega]; exact hUs_)
                    exact ih_63 u55_ hu55_a hu55_b (u56_ + 1) (by (exact zo_74 i63_)) (by (exact zo_959 hc_69 i61_)) N57_ hs58_ (show zUa N57_ (ze Mz 81 26 - 1 - u28_).toNat (ze N57_ 81 57) u55_ (u56_ + 1) by exact hUb_) (show zMq T u28_ N57_ by first | with_reducible assumption | assumption | omega) (show ze N57_ 81 57 ≤ 32768 by first | with_reducible assumption | assumption | omega) (show ze N57_ 81 57 ≤ ((2 ^ gcu T (ze Mz 81 26 - 1 - u28_).toNat : Nat) : Int) by first | with_reducible assumption | assumption | omega) (show 0 ≤ (u56_ + 1) by first | with_reducible assumption | (exact zo_76 i63_) | assumption) (show (u56_ + 1) ≤ ze N57_ 81 57 by first | with_reducible assumption | assumption | omega) (show ze N57_ 81 57 ≤ u55_ by first | with_reducible assumption | assumption | omega) (show u55_ ≤ ze N57_ 81 57 + (u56_ + 1) by first | with_reducible assumption | (exact zo_970 i66_) | assumption) i67_ (by (exact zo_147 hc_69 hlt_63))
          exact lp_63 _ (ze N44_ 81 57) (ze_r N44_ 81 57).1 (ze_r N44_ 81 57).2 0 (by decide) (by decide) N44_ zFr.rf (show zUa N44_ (ze Mz 81 26 - 1 - u28_).toNat (ze N44_ 81 57) (ze N44_ 81 57) (0 : Int) by exact hUa_) (show zMq T u28_ N44_ by first | with_reducible assumption | assumption | omega) (show ze N44_ 81 57 ≤ 32768 by first | with_reducible assumption | (exact zo_971 hbd_.2) | assumption) (show ze N44_ 81 57 ≤ ((2 ^ gcu T (ze Mz 81 26 - 1 - u28_).toNat : Nat) : Int) by first | with_reducible assumption | assumption | omega) (show 0 ≤ (0 : Int) by first | with_reducible assumption | (decide) | assumption) (show (0 : Int) ≤ ze N44_ 81 57 by first | with_reducible assumption | (exact zo_57 hbd_.1) | assumption) (show ze N44_ 81 57 ≤ (ze N44_ 81 57) by first | with_reducible assumption | (exact zo_628) | assumption) (show (ze N44_ 81 57) ≤ ze N44_ 81 57 + (0 : Int) by first | with_reducible assumption | (exact zo_972) | assumption) c53_ (Nat.lt_succ_self _)
    exact lp_32 _ ((ze Mz 81 26) - 1) (by (exact zo_63 gb.2.2.2.2.1)) (by (exact zo_903 gb.2.2.2.2.2)) N19_ zFr.rf (show -1 ≤ ((ze Mz 81 26) - 1) by first | with_reducible assumption | (exact zo_973 gb.2.2.2.2.1) | assumption) (show ((ze Mz 81 26) - 1) ≤ ze Mz 81 26 - 1 by first | with_reducible assumption | (exact zo_904) | assumption) (show zUo T N19_ (ze Mz 81 26 - 1 - ((ze Mz 81 26) - 1)).toNat (ze N19_ 81 57) by rw [show (ze Mz 81 26 - 1 - ((ze Mz 81 26) - 1)).toNat = 0 by (exact zo_974), show ze N19_ 81 57 = 1 by (exact zo_594 e57_N19_ hvN10_)]; exact zUo_0 hz0_) (show 0 ≤ ze N19_ 81 57 by first | with_reducible assumption | (exact zo_593 e57_N19_ hvN10_) | assumption) (show ze N19_ 81 57 ≤ 65536 by first | with_reducible assumption | (exact zo_975 e57_N19_ hvN10_) | assumption) c21_ (Nat.lt_succ_self _)
  · skip
    exact zr_vret (pc := 7) rfl hf ⟨p1_, (show 0 ≤ ze Mz 81 57 by first | with_reducible assumption | assumption | omega), (show ze Mz 81 57 ≤ 65536 by first | with_reducible assumption | assumption | omega)⟩ (zdal_p dlD_M_laysUnits_76 (i := 3) rfl)
set_option maxHeartbeats 4000000 in
theorem c_M_units (l : Launch) (Mz : zMem) (hW : zMt Mz) (T : zGT) (hO : gOK T) (hX : gEx T) (p0_ : zGB T Mz) (p1_ : zB 110 65536 0 2147483647 Mz) (p2_ : 0 ≤ ze Mz 81 57) (p3_ : ze Mz 81 57 ≤ 65536) : zC l m_M_units 0 0 [.ref 81] Mz (zpI [55, 57, 58] [109, 110] Mz (fun v N => zB 110 65536 0 2147483647 N ∧ 0 ≤ ze N 81 57 ∧ ze N 81 57 ≤ 65536)) := by
  refine zC_of (L0 := [some (.ref 81)]) md_M_units (Nat.le_of_ble_eq_true rfl) rfl ?_ zQ0
  have hf : zFr [55, 57, 58] [109, 110] Mz Mz := zFr.rf
  have r_57 := ze_r Mz 81 57
  have hG := hO.1
  have g24 := hG.2.1
  have g1 := hG.1
  have dv0 : zTab T Mz := p0_.1
  have dv1 : zB 85 144 0 5 Mz := p0_.2.1
  have dv2 : zJX T Mz := p0_.2.2.1
  have dv3 : zFirs T Mz := p0_.2.2.2.1
  have dv4 : zSSm T Mz := p0_.2.2.2.2.1
  have dv5 : zGD Mz := zGB.d hO p0_
  have gb := dv5.1
  have gn := dv0.1
  refine zw_aload_n (pc := 0) (n := 0) (x := 81) rfl (zdal_p dlD_M_units_75 (i := 0) rfl) ?_
  refine zr_callV (hf.w hW) hf.x (pc := 1) [] [] l_M_465 (c_M_laysUnits l Mz (hf.w hW) T hO hX p0_ p1_ (show 0 ≤ ze Mz 81 57 by first | with_reducible assumption | assumption | omega) (show ze Mz 81 57 ≤ 65536 by first | with_reducible assumption | assumption | omega)) rfl rfl rfl (by decide) (Nat.le_of_ble_eq_true rfl) (zdal_p dlD_M_units_75 (i := 1) rfl) ?_
  rintro _ N1_ ⟨rfl, hsN1_, ⟨hp0_N1_, hp1_N1_, hp2_N1_⟩⟩
  have hf_N1_ : zFr [55, 57, 58] [109, 110] Mz N1_ := hf.tr hsN1_ (by decide) (by decide)
  have r57_N1_ := ze_r N1_ 81 57
  show zW l m_M_units (zn Mz + 0, zw Mz + 0) N1_ 4 [some (.ref 81)] [] _
  refine zw_aload_n (pc := 4) (n := 0) (x := 81) rfl (zdal_p dlD_M_units_75 (i := 2) rfl) ?_
  refine zr_getI (hf_N1_.w hW) (pc := 5) f_M_459 rfl (zdal_p dlD_M_units_75 (i := 3) rfl) ?_
  exact zr_iret (pc := 8) (ty := .int) rfl rfl ⟨by (exact zo_168 hp1_N1_), by (exact zo_976 hp2_N1_)⟩ hf_N1_ ⟨hp0_N1_, (show 0 ≤ ze N1_ 81 57 by first | with_reducible assumption | assumption | omega), (show ze N1_ 81 57 ≤ 65536 by first | with_reducible assumption | assumption | omega)⟩ (zdal_p dlD_M_units_75 (i := 4) rfl)
set_option maxHeartbeats 4000000 in
theorem c_M_unit (l : Launch) (Mz : zMem) (hW : zMt Mz) (a0_ : Int) (ha0_a : -2147483648 ≤ a0_) (ha0_b : a0_ < 2147483648) (a1_ : Int) (ha1_a : -2147483648 ≤ a1_) (ha1_b : a1_ < 2147483648) (T : zGT) (hO : gOK T) (hX : gEx T) (p0_ : zGB T Mz) (p1_ : zB 110 65536 0 2147483647 Mz) (p2_ : 0 ≤ ze Mz 81 57) (p3_ : ze Mz 81 57 ≤ 65536) : zC l m_M_unit 0 0 [.ref 81, .int (Int32.ofInt a0_), .int (Int32.ofInt a1_)] Mz (zpI [55, 57, 58] [96, 105, 109, 110] Mz (fun v N => zB 110 65536 0 2147483647 N ∧ 0 ≤ ze N 81 57 ∧ ze N 81 57 ≤ 65536)) := by
  refine zC_of (L0 := [some (.ref 81), some (.int (Int32.ofInt a0_)), some (.int (Int32.ofInt a1_)), none]) md_M_unit (Nat.le_of_ble_eq_true rfl) rfl ?_ zQ0
  have hf : zFr [55, 57, 58] [96, 105, 109, 110] Mz Mz := zFr.rf
  have r_26 := ze_r Mz 81 26
  have r_57 := ze_r Mz 81 57
  have hG := hO.1
  have g24 := hG.2.1
  have g1 := hG.1
  have dv0 : zTab T Mz := p0_.1
  have dv1 : zB 85 144 0 5 Mz := p0_.2.1
  have dv2 : zJX T Mz := p0_.2.2.1
  have dv3 : zFirs T Mz := p0_.2.2.2.1
  have dv4 : zSSm T Mz := p0_.2.2.2.2.1
  have dv5 : zGD Mz := zGB.d hO p0_
  have gb := dv5.1
  have gn := dv0.1
  refine zw_aload_n (pc := 0) (n := 0) (x := 81) rfl (zdal_p dlD_M_unit_86 (i := 0) rfl) ?_
  refine zw_iload_n (pc := 1) (n := 2) (x := Int32.ofInt a1_) rfl (zdal_p dlD_M_unit_86 (i := 1) rfl) ?_
  refine zr_callV (hf.w hW) hf.x (pc := 2) [.int (Int32.ofInt a1_)] [] l_M_414 (c_M_isSort l Mz (hf.w hW) a1_ ha1_a ha1_b T hO p0_) rfl rfl rfl (by decide) (Nat.le_of_ble_eq_true rfl) (zdal_p dlD_M_unit_86 (i := 2) rfl) ?_
  rintro _ N1_ ⟨v2_, rfl, ⟨hv2_a, hv2_b⟩, hsN1_, hp0_N1_⟩
  obtain rfl := hsN1_.eq.symm
  replace hp0_N1_ : ((v2_ = 1 ∧ 0 ≤ a1_ ∧ a1_ < ze Mz 81 26) ∨ (v2_ = 0)) := hp0_N1_
  rcases hp0_N1_ with ⟨rfl, ha2_0_hp0_N1_, ha2_1_hp0_N1_⟩ | rfl
  · skip
    show zW l m_M_unit (zn Mz + 0, zw Mz + 0) Mz 5 [some (.ref 81), some (.int (Int32.ofInt a0_)), some (.int (Int32.ofInt a1_)), none] [.int (Int32.ofInt 1)] _
    refine zr_if_ne (pc := 5) (tgt := 12) ⟨(by decide), (by decide)⟩ (by decide) (zdal_p dlD_M_unit_86 (i := 3) rfl) (fun hc_5 => ?_) (fun hc_5 => ?_)
    · skip
      refine zw_aload_n (pc := 12) (n := 0) (x := 81) rfl (zdal_p dlD_M_unit_86 (i := 6) rfl) ?_
      refine zr_callV (hf.w hW) hf.x (pc := 13) [] [] l_M_465 (c_M_laysUnits l Mz (hf.w hW) T hO hX p0_ p1_ (show 0 ≤ ze Mz 81 57 by first | with_reducible assumption | assumption | omega) (show ze Mz 81 57 ≤ 65536 by first | with_reducible assumption | assumption | omega)) rfl rfl rfl (by decide) (Nat.le_of_ble_eq_true rfl) (zdal_p dlD_M_unit_86 (i := 7) rfl) ?_
      rintro _ N3_ ⟨rfl, hsN3_, ⟨hp0_N3_, hp1_N3_, hp2_N3_⟩⟩
      have hf_N3_ : zFr [55, 57, 58] [96, 105, 109, 110] Mz N3_ := hf.tr hsN3_ (by decide) (by decide)
      have e26_N3_ : ze N3_ 81 26 = ze Mz 81 26 := hsN3_.e (by decide)
      have r57_N3_ := ze_r N3_ 81 57
      have c11_ : zGD N3_ := zGD.fr hsN3_ dv5 (by decide) (by decide)
      show zW l m_M_unit (zn Mz + 0, zw Mz + 0) N3_ 16 [some (.ref 81), some (.int (Int32.ofInt a0_)), some (.int (Int32.ofInt a1_)), none] [] _
      refine zw_iload_n (pc := 16) (n := 1) (x := Int32.ofInt a0_) rfl (zdal_p dlD_M_unit_86 (i := 8) rfl) ?_
      refine zr_i2l (pc := 17) ⟨ha0_a, ha0_b⟩ (zdal_p dlD_M_unit_86 (i := 9) rfl) ?_
      refine zw_lconst (pc := 18) (v := Int64.ofInt 0) (by decide) (zdal_p dlD_M_unit_86 (i := 10) rfl) ?_
      refine zw_aload_n (pc := 19) (n := 0) (x := 81) rfl (zdal_p dlD_M_unit_86 (i := 11) rfl) ?_
      refine zr_getI (hf_N3_.w hW) (pc := 20) f_M_459 rfl (zdal_p dlD_M_unit_86 (i := 12) rfl) ?_
      refine zw_iconst (pc := 23) (v := Int32.ofInt 1) (by decide) (zdal_p dlD_M_unit_86 (i := 13) rfl) ?_
      refine zr_isub (pc := 24) (zdal_p dlD_M_unit_86 (i := 14) rfl) ?_
      refine zr_i2l (pc := 25) ⟨(by (exact zo_600 hp1_N3_)), (by (exact zo_977 hp2_N3_))⟩ (zdal_p dlD_M_unit_86 (i := 15) rfl) ?_
      refine zr_callS hf_N3_.x (pc := 26) [.long (Int64.ofInt a0_), .long (Int64.ofInt 0), .long (Int64.ofInt ((ze N3_ 81 57) - 1))] [] l_M_131 (c_M_isIn l N3_ (hf_N3_.w hW) a0_ (by (exact zo_282 ha0_a)) (by (exact zo_283 ha0_b)) 0 (by decide) (by decide) ((ze N3_ 81 57) - 1) (by (exact zo_827 hp1_N3_)) (by (exact zo_978 hp2_N3_))) rfl rfl (by decide) (Nat.le_of_ble_eq_true rfl) (zdal_p dlD_M_unit_86 (i := 16) rfl) ?_
      rintro _ N12_ ⟨v13_, rfl, ⟨hv13_a, hv13_b⟩, hsN12_, hp0_N12_⟩
      obtain rfl := hsN12_.eq.symm
      replace hp0_N12_ : ((v13_ = 1 ∧ 0 ≤ a0_ ∧ a0_ ≤ ((ze N3_ 81 57) - 1)) ∨ (v13_ = 0 ∧ (a0_ < 0 ∨ ((ze N3_ 81 57) - 1) < a0_))) := hp0_N12_
      rcases hp0_N12_ with ⟨rfl, ha26_0_hp0_N12_, ha26_1_hp0_N12_⟩ | ⟨rfl, ha26_0_hp0_N12_⟩
      · skip
        show zW l m_M_unit (zn Mz + 0, zw Mz + 0) N3_ 29 [some (.ref 81), some (.int (Int32.ofInt a0_)), some (.int (Int32.ofInt a1_)), none] [.int (Int32.ofInt 1)] _
        refine zr_if_ne (pc := 29) (tgt := 36) ⟨(by decide), (by decide)⟩ (by decide) (zdal_p dlD_M_unit_86 (i := 17) rfl) (fun hc_29 => ?_) (fun hc_29 => ?_)
        · skip
          refine zw_iconst (pc := 36) (v := Int32.ofInt 0) (by decide) (zdal_p dlD_M_unit_86 (i := 20) rfl) ?_
          refine zw_istore_n (pc := 37) (i := 3) (L2 := [some (.ref 81), some (.int (Int32.ofInt a0_)), some (.int (Int32.ofInt a1_)), some (.int (Int32.ofInt 0))]) rfl (by decide) rfl (zdal_p dlD_M_unit_86 (i := 21) rfl) ?_
          have lp_38 : ∀ (n : Nat) (u14_ : Int) (hu14_a : -2147483648 ≤ u14_) (hu14_b : u14_ < 2147483648) (N15_ : zMem) (hs16_ : zFr [] [96] N3_ N15_) (i17_ : 0 ≤ u14_), (ze Mz 81 26 - u14_).toNat < n → zW l m_M_unit (zn Mz + 0, zw Mz + 0) N15_ 38 [some (.ref 81), some (.int (Int32.ofInt a0_)), some (.int (Int32.ofInt a1_)), some (.int (Int32.ofInt u14_))] [] (zpI [55, 57, 58] [96, 105, 109, 110] Mz (fun v N => zB 110 65536 0 2147483647 N ∧ 0 ≤ ze N 81 57 ∧ ze N 81 57 ≤ 65536)) := by
            intro n
            induction n with
            | zero =>
              intro u14_ hu14_a hu14_b N15_ hs16_ i17_ h0
              exact absurd h0 (Nat.not_lt_zero _)
            | succ n ih_38 =>
              intro u14_ hu14_a hu14_b N15_ hs16_ i17_ hlt_38
              have hf_N15_ : zFr [55, 57, 58] [96, 105, 109, 110] Mz N15_ := hf_N3_.tr hs16_ (by decide) (by decide)
              have e26_N15_ : ze N15_ 81 26 = ze N3_ 81 26 := hs16_.e (by decide)
              have e57_N15_ : ze N15_ 81 57 = ze N3_ 81 57 := hs16_.e (by decide)
              have c24_ : zGD N15_ := zGD.fr hs16_ c11_ (by decide) (by decide)
              have c25_ : zB 110 65536 0 2147483647 N15_ := zB.fr hs16_ hp0_N3_ (by decide) (by decide)
              refine zw_iload_n (pc := 38) (n := 3) (x := Int32.ofInt u14_) rfl (zdal_p dlD_M_unit_86 (i := 22) rfl) ?_
              refine zw_aload_n (pc := 39) (n := 0) (x := 81) rfl (zdal_p dlD_M_unit_86 (i := 23) rfl) ?_
              refine zr_getI0 hf_N15_ hW (pc := 40) (by decide) f_M_235 rfl (zdal_p dlD_M_unit_87 (i := 0) rfl) ?_
              refine zr_icmp_ge (pc := 43) (tgt := 85) ⟨hu14_a, hu14_b⟩ ⟨(ze_r Mz 81 26).1, (ze_r Mz 81 26).2⟩ (by decide) (zdal_p dlD_M_unit_87 (i := 1) rfl) (fun hc_43 => ?_) (fun hc_43 => ?_)
              · skip
                refine zw_aload_n (pc := 85) (n := 0) (x := 81) rfl (zdal_p dlD_M_unit_87 (i := 23) rfl) ?_
                refine zw_aload_n (pc := 86) (n := 0) (x := 81) rfl (zdal_p dlD_M_unit_88 (i := 0) rfl) ?_
                refine zr_getF (r := 96) (hf_N15_.w hW) (pc := 87) f_M_60 rfl (zh_96 (hf_N15_.w hW)).1 (zdal_p dlD_M_unit_88 (i := 1) rfl) ?_
                refine zw_aload_n (pc := 90) (n := 0) (x := 81) rfl (zdal_p dlD_M_unit_88 (i := 2) rfl) ?_
                refine zr_getF (r := 105) (hf_N15_.w hW) (pc := 91) f_M_87 rfl (zh_105 (hf_N15_.w hW)).1 (zdal_p dlD_M_unit_88 (i := 3) rfl) ?_
                refine zw_iconst (pc := 94) (v := Int32.ofInt 0) (by decide) (zdal_p dlD_M_unit_88 (i := 4) rfl) ?_
                refine zr_callV (hf_N15_.w hW) hf_N15_.x (pc := 95) [.ref 96, .ref 105, .int (Int32.ofInt 0)] [] l_M_289 (c_M_numbers_96_105 l N15_ (hf_N15_.w hW) 0 (by decide) (by decide) c24_ (show 0 ≤ 0 by first | with_reducible assumption | (decide) | assumption) (show 0 ≤ 0 by first | with_reducible assumption | (decide) | assumption)) rfl rfl rfl (by decide) (Nat.le_of_ble_eq_true rfl) (zdal_p dlD_M_unit_88 (i := 5) rfl) ?_
                rintro _ N26_ ⟨rfl, hsN26_, -⟩
                have hf_N26_ : zFr [55, 57, 58] [96, 105, 109, 110] Mz N26_ := hf_N15_.tr hsN26_ (by decide) (by decide)
                have e26_N26_ : ze N26_ 81 26 = ze N15_ 81 26 := hsN26_.e (by decide)
                have e57_N26_ : ze N26_ 81 57 = ze N15_ 81 57 := hsN26_.e (by decide)
                have c35_ : zB 110 65536 0 2147483647 N26_ := zB.fr hsN26_ c25_ (by decide) (by decide)
                show zW l m_M_unit (zn Mz + 0, zw Mz + 0) N26_ 98 [some (.ref 81), some (.int (Int32.ofInt a0_)), some (.int (Int32.ofInt a1_)), some (.int (Int32.ofInt u14_))] [] _
                refine zw_aload_n (pc := 98) (n := 0) (x := 81) rfl (zdal_p dlD_M_unit_88 (i := 6) rfl) ?_
                refine zr_getF (r := 105) (hf_N26_.w hW) (pc := 99) f_M_87 rfl (zh_105 (hf_N26_.w hW)).1 (zdal_p dlD_M_unit_88 (i := 7) rfl) ?_
                refine zw_iload_n (pc := 102) (n := 2) (x := Int32.ofInt a1_) rfl (zdal_p dlD_M_unit_88 (i := 8) rfl) ?_
                refine zr_laldn (pc := 103) (zh_105 (hf_N26_.w hW)).2 (by decide) (by (exact ha2_0_hp0_N1_)) (by (exact zo_906 gb.2.2.2.2.2 ha1_b ha2_1_hp0_N1_)) (zdal_p dlD_M_unit_88 (i := 9) rfl) (fun v36_ hv36_ hv36_a hv36_b => ?_)
                refine zr_l2i (pc := 104) (zdal_p dlD_M_unit_88 (i := 10) rfl) ?_
                refine zr_nmI (fun v37_ hv37_ => ?_)
                obtain ⟨hv37_a, hv37_b⟩ := hv37_
                exact zr_iret (pc := 105) (ty := .int) rfl rfl ⟨by (exact hv37_a), by (exact hv37_b)⟩ hf_N26_ ⟨c35_, (show 0 ≤ ze N26_ 81 57 by first | with_reducible assumption | (exact zo_871 e57_N15_ e57_N26_ hp1_N3_) | assumption), (show ze N26_ 81 57 ≤ 65536 by first | with_reducible assumption | (exact zo_979 e57_N15_ e57_N26_ hp2_N3_) | assumption)⟩ (zdal_p dlD_M_unit_88 (i := 11) rfl)
              · skip
                refine zw_aload_n (pc := 46) (n := 0) (x := 81) rfl (zdal_p dlD_M_unit_87 (i := 2) rfl) ?_
                refine zr_getF (r := 96) (hf_N15_.w hW) (pc := 47) f_M_60 rfl (zh_96 (hf_N15_.w hW)).1 (zdal_p dlD_M_unit_87 (i := 3) rfl) ?_
                refine zw_iload_n (pc := 50) (n := 3) (x := Int32.ofInt u14_) rfl (zdal_p dlD_M_unit_87 (i := 4) rfl) ?_
                refine zw_aload_n (pc := 51) (n := 0) (x := 81) rfl (zdal_p dlD_M_unit_87 (i := 5) rfl) ?_
                refine zr_getF (r := 110) (hf_N15_.w hW) (pc := 52) f_M_103 rfl (zh_110 (hf_N15_.w hW)).1 (zdal_p dlD_M_unit_87 (i := 6) rfl) ?_
                refine zw_iload_n (pc := 55) (n := 1) (x := Int32.ofInt a0_) rfl (zdal_p dlD_M_unit_87 (i := 7) rfl) ?_
                refine zr_ialdn (pc := 56) (zh_110 (hf_N15_.w hW)).2 (by decide) (by (exact ha26_0_hp0_N12_)) (by (exact zo_980 ha0_b ha26_1_hp0_N12_ hp2_N3_)) (zdal_p dlD_M_unit_87 (i := 8) rfl) (fun v38_ hv38_ hv38_a hv38_b => ?_)
                have hr39_ := c25_.g (e := a0_) (by (exact ha26_0_hp0_N12_)) (by (exact zo_980 ha0_b ha26_1_hp0_N12_ hp2_N3_))
                rw [← hv38_] at hr39_
                refine zw_aload_n (pc := 57) (n := 0) (x := 81) rfl (zdal_p dlD_M_unit_87 (i := 9) rfl) ?_
                refine zr_getI0 hf_N15_ hW (pc := 58) (by decide) f_M_235 rfl (zdal_p dlD_M_unit_87 (i := 10) rfl) ?_
                refine zw_iconst (pc := 61) (v := Int32.ofInt 1) (by decide) (zdal_p dlD_M_unit_87 (i := 11) rfl) ?_
                refine zr_isub (pc := 62) (zdal_p dlD_M_unit_87 (i := 12) rfl) ?_
                refine zw_iload_n (pc := 63) (n := 3) (x := Int32.ofInt u14_) rfl (zdal_p dlD_M_unit_87 (i := 13) rfl) ?_
                refine zr_isub (pc := 64) (zdal_p dlD_M_unit_87 (i := 14) rfl) ?_
                refine zr_callS hf_N15_.x (pc := 65) [.int (Int32.ofInt v38_), .int (Int32.ofInt (((ze Mz 81 26) - 1) - u14_))] [.int (Int32.ofInt u14_), .ref 96] l_M_213 (c_M_holdsB l N15_ (hf_N15_.w hW) v38_ hv38_a hv38_b (((ze Mz 81 26) - 1) - u14_) (by (exact zo_981 hc_43)) (by (exact zo_982 gb.2.2.2.2.2 i17_))) rfl rfl (by decide) (Nat.le_of_ble_eq_true rfl) (zdal_p dlD_M_unit_87 (i := 15) rfl) ?_
                rintro _ N40_ ⟨v41_, rfl, ⟨hv41_a, hv41_b⟩, hsN40_, hp0_N40_⟩
                obtain rfl := hsN40_.eq.symm
                replace hp0_N40_ : (v41_ = 0 ∨ v41_ = 1) := hp0_N40_
                show zW l m_M_unit (zn Mz + 0, zw Mz + 0) N15_ 68 [some (.ref 81), some (.int (Int32.ofInt a0_)), some (.int (Int32.ofInt a1_)), some (.int (Int32.ofInt u14_))] [.int (Int32.ofInt v41_), .int (Int32.ofInt u14_), .ref 96] _
                refine zr_if_eq (pc := 68) (tgt := 77) ⟨hv41_a, hv41_b⟩ (by decide) (zdal_p dlD_M_unit_87 (i := 16) rfl) (fun hc_68 => ?_) (fun hc_68 => ?_)
                · skip
                  refine zw_lconst (pc := 77) (v := Int64.ofInt 1) (by decide) (zdal_p dlD_M_unit_87 (i := 19) rfl) ?_
                  refine zr_last (pc := 78) (zh_96 (hf_N15_.w hW)).2 (by decide) (by decide) (by (exact i17_)) (by (exact zo_831 gb.2.2.2.2.2 hc_43)) (zdal_p dlD_M_unit_87 (i := 20) rfl) (fun N42_ hN42_ hsN42_ => ?_)
                  have hf_N42_ : zFr [55, 57, 58] [96, 105, 109, 110] Mz N42_ := hf_N15_.tr hsN42_ (by decide) (by decide)
                  have hb0_N42_ : zFr [] [96] N3_ N42_ := hs16_.tr hsN42_ (by decide) (by decide)
                  have e26_N42_ : ze N42_ 81 26 = ze N15_ 81 26 := hsN42_.e (by decide)
                  have e57_N42_ : ze N42_ 81 57 = ze N15_ 81 57 := hsN42_.e (by decide)
                  refine zr_iinc (pc := 79) (i := 3) (a := u14_) (n := 1) (L2 := [some (.ref 81), some (.int (Int32.ofInt a0_)), some (.int (Int32.ofInt a1_)), some (.int (Int32.ofInt (u14_ + 1)))]) rfl (by decide) rfl (zdal_p dlD_M_unit_87 (i := 21) rfl) ?_
                  refine zw_goto (pc := 82) (tgt := 38) (by decide) (zdal_p dlD_M_unit_87 (i := 22) rfl) ?_
                  exact ih_38 (u14_ + 1) (by (exact zo_74 i17_)) (by (exact zo_832 gb.2.2.2.2.2 hc_43)) N42_ hb0_N42_ (show 0 ≤ (u14_ + 1) by first | with_reducible assumption | (exact zo_76 i17_) | assumption) (by (exact zo_147 hc_43 hlt_38))
                · skip
                  refine zr_ldc2 (pc := 71) (n := (-1)) (by decide) k_M_468 (zdal_p dlD_M_unit_87 (i := 17) rfl) ?_
                  refine zw_goto (pc := 74) (tgt := 78) (by decide) (zdal_p dlD_M_unit_87 (i := 18) rfl) ?_
                  refine zr_last (pc := 78) (zh_96 (hf_N15_.w hW)).2 (by decide) (by decide) (by (exact i17_)) (by (exact zo_831 gb.2.2.2.2.2 hc_43)) (zdal_p dlD_M_unit_87 (i := 20) rfl) (fun N51_ hN51_ hsN51_ => ?_)
                  have hf_N51_ : zFr [55, 57, 58] [96, 105, 109, 110] Mz N51_ := hf_N15_.tr hsN51_ (by decide) (by decide)
                  have hb0_N51_ : zFr [] [96] N3_ N51_ := hs16_.tr hsN51_ (by decide) (by decide)
                  have e26_N51_ : ze N51_ 81 26 = ze N15_ 81 26 := hsN51_.e (by decide)
                  have e57_N51_ : ze N51_ 81 57 = ze N15_ 81 57 := hsN51_.e (by decide)
                  refine zr_iinc (pc := 79) (i := 3) (a := u14_) (n := 1) (L2 := [some (.ref 81), some (.int (Int32.ofInt a0_)), some (.int (Int32.ofInt a1_)), some (.int (Int32.ofInt (u14_ + 1)))]) rfl (by decide) rfl (zdal_p dlD_M_unit_87 (i := 21) rfl) ?_
                  refine zw_goto (pc := 82) (tgt := 38) (by decide) (zdal_p dlD_M_unit_87 (i := 22) rfl) ?_
                  exact ih_38 (u14_ + 1) (by (exact zo_74 i17_)) (by (exact zo_832 gb.2.2.2.2.2 hc_43)) N51_ hb0_N51_ (show 0 ≤ (u14_ + 1) by first | with_reducible assumption | (exact zo_76 i17_) | assumption) (by (exact zo_147 hc_43 hlt_38))
          exact lp_38 _ 0 (by decide) (by decide) N3_ zFr.rf (show 0 ≤ (0 : Int) by first | with_reducible assumption | (decide) | assumption) (Nat.lt_succ_self _)
        · skip
          exact absurd hc_29 (by decide)
      · skip
        show zW l m_M_unit (zn Mz + 0, zw Mz + 0) N3_ 29 [some (.ref 81), some (.int (Int32.ofInt a0_)), some (.int (Int32.ofInt a1_)), none] [.int (Int32.ofInt 0)] _
        refine zr_if_ne (pc := 29) (tgt := 36) ⟨(by decide), (by decide)⟩ (by decide) (zdal_p dlD_M_unit_86 (i := 17) rfl) (fun hc_29 => ?_) (fun hc_29 => ?_)
        · skip
          exact absurd hc_29 (by decide)
        · skip
          refine zw_ldcw (pc := 32) (v := Int32.ofInt (-1000000)) (by rw [show Int32.ofInt (-1000000) = ((-1000000) : Int32) by decide]; exact k_M_435) (zdal_p dlD_M_unit_86 (i := 18) rfl) ?_
          exact zr_iret (pc := 35) (ty := .int) rfl rfl ⟨by (decide), by (decide)⟩ hf_N3_ ⟨hp0_N3_, (show 0 ≤ ze N3_ 81 57 by first | with_reducible assumption | assumption | omega), (show ze N3_ 81 57 ≤ 65536 by first | with_reducible assumption | assumption | omega)⟩ (zdal_p dlD_M_unit_86 (i := 19) rfl)
    · skip
      exact absurd hc_5 (by decide)
  · skip
    show zW l m_M_unit (zn Mz + 0, zw Mz + 0) Mz 5 [some (.ref 81), some (.int (Int32.ofInt a0_)), some (.int (Int32.ofInt a1_)), none] [.int (Int32.ofInt 0)] _
    refine zr_if_ne (pc := 5) (tgt := 12) ⟨(by decide), (by decide)⟩ (by decide) (zdal_p dlD_M_unit_86 (i := 3) rfl) (fun hc_5 => ?_) (fun hc_5 => ?_)
    · skip
      exact absurd hc_5 (by decide)
    · skip
      refine zw_ldcw (pc := 8) (v := Int32.ofInt (-1000000)) (by rw [show Int32.ofInt (-1000000) = ((-1000000) : Int32) by decide]; exact k_M_435) (zdal_p dlD_M_unit_86 (i := 4) rfl) ?_
      exact zr_iret (pc := 11) (ty := .int) rfl rfl ⟨by (decide), by (decide)⟩ hf ⟨p1_, (show 0 ≤ ze Mz 81 57 by first | with_reducible assumption | assumption | omega), (show ze Mz 81 57 ≤ 65536 by first | with_reducible assumption | assumption | omega)⟩ (zdal_p dlD_M_unit_86 (i := 5) rfl)
set_option maxHeartbeats 4000000 in
theorem c_M_congruenceOf_99 (l : Launch) (Mz : zMem) (hW : zMt Mz) (a1_ : Int) (ha1_a : -2147483648 ≤ a1_) (ha1_b : a1_ < 2147483648) (T : zGT) (hO : gOK T) (hX : gEx T) (p0_ : zGB T Mz) (p1_ : 0 ≤ a1_) (p2_ : a1_ < ze Mz 81 26) : zC l m_M_congruenceOf 0 0 [.ref 81, .ref 99, .int (Int32.ofInt a1_)] Mz (zpJ [55] [109] Mz (fun v N => 1 ≤ ze N 81 55 ∧ ze N 81 55 ≤ 24)) := by
  refine zC_of (L0 := [some (.ref 81), some (.ref 99), some (.int (Int32.ofInt a1_)), none, none, none]) md_M_congruenceOf (Nat.le_of_ble_eq_true rfl) rfl ?_ zQ0
  have hf : zFr [55] [109] Mz Mz := zFr.rf
  have r_26 := ze_r Mz 81 26
  have r_55 := ze_r Mz 81 55
  have hG := hO.1
  have g24 := hG.2.1
  have g1 := hG.1
  have dv0 : zTab T Mz := p0_.1
  have dv1 : zB 85 144 0 5 Mz := p0_.2.1
  have dv2 : zJX T Mz := p0_.2.2.1
  have dv3 : zFirs T Mz := p0_.2.2.2.1
  have dv4 : zSSm T Mz := p0_.2.2.2.2.1
  have dv5 : zGD Mz := zGB.d hO p0_
  have gb := dv5.1
  have gn := dv0.1
  have gfl := dv3.1
  have gf6 := gF_pos hO
  have gxl := hX.2.1
  refine zw_aload_n (pc := 0) (n := 0) (x := 81) rfl (zdal_p dlD_M_congruenceOf_100 (i := 0) rfl) ?_
  refine zw_iload_n (pc := 1) (n := 2) (x := Int32.ofInt a1_) rfl (zdal_p dlD_M_congruenceOf_100 (i := 1) rfl) ?_
  refine zr_callV (hf.w hW) hf.x (pc := 2) [.int (Int32.ofInt a1_)] [] l_M_456 (c_M_laysMade l Mz (hf.w hW) a1_ ha1_a ha1_b T hO hX p0_ (show 0 ≤ a1_ by first | with_reducible assumption | assumption | omega) (show a1_ < ze Mz 81 26 by first | with_reducible assumption | assumption | omega)) rfl rfl rfl (by decide) (Nat.le_of_ble_eq_true rfl) (zdal_p dlD_M_congruenceOf_100 (i := 2) rfl) ?_
  rintro _ N1_ ⟨rfl, hsN1_, ⟨hp0_N1_, hp1_N1_, hp2_N1_⟩⟩
  have hf_N1_ : zFr [55] [109] Mz N1_ := hf.tr hsN1_ (by decide) (by decide)
  have e26_N1_ : ze N1_ 81 26 = ze Mz 81 26 := hsN1_.e (by decide)
  have r55_N1_ := ze_r N1_ 81 55
  show zW l m_M_congruenceOf (zn Mz + 0, zw Mz + 0) N1_ 5 [some (.ref 81), some (.ref 99), some (.int (Int32.ofInt a1_)), none, none, none] [] _
  have hmr_ := hp0_N1_.2.1
  refine zw_lconst (pc := 5) (v := Int64.ofInt 0) (by decide) (zdal_p dlD_M_congruenceOf_100 (i := 3) rfl) ?_
  refine zw_lstore_n (pc := 6) (i := 3) (L2 := [some (.ref 81), some (.ref 99), some (.int (Int32.ofInt a1_)), some (.long (Int64.ofInt 0)), none, none]) rfl (by decide) rfl (zdal_p dlD_M_congruenceOf_100 (i := 4) rfl) ?_
  refine zw_iconst (pc := 7) (v := Int32.ofInt 0) (by decide) (zdal_p dlD_M_congruenceOf_100 (i := 5) rfl) ?_
  refine zw_istore (pc := 8) (i := 5) (L2 := [some (.ref 81), some (.ref 99), some (.int (Int32.ofInt a1_)), some (.long (Int64.ofInt 0)), none, some (.int (Int32.ofInt 0))]) (by decide) rfl (zdal_p dlD_M_congruenceOf_100 (i := 6) rfl) ?_
  have lp_10 : ∀ (n : Nat) (u10_ : Int) (hu10_a : -9223372036854775808 ≤ u10_) (hu10_b : u10_ < 9223372036854775808) (u11_ : Int) (hu11_a : -2147483648 ≤ u11_) (hu11_b : u11_ < 2147483648) (i12_ : 0 ≤ u11_), (ze N1_ 81 55 - u11_).toNat < n → zW l m_M_congruenceOf (zn Mz + 0, zw Mz + 0) N1_ 10 [some (.ref 81), some (.ref 99), some (.int (Int32.ofInt a1_)), some (.long (Int64.ofInt u10_)), none, some (.int (Int32.ofInt u11_))] [] (zpJ [55] [109] Mz (fun v N => 1 ≤ ze N 81 55 ∧ ze N 81 55 ≤ 24)) := by
    intro n
    induction n with
    | zero =>
      intro u10_ hu10_a hu10_b u11_ hu11_a hu11_b i12_ h0
      exact absurd h0 (Nat.not_lt_zero _)
    | succ n ih_10 =>
      intro u10_ hu10_a hu10_b u11_ hu11_a hu11_b i12_ hlt_10
      refine zw_iload (pc := 10) (i := 5) (x := Int32.ofInt u11_) rfl (zdal_p dlD_M_congruenceOf_100 (i := 7) rfl) ?_
      refine zw_aload_n (pc := 12) (n := 0) (x := 81) rfl (zdal_p dlD_M_congruenceOf_100 (i := 8) rfl) ?_
      refine zr_getI (hf_N1_.w hW) (pc := 13) f_M_453 rfl (zdal_p dlD_M_congruenceOf_100 (i := 9) rfl) ?_
      refine zr_icmp_ge (pc := 16) (tgt := 37) ⟨hu11_a, hu11_b⟩ ⟨(ze_r N1_ 81 55).1, (ze_r N1_ 81 55).2⟩ (by decide) (zdal_p dlD_M_congruenceOf_100 (i := 10) rfl) (fun hc_16 => ?_) (fun hc_16 => ?_)
      · skip
        refine zw_lload_n (pc := 37) (n := 3) (x := Int64.ofInt u10_) rfl (zdal_p dlD_M_congruenceOf_100 (i := 22) rfl) ?_
        exact zr_lret (pc := 38) rfl ⟨by (exact hu10_a), by (exact hu10_b)⟩ hf_N1_ ⟨(show 1 ≤ ze N1_ 81 55 by first | with_reducible assumption | assumption | omega), (show ze N1_ 81 55 ≤ 24 by first | with_reducible assumption | assumption | omega)⟩ (zdal_p dlD_M_congruenceOf_100 (i := 23) rfl)
      · skip
        refine zw_lload_n (pc := 19) (n := 3) (x := Int64.ofInt u10_) rfl (zdal_p dlD_M_congruenceOf_100 (i := 11) rfl) ?_
        refine zw_aload_n (pc := 20) (n := 1) (x := 99) rfl (zdal_p dlD_M_congruenceOf_100 (i := 12) rfl) ?_
        refine zw_aload_n (pc := 21) (n := 0) (x := 81) rfl (zdal_p dlD_M_congruenceOf_100 (i := 13) rfl) ?_
        refine zr_getF (r := 109) (hf_N1_.w hW) (pc := 22) f_M_99 rfl (zh_109 (hf_N1_.w hW)).1 (zdal_p dlD_M_congruenceOf_100 (i := 14) rfl) ?_
        refine zw_iload (pc := 25) (i := 5) (x := Int32.ofInt u11_) rfl (zdal_p dlD_M_congruenceOf_100 (i := 15) rfl) ?_
        refine zr_ialdn (pc := 27) (zh_109 (hf_N1_.w hW)).2 (by decide) (by (exact i12_)) (by (exact zo_1374 hc_16 hp2_N1_)) (zdal_p dlD_M_congruenceOf_100 (i := 16) rfl) (fun v13_ hv13_ hv13_a hv13_b => ?_)
        have hmx_ := hmr_ (u11_).toNat (by (exact zo_695 hc_16 i12_))
        refine zr_laldn (pc := 28) (zh_99 (hf_N1_.w hW)).2 (by decide) (by (exact zo_574 hmx_.1 hv13_ hv13_a)) (by omega) (zdal_p dlD_M_congruenceOf_100 (i := 17) rfl) (fun v14_ hv14_ hv14_a hv14_b => ?_)
        rw [hf_N1_.jg (by decide) (by decide)] at hv14_
        refine zr_ladd (pc := 29) (zdal_p dlD_M_congruenceOf_100 (i := 18) rfl) ?_
        refine zr_nmJ (fun v15_ hv15_ => ?_)
        obtain ⟨hv15_a, hv15_b⟩ := hv15_
        refine zw_lstore_n (pc := 30) (i := 3) (L2 := [some (.ref 81), some (.ref 99), some (.int (Int32.ofInt a1_)), some (.long (Int64.ofInt v15_)), none, some (.int (Int32.ofInt u11_))]) rfl (by decide) rfl (zdal_p dlD_M_congruenceOf_100 (i := 19) rfl) ?_
        refine zr_iinc (pc := 31) (i := 5) (a := u11_) (n := 1) (L2 := [some (.ref 81), some (.ref 99), some (.int (Int32.ofInt a1_)), some (.long (Int64.ofInt v15_)), none, some (.int (Int32.ofInt (u11_ + 1)))]) rfl (by decide) rfl (zdal_p dlD_M_congruenceOf_100 (i := 20) rfl) ?_
        refine zw_goto (pc := 34) (tgt := 10) (by decide) (zdal_p dlD_M_congruenceOf_100 (i := 21) rfl) ?_
        exact ih_10 v15_ hv15_a hv15_b (u11_ + 1) (by (exact zo_74 i12_)) (by (exact zo_1371 hc_16 hp2_N1_)) (show 0 ≤ (u11_ + 1) by first | with_reducible assumption | (exact zo_76 i12_) | assumption) (by (exact zo_147 hc_16 hlt_10))
  exact lp_10 _ 0 (by decide) (by decide) 0 (by decide) (by decide) (show 0 ≤ (0 : Int) by first | with_reducible assumption | (decide) | assumption) (Nat.lt_succ_self _)
set_option maxHeartbeats 4000000 in
theorem c_M_congruence (l : Launch) (Mz : zMem) (hW : zMt Mz) (a0_ : Int) (ha0_a : -2147483648 ≤ a0_) (ha0_b : a0_ < 2147483648) (T : zGT) (hO : gOK T) (hX : gEx T) (p0_ : zGB T Mz) : zC l m_M_congruence 0 0 [.ref 81, .int (Int32.ofInt a0_)] Mz (zpJ [55] [99, 109] Mz (fun v N => True)) := by
  refine zC_of (L0 := [some (.ref 81), some (.int (Int32.ofInt a0_))]) md_M_congruence (Nat.le_of_ble_eq_true rfl) rfl ?_ zQ0
  have hf : zFr [55] [99, 109] Mz Mz := zFr.rf
  have r_26 := ze_r Mz 81 26
  have r_55 := ze_r Mz 81 55
  have hG := hO.1
  have g24 := hG.2.1
  have g1 := hG.1
  have dv0 : zTab T Mz := p0_.1
  have dv1 : zB 85 144 0 5 Mz := p0_.2.1
  have dv2 : zJX T Mz := p0_.2.2.1
  have dv3 : zFirs T Mz := p0_.2.2.2.1
  have dv4 : zSSm T Mz := p0_.2.2.2.2.1
  have dv5 : zGD Mz := zGB.d hO p0_
  have gb := dv5.1
  have gn := dv0.1
  have gfl := dv3.1
  have gf6 := gF_pos hO
  have gxl := hX.2.1
  refine zw_aload_n (pc := 0) (n := 0) (x := 81) rfl (zdal_p dlD_M_congruence_98 (i := 0) rfl) ?_
  refine zw_iload_n (pc := 1) (n := 1) (x := Int32.ofInt a0_) rfl (zdal_p dlD_M_congruence_98 (i := 1) rfl) ?_
  refine zr_callV (hf.w hW) hf.x (pc := 2) [.int (Int32.ofInt a0_)] [] l_M_414 (c_M_isSort l Mz (hf.w hW) a0_ ha0_a ha0_b T hO p0_) rfl rfl rfl (by decide) (Nat.le_of_ble_eq_true rfl) (zdal_p dlD_M_congruence_98 (i := 2) rfl) ?_
  rintro _ N1_ ⟨v2_, rfl, ⟨hv2_a, hv2_b⟩, hsN1_, hp0_N1_⟩
  obtain rfl := hsN1_.eq.symm
  replace hp0_N1_ : ((v2_ = 1 ∧ 0 ≤ a0_ ∧ a0_ < ze Mz 81 26) ∨ (v2_ = 0)) := hp0_N1_
  rcases hp0_N1_ with ⟨rfl, ha2_0_hp0_N1_, ha2_1_hp0_N1_⟩ | rfl
  · skip
    show zW l m_M_congruence (zn Mz + 0, zw Mz + 0) Mz 5 [some (.ref 81), some (.int (Int32.ofInt a0_))] [.int (Int32.ofInt 1)] _
    refine zr_if_ne (pc := 5) (tgt := 12) ⟨(by decide), (by decide)⟩ (by decide) (zdal_p dlD_M_congruence_98 (i := 3) rfl) (fun hc_5 => ?_) (fun hc_5 => ?_)
    · skip
      refine zw_aload_n (pc := 12) (n := 0) (x := 81) rfl (zdal_p dlD_M_congruence_98 (i := 6) rfl) ?_
      refine zr_callV (hf.w hW) hf.x (pc := 13) [] [] l_M_472 (c_M_laysMarks l Mz (hf.w hW) T hO p0_) rfl rfl rfl (by decide) (Nat.le_of_ble_eq_true rfl) (zdal_p dlD_M_congruence_98 (i := 7) rfl) ?_
      rintro _ N3_ ⟨rfl, hsN3_, -⟩
      have hf_N3_ : zFr [55] [99, 109] Mz N3_ := hf.tr hsN3_ (by decide) (by decide)
      have e26_N3_ : ze N3_ 81 26 = ze Mz 81 26 := hsN3_.e (by decide)
      have e55_N3_ : ze N3_ 81 55 = ze Mz 81 55 := hsN3_.e (by decide)
      have c5_ : zGB T N3_ := zGB.fr hsN3_ p0_ (by decide) (by decide)
      show zW l m_M_congruence (zn Mz + 0, zw Mz + 0) N3_ 16 [some (.ref 81), some (.int (Int32.ofInt a0_))] [] _
      refine zw_aload_n (pc := 16) (n := 0) (x := 81) rfl (zdal_p dlD_M_congruence_98 (i := 8) rfl) ?_
      refine zw_aload_n (pc := 17) (n := 0) (x := 81) rfl (zdal_p dlD_M_congruence_98 (i := 9) rfl) ?_
      refine zr_getF (r := 99) (hf_N3_.w hW) (pc := 18) f_M_69 rfl (zh_99 (hf_N3_.w hW)).1 (zdal_p dlD_M_congruence_98 (i := 10) rfl) ?_
      refine zw_iload_n (pc := 21) (n := 1) (x := Int32.ofInt a0_) rfl (zdal_p dlD_M_congruence_98 (i := 11) rfl) ?_
      refine zr_callV (hf_N3_.w hW) hf_N3_.x (pc := 22) [.ref 99, .int (Int32.ofInt a0_)] [] l_M_475 (c_M_congruenceOf_99 l N3_ (hf_N3_.w hW) a0_ ha0_a ha0_b T hO hX c5_ (show 0 ≤ a0_ by first | with_reducible assumption | assumption | omega) (show a0_ < ze N3_ 81 26 by first | with_reducible assumption | (exact zo_535 e26_N3_ ha2_1_hp0_N1_) | assumption)) rfl rfl rfl (by decide) (Nat.le_of_ble_eq_true rfl) (zdal_p dlD_M_congruence_98 (i := 12) rfl) ?_
      rintro _ N12_ ⟨v13_, rfl, ⟨hv13_a, hv13_b⟩, hsN12_, ⟨hp0_N12_, hp1_N12_⟩⟩
      have hf_N12_ : zFr [55] [99, 109] Mz N12_ := hf_N3_.tr hsN12_ (by decide) (by decide)
      have e26_N12_ : ze N12_ 81 26 = ze N3_ 81 26 := hsN12_.e (by decide)
      have r55_N12_ := ze_r N12_ 81 55
      show zW l m_M_congruence (zn Mz + 0, zw Mz + 0) N12_ 25 [some (.ref 81), some (.int (Int32.ofInt a0_))] [.long (Int64.ofInt v13_)] _
      refine zw_aload_n (pc := 25) (n := 0) (x := 81) rfl (zdal_p dlD_M_congruence_98 (i := 13) rfl) ?_
      refine zr_getI (hf_N12_.w hW) (pc := 26) f_M_453 rfl (zdal_p dlD_M_congruence_98 (i := 14) rfl) ?_
      refine zr_i2l (pc := 29) ⟨(ze_r N12_ 81 55).1, (ze_r N12_ 81 55).2⟩ (zdal_p dlD_M_congruence_98 (i := 15) rfl) ?_
      refine zr_ldiv (pc := 30) ⟨by (exact zo_2176 hp0_N12_), by (exact zo_1007 hp1_N12_)⟩ (by (exact zo_999 hp0_N12_)) (zdal_p dlD_M_congruence_98 (i := 16) rfl) ?_
      have hr21_ := zlquo_r v13_ (ze N12_ 81 55)
      exact zr_lret (pc := 31) rfl ⟨by (exact zo_79 hr21_.1), by (exact zo_80 hr21_.2)⟩ hf_N12_ trivial (zdal_p dlD_M_congruence_98 (i := 17) rfl)
    · skip
      exact absurd hc_5 (by decide)
  · skip
    show zW l m_M_congruence (zn Mz + 0, zw Mz + 0) Mz 5 [some (.ref 81), some (.int (Int32.ofInt a0_))] [.int (Int32.ofInt 0)] _
    refine zr_if_ne (pc := 5) (tgt := 12) ⟨(by decide), (by decide)⟩ (by decide) (zdal_p dlD_M_congruence_98 (i := 3) rfl) (fun hc_5 => ?_) (fun hc_5 => ?_)
    · skip
      exact absurd hc_5 (by decide)
    · skip
      refine zr_ldc2 (pc := 8) (n := (-9223372036854775808)) (by decide) k_M_470 (zdal_p dlD_M_congruence_98 (i := 4) rfl) ?_
      exact zr_lret (pc := 11) rfl ⟨by (decide), by (decide)⟩ hf trivial (zdal_p dlD_M_congruence_98 (i := 5) rfl)
set_option maxHeartbeats 4000000 in
theorem c_M_numbers_99_98 (l : Launch) (Mz : zMem) (hW : zMt Mz) (a2_ : Int) (ha2_a : -2147483648 ≤ a2_) (ha2_b : a2_ < 2147483648) (p0_ : zGD Mz) (p1_ : 0 ≤ a2_) (p2_ : a2_ ≤ 0) : zC l m_M_numbers 0 0 [.ref 81, .ref 99, .ref 98, .int (Int32.ofInt a2_)] Mz (zpV [] [98] Mz (fun N => True)) := by
  refine zC_of (L0 := [some (.ref 81), some (.ref 99), some (.ref 98), some (.int (Int32.ofInt a2_)), none, none, none, none]) md_M_numbers (Nat.le_of_ble_eq_true rfl) rfl ?_ zQ0
  have hf : zFr [] [98] Mz Mz := zFr.rf
  have r_26 := ze_r Mz 81 26
  have gb := p0_.1
  refine zw_aload_n (pc := 0) (n := 0) (x := 81) rfl (zdal_p dlC_M_numbers_126 (i := 0) rfl) ?_
  refine zr_getI0 hf hW (pc := 1) (by decide) f_M_235 rfl (zdal_p dlC_M_numbers_126 (i := 1) rfl) ?_
  refine zw_iconst (pc := 4) (v := Int32.ofInt 1) (by decide) (zdal_p dlC_M_numbers_126 (i := 2) rfl) ?_
  refine zr_isub (pc := 5) (zdal_p dlC_M_numbers_126 (i := 3) rfl) ?_
  refine zw_istore (pc := 6) (i := 4) (L2 := [some (.ref 81), some (.ref 99), some (.ref 98), some (.int (Int32.ofInt a2_)), some (.int (Int32.ofInt ((ze Mz 81 26) - 1))), none, none, none]) (by decide) rfl (zdal_p dlC_M_numbers_126 (i := 4) rfl) ?_
  have lp_8 : ∀ (n : Nat) (u1_ : Int) (hu1_a : -2147483648 ≤ u1_) (hu1_b : u1_ < 2147483648) (N2_ : zMem) (hs3_ : zFr [] [98] Mz N2_) (i4_ : u1_ ≤ (ze Mz 81 26) - 1) (i5_ : u1_ ≥ -1), (u1_ + 1).toNat < n → zW l m_M_numbers (zn Mz + 0, zw Mz + 0) N2_ 8 [some (.ref 81), some (.ref 99), some (.ref 98), some (.int (Int32.ofInt a2_)), some (.int (Int32.ofInt u1_)), none, none, none] [] (zpV [] [98] Mz (fun N => True)) := by
    intro n
    induction n with
    | zero =>
      intro u1_ hu1_a hu1_b N2_ hs3_ i4_ i5_ h0
      exact absurd h0 (Nat.not_lt_zero _)
    | succ n ih_8 =>
      intro u1_ hu1_a hu1_b N2_ hs3_ i4_ i5_ hlt_8
      have hf_N2_ : zFr [] [98] Mz N2_ := hf.tr hs3_ (by decide) (by decide)
      have e26_N2_ : ze N2_ 81 26 = ze Mz 81 26 := hs3_.e (by decide)
      refine zw_iload (pc := 8) (i := 4) (x := Int32.ofInt u1_) rfl (zdal_p dlC_M_numbers_126 (i := 5) rfl) ?_
      refine zr_if_lt (pc := 10) (tgt := 95) ⟨hu1_a, hu1_b⟩ (by decide) (zdal_p dlC_M_numbers_126 (i := 6) rfl) (fun hc_10 => ?_) (fun hc_10 => ?_)
      · skip
        exact zr_vret (pc := 95) rfl hf_N2_ trivial (zdal_p dlC_M_numbers_128 (i := 9) rfl)
      · skip
        refine zw_aload_n (pc := 13) (n := 1) (x := 99) rfl (zdal_p dlC_M_numbers_126 (i := 7) rfl) ?_
        refine zw_iload (pc := 14) (i := 4) (x := Int32.ofInt u1_) rfl (zdal_p dlC_M_numbers_126 (i := 8) rfl) ?_
        refine zr_laldn (pc := 16) (zh_99 (hf_N2_.w hW)).2 (by decide) (by (exact hc_10)) (by (exact zo_887 gb.2.2.2.2.2 hu1_b i4_)) (zdal_p dlC_M_numbers_126 (i := 9) rfl) (fun v7_ hv7_ hv7_a hv7_b => ?_)
        rw [hf_N2_.jg (by decide) (by decide)] at hv7_
        refine zw_lstore (pc := 17) (i := 5) (L2 := [some (.ref 81), some (.ref 99), some (.ref 98), some (.int (Int32.ofInt a2_)), some (.int (Int32.ofInt u1_)), some (.long (Int64.ofInt v7_)), none, none]) (by decide) rfl (zdal_p dlC_M_numbers_126 (i := 10) rfl) ?_
        refine zw_iload (pc := 19) (i := 4) (x := Int32.ofInt u1_) rfl (zdal_p dlC_M_numbers_126 (i := 11) rfl) ?_
        refine zw_iconst (pc := 21) (v := Int32.ofInt 1) (by decide) (zdal_p dlC_M_numbers_126 (i := 12) rfl) ?_
        refine zr_iadd (pc := 22) (zdal_p dlC_M_numbers_126 (i := 13) rfl) ?_
        refine zw_istore (pc := 23) (i := 7) (L2 := [some (.ref 81), some (.ref 99), some (.ref 98), some (.int (Int32.ofInt a2_)), some (.int (Int32.ofInt u1_)), some (.long (Int64.ofInt v7_)), none, some (.int (Int32.ofInt (u1_ + 1)))]) (by decide) rfl (zdal_p dlC_M_numbers_126 (i := 14) rfl) ?_
        have lp_25 : ∀ (n : Nat) (u8_ : Int) (hu8_a : -9223372036854775808 ≤ u8_) (hu8_b : u8_ < 9223372036854775808) (u9_ : Int) (hu9_a : -2147483648 ≤ u9_) (hu9_b : u9_ < 2147483648) (i10_ : u1_ + 1 ≤ u9_), (ze Mz 81 26 - u9_).toNat < n → zW l m_M_numbers (zn Mz + 0, zw Mz + 0) N2_ 25 [some (.ref 81), some (.ref 99), some (.ref 98), some (.int (Int32.ofInt a2_)), some (.int (Int32.ofInt u1_)), some (.long (Int64.ofInt u8_)), none, some (.int (Int32.ofInt u9_))] [] (zpV [] [98] Mz (fun N => True)) := by
          intro n
          induction n with
          | zero =>
            intro u8_ hu8_a hu8_b u9_ hu9_a hu9_b i10_ h0
            exact absurd h0 (Nat.not_lt_zero _)
          | succ n ih_25 =>
            intro u8_ hu8_a hu8_b u9_ hu9_a hu9_b i10_ hlt_25
            refine zw_iload (pc := 25) (i := 7) (x := Int32.ofInt u9_) rfl (zdal_p dlC_M_numbers_126 (i := 15) rfl) ?_
            refine zw_aload_n (pc := 27) (n := 0) (x := 81) rfl (zdal_p dlC_M_numbers_126 (i := 16) rfl) ?_
            refine zr_getI0 hf_N2_ hW (pc := 28) (by decide) f_M_235 rfl (zdal_p dlC_M_numbers_126 (i := 17) rfl) ?_
            refine zr_icmp_ge (pc := 31) (tgt := 66) ⟨hu9_a, hu9_b⟩ ⟨(ze_r Mz 81 26).1, (ze_r Mz 81 26).2⟩ (by decide) (zdal_p dlC_M_numbers_126 (i := 18) rfl) (fun hc_31 => ?_) (fun hc_31 => ?_)
            · skip
              refine zw_aload_n (pc := 66) (n := 2) (x := 98) rfl (zdal_p dlC_M_numbers_127 (i := 15) rfl) ?_
              refine zw_iload_n (pc := 67) (n := 3) (x := Int32.ofInt a2_) rfl (zdal_p dlC_M_numbers_127 (i := 16) rfl) ?_
              refine zw_iload (pc := 68) (i := 4) (x := Int32.ofInt u1_) rfl (zdal_p dlC_M_numbers_127 (i := 17) rfl) ?_
              refine zr_iadd (pc := 70) (zdal_p dlC_M_numbers_127 (i := 18) rfl) ?_
              refine zw_lload (pc := 71) (i := 5) (x := Int64.ofInt u8_) rfl (zdal_p dlC_M_numbers_127 (i := 19) rfl) ?_
              refine zw_aload_n (pc := 73) (n := 0) (x := 81) rfl (zdal_p dlC_M_numbers_127 (i := 20) rfl) ?_
              refine zr_getF (r := 93) (hf_N2_.w hW) (pc := 74) f_M_50 rfl (zh_93 (hf_N2_.w hW)).1 (zdal_p dlC_M_numbers_127 (i := 21) rfl) ?_
              refine zw_bipush (pc := 77) (v := Int32.ofInt 64) (by decide) (zdal_p dlC_M_numbers_127 (i := 22) rfl) ?_
              refine zw_iload (pc := 79) (i := 4) (x := Int32.ofInt u1_) rfl (zdal_p dlC_M_numbers_127 (i := 23) rfl) ?_
              refine zr_imul (pc := 81) (zdal_p dlC_M_numbers_128 (i := 0) rfl) ?_
              refine zw_iload (pc := 82) (i := 4) (x := Int32.ofInt u1_) rfl (zdal_p dlC_M_numbers_128 (i := 1) rfl) ?_
              refine zr_iadd (pc := 84) (zdal_p dlC_M_numbers_128 (i := 2) rfl) ?_
              refine zr_ialdn (pc := 85) (zh_93 (hf_N2_.w hW)).2 (by decide) (by (exact zo_888 hc_10)) (by (exact zo_889 gb.2.2.2.2.2 hu1_b i4_)) (zdal_p dlC_M_numbers_128 (i := 3) rfl) (fun v11_ hv11_ hv11_a hv11_b => ?_)
              rw [hf_N2_.ie (by decide) (by decide)] at hv11_
              refine zr_i2l (pc := 86) ⟨hv11_a, hv11_b⟩ (zdal_p dlC_M_numbers_128 (i := 4) rfl) ?_
              refine zr_ldiv (pc := 87) ⟨by (exact zo_282 hv11_a), by (exact zo_283 hv11_b)⟩ (by rw [hv11_]; exact p0_.2 _ (by (exact hc_10)) (by (exact zo_890 i4_))) (zdal_p dlC_M_numbers_128 (i := 5) rfl) ?_
              have hr12_ := zlquo_r u8_ v11_
              refine zr_last (pc := 88) (zh_98 (hf_N2_.w hW)).2 (by decide) (by decide) (by (exact zo_833 hc_10 p1_)) (by (exact zo_891 gb.2.2.2.2.2 hu1_b i4_ p2_)) (zdal_p dlC_M_numbers_128 (i := 6) rfl) (fun N13_ hN13_ hsN13_ => ?_)
              have hf_N13_ : zFr [] [98] Mz N13_ := hf_N2_.tr hsN13_ (by decide) (by decide)
              have hb0_N13_ : zFr [] [98] Mz N13_ := hs3_.tr hsN13_ (by decide) (by decide)
              have e26_N13_ : ze N13_ 81 26 = ze N2_ 81 26 := hsN13_.e (by decide)
              refine zr_iinc (pc := 89) (i := 4) (a := u1_) (n := -1) (L2 := [some (.ref 81), some (.ref 99), some (.ref 98), some (.int (Int32.ofInt a2_)), some (.int (Int32.ofInt (u1_ + (-1)))), some (.long (Int64.ofInt u8_)), none, some (.int (Int32.ofInt u9_))]) rfl (by decide) rfl (zdal_p dlC_M_numbers_128 (i := 7) rfl) ?_
              refine zw_goto (pc := 92) (tgt := 8) (by decide) (zdal_p dlC_M_numbers_128 (i := 8) rfl) ?_
              refine zW_le [some (.ref 81), some (.ref 99), some (.ref 98), some (.int (Int32.ofInt a2_)), some (.int (Int32.ofInt (u1_ + (-1)))), none, none, none] (⟨rfl, rfl, rfl, rfl, rfl, trivial⟩) ?_
              exact ih_8 (u1_ + (-1)) (by (exact zo_892 hc_10)) (by (exact zo_893 hu1_b)) N13_ hb0_N13_ (show (u1_ + (-1)) ≤ (ze Mz 81 26) - 1 by first | with_reducible assumption | (exact zo_894 i4_) | assumption) (show (u1_ + (-1)) ≥ -1 by first | with_reducible assumption | (exact zo_895 hc_10) | assumption) (by (exact zo_896 hc_10 hlt_8 hu1_b))
            · skip
              refine zw_lload (pc := 34) (i := 5) (x := Int64.ofInt u8_) rfl (zdal_p dlC_M_numbers_126 (i := 19) rfl) ?_
              refine zw_aload_n (pc := 36) (n := 2) (x := 98) rfl (zdal_p dlC_M_numbers_126 (i := 20) rfl) ?_
              refine zw_iload_n (pc := 37) (n := 3) (x := Int32.ofInt a2_) rfl (zdal_p dlC_M_numbers_126 (i := 21) rfl) ?_
              refine zw_iload (pc := 38) (i := 7) (x := Int32.ofInt u9_) rfl (zdal_p dlC_M_numbers_126 (i := 22) rfl) ?_
              refine zr_iadd (pc := 40) (zdal_p dlC_M_numbers_126 (i := 23) rfl) ?_
              refine zr_laldn (pc := 41) (zh_98 (hf_N2_.w hW)).2 (by decide) (by (exact zo_897 hc_10 hu9_a i10_ p1_)) (by (exact zo_834 gb.2.2.2.2.2 hc_31 p2_)) (zdal_p dlC_M_numbers_127 (i := 0) rfl) (fun v15_ hv15_ hv15_a hv15_b => ?_)
              refine zw_aload_n (pc := 42) (n := 0) (x := 81) rfl (zdal_p dlC_M_numbers_127 (i := 1) rfl) ?_
              refine zr_getF (r := 93) (hf_N2_.w hW) (pc := 43) f_M_50 rfl (zh_93 (hf_N2_.w hW)).1 (zdal_p dlC_M_numbers_127 (i := 2) rfl) ?_
              refine zw_bipush (pc := 46) (v := Int32.ofInt 64) (by decide) (zdal_p dlC_M_numbers_127 (i := 3) rfl) ?_
              refine zw_iload (pc := 48) (i := 7) (x := Int32.ofInt u9_) rfl (zdal_p dlC_M_numbers_127 (i := 4) rfl) ?_
              refine zr_imul (pc := 50) (zdal_p dlC_M_numbers_127 (i := 5) rfl) ?_
              refine zw_iload (pc := 51) (i := 4) (x := Int32.ofInt u1_) rfl (zdal_p dlC_M_numbers_127 (i := 6) rfl) ?_
              refine zr_iadd (pc := 53) (zdal_p dlC_M_numbers_127 (i := 7) rfl) ?_
              refine zr_ialdn (pc := 54) (zh_93 (hf_N2_.w hW)).2 (by decide) (by (exact zo_898 hc_10 i10_)) (by (exact zo_899 gb.2.2.2.2.2 hc_31 i4_)) (zdal_p dlC_M_numbers_127 (i := 8) rfl) (fun v16_ hv16_ hv16_a hv16_b => ?_)
              rw [hf_N2_.ie (by decide) (by decide)] at hv16_
              refine zr_i2l (pc := 55) ⟨hv16_a, hv16_b⟩ (zdal_p dlC_M_numbers_127 (i := 9) rfl) ?_
              refine zr_lmul (pc := 56) (zdal_p dlC_M_numbers_127 (i := 10) rfl) ?_
              refine zr_lsub (pc := 57) (zdal_p dlC_M_numbers_127 (i := 11) rfl) ?_
              refine zr_nmJ (fun v17_ hv17_ => ?_)
              obtain ⟨hv17_a, hv17_b⟩ := hv17_
              refine zw_lstore (pc := 58) (i := 5) (L2 := [some (.ref 81), some (.ref 99), some (.ref 98), some (.int (Int32.ofInt a2_)), some (.int (Int32.ofInt u1_)), some (.long (Int64.ofInt v17_)), none, some (.int (Int32.ofInt u9_))]) (by decide) rfl (zdal_p dlC_M_numbers_127 (i := 12) rfl) ?_
              refine zr_iinc (pc := 60) (i := 7) (a := u9_) (n := 1) (L2 := [some (.ref 81), some (.ref 99), some (.ref 98), some (.int (Int32.ofInt a2_)), some (.int (Int32.ofInt u1_)), some (.long (Int64.ofInt v17_)), none, some (.int (Int32.ofInt (u9_ + 1)))]) rfl (by decide) rfl (zdal_p dlC_M_numbers_127 (i := 13) rfl) ?_
              refine zw_goto (pc := 63) (tgt := 25) (by decide) (zdal_p dlC_M_numbers_127 (i := 14) rfl) ?_
              exact ih_25 v17_ hv17_a hv17_b (u9_ + 1) (by (exact zo_679 hu9_a)) (by (exact zo_832 gb.2.2.2.2.2 hc_31)) (show u1_ + 1 ≤ (u9_ + 1) by first | with_reducible assumption | (exact zo_900 i10_) | assumption) (by (exact zo_147 hc_31 hlt_25))
        exact lp_25 _ v7_ hv7_a hv7_b (u1_ + 1) (by (exact zo_74 hc_10)) (by (exact zo_901 gb.2.2.2.2.2 hu1_b i4_)) (show u1_ + 1 ≤ (u1_ + 1) by first | with_reducible assumption | (exact zo_902) | assumption) (Nat.lt_succ_self _)
  exact lp_8 _ ((ze Mz 81 26) - 1) (by (exact zo_63 gb.2.2.2.2.1)) (by (exact zo_903 gb.2.2.2.2.2)) Mz zFr.rf (show ((ze Mz 81 26) - 1) ≤ (ze Mz 81 26) - 1 by first | with_reducible assumption | (exact zo_904) | assumption) (show ((ze Mz 81 26) - 1) ≥ -1 by first | with_reducible assumption | (exact zo_905 gb.2.2.2.2.1) | assumption) (Nat.lt_succ_self _)
set_option maxHeartbeats 4000000 in
theorem c_M_marks (l : Launch) (Mz : zMem) (hW : zMt Mz) (T : zGT) (hO : gOK T) (hX : gEx T) (p0_ : zGB T Mz) (p1_ : 0 ≤ ze Mz 81 1) (p2_ : ze Mz 81 1 ≤ 700) (p3_ : 0 ≤ ze Mz 81 60) (p4_ : ze Mz 81 60 ≤ 12) : zC l m_M_marks 0 0 [.ref 81] Mz (zpI [1, 55, 60, 64, 65] [98, 99, 109, 111] Mz (fun v N => ze N 81 1 = 0 ∧ 0 ≤ ze N 81 60 ∧ ze N 81 60 ≤ 12)) := by
  refine zC_of (L0 := [some (.ref 81), none, none, none, none]) md_M_marks (Nat.le_of_ble_eq_true rfl) rfl ?_ zQ0
  have hf : zFr [1, 55, 60, 64, 65] [98, 99, 109, 111] Mz Mz := zFr.rf
  have r_1 := ze_r Mz 81 1
  have r_26 := ze_r Mz 81 26
  have r_55 := ze_r Mz 81 55
  have r_60 := ze_r Mz 81 60
  have hG := hO.1
  have g24 := hG.2.1
  have g1 := hG.1
  have dv0 : zTab T Mz := p0_.1
  have dv1 : zB 85 144 0 5 Mz := p0_.2.1
  have dv2 : zJX T Mz := p0_.2.2.1
  have dv3 : zFirs T Mz := p0_.2.2.2.1
  have dv4 : zSSm T Mz := p0_.2.2.2.2.1
  have dv5 : zGD Mz := zGB.d hO p0_
  have gb := dv5.1
  have gn := dv0.1
  have gfl := dv3.1
  have gf6 := gF_pos hO
  have gxl := hX.2.1
  refine zw_aload_n (pc := 0) (n := 0) (x := 81) rfl (zdal_p dlD_M_marks_124 (i := 0) rfl) ?_
  refine zr_getI (hf.w hW) (pc := 1) f_M_124 rfl (zdal_p dlD_M_marks_124 (i := 1) rfl) ?_
  refine zw_istore_n (pc := 4) (i := 1) (L2 := [some (.ref 81), some (.int (Int32.ofInt (ze Mz 81 1))), none, none, none]) rfl (by decide) rfl (zdal_p dlD_M_marks_124 (i := 2) rfl) ?_
  refine zw_aload_n (pc := 5) (n := 0) (x := 81) rfl (zdal_p dlD_M_marks_124 (i := 3) rfl) ?_
  refine zw_iconst (pc := 6) (v := Int32.ofInt 0) (by decide) (zdal_p dlD_M_marks_124 (i := 4) rfl) ?_
  refine zr_putI (hf.w hW) (pc := 7) f_M_124 rfl rfl ⟨by (decide), by (decide)⟩ rfl rfl (zdal_p dlD_M_marks_124 (i := 5) rfl) (fun N1_ hsN1_ hvN1_ => ?_)
  have hf_N1_ : zFr [1, 55, 60, 64, 65] [98, 99, 109, 111] Mz N1_ := hf.tr hsN1_ (by decide) (by decide)
  have r1_N1_ := ze_r N1_ 81 1
  have e26_N1_ : ze N1_ 81 26 = ze Mz 81 26 := hsN1_.e (by decide)
  have e55_N1_ : ze N1_ 81 55 = ze Mz 81 55 := hsN1_.e (by decide)
  have e60_N1_ : ze N1_ 81 60 = ze Mz 81 60 := hsN1_.e (by decide)
  have c2_ : zGB T N1_ := zGB.fr hsN1_ p0_ (by decide) (by decide)
  have c8_ : zGD N1_ := zGD.fr hsN1_ dv5 (by decide) (by decide)
  refine zw_aload_n (pc := 10) (n := 0) (x := 81) rfl (zdal_p dlD_M_marks_124 (i := 6) rfl) ?_
  refine zw_iload_n (pc := 11) (n := 1) (x := Int32.ofInt (ze Mz 81 1)) rfl (zdal_p dlD_M_marks_124 (i := 7) rfl) ?_
  refine zr_callV (hf_N1_.w hW) hf_N1_.x (pc := 12) [.int (Int32.ofInt (ze Mz 81 1))] [] l_M_520 (c_M_readsMarks l N1_ (hf_N1_.w hW) (ze Mz 81 1) (ze_r Mz 81 1).1 (ze_r Mz 81 1).2 T hO c2_ (show 0 ≤ (ze Mz 81 1) by first | with_reducible assumption | assumption | omega) (show (ze Mz 81 1) ≤ 700 by first | with_reducible assumption | assumption | omega)) rfl rfl rfl (by decide) (Nat.le_of_ble_eq_true rfl) (zdal_p dlD_M_marks_124 (i := 8) rfl) ?_
  rintro _ N9_ ⟨v10_, rfl, ⟨hv10_a, hv10_b⟩, hsN9_, hp0_N9_⟩
  replace hp0_N9_ : (v10_ = 0 ∨ v10_ = 1) := hp0_N9_
  have hf_N9_ : zFr [1, 55, 60, 64, 65] [98, 99, 109, 111] Mz N9_ := hf_N1_.tr hsN9_ (by decide) (by decide)
  have e1_N9_ : ze N9_ 81 1 = ze N1_ 81 1 := hsN9_.e (by decide)
  have e26_N9_ : ze N9_ 81 26 = ze N1_ 81 26 := hsN9_.e (by decide)
  have e55_N9_ : ze N9_ 81 55 = ze N1_ 81 55 := hsN9_.e (by decide)
  have e60_N9_ : ze N9_ 81 60 = ze N1_ 81 60 := hsN9_.e (by decide)
  have c11_ : zGB T N9_ := zGB.fr hsN9_ c2_ (by decide) (by decide)
  have c17_ : zGD N9_ := zGD.fr hsN9_ c8_ (by decide) (by decide)
  show zW l m_M_marks (zn Mz + 0, zw Mz + 0) N9_ 15 [some (.ref 81), some (.int (Int32.ofInt (ze Mz 81 1))), none, none, none] [.int (Int32.ofInt v10_)] _
  refine zr_if_ne (pc := 15) (tgt := 21) ⟨hv10_a, hv10_b⟩ (by decide) (zdal_p dlD_M_marks_124 (i := 9) rfl) (fun hc_15 => ?_) (fun hc_15 => ?_)
  · skip
    refine zw_iconst (pc := 21) (v := Int32.ofInt 0) (by decide) (zdal_p dlD_M_marks_124 (i := 12) rfl) ?_
    refine zw_istore_n (pc := 22) (i := 2) (L2 := [some (.ref 81), some (.int (Int32.ofInt (ze Mz 81 1))), some (.int (Int32.ofInt 0)), none, none]) rfl (by decide) rfl (zdal_p dlD_M_marks_124 (i := 13) rfl) ?_
    have lp_23 : ∀ (n : Nat) (u18_ : Int) (hu18_a : -2147483648 ≤ u18_) (hu18_b : u18_ < 2147483648) (N19_ : zMem) (hs20_ : zFr [55] [109] N9_ N19_) (i21_ : 0 ≤ u18_), (ze Mz 81 26 - u18_).toNat < n → zW l m_M_marks (zn Mz + 0, zw Mz + 0) N19_ 23 [some (.ref 81), some (.int (Int32.ofInt (ze Mz 81 1))), some (.int (Int32.ofInt u18_)), none, none] [] (zpI [1, 55, 60, 64, 65] [98, 99, 109, 111] Mz (fun v N => ze N 81 1 = 0 ∧ 0 ≤ ze N 81 60 ∧ ze N 81 60 ≤ 12)) := by
      intro n
      induction n with
      | zero =>
        intro u18_ hu18_a hu18_b N19_ hs20_ i21_ h0
        exact absurd h0 (Nat.not_lt_zero _)
      | succ n ih_23 =>
        intro u18_ hu18_a hu18_b N19_ hs20_ i21_ hlt_23
        have hf_N19_ : zFr [1, 55, 60, 64, 65] [98, 99, 109, 111] Mz N19_ := hf_N9_.tr hs20_ (by decide) (by decide)
        have e1_N19_ : ze N19_ 81 1 = ze N9_ 81 1 := hs20_.e (by decide)
        have e26_N19_ : ze N19_ 81 26 = ze N9_ 81 26 := hs20_.e (by decide)
        have r55_N19_ := ze_r N19_ 81 55
        have e60_N19_ : ze N19_ 81 60 = ze N9_ 81 60 := hs20_.e (by decide)
        have c22_ : zGB T N19_ := zGB.fr hs20_ c11_ (by decide) (by decide)
        have c28_ : zGD N19_ := zGD.fr hs20_ c17_ (by decide) (by decide)
        refine zw_iload_n (pc := 23) (n := 2) (x := Int32.ofInt u18_) rfl (zdal_p dlD_M_marks_124 (i := 14) rfl) ?_
        refine zw_aload_n (pc := 24) (n := 0) (x := 81) rfl (zdal_p dlD_M_marks_124 (i := 15) rfl) ?_
        refine zr_getI0 hf_N19_ hW (pc := 25) (by decide) f_M_235 rfl (zdal_p dlD_M_marks_124 (i := 16) rfl) ?_
        refine zr_icmp_ge (pc := 28) (tgt := 63) ⟨hu18_a, hu18_b⟩ ⟨(ze_r Mz 81 26).1, (ze_r Mz 81 26).2⟩ (by decide) (zdal_p dlD_M_marks_124 (i := 17) rfl) (fun hc_28 => ?_) (fun hc_28 => ?_)
        · skip
          refine zw_aload_n (pc := 63) (n := 0) (x := 81) rfl (zdal_p dlD_M_marks_125 (i := 14) rfl) ?_
          refine zr_callV (hf_N19_.w hW) hf_N19_.x (pc := 64) [] [] l_M_481 (c_M_act l N19_ (hf_N19_.w hW) (show 0 ≤ ze N19_ 81 60 by first | with_reducible assumption | assumption | omega) (show ze N19_ 81 60 ≤ 12 by first | with_reducible assumption | assumption | omega)) rfl rfl rfl (by decide) (Nat.le_of_ble_eq_true rfl) (zdal_p dlD_M_marks_125 (i := 15) rfl) ?_
          rintro _ N29_ ⟨rfl, hsN29_, ⟨hp0_N29_, hp1_N29_⟩⟩
          have hf_N29_ : zFr [1, 55, 60, 64, 65] [98, 99, 109, 111] Mz N29_ := hf_N19_.tr hsN29_ (by decide) (by decide)
          have e1_N29_ : ze N29_ 81 1 = ze N19_ 81 1 := hsN29_.e (by decide)
          have e26_N29_ : ze N29_ 81 26 = ze N19_ 81 26 := hsN29_.e (by decide)
          have e55_N29_ : ze N29_ 81 55 = ze N19_ 81 55 := hsN29_.e (by decide)
          have r60_N29_ := ze_r N29_ 81 60
          have c37_ : zGD N29_ := zGD.fr hsN29_ c28_ (by decide) (by decide)
          show zW l m_M_marks (zn Mz + 0, zw Mz + 0) N29_ 67 [some (.ref 81), some (.int (Int32.ofInt (ze Mz 81 1))), some (.int (Int32.ofInt u18_)), none, none] [] _
          refine zw_aload_n (pc := 67) (n := 0) (x := 81) rfl (zdal_p dlD_M_marks_125 (i := 16) rfl) ?_
          refine zw_aload_n (pc := 68) (n := 0) (x := 81) rfl (zdal_p dlD_M_marks_125 (i := 17) rfl) ?_
          refine zr_getF (r := 99) (hf_N29_.w hW) (pc := 69) f_M_69 rfl (zh_99 (hf_N29_.w hW)).1 (zdal_p dlD_M_marks_125 (i := 18) rfl) ?_
          refine zw_aload_n (pc := 72) (n := 0) (x := 81) rfl (zdal_p dlD_M_marks_125 (i := 19) rfl) ?_
          refine zr_getF (r := 98) (hf_N29_.w hW) (pc := 73) f_M_66 rfl (zh_98 (hf_N29_.w hW)).1 (zdal_p dlD_M_marks_125 (i := 20) rfl) ?_
          refine zw_iconst (pc := 76) (v := Int32.ofInt 0) (by decide) (zdal_p dlD_M_marks_125 (i := 21) rfl) ?_
          refine zr_callV (hf_N29_.w hW) hf_N29_.x (pc := 77) [.ref 99, .ref 98, .int (Int32.ofInt 0)] [] l_M_289 (c_M_numbers_99_98 l N29_ (hf_N29_.w hW) 0 (by decide) (by decide) c37_ (show 0 ≤ 0 by first | with_reducible assumption | (decide) | assumption) (show 0 ≤ 0 by first | with_reducible assumption | (decide) | assumption)) rfl rfl rfl (by decide) (Nat.le_of_ble_eq_true rfl) (zdal_p dlD_M_marks_125 (i := 22) rfl) ?_
          rintro _ N38_ ⟨rfl, hsN38_, -⟩
          have hf_N38_ : zFr [1, 55, 60, 64, 65] [98, 99, 109, 111] Mz N38_ := hf_N29_.tr hsN38_ (by decide) (by decide)
          have e1_N38_ : ze N38_ 81 1 = ze N29_ 81 1 := hsN38_.e (by decide)
          have e26_N38_ : ze N38_ 81 26 = ze N29_ 81 26 := hsN38_.e (by decide)
          have e55_N38_ : ze N38_ 81 55 = ze N29_ 81 55 := hsN38_.e (by decide)
          have e60_N38_ : ze N38_ 81 60 = ze N29_ 81 60 := hsN38_.e (by decide)
          show zW l m_M_marks (zn Mz + 0, zw Mz + 0) N38_ 80 [some (.ref 81), some (.int (Int32.ofInt (ze Mz 81 1))), some (.int (Int32.ofInt u18_)), none, none] [] _
          refine zw_iconst (pc := 80) (v := Int32.ofInt 0) (by decide) (zdal_p dlD_M_marks_125 (i := 23) rfl) ?_
          exact zr_iret (pc := 81) (ty := .int) rfl rfl ⟨by (decide), by (decide)⟩ hf_N38_ ⟨(show ze N38_ 81 1 = 0 by first | with_reducible assumption | (exact zo_597 e1_N19_ e1_N29_ e1_N38_ e1_N9_ hvN1_) | assumption), (show 0 ≤ ze N38_ 81 60 by first | with_reducible assumption | (exact zo_568 e60_N38_ hp0_N29_) | assumption), (show ze N38_ 81 60 ≤ 12 by first | with_reducible assumption | (exact zo_829 e60_N38_ hp1_N29_) | assumption)⟩ (zdal_p dlD_M_marks_126 (i := 0) rfl)
        · skip
          refine zw_aload_n (pc := 31) (n := 0) (x := 81) rfl (zdal_p dlD_M_marks_124 (i := 18) rfl) ?_
          refine zw_aload_n (pc := 32) (n := 0) (x := 81) rfl (zdal_p dlD_M_marks_124 (i := 19) rfl) ?_
          refine zr_getF (r := 99) (hf_N19_.w hW) (pc := 33) f_M_69 rfl (zh_99 (hf_N19_.w hW)).1 (zdal_p dlD_M_marks_124 (i := 20) rfl) ?_
          refine zw_iload_n (pc := 36) (n := 2) (x := Int32.ofInt u18_) rfl (zdal_p dlD_M_marks_124 (i := 21) rfl) ?_
          refine zr_callV (hf_N19_.w hW) hf_N19_.x (pc := 37) [.ref 99, .int (Int32.ofInt u18_)] [] l_M_475 (c_M_congruenceOf_99 l N19_ (hf_N19_.w hW) u18_ hu18_a hu18_b T hO hX c22_ (show 0 ≤ u18_ by first | with_reducible assumption | assumption | omega) (show u18_ < ze N19_ 81 26 by first | with_reducible assumption | assumption | omega)) rfl rfl rfl (by decide) (Nat.le_of_ble_eq_true rfl) (zdal_p dlD_M_marks_124 (i := 22) rfl) ?_
          rintro _ N47_ ⟨v48_, rfl, ⟨hv48_a, hv48_b⟩, hsN47_, ⟨hp0_N47_, hp1_N47_⟩⟩
          have hf_N47_ : zFr [1, 55, 60, 64, 65] [98, 99, 109, 111] Mz N47_ := hf_N19_.tr hsN47_ (by decide) (by decide)
          have hb0_N47_ : zFr [55] [109] N9_ N47_ := hs20_.tr hsN47_ (by decide) (by decide)
          have e1_N47_ : ze N47_ 81 1 = ze N19_ 81 1 := hsN47_.e (by decide)
          have e26_N47_ : ze N47_ 81 26 = ze N19_ 81 26 := hsN47_.e (by decide)
          have r55_N47_ := ze_r N47_ 81 55
          have e60_N47_ : ze N47_ 81 60 = ze N19_ 81 60 := hsN47_.e (by decide)
          show zW l m_M_marks (zn Mz + 0, zw Mz + 0) N47_ 40 [some (.ref 81), some (.int (Int32.ofInt (ze Mz 81 1))), some (.int (Int32.ofInt u18_)), none, none] [.long (Int64.ofInt v48_)] _
          refine zw_lstore_n (pc := 40) (i := 3) (L2 := [some (.ref 81), some (.int (Int32.ofInt (ze Mz 81 1))), some (.int (Int32.ofInt u18_)), some (.long (Int64.ofInt v48_)), none]) rfl (by decide) rfl (zdal_p dlD_M_marks_124 (i := 23) rfl) ?_
          refine zw_lload_n (pc := 41) (n := 3) (x := Int64.ofInt v48_) rfl (zdal_p dlD_M_marks_125 (i := 0) rfl) ?_
          refine zw_aload_n (pc := 42) (n := 0) (x := 81) rfl (zdal_p dlD_M_marks_125 (i := 1) rfl) ?_
          refine zr_getI (hf_N47_.w hW) (pc := 43) f_M_453 rfl (zdal_p dlD_M_marks_125 (i := 2) rfl) ?_
          refine zr_i2l (pc := 46) ⟨(ze_r N47_ 81 55).1, (ze_r N47_ 81 55).2⟩ (zdal_p dlD_M_marks_125 (i := 3) rfl) ?_
          refine zr_lrem (pc := 47) ⟨by (exact zo_2176 hp0_N47_), by (exact zo_1007 hp1_N47_)⟩ (by (exact zo_999 hp0_N47_)) (zdal_p dlD_M_marks_125 (i := 4) rfl) ?_
          have hr56_ := zlrem_r v48_ (ze N47_ 81 55)
          refine zw_lconst (pc := 48) (v := Int64.ofInt 0) (by decide) (zdal_p dlD_M_marks_125 (i := 5) rfl) ?_
          refine zr_lcmp (pc := 49) ⟨(by (exact zo_79 hr56_.1)), (by (exact zo_80 hr56_.2))⟩ ⟨(by decide), (by decide)⟩ (zdal_p dlD_M_marks_125 (i := 6) rfl) ?_
          have hr57_ := zcmp_s (zlrem v48_ (ze N47_ 81 55)) 0
          refine zr_if_eq (pc := 50) (tgt := 57) ⟨(by (exact zo_71 hr57_)), (by (exact zo_72 hr57_))⟩ (by decide) (zdal_p dlD_M_marks_125 (i := 7) rfl) (fun hc_50 => ?_) (fun hc_50 => ?_)
          · skip
            refine zr_iinc (pc := 57) (i := 2) (a := u18_) (n := 1) (L2 := [some (.ref 81), some (.int (Int32.ofInt (ze Mz 81 1))), some (.int (Int32.ofInt (u18_ + 1))), some (.long (Int64.ofInt v48_)), none]) rfl (by decide) rfl (zdal_p dlD_M_marks_125 (i := 12) rfl) ?_
            refine zw_goto (pc := 60) (tgt := 23) (by decide) (zdal_p dlD_M_marks_125 (i := 13) rfl) ?_
            refine zW_le [some (.ref 81), some (.int (Int32.ofInt (ze Mz 81 1))), some (.int (Int32.ofInt (u18_ + 1))), none, none] (⟨rfl, rfl, rfl, trivial⟩) ?_
            exact ih_23 (u18_ + 1) (by (exact zo_74 i21_)) (by (exact zo_832 gb.2.2.2.2.2 hc_28)) N47_ hb0_N47_ (show 0 ≤ (u18_ + 1) by first | with_reducible assumption | (exact zo_76 i21_) | assumption) (by (exact zo_147 hc_28 hlt_23))
          · skip
            refine zw_iload_n (pc := 53) (n := 2) (x := Int32.ofInt u18_) rfl (zdal_p dlD_M_marks_125 (i := 8) rfl) ?_
            refine zw_iconst (pc := 54) (v := Int32.ofInt 1) (by decide) (zdal_p dlD_M_marks_125 (i := 9) rfl) ?_
            refine zr_iadd (pc := 55) (zdal_p dlD_M_marks_125 (i := 10) rfl) ?_
            exact zr_iret (pc := 56) (ty := .int) rfl rfl ⟨by (exact zo_74 i21_), by (exact zo_832 gb.2.2.2.2.2 hc_28)⟩ hf_N47_ ⟨(show ze N47_ 81 1 = 0 by first | with_reducible assumption | assumption | omega), (show 0 ≤ ze N47_ 81 60 by first | with_reducible assumption | assumption | omega), (show ze N47_ 81 60 ≤ 12 by first | with_reducible assumption | assumption | omega)⟩ (zdal_p dlD_M_marks_125 (i := 11) rfl)
    exact lp_23 _ 0 (by decide) (by decide) N9_ zFr.rf (show 0 ≤ (0 : Int) by first | with_reducible assumption | (decide) | assumption) (Nat.lt_succ_self _)
  · skip
    refine zw_bipush (pc := 18) (v := Int32.ofInt (-2)) (by decide) (zdal_p dlD_M_marks_124 (i := 10) rfl) ?_
    exact zr_iret (pc := 20) (ty := .int) rfl rfl ⟨by (decide), by (decide)⟩ hf_N9_ ⟨(show ze N9_ 81 1 = 0 by first | with_reducible assumption | (exact zo_610 e1_N9_ hvN1_) | assumption), (show 0 ≤ ze N9_ 81 60 by first | with_reducible assumption | (exact zo_871 e60_N1_ e60_N9_ p3_) | assumption), (show ze N9_ 81 60 ≤ 12 by first | with_reducible assumption | assumption | omega)⟩ (zdal_p dlD_M_marks_124 (i := 11) rfl)
def zRow (M : zMem) (m p met : Int) : Prop := (0 ≤ met ∧ met < 64) ∧ ∀ q : Nat, (q : Int) < p → (0 ≤ ze M 83 (6 * m.toNat + q) ∧ ze M 83 (6 * m.toNat + q) < ze M 81 12) ∧ zbt met (ze M 83 (6 * m.toNat + q)) ∧ ∀ r : Nat, r < q → ze M 83 (6 * m.toNat + r) ≠ ze M 83 (6 * m.toNat + q)
theorem zRow.fr {S C : List Nat} {M N : zMem} {m p met : Int} (hf : zFr S C M N) (h : zRow M m p met) (hs : 12 ∉ S) (hc : 83 ∉ C) : zRow N m p met := by
  unfold zRow
  simp only [hf.e hs, hf.ie (by decide) hc]
  exact h
def zKp (M N : zMem) (n : Int) : Prop := ∀ j : Nat, (j : Int) < n → ze N 83 j = ze M 83 j
theorem zKp_0 {M N : zMem} {S C : List Nat} {n : Int} (hf : zFr S C M N) (hc : 83 ∉ C) : zKp M N n := fun j _ => hf.ie (by decide) hc j
theorem zKp.fr {S C : List Nat} {M N P : zMem} {n : Int} (hf : zFr S C N P) (h : zKp M N n) (hc : 83 ∉ C) : zKp M P n := fun j hj => by rw [hf.ie (by decide) hc]; exact h j hj
theorem zKp_s {M N P : zMem} {n i : Int} {v : Int32} (h : zKp M N n) (hi : n ≤ i) (i0 : 0 ≤ i) (hP : P = zsI N 83 i.toNat v) : zKp M P n := fun j hj => by
  rw [zs_oth hP (by omega)]
  exact h j hj
theorem zrc_c {M N : zMem} {q r m : Nat} {P : Int} (hP : P ≤ 6) (h : ∀ p : Nat, p < 6 → ze N r (6 * m + p) = ze M q (6 * m + p)) : zrc N r m P = zrc M q m P := by
  rw [zrc_m, zrc_m]
  refine gmkc_c (fun p hp => ?_)
  unfold zrd
  rw [h p hp]
theorem zPm_0 {M : zMem} (h : ze M 81 13 = 0) : zPm M := fun g hg => by
  obtain ⟨k, hk, -⟩ := zMvs_m.mp hg
  omega
theorem zFin_0 {M : zMem} (h : ze M 81 13 = 0) : zFin M := ⟨[gid], by decide, List.mem_singleton.mpr rfl, fun c _ g hg => by
  obtain ⟨k, hk, -⟩ := zMvs_m.mp hg
  omega⟩
def zMvF (M : zMem) : List Nat := (List.range (ze M 81 17).toNat).map (fun k => zrc M 84 k (ze M 81 16))
def zIF (M : zMem) : Prop := ((1 ≤ ze M 81 16 ∧ ze M 81 16 ≤ 6) ∧ 0 ≤ ze M 81 17 ∧ ze M 81 17 ≤ 4) ∧ zB 84 24 0 5 M ∧ (∀ g ∈ zMvF M, gpm g) ∧ ∃ C : List Nat, C.length ≤ 24 ∧ gid ∈ C ∧ ∀ c ∈ C, ∀ g ∈ zMvF M, gco c g ∈ C
theorem zMvF_f {S C : List Nat} {M N : zMem} (h : zFr S C M N) (hs : 16 ∉ S ∧ 17 ∉ S) (hc : 84 ∉ C) : zMvF N = zMvF M := by
  unfold zMvF
  rw [h.e hs.1, h.e hs.2]
  apply List.map_congr_left
  intro k _
  exact zrc_f (fun j => h.ie (by decide) hc j) k _
theorem zIF.fr {S C : List Nat} {M N : zMem} (h : zFr S C M N) (hp : zIF M) (hs : 16 ∉ S ∧ 17 ∉ S) (hc : 84 ∉ C) : zIF N := by
  unfold zIF
  rw [zMvF_f h hs hc, h.e hs.1, h.e hs.2]
  exact ⟨hp.1, zB.fr h hp.2.1 (by decide) hc, hp.2.2⟩
def zCp (q r : Nat) (M0 M : zMem) (n : Int) : Prop := ∀ j : Nat, (j : Int) < n → ze M r j = ze M0 q j
theorem zCp_0 {q r : Nat} {M0 M : zMem} : zCp q r M0 M 0 := fun j h => absurd h (by omega)
theorem zCp_s {q r : Nat} {M0 M N : zMem} {i v : Int} (i0 : 0 ≤ i) (h : zCp q r M0 M i) (hv : v = ze M0 q i.toNat) (hN : N = zsI M r i.toNat (Int32.ofInt v)) : zCp q r M0 N (i + 1) := by
  intro j hj
  by_cases e : (j : Int) = i
  · rw [show j = i.toNat by omega, ← hv]
    exact zs_get hN (by rw [hv]; exact z32r _)
  · rw [zs_oth hN (by omega)]
    exact h j (by omega)
theorem zIF_i {M0 N : zMem} {i : Int} (hi : 24 ≤ i) (hq : zCp 83 84 M0 N i) (hk : ∀ j, ze N 83 j = ze M0 83 j) (h16 : ze N 81 16 = ze N 81 12) (h17 : ze N 81 17 = ze N 81 13) (p0 : 1 ≤ ze N 81 12) (p1 : ze N 81 12 ≤ 6) (p2 : 0 ≤ ze N 81 13) (p3 : ze N 81 13 ≤ 4) (hP : zPm N) (hF : zFin N) (hB : zB 83 24 0 5 N) : zIF N := by
  have h : ∀ j : Nat, (j : Int) < i → ze N 84 j = ze N 83 j := fun j hj => by rw [hq j hj, hk]
  have e : zMvF N = zMvs N := by
    unfold zMvF zMvs
    rw [h16, h17]
    apply List.map_congr_left
    intro k hk
    rw [List.mem_range] at hk
    exact zrc_c p1 (fun p hp => h _ (by omega))
  unfold zIF
  rw [e, h16, h17]
  refine ⟨⟨⟨p0, p1⟩, p2, p3⟩, fun k hk => ?_, hP, hF⟩
  rw [h k (by omega)]
  exact hB k hk
theorem zIF_b {M0 N : zMem} {i : Int} (hi : 24 ≤ i) (hq : zCp 84 83 M0 N i) (hk : ∀ j, ze N 84 j = ze M0 84 j) (hI : zIF N) (h16 : ze N 81 12 = ze N 81 16) (h17 : ze N 81 13 = ze N 81 17) : zPm N ∧ zFin N ∧ zB 83 24 0 5 N := by
  have h : ∀ j : Nat, (j : Int) < i → ze N 83 j = ze N 84 j := fun j hj => by rw [hq j hj, hk]
  obtain ⟨h1, h2, h3, h4⟩ := hI
  have e : zMvs N = zMvF N := by
    unfold zMvF zMvs
    rw [h16, h17]
    apply List.map_congr_left
    intro k hk
    rw [List.mem_range] at hk
    exact zrc_c h1.1.2 (fun p hp => h _ (by omega))
  unfold zPm zFin
  rw [e]
  exact ⟨h3, h4, fun k hk => by rw [h k (by omega)]; exact h2 k hk⟩
theorem zk_gen (a : Int) : ∃ v : Int, -2147483648 ≤ v ∧ v < 2147483648 ∧ Int32.ofInt a = Int32.ofInt v ∧ (v = a ∨ a < -2147483648 ∨ 2147483648 ≤ a) := by
  refine ⟨(Int32.ofInt a).toInt, (z32r _).1, (z32r _).2, (Int32.ofInt_toInt _).symm, ?_⟩
  by_cases h : -2147483648 ≤ a ∧ a < 2147483648
  · exact Or.inl (z32 ⟨h.1, h.2⟩)
  · omega
theorem zFc.now {d : Nat} {FA : List (Nat × Nat)} {CA : List Nat} {FR : List (Nat × Nat)} {CR : List Nat} {M N : zMem} (h : zFc d FA CA FR CR M N) (h2 : zf M 0 2 = some (d + 0)) : zf N 0 2 = some (d + 0) := by
  rw [h.2.2.1]
  exact h2
section ZKX
variable {l : Launch} {k : zMeth} {X : Nat × Nat} {M : zMem} {pc : Nat} {L : List (Option Value)} {S : List Value} {Q : Option Value → zMem → Prop} {a b : Int} {d : Nat}
theorem zk_atGJ (hX : zn M ≤ X.1 ∧ zw M ≤ X.2) {ix q r n : Nat} {x : Int} (hl' : zMLV (zo k) ix m_LongRow_at) (hk : (zsh M q).1 = 8 + 3) (hl : zf M q 0 = some r) (hr : zsh M r = (2, n)) (hn : n ≤ 65536) (hx : zn32 x) (hR : zF m_LongRow_at + 1 ≤ zF k ∧ 8 + (zl m_LongRow_at + 11) + zLo m_LongRow_at ≤ zLo k) (hc8 : (S.map fun v => v.category).sum ≤ 8) (hd : decode (zb k) pc = .ok (.invokevirtual ix, 3))
    (kk : ∀ v : Int, v = zatJ M r n x → -9223372036854775808 ≤ v → v < 9223372036854775808 → zW l k X M (pc + 3) L (.long (Int64.ofInt v) :: S) Q) : zW l k X M pc L (.int (Int32.ofInt x) :: .ref q :: S) Q := by
  refine zk_callV hX [.int (Int32.ofInt x)] S hl' (k_LongRow_at l M q r n hk hl hr hn x hx) rfl rfl hk (by decide) hR hc8 hd ?_
  rintro _ N1_ ⟨rfl, e1_⟩
  rw [e1_]
  have e : -9223372036854775808 ≤ zatJ M r n x ∧ zatJ M r n x < 9223372036854775808 := by
    unfold zatJ
    split
    · exact zg_r M r _
    · omega
  exact kk _ rfl e.1 e.2
theorem zk_stG (hX : zn M ≤ X.1 ∧ zw M ≤ X.2) {ix q o n : Nat} {x v : Int} (ho : o < 38) (hl' : zMLV (zo k) ix m_IntRow_put) (hk : (zsh M q).1 = 2 + 3) (hl : zf M q 0 = some (d + o)) (hr : zsh M (d + o) = (1, n)) (hn : n ≤ 65536) (hx : zn32 x) (hR : zF m_IntRow_put + 1 ≤ zF k ∧ 8 + (zl m_IntRow_put + 11) + zLo m_IntRow_put ≤ zLo k) (hc8 : (S.map fun v => v.category).sum ≤ 8) (hd : decode (zb k) pc = .ok (.invokevirtual ix, 3))
    (kk : ∀ N : zMem, zFc d [] [] [] [o] M N → zW l k X N (pc + 3) L S Q) : zW l k X M pc L (.int (Int32.ofInt v) :: .int (Int32.ofInt x) :: .ref q :: S) Q := by
  refine zk_callV hX [.int (Int32.ofInt x), .int (Int32.ofInt v)] S hl' (k_IntRow_put l M q (d + o) n hk hl hr hn x hx v) rfl rfl hk (by decide) hR hc8 hd ?_
  rintro _ _ ⟨rfl, rfl⟩
  refine kk _ ?_
  unfold zpt
  split
  · exact zFc.sR ho
  · exact zFc.rf
theorem zk_stGJ (hX : zn M ≤ X.1 ∧ zw M ≤ X.2) {ix q o n : Nat} {x v : Int} (ho : o < 38) (hl' : zMLV (zo k) ix m_LongRow_put) (hk : (zsh M q).1 = 8 + 3) (hl : zf M q 0 = some (d + o)) (hr : zsh M (d + o) = (2, n)) (hn : n ≤ 65536) (hx : zn32 x) (hR : zF m_LongRow_put + 1 ≤ zF k ∧ 8 + (zl m_LongRow_put + 11) + zLo m_LongRow_put ≤ zLo k) (hc8 : (S.map fun v => v.category).sum ≤ 8) (hd : decode (zb k) pc = .ok (.invokevirtual ix, 3))
    (kk : ∀ N : zMem, zFc d [] [] [] [o] M N → zW l k X N (pc + 3) L S Q) : zW l k X M pc L (.long (Int64.ofInt v) :: .int (Int32.ofInt x) :: .ref q :: S) Q := by
  refine zk_callV hX [.int (Int32.ofInt x), .long (Int64.ofInt v)] S hl' (k_LongRow_put l M q (d + o) n hk hl hr hn x hx v) rfl rfl hk (by decide) hR hc8 hd ?_
  rintro _ _ ⟨rfl, rfl⟩
  refine kk _ ?_
  unfold zptJ
  split
  · exact zFc.sRJ ho
  · exact zFc.rf
theorem zk_mmin {ix : Nat} (hlk : Cond.methodLink (zR (zo k)) ix Lib.Math.min.name ∈ z_tbl) (hR : 1 ≤ zF k ∧ 30 ≤ zLo k) (hc8 : (S.map fun v => v.category).sum ≤ 8) (hd : decode (zb k) pc = .ok (.invokestatic ix, 3)) (ha : zn32 a) (hb : zn32 b) (kk : ∀ v : Int, ((b < a ∧ v = b) ∨ (a ≤ b ∧ v = a)) → zW l k X M (pc + 3) L (.int (Int32.ofInt v) :: S) Q) : zW l k X M pc L (.int (Int32.ofInt b) :: .int (Int32.ofInt a) :: S) Q := by
  refine zw_mmin hlk hR hc8 hd (fun v hv => ?_)
  rw [hv]
  have e : Int32.ofInt b < Int32.ofInt a ↔ b < a := by rw [Int32.lt_iff_toInt_lt, z32 hb, z32 ha]
  by_cases h : b < a
  · rw [if_pos (e.mpr h)]
    exact kk b (Or.inl ⟨h, rfl⟩)
  · rw [if_neg (fun q => h (e.mp q))]
    exact kk a (Or.inr ⟨by omega, rfl⟩)
theorem zk_mabs {ix : Nat} (hlk : Cond.methodLink (zR (zo k)) ix Lib.Math.abs.name ∈ z_tbl) (hR : 1 ≤ zF k ∧ 30 ≤ zLo k) (hc8 : (S.map fun v => v.category).sum ≤ 8) (hd : decode (zb k) pc = .ok (.invokestatic ix, 3)) (ha : zn32 a) (kk : ∀ v : Int, zn32 v → (-2147483648 < a → (0 ≤ a ∧ v = a) ∨ (a < 0 ∧ v = -a)) → zW l k X M (pc + 3) L (.int (Int32.ofInt v) :: S) Q) : zW l k X M pc L (.int (Int32.ofInt a) :: S) Q := by
  refine zw_mabs hlk hR hc8 hd (fun v hv => ?_)
  have e : (0 : Int32) ≤ Int32.ofInt a ↔ 0 ≤ a := by
    rw [Int32.le_iff_toInt_le, z32 ha]
    exact Iff.rfl
  have e2 : v = Int32.ofInt (if 0 ≤ a then a else 0 - a) := by
    rw [hv]
    by_cases h : 0 ≤ a
    · rw [if_pos (e.mpr h), if_pos h]
    · rw [if_neg (fun q => h (e.mp q)), if_neg h, Int32.ofInt_sub]
      rfl
  have hk := kk v.toInt (z32r _) (fun h => by
    rw [e2]
    by_cases g : 0 ≤ a
    · rw [if_pos g, z32 ha]
      exact Or.inl ⟨g, rfl⟩
    · have h1 := ha.2
      rw [if_neg g, z32 ⟨by omega, by omega⟩]
      exact Or.inr ⟨by omega, by omega⟩)
  rwa [Int32.ofInt_toInt] at hk
end ZKX
theorem zand63 (x : Int) : 0 ≤ zand x 63 ∧ zand x 63 ≤ 63 := by
  have h1 : ((Int32.ofInt x &&& Int32.ofInt 63).toBitVec).toNat ≤ 63 := by
    rw [Int32.toBitVec_and, BitVec.toNat_and]
    exact Nat.le_trans Nat.and_le_right (by decide)
  have h2 : zand x 63 = (((Int32.ofInt x &&& Int32.ofInt 63).toBitVec).toNat : Int) := by
    show ((Int32.ofInt x &&& Int32.ofInt 63).toBitVec).toInt = _
    rw [BitVec.toInt_eq_toNat_of_lt (by omega)]
  omega
