def zMr (T : zGT) (M : zMem) : Prop := ∀ k : Nat, (k : Int) < ze M 81 55 → 0 ≤ ze M 109 k ∧ ze M 109 k < ((gF T).length : Int)
def zMq (T : zGT) (j : Int) (M : zMem) : Prop := (ze M 81 55 = ((gmm T ((gF T).getD j.toNat 0) : Nat) : Int) ∧ 1 ≤ ze M 81 55 ∧ ze M 81 55 ≤ 24) ∧ zMr T M ∧ ze M 109 0 = j ∧ ∀ k : Nat, 1 ≤ k → (k : Int) < ze M 81 55 → ze M 109 k ≠ j
theorem zMq.fr {S C : List Nat} {M N : zMem} {T : zGT} {j : Int} (hf : zFr S C M N) (h : zMq T j M) (hs : 55 ∉ S) (hc : 109 ∉ C) : zMq T j N := by
  unfold zMq zMr
  simp only [hf.e hs, hf.ie (by decide) hc]
  exact h
def zMl (T : zGT) (j : Int) (M : zMem) (x : Int) : Prop := (ze M 81 55 = ((gup (gmmF T ((gF T).getD j.toNat 0)) 0 x.toNat : Nat) : Int) ∧ 0 ≤ ze M 81 55 ∧ ze M 81 55 ≤ x) ∧ zMr T M ∧ (x = 0 ∨ (1 ≤ ze M 81 55 ∧ ze M 109 0 = j)) ∧ ∀ k : Nat, 1 ≤ k → (k : Int) < ze M 81 55 → ze M 109 k ≠ j
theorem zMl_0 {T : zGT} {j : Int} {M : zMem} (h : ze M 81 55 = 0) : zMl T j M 0 := by
  refine ⟨⟨h, by omega, by omega⟩, fun k hk => by omega, Or.inl rfl, fun k h1 h2 => by omega⟩
theorem zMl_e {T : zGT} {j x : Int} {M : zMem} (hG : gGd T) (h : zMl T j M x) (hx : x = (gN T : Int)) : zMq T j M := by
  obtain ⟨⟨a1, a2, a3⟩, a4, a5, a6⟩ := h
  have g1 := hG.1
  have g24 := hG.2.1
  have a7 : 1 ≤ ze M 81 55 ∧ ze M 109 0 = j := by rcases a5 with a5 | a5; omega; exact a5
  refine ⟨⟨?_, a7.1, by omega⟩, a4, a7.2, a6⟩
  rw [a1, hx, Int.toNat_natCast]
  rfl
theorem zMl_n {T : zGT} (hO : gOK T) (hX : gEx T) {j x F : Int} {M : zMem} (h : zMl T j M x) (x0 : 0 ≤ x) (j0 : 0 ≤ j) (j1 : j < ((gF T).length : Int)) (hF : F = (((gF T).getD j.toNat 0 : Nat) : Int)) (hn : gtr T F.toNat x.toNat ≠ F.toNat ∨ gcos T F.toNat x.toNat ≠ x.toNat) : zMl T j M (x + 1) := by
  obtain ⟨⟨a1, a2, a3⟩, a4, a5, a6⟩ := h
  have hm := gF_m (T := T) (i := j.toNat) (by omega)
  have hFn : F.toNat = (gF T).getD j.toNat 0 := by omega
  rw [hFn] at hn
  have hx : x ≠ 0 := by
    rintro rfl
    rcases hn with hn | hn
    · exact hn (hX.2.2.1 _ hm)
    · refine hn (Nat.le_zero.mp ?_)
      have := gcos_b hO.1 (S := (gF T).getD j.toNat 0) (x := 0) (by have := hO.1.1; omega) (gN T) (Nat.le_refl _)
      rw [gcos_e]
      exact this
  refine ⟨⟨?_, a2, by omega⟩, a4, Or.inr (a5.resolve_left hx), a6⟩
  rw [gup_s _ _ x0, a1]
  generalize gup _ 0 x.toNat = r
  unfold gmmF
  rw [if_neg (by rintro ⟨h1, h2⟩; rcases hn with hn | hn; exact hn h1; exact hn h2)]
theorem zMl_s {T : zGT} (hO : gOK T) (hX : gEx T) {j x F R v : Int} {M N P : zMem} (hFi : zFirs T M) (h : zMl T j M x) (x0 : 0 ≤ x) (x1 : x < (gN T : Int)) (j0 : 0 ≤ j) (j1 : j < ((gF T).length : Int)) (hF : F = (((gF T).getD j.toNat 0 : Nat) : Int)) (ht : gtr T F.toNat x.toNat = F.toNat) (hc : gcos T F.toNat x.toNat = x.toNat) (hR : gLC T (F.toNat ||| 2 ^ x.toNat) R.toNat) (v0 : 0 ≤ v) (v1 : v < ((gF T).length : Int)) (hv : ze M 91 v.toNat = ((glt T R.toNat : Nat) : Int)) (hN : N = zsI M 109 (ze M 81 55).toNat (Int32.ofInt v)) (hP : zFr [55] [] N P) (he : ze P 81 55 = ze N 81 55 + 1) : zMl T j P (x + 1) := by
  obtain ⟨⟨a1, a2, a3⟩, a4, a5, a6⟩ := h
  have g24 := hO.1.2.1
  have hlen := hX.2.1
  have hm := gF_m (T := T) (i := j.toNat) (by omega)
  have hFn : F.toNat = (gF T).getD j.toNat 0 := by omega
  rw [hFn] at ht hc hR
  have hf1 : zFr [] [109] M N := by rw [hN]; exact zFr.sA (by decide)
  have e0 : ze N 81 55 = ze M 81 55 := hf1.e (by decide)
  have r1 : ze P 109 (ze M 81 55).toNat = v := by
    rw [hP.ie (by decide) (by decide)]
    exact zs_get hN ⟨by omega, by omega⟩
  have r2 : ∀ k : Nat, k ≠ (ze M 81 55).toNat → ze P 109 k = ze M 109 k := fun k hk => by
    rw [hP.ie (by decide) (by decide)]
    exact zs_oth hN hk
  have e1 : ze M 91 v.toNat = (((gF T).getD v.toNat 0 : Nat) : Int) := hFi.2 v.toNat (by omega)
  -- which sort it is
  have hj : v = j ↔ glt T R.toNat = (gF T).getD j.toNat 0 := by
    constructor
    · rintro rfl; omega
    · intro e
      rw [e] at hv
      rw [e1] at hv
      have e2 : (gF T).getD v.toNat 0 = (gF T).getD j.toNat 0 := by omega
      rcases Nat.lt_trichotomy v.toNat j.toNat with g | g | g
      · have := hO.2.2.1.2.2 v.toNat j.toNat g (by omega); rw [e2] at this; omega
      · omega
      · have := hO.2.2.1.2.2 j.toNat v.toNat g (by omega); rw [e2] at this; omega
  have hz : x = 0 → v = j := by
    rintro rfl
    obtain ⟨hFS, hFl⟩ := hO.2.2.1.2.1 _ hm
    obtain ⟨s1, s2, s3⟩ := (hO.2.1.2.2 _ hFS).1
    have : R.toNat = (gF T).getD j.toNat 0 := hR.uq ⟨s2, by
      refine gSb.or (gSb.rf _) (gSb.p2 s3.1), s3, fun C hC hs => fun k hk => hs k (gSb.ol _ _ k hk)⟩
    rw [hj, this, hFl]
  have hnz : x ≠ 0 → v ≠ j := fun hx e => hX.2.2.2.2.1 _ hm x.toNat (by omega) (by omega) hc _ hR (hj.mp e)
  refine ⟨⟨?_, by omega, by omega⟩, fun k hk => ?_, Or.inr ⟨by omega, ?_⟩, fun k h1 h2 => ?_⟩
  · rw [he, e0, gup_s _ _ x0, a1]
    generalize gup _ 0 x.toNat = r
    unfold gmmF
    rw [if_pos ⟨ht, hc⟩]
    omega
  · by_cases e : k = (ze M 81 55).toNat
    · rw [e, r1]; exact ⟨v0, v1⟩
    · rw [r2 k e]; exact a4 k (by omega)
  · rcases a5 with a5 | a5
    · have : (ze M 81 55).toNat = 0 := by omega
      rw [← this, r1]
      exact hz a5
    · rw [r2 0 (by omega)]; exact a5.2
  · by_cases e : k = (ze M 81 55).toNat
    · rw [e, r1]
      rcases a5 with a5 | a5
      · omega
      · refine hnz ?_
        rintro rfl
        omega
    · rw [r2 k e]; exact a6 k h1 (by omega)
def zus (M : zMem) (s : Int) : Nat → Int
  | 0 => 0
  | k + 1 => zus M s k + (if s.toNat.testBit (ze M 81 26 - 1 - ze M 109 k).toNat then -1 else 1)
theorem zus_b (M : zMem) (s : Int) : ∀ k : Nat, -(k : Int) ≤ zus M s k ∧ zus M s k ≤ k
  | 0 => ⟨Int.le_refl _, Int.le_refl _⟩
  | k + 1 => by
    have := zus_b M s k
    unfold zus
    split <;> omega
theorem zus_s {M : zMem} {s k n t i : Int} (k0 : 0 ≤ k) (h : n = zus M s k.toNat) (hi : i = ze M 81 26 - 1 - ze M 109 k.toNat) (ht : (t = -1 ∧ zbt s i) ∨ (t = 1 ∧ ¬ zbt s i)) : n + t = zus M s (k + 1).toNat := by
  rw [show (k + 1).toNat = k.toNat + 1 by omega]
  unfold zus
  unfold zbt at ht
  rw [← hi, h]
  rcases ht with ⟨h1, h2⟩ | ⟨h1, h2⟩
  · rw [if_pos h2, h1]
  · rw [if_neg h2, h1]
theorem zus_f {S C : List Nat} {M N : zMem} (hf : zFr S C M N) (hs : 26 ∉ S) (hc : 109 ∉ C) (s : Int) : ∀ k : Nat, zus N s k = zus M s k
  | 0 => rfl
  | k + 1 => by
    unfold zus
    rw [zus_f hf hs hc s k, hf.e hs, hf.ie (by decide) hc]
def zuk (M : zMem) (s : Int) : Prop := ze M 81 55 ∣ zus M s (ze M 81 55).toNat
theorem zbor {s b : Int} {d : Nat} (s0 : 0 ≤ s) (s1 : s < 2147483648) (hd : d < 31) (hb : b = zshl 1 (d : Int)) : (zor s b).toNat = s.toNat ||| 2 ^ d ∧ 0 ≤ zor s b := by
  rw [hb, zorb s0 s1 (by omega) (by omega), Int.toNat_natCast]
  exact ⟨rfl, by omega⟩
theorem zus_or {T : zGT} {M : zMem} {j s b : Int} {d : Nat} (hd : (d : Int) = ze M 81 26 - 1 - j) (hd1 : d < 31) (hlen : ze M 81 26 = ((gF T).length : Int)) (h : zMq T j M) (s0 : 0 ≤ s) (s1 : s < 2 ^ d) (hb : b = zshl 1 (d : Int)) : ∀ k : Nat, 1 ≤ k → (k : Int) ≤ ze M 81 55 → zus M (zor s b) k = zus M s k - 2
  | 0, h, _ => absurd h (by omega)
  | k + 1, _, h2 => by
    have hp : (2 : Int) ^ d ≤ 2147483648 := by
      have : (2 : Nat) ^ d ≤ 2 ^ 31 := Nat.pow_le_pow_right (by omega) (by omega)
      have h3 : ((2 ^ d : Nat) : Int) = (2 : Int) ^ d := by rw [Int.natCast_pow]; rfl
      omega
    have ho := (zbor s0 (by omega) hd1 hb).1
    have hsn : s.toNat < 2 ^ d := by
      have h3 : ((2 ^ d : Nat) : Int) = (2 : Int) ^ d := by rw [Int.natCast_pow]; rfl
      omega
    have hq_ := h
    obtain ⟨-, a1, a2, a3⟩ := h
    have a1k := a1 k (by omega)
    show zus M (zor s b) k + _ = zus M s k + _ - 2
    rw [ho]
    by_cases e : k = 0
    · subst e
      rw [a2, show (ze M 81 26 - 1 - j).toNat = d by omega, Nat.testBit_or, Nat.testBit_two_pow_self, Bool.or_true, if_pos rfl, Nat.testBit_lt_two_pow hsn]
      rfl
    · rw [zus_or hd hd1 hlen hq_ s0 s1 hb k (by omega) (by omega), Nat.testBit_or, Nat.testBit_two_pow]
      have hne := a3 k (by omega) (by omega)
      rw [show decide (d = (ze M 81 26 - 1 - ze M 109 k).toNat) = false from decide_eq_false (by omega), Bool.or_false]
      omega
theorem zuk_2 {T : zGT} {M : zMem} {j s b : Int} {d : Nat} (hd : (d : Int) = ze M 81 26 - 1 - j) (hd1 : d < 31) (hlen : ze M 81 26 = ((gF T).length : Int)) (h : zMq T j M) (s0 : 0 ≤ s) (s1 : s < 2 ^ d) (hb : b = zshl 1 (d : Int)) (h1 : zuk M s) (h2 : zuk M (zor s b)) : ze M 81 55 ≤ 2 := by
  have h0 := h.1.2.1
  have h3 := zus_or hd hd1 hlen h s0 s1 hb (ze M 81 55).toNat (by omega) (by omega)
  unfold zuk at h1 h2
  rw [h3] at h2
  have h4 : ze M 81 55 ∣ 2 := by
    have := Int.dvd_sub h1 h2
    rwa [show zus M s (ze M 81 55).toNat - (zus M s (ze M 81 55).toNat - 2) = 2 by omega] at this
  exact Int.le_of_dvd (by omega) h4
def zkb (M : zMem) (s : Int) : Bool := decide (zus M s (ze M 81 55).toNat % ze M 81 55 = 0)
theorem zkb_t {M : zMem} {s : Int} : zkb M s = true ↔ zuk M s := by
  unfold zkb zuk
  rw [decide_eq_true_eq]
  exact (Int.dvd_iff_emod_eq_zero).symm
theorem zkb_n {M : zMem} {s : Int} (h : ¬ zuk M s) : zkb M s = false := by
  cases hb : zkb M s with
  | false => rfl
  | true => exact absurd (zkb_t.mp hb) h
theorem zkb_f {S C : List Nat} {M N : zMem} (hf : zFr S C M N) (hs : 26 ∉ S ∧ 55 ∉ S) (hc : 109 ∉ C) (s : Int) : zkb N s = zkb M s := by
  unfold zkb
  rw [hf.e hs.2, zus_f hf hs.1 hc]
def ucn (f : Nat → Bool) (a : Nat) : Nat → Nat
  | 0 => 0
  | n + 1 => ucn f a n + (f (a + n)).toNat
theorem ucn_l (f : Nat → Bool) (a : Nat) : ∀ n : Nat, ucn f a (n + 1) = (f a).toNat + ucn f (a + 1) n
  | 0 => by
    show 0 + (f (a + 0)).toNat = (f a).toNat + 0
    rw [Nat.zero_add, Nat.add_zero, Nat.add_zero]
  | n + 1 => by
    show ucn f a (n + 1) + (f (a + (n + 1))).toNat = (f a).toNat + (ucn f (a + 1) n + (f (a + 1 + n)).toNat)
    rw [ucn_l f a n, Nat.add_assoc, show a + (n + 1) = a + 1 + n by omega]
theorem ucn_c {f g : Nat → Bool} (a : Nat) : ∀ n : Nat, (∀ k, k < n → f (a + k) = g (a + k)) → ucn f a n = ucn g a n
  | 0, _ => rfl
  | n + 1, h => by
    unfold ucn
    rw [ucn_c a n (fun k hk => h k (by omega)), h n (by omega)]
theorem ubt (b : Bool) : b.toNat ≤ 1 := by cases b <;> decide
def uKf (M : zMem) : Nat → Bool := fun i => zkb M (ze M 110 i)
theorem uKf_s {M N : zMem} {p : Nat} {v : Int32} (hN : N = zsI M 110 p v) {i : Nat} (hi : i ≠ p) : uKf N i = uKf M i := by
  unfold uKf
  rw [zs_oth hN hi]
  exact zkb_f (S := []) (C := [110]) (by rw [hN]; exact zFr.sA (by decide)) (by decide) (by decide) _
def zUr (M : zMem) (n : Int) (d : Nat) : Prop := ∀ i : Nat, (i : Int) < n → 0 ≤ ze M 110 i ∧ ze M 110 i < ((2 ^ d : Nat) : Int)
theorem zUr_up {M : zMem} {n : Int} {d : Nat} (h : zUr M n d) : zUr M n (d + 1) := fun i hi => by
  have h1 := h i hi
  have h2 : (2 : Nat) ^ d ≤ 2 ^ (d + 1) := Nat.pow_le_pow_right (by omega) (by omega)
  omega
theorem zUr_s {M N : zMem} {n m p v : Int} {d : Nat} (h : zUr M n d) (hd : d ≤ 31) (p0 : 0 ≤ p) (hN : N = zsI M 110 p.toNat (Int32.ofInt v)) (hv : 0 ≤ v ∧ v < ((2 ^ d : Nat) : Int)) (hm : m ≤ n ∨ (p = n ∧ m = n + 1)) : zUr N m d := by
  have h3 : (2 : Nat) ^ d ≤ 2 ^ 31 := Nat.pow_le_pow_right (by omega) hd
  have h4 : (2 : Nat) ^ 31 = 2147483648 := rfl
  intro i hi
  by_cases e : i = p.toNat
  · rw [e, zs_get hN ⟨by omega, by omega⟩]
    exact hv
  · rw [zs_oth hN e]
    exact h i (by omega)
def zUa (M : zMem) (d : Nat) (um en k : Int) : Prop := (0 ≤ k ∧ k ≤ um ∧ um ≤ en ∧ en ≤ um + k) ∧ zUr M um d ∧ zUr M en (d + 1) ∧ (3 ≤ ze M 81 55 → en + (ucn (uKf M) 0 k.toNat : Int) ≤ um + k)
theorem zUa_0 {M : zMem} {d : Nat} {um : Int} (h0 : 0 ≤ um) (h : zUr M um d) : zUa M d um um 0 := by
  refine ⟨⟨by omega, h0, by omega, by omega⟩, h, zUr_up h, fun _ => ?_⟩
  show um + ((0 : Nat) : Int) ≤ um + 0
  omega
theorem zUa_s0 {M : zMem} {d : Nat} {um en k : Int} (h : zUa M d um en k) (hk : k < um) : zUa M d um en (k + 1) := by
  obtain ⟨h1, h2, h3, h4⟩ := h
  refine ⟨⟨by omega, by omega, by omega, by omega⟩, h2, h3, fun g => ?_⟩
  have := h4 g
  rw [show (k + 1).toNat = k.toNat + 1 by omega]
  have h5 := ubt (uKf M (0 + k.toNat))
  unfold ucn
  omega
theorem zUa_s1 {T : zGT} {M N : zMem} {d : Nat} {um en k j b s w : Int} (hd : (d : Int) = ze M 81 26 - 1 - j) (hd1 : d < 31) (hlen : ze M 81 26 = ((gF T).length : Int)) (hMd : zMq T j M) (hb : b = zshl 1 (d : Int)) (h : zUa M d um en k) (hk : k < um) (hs : s = ze M 110 k.toNat) (hz : zuk M (zor s b)) (hw : w = zor s b) (hN : N = zsI M 110 en.toNat (Int32.ofInt w)) : zUa N d um (en + 1) (k + 1) := by
  obtain ⟨h1, h2, h3, h4⟩ := h
  have hf1 : zFr [] [110] M N := by rw [hN]; exact zFr.sA (by decide)
  have hsr := h2 k.toNat (by omega)
  rw [← hs] at hsr
  have h31 : (2 : Nat) ^ d < 2 ^ 31 := Nat.pow_lt_pow_right (by omega) hd1
  have h32 : (2 : Nat) ^ 31 = 2147483648 := rfl
  have ho := zbor hsr.1 (by omega) hd1 hb
  have hor : s.toNat ||| 2 ^ d < 2 ^ (d + 1) := Nat.or_lt_two_pow (by
    have : (2 : Nat) ^ d ≤ 2 ^ (d + 1) := Nat.pow_le_pow_right (by omega) (by omega)
    omega) (Nat.pow_lt_pow_right (by omega) (by omega))
  refine ⟨⟨by omega, by omega, by omega, by omega⟩, fun i hi => ?_, ?_, fun g => ?_⟩
  · rw [zs_oth hN (by omega)]
    exact h2 i hi
  · exact zUr_s h3 (by omega) (by omega) hN (by rw [hw]; omega) (Or.inr ⟨rfl, rfl⟩)
  · have e55 : ze N 81 55 = ze M 81 55 := hf1.e (by decide)
    rw [e55] at g
    have := h4 g
    rw [show (k + 1).toNat = k.toNat + 1 by omega]
    unfold ucn
    rw [ucn_c (g := uKf M) 0 k.toNat (fun i hi => uKf_s hN (by omega)), uKf_s hN (by omega)]
    have hz0 : uKf M (0 + k.toNat) = false := by
      unfold uKf
      rw [Nat.zero_add, ← hs]
      refine zkb_n (fun hz1 => ?_)
      have := zuk_2 hd hd1 hlen hMd hsr.1 (by
        have h3 : ((2 ^ d : Nat) : Int) = (2 : Int) ^ d := by rw [Int.natCast_pow]; rfl
        omega) hb hz1 hz
      omega
    rw [hz0]
    show en + 1 + ((_ + 0 : Nat) : Int) ≤ _
    omega
def zUb (M : zMem) (d : Nat) (um en kp k : Int) : Prop := (0 ≤ kp ∧ kp ≤ k ∧ k ≤ um ∧ um ≤ en ∧ en ≤ 2 * um) ∧ zUr M en (d + 1) ∧ (3 ≤ ze M 81 55 → kp + (ucn (uKf M) k.toNat (um - k).toNat : Int) + en ≤ 2 * um)
theorem zUb_0 {M : zMem} {d : Nat} {um en k : Int} (h : zUa M d um en k) (hk : um ≤ k) : zUb M d um en 0 0 := by
  obtain ⟨h1, h2, h3, h4⟩ := h
  refine ⟨⟨by omega, by omega, by omega, by omega, by omega⟩, h3, fun g => ?_⟩
  have := h4 g
  rw [show (um - 0).toNat = k.toNat by omega]
  show 0 + (ucn (uKf M) 0 k.toNat : Int) + en ≤ 2 * um
  omega
theorem ucn_k {f : Nat → Bool} {k um : Int} (k0 : 0 ≤ k) (hk : k < um) : ucn f k.toNat (um - k).toNat = (f k.toNat).toNat + ucn f (k + 1).toNat (um - (k + 1)).toNat := by
  rw [show (um - k).toNat = (um - (k + 1)).toNat + 1 by omega, ucn_l, show (k + 1).toNat = k.toNat + 1 by omega]
theorem zUb_s0 {M : zMem} {d : Nat} {um en kp k : Int} (h : zUb M d um en kp k) (hk : k < um) : zUb M d um en kp (k + 1) := by
  obtain ⟨h1, h2, h3⟩ := h
  refine ⟨⟨by omega, by omega, by omega, by omega, by omega⟩, h2, fun g => ?_⟩
  have := h3 g
  rw [ucn_k (by omega) hk] at this
  omega
theorem zUb_s1 {M N : zMem} {d : Nat} (hd1 : d < 31) {um en kp k s : Int} (h : zUb M d um en kp k) (hk : k < um) (hs : s = ze M 110 k.toNat) (hz : zuk M s) (hN : N = zsI M 110 kp.toNat (Int32.ofInt s)) : zUb N d um en (kp + 1) (k + 1) := by
  obtain ⟨h1, h2, h3⟩ := h
  have hf1 : zFr [] [110] M N := by rw [hN]; exact zFr.sA (by decide)
  refine ⟨⟨by omega, by omega, by omega, by omega, by omega⟩, ?_, fun g => ?_⟩
  · refine zUr_s h2 (by omega) (by omega) hN ?_ (Or.inl (Int.le_refl _))
    rw [hs]
    exact h2 k.toNat (by omega)
  · have e55 : ze N 81 55 = ze M 81 55 := hf1.e (by decide)
    rw [e55] at g
    have := h3 g
    rw [ucn_k (by omega) hk] at this
    have h5 : uKf M k.toNat = true := by
      unfold uKf
      rw [← hs]
      exact zkb_t.mpr hz
    rw [h5] at this
    rw [ucn_c (g := uKf M) (k + 1).toNat _ (fun i hi => uKf_s hN (by omega))]
    have e1 : (true.toNat : Nat) = 1 := rfl
    rw [e1] at this
    omega
def zUc (M : zMem) (d : Nat) (um en kp k : Int) : Prop := (0 ≤ kp ∧ kp ≤ k ∧ um ≤ k ∧ k ≤ en ∧ en ≤ 2 * um) ∧ zUr M en (d + 1) ∧ (3 ≤ ze M 81 55 → kp + (en - k) ≤ um)
theorem zUc_0 {M : zMem} {d : Nat} {um en kp k : Int} (h : zUb M d um en kp k) (hk : um ≤ k) : zUc M d um en kp um := by
  obtain ⟨h1, h2, h3⟩ := h
  refine ⟨⟨by omega, by omega, by omega, by omega, by omega⟩, h2, fun g => ?_⟩
  have := h3 g
  omega
theorem zUc_s {M N : zMem} {d : Nat} (hd1 : d < 31) {um en kp k s : Int} (h : zUc M d um en kp k) (hk : k < en) (hs : s = ze M 110 k.toNat) (hN : N = zsI M 110 kp.toNat (Int32.ofInt s)) : zUc N d um en (kp + 1) (k + 1) := by
  obtain ⟨h1, h2, h3⟩ := h
  have hf1 : zFr [] [110] M N := by rw [hN]; exact zFr.sA (by decide)
  refine ⟨⟨by omega, by omega, by omega, by omega, by omega⟩, ?_, fun g => ?_⟩
  · refine zUr_s h2 (by omega) (by omega) hN ?_ (Or.inl (Int.le_refl _))
    rw [hs]
    exact h2 k.toNat (by omega)
  · have e55 : ze N 81 55 = ze M 81 55 := hf1.e (by decide)
    rw [e55] at g
    have := h3 g
    omega
def zUo (T : zGT) (M : zMem) (d : Nat) (um : Int) : Prop := 0 ≤ um ∧ um ≤ ((2 ^ gcu T d : Nat) : Int) ∧ zUr M um d
theorem gcu_m (T : zGT) : ∀ d e : Nat, gcu T d ≤ gcu T (d + e)
  | d, 0 => Nat.le_refl _
  | d, e + 1 => Nat.le_trans (gcu_m T d e) (Nat.le_add_right _ _)
theorem gcu_b {T : zGT} (hX : gEx T) {d : Nat} (hd : d ≤ (gF T).length) : (2 : Nat) ^ gcu T d ≤ 32768 := by
  have h1 := gcu_m T d ((gF T).length - d)
  rw [show d + ((gF T).length - d) = (gF T).length by omega] at h1
  have h2 := hX.2.2.2.1
  have h3 : (2 : Nat) ^ gcu T d ≤ 2 ^ 15 := Nat.pow_le_pow_right (by omega) (by omega)
  exact h3
theorem zUo_b {T : zGT} (hX : gEx T) {M : zMem} {d : Nat} {um : Int} (hd : d ≤ (gF T).length) (h : zUo T M d um) : 0 ≤ um ∧ um ≤ 32768 := by
  have h1 := gcu_b hX hd
  have h2 := h.1
  have h3 := h.2.1
  omega
theorem zUo_0 {T : zGT} {M : zMem} (h : ze M 110 0 = 0) : zUo T M 0 1 := ⟨by omega, by
  show (1 : Int) ≤ ((2 ^ 0 : Nat) : Int)
  decide, fun i hi => by
  rw [show i = 0 by omega, h]
  decide⟩
theorem zUo_s {T : zGT} {M N : zMem} {d : Nat} {j um en kp k : Int} (hj : (d : Int) = ((gF T).length : Int) - 1 - j) (j0 : 0 ≤ j) (ho : um ≤ ((2 ^ gcu T d : Nat) : Int)) (hMd : zMq T j M) (h : zUc M d um en kp k) (hk : en ≤ k) (hN : ∀ i, ze N 110 i = ze M 110 i) : zUo T N (d + 1) kp := by
  obtain ⟨h1, h2, h3⟩ := h
  refine ⟨by omega, ?_, fun i hi => by rw [hN]; exact h2 i (by omega)⟩
  have hm := hMd.1.1
  have hg : gcu T (d + 1) = gcu T d + (if gmm T ((gF T).getD ((gF T).length - 1 - d) 0) ≤ 2 then 1 else 0) := rfl
  rw [show (gF T).length - 1 - d = j.toNat by omega] at hg
  by_cases e : gmm T ((gF T).getD j.toNat 0) ≤ 2
  · rw [if_pos e] at hg
    rw [hg, Nat.pow_succ]
    omega
  · rw [if_neg e] at hg
    rw [hg, Nat.add_zero]
    have := h3 (by omega)
    omega
theorem zshl_p {k : Int} (k0 : 0 ≤ k) (k1 : k < 31) : 0 ≤ zshl 1 k := by
  obtain ⟨n, rfl⟩ := Int.eq_ofNat_of_zero_le k0
  rw [zshl1 n (by omega)]
  exact Int.natCast_nonneg _
theorem zUo.fr {S C : List Nat} {M N : zMem} {T : zGT} {d : Nat} {um : Int} (hf : zFr S C M N) (h : zUo T M d um) (hc : 110 ∉ C) : zUo T N d um := ⟨h.1, h.2.1, fun i hi => by rw [hf.ie (by decide) hc]; exact h.2.2 i hi⟩
theorem gp30 {d : Nat} (h : d ≤ 30) : ((2 ^ d : Nat) : Int) ≤ 1073741824 := by
  have : (2 : Nat) ^ d ≤ 2 ^ 30 := Nat.pow_le_pow_right (by omega) h
  have h4 : (2 : Nat) ^ 30 = 1073741824 := rfl
  omega
def zNo (T : zGT) (S : Nat) (v g : Int) : Prop := gIn T v ∧ (∀ x : Nat, (x : Int) < g → x < gN T → (v.toNat.testBit x = true ↔ gtr T S x = S)) ∧ ∀ x : Nat, g ≤ (x : Int) → v.toNat.testBit x = false
theorem zNo_0 (T : zGT) (S : Nat) : zNo T S 0 0 := ⟨gIn_0 T, fun x h => absurd h (by omega), fun x _ => Nat.zero_testBit x⟩
theorem zNo_s {T : zGT} (hG : gGd T) {S : Nat} {v g t : Int} (h : zNo T S v g) (g0 : 0 ≤ g) (g1 : g < gN T) (ht : (t = 1 ∧ gtr T S g.toNat = S) ∨ (t = 0 ∧ gtr T S g.toNat ≠ S)) : zNo T S (zor v (zshl t g)) (g + 1) := by
  obtain ⟨h1, h2, h3⟩ := h
  have hb := h1.b hG
  have h24 := hG.2.1
  refine ⟨gIn_t hG h1 (by omega) g0 g1, ?_⟩
  rcases ht with ⟨rfl, ht⟩ | ⟨rfl, ht⟩
  · rw [zorb hb.1 (by omega) g0 (by omega), Int.toNat_natCast]
    refine ⟨fun x hx hxn => ?_, fun x hx => ?_⟩
    · rw [Nat.testBit_or, Nat.testBit_two_pow, Bool.or_eq_true, decide_eq_true_eq]
      by_cases e : g.toNat = x
      · subst e
        exact ⟨fun _ => ht, fun _ => Or.inr rfl⟩
      · rw [← h2 x (by omega) hxn]
        exact ⟨fun h => h.resolve_right e, fun h => Or.inl h⟩
    · rw [Nat.testBit_or, Nat.testBit_two_pow, h3 x (by omega), Bool.false_or]
      exact decide_eq_false (by omega)
  · have e0 : zor v (zshl 0 g) = v := by
      obtain ⟨n, rfl⟩ := Int.eq_ofNat_of_zero_le g0
      obtain ⟨m, rfl⟩ := Int.eq_ofNat_of_zero_le hb.1
      rw [show zshl 0 (n : Int) = 0 from zshl0_k ⟨n, by omega⟩]
      have e3 : ((0 : Nat) : Int) = 0 := rfl
      rw [← e3, zor_n m 0 (by omega) (by omega), Nat.or_zero]
    rw [e0]
    refine ⟨fun x hx hxn => ?_, fun x hx => h3 x (by omega)⟩
    by_cases e : g.toNat = x
    · subst e
      rw [h3 g.toNat (by omega)]
      exact ⟨fun h => (by cases h), fun h => absurd h ht⟩
    · exact h2 x (by omega) hxn
set_option maxHeartbeats 4000000 in
theorem c_M_normOfF (l : Launch) (Mz : zMem) (hW : zMt Mz) (a0_ : Int) (ha0_a : -2147483648 ≤ a0_) (ha0_b : a0_ < 2147483648) (T : zGT) (hO : gOK T) (p0_ : zGB T Mz) (p1_ : 0 ≤ a0_) (p2_ : a0_ < 16777216) : zC l m_M_normOf 0 0 [.ref 81, .int (Int32.ofInt a0_)] Mz (zpI [] [] Mz (fun v N => gIn T v ∧ 0 ≤ v ∧ ∀ g : Nat, g < gN T → ((v).toNat.testBit g = true ↔ gtr T (a0_).toNat g = (a0_).toNat))) := by
  refine zC_of (L0 := [some (.ref 81), some (.int (Int32.ofInt a0_)), none, none]) md_M_normOf (Nat.le_of_ble_eq_true rfl) rfl ?_ zQ0
  have hf : zFr [] [] Mz Mz := zFr.rf
  have r_20 := ze_r Mz 81 20
  have hG := hO.1
  have g24 := hG.2.1
  have g1 := hG.1
  have dv0 : zTab T Mz := p0_.1
  have dv1 : zB 85 144 0 5 Mz := p0_.2.1
  have dv2 : zJX T Mz := p0_.2.2.1
  have dv3 : zFirs T Mz := p0_.2.2.2.1
  have dv4 : zSSm T Mz := p0_.2.2.2.2.1
  have dv5 : zGD Mz := zGB.d hO p0_
  have gb := dv5.1
  have gn := dv0.1
  refine zw_iconst (pc := 0) (v := Int32.ofInt 0) (by decide) (zdal_p dlD_M_normOf_18 (i := 0) rfl) ?_
  refine zw_istore_n (pc := 1) (i := 2) (L2 := [some (.ref 81), some (.int (Int32.ofInt a0_)), some (.int (Int32.ofInt 0)), none]) rfl (by decide) rfl (zdal_p dlD_M_normOf_18 (i := 1) rfl) ?_
  refine zw_iconst (pc := 2) (v := Int32.ofInt 0) (by decide) (zdal_p dlD_M_normOf_18 (i := 2) rfl) ?_
  refine zw_istore_n (pc := 3) (i := 3) (L2 := [some (.ref 81), some (.int (Int32.ofInt a0_)), some (.int (Int32.ofInt 0)), some (.int (Int32.ofInt 0))]) rfl (by decide) rfl (zdal_p dlD_M_normOf_18 (i := 3) rfl) ?_
  have lp_4 : ∀ (n : Nat) (u1_ : Int) (hu1_a : -2147483648 ≤ u1_) (hu1_b : u1_ < 2147483648) (u2_ : Int) (hu2_a : -2147483648 ≤ u2_) (hu2_b : u2_ < 2147483648) (i3_ : 0 ≤ u2_) (i4_ : zNo T (a0_).toNat u1_ u2_) (i5_ : u2_ ≤ ze Mz 81 20), (ze Mz 81 20 - u2_).toNat < n → zW l m_M_normOf (zn Mz + 0, zw Mz + 0) Mz 4 [some (.ref 81), some (.int (Int32.ofInt a0_)), some (.int (Int32.ofInt u1_)), some (.int (Int32.ofInt u2_))] [] (zpI [] [] Mz (fun v N => gIn T v ∧ 0 ≤ v ∧ ∀ g : Nat, g < gN T → ((v).toNat.testBit g = true ↔ gtr T (a0_).toNat g = (a0_).toNat))) := by
    intro n
    induction n with
    | zero =>
      intro u1_ hu1_a hu1_b u2_ hu2_a hu2_b i3_ i4_ i5_ h0
      exact absurd h0 (Nat.not_lt_zero _)
    | succ n ih_4 =>
      intro u1_ hu1_a hu1_b u2_ hu2_a hu2_b i3_ i4_ i5_ hlt_4
      refine zw_iload_n (pc := 4) (n := 3) (x := Int32.ofInt u2_) rfl (zdal_p dlD_M_normOf_18 (i := 4) rfl) ?_
      refine zw_aload_n (pc := 5) (n := 0) (x := 81) rfl (zdal_p dlD_M_normOf_18 (i := 5) rfl) ?_
      refine zr_getI0 hf hW (pc := 6) (by decide) f_M_196 rfl (zdal_p dlD_M_normOf_18 (i := 6) rfl) ?_
      refine zr_icmp_ge (pc := 9) (tgt := 41) ⟨hu2_a, hu2_b⟩ ⟨(ze_r Mz 81 20).1, (ze_r Mz 81 20).2⟩ (by decide) (zdal_p dlD_M_normOf_18 (i := 7) rfl) (fun hc_9 => ?_) (fun hc_9 => ?_)
      · skip
        refine zw_iload_n (pc := 41) (n := 2) (x := Int32.ofInt u1_) rfl (zdal_p dlD_M_normOf_19 (i := 1) rfl) ?_
        have hnz_ := (show zNo T (a0_).toNat u1_ u2_ by assumption)
        exact zr_iret (pc := 42) (ty := .int) rfl rfl ⟨by omega, by omega⟩ hf ⟨(show gIn T u1_ by exact hnz_.1), (show 0 ≤ u1_ by exact hnz_.1.1), (show ∀ g : Nat, g < gN T → ((u1_).toNat.testBit g = true ↔ gtr T (a0_).toNat g = (a0_).toNat) by exact fun g hg => hnz_.2.1 g (by omega) hg)⟩ (zdal_p dlD_M_normOf_19 (i := 2) rfl)
      · skip
        refine zw_iload_n (pc := 12) (n := 2) (x := Int32.ofInt u1_) rfl (zdal_p dlD_M_normOf_18 (i := 8) rfl) ?_
        refine zw_aload_n (pc := 13) (n := 0) (x := 81) rfl (zdal_p dlD_M_normOf_18 (i := 9) rfl) ?_
        refine zw_iload_n (pc := 14) (n := 1) (x := Int32.ofInt a0_) rfl (zdal_p dlD_M_normOf_18 (i := 10) rfl) ?_
        refine zw_iload_n (pc := 15) (n := 3) (x := Int32.ofInt u2_) rfl (zdal_p dlD_M_normOf_18 (i := 11) rfl) ?_
        refine zr_callV (hf.w hW) hf.x (pc := 16) [.int (Int32.ofInt a0_), .int (Int32.ofInt u2_)] [.int (Int32.ofInt u1_)] l_M_223 (c_M_turned l Mz (hf.w hW) a0_ ha0_a ha0_b u2_ hu2_a hu2_b T hG dv0 (show 0 ≤ a0_ by first | assumption | omega) (show 0 ≤ u2_ by first | assumption | omega) (show u2_ < ze Mz 81 20 by first | assumption | omega)) rfl rfl rfl (by decide) (Nat.le_of_ble_eq_true rfl) (zdal_p dlD_M_normOf_18 (i := 12) rfl) ?_
        rintro _ N6_ ⟨v7_, rfl, ⟨hv7_a, hv7_b⟩, hsN6_, ⟨hp0_N6_, hp1_N6_, hp2_N6_⟩⟩
        obtain rfl := hsN6_.eq.symm
        show zW l m_M_normOf (zn Mz + 0, zw Mz + 0) Mz 19 [some (.ref 81), some (.int (Int32.ofInt a0_)), some (.int (Int32.ofInt u1_)), some (.int (Int32.ofInt u2_))] [.int (Int32.ofInt v7_), .int (Int32.ofInt u1_)] _
        refine zw_iload_n (pc := 19) (n := 1) (x := Int32.ofInt a0_) rfl (zdal_p dlD_M_normOf_18 (i := 13) rfl) ?_
        refine zr_icmp_ne (pc := 20) (tgt := 27) ⟨hv7_a, hv7_b⟩ ⟨ha0_a, ha0_b⟩ (by decide) (zdal_p dlD_M_normOf_18 (i := 14) rfl) (fun hc_20 => ?_) (fun hc_20 => ?_)
        · skip
          refine zw_iconst (pc := 27) (v := Int32.ofInt 0) (by decide) (zdal_p dlD_M_normOf_18 (i := 17) rfl) ?_
          refine zr_callS hf.x (pc := 28) [.int (Int32.ofInt 0)] [.int (Int32.ofInt u1_)] l_M_256 (c_M_truth l Mz (hf.w hW) 0 (by decide) (by decide) (by omega)) rfl rfl (by decide) (Nat.le_of_ble_eq_true rfl) (zdal_p dlD_M_normOf_18 (i := 18) rfl) ?_
          rintro _ N8_ ⟨v9_, rfl, ⟨hv9_a, hv9_b⟩, hsN8_, hp0_N8_⟩
          obtain rfl := hsN8_.eq.symm
          replace hp0_N8_ : v9_ = 0 := hp0_N8_
          show zW l m_M_normOf (zn Mz + 0, zw Mz + 0) Mz 31 [some (.ref 81), some (.int (Int32.ofInt a0_)), some (.int (Int32.ofInt u1_)), some (.int (Int32.ofInt u2_))] [.int (Int32.ofInt v9_), .int (Int32.ofInt u1_)] _
          have hnt_ : (v9_ = 1 ∧ gtr T (a0_).toNat (u2_).toNat = (a0_).toNat) ∨ (v9_ = 0 ∧ gtr T (a0_).toNat (u2_).toNat ≠ (a0_).toNat) := by omega
          have hno_ := zNo_s hG (show zNo T (a0_).toNat u1_ u2_ by assumption) (by omega) (by omega) hnt_
          refine zw_iload_n (pc := 31) (n := 3) (x := Int32.ofInt u2_) rfl (zdal_p dlD_M_normOf_18 (i := 19) rfl) ?_
          refine zr_ishl (pc := 32) (zdal_p dlD_M_normOf_18 (i := 20) rfl) ?_
          have hr10_ := zshl_r v9_ u2_
          refine zr_ior (pc := 33) (zdal_p dlD_M_normOf_18 (i := 21) rfl) ?_
          have hr11_ := zor_r u1_ (zshl v9_ u2_)
          refine zw_istore_n (pc := 34) (i := 2) (L2 := [some (.ref 81), some (.int (Int32.ofInt a0_)), some (.int (Int32.ofInt (zor u1_ (zshl v9_ u2_)))), some (.int (Int32.ofInt u2_))]) rfl (by decide) rfl (zdal_p dlD_M_normOf_18 (i := 22) rfl) ?_
          refine zr_iinc (pc := 35) (i := 3) (a := u2_) (n := 1) (L2 := [some (.ref 81), some (.int (Int32.ofInt a0_)), some (.int (Int32.ofInt (zor u1_ (zshl v9_ u2_)))), some (.int (Int32.ofInt (u2_ + 1)))]) rfl (by decide) rfl (zdal_p dlD_M_normOf_18 (i := 23) rfl) ?_
          refine zw_goto (pc := 38) (tgt := 4) (by decide) (zdal_p dlD_M_normOf_19 (i := 0) rfl) ?_
          exact ih_4 (zor u1_ (zshl v9_ u2_)) (by omega) (by omega) (u2_ + 1) (by omega) (by omega) (show 0 ≤ (u2_ + 1) by first | assumption | omega) (show zNo T (a0_).toNat (zor u1_ (zshl v9_ u2_)) (u2_ + 1) by exact hno_) (show (u2_ + 1) ≤ ze Mz 81 20 by first | assumption | omega) (by omega)
        · skip
          refine zw_iconst (pc := 23) (v := Int32.ofInt 1) (by decide) (zdal_p dlD_M_normOf_18 (i := 15) rfl) ?_
          refine zw_goto (pc := 24) (tgt := 28) (by decide) (zdal_p dlD_M_normOf_18 (i := 16) rfl) ?_
          refine zr_callS hf.x (pc := 28) [.int (Int32.ofInt 1)] [.int (Int32.ofInt u1_)] l_M_256 (c_M_truth l Mz (hf.w hW) 1 (by decide) (by decide) (by omega)) rfl rfl (by decide) (Nat.le_of_ble_eq_true rfl) (zdal_p dlD_M_normOf_18 (i := 18) rfl) ?_
          rintro _ N12_ ⟨v13_, rfl, ⟨hv13_a, hv13_b⟩, hsN12_, hp0_N12_⟩
          obtain rfl := hsN12_.eq.symm
          replace hp0_N12_ : v13_ = 1 := hp0_N12_
          show zW l m_M_normOf (zn Mz + 0, zw Mz + 0) Mz 31 [some (.ref 81), some (.int (Int32.ofInt a0_)), some (.int (Int32.ofInt u1_)), some (.int (Int32.ofInt u2_))] [.int (Int32.ofInt v13_), .int (Int32.ofInt u1_)] _
          have hnt_ : (v13_ = 1 ∧ gtr T (a0_).toNat (u2_).toNat = (a0_).toNat) ∨ (v13_ = 0 ∧ gtr T (a0_).toNat (u2_).toNat ≠ (a0_).toNat) := by omega
          have hno_ := zNo_s hG (show zNo T (a0_).toNat u1_ u2_ by assumption) (by omega) (by omega) hnt_
          refine zw_iload_n (pc := 31) (n := 3) (x := Int32.ofInt u2_) rfl (zdal_p dlD_M_normOf_18 (i := 19) rfl) ?_
          refine zr_ishl (pc := 32) (zdal_p dlD_M_normOf_18 (i := 20) rfl) ?_
          have hr14_ := zshl_r v13_ u2_
          refine zr_ior (pc := 33) (zdal_p dlD_M_normOf_18 (i := 21) rfl) ?_
          have hr15_ := zor_r u1_ (zshl v13_ u2_)
          refine zw_istore_n (pc := 34) (i := 2) (L2 := [some (.ref 81), some (.int (Int32.ofInt a0_)), some (.int (Int32.ofInt (zor u1_ (zshl v13_ u2_)))), some (.int (Int32.ofInt u2_))]) rfl (by decide) rfl (zdal_p dlD_M_normOf_18 (i := 22) rfl) ?_
          refine zr_iinc (pc := 35) (i := 3) (a := u2_) (n := 1) (L2 := [some (.ref 81), some (.int (Int32.ofInt a0_)), some (.int (Int32.ofInt (zor u1_ (zshl v13_ u2_)))), some (.int (Int32.ofInt (u2_ + 1)))]) rfl (by decide) rfl (zdal_p dlD_M_normOf_18 (i := 23) rfl) ?_
          refine zw_goto (pc := 38) (tgt := 4) (by decide) (zdal_p dlD_M_normOf_19 (i := 0) rfl) ?_
          exact ih_4 (zor u1_ (zshl v13_ u2_)) (by omega) (by omega) (u2_ + 1) (by omega) (by omega) (show 0 ≤ (u2_ + 1) by first | assumption | omega) (show zNo T (a0_).toNat (zor u1_ (zshl v13_ u2_)) (u2_ + 1) by exact hno_) (show (u2_ + 1) ≤ ze Mz 81 20 by first | assumption | omega) (by omega)
  exact lp_4 _ 0 (by decide) (by decide) 0 (by decide) (by decide) (show 0 ≤ (0 : Int) by first | assumption | omega) (show zNo T (a0_).toNat (0 : Int) (0 : Int) by exact zNo_0 T _) (show (0 : Int) ≤ ze Mz 81 20 by first | assumption | omega) (Nat.lt_succ_self _)
set_option maxHeartbeats 4000000 in
theorem c_M_sortOfSetF (l : Launch) (Mz : zMem) (hW : zMt Mz) (a0_ : Int) (ha0_a : -2147483648 ≤ a0_) (ha0_b : a0_ < 2147483648) (T : zGT) (hO : gOK T) (p0_ : zGB T Mz) (p1_ : gMe T a0_) : zC l m_M_sortOfSet 0 0 [.ref 81, .int (Int32.ofInt a0_)] Mz (zpI [] [] Mz (fun v N => 0 ≤ v ∧ v < ze Mz 81 26 ∧ ze Mz 91 (v).toNat = ((glt T (a0_).toNat : Nat) : Int))) := by
  refine zC_of (L0 := [some (.ref 81), some (.int (Int32.ofInt a0_))]) md_M_sortOfSet (Nat.le_of_ble_eq_true rfl) rfl ?_ zQ0
  have hf : zFr [] [] Mz Mz := zFr.rf
  have r_25 := ze_r Mz 81 25
  have r_26 := ze_r Mz 81 26
  have hG := hO.1
  have g24 := hG.2.1
  have g1 := hG.1
  have dv0 : zTab T Mz := p0_.1
  have dv1 : zB 85 144 0 5 Mz := p0_.2.1
  have dv2 : zJX T Mz := p0_.2.2.1
  have dv3 : zFirs T Mz := p0_.2.2.2.1
  have dv4 : zSSm T Mz := p0_.2.2.2.2.1
  have dv5 : zGD Mz := zGB.d hO p0_
  have gb := dv5.1
  have gn := dv0.1
  refine zw_aload_n (pc := 0) (n := 0) (x := 81) rfl (zdal_p dlD_M_sortOfSet_13 (i := 0) rfl) ?_
  refine zr_getF (r := 90) (hf.w hW) (pc := 1) f_M_41 rfl (zh_90 (hf.w hW)).1 (zdal_p dlD_M_sortOfSet_13 (i := 1) rfl) ?_
  refine zw_aload_n (pc := 4) (n := 0) (x := 81) rfl (zdal_p dlD_M_sortOfSet_13 (i := 2) rfl) ?_
  refine zw_iload_n (pc := 5) (n := 1) (x := Int32.ofInt a0_) rfl (zdal_p dlD_M_sortOfSet_13 (i := 3) rfl) ?_
  refine zr_callV (hf.w hW) hf.x (pc := 6) [.int (Int32.ofInt a0_)] [.ref 90] l_M_232 (c_M_subIndex l Mz (hf.w hW) a0_ ha0_a ha0_b (show 0 ≤ ze Mz 81 25 by first | assumption | omega) (show ze Mz 81 25 ≤ 128 by first | assumption | omega)) rfl rfl rfl (by decide) (Nat.le_of_ble_eq_true rfl) (zdal_p dlD_M_sortOfSet_13 (i := 4) rfl) ?_
  rintro _ N1_ ⟨v2_, rfl, ⟨hv2_a, hv2_b⟩, hsN1_, hp0_N1_⟩
  obtain rfl := hsN1_.eq.symm
  replace hp0_N1_ : ((0 ≤ v2_ ∧ v2_ < ze Mz 81 25 ∧ ze Mz 89 (v2_).toNat = a0_) ∨ (v2_ = -1 ∧ ∀ k : Nat, (k : Int) < ze Mz 81 25 → ze Mz 89 k ≠ a0_)) := hp0_N1_
  rcases hp0_N1_ with ⟨ha6_0_hp0_N1_, ha6_1_hp0_N1_, ha6_2_hp0_N1_⟩ | ⟨rfl, ha6_0_hp0_N1_⟩
  · skip
    show zW l m_M_sortOfSet (zn Mz + 0, zw Mz + 0) Mz 9 [some (.ref 81), some (.int (Int32.ofInt a0_))] [.int (Int32.ofInt v2_), .ref 90] _
    have hs := dv4 (v2_).toNat (by omega)
    have hs3 : ze Mz 91 (ze Mz 90 (v2_).toNat).toNat = ((glt T (a0_).toNat : Nat) : Int) := by rw [hs.2.2, show ze Mz 89 (v2_).toNat = a0_ by assumption]
    refine zr_ialdn (pc := 9) (zh_90 (hf.w hW)).2 (by decide) (by omega) (by omega) (zdal_p dlD_M_sortOfSet_13 (i := 5) rfl) (fun v3_ hv3_ hv3_a hv3_b => ?_)
    exact zr_iret (pc := 10) (ty := .int) rfl rfl ⟨by omega, by omega⟩ hf ⟨(show 0 ≤ v3_ by first | assumption | omega), (show v3_ < ze Mz 81 26 by first | assumption | omega), (show ze Mz 91 (v3_).toNat = ((glt T (a0_).toNat : Nat) : Int) by rw [‹v3_ = ze Mz 90 _›]; exact hs3)⟩ (zdal_p dlD_M_sortOfSet_13 (i := 6) rfl)
  · skip
    obtain ⟨i0, hi0, hi1⟩ := (p1_).f hO dv2
    exact absurd hi1 (ha6_0_hp0_N1_ i0 hi0)
set_option maxHeartbeats 20000000 in
theorem c_M_laysMade (l : Launch) (Mz : zMem) (hW : zMt Mz) (a0_ : Int) (ha0_a : -2147483648 ≤ a0_) (ha0_b : a0_ < 2147483648) (T : zGT) (hO : gOK T) (hX : gEx T) (p0_ : zGB T Mz) (p1_ : 0 ≤ a0_) (p2_ : a0_ < ze Mz 81 26) : zC l m_M_laysMade 0 0 [.ref 81, .int (Int32.ofInt a0_)] Mz (zpV [55] [109] Mz (fun N => zMq T a0_ N ∧ 1 ≤ ze N 81 55 ∧ ze N 81 55 ≤ 24)) := by
  refine zC_of (L0 := [some (.ref 81), some (.int (Int32.ofInt a0_)), none, none, none]) md_M_laysMade (Nat.le_of_ble_eq_true rfl) rfl ?_ zQ0
  have hf : zFr [55] [109] Mz Mz := zFr.rf
  have r_20 := ze_r Mz 81 20
  have r_26 := ze_r Mz 81 26
  have r_55 := ze_r Mz 81 55
  have hG := hO.1
  have g24 := hG.2.1
  have g1 := hG.1
  have dv0 : zTab T Mz := p0_.1
  have dv1 : zB 85 144 0 5 Mz := p0_.2.1
  have dv2 : zJX T Mz := p0_.2.2.1
  have dv3 : zFirs T Mz := p0_.2.2.2.1
  have dv4 : zSSm T Mz := p0_.2.2.2.2.1
  have dv5 : zGD Mz := zGB.d hO p0_
  have gb := dv5.1
  have gn := dv0.1
  have gfl := dv3.1
  have gf6 := gF_pos hO
  have gxl := hX.2.1
  have hfz := dv3.2 (a0_).toNat (by omega)
  have hfg := dv3.g hO (e := a0_) (by omega) (by omega)
  refine zw_aload_n (pc := 0) (n := 0) (x := 81) rfl (zdal_p dlD_M_laysMade_81 (i := 0) rfl) ?_
  refine zr_getF (r := 91) (hf.w hW) (pc := 1) f_M_44 rfl (zh_91 (hf.w hW)).1 (zdal_p dlD_M_laysMade_81 (i := 1) rfl) ?_
  refine zw_iload_n (pc := 4) (n := 1) (x := Int32.ofInt a0_) rfl (zdal_p dlD_M_laysMade_81 (i := 2) rfl) ?_
  refine zr_ialdn (pc := 5) (zh_91 (hf.w hW)).2 (by decide) (by omega) (by omega) (zdal_p dlD_M_laysMade_81 (i := 3) rfl) (fun v1_ hv1_ hv1_a hv1_b => ?_)
  refine zr_toI (show v1_ = ze Mz 91 (a0_).toNat by omega) ?_
  refine zw_istore_n (pc := 6) (i := 2) (L2 := [some (.ref 81), some (.int (Int32.ofInt a0_)), some (.int (Int32.ofInt (ze Mz 91 (a0_).toNat))), none, none]) rfl (by decide) rfl (zdal_p dlD_M_laysMade_81 (i := 4) rfl) ?_
  refine zw_aload_n (pc := 7) (n := 0) (x := 81) rfl (zdal_p dlD_M_laysMade_81 (i := 5) rfl) ?_
  refine zw_iload_n (pc := 8) (n := 2) (x := Int32.ofInt (ze Mz 91 (a0_).toNat)) rfl (zdal_p dlD_M_laysMade_81 (i := 6) rfl) ?_
  refine zr_callV (hf.w hW) hf.x (pc := 9) [.int (Int32.ofInt (ze Mz 91 (a0_).toNat))] [] l_M_417 (c_M_normOfF l Mz (hf.w hW) (ze Mz 91 (a0_).toNat) (by omega) (by omega) T hO p0_ (show 0 ≤ (ze Mz 91 (a0_).toNat) by first | assumption | omega) (show (ze Mz 91 (a0_).toNat) < 16777216 by first | assumption | omega)) rfl rfl rfl (by decide) (Nat.le_of_ble_eq_true rfl) (zdal_p dlD_M_laysMade_81 (i := 7) rfl) ?_
  rintro _ N2_ ⟨v3_, rfl, ⟨hv3_a, hv3_b⟩, hsN2_, ⟨hp0_N2_, hp1_N2_, hp2_N2_⟩⟩
  obtain rfl := hsN2_.eq.symm
  show zW l m_M_laysMade (zn Mz + 0, zw Mz + 0) Mz 12 [some (.ref 81), some (.int (Int32.ofInt a0_)), some (.int (Int32.ofInt (ze Mz 91 (a0_).toNat))), none, none] [.int (Int32.ofInt v3_)] _
  have hnm_ := hp2_N2_
  refine zw_istore_n (pc := 12) (i := 3) (L2 := [some (.ref 81), some (.int (Int32.ofInt a0_)), some (.int (Int32.ofInt (ze Mz 91 (a0_).toNat))), some (.int (Int32.ofInt v3_)), none]) rfl (by decide) rfl (zdal_p dlD_M_laysMade_81 (i := 8) rfl) ?_
  refine zw_aload_n (pc := 13) (n := 0) (x := 81) rfl (zdal_p dlD_M_laysMade_81 (i := 9) rfl) ?_
  refine zw_iconst (pc := 14) (v := Int32.ofInt 0) (by decide) (zdal_p dlD_M_laysMade_81 (i := 10) rfl) ?_
  refine zr_putI (hf.w hW) (pc := 15) f_M_453 rfl rfl ⟨by omega, by omega⟩ rfl rfl (zdal_p dlD_M_laysMade_81 (i := 11) rfl) (fun N4_ hsN4_ hvN4_ => ?_)
  have hf_N4_ : zFr [55] [109] Mz N4_ := hf.tr hsN4_ (by decide) (by decide)
  have e20_N4_ : ze N4_ 81 20 = ze Mz 81 20 := hsN4_.e (by decide)
  have e26_N4_ : ze N4_ 81 26 = ze Mz 81 26 := hsN4_.e (by decide)
  have r55_N4_ := ze_r N4_ 81 55
  have c5_ : zGB T N4_ := zGB.fr hsN4_ p0_ (by decide) (by decide)
  have c6_ : zTab T N4_ := zTab.fr hsN4_ dv0 (by decide) (by decide)
  have c7_ : zB 85 144 0 5 N4_ := zB.fr hsN4_ dv1 (by decide) (by decide)
  have c8_ : zJX T N4_ := zJX.fr hsN4_ dv2 (by decide) (by decide)
  have c9_ : zFirs T N4_ := zFirs.fr hsN4_ dv3 (by decide) (by decide)
  have c10_ : zSSm T N4_ := zSSm.fr hsN4_ dv4 (by decide) (by decide)
  have c11_ : zGD N4_ := zGD.fr hsN4_ dv5 (by decide) (by decide)
  refine zw_iconst (pc := 18) (v := Int32.ofInt 0) (by decide) (zdal_p dlD_M_laysMade_81 (i := 12) rfl) ?_
  refine zw_istore (pc := 19) (i := 4) (L2 := [some (.ref 81), some (.int (Int32.ofInt a0_)), some (.int (Int32.ofInt (ze Mz 91 (a0_).toNat))), some (.int (Int32.ofInt v3_)), some (.int (Int32.ofInt 0))]) (by decide) rfl (zdal_p dlD_M_laysMade_81 (i := 13) rfl) ?_
  have lp_21 : ∀ (n : Nat) (u12_ : Int) (hu12_a : -2147483648 ≤ u12_) (hu12_b : u12_ < 2147483648) (N13_ : zMem) (hs14_ : zFr [55] [109] N4_ N13_) (i15_ : 0 ≤ u12_) (i16_ : zMl T a0_ N13_ u12_) (i17_ : u12_ ≤ ze Mz 81 20) (i18_ : 0 ≤ ze N13_ 81 55) (i19_ : ze N13_ 81 55 ≤ u12_), (ze Mz 81 20 - u12_).toNat < n → zW l m_M_laysMade (zn Mz + 0, zw Mz + 0) N13_ 21 [some (.ref 81), some (.int (Int32.ofInt a0_)), some (.int (Int32.ofInt (ze Mz 91 (a0_).toNat))), some (.int (Int32.ofInt v3_)), some (.int (Int32.ofInt u12_))] [] (zpV [55] [109] Mz (fun N => zMq T a0_ N ∧ 1 ≤ ze N 81 55 ∧ ze N 81 55 ≤ 24)) := by
    intro n
    induction n with
    | zero =>
      intro u12_ hu12_a hu12_b N13_ hs14_ i15_ i16_ i17_ i18_ i19_ h0
      exact absurd h0 (Nat.not_lt_zero _)
    | succ n ih_21 =>
      intro u12_ hu12_a hu12_b N13_ hs14_ i15_ i16_ i17_ i18_ i19_ hlt_21
      have hf_N13_ : zFr [55] [109] Mz N13_ := hf_N4_.tr hs14_ (by decide) (by decide)
      have e20_N13_ : ze N13_ 81 20 = ze N4_ 81 20 := hs14_.e (by decide)
      have e26_N13_ : ze N13_ 81 26 = ze N4_ 81 26 := hs14_.e (by decide)
      have r55_N13_ := ze_r N13_ 81 55
      have c20_ : zGB T N13_ := zGB.fr hs14_ c5_ (by decide) (by decide)
      have c21_ : zTab T N13_ := zTab.fr hs14_ c6_ (by decide) (by decide)
      have c22_ : zB 85 144 0 5 N13_ := zB.fr hs14_ c7_ (by decide) (by decide)
      have c23_ : zJX T N13_ := zJX.fr hs14_ c8_ (by decide) (by decide)
      have c24_ : zFirs T N13_ := zFirs.fr hs14_ c9_ (by decide) (by decide)
      have c25_ : zSSm T N13_ := zSSm.fr hs14_ c10_ (by decide) (by decide)
      have c26_ : zGD N13_ := zGD.fr hs14_ c11_ (by decide) (by decide)
      refine zw_iload (pc := 21) (i := 4) (x := Int32.ofInt u12_) rfl (zdal_p dlD_M_laysMade_81 (i := 14) rfl) ?_
      refine zw_aload_n (pc := 23) (n := 0) (x := 81) rfl (zdal_p dlD_M_laysMade_81 (i := 15) rfl) ?_
      refine zr_getI0 hf_N13_ hW (pc := 24) (by decide) f_M_196 rfl (zdal_p dlD_M_laysMade_81 (i := 16) rfl) ?_
      refine zr_icmp_ge (pc := 27) (tgt := 93) ⟨hu12_a, hu12_b⟩ ⟨(ze_r Mz 81 20).1, (ze_r Mz 81 20).2⟩ (by decide) (zdal_p dlD_M_laysMade_81 (i := 17) rfl) (fun hc_27 => ?_) (fun hc_27 => ?_)
      · skip
        have hMd_ := zMl_e hG (show zMl T a0_ N13_ u12_ by assumption) (by omega)
        have hMd1_ := hMd_.1
        exact zr_vret (pc := 93) rfl hf_N13_ ⟨(show zMq T a0_ N13_ by exact hMd_), (show 1 ≤ ze N13_ 81 55 by first | assumption | omega), (show ze N13_ 81 55 ≤ 24 by first | assumption | omega)⟩ (zdal_p dlD_M_laysMade_83 (i := 3) rfl)
      · skip
        refine zw_iload_n (pc := 30) (n := 3) (x := Int32.ofInt v3_) rfl (zdal_p dlD_M_laysMade_81 (i := 18) rfl) ?_
        refine zw_iload (pc := 31) (i := 4) (x := Int32.ofInt u12_) rfl (zdal_p dlD_M_laysMade_81 (i := 19) rfl) ?_
        refine zr_callS hf_N13_.x (pc := 33) [.int (Int32.ofInt v3_), .int (Int32.ofInt u12_)] [] l_M_213 (c_M_holds l N13_ (hf_N13_.w hW) v3_ hv3_a hv3_b u12_ hu12_a hu12_b (show 0 ≤ v3_ by first | assumption | omega) (show 0 ≤ u12_ by first | assumption | omega) (show u12_ < 32 by first | assumption | omega)) rfl rfl (by decide) (Nat.le_of_ble_eq_true rfl) (zdal_p dlD_M_laysMade_81 (i := 20) rfl) ?_
        rintro _ N27_ ⟨v28_, rfl, ⟨hv28_a, hv28_b⟩, hsN27_, hp0_N27_⟩
        obtain rfl := hsN27_.eq.symm
        replace hp0_N27_ : ((v28_ = 1 ∧ zbt v3_ u12_) ∨ (v28_ = 0 ∧ ¬ zbt v3_ u12_)) := hp0_N27_
        rcases hp0_N27_ with ⟨rfl, ha33_0_hp0_N27_⟩ | ⟨rfl, ha33_0_hp0_N27_⟩
        · skip
          have hnt_ := (hnm_ (u12_).toNat (by omega)).mp ha33_0_hp0_N27_
          show zW l m_M_laysMade (zn Mz + 0, zw Mz + 0) N13_ 36 [some (.ref 81), some (.int (Int32.ofInt a0_)), some (.int (Int32.ofInt (ze Mz 91 (a0_).toNat))), some (.int (Int32.ofInt v3_)), some (.int (Int32.ofInt u12_))] [.int (Int32.ofInt 1)] _
          refine zr_if_eq (pc := 36) (tgt := 87) ⟨(by decide), (by decide)⟩ (by decide) (zdal_p dlD_M_laysMade_81 (i := 21) rfl) (fun hc_36 => ?_) (fun hc_36 => ?_)
          · skip
            exact absurd hc_36 (by decide)
          · skip
            refine zw_aload_n (pc := 39) (n := 0) (x := 81) rfl (zdal_p dlD_M_laysMade_81 (i := 22) rfl) ?_
            refine zw_iload_n (pc := 40) (n := 2) (x := Int32.ofInt (ze Mz 91 (a0_).toNat)) rfl (zdal_p dlD_M_laysMade_81 (i := 23) rfl) ?_
            refine zw_iload (pc := 41) (i := 4) (x := Int32.ofInt u12_) rfl (zdal_p dlD_M_laysMade_82 (i := 0) rfl) ?_
            refine zr_callV (hf_N13_.w hW) hf_N13_.x (pc := 43) [.int (Int32.ofInt (ze Mz 91 (a0_).toNat)), .int (Int32.ofInt u12_)] [] l_M_247 (c_M_leastOf l N13_ (hf_N13_.w hW) (ze Mz 91 (a0_).toNat) (by omega) (by omega) u12_ hu12_a hu12_b T hG c21_ (show 0 ≤ (ze Mz 91 (a0_).toNat) by first | assumption | omega) (show 0 ≤ u12_ by first | assumption | omega) (show u12_ < ze N13_ 81 20 by first | assumption | omega)) rfl rfl rfl (by decide) (Nat.le_of_ble_eq_true rfl) (zdal_p dlD_M_laysMade_82 (i := 1) rfl) ?_
            rintro _ N29_ ⟨v30_, rfl, ⟨hv30_a, hv30_b⟩, hsN29_, ⟨hp0_N29_, hp1_N29_, hp2_N29_⟩⟩
            obtain rfl := hsN29_.eq.symm
            show zW l m_M_laysMade (zn Mz + 0, zw Mz + 0) N13_ 46 [some (.ref 81), some (.int (Int32.ofInt a0_)), some (.int (Int32.ofInt (ze Mz 91 (a0_).toNat))), some (.int (Int32.ofInt v3_)), some (.int (Int32.ofInt u12_))] [.int (Int32.ofInt v30_)] _
            refine zw_iload (pc := 46) (i := 4) (x := Int32.ofInt u12_) rfl (zdal_p dlD_M_laysMade_82 (i := 2) rfl) ?_
            refine zr_icmp_eq (pc := 48) (tgt := 54) ⟨hv30_a, hv30_b⟩ ⟨hu12_a, hu12_b⟩ (by decide) (zdal_p dlD_M_laysMade_82 (i := 3) rfl) (fun hc_48 => ?_) (fun hc_48 => ?_)
            · skip
              refine zw_aload_n (pc := 54) (n := 0) (x := 81) rfl (zdal_p dlD_M_laysMade_82 (i := 5) rfl) ?_
              refine zr_getF (r := 109) (hf_N13_.w hW) (pc := 55) f_M_99 rfl (zh_109 (hf_N13_.w hW)).1 (zdal_p dlD_M_laysMade_82 (i := 6) rfl) ?_
              refine zw_aload_n (pc := 58) (n := 0) (x := 81) rfl (zdal_p dlD_M_laysMade_82 (i := 7) rfl) ?_
              refine zr_getI (hf_N13_.w hW) (pc := 59) f_M_453 rfl (zdal_p dlD_M_laysMade_82 (i := 8) rfl) ?_
              refine zw_aload_n (pc := 62) (n := 0) (x := 81) rfl (zdal_p dlD_M_laysMade_82 (i := 9) rfl) ?_
              refine zw_aload_n (pc := 63) (n := 0) (x := 81) rfl (zdal_p dlD_M_laysMade_82 (i := 10) rfl) ?_
              refine zw_iload_n (pc := 64) (n := 2) (x := Int32.ofInt (ze Mz 91 (a0_).toNat)) rfl (zdal_p dlD_M_laysMade_82 (i := 11) rfl) ?_
              refine zw_iconst (pc := 65) (v := Int32.ofInt 1) (by decide) (zdal_p dlD_M_laysMade_82 (i := 12) rfl) ?_
              refine zw_iload (pc := 66) (i := 4) (x := Int32.ofInt u12_) rfl (zdal_p dlD_M_laysMade_82 (i := 13) rfl) ?_
              refine zr_ishl (pc := 68) (zdal_p dlD_M_laysMade_82 (i := 14) rfl) ?_
              have hr31_ := zshl_r 1 u12_
              have hgi_ := gIn_or hG (x := (ze Mz 91 (a0_).toNat)) (g := u12_) (by omega) (hfg.1.i hO).2 (by omega) (by omega)
              refine zr_ior (pc := 69) (zdal_p dlD_M_laysMade_82 (i := 15) rfl) ?_
              have hr32_ := zor_r (ze Mz 91 (a0_).toNat) (zshl 1 u12_)
              refine zr_callV (hf_N13_.w hW) hf_N13_.x (pc := 70) [.int (Int32.ofInt (zor (ze Mz 91 (a0_).toNat) (zshl 1 u12_)))] [.ref 81, .int (Int32.ofInt (ze N13_ 81 55)), .ref 109] l_M_229 (c_M_closed l N13_ (hf_N13_.w hW) (zor (ze Mz 91 (a0_).toNat) (zshl 1 u12_)) (by omega) (by omega) T hG c21_ (show gIn T (zor (ze Mz 91 (a0_).toNat) (zshl 1 u12_)) by exact hgi_.1)) rfl rfl rfl (by decide) (Nat.le_of_ble_eq_true rfl) (zdal_p dlD_M_laysMade_82 (i := 16) rfl) ?_
              rintro _ N33_ ⟨v34_, rfl, ⟨hv34_a, hv34_b⟩, hsN33_, ⟨hp0_N33_, hp1_N33_, hp2_N33_⟩⟩
              obtain rfl := hsN33_.eq.symm
              show zW l m_M_laysMade (zn Mz + 0, zw Mz + 0) N13_ 73 [some (.ref 81), some (.int (Int32.ofInt a0_)), some (.int (Int32.ofInt (ze Mz 91 (a0_).toNat))), some (.int (Int32.ofInt v3_)), some (.int (Int32.ofInt u12_))] [.int (Int32.ofInt v34_), .ref 81, .int (Int32.ofInt (ze N13_ 81 55)), .ref 109] _
              have hLC_ := hp0_N33_
              rw [hgi_.2] at hLC_
              have hm_N13_ := gMe_c hO hp0_N33_ (by omega)
              refine zr_callV (hf_N13_.w hW) hf_N13_.x (pc := 73) [.int (Int32.ofInt v34_)] [.int (Int32.ofInt (ze N13_ 81 55)), .ref 109] l_M_411 (c_M_sortOfSetF l N13_ (hf_N13_.w hW) v34_ hv34_a hv34_b T hO c20_ (show gMe T v34_ by assumption)) rfl rfl rfl (by decide) (Nat.le_of_ble_eq_true rfl) (zdal_p dlD_M_laysMade_82 (i := 17) rfl) ?_
              rintro _ N35_ ⟨v36_, rfl, ⟨hv36_a, hv36_b⟩, hsN35_, ⟨hp0_N35_, hp1_N35_, hp2_N35_⟩⟩
              obtain rfl := hsN35_.eq.symm
              show zW l m_M_laysMade (zn Mz + 0, zw Mz + 0) N13_ 76 [some (.ref 81), some (.int (Int32.ofInt a0_)), some (.int (Int32.ofInt (ze Mz 91 (a0_).toNat))), some (.int (Int32.ofInt v3_)), some (.int (Int32.ofInt u12_))] [.int (Int32.ofInt v36_), .int (Int32.ofInt (ze N13_ 81 55)), .ref 109] _
              have hgl_ := hp2_N35_
              have hFi_ := c24_
              refine zr_iast (pc := 76) (zh_109 (hf_N13_.w hW)).2 (by decide) (by decide) (by omega) (by omega) (zdal_p dlD_M_laysMade_82 (i := 18) rfl) (fun N37_ hN37_ hsN37_ => ?_)
              have hf_N37_ : zFr [55] [109] Mz N37_ := hf_N13_.tr hsN37_ (by decide) (by decide)
              have hb0_N37_ : zFr [55] [109] N4_ N37_ := hs14_.tr hsN37_ (by decide) (by decide)
              have e20_N37_ : ze N37_ 81 20 = ze N13_ 81 20 := hsN37_.e (by decide)
              have e26_N37_ : ze N37_ 81 26 = ze N13_ 81 26 := hsN37_.e (by decide)
              have e55_N37_ : ze N37_ 81 55 = ze N13_ 81 55 := hsN37_.e (by decide)
              have c38_ : zGB T N37_ := zGB.fr hsN37_ c20_ (by decide) (by decide)
              have c39_ : zTab T N37_ := zTab.fr hsN37_ c21_ (by decide) (by decide)
              have c40_ : zB 85 144 0 5 N37_ := zB.fr hsN37_ c22_ (by decide) (by decide)
              have c41_ : zJX T N37_ := zJX.fr hsN37_ c23_ (by decide) (by decide)
              have c42_ : zFirs T N37_ := zFirs.fr hsN37_ c24_ (by decide) (by decide)
              have c43_ : zSSm T N37_ := zSSm.fr hsN37_ c25_ (by decide) (by decide)
              have c44_ : zGD N37_ := zGD.fr hsN37_ c26_ (by decide) (by decide)
              refine zw_aload_n (pc := 77) (n := 0) (x := 81) rfl (zdal_p dlD_M_laysMade_82 (i := 19) rfl) ?_
              refine zw_dup (pc := 78) rfl (zdal_p dlD_M_laysMade_82 (i := 20) rfl) ?_
              refine zr_getI (hf_N37_.w hW) (pc := 79) f_M_453 rfl (zdal_p dlD_M_laysMade_82 (i := 21) rfl) ?_
              refine zw_iconst (pc := 82) (v := Int32.ofInt 1) (by decide) (zdal_p dlD_M_laysMade_82 (i := 22) rfl) ?_
              refine zr_iadd (pc := 83) (zdal_p dlD_M_laysMade_82 (i := 23) rfl) ?_
              refine zr_putI (hf_N37_.w hW) (pc := 84) f_M_453 rfl rfl ⟨by omega, by omega⟩ rfl rfl (zdal_p dlD_M_laysMade_83 (i := 0) rfl) (fun N45_ hsN45_ hvN45_ => ?_)
              have hf_N45_ : zFr [55] [109] Mz N45_ := hf_N37_.tr hsN45_ (by decide) (by decide)
              have hb0_N45_ : zFr [55] [109] N4_ N45_ := hb0_N37_.tr hsN45_ (by decide) (by decide)
              have e20_N45_ : ze N45_ 81 20 = ze N37_ 81 20 := hsN45_.e (by decide)
              have e26_N45_ : ze N45_ 81 26 = ze N37_ 81 26 := hsN45_.e (by decide)
              have r55_N45_ := ze_r N45_ 81 55
              have c46_ : zGB T N45_ := zGB.fr hsN45_ c38_ (by decide) (by decide)
              have c47_ : zTab T N45_ := zTab.fr hsN45_ c39_ (by decide) (by decide)
              have c48_ : zB 85 144 0 5 N45_ := zB.fr hsN45_ c40_ (by decide) (by decide)
              have c49_ : zJX T N45_ := zJX.fr hsN45_ c41_ (by decide) (by decide)
              have c50_ : zFirs T N45_ := zFirs.fr hsN45_ c42_ (by decide) (by decide)
              have c51_ : zSSm T N45_ := zSSm.fr hsN45_ c43_ (by decide) (by decide)
              have c52_ : zGD N45_ := zGD.fr hsN45_ c44_ (by decide) (by decide)
              have hns_ := zMl_s hO hX hFi_ (show zMl T a0_ N13_ u12_ by assumption) (by omega) (by omega) (by omega) (by omega) (F := (ze Mz 91 (a0_).toNat)) (by omega) hnt_ (by omega) hLC_ (by omega) (by omega) hgl_ hN37_ hsN45_ (by omega)
              refine zr_iinc (pc := 87) (i := 4) (a := u12_) (n := 1) (L2 := [some (.ref 81), some (.int (Int32.ofInt a0_)), some (.int (Int32.ofInt (ze Mz 91 (a0_).toNat))), some (.int (Int32.ofInt v3_)), some (.int (Int32.ofInt (u12_ + 1)))]) rfl (by decide) rfl (zdal_p dlD_M_laysMade_83 (i := 1) rfl) ?_
              refine zw_goto (pc := 90) (tgt := 21) (by decide) (zdal_p dlD_M_laysMade_83 (i := 2) rfl) ?_
              exact ih_21 (u12_ + 1) (by omega) (by omega) N45_ hb0_N45_ (show 0 ≤ (u12_ + 1) by first | assumption | omega) (show zMl T a0_ N45_ (u12_ + 1) by exact hns_) (show (u12_ + 1) ≤ ze Mz 81 20 by first | assumption | omega) (show 0 ≤ ze N45_ 81 55 by first | assumption | omega) (show ze N45_ 81 55 ≤ (u12_ + 1) by first | assumption | omega) (by omega)
            · skip
              have hns_ := zMl_n hO hX (show zMl T a0_ N13_ u12_ by assumption) (by omega) (by omega) (by omega) (F := (ze Mz 91 (a0_).toNat)) (by omega) (Or.inr (by omega))
              refine zw_goto (pc := 51) (tgt := 87) (by decide) (zdal_p dlD_M_laysMade_82 (i := 4) rfl) ?_
              refine zr_iinc (pc := 87) (i := 4) (a := u12_) (n := 1) (L2 := [some (.ref 81), some (.int (Int32.ofInt a0_)), some (.int (Int32.ofInt (ze Mz 91 (a0_).toNat))), some (.int (Int32.ofInt v3_)), some (.int (Int32.ofInt (u12_ + 1)))]) rfl (by decide) rfl (zdal_p dlD_M_laysMade_83 (i := 1) rfl) ?_
              refine zw_goto (pc := 90) (tgt := 21) (by decide) (zdal_p dlD_M_laysMade_83 (i := 2) rfl) ?_
              exact ih_21 (u12_ + 1) (by omega) (by omega) N13_ hs14_ (show 0 ≤ (u12_ + 1) by first | assumption | omega) (show zMl T a0_ N13_ (u12_ + 1) by exact hns_) (show (u12_ + 1) ≤ ze Mz 81 20 by first | assumption | omega) (show 0 ≤ ze N13_ 81 55 by first | assumption | omega) (show ze N13_ 81 55 ≤ (u12_ + 1) by first | assumption | omega) (by omega)
        · skip
          have hns_ := zMl_n hO hX (show zMl T a0_ N13_ u12_ by assumption) (by omega) (by omega) (by omega) (F := (ze Mz 91 (a0_).toNat)) (by omega) (Or.inl (fun e => ha33_0_hp0_N27_ ((hnm_ (u12_).toNat (by omega)).mpr e)))
          show zW l m_M_laysMade (zn Mz + 0, zw Mz + 0) N13_ 36 [some (.ref 81), some (.int (Int32.ofInt a0_)), some (.int (Int32.ofInt (ze Mz 91 (a0_).toNat))), some (.int (Int32.ofInt v3_)), some (.int (Int32.ofInt u12_))] [.int (Int32.ofInt 0)] _
          refine zr_if_eq (pc := 36) (tgt := 87) ⟨(by decide), (by decide)⟩ (by decide) (zdal_p dlD_M_laysMade_81 (i := 21) rfl) (fun hc_36 => ?_) (fun hc_36 => ?_)
          · skip
            refine zr_iinc (pc := 87) (i := 4) (a := u12_) (n := 1) (L2 := [some (.ref 81), some (.int (Int32.ofInt a0_)), some (.int (Int32.ofInt (ze Mz 91 (a0_).toNat))), some (.int (Int32.ofInt v3_)), some (.int (Int32.ofInt (u12_ + 1)))]) rfl (by decide) rfl (zdal_p dlD_M_laysMade_83 (i := 1) rfl) ?_
            refine zw_goto (pc := 90) (tgt := 21) (by decide) (zdal_p dlD_M_laysMade_83 (i := 2) rfl) ?_
            exact ih_21 (u12_ + 1) (by omega) (by omega) N13_ hs14_ (show 0 ≤ (u12_ + 1) by first | assumption | omega) (show zMl T a0_ N13_ (u12_ + 1) by exact hns_) (show (u12_ + 1) ≤ ze Mz 81 20 by first | assumption | omega) (show 0 ≤ ze N13_ 81 55 by first | assumption | omega) (show ze N13_ 81 55 ≤ (u12_ + 1) by first | assumption | omega) (by omega)
          · skip
            exact absurd hc_36 (by decide)
  exact lp_21 _ 0 (by decide) (by decide) N4_ zFr.rf (show 0 ≤ (0 : Int) by first | assumption | omega) (show zMl T a0_ N4_ (0 : Int) by exact zMl_0 (by omega)) (show (0 : Int) ≤ ze Mz 81 20 by first | assumption | omega) (show 0 ≤ ze N4_ 81 55 by first | assumption | omega) (show ze N4_ 81 55 ≤ (0 : Int) by first | assumption | omega) (Nat.lt_succ_self _)
set_option maxHeartbeats 4000000 in
theorem c_M_isUnitAt (l : Launch) (Mz : zMem) (hW : zMt Mz) (a0_ : Int) (ha0_a : -2147483648 ≤ a0_) (ha0_b : a0_ < 2147483648) (a1_ : Int) (ha1_a : -2147483648 ≤ a1_) (ha1_b : a1_ < 2147483648) (T : zGT) (hO : gOK T) (hX : gEx T) (p0_ : zGB T Mz) (p1_ : 0 ≤ a0_) (p2_ : zMq T a1_ Mz) : zC l m_M_isUnitAt 0 0 [.ref 81, .int (Int32.ofInt a0_), .int (Int32.ofInt a1_)] Mz (zpI [] [] Mz (fun v N => (((v = 1 ∧ zuk Mz a0_) ∨ (v = 0 ∧ ¬ zuk Mz a0_))))) := by
  refine zC_of (L0 := [some (.ref 81), some (.int (Int32.ofInt a0_)), some (.int (Int32.ofInt a1_)), none, none]) md_M_isUnitAt (Nat.le_of_ble_eq_true rfl) rfl ?_ zQ0
  have hf : zFr [] [] Mz Mz := zFr.rf
  have r_26 := ze_r Mz 81 26
  have r_55 := ze_r Mz 81 55
  have hG := hO.1
  have g24 := hG.2.1
  have g1 := hG.1
  have dv0 : zTab T Mz := p0_.1
  have dv1 : zB 85 144 0 5 Mz := p0_.2.1
  have dv2 : zJX T Mz := p0_.2.2.1
  have dv3 : zFirs T Mz := p0_.2.2.2.1
  have dv4 : zSSm T Mz := p0_.2.2.2.2.1
  have dv5 : zGD Mz := zGB.d hO p0_
  have gb := dv5.1
  have gn := dv0.1
  have gfl := dv3.1
  have gf6 := gF_pos hO
  have gxl := hX.2.1
  have hmd1_ := p2_.1
  refine zw_iconst (pc := 0) (v := Int32.ofInt 0) (by decide) (zdal_p dlD_M_isUnitAt_84 (i := 0) rfl) ?_
  refine zw_istore_n (pc := 1) (i := 3) (L2 := [some (.ref 81), some (.int (Int32.ofInt a0_)), some (.int (Int32.ofInt a1_)), some (.int (Int32.ofInt 0)), none]) rfl (by decide) rfl (zdal_p dlD_M_isUnitAt_84 (i := 1) rfl) ?_
  refine zw_iconst (pc := 2) (v := Int32.ofInt 0) (by decide) (zdal_p dlD_M_isUnitAt_84 (i := 2) rfl) ?_
  refine zw_istore (pc := 3) (i := 4) (L2 := [some (.ref 81), some (.int (Int32.ofInt a0_)), some (.int (Int32.ofInt a1_)), some (.int (Int32.ofInt 0)), some (.int (Int32.ofInt 0))]) (by decide) rfl (zdal_p dlD_M_isUnitAt_84 (i := 3) rfl) ?_
  have lp_5 : ∀ (n : Nat) (u1_ : Int) (hu1_a : -2147483648 ≤ u1_) (hu1_b : u1_ < 2147483648) (u2_ : Int) (hu2_a : -2147483648 ≤ u2_) (hu2_b : u2_ < 2147483648) (i3_ : 0 ≤ u2_) (i4_ : u2_ ≤ ze Mz 81 55) (i5_ : u1_ = zus Mz a0_ (u2_).toNat), (ze Mz 81 55 - u2_).toNat < n → zW l m_M_isUnitAt (zn Mz + 0, zw Mz + 0) Mz 5 [some (.ref 81), some (.int (Int32.ofInt a0_)), some (.int (Int32.ofInt a1_)), some (.int (Int32.ofInt u1_)), some (.int (Int32.ofInt u2_))] [] (zpI [] [] Mz (fun v N => (((v = 1 ∧ zuk Mz a0_) ∨ (v = 0 ∧ ¬ zuk Mz a0_))))) := by
    intro n
    induction n with
    | zero =>
      intro u1_ hu1_a hu1_b u2_ hu2_a hu2_b i3_ i4_ i5_ h0
      exact absurd h0 (Nat.not_lt_zero _)
    | succ n ih_5 =>
      intro u1_ hu1_a hu1_b u2_ hu2_a hu2_b i3_ i4_ i5_ hlt_5
      have hzb_ := zus_b Mz a0_ (u2_).toNat
      refine zw_iload (pc := 5) (i := 4) (x := Int32.ofInt u2_) rfl (zdal_p dlD_M_isUnitAt_84 (i := 4) rfl) ?_
      refine zw_aload_n (pc := 7) (n := 0) (x := 81) rfl (zdal_p dlD_M_isUnitAt_84 (i := 5) rfl) ?_
      refine zr_getI0 hf hW (pc := 8) (by decide) f_M_453 rfl (zdal_p dlD_M_isUnitAt_84 (i := 6) rfl) ?_
      refine zr_icmp_ge (pc := 11) (tgt := 49) ⟨hu2_a, hu2_b⟩ ⟨(ze_r Mz 81 55).1, (ze_r Mz 81 55).2⟩ (by decide) (zdal_p dlD_M_isUnitAt_84 (i := 7) rfl) (fun hc_11 => ?_) (fun hc_11 => ?_)
      · skip
        refine zw_iload_n (pc := 49) (n := 3) (x := Int32.ofInt u1_) rfl (zdal_p dlD_M_isUnitAt_85 (i := 4) rfl) ?_
        refine zw_aload_n (pc := 50) (n := 0) (x := 81) rfl (zdal_p dlD_M_isUnitAt_85 (i := 5) rfl) ?_
        refine zr_getI0 hf hW (pc := 51) (by decide) f_M_453 rfl (zdal_p dlD_M_isUnitAt_85 (i := 6) rfl) ?_
        refine zr_irem (pc := 54) ⟨by omega, by omega⟩ (by omega) (zdal_p dlD_M_isUnitAt_85 (i := 7) rfl) ?_
        have hr6_ := zrem_r u1_ (ze Mz 81 55)
        have hzd_ := zrem_d (a := u1_) (b := ze Mz 81 55) (by omega) (by omega) (by omega) (by omega)
        refine zr_if_ne (pc := 55) (tgt := 62) ⟨(by omega), (by omega)⟩ (by decide) (zdal_p dlD_M_isUnitAt_85 (i := 8) rfl) (fun hc_55 => ?_) (fun hc_55 => ?_)
        · skip
          refine zw_iconst (pc := 62) (v := Int32.ofInt 0) (by decide) (zdal_p dlD_M_isUnitAt_85 (i := 11) rfl) ?_
          have hL_ : u1_ = zus Mz a0_ (ze Mz 81 55).toNat := by rw [show ze Mz 81 55 = u2_ by omega]; assumption
          exact zr_iret (pc := 63) (ty := .boolean) rfl (z_narB (by omega)) ⟨by omega, by omega⟩ hf (show ((0 = 1 ∧ zuk Mz a0_) ∨ (0 = 0 ∧ ¬ zuk Mz a0_)) from Or.inr (⟨(show 0 = 0 by first | rfl | (intro hk_; unfold zuk at hk_; rw [← hL_] at hk_; exact absurd (hzd_.mpr hk_) (by omega))), (show ¬ zuk Mz a0_ by first | rfl | (intro hk_; unfold zuk at hk_; rw [← hL_] at hk_; exact absurd (hzd_.mpr hk_) (by omega)))⟩)) (zdal_p dlD_M_isUnitAt_85 (i := 12) rfl)
        · skip
          refine zw_iconst (pc := 58) (v := Int32.ofInt 1) (by decide) (zdal_p dlD_M_isUnitAt_85 (i := 9) rfl) ?_
          refine zw_goto (pc := 59) (tgt := 63) (by decide) (zdal_p dlD_M_isUnitAt_85 (i := 10) rfl) ?_
          have hL_ : u1_ = zus Mz a0_ (ze Mz 81 55).toNat := by rw [show ze Mz 81 55 = u2_ by omega]; assumption
          exact zr_iret (pc := 63) (ty := .boolean) rfl (z_narB (by omega)) ⟨by omega, by omega⟩ hf (show ((1 = 1 ∧ zuk Mz a0_) ∨ (1 = 0 ∧ ¬ zuk Mz a0_)) from Or.inl (⟨(show 1 = 1 by first | rfl | (have h := hzd_.mp (by omega); rwa [hL_] at h)), (show zuk Mz a0_ by first | rfl | (have h := hzd_.mp (by omega); rwa [hL_] at h))⟩)) (zdal_p dlD_M_isUnitAt_85 (i := 12) rfl)
      · skip
        refine zw_iload_n (pc := 14) (n := 3) (x := Int32.ofInt u1_) rfl (zdal_p dlD_M_isUnitAt_84 (i := 8) rfl) ?_
        refine zw_iload_n (pc := 15) (n := 1) (x := Int32.ofInt a0_) rfl (zdal_p dlD_M_isUnitAt_84 (i := 9) rfl) ?_
        refine zw_aload_n (pc := 16) (n := 0) (x := 81) rfl (zdal_p dlD_M_isUnitAt_84 (i := 10) rfl) ?_
        refine zr_getI0 hf hW (pc := 17) (by decide) f_M_235 rfl (zdal_p dlD_M_isUnitAt_84 (i := 11) rfl) ?_
        refine zw_iconst (pc := 20) (v := Int32.ofInt 1) (by decide) (zdal_p dlD_M_isUnitAt_84 (i := 12) rfl) ?_
        refine zr_isub (pc := 21) (zdal_p dlD_M_isUnitAt_84 (i := 13) rfl) ?_
        refine zw_aload_n (pc := 22) (n := 0) (x := 81) rfl (zdal_p dlD_M_isUnitAt_84 (i := 14) rfl) ?_
        refine zr_getF (r := 109) (hf.w hW) (pc := 23) f_M_99 rfl (zh_109 (hf.w hW)).1 (zdal_p dlD_M_isUnitAt_84 (i := 15) rfl) ?_
        refine zw_iload (pc := 26) (i := 4) (x := Int32.ofInt u2_) rfl (zdal_p dlD_M_isUnitAt_84 (i := 16) rfl) ?_
        refine zr_ialdn (pc := 28) (zh_109 (hf.w hW)).2 (by decide) (by omega) (by omega) (zdal_p dlD_M_isUnitAt_84 (i := 17) rfl) (fun v7_ hv7_ hv7_a hv7_b => ?_)
        have hmr_ := p2_.2.1 (u2_).toNat (by omega)
        refine zr_isub (pc := 29) (zdal_p dlD_M_isUnitAt_84 (i := 18) rfl) ?_
        have hix_ : (((ze Mz 81 26) - 1) - v7_) = ze Mz 81 26 - 1 - ze Mz 109 (u2_).toNat := by omega
        refine zr_callS hf.x (pc := 30) [.int (Int32.ofInt a0_), .int (Int32.ofInt (((ze Mz 81 26) - 1) - v7_))] [.int (Int32.ofInt u1_)] l_M_213 (c_M_holds l Mz (hf.w hW) a0_ ha0_a ha0_b (((ze Mz 81 26) - 1) - v7_) (by omega) (by omega) (show 0 ≤ a0_ by first | assumption | omega) (show 0 ≤ (((ze Mz 81 26) - 1) - v7_) by first | assumption | omega) (show (((ze Mz 81 26) - 1) - v7_) < 32 by first | assumption | omega)) rfl rfl (by decide) (Nat.le_of_ble_eq_true rfl) (zdal_p dlD_M_isUnitAt_84 (i := 19) rfl) ?_
        rintro _ N8_ ⟨v9_, rfl, ⟨hv9_a, hv9_b⟩, hsN8_, hp0_N8_⟩
        obtain rfl := hsN8_.eq.symm
        replace hp0_N8_ : ((v9_ = 1 ∧ zbt a0_ (((ze Mz 81 26) - 1) - v7_)) ∨ (v9_ = 0 ∧ ¬ zbt a0_ (((ze Mz 81 26) - 1) - v7_))) := hp0_N8_
        rcases hp0_N8_ with ⟨rfl, ha30_0_hp0_N8_⟩ | ⟨rfl, ha30_0_hp0_N8_⟩
        · skip
          have hzs_ := zus_s (t := -1) (by omega) (show u1_ = zus Mz a0_ (u2_).toNat by assumption) hix_ (Or.inl ⟨rfl, ha30_0_hp0_N8_⟩)
          show zW l m_M_isUnitAt (zn Mz + 0, zw Mz + 0) Mz 33 [some (.ref 81), some (.int (Int32.ofInt a0_)), some (.int (Int32.ofInt a1_)), some (.int (Int32.ofInt u1_)), some (.int (Int32.ofInt u2_))] [.int (Int32.ofInt 1), .int (Int32.ofInt u1_)] _
          refine zr_if_eq (pc := 33) (tgt := 40) ⟨(by decide), (by decide)⟩ (by decide) (zdal_p dlD_M_isUnitAt_84 (i := 20) rfl) (fun hc_33 => ?_) (fun hc_33 => ?_)
          · skip
            exact absurd hc_33 (by decide)
          · skip
            refine zw_iconst (pc := 36) (v := Int32.ofInt (-1)) (by decide) (zdal_p dlD_M_isUnitAt_84 (i := 21) rfl) ?_
            refine zw_goto (pc := 37) (tgt := 41) (by decide) (zdal_p dlD_M_isUnitAt_84 (i := 22) rfl) ?_
            refine zr_iadd (pc := 41) (zdal_p dlD_M_isUnitAt_85 (i := 0) rfl) ?_
            refine zw_istore_n (pc := 42) (i := 3) (L2 := [some (.ref 81), some (.int (Int32.ofInt a0_)), some (.int (Int32.ofInt a1_)), some (.int (Int32.ofInt (u1_ + ((-1))))), some (.int (Int32.ofInt u2_))]) rfl (by decide) rfl (zdal_p dlD_M_isUnitAt_85 (i := 1) rfl) ?_
            refine zr_iinc (pc := 43) (i := 4) (a := u2_) (n := 1) (L2 := [some (.ref 81), some (.int (Int32.ofInt a0_)), some (.int (Int32.ofInt a1_)), some (.int (Int32.ofInt (u1_ + ((-1))))), some (.int (Int32.ofInt (u2_ + 1)))]) rfl (by decide) rfl (zdal_p dlD_M_isUnitAt_85 (i := 2) rfl) ?_
            refine zw_goto (pc := 46) (tgt := 5) (by decide) (zdal_p dlD_M_isUnitAt_85 (i := 3) rfl) ?_
            exact ih_5 (u1_ + ((-1))) (by omega) (by omega) (u2_ + 1) (by omega) (by omega) (show 0 ≤ (u2_ + 1) by first | assumption | omega) (show (u2_ + 1) ≤ ze Mz 81 55 by first | assumption | omega) (show (u1_ + ((-1))) = zus Mz a0_ ((u2_ + 1)).toNat by exact hzs_) (by omega)
        · skip
          have hzs_ := zus_s (t := 1) (by omega) (show u1_ = zus Mz a0_ (u2_).toNat by assumption) hix_ (Or.inr ⟨rfl, ha30_0_hp0_N8_⟩)
          show zW l m_M_isUnitAt (zn Mz + 0, zw Mz + 0) Mz 33 [some (.ref 81), some (.int (Int32.ofInt a0_)), some (.int (Int32.ofInt a1_)), some (.int (Int32.ofInt u1_)), some (.int (Int32.ofInt u2_))] [.int (Int32.ofInt 0), .int (Int32.ofInt u1_)] _
          refine zr_if_eq (pc := 33) (tgt := 40) ⟨(by decide), (by decide)⟩ (by decide) (zdal_p dlD_M_isUnitAt_84 (i := 20) rfl) (fun hc_33 => ?_) (fun hc_33 => ?_)
          · skip
            refine zw_iconst (pc := 40) (v := Int32.ofInt 1) (by decide) (zdal_p dlD_M_isUnitAt_84 (i := 23) rfl) ?_
            refine zr_iadd (pc := 41) (zdal_p dlD_M_isUnitAt_85 (i := 0) rfl) ?_
            refine zw_istore_n (pc := 42) (i := 3) (L2 := [some (.ref 81), some (.int (Int32.ofInt a0_)), some (.int (Int32.ofInt a1_)), some (.int (Int32.ofInt (u1_ + 1))), some (.int (Int32.ofInt u2_))]) rfl (by decide) rfl (zdal_p dlD_M_isUnitAt_85 (i := 1) rfl) ?_
            refine zr_iinc (pc := 43) (i := 4) (a := u2_) (n := 1) (L2 := [some (.ref 81), some (.int (Int32.ofInt a0_)), some (.int (Int32.ofInt a1_)), some (.int (Int32.ofInt (u1_ + 1))), some (.int (Int32.ofInt (u2_ + 1)))]) rfl (by decide) rfl (zdal_p dlD_M_isUnitAt_85 (i := 2) rfl) ?_
            refine zw_goto (pc := 46) (tgt := 5) (by decide) (zdal_p dlD_M_isUnitAt_85 (i := 3) rfl) ?_
            exact ih_5 (u1_ + 1) (by omega) (by omega) (u2_ + 1) (by omega) (by omega) (show 0 ≤ (u2_ + 1) by first | assumption | omega) (show (u2_ + 1) ≤ ze Mz 81 55 by first | assumption | omega) (show (u1_ + 1) = zus Mz a0_ ((u2_ + 1)).toNat by exact hzs_) (by omega)
          · skip
            exact absurd hc_33 (by decide)
  exact lp_5 _ 0 (by decide) (by decide) 0 (by decide) (by decide) (show 0 ≤ (0 : Int) by first | assumption | omega) (show (0 : Int) ≤ ze Mz 81 55 by first | assumption | omega) (show (0 : Int) = zus Mz a0_ ((0 : Int)).toNat by rfl) (Nat.lt_succ_self _)
