def zRb (b : Nat → Int) (n : Nat) (M : zMem) : Prop := ze M 81 2 = n ∧ n ≤ 700 ∧ zBy b n ∧ ∀ k, k < n → ze M 82 k = b k
def zRt (b : Nat → Int) (n : Nat) (M : zMem) : Prop := (0 ≤ ze M 81 4 ∧ ze M 81 4 ≤ n) ∧ ze M 81 3 = (zen b n (ze M 81 4).toNat : Nat) ∧ ze M 81 5 = zkd b n (ze M 81 4).toNat ∧ (zkd b n (ze M 81 4).toNat = 1 → zg M 81 11 = zw8 b (ze M 81 4).toNat (zen b n (ze M 81 4).toNat - (ze M 81 4).toNat)) ∧ (zkd b n (ze M 81 4).toNat = 2 → ze M 81 6 = zvl b (ze M 81 4).toNat (zen b n (ze M 81 4).toNat - (ze M 81 4).toNat)) ∧ (zkd b n (ze M 81 4).toNat = 3 → ze M 81 6 = b (ze M 81 4).toNat)
section ZRB
variable {b : Nat → Int} {n : Nat} {S C : List Nat} {M N : zMem}
theorem zRb.fr (hf : zFr S C M N) (h : zRb b n M) (hs : 2 ∉ S) (hc : 82 ∉ C) : zRb b n N :=
  ⟨(hf.e hs).trans h.1, h.2.1, h.2.2.1, fun k hk => (hf.ie (by decide) hc k).trans (h.2.2.2 k hk)⟩
theorem zRt.fr (hf : zFr S C M N) (h : zRt b n M) (hs : 3 ∉ S ∧ 4 ∉ S ∧ 5 ∉ S ∧ 6 ∉ S ∧ 11 ∉ S) (_ : True) : zRt b n N := by
  unfold zRt
  rw [hf.e hs.1, hf.e hs.2.1, hf.e hs.2.2.1, hf.e hs.2.2.2.1, hf.g hs.2.2.2.2]
  exact h
theorem zRb.h (h : zRb b n M) {k : Int} (h0 : 0 ≤ ze M 81 3 + k) : (ze M 81 3 + k < n ∧ zhr M k = b (ze M 81 3 + k).toNat ∧ 0 ≤ zhr M k ∧ zhr M k ≤ 255) ∨ ((n : Int) ≤ ze M 81 3 + k ∧ zhr M k = -1) := by
  unfold zhr
  rw [h.1]
  by_cases g : ze M 81 3 + k < (n : Int)
  · rw [if_pos g]
    have e := h.2.2.2 (ze M 81 3 + k).toNat (by omega)
    have hb := h.2.2.1 (ze M 81 3 + k).toNat (by omega)
    exact Or.inl ⟨g, e, by omega, by omega⟩
  · rw [if_neg g]
    exact Or.inr ⟨by omega, rfl⟩
theorem zRt.x (h : zRt b n M) : (0 ≤ ze M 81 4 ∧ ze M 81 4 ≤ n) ∧ 0 ≤ ze M 81 3 ∧ ze M 81 3 ≤ n := by
  have h1 := h.1
  have h2 := h.2.1
  have h3 := zen_le (b := b) (n := n) (s := (ze M 81 4).toNat) (by omega)
  omega
theorem zRt.nx (h : zRt b n M) (hp : ze N 81 4 = (zru zpB b n (ze M 81 3).toNat : Nat)) : ze N 81 4 = ((znx b n (ze M 81 4).toNat : Nat) : Int) ∧ (ze N 81 4).toNat = znx b n (ze M 81 4).toNat := by
  have h2 := h.2.1
  have e : (ze M 81 3).toNat = zen b n (ze M 81 4).toNat := by omega
  rw [e] at hp
  unfold znx
  exact ⟨hp, by omega⟩
theorem zRt.v2 (h : zRt b n M) (h2 : zkd b n (ze M 81 4).toNat = 2) : ze M 81 6 = znu b n (ze M 81 4).toNat ∧ 0 ≤ ze M 81 6 ∧ ze M 81 6 ≤ 999 := by
  have e : ze M 81 6 = znu b n (ze M 81 4).toNat := h.2.2.2.2.1 h2
  have := znu_b h2
  exact ⟨e, by omega, by omega⟩
theorem zRt_L {s : Nat} (es : ze M 81 4 = s) (h : s < n) (hl : zpL (b s) = true) (h3 : ze M 81 3 = (zru zpL b n s : Nat)) (h5 : ((zru zpL b n s : Nat) : Int) - s ≤ 6 → zg M 81 11 = zw8 b s (zru zpL b n s - s)) (h4 : (((zru zpL b n s : Nat) : Int) - s ≤ 6 ∧ ze M 81 5 = 1) ∨ (6 < ((zru zpL b n s : Nat) : Int) - s ∧ ze M 81 5 = 4)) : zRt b n M := by
  obtain ⟨k1, k2⟩ := zkd_L h hl
  have e : (ze M 81 4).toNat = s := by omega
  unfold zRt
  rw [e, k2, k1]
  refine ⟨⟨by omega, by omega⟩, h3, ?_, ?_, ?_, ?_⟩
  · rcases h4 with ⟨a, c⟩ | ⟨a, c⟩
    · rw [if_pos (by omega)]; exact c
    · rw [if_neg (by omega)]; exact c
  · intro hk
    refine h5 ?_
    by_cases g : zru zpL b n s ≤ s + 6
    · omega
    · rw [if_neg g] at hk; exact absurd hk (by decide)
  · intro hk
    split at hk <;> exact absurd hk (by decide)
  · intro hk
    split at hk <;> exact absurd hk (by decide)
theorem zRt_D {s : Nat} (es : ze M 81 4 = s) (h : s < n) (hl : zpL (b s) = false) (hd : zpD (b s) = true) (h3 : ze M 81 3 = (zru zpD b n s : Nat)) (h5 : zru zpD b n s ≤ s + 3 → ze M 81 6 = zvl b s (zru zpD b n s - s)) (h4 : (zNok b n s ∧ ze M 81 5 = 2) ∨ (¬ zNok b n s ∧ ze M 81 5 = 4)) : zRt b n M := by
  obtain ⟨k1, k2⟩ := zkd_D h hl hd
  have e : (ze M 81 4).toNat = s := by omega
  unfold zRt
  rw [e, k2, k1]
  refine ⟨⟨by omega, by omega⟩, h3, ?_, ?_, ?_, ?_⟩
  · rcases h4 with ⟨a, c⟩ | ⟨a, c⟩
    · rw [if_pos (by exact a)]; exact c
    · rw [if_neg (by exact a)]; exact c
  · intro hk
    split at hk <;> exact absurd hk (by decide)
  · intro hk
    refine h5 ?_
    by_cases g : zNok b n s
    · exact g.1
    · rw [if_neg (by exact g)] at hk; exact absurd hk (by decide)
  · intro hk
    split at hk <;> exact absurd hk (by decide)
theorem zRt_S {s : Nat} (es : ze M 81 4 = s) (h : s < n) (hl : zpL (b s) = false) (hd : zpD (b s) = false) (h3 : ze M 81 3 = s + 1) (h5 : ze M 81 6 = b s) (h4 : (zpS (b s) = true ∧ ze M 81 5 = 3) ∨ (zpS (b s) = false ∧ ze M 81 5 = 4)) : zRt b n M := by
  obtain ⟨k1, k2⟩ := zkd_S h hl hd
  have e : (ze M 81 4).toNat = s := by omega
  unfold zRt
  rw [e, k2, k1]
  refine ⟨⟨by omega, by omega⟩, by omega, ?_, ?_, ?_, fun _ => h5⟩
  · rcases h4 with ⟨a, c⟩ | ⟨a, c⟩
    · rw [if_pos a]; exact c
    · rw [if_neg (by rw [a]; decide)]; exact c
  · intro hk
    split at hk <;> exact absurd hk (by decide)
  · intro hk
    split at hk <;> exact absurd hk (by decide)
theorem zRt_0 {s : Nat} (es : ze M 81 4 = s) (h : n = s) (h3 : ze M 81 3 = s) (h4 : ze M 81 5 = 0) : zRt b n M := by
  obtain ⟨k1, k2⟩ := zkd_0 (b := b) (n := n) (s := s) (by omega)
  have e : (ze M 81 4).toNat = s := by omega
  unfold zRt
  rw [e, k2, k1]
  exact ⟨⟨by omega, by omega⟩, h3, h4, fun h => absurd h (by decide), fun h => absurd h (by decide), fun h => absurd h (by decide)⟩
end ZRB
theorem zw8_b {b : Nat → Int} {s : Nat} : ∀ k : Nat, (∀ i, i < k → zpL (b (s + i)) = true) → 0 ≤ zw8 b s k ∧ zw8 b s k < (256 : Int) ^ k
  | 0, _ => by
    show (0 : Int) ≤ 0 ∧ (0 : Int) < (256 : Int) ^ 0
    rw [Int.pow_zero]
    omega
  | k + 1, h => by
    have ih := zw8_b (s := s) k (fun i hi => h i (by omega))
    have hk := zpL_t.mp (h k (by omega))
    show 0 ≤ 256 * zw8 b s k + b (s + k) ∧ 256 * zw8 b s k + b (s + k) < (256 : Int) ^ (k + 1)
    rw [Int.pow_succ]
    generalize (256 : Int) ^ k = p at ih ⊢
    omega
theorem zw8_inj {b c : Nat → Int} {s t : Nat} : ∀ k m : Nat, (∀ i, i < k → zpL (b (s + i)) = true) → (∀ i, i < m → zpL (c (t + i)) = true) → zw8 b s k = zw8 c t m → k = m ∧ ∀ i, i < k → b (s + i) = c (t + i)
  | 0, 0, _, _, _ => ⟨rfl, fun i h => absurd h (by omega)⟩
  | 0, m + 1, _, h2, h => by
    have a1 := (zw8_b (b := c) (s := t) m (fun i hi => h2 i (by omega))).1
    have a2 := zpL_t.mp (h2 m (by omega))
    have e : (0 : Int) = 256 * zw8 c t m + c (t + m) := h
    exact absurd e (by omega)
  | k + 1, 0, h1, _, h => by
    have a1 := (zw8_b (b := b) (s := s) k (fun i hi => h1 i (by omega))).1
    have a2 := zpL_t.mp (h1 k (by omega))
    have e : 256 * zw8 b s k + b (s + k) = 0 := h
    exact absurd e (by omega)
  | k + 1, m + 1, h1, h2, h => by
    have a2 := zpL_t.mp (h1 k (by omega))
    have b2 := zpL_t.mp (h2 m (by omega))
    have e : 256 * zw8 b s k + b (s + k) = 256 * zw8 c t m + c (t + m) := h
    have e1 : zw8 b s k = zw8 c t m := by omega
    have e2 : b (s + k) = c (t + m) := by omega
    obtain ⟨r1, r2⟩ := zw8_inj k m (fun i hi => h1 i (by omega)) (fun i hi => h2 i (by omega)) e1
    refine ⟨by omega, fun i hi => ?_⟩
    by_cases g : i = k
    · subst g
      rw [e2, r1]
    · exact r2 i (by omega)
theorem zw8_c {b c : Nat → Int} {s t : Nat} : ∀ k : Nat, (∀ i, i < k → b (s + i) = c (t + i)) → zw8 b s k = zw8 c t k ∧ zw2 b s k = zw2 c t k
  | 0, _ => ⟨rfl, rfl⟩
  | k + 1, h => by
    obtain ⟨h1, h2⟩ := zw8_c k (fun i hi => h i (by omega))
    have e := h k (by omega)
    refine ⟨?_, ?_⟩
    · show 256 * zw8 b s k + b (s + k) = 256 * zw8 c t k + c (t + k)
      rw [h1, e]
    · show 27 * zw2 b s k + (b (s + k) - 96) = 27 * zw2 c t k + (c (t + k) - 96)
      rw [h2, e]
theorem zw28 {b c : Nat → Int} {s t k m : Nat} (h1 : ∀ i, i < k → zpL (b (s + i)) = true) (h2 : ∀ i, i < m → zpL (c (t + i)) = true) : zw2 b s k = zw2 c t m ↔ zw8 b s k = zw8 c t m := by
  constructor
  · intro h
    obtain ⟨rfl, r⟩ := zw2_inj k m h1 h2 h
    exact (zw8_c k r).1
  · intro h
    obtain ⟨rfl, r⟩ := zw8_inj k m h1 h2 h
    exact (zw8_c k r).2
def zkW8 : Nat → Int := fun i => [123610792682867, 1836021349, 7103860, 1936683636].getD i 0
theorem zkW8_k {i : Nat} (hi : i < 4) : zkW8 i = zw8 (zsb i) 0 (zsl i) := by
  have h : ∀ i, i < 4 → zkW8 i = zw8 (zsb i) 0 (zsl i) := by decide +kernel
  exact h i hi
def zke8 (b : Nat → Int) (n p : Nat) : Int := zw8 b p (zen b n p - p)
theorem zke8_w {b : Nat → Int} {n p i : Nat} (h : zkd b n p = 1) (hi : i < 4) : zke8 b n p = zkW8 i ↔ zkey b n p = zkw i := by
  obtain ⟨h1, h2, h3, h4, h5⟩ := zkd_1 h
  rw [zkW8_k hi, zsb_k (i := i) hi]
  unfold zke8 zkey
  exact (zw28 (fun j hj => h5 (p + j) (by omega) (by omega)) (fun j hj => by rw [Nat.zero_add]; exact zsb_L (i := i) hi hj)).symm
theorem zl_bv (m : Nat) (h : m < 9223372036854775808) : (Int64.ofInt (m : Int)).toBitVec.toNat = m := by
  rw [Int64.toBitVec_ofInt, BitVec.ofInt_natCast, BitVec.toNat_ofNat]
  omega
theorem zl_ti {x : Int64} {m : Nat} (h : x.toBitVec.toNat = m) (hm : m < 9223372036854775808) : x.toInt = (m : Int) := by
  show x.toBitVec.toInt = _
  rw [BitVec.toInt_eq_toNat_of_lt (by rw [h]; omega), h]
theorem zlor_n (m n : Nat) (hm : m < 9223372036854775808) (hn : n < 9223372036854775808) : zlor m n = ((m ||| n : Nat) : Int) := by
  refine zl_ti ?_ (Nat.or_lt_two_pow (n := 63) hm hn)
  rw [Int64.toBitVec_or, BitVec.toNat_or, zl_bv m hm, zl_bv n hn]
theorem zlshl8 (m : Nat) (hm : m < 36028797018963968) : zlshl m 8 = ((m * 256 : Nat) : Int) := by
  refine zl_ti ?_ (by omega)
  have e8 : ((Int32.ofInt 8).toInt64 &&& 63) = 8 := by decide
  rw [e8]
  show (Int64.ofInt (m : Int) <<< (8 : Int64)).toBitVec.toNat = _
  rw [Int64.toBitVec_shiftLeft]
  show ((Int64.ofInt (m : Int)).toBitVec <<< ((8 : Int64).toBitVec.smod 64)).toNat = _
  have e9 : (8 : Int64).toBitVec.smod 64 = 8#64 := by decide
  rw [e9]
  show ((Int64.ofInt (m : Int)).toBitVec <<< (8#64).toNat).toNat = _
  rw [BitVec.toNat_shiftLeft, zl_bv m (by omega)]
  show m <<< 8 % 2 ^ 64 = _
  rw [Nat.shiftLeft_eq]
  omega
theorem zw8_z {x c : Int} (x0 : 0 ≤ x) (x1 : x < 36028797018963968) (c0 : 0 ≤ c) (c1 : c ≤ 255) : zlor (zlshl x 8) c = 256 * x + c := by
  obtain ⟨m, rfl⟩ := Int.eq_ofNat_of_zero_le x0
  obtain ⟨k, rfl⟩ := Int.eq_ofNat_of_zero_le c0
  rw [zlshl8 m (by omega), zlor_n _ _ (by omega) (by omega), Nat.mul_comm, ← Nat.two_pow_add_eq_or_of_lt (i := 8) (b := k) (by show k < 256; omega) m]
  show ((256 * m + k : Nat) : Int) = _
  omega
theorem zw8_step {b : Nat → Int} {n : Nat} {s : Nat} {k x c v : Int} (k0 : 0 ≤ k) (k5 : k < 6) (hn : (s : Int) + k < n) (hl : ∀ j : Nat, s ≤ j → j < (s + k).toNat → zpL (b j) = true) (hx : k ≤ 6 → x = zw8 b s k.toNat) (hc : c = b (s + k).toNat) (hp : zpL c = true) (hv : v = zlor (zlshl x 8) c) : k + 1 ≤ 6 → v = zw8 b s (k + 1).toNat := by
  intro _
  have hx := hx (by omega)
  have hb := zw8_b (b := b) (s := s) k.toNat (fun i hi => hl (s + i) (by omega) (by omega))
  have h7 : (256 : Int) ^ k.toNat ≤ 1099511627776 := by
    obtain g | g | g | g | g | g : k.toNat = 0 ∨ k.toNat = 1 ∨ k.toNat = 2 ∨ k.toNat = 3 ∨ k.toNat = 4 ∨ k.toNat = 5 := by omega
    all_goals (rw [g]; decide)
  have hcl := zpL_t.mp hp
  rw [← hx] at hb
  rw [hv, zw8_z hb.1 (by omega) (by omega) (by omega), show (k + 1).toNat = k.toNat + 1 by omega]
  show _ = 256 * zw8 b s k.toNat + b (s + k.toNat)
  rw [← hx, hc, show (s + k).toNat = s + k.toNat by omega]
theorem zvl_st3 {b : Nat → Int} {n : Nat} (hb : zBy b n) {s : Nat} {k x c v : Int} (k0 : 0 ≤ k) (k5 : k < 3) (hx : k ≤ 3 → x = zvl b s k.toNat) (hc : c = b (s + k).toNat) (hv : v = 10 * x + c - 48) : k + 1 ≤ 3 → v = zvl b s (k + 1).toNat := by
  intro _
  have hx := hx (by omega)
  rw [hv, show (k + 1).toNat = k.toNat + 1 by omega]
  show _ = 10 * zvl b s k.toNat + (b (s + k.toNat) - 48)
  rw [← hx, hc, show (s + k).toNat = s + k.toNat by omega]
  omega
theorem zvl_d {b : Nat → Int} {s : Nat} : ∀ k : Nat, (∀ i, i < k → zpD (b (s + i)) = true) → 0 ≤ zvl b s k ∧ zvl b s k < (10 : Int) ^ k
  | 0, _ => by
    show (0 : Int) ≤ 0 ∧ (0 : Int) < (10 : Int) ^ 0
    rw [Int.pow_zero]
    omega
  | k + 1, h => by
    have ih := zvl_d (s := s) k (fun i hi => h i (by omega))
    have hk := zpD_t.mp (h k (by omega))
    show 0 ≤ 10 * zvl b s k + (b (s + k) - 48) ∧ 10 * zvl b s k + (b (s + k) - 48) < (10 : Int) ^ (k + 1)
    rw [Int.pow_succ]
    generalize (10 : Int) ^ k = p at ih ⊢
    omega
theorem zvl_d3 {b : Nat → Int} {s : Nat} {k x : Int} (k0 : 0 ≤ k) (k3 : k < 3) (hl : ∀ j : Nat, s ≤ j → j < (s + k).toNat → zpD (b j) = true) (hx : k ≤ 3 → x = zvl b s k.toNat) : 0 ≤ x ∧ x ≤ 99 := by
  have h := zvl_d (b := b) (s := s) k.toNat (fun i hi => hl (s + i) (by omega) (by omega))
  rw [← hx (by omega)] at h
  have h7 : (10 : Int) ^ k.toNat ≤ 100 := by
    obtain g | g | g : k.toNat = 0 ∨ k.toNat = 1 ∨ k.toNat = 2 := by omega
    all_goals (rw [g]; decide)
  omega
theorem zall_1 {b : Nat → Int} {P : Int → Bool} {s : Nat} {k c : Int} (k0 : 0 ≤ k) (hl : ∀ j : Nat, s ≤ j → j < (s + k).toNat → P (b j) = true) (hc : c = b (s + k).toNat) (hp : P c = true) : ∀ j : Nat, s ≤ j → j < (s + (k + 1)).toNat → P (b j) = true := fun j h1 h2 => by
  by_cases g : j = (s + k).toNat
  · rw [g, ← hc]
    exact hp
  · exact hl j h1 (by omega)
theorem zru_st2 {P : Int → Bool} {b : Nat → Int} {n x : Nat} {s : Nat} {k c : Int} (k0 : 0 ≤ k) (h1 : (s : Int) + k < n) (hc : c = b (s + k).toNat) (hp : P c = true) (hi : zru P b n (s + k).toNat = x) : zru P b n (s + (k + 1)).toNat = x := by
  have h := zru_step (u := (s : Int) + k) (by omega) h1 hc hp hi
  rwa [show (s : Int) + k + 1 = s + (k + 1) by omega] at h
theorem zru_sp2 {P : Int → Bool} {b : Nat → Int} {n x : Nat} {s : Nat} {k c : Int} (k0 : 0 ≤ k) (h1 : ((s : Int) + k < n ∧ c = b (s + k).toNat ∧ P c = false) ∨ (n : Int) ≤ s + k) (hi : zru P b n (s + k).toNat = x) : (s : Int) + k = (x : Int) := by
  rcases h1 with ⟨_, h2, h3⟩ | h1
  · exact zru_stop (u := (s : Int) + k) (by omega) (Or.inr ⟨h2, h3⟩) hi
  · exact zru_stop (u := (s : Int) + k) (v := 0) (by omega) (Or.inl h1) hi
