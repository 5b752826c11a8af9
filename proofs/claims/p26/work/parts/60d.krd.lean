noncomputable def zPi (p : Prop) (a b : Nat) : Nat := @ite Nat p (Classical.propDecidable p) a b
theorem zPi_t {p : Prop} {a b : Nat} (h : p) : zPi p a b = a := by
  unfold zPi
  exact if_pos h
theorem zPi_f {p : Prop} {a b : Nat} (h : ¬ p) : zPi p a b = b := by
  unfold zPi
  exact if_neg h
noncomputable def zct (p : Nat → Prop) : Nat → Nat
  | 0 => 0
  | k + 1 => zPi (p k) (zct p k + 1) (zct p k)
theorem zct_t {p : Nat → Prop} {k : Nat} (h : p k) : zct p (k + 1) = zct p k + 1 := zPi_t h
theorem zct_f {p : Nat → Prop} {k : Nat} (h : ¬ p k) : zct p (k + 1) = zct p k := zPi_f h
theorem zct_1 {p : Nat → Prop} {k c : Int} (k0 : 0 ≤ k) (hc : c = ((zct p k.toNat : Nat) : Int)) (h : p k.toNat) : c + 1 = ((zct p (k + 1).toNat : Nat) : Int) := by
  rw [show (k + 1).toNat = k.toNat + 1 by omega, hc, zct_t h]
  omega
theorem zct_0 {p : Nat → Prop} {k c : Int} (k0 : 0 ≤ k) (hc : c = ((zct p k.toNat : Nat) : Int)) (h : ¬ p k.toNat) : c = ((zct p (k + 1).toNat : Nat) : Int) := by
  rw [show (k + 1).toNat = k.toNat + 1 by omega, hc, zct_f h]
theorem zct_b (p : Nat → Prop) : ∀ k, zct p k ≤ k
  | 0 => Nat.le_refl _
  | k + 1 => by
    have ih := zct_b p k
    by_cases h : p k
    · rw [zct_t h]
      omega
    · rw [zct_f h]
      omega
theorem zct_c {p q : Nat → Prop} : ∀ {k : Nat}, (∀ i, i < k → (p i ↔ q i)) → zct p k = zct q k
  | 0, _ => rfl
  | k + 1, h => by
    have ih := zct_c (p := p) (q := q) (k := k) (fun i hi => h i (by omega))
    by_cases g : p k
    · rw [zct_t g, zct_t ((h k (by omega)).mp g), ih]
    · rw [zct_f g, zct_f (fun e => g ((h k (by omega)).mpr e)), ih]
theorem zct_ad (p : Nat → Prop) (j : Nat) : ∀ k, zct p (j + k) = zct p j + zct (fun i => p (j + i)) k
  | 0 => rfl
  | k + 1 => by
    have ih := zct_ad p j k
    show zct p ((j + k) + 1) = _
    by_cases g : p (j + k)
    · rw [zct_t g, zct_t (p := fun i => p (j + i)) g, ih]
      omega
    · rw [zct_f g, zct_f (p := fun i => p (j + i)) g, ih]
theorem zct_z {p : Nat → Prop} : ∀ {k : Nat}, (∀ i, i < k → ¬ p i) → zct p k = 0
  | 0, _ => rfl
  | k + 1, h => by
    rw [zct_f (h k (by omega))]
    exact zct_z (fun i hi => h i (by omega))
noncomputable def zbq (p : Nat → Prop) : Nat → Nat
  | 0 => 0
  | k + 1 => zPi (p k) (zbq p k ||| 2 ^ k) (zbq p k)
theorem zbq_y {p : Nat → Prop} {k : Nat} (h : p k) : zbq p (k + 1) = zbq p k ||| 2 ^ k := zPi_t h
theorem zbq_n {p : Nat → Prop} {k : Nat} (h : ¬ p k) : zbq p (k + 1) = zbq p k := zPi_f h
theorem zbq_lt (p : Nat → Prop) : ∀ k, zbq p k < 2 ^ k
  | 0 => Nat.zero_lt_one
  | k + 1 => by
    have ih := zbq_lt p k
    have h2 : 2 ^ k < 2 ^ (k + 1) := Nat.pow_lt_pow_right (by omega) (by omega)
    by_cases h : p k
    · rw [zbq_y h]
      exact Nat.or_lt_two_pow (by omega) h2
    · rw [zbq_n h]
      omega
theorem zbq_t (p : Nat → Prop) : ∀ k i, (zbq p k).testBit i = true ↔ i < k ∧ p i
  | 0, i => by
    constructor
    · intro h
      have h0 : Nat.testBit 0 i = true := h
      rw [Nat.zero_testBit] at h0
      exact absurd h0 (by decide)
    · rintro ⟨h, -⟩
      omega
  | k + 1, i => by
    have ih := zbq_t p k i
    by_cases h : p k
    · rw [zbq_y h, Nat.testBit_or, Bool.or_eq_true, ih, Nat.testBit_two_pow, decide_eq_true_iff]
      constructor
      · rintro (h1 | h1)
        · exact ⟨by omega, h1.2⟩
        · exact ⟨by omega, by rw [← h1]; exact h⟩
      · rintro ⟨h1, h2⟩
        by_cases e : i = k
        · exact Or.inr e.symm
        · exact Or.inl ⟨by omega, h2⟩
    · rw [zbq_n h, ih]
      constructor
      · rintro ⟨h1, h2⟩
        exact ⟨by omega, h2⟩
      · rintro ⟨h1, h2⟩
        refine ⟨?_, h2⟩
        by_cases e : i = k
        · rw [e] at h2
          exact absurd h2 h
        · omega
theorem zbq_1 {p : Nat → Prop} {k x : Int} (k0 : 0 ≤ k) (k1 : k < 31) (hx : x = ((zbq p k.toNat : Nat) : Int)) (h : p k.toNat) : zor x (zshl 1 k) = ((zbq p (k + 1).toNat : Nat) : Int) := by
  have hb := zbq_lt p k.toNat
  have h2 : 2 ^ k.toNat ≤ 2 ^ 30 := Nat.pow_le_pow_right (by omega) (by omega)
  rw [zorb (by omega) (by omega) k0 k1, show (k + 1).toNat = k.toNat + 1 by omega, zbq_y h, hx, Int.toNat_natCast]
theorem zbq_0 {p : Nat → Prop} {k x : Int} (k0 : 0 ≤ k) (hx : x = ((zbq p k.toNat : Nat) : Int)) (h : ¬ p k.toNat) : x = ((zbq p (k + 1).toNat : Nat) : Int) := by
  rw [show (k + 1).toNat = k.toNat + 1 by omega, zbq_n h]
  exact hx
theorem zbq_r {p : Nat → Prop} {n : Nat} (hn : n ≤ 24) {k x : Int} (k1 : k ≤ n) (hx : x = ((zbq p k.toNat : Nat) : Int)) : 0 ≤ x ∧ x < 16777216 ∧ x.toNat < 2 ^ n := by
  have hb := zbq_lt p k.toNat
  have h2 : 2 ^ k.toNat ≤ 2 ^ n := Nat.pow_le_pow_right (by omega) (by omega)
  have h3 : 2 ^ n ≤ 2 ^ 24 := Nat.pow_le_pow_right (by omega) hn
  omega
theorem gcb_c (S : Nat) : ∀ j, gup (fun k r => r + (S >>> k) % 2) 0 j = zct (fun i => S.testBit i = true) j
  | 0 => rfl
  | j + 1 => by
    have ih := gcb_c S j
    have e : S.testBit j = decide ((S >>> j) % 2 = 1) := by rw [Nat.testBit_eq_decide_div_mod_eq, Nat.shiftRight_eq_div_pow]
    show gup (fun k r => r + (S >>> k) % 2) 0 j + (S >>> j) % 2 = _
    rw [ih]
    rcases Nat.mod_two_eq_zero_or_one (S >>> j) with h | h
    · rw [zct_f (by rw [e, h]; decide), h]
      rfl
    · rw [zct_t (by rw [e, h]; rfl), h]
theorem gcb_z (p : Nat → Prop) {k : Nat} (hk : k ≤ 31) : gcb (zbq p k) = zct p k := by
  unfold gcb
  rw [gcb_c, show 31 = k + (31 - k) by omega, zct_ad, zct_z (k := 31 - k) (fun i _ h => by
    have := (zbq_t p k (k + i)).mp h
    omega)]
  exact zct_c (fun i hi => ⟨fun h => ((zbq_t p k i).mp h).2, fun h => (zbq_t p k i).mpr ⟨hi, h⟩⟩)
theorem kan {a b c d : Nat} (ha : a < 256) (hc : c < 256) : (a + 256 * b) &&& (c + 256 * d) = (a &&& c) + 256 * (b &&& d) := by
  have h1 := Nat.and_mod_two_pow (a := a + 256 * b) (b := c + 256 * d) (n := 8)
  have h2 := Nat.and_div_two_pow (a := a + 256 * b) (b := c + 256 * d) (n := 8)
  rw [show (2 : Nat) ^ 8 = 256 by decide] at h1 h2
  rw [show (a + 256 * b) % 256 = a by omega, show (c + 256 * d) % 256 = c by omega] at h1
  rw [show (a + 256 * b) / 256 = b by omega, show (c + 256 * d) / 256 = d by omega] at h2
  omega
def kf1 (M x : Nat) : Nat := x - ((x / 2) &&& M)
def kf2 (M x : Nat) : Nat := (x &&& M) + ((x / 4) &&& M)
def kf3 (M x : Nat) : Nat := (x + x / 16) &&& M
theorem kf1_b : ∀ a : Fin 256, ∀ t : Fin 2, ((a.val / 2 + 128 * t.val) &&& 85) = ((a.val / 2) &&& 85) := by decide +kernel
theorem kf2_b : ∀ a : Fin 256, ∀ t : Fin 4, ((a.val / 4 + 64 * t.val) &&& 51) = ((a.val / 4) &&& 51) := by decide +kernel
theorem kf3_b : ∀ a : Fin 69, ∀ t : Fin 5, (((a.val + a.val / 16 + 16 * t.val) &&& 15) = ((a.val + a.val / 16) &&& 15)) ∧ a.val + a.val / 16 + 16 * t.val < 256 := by decide +kernel
theorem kf_v : ∀ a : Fin 256, kf1 85 a.val < 256 ∧ kf2 51 (kf1 85 a.val) < 69 ∧ kf2 51 (kf1 85 a.val) % 16 ≤ 4 ∧ kf3 15 (kf2 51 (kf1 85 a.val)) ≤ 8 ∧ kf3 15 (kf2 51 (kf1 85 a.val)) = gup (fun k r => r + (a.val >>> k) % 2) 0 8 := by decide +kernel
theorem kf1_s {a m M : Nat} (ha : a < 256) : kf1 (85 + 256 * M) (a + 256 * m) = kf1 85 a + 256 * kf1 M m := by
  have h := kf1_b ⟨a, ha⟩ ⟨m % 2, by omega⟩
  have h2 : ((a / 2) &&& 85) ≤ a / 2 := Nat.and_le_left
  have h3 : ((m / 2) &&& M) ≤ m / 2 := Nat.and_le_left
  have h4 := kan (a := a / 2 + 128 * (m % 2)) (b := m / 2) (c := 85) (d := M) (by omega) (by omega)
  rw [show (a / 2 + 128 * (m % 2)) &&& 85 = (a / 2) &&& 85 from h] at h4
  unfold kf1
  rw [show (a + 256 * m) / 2 = a / 2 + 128 * (m % 2) + 256 * (m / 2) by omega, h4]
  omega
theorem kf2_s {a m M : Nat} (ha : a < 256) : kf2 (51 + 256 * M) (a + 256 * m) = kf2 51 a + 256 * kf2 M m := by
  have h := kf2_b ⟨a, ha⟩ ⟨m % 4, by omega⟩
  have h4 := kan (a := a / 4 + 64 * (m % 4)) (b := m / 4) (c := 51) (d := M) (by omega) (by omega)
  rw [show (a / 4 + 64 * (m % 4)) &&& 51 = (a / 4) &&& 51 from h] at h4
  unfold kf2
  rw [show (a + 256 * m) / 4 = a / 4 + 64 * (m % 4) + 256 * (m / 4) by omega, h4, kan ha (by omega)]
  omega
theorem kf3_s {a m M : Nat} (ha : a < 69) (hm : m % 16 ≤ 4) : kf3 (15 + 256 * M) (a + 256 * m) = kf3 15 a + 256 * kf3 M m := by
  have h := kf3_b ⟨a, ha⟩ ⟨m % 16, by omega⟩
  have h4 := kan (a := a + a / 16 + 16 * (m % 16)) (b := m + m / 16) (c := 15) (d := M) h.2 (by omega)
  rw [show (a + a / 16 + 16 * (m % 16)) &&& 15 = (a + a / 16) &&& 15 from h.1] at h4
  unfold kf3
  rw [show a + 256 * m + (a + 256 * m) / 16 = a + a / 16 + 16 * (m % 16) + 256 * (m + m / 16) by omega, h4]
theorem gcb_by {a m : Nat} (ha : a < 256) (k : Nat) : zct (fun i => (a + 256 * m).testBit i = true) (8 + k) = gup (fun k r => r + (a >>> k) % 2) 0 8 + zct (fun i => m.testBit i = true) k := by
  have e : a + 256 * m = 2 ^ 8 * m + a := by omega
  rw [zct_ad, gcb_c]
  congr 1
  · refine zct_c (fun i hi => ?_)
    rw [e, Nat.testBit_two_pow_mul_add m (show a < 2 ^ 8 from ha), if_pos hi]
  · refine zct_c (fun i hi => ?_)
    rw [e, Nat.testBit_two_pow_mul_add m (show a < 2 ^ 8 from ha), if_neg (by omega), show 8 + i - 8 = i by omega]
theorem kbc_g {x : Nat} (h : x < 16777216) : kbc x = gcb x := by
  obtain ⟨a, b, c, ha, hb, hc, rfl⟩ : ∃ a b c : Nat, a < 256 ∧ b < 256 ∧ c < 256 ∧ x = a + 256 * (b + 256 * (c + 256 * 0)) := ⟨x % 256, x / 256 % 256, x / 65536, by omega, by omega, by omega, by omega⟩
  have va := kf_v ⟨a, ha⟩
  have vb := kf_v ⟨b, hb⟩
  have vc := kf_v ⟨c, hc⟩
  have e1 : kbc1 (a + 256 * (b + 256 * (c + 256 * 0))) = kf1 85 a + 256 * (kf1 85 b + 256 * (kf1 85 c + 256 * kf1 85 0)) := by
    rw [← kf1_s hc, ← kf1_s hb, ← kf1_s ha]
    unfold kf1 kbc1
    show _ - (((a + 256 * (b + 256 * (c + 256 * 0))) >>> 1) &&& 1431655765) = _
    rw [Nat.shiftRight_eq_div_pow]
  have e2 : kbc2 (kbc1 (a + 256 * (b + 256 * (c + 256 * 0)))) = kf2 51 (kf1 85 a) + 256 * (kf2 51 (kf1 85 b) + 256 * (kf2 51 (kf1 85 c) + 256 * kf2 51 (kf1 85 0))) := by
    rw [e1, ← kf2_s vc.1, ← kf2_s vb.1, ← kf2_s va.1]
    unfold kf2 kbc2
    show (_ &&& 858993459) + ((_ >>> 2) &&& 858993459) = _
    rw [Nat.shiftRight_eq_div_pow]
  have z0 : kf2 51 (kf1 85 0) = 0 := by decide
  have e3 : kbc3 (kbc2 (kbc1 (a + 256 * (b + 256 * (c + 256 * 0))))) = kf3 15 (kf2 51 (kf1 85 a)) + 256 * (kf3 15 (kf2 51 (kf1 85 b)) + 256 * (kf3 15 (kf2 51 (kf1 85 c)) + 256 * kf3 15 (kf2 51 (kf1 85 0)))) := by
    rw [e2, z0, ← kf3_s (M := 15) vc.2.1 (by omega), ← kf3_s vb.2.1 (by have := vc.2.2.1; omega), ← kf3_s va.2.1 (by have := vb.2.2.1; omega)]
    unfold kf3 kbc3
    show ((_ + (_ >>> 4)) &&& 252645135) = _
    rw [Nat.shiftRight_eq_div_pow]
  have z3 : kf3 15 (kf2 51 (kf1 85 0)) = 0 := by decide
  rw [z3] at e3
  have va4 := va.2.2.2.1
  have vb4 := vb.2.2.2.1
  have vc4 := vc.2.2.2.1
  have va5 := va.2.2.2.2
  have vb5 := vb.2.2.2.2
  have vc5 := vc.2.2.2.2
  have eg : gcb (a + 256 * (b + 256 * (c + 256 * 0))) = kf3 15 (kf2 51 (kf1 85 a)) + (kf3 15 (kf2 51 (kf1 85 b)) + kf3 15 (kf2 51 (kf1 85 c))) := by
    unfold gcb
    rw [gcb_c, gcb_by ha 23, gcb_by hb 15, gcb_by hc 7, va5, vb5, vc5, zct_z (fun i _ q => by rw [Nat.zero_testBit] at q; exact absurd q (by decide))]
    rfl
  rw [eg]
  unfold kbc
  rw [e3]
  generalize kf3 15 (kf2 51 (kf1 85 a)) = p at va4 ⊢
  generalize kf3 15 (kf2 51 (kf1 85 b)) = q at vb4 ⊢
  generalize kf3 15 (kf2 51 (kf1 85 c)) = r at vc4 ⊢
  have e4 : kbc4 (p + 256 * (q + 256 * (r + 256 * 0))) = (p + q) + 256 * (q + r) + 65536 * r := by
    unfold kbc4
    show _ + (_ >>> 8) = _
    rw [Nat.shiftRight_eq_div_pow]
    omega
  rw [e4]
  unfold kbc5
  show ((_ + (_ >>> 16)) &&& 63) = _
  rw [Nat.shiftRight_eq_div_pow]
  have e5 : ∀ z : Nat, z &&& 63 = z % 64 := fun z => Nat.and_two_pow_sub_one_eq_mod z 6
  have e6 : ((p + q) + 256 * (q + r) + 65536 * r) / 2 ^ 16 = r := by
    rw [show (2 : Nat) ^ 16 = 65536 by decide]
    omega
  rw [e6, e5]
  omega
