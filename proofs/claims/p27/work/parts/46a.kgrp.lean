theorem gmkc_add (d t : Nat → Nat) : gmkc (fun p => d p + t p) = gmkc d + gmkc t := by
  show (d 0 + t 0) * 32768 + (d 1 + t 1) * 4096 + (d 2 + t 2) * 512 + (d 3 + t 3) * 64 + (d 4 + t 4) * 8 + (d 5 + t 5) = (d 0 * 32768 + d 1 * 4096 + d 2 * 512 + d 3 * 64 + d 4 * 8 + d 5) + (t 0 * 32768 + t 1 * 4096 + t 2 * 512 + t 3 * 64 + t 4 * 8 + t 5)
  omega
def gtl (P : Nat) : Nat := gmkc (fun p => if p < P then 0 else p)
def zkc (P : Nat) (c : Int) : Nat := c.toNat + gtl P
def zkv (P : Nat) (c : Int) : Prop := 0 ≤ c ∧ c < 262144 ∧ (∀ p, p < P → p < 6 → gdg c.toNat p < P) ∧ ∀ p, P ≤ p → p < 6 → gdg c.toNat p = 0
section ZKG
variable {P : Nat} {c l : Int}
theorem zkc_m (h : zkv P c) : zkc P c = gmkc (fun p => if p < P then gdg c.toNat p else p) := by
  have e := gmkc_e (c := c.toNat) (by have := h.2.1; omega)
  unfold zkc gtl
  rw [← e, ← gmkc_add, e]
  refine gmkc_c (fun p hp => ?_)
  by_cases g : p < P
  · rw [if_pos g, if_pos g, Nat.add_zero]
  · rw [if_neg g, if_neg g, h.2.2.2 p (by omega) hp, Nat.zero_add]
theorem zkc_8 (P : Nat) (c : Int) : ∀ p, p < 6 → (fun p => if p < P then gdg c.toNat p else p) p < 8 := fun p hp => by
  show (if p < P then gdg c.toNat p else p) < 8
  split
  · exact gdg_lt _ _
  · omega
theorem zkc_d (h : zkv P c) : ∀ p, p < 6 → gdg (zkc P c) p = if p < P then gdg c.toNat p else p := by
  rw [zkc_m h]
  exact gmkc_d (zkc_8 P c)
theorem zkc_i {a b : Int} (ha : 0 ≤ a) (hb : 0 ≤ b) : zkc P a = zkc P b ↔ a = b := by
  unfold zkc
  omega
theorem zkc_l {a b : Int} (ha : 0 ≤ a) (hb : 0 ≤ b) : zkc P a < zkc P b ↔ a < b := by
  unfold zkc
  omega
def zdc (f : Nat → Nat) (k : Nat) : Nat := gmkc (fun p => if p < k then f p else 0)
theorem zdc_d {f : Nat → Nat} {k : Nat} (h : ∀ p, p < 6 → p < k → f p < 8) : ∀ p, p < 6 → gdg (zdc f k) p = if p < k then f p else 0 := by
  refine gmkc_d (fun p hp => ?_)
  show (if p < k then f p else 0) < 8
  split
  · exact h p hp (by omega)
  · omega
theorem zdc_b {f : Nat → Nat} {k : Nat} (h : ∀ p, p < 6 → p < k → f p < 8) : zdc f k < 262144 := by
  refine gmkc_lt (fun p hp => ?_)
  show (if p < k then f p else 0) < 8
  split
  · exact h p hp (by omega)
  · omega
theorem zdc_v {f : Nat → Nat} (hP : P ≤ 6) (h : ∀ p, p < P → f p < P) : zkv P ((zdc f P : Nat) : Int) := by
  have h8 : ∀ p, p < 6 → p < P → f p < 8 := fun p _ hp => by have := h p hp; omega
  refine ⟨by omega, by have := zdc_b h8; omega, fun p hp h6 => ?_, fun p hp h6 => ?_⟩
  · rw [Int.toNat_natCast, zdc_d h8 p h6, if_pos hp]
    exact h p hp
  · rw [Int.toNat_natCast, zdc_d h8 p h6, if_neg (by omega)]
theorem zdc_c {f : Nat → Nat} (hP : P ≤ 6) (h : ∀ p, p < P → f p < P) : zkc P ((zdc f P : Nat) : Int) = gmkc (fun p => if p < P then f p else p) := by
  have h8 : ∀ p, p < 6 → p < P → f p < 8 := fun p _ hp => by have := h p hp; omega
  rw [zkc_m (zdc_v hP h)]
  refine gmkc_c (fun p hp => ?_)
  by_cases g : p < P
  · rw [if_pos g, if_pos g, Int.toNat_natCast, zdc_d h8 p hp, if_pos g]
  · rw [if_neg g, if_neg g]
theorem zdc_u (f : Nat → Nat) (k : Nat) : zdc f k = (if 0 < k then f 0 else 0) * 32768 + (if 1 < k then f 1 else 0) * 4096 + (if 2 < k then f 2 else 0) * 512 + (if 3 < k then f 3 else 0) * 64 + (if 4 < k then f 4 else 0) * 8 + (if 5 < k then f 5 else 0) := rfl
theorem zdc_n (f : Nat → Nat) : zdc f 0 = 0 ∧ zdc f 1 = f 0 * 32768 ∧ zdc f 2 = f 0 * 32768 + f 1 * 4096 ∧ zdc f 3 = f 0 * 32768 + f 1 * 4096 + f 2 * 512 ∧ zdc f 4 = f 0 * 32768 + f 1 * 4096 + f 2 * 512 + f 3 * 64 ∧ zdc f 5 = f 0 * 32768 + f 1 * 4096 + f 2 * 512 + f 3 * 64 + f 4 * 8 ∧ zdc f 6 = f 0 * 32768 + f 1 * 4096 + f 2 * 512 + f 3 * 64 + f 4 * 8 + f 5 := by
  refine ⟨?_, ?_, ?_, ?_, ?_, ?_, ?_⟩ <;> simp [zdc_u]
theorem zdc_0 (f : Nat → Nat) : zdc f 0 = 0 := (zdc_n f).1
def zw5 (k : Nat) : Nat := [32768, 4096, 512, 64, 8, 1].getD k 1
theorem zw5_n : zw5 0 = 32768 ∧ zw5 1 = 4096 ∧ zw5 2 = 512 ∧ zw5 3 = 64 ∧ zw5 4 = 8 ∧ zw5 5 = 1 := by decide
theorem zw5_b : ∀ j, j < 6 → zw5 j ≤ 32768 := by decide
theorem zdc_s {f : Nat → Nat} {k : Nat} (hk : k < 6) (h : ∀ p, p < 6 → p ≤ k → f p < 8) : zdc f k ||| f k * zw5 k = zdc f (k + 1) := by
  obtain ⟨n0, n1, n2, n3, n4, n5, n6⟩ := zdc_n f
  obtain ⟨w0, w1, w2, w3, w4, w5⟩ := zw5_n
  have hfk := h k hk (Nat.le_refl _)
  have p0 : (2 : Nat) ^ 18 = 262144 := rfl
  have p1 : (2 : Nat) ^ 15 = 32768 := rfl
  have p2 : (2 : Nat) ^ 12 = 4096 := rfl
  have p3 : (2 : Nat) ^ 9 = 512 := rfl
  have p4 : (2 : Nat) ^ 6 = 64 := rfl
  have p5 : (2 : Nat) ^ 3 = 8 := rfl
  have key : ∀ (s a y : Nat), zdc f k = 2 ^ s * a → f k * zw5 k = y → y < 2 ^ s → zdc f (k + 1) = 2 ^ s * a + y → zdc f k ||| f k * zw5 k = zdc f (k + 1) := by
    intro s a y e1 e2 e3 e4
    rw [e4, e1, e2, Nat.two_pow_add_eq_or_of_lt e3]
  obtain rfl | rfl | rfl | rfl | rfl | rfl : k = 0 ∨ k = 1 ∨ k = 2 ∨ k = 3 ∨ k = 4 ∨ k = 5 := by omega
  · exact key 18 0 (f 0 * 32768) (by rw [n0]) (by rw [w0]) (by omega) (by rw [n1]; omega)
  · exact key 15 (f 0) (f 1 * 4096) (by rw [n1, p1]; omega) (by rw [w1]) (by omega) (by rw [n2, p1]; omega)
  · exact key 12 (f 0 * 8 + f 1) (f 2 * 512) (by rw [n2, p2]; omega) (by rw [w2]) (by omega) (by rw [n3, p2]; omega)
  · exact key 9 (f 0 * 64 + f 1 * 8 + f 2) (f 3 * 64) (by rw [n3, p3]; omega) (by rw [w3]) (by omega) (by rw [n4, p3]; omega)
  · exact key 6 (f 0 * 512 + f 1 * 64 + f 2 * 8 + f 3) (f 4 * 8) (by rw [n4, p4]; omega) (by rw [w4]) (by omega) (by rw [n5, p4]; omega)
  · exact key 3 (f 0 * 4096 + f 1 * 512 + f 2 * 64 + f 3 * 8 + f 4) (f 5) (by rw [n5, p5]; omega) (by rw [w5, Nat.mul_one]) (by omega) (by rw [n6, p5]; omega)
def zbe (P : Nat) (c l : Int) : Nat := zdc (fun p => gdg l.toNat (gdg c.toNat p)) P
theorem zbe_v (hP : P ≤ 6) (hc : zkv P c) (hl : zkv P l) : zkv P ((zbe P c l : Nat) : Int) := zdc_v hP (fun p hp => hl.2.2.1 _ (hc.2.2.1 p hp (by omega)) (by have := hc.2.2.1 p hp (by omega); omega))
theorem zbe_c (hP : P ≤ 6) (hc : zkv P c) (hl : zkv P l) : zkc P ((zbe P c l : Nat) : Int) = gco (zkc P c) (zkc P l) := by
  unfold zbe
  rw [zdc_c hP (fun p hp => hl.2.2.1 _ (hc.2.2.1 p hp (by omega)) (by have := hc.2.2.1 p hp (by omega); omega)), gco_m]
  refine gmkc_c (fun p hp => ?_)
  rw [zkc_d hc p hp]
  by_cases g : p < P
  · have hg := hc.2.2.1 p g hp
    rw [if_pos g, if_pos g, zkc_d hl _ (by omega), if_pos hg]
  · rw [if_neg g, if_neg g, zkc_d hl p hp, if_neg g]
theorem zid_v (hP : P ≤ 6) : zkv P ((zdc (fun p => p) P : Nat) : Int) := zdc_v hP (fun p hp => hp)
theorem zid_c (hP : P ≤ 6) : zkc P ((zdc (fun p => p) P : Nat) : Int) = gid := by
  rw [zdc_c hP (fun p hp => hp)]
  have : gid = gmkc (fun p => p) := rfl
  rw [this]
  exact gmkc_c (fun p _ => by split <;> rfl)
end ZKG
theorem zsh5_k : ∀ t : Fin 8, ∀ k : Fin 6, zshl ((t.val : Nat) : Int) (3 * (5 - ((k.val : Nat) : Int))) = ((t.val * zw5 k.val : Nat) : Int) := by decide +kernel
theorem zsh5 {t k : Int} (t0 : 0 ≤ t) (t7 : t ≤ 7) (k0 : 0 ≤ k) (k5 : k ≤ 5) : zshl t (3 * (5 - k)) = ((t.toNat * zw5 k.toNat : Nat) : Int) := by
  have h := zsh5_k ⟨t.toNat, by omega⟩ ⟨k.toNat, by omega⟩
  simp only [Int.toNat_of_nonneg t0, Int.toNat_of_nonneg k0] at h
  exact h
theorem zpl5 {c k : Int} (c0 : 0 ≤ c) (c1 : c < 2147483648) (k0 : 0 ≤ k) (k5 : k ≤ 5) : zand (zshr c (3 * (5 - k))) 7 = ((gdg c.toNat k.toNat : Nat) : Int) := by
  obtain ⟨m, rfl⟩ := Int.eq_ofNat_of_zero_le c0
  obtain ⟨j, rfl⟩ := Int.eq_ofNat_of_zero_le k0
  have e1 : (3 * (5 - (j : Int))) = ((3 * (5 - j) : Nat) : Int) := by omega
  rw [e1, zshr_n m _ (by omega) (by omega)]
  have e2 := zand_n (m >>> (3 * (5 - j))) 7 (Nat.lt_of_le_of_lt (Nat.shiftRight_le _ _) (by omega)) (by omega)
  have e3 : ((7 : Nat) : Int) = 7 := rfl
  rw [e3] at e2
  rw [e2, Int.toNat_natCast, Int.toNat_natCast]
  have e4 : (m >>> (3 * (5 - j))) &&& 7 = (m >>> (3 * (5 - j))) % 8 := Nat.and_two_pow_sub_one_eq_mod _ 3
  rw [e4]
  rfl
theorem zdc_z {f : Nat → Nat} {k v t : Int} (k0 : 0 ≤ k) (k6 : k ≤ 5) (h : ∀ p : Nat, p < 6 → (p : Int) ≤ k → f p < 8) (hv : v = ((zdc f k.toNat : Nat) : Int)) (ht : t = ((f k.toNat * zw5 k.toNat : Nat) : Int)) : zor v t = ((zdc f (k + 1).toNat : Nat) : Int) ∧ 0 ≤ zor v t ∧ zor v t < 262144 := by
  have hb : zdc f k.toNat < 262144 := zdc_b (fun p hp hk => h p hp (by omega))
  have hb2 : zdc f (k + 1).toNat < 262144 := zdc_b (fun p hp hk => h p hp (by omega))
  have hs := zdc_s (f := f) (k := k.toNat) (by omega) (fun p hp hk => h p hp (by omega))
  have hf := h k.toNat (by omega) (by omega)
  have hw : zw5 k.toNat ≤ 32768 := zw5_b _ (by omega)
  have hm : f k.toNat * zw5 k.toNat ≤ 8 * 32768 := Nat.mul_le_mul (by omega) hw
  have e : zor v t = ((zdc f (k + 1).toNat : Nat) : Int) := by
    rw [hv, ht, zor_n _ _ (by omega) (by omega), hs, show (k + 1).toNat = k.toNat + 1 by omega]
  rw [e]
  omega
