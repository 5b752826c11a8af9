theorem kfv8 : ∀ d : Fin 8, kf3 15 (kf2 51 (kf1 85 d.val)) = gup (fun k r => r + (d.val >>> k) % 2) 0 7 ∧ kf2 51 (kf1 85 d.val) % 16 ≤ 4 ∧ kf3 15 (kf2 51 (kf1 85 d.val)) ≤ 8 := by decide +kernel
theorem kbc_h {x : Nat} (h : x < 134217728) : kbc x = gcb x := by
  obtain ⟨a, b, c, d, ha, hb, hc, hd, rfl⟩ : ∃ a b c d : Nat, a < 256 ∧ b < 256 ∧ c < 256 ∧ d < 8 ∧ x = a + 256 * (b + 256 * (c + 256 * d)) := ⟨x % 256, x / 256 % 256, x / 65536 % 256, x / 16777216, by omega, by omega, by omega, by omega, by omega⟩
  have va := kf_v ⟨a, ha⟩
  have vb := kf_v ⟨b, hb⟩
  have vc := kf_v ⟨c, hc⟩
  have vd := kfv8 ⟨d, hd⟩
  have e1 : kbc1 (a + 256 * (b + 256 * (c + 256 * d))) = kf1 85 a + 256 * (kf1 85 b + 256 * (kf1 85 c + 256 * kf1 85 d)) := by
    rw [← kf1_s hc, ← kf1_s hb, ← kf1_s ha]
    unfold kf1 kbc1
    show _ - (((a + 256 * (b + 256 * (c + 256 * d))) >>> 1) &&& 1431655765) = _
    rw [Nat.shiftRight_eq_div_pow]
  have e2 : kbc2 (kbc1 (a + 256 * (b + 256 * (c + 256 * d)))) = kf2 51 (kf1 85 a) + 256 * (kf2 51 (kf1 85 b) + 256 * (kf2 51 (kf1 85 c) + 256 * kf2 51 (kf1 85 d))) := by
    rw [e1, ← kf2_s vc.1, ← kf2_s vb.1, ← kf2_s va.1]
    unfold kf2 kbc2
    show (_ &&& 858993459) + ((_ >>> 2) &&& 858993459) = _
    rw [Nat.shiftRight_eq_div_pow]
  have e3 : kbc3 (kbc2 (kbc1 (a + 256 * (b + 256 * (c + 256 * d))))) = kf3 15 (kf2 51 (kf1 85 a)) + 256 * (kf3 15 (kf2 51 (kf1 85 b)) + 256 * (kf3 15 (kf2 51 (kf1 85 c)) + 256 * kf3 15 (kf2 51 (kf1 85 d)))) := by
    have wb := vb.2.2.1
    have wc := vc.2.2.1
    have wd := vd.2.1
    rw [e2, ← kf3_s (M := 15) vc.2.1 wd, ← kf3_s vb.2.1 (by omega), ← kf3_s va.2.1 (by omega)]
    unfold kf3 kbc3
    show ((_ + (_ >>> 4)) &&& 252645135) = _
    rw [Nat.shiftRight_eq_div_pow]
  have va4 := va.2.2.2.1
  have vb4 := vb.2.2.2.1
  have vc4 := vc.2.2.2.1
  have vd4 := vd.2.2
  have va5 := va.2.2.2.2
  have vb5 := vb.2.2.2.2
  have vc5 := vc.2.2.2.2
  have vd5 := vd.1
  have eg : gcb (a + 256 * (b + 256 * (c + 256 * d))) = kf3 15 (kf2 51 (kf1 85 a)) + (kf3 15 (kf2 51 (kf1 85 b)) + (kf3 15 (kf2 51 (kf1 85 c)) + kf3 15 (kf2 51 (kf1 85 d)))) := by
    unfold gcb
    rw [gcb_c, gcb_by ha 23, gcb_by hb 15, gcb_by hc 7, va5, vb5, vc5, vd5, gcb_c d 7]
  rw [eg]
  unfold kbc
  rw [e3]
  generalize kf3 15 (kf2 51 (kf1 85 a)) = p at va4 ⊢
  generalize kf3 15 (kf2 51 (kf1 85 b)) = q at vb4 ⊢
  generalize kf3 15 (kf2 51 (kf1 85 c)) = r at vc4 ⊢
  generalize kf3 15 (kf2 51 (kf1 85 d)) = s at vd4 ⊢
  have e4 : kbc4 (p + 256 * (q + 256 * (r + 256 * s))) = (p + q) + 256 * (q + r) + 65536 * (r + s) + 16777216 * s := by
    unfold kbc4
    show _ + (_ >>> 8) = _
    rw [Nat.shiftRight_eq_div_pow]
    omega
  rw [e4]
  unfold kbc5
  show ((_ + (_ >>> 16)) &&& 63) = _
  rw [Nat.shiftRight_eq_div_pow]
  have e5 : ∀ z : Nat, z &&& 63 = z % 64 := fun z => Nat.and_two_pow_sub_one_eq_mod z 6
  have e6 : ((p + q) + 256 * (q + r) + 65536 * (r + s) + 16777216 * s) / 2 ^ 16 = (r + s) + 256 * s := by
    rw [show (2 : Nat) ^ 16 = 65536 by decide]
    omega
  rw [e6, e5]
  omega
theorem zct_p (q : Nat → Bool) : ∀ n, zct (fun i => q i = true) n % 2 = (zbx q n).toNat
  | 0 => rfl
  | n + 1 => by
    have ih := zct_p q n
    cases h : q n with
    | true =>
      rw [zct_t (p := fun i => q i = true) h]
      have e : zbx q (n + 1) = Bool.xor (zbx q n) true := by rw [← h]; rfl
      rw [e]
      cases g : zbx q n with
      | true =>
        rw [g] at ih
        have i2 : zct (fun i => q i = true) n % 2 = 1 := ih
        show (zct (fun i => q i = true) n + 1) % 2 = 0
        omega
      | false =>
        rw [g] at ih
        have i2 : zct (fun i => q i = true) n % 2 = 0 := ih
        show (zct (fun i => q i = true) n + 1) % 2 = 1
        omega
    | false =>
      rw [zct_f (p := fun i => q i = true) (by rw [h]; decide)]
      have e : zbx q (n + 1) = zbx q n := by
        show Bool.xor (zbx q n) (q n) = _
        rw [h]
        exact Bool.xor_false _
      rw [e]
      exact ih
theorem zpar_k {x : Nat} (h : x < 134217728) : kbc x % 2 = (zpar x).toNat := by
  rw [kbc_h h]
  unfold gcb
  rw [gcb_c, zct_p]
  unfold zpar
  have e : zbx (fun i => x.testBit i) 32 = zbx (fun i => x.testBit i) 31 := by
    show Bool.xor (zbx (fun i => x.testBit i) 31) (x.testBit 31) = _
    rw [Nat.testBit_lt_two_pow (show x < 2 ^ 31 by omega)]
    exact Bool.xor_false _
  rw [e]
theorem zxor_n (m n : Nat) (hm : m < 2147483648) (hn : n < 2147483648) : zxor m n = ((m ^^^ n : Nat) : Int) := by
  refine zn_ti ?_ (Nat.xor_lt_two_pow (n := 31) hm hn)
  rw [Int32.toBitVec_xor, BitVec.toNat_xor, zn_bv m hm, zn_bv n hn]
theorem zpar_i {w a v : Int} (hw : 0 ≤ w ∧ w < 134217728) (ha : 0 ≤ a ∧ a < 134217728) (hv : v = ((kbc (zand w a).toNat : Nat) : Int)) : (zand v 1 = 0 ↔ zpm a.toNat w.toNat = false) := by
  obtain ⟨m, rfl⟩ := Int.eq_ofNat_of_zero_le hw.1
  obtain ⟨n, rfl⟩ := Int.eq_ofNat_of_zero_le ha.1
  have h1 := zand_n m n (by omega) (by omega)
  have hl : m &&& n < 134217728 := Nat.lt_of_le_of_lt Nat.and_le_left (by omega)
  rw [h1, Int.toNat_natCast] at hv
  have h2 := zand_n (kbc (m &&& n)) 1 (by have := kbc_b (m &&& n); omega) (by omega)
  rw [hv]
  have h3 : zand ((kbc (m &&& n) : Nat) : Int) 1 = ((kbc (m &&& n) &&& 1 : Nat) : Int) := h2
  rw [h3, Nat.and_one_is_mod, zpar_k hl, Int.toNat_natCast, Int.toNat_natCast]
  unfold zpm
  cases zpar (m &&& n) <;> decide
theorem zand_p {w a : Int} (hw : 0 ≤ w ∧ w < 134217728) (ha : 0 ≤ a ∧ a < 134217728) : 0 ≤ zand w a := by
  obtain ⟨m, rfl⟩ := Int.eq_ofNat_of_zero_le hw.1
  obtain ⟨n, rfl⟩ := Int.eq_ofNat_of_zero_le ha.1
  rw [zand_n m n (by omega) (by omega)]
  omega
theorem zxor_i {w a : Int} (hw : 0 ≤ w ∧ w < 134217728) (ha : 0 ≤ a ∧ a < 134217728) : (zxor w a).toNat = w.toNat ^^^ a.toNat ∧ 0 ≤ zxor w a ∧ zxor w a < 134217728 := by
  obtain ⟨m, rfl⟩ := Int.eq_ofNat_of_zero_le hw.1
  obtain ⟨n, rfl⟩ := Int.eq_ofNat_of_zero_le ha.1
  have hl : m ^^^ n < 2 ^ 27 := Nat.xor_lt_two_pow (by omega) (by omega)
  rw [zxor_n m n (by omega) (by omega)]
  exact ⟨by rw [Int.toNat_natCast, Int.toNat_natCast, Int.toNat_natCast], by omega, by omega⟩
theorem zcast_b {n : Nat} {w : Int} (e : w = ((n : Nat) : Int)) (h : n < 134217728) : 0 ≤ w ∧ w < 134217728 := by omega
theorem zcast_c {n : Nat} {w : Int} (e : w = ((n : Nat) : Int)) (h : n ≤ 134217728) : 0 ≤ w ∧ w ≤ 134217728 := by omega
theorem zp27l {m : Nat} (h : m ≤ 27) : 2 ^ m ≤ 134217728 := by
  have h2 : 2 ^ m ≤ 2 ^ 27 := Nat.pow_le_pow_right (by decide) h
  exact Nat.le_trans h2 (Nat.le_of_eq rfl)
def zub (d : Nat) (M : zMem) : Nat → Nat := fun i => (ze M (d + 30) i).toNat
def zNw (S : Nat → Prop) (d : Nat) (M : zMem) : Prop := (0 ≤ ze M (d + 28) 3 ∧ ze M (d + 28) 3 ≤ 27) ∧ (∀ i : Nat, (i : Int) < ze M (d + 28) 3 → 0 ≤ ze M (d + 30) i ∧ ze M (d + 30) i < 134217728) ∧ zind (zub d M) (ze M (d + 28) 3).toNat ∧ ∀ x, zsp (zub d M) (ze M (d + 28) 3).toNat x ↔ S x
def zNv (S : Nat → Prop) (q : Nat) (k o : Int) (d : Nat) (M : zMem) : Prop := zNw S d M ∧ (∀ i : Nat, (i : Int) < k → (i : Int) ≠ o → zpm q (zub d M i) = false) ∧ (o = -1 ∨ (0 ≤ o ∧ o < k ∧ zpm q (zub d M o.toNat) = true))
section ZNW
variable {S S' : Nat → Prop} {q d : Nat} {k o : Int} {M N : zMem} {FA : List (Nat × Nat)} {CA : List Nat} {FR : List (Nat × Nat)} {CR : List Nat}
theorem zNw_e (h3 : ze N (d + 28) 3 = ze M (d + 28) 3) (hr : ∀ i : Nat, (i : Int) < ze M (d + 28) 3 → ze N (d + 30) i = ze M (d + 30) i) (h : zNw S d M) : zNw S d N := by
  obtain ⟨a, b, c, e⟩ := h
  have hc : ∀ i, i < (ze M (d + 28) 3).toNat → zub d N i = zub d M i := fun i hi => by
    unfold zub
    rw [hr i (by omega)]
  have hc2 : ∀ p : Nat → Bool, zxs (zpk p (zub d N)) (ze M (d + 28) 3).toNat = zxs (zpk p (zub d M)) (ze M (d + 28) 3).toNat := fun p => zxs_c _ (fun i hi => by
    unfold zpk
    rw [hc i hi])
  unfold zNw
  rw [h3]
  refine ⟨a, fun i hi => by rw [hr i hi]; exact b i hi, fun p hp => c p (by rw [← hc2]; exact hp), fun x => ?_⟩
  rw [← e x]
  constructor
  · rintro ⟨p, hp⟩
    exact ⟨p, by rw [← hc2]; exact hp⟩
  · rintro ⟨p, hp⟩
    exact ⟨p, by rw [hc2]; exact hp⟩
theorem zNw.fr (_ : zKW d M) (hf : zFc d FA CA FR CR M N) (h : zNw S d M) (hd : (28 < 38 ∧ 28 ∉ CR ∧ (28, 3) ∉ FR) ∧ 30 < 38 ∧ 30 ∉ CR ∧ ∀ x ∈ FR, x.1 ≠ 30) : zNw S d N := zNw_e (hf.e hd.1) (fun i _ => hf.r hd.2 i) h
theorem zNw.c (h : zNw S d M) (hc : ∀ x, S x ↔ S' x) : zNw S' d M := ⟨h.1, h.2.1, h.2.2.1, fun x => (h.2.2.2 x).trans (hc x)⟩
theorem zpm_l (q : Nat) : zln (zpm q) := ⟨zpm_00 q, zpm_x q⟩
theorem zNv_0 (h : zNw S d M) : zNv S q 0 (-1) d M := ⟨h, fun i hi => absurd hi (by omega), Or.inl rfl⟩
theorem zNv_e (h : zNv S q k o d M) (k0 : 0 ≤ k) (he : zpm q (zub d M k.toNat) = false) : zNv S q (k + 1) o d M := by
  obtain ⟨a, b, c⟩ := h
  refine ⟨a, fun i hi ho => ?_, ?_⟩
  · by_cases g : (i : Int) = k
    · rw [show i = k.toNat by omega]
      exact he
    · exact b i (by omega) ho
  · rcases c with c | ⟨c1, c2, c3⟩
    · exact Or.inl c
    · exact Or.inr ⟨c1, by omega, c3⟩
theorem zNv_o (h : zNv S q k (-1) d M) (k0 : 0 ≤ k) (he : zpm q (zub d M k.toNat) = true) : zNv S q (k + 1) k d M := by
  obtain ⟨a, b, c⟩ := h
  exact ⟨a, fun i hi ho => b i (by omega) (by omega), Or.inr ⟨k0, by omega, he⟩⟩
theorem zNv_x (h : zNv S q k o d M) (k0 : 0 ≤ k) (hk : k < ze M (d + 28) 3) (ho : o ≠ -1) (he : zpm q (zub d M k.toNat) = true) (h3 : ze N (d + 28) 3 = ze M (d + 28) 3) (hr : ∀ i : Nat, (i : Int) ≠ k → ze N (d + 30) i = ze M (d + 30) i) (hx : ze N (d + 30) k.toNat = zxor (ze M (d + 30) k.toNat) (ze M (d + 30) o.toNat)) : zNv S q (k + 1) o d N := by
  obtain ⟨⟨a1, a2, a3, a4⟩, b, c⟩ := h
  rcases c with c | ⟨c1, c2, c3⟩
  · exact absurd c ho
  have hk1 := a2 k.toNat (by omega)
  have ho1 := a2 o.toNat (by omega)
  obtain ⟨x1, x2, x3⟩ := zxor_i hk1 ho1
  rw [← hx] at x1 x2 x3
  have hb : ∀ i, i < (ze M (d + 28) 3).toNat → zub d N i = zub d M i ^^^ cond (decide (i = k.toNat)) (zub d M o.toNat) 0 := fun i hi => by
    by_cases g : i = k.toNat
    · rw [g, decide_eq_true rfl]
      exact x1
    · rw [decide_eq_false g]
      show zub d N i = zub d M i ^^^ 0
      rw [Nat.xor_zero]
      unfold zub
      rw [hr i (by omega)]
  have hto : decide (o.toNat = k.toNat) = false := decide_eq_false (by omega)
  have hom : o.toNat < (ze M (d + 28) 3).toNat := by omega
  have hbk := hb k.toNat (by omega)
  rw [decide_eq_true rfl] at hbk
  refine ⟨⟨by rw [h3]; exact a1, fun i hi => ?_, ?_, fun x => ?_⟩, fun i hi hio => ?_, Or.inr ⟨c1, by omega, ?_⟩⟩
  · rw [h3] at hi
    by_cases g : (i : Int) = k
    · rw [show i = k.toNat by omega]
      exact ⟨x2, x3⟩
    · rw [hr i g]
      exact a2 i hi
  · rw [h3]
    exact zind_a hom hb hto a3
  · rw [h3, ← a4 x]
    exact zsp_a hom hb hto
  · by_cases g : (i : Int) = k
    · rw [show i = k.toNat by omega, hbk]
      show zpm q (zub d M k.toNat ^^^ zub d M o.toNat) = false
      rw [zpm_x, he, c3]
      rfl
    · have e : zub d N i = zub d M i := by
        unfold zub
        rw [hr i g]
      rw [e]
      exact b i (by omega) hio
  · have e : zub d N o.toNat = zub d M o.toNat := by
      unfold zub
      rw [hr o.toNat (by omega)]
    rw [e]
    exact c3
theorem zNv_n (h : zNv S q k (-1) d M) (hk : k = ze M (d + 28) 3) : zNw (fun x => S x ∧ zpm q x = false) d M := by
  obtain ⟨⟨a1, a2, a3, a4⟩, b, -⟩ := h
  refine ⟨a1, a2, a3, fun x => ⟨fun hx => ⟨(a4 x).mp hx, ?_⟩, fun hx => (a4 x).mpr hx.1⟩⟩
  refine zsp_l (S := fun x => zpm q x = false) (zpm_00 q) (fun x i hi hx => ?_) hx
  rw [zpm_x, hx, b i (by omega) (by omega)]
  rfl
theorem zNv_d (h : zNv S q k o d M) (hk : k = ze M (d + 28) 3) (ho : o ≠ -1) (h3 : ze N (d + 28) 3 = ze M (d + 28) 3 - 1) (hr : ∀ i : Nat, (i : Int) ≠ o → ze N (d + 30) i = ze M (d + 30) i) (hx : ze N (d + 30) o.toNat = ze M (d + 30) (ze M (d + 28) 3 - 1).toNat) : zNw (fun x => S x ∧ zpm q x = false) d N := by
  obtain ⟨⟨a1, a2, a3, a4⟩, b, c⟩ := h
  rcases c with c | ⟨c1, c2, c3⟩
  · exact absurd c ho
  obtain ⟨n, hn⟩ : ∃ n : Nat, ze M (d + 28) 3 = (n : Int) + 1 := ⟨(ze M (d + 28) 3 - 1).toNat, by omega⟩
  have e1 : (ze M (d + 28) 3).toNat = n + 1 := by omega
  have e2 : (ze N (d + 28) 3).toNat = n := by omega
  rw [e1] at a3
  have hb : ∀ i, i < n → zub d N i = if i = o.toNat then zub d M n else zub d M i := fun i hi => by
    by_cases g : i = o.toNat
    · rw [if_pos g, g]
      unfold zub
      rw [hx, show (ze M (d + 28) 3 - 1).toNat = n by omega]
    · rw [if_neg g]
      unfold zub
      rw [hr i (by omega)]
  refine ⟨by omega, fun i hi => ?_, ?_, fun x => ?_⟩
  · by_cases g : (i : Int) = o
    · rw [show i = o.toNat by omega, hx]
      exact a2 _ (by omega)
    · rw [hr i g]
      exact a2 i (by omega)
  · rw [e2]
    exact zind_d (by omega) hb a3
  · show zsp (zub d N) (ze N (d + 28) 3).toNat x ↔ (S x ∧ zpm q x = false)
    rw [e2, ← a4 x, e1]
    exact zsp_d (zpm_l q) (by omega) c3 (fun i hi hio => b i (by omega) (by omega)) hb
end ZNW
def zPd (T : zGT) (j g k x : Nat) : Prop := ∀ g' k', gUr T j g' → gUr T j k' → (g' < g ∨ (g' = g ∧ k' < k)) → zpm (gUq T j g' k') x = false
def zJn (T : zGT) (j : Nat) (s : Int) (d : Nat) (M : zMem) (g : Int) : Prop := (0 ≤ s ∧ s < 16777216) ∧ (∀ x : Nat, s.toNat.testBit x = true ↔ ((x : Int) < g ∧ gUr T j x)) ∧ ∀ x : Nat, (x : Int) < g → gUr T j x → ze M (d + 32) x = ((2 ^ ((gF T).length - 1 - gUs T j x) : Nat) : Int)
section ZPD
variable {T : zGT} {S : Nat → Prop} {j d : Nat} {g k s v : Int} {M N : zMem}
theorem zPd_0 (h : zNw S d M) : zNw (fun x => S x ∧ zPd T j 0 0 x) d M := h.c (fun x => ⟨fun q => ⟨q, fun g' k' _ _ q2 => absurd q2 (by omega)⟩, fun q => q.1⟩)
theorem zPd_k (h : zNw (fun x => S x ∧ zPd T j g.toNat k.toNat x) d M) (k0 : 0 ≤ k) (hn : ¬ (gUr T j g.toNat ∧ gUr T j k.toNat)) : zNw (fun x => S x ∧ zPd T j g.toNat (k + 1).toNat x) d M := h.c (fun x => and_congr_right fun _ => by
  constructor
  · intro q g' k' h1 h2 h3
    refine q g' k' h1 h2 ?_
    rcases h3 with h3 | ⟨h3, h4⟩
    · exact Or.inl h3
    · refine Or.inr ⟨h3, ?_⟩
      by_cases e : k' = k.toNat
      · rw [h3] at h1
        rw [e] at h2
        exact absurd ⟨h1, h2⟩ hn
      · omega
  · intro q g' k' h1 h2 h3
    exact q g' k' h1 h2 (by omega))
theorem zPd_s (h : zNw (fun x => (S x ∧ zPd T j g.toNat k.toNat x) ∧ zpm (gUq T j g.toNat k.toNat) x = false) d M) (k0 : 0 ≤ k) (hg : gUr T j g.toNat) (hk : gUr T j k.toNat) : zNw (fun x => S x ∧ zPd T j g.toNat (k + 1).toNat x) d M := h.c (fun x => by
  constructor
  · rintro ⟨⟨q1, q2⟩, q3⟩
    refine ⟨q1, fun g' k' h1 h2 h3 => ?_⟩
    by_cases e : g' = g.toNat ∧ k' = k.toNat
    · rw [e.1, e.2]
      exact q3
    · exact q2 g' k' h1 h2 (by omega)
  · rintro ⟨q1, q2⟩
    exact ⟨⟨q1, fun g' k' h1 h2 h3 => q2 g' k' h1 h2 (by omega)⟩, q2 _ _ hg hk (by omega)⟩)
theorem zPd_r (h : zNw (fun x => S x ∧ zPd T j g.toNat k.toNat x) d M) (g0 : 0 ≤ g) (hk : k = (gN T : Int)) : zNw (fun x => S x ∧ zPd T j (g + 1).toNat 0 x) d M := h.c (fun x => and_congr_right fun _ => by
  constructor
  · intro q g' k' h1 h2 h3
    have := h2.1
    exact q g' k' h1 h2 (by omega)
  · intro q g' k' h1 h2 h3
    exact q g' k' h1 h2 (by omega))
theorem zPd_e (h : zNw (fun x => S x ∧ zPd T j g.toNat 0 x) d M) (hg : g = (gN T : Int)) : zNw (fun x => S x ∧ zyC T j x) d M := h.c (fun x => and_congr_right fun _ => by
  constructor
  · intro q g' k' h1 h2
    have := h1.1
    exact q g' k' h1 h2 (by omega)
  · intro q g' k' h1 h2 h3
    exact q g' k' h1 h2)
theorem zJn_0 : zJn T j 0 d M 0 := ⟨by omega, fun x => ⟨fun h => (by rw [show (0 : Int).toNat = 0 from rfl, Nat.zero_testBit] at h; cases h), fun h => absurd h.1 (by omega)⟩, fun x h => absurd h (by omega)⟩
theorem zJn_n (h : zJn T j s d M g) (g0 : 0 ≤ g) (hn : ¬ gUr T j g.toNat) : zJn T j s d M (g + 1) := by
  obtain ⟨a, b, c⟩ := h
  refine ⟨a, fun x => ?_, fun x hx hr => ?_⟩
  · rw [b x]
    constructor
    · exact fun q => ⟨by omega, q.2⟩
    · rintro ⟨q1, q2⟩
      by_cases e : (x : Int) = g
      · rw [show x = g.toNat by omega] at q2
        exact absurd q2 hn
      · exact ⟨by omega, q2⟩
  · by_cases e : (x : Int) = g
    · rw [show x = g.toNat by omega] at hr
      exact absurd hr hn
    · exact c x (by omega) hr
theorem zJn_s {s' : Int} (h : zJn T j s d M g) (g0 : 0 ≤ g) (g1 : g < 24) (hr : gUr T j g.toNat) (hs : s' = zor s (zshl 1 g)) (ho : ∀ x : Nat, (x : Int) ≠ g → ze N (d + 32) x = ze M (d + 32) x) (hx : ze N (d + 32) g.toNat = ((2 ^ ((gF T).length - 1 - gUs T j g.toNat) : Nat) : Int)) : zJn T j s' d N (g + 1) := by
  obtain ⟨⟨a1, a2⟩, b, c⟩ := h
  obtain ⟨m, rfl⟩ := Int.eq_ofNat_of_zero_le a1
  obtain ⟨n, rfl⟩ := Int.eq_ofNat_of_zero_le g0
  have hp : 2 ^ n < 2 ^ 24 := Nat.pow_lt_pow_right (by omega) (by omega)
  have e : s' = ((m ||| 2 ^ n : Nat) : Int) := by rw [hs, zshl1 n (by omega), zor_n m (2 ^ n) (by omega) (by omega)]
  have hl : m ||| 2 ^ n < 2 ^ 24 := Nat.or_lt_two_pow (by omega) hp
  rw [Int.toNat_natCast] at hr hx
  refine ⟨by omega, fun x => ?_, fun x hx1 hr1 => ?_⟩
  · rw [e, Int.toNat_natCast, Nat.testBit_or, Bool.or_eq_true, Nat.testBit_two_pow, decide_eq_true_iff]
    have h1 := b x
    rw [Int.toNat_natCast] at h1
    rw [h1]
    constructor
    · rintro (⟨q1, q2⟩ | q)
      · exact ⟨by omega, q2⟩
      · rw [← q]
        exact ⟨by omega, hr⟩
    · rintro ⟨q1, q2⟩
      by_cases g : x = n
      · exact Or.inr g.symm
      · exact Or.inl ⟨by omega, q2⟩
  · by_cases g : x = n
    · rw [g]
      exact hx
    · rw [ho x (by omega)]
      exact c x (by omega) hr1
theorem zJn_e (h : zJn T j s d M g) (hn : ∀ x : Nat, ze N (d + 32) x = ze M (d + 32) x) : zJn T j s d N g := ⟨h.1, h.2.1, fun x hx hr => (hn x).trans (h.2.2 x hx hr)⟩
theorem zJn_b (h : zJn T j s d M g) (hg : g = (gN T : Int)) {x : Int} (x0 : 0 ≤ x) : zbt s x ↔ gUr T j x.toNat := by
  unfold zbt
  rw [h.2.1 x.toNat]
  exact ⟨fun q => q.2, fun q => ⟨by have := q.1; omega, q⟩⟩
end ZPD
theorem gUr_c {T : zGT} (hT : T ∈ gTabs) (hA : gGr T) {j g k : Nat} (hj : j < (gF T).length) (hg : gUr T j g) (hk : gUr T j k) : gUr T j (gcos T (gFn T j) (gm T g k)) := by
  have hO := gTabs_ok T hT
  have hG := hO.1
  have hX := gTabs_ex T hT
  have hH := (hO.2.1.2.2 _ (hO.2.2.1.2.1 _ (gFn_m hj)).1).1
  have hx : gm T g k < gN T := hG.2.2.2 g k hg.1 hk.1
  have hn : gtr T (gFn T j) (gm T g k) = gFn T j := by rw [← gtr_cm hA hG hg.1 hk.1, hg.2.1, hk.2.1]
  refine ⟨gcos_lt hA hG hH.2.2 hx, ?_, gcos_i hA hG hX hH.2.2 hx⟩
  rw [gtr_co hA hG hX hH.2.2 hH.2.1 hx, hn]
theorem zp27 {F a : Nat} (hF : F ≤ 27) (h1 : 1 ≤ F) : 2 ^ (F - 1 - a) < 134217728 := by
  have h : F - 1 - a < 27 := by omega
  have h2 : 2 ^ (F - 1 - a) < 2 ^ 27 := Nat.pow_lt_pow_right (by decide) h
  exact Nat.lt_of_lt_of_le h2 (Nat.le_of_eq rfl)
theorem zUq_i {T : zGT} {j g k c : Nat} {w0 w1 w2 w3 : Int} (h27 : (gF T).length ≤ 27) (h1 : 1 ≤ (gF T).length) (e0 : w0 = ((2 ^ ((gF T).length - 1 - j) : Nat) : Int)) (e1 : w1 = ((2 ^ ((gF T).length - 1 - gUs T j g) : Nat) : Int)) (e2 : w2 = ((2 ^ ((gF T).length - 1 - gUs T j k) : Nat) : Int)) (hc : c = gcos T (gFn T j) (gm T g k)) (e3 : w3 = ((2 ^ ((gF T).length - 1 - gUs T j c) : Nat) : Int)) : (zxor (zxor (zxor w0 w1) w2) w3).toNat = gUq T j g k ∧ 0 ≤ zxor (zxor (zxor w0 w1) w2) w3 ∧ zxor (zxor (zxor w0 w1) w2) w3 < 134217728 := by
  have b0 := zp27 (a := j) h27 h1
  have b1 := zp27 (a := gUs T j g) h27 h1
  have b2 := zp27 (a := gUs T j k) h27 h1
  have b3 := zp27 (a := gUs T j c) h27 h1
  obtain ⟨x1, x2, x3⟩ := zxor_i (w := w0) (a := w1) (zcast_b e0 b0) (zcast_b e1 b1)
  obtain ⟨y1, y2, y3⟩ := zxor_i (w := zxor w0 w1) (a := w2) ⟨x2, x3⟩ (zcast_b e2 b2)
  obtain ⟨v1, v2, v3⟩ := zxor_i (w := zxor (zxor w0 w1) w2) (a := w3) ⟨y2, y3⟩ (zcast_b e3 b3)
  refine ⟨?_, v2, v3⟩
  rw [v1, y1, x1, e0, e1, e2, e3, hc]
  rfl
theorem zone_t (p : Nat → Bool) (t : Nat) : ∀ m : Nat, (zxs (zpk p (fun i => 2 ^ i)) m).testBit t = (decide (t < m) && p t)
  | m => by
    rw [zxs_t]
    have e : ∀ i, (zpk p (fun i => 2 ^ i) i).testBit t = (decide (i = t) && p t) := fun i => by
      show (cond (p i) (2 ^ i) 0).testBit t = _
      by_cases g : i = t
      · rw [g, decide_eq_true rfl]
        cases p t
        · exact Nat.zero_testBit t
        · exact Nat.testBit_two_pow_self
      · rw [decide_eq_false g]
        cases p i
        · exact Nat.zero_testBit t
        · show (2 ^ i).testBit t = false
          rw [Nat.testBit_two_pow, decide_eq_false g]
    by_cases g : t < m
    · have h1 := zbx_1 (q := fun i => (zpk p (fun i => 2 ^ i) i).testBit t) (o := t) m (fun i _ hi => (e i).trans (by rw [decide_eq_false hi]; rfl)) g
      exact h1.trans ((e t).trans (by rw [decide_eq_true g, decide_eq_true rfl]))
    · have h1 := zbx_0 (q := fun i => (zpk p (fun i => 2 ^ i) i).testBit t) m (fun i hi => (e i).trans (by rw [decide_eq_false (show ¬ i = t by omega)]; rfl))
      exact h1.trans (by rw [decide_eq_false g]; rfl)
theorem zNw_1 {F d : Nat} {M : zMem} (h27 : F ≤ 27) (h3 : ze M (d + 28) 3 = (F : Int)) (hr : ∀ i : Nat, i < F → ze M (d + 30) i = ((2 ^ i : Nat) : Int)) : zNw (fun x => x < 2 ^ F) d M := by
  have hm : (ze M (d + 28) 3).toNat = F := by omega
  have hc : ∀ p : Nat → Bool, zxs (zpk p (zub d M)) F = zxs (zpk p (fun i => 2 ^ i)) F := fun p => zxs_c F (fun i hi => by
    show cond (p i) (ze M (d + 30) i).toNat 0 = cond (p i) (2 ^ i) 0
    rw [hr i hi, Int.toNat_natCast])
  refine ⟨by omega, fun i hi => ?_, ?_, fun x => ?_⟩
  · have h2 : (2 : Nat) ^ i < 2 ^ 27 := Nat.pow_lt_pow_right (by omega) (by omega)
    exact zcast_b (hr i (by omega)) (Nat.lt_of_lt_of_le h2 (Nat.le_of_eq rfl))
  · rw [hm]
    intro p hp i hi
    rw [hc] at hp
    have h := zone_t p i F
    rw [hp, Nat.zero_testBit, decide_eq_true hi] at h
    exact h.symm
  · rw [hm]
    constructor
    · rintro ⟨p, rfl⟩
      show zxs (zpk p (zub d M)) F < 2 ^ F
      rw [hc]
      refine Nat.lt_pow_two_of_testBit _ (fun i hi => ?_)
      rw [zone_t, decide_eq_false (show ¬ i < F by omega)]
      rfl
    · intro hx
      refine ⟨fun i => x.testBit i, ?_⟩
      rw [hc]
      refine Nat.eq_of_testBit_eq fun i => ?_
      rw [zone_t]
      by_cases g : i < F
      · rw [decide_eq_true g]
        rfl
      · rw [decide_eq_false g, Nat.testBit_lt_two_pow (Nat.lt_of_lt_of_le hx (Nat.pow_le_pow_right (by omega) (by omega)))]
        rfl
def zyT (S : Nat → Prop) (F : Nat) (s k : Int) (d : Nat) (M : zMem) : Prop := zNw S d M ∧ (0 ≤ k ∧ k ≤ ze M (d + 28) 3 ∧ k ≤ s) ∧ ∃ pv : Nat → Nat, (∀ i : Nat, (i : Int) < k → (zub d M i).testBit (pv i) = true ∧ (F : Int) - s ≤ pv i ∧ ∀ t, pv i < t → (zub d M i).testBit t = false) ∧ (∀ i j : Nat, (i : Int) < k → (j : Int) < ze M (d + 28) 3 → i ≠ j → (zub d M j).testBit (pv i) = false) ∧ (∀ i j : Nat, i < j → (j : Int) < k → pv j < pv i) ∧ ∀ i : Nat, k ≤ i → (i : Int) < ze M (d + 28) 3 → ∀ t : Nat, (F : Int) - s ≤ t → (zub d M i).testBit t = false
def zSq (S : Nat → Prop) (F : Nat) (s k b : Int) (d : Nat) (M : zMem) : Prop := zyT S F s k d M ∧ k < ze M (d + 28) 3 ∧ (zub d M k.toNat).testBit ((F : Int) - 1 - s).toNat = true ∧ ∀ i : Nat, (i : Int) < b → (i : Int) ≠ k → (zub d M i).testBit ((F : Int) - 1 - s).toNat = false
def zUf (S : Nat → Prop) (d : Nat) (M : zMem) : Prop := zNw S d M ∧ ∃ pv, zrr2 (zub d M) (ze M (d + 28) 3).toNat pv
section ZST2
variable {S : Nat → Prop} {F d : Nat} {s k b c : Int} {M N : zMem} {FA : List (Nat × Nat)} {CA : List Nat} {FR : List (Nat × Nat)} {CR : List Nat}
theorem zUf.fr (hW : zKW d M) (hf : zFc d FA CA FR CR M N) (h : zUf S d M) (hd : (28 < 38 ∧ 28 ∉ CR ∧ (28, 3) ∉ FR) ∧ 30 < 38 ∧ 30 ∉ CR ∧ ∀ x ∈ FR, x.1 ≠ 30) : zUf S d N := by
  obtain ⟨h1, pv, h2⟩ := h
  refine ⟨h1.fr hW hf hd, pv, ?_⟩
  have e : zub d N = zub d M := funext fun i => by
    unfold zub
    rw [hf.r hd.2]
  rw [e, hf.e hd.1]
  exact h2
theorem zub_b {x : Nat} (h : zNw S d M) (hS : ∀ x, S x → x < 2 ^ F) {i : Nat} (hi : (i : Int) < ze M (d + 28) 3) : zub d M i < 2 ^ F := hS _ ((h.2.2.2 _).mp (zsp_m (by omega)))
theorem zyT_0 (h : zNw S d M) (hS : ∀ x, S x → x < 2 ^ F) : zyT S F 0 0 d M := ⟨h, ⟨by omega, h.1.1, by omega⟩, fun _ => 0, fun i hi => absurd hi (by omega), fun i j hi => absurd hi (by omega), fun i j _ hj => absurd hj (by omega), fun i _ hi t ht => Nat.testBit_lt_two_pow (Nat.lt_of_lt_of_le (zub_b (x := 0) h hS hi) (Nat.pow_le_pow_right (by omega) (by omega)))⟩
theorem zyT_n (h : zyT S F s k d M) (hs : s < F) (hn : ∀ i : Nat, k ≤ i → (i : Int) < ze M (d + 28) 3 → (zub d M i).testBit ((F : Int) - 1 - s).toNat = false) : zyT S F (s + 1) k d M := by
  obtain ⟨a, b, pv, c1, c2, c3, c4⟩ := h
  refine ⟨a, ⟨b.1, b.2.1, by omega⟩, pv, fun i hi => ⟨(c1 i hi).1, by have := (c1 i hi).2.1; omega, (c1 i hi).2.2⟩, c2, c3, fun i h1 h2 t ht => ?_⟩
  by_cases g : (t : Int) = (F : Int) - 1 - s
  · rw [show t = ((F : Int) - 1 - s).toNat by omega]
    exact hn i h1 h2
  · exact c4 i h1 h2 t (by omega)
theorem zSq_0 (h : zyT S F s k d M) (hc : k ≤ c ∧ c < ze M (d + 28) 3) (hb : (zub d M c.toNat).testBit ((F : Int) - 1 - s).toNat = true) (h3 : ze N (d + 28) 3 = ze M (d + 28) 3) (hr : ∀ i : Nat, ze N (d + 30) i = if (i : Int) = k then ze M (d + 30) c.toNat else if (i : Int) = c then ze M (d + 30) k.toNat else ze M (d + 30) i) : zSq S F s k 0 d N := by
  obtain ⟨⟨a1, a2, a3, a4⟩, ⟨b1, b2, b3⟩, pv, c1, c2, c3, c4⟩ := h
  have hk : k < ze M (d + 28) 3 := by omega
  have e : ∀ i : Nat, zub d N i = if i = k.toNat then zub d M c.toNat else if i = c.toNat then zub d M k.toNat else zub d M i := fun i => by
    unfold zub
    rw [hr i]
    by_cases g : (i : Int) = k
    · rw [if_pos g, if_pos (by omega)]
    · rw [if_neg g, if_neg (show ¬ i = k.toNat by omega)]
      by_cases g2 : (i : Int) = c
      · rw [if_pos g2, if_pos (show i = c.toNat by omega)]
      · rw [if_neg g2, if_neg (show ¬ i = c.toNat by omega)]
  have eo : ∀ i : Nat, (i : Int) < k → zub d N i = zub d M i := fun i hi => by rw [e i, if_neg (by omega), if_neg (by omega)]
  have ei : ∀ i : Nat, k ≤ i → (i : Int) < ze M (d + 28) 3 → ∃ i' : Nat, k ≤ i' ∧ (i' : Int) < ze M (d + 28) 3 ∧ zub d N i = zub d M i' := fun i h1 h2 => by
    rw [e i]
    by_cases g : i = k.toNat
    · rw [if_pos g]
      exact ⟨c.toNat, by omega, by omega, rfl⟩
    · rw [if_neg g]
      by_cases g2 : i = c.toNat
      · rw [if_pos g2]
        exact ⟨k.toNat, by omega, by omega, rfl⟩
      · rw [if_neg g2]
        exact ⟨i, h1, h2, rfl⟩
  refine ⟨⟨⟨by rw [h3]; exact a1, fun i hi => ?_, ?_, fun x => ?_⟩, ⟨b1, by omega, b3⟩, pv, fun i hi => ?_, fun i j hi hj hij => ?_, c3, fun i h1 h2 t ht => ?_⟩, by omega, ?_, fun i hi => absurd hi (by omega)⟩
  · rw [h3] at hi
    rw [hr i]
    by_cases g : (i : Int) = k
    · rw [if_pos g]
      exact a2 _ (by omega)
    · rw [if_neg g]
      by_cases g2 : (i : Int) = c
      · rw [if_pos g2]
        exact a2 _ (by omega)
      · rw [if_neg g2]
        exact a2 _ hi
  · rw [h3]
    exact zind_w (u := k.toNat) (v := c.toNat) (by omega) (by omega) (fun i _ => e i) a3
  · rw [h3, ← a4 x]
    exact zsp_w (u := k.toNat) (v := c.toNat) (by omega) (by omega) (fun i _ => e i)
  · rw [eo i hi]
    exact c1 i hi
  · by_cases g : (j : Int) < k
    · rw [eo j g]
      exact c2 i j hi (by omega) hij
    · obtain ⟨j', q1, q2, q3⟩ := ei j (by omega) (by omega)
      rw [q3]
      exact c2 i j' hi q2 (by omega)
  · obtain ⟨j', q1, q2, q3⟩ := ei i h1 (by omega)
    rw [q3]
    exact c4 j' q1 q2 t ht
  · rw [e k.toNat, if_pos rfl]
    exact hb
theorem zSq_k (h : zSq S F s k b d M) (b0 : 0 ≤ b) (hk : b = k ∨ (zub d M b.toNat).testBit ((F : Int) - 1 - s).toNat = false) : zSq S F s k (b + 1) d M := by
  refine ⟨h.1, h.2.1, h.2.2.1, fun i hi ho => ?_⟩
  by_cases g : (i : Int) = b
  · rcases hk with q | q
    · omega
    · rw [show i = b.toNat by omega]
      exact q
  · exact h.2.2.2 i (by omega) ho
theorem zSq_s (h : zSq S F s k b d M) (hs : 0 ≤ s ∧ s < F) (b0 : 0 ≤ b) (b1 : b < ze M (d + 28) 3) (hk : b ≠ k) (hb : (zub d M b.toNat).testBit ((F : Int) - 1 - s).toNat = true) (h3 : ze N (d + 28) 3 = ze M (d + 28) 3) (hr : ∀ i : Nat, (i : Int) ≠ b → ze N (d + 30) i = ze M (d + 30) i) (hx : ze N (d + 30) b.toNat = zxor (ze M (d + 30) b.toNat) (ze M (d + 30) k.toNat)) : zSq S F s k (b + 1) d N := by
  obtain ⟨⟨⟨a1, a2, a3, a4⟩, ⟨k0, k1, k2⟩, pv, c1, c2, c3, c4⟩, e1, e2, e3⟩ := h
  obtain ⟨x1, x2, x3⟩ := zxor_i (a2 b.toNat (by omega)) (a2 k.toNat (by omega))
  rw [← hx] at x1 x2 x3
  have eo : ∀ i : Nat, (i : Int) ≠ b → zub d N i = zub d M i := fun i hi => by
    unfold zub
    rw [hr i hi]
  have eb : zub d N b.toNat = zub d M b.toNat ^^^ zub d M k.toNat := x1
  have ek : ∀ t : Nat, (F : Int) - s ≤ t → (zub d M k.toNat).testBit t = false := fun t ht => c4 k.toNat (by omega) (by omega) t ht
  have et : ∀ (i t : Nat), (F : Int) - s ≤ t → (zub d N i).testBit t = (zub d M i).testBit t := fun i t ht => by
    by_cases g : (i : Int) = b
    · rw [show i = b.toNat by omega, eb, Nat.testBit_xor, ek t ht]
      exact Bool.xor_false _
    · rw [eo i g]
  have hz : ∀ i, i < (ze M (d + 28) 3).toNat → zub d N i = zub d M i ^^^ cond (decide (i = b.toNat)) (zub d M k.toNat) 0 := fun i hi => by
    by_cases g : i = b.toNat
    · rw [g, decide_eq_true rfl]
      exact eb
    · rw [decide_eq_false g]
      show zub d N i = zub d M i ^^^ 0
      rw [Nat.xor_zero]
      exact eo i (by omega)
  have hto : decide (k.toNat = b.toNat) = false := decide_eq_false (by omega)
  refine ⟨⟨⟨by rw [h3]; exact a1, fun i hi => ?_, ?_, fun x => ?_⟩, ⟨k0, by omega, k2⟩, pv, fun i hi => ⟨?_, (c1 i hi).2.1, fun t ht => ?_⟩, fun i j hi hj hij => ?_, c3, fun i h1 h2 t ht => ?_⟩, by omega, ?_, fun i hi ho => ?_⟩
  · rw [h3] at hi
    by_cases g : (i : Int) = b
    · rw [show i = b.toNat by omega]
      exact ⟨x2, x3⟩
    · rw [hr i g]
      exact a2 i hi
  · rw [h3]
    exact zind_a (o := k.toNat) (by omega) hz hto a3
  · rw [h3, ← a4 x]
    exact zsp_a (o := k.toNat) (by omega) hz hto
  · rw [et i _ (c1 i hi).2.1]
    exact (c1 i hi).1
  · rw [et i t (by have := (c1 i hi).2.1; omega)]
    exact (c1 i hi).2.2 t ht
  · rw [et j _ (c1 i hi).2.1]
    exact c2 i j hi (by omega) hij
  · rw [et i t ht]
    exact c4 i h1 (by omega) t ht
  · rw [eo k.toNat (by omega)]
    exact e2
  · by_cases g : (i : Int) = b
    · rw [show i = b.toNat by omega, eb, Nat.testBit_xor, hb, e2]
      rfl
    · rw [eo i g]
      exact e3 i (by omega) ho
theorem zSq_e (h : zSq S F s k b d M) (hs : 0 ≤ s ∧ s < F) (hb : b = ze M (d + 28) 3) : zyT S F (s + 1) (k + 1) d M := by
  obtain ⟨⟨a, ⟨k0, k1, k2⟩, pv, c1, c2, c3, c4⟩, e1, e2, e3⟩ := h
  refine ⟨a, ⟨by omega, by omega, by omega⟩, fun i => if i = k.toNat then ((F : Int) - 1 - s).toNat else pv i, fun i hi => ?_, fun i j hi hj hij => ?_, fun i j hij hj => ?_, fun i h1 h2 t ht => ?_⟩
  · show (zub d M i).testBit (if i = k.toNat then ((F : Int) - 1 - s).toNat else pv i) = true ∧ (F : Int) - (s + 1) ≤ ((if i = k.toNat then ((F : Int) - 1 - s).toNat else pv i : Nat) : Int) ∧ ∀ t, (if i = k.toNat then ((F : Int) - 1 - s).toNat else pv i) < t → (zub d M i).testBit t = false
    by_cases g : i = k.toNat
    · rw [if_pos g, g]
      refine ⟨e2, by omega, fun t ht => c4 k.toNat (by omega) (by omega) t (by omega)⟩
    · rw [if_neg g]
      have h4 := c1 i (by omega)
      exact ⟨h4.1, by omega, h4.2.2⟩
  · show (zub d M j).testBit (if i = k.toNat then ((F : Int) - 1 - s).toNat else pv i) = false
    by_cases g : i = k.toNat
    · rw [if_pos g]
      exact e3 j (by omega) (by omega)
    · rw [if_neg g]
      exact c2 i j (by omega) hj hij
  · show (if j = k.toNat then ((F : Int) - 1 - s).toNat else pv j) < (if i = k.toNat then ((F : Int) - 1 - s).toNat else pv i)
    by_cases g : j = k.toNat
    · rw [if_pos g, if_neg (by omega)]
      have h4 := c1 i (by omega)
      omega
    · rw [if_neg g, if_neg (by omega)]
      exact c3 i j hij (by omega)
  · by_cases g : (t : Int) = (F : Int) - 1 - s
    · rw [show t = ((F : Int) - 1 - s).toNat by omega]
      exact e3 i (by omega) (by omega)
    · exact c4 i (by omega) h2 t (by omega)
theorem zyT_e (h : zyT S F s k d M) (hs : s = (F : Int)) : zUf S d M := by
  obtain ⟨a, ⟨k0, k1, k2⟩, pv, c1, c2, c3, c4⟩ := h
  have hk : k = ze M (d + 28) 3 := by
    by_cases g : k = ze M (d + 28) 3
    · exact g
    · have h0 : zub d M k.toNat = 0 := Nat.eq_of_testBit_eq fun t => by
        rw [Nat.zero_testBit]
        exact c4 k.toNat (by omega) (by omega) t (by omega)
      exact absurd h0 (zind_z a.2.2.1 (by omega))
  exact ⟨a, pv, fun i hi => (c1 i (by omega)).1, fun i j hi hj hij => c2 i j (by omega) (by omega) hij, fun i t hi ht => (c1 i (by omega)).2.2 t ht, fun i j hij hj => c3 i j hij (by omega)⟩
theorem zubt {w v : Int} {F n : Nat} {s : Int} (hw : 0 ≤ w ∧ w < 134217728) (hF : F ≤ 27) (hs : 0 ≤ s ∧ s < F) (hv : v = ((2 ^ (F - 1 - s.toNat) : Nat) : Int)) (hn : n = w.toNat) : zand w v = 0 ↔ n.testBit ((F : Int) - 1 - s).toNat = false := by
  obtain ⟨m, rfl⟩ := Int.eq_ofNat_of_zero_le hw.1
  have hp := zp27 (a := s.toNat) hF (by omega)
  rw [hv, zand_n m _ (by omega) (by omega), hn, Int.toNat_natCast, show ((F : Int) - 1 - s).toNat = F - 1 - s.toNat by omega]
  have e : (m &&& 2 ^ (F - 1 - s.toNat)) = 0 ↔ m.testBit (F - 1 - s.toNat) = false := by
    constructor
    · intro h
      have h2 : (m &&& 2 ^ (F - 1 - s.toNat)).testBit (F - 1 - s.toNat) = false := by
        rw [h]
        exact Nat.zero_testBit _
      rw [Nat.testBit_and, Nat.testBit_two_pow_self, Bool.and_true] at h2
      exact h2
    · intro h
      refine Nat.eq_of_testBit_eq fun i => ?_
      rw [Nat.testBit_and, Nat.testBit_two_pow, Nat.zero_testBit]
      by_cases g : F - 1 - s.toNat = i
      · rw [← g, h]
        rfl
      · rw [decide_eq_false g]
        exact Bool.and_false _
  rw [← e]
  omega
end ZST2
theorem zshl_nn {k : Int} (k0 : 0 ≤ k) (k1 : k < 31) : zshl 1 k = ((2 ^ k.toNat : Nat) : Int) := by
  obtain ⟨n, rfl⟩ := Int.eq_ofNat_of_zero_le k0
  rw [zshl1 n (by omega)]
  rfl
theorem zubo {F : Nat} {c s v : Int} (hc : c = (F : Int)) (hF : 1 ≤ F ∧ F ≤ 27) (hs : 0 ≤ s ∧ s < F) (hv : v = zshl 1 (c - 1 - s)) : v = ((2 ^ (F - 1 - s.toNat) : Nat) : Int) ∧ 0 ≤ v ∧ v < 134217728 := by
  have hp := zp27 (a := s.toNat) hF.2 hF.1
  have e : v = ((2 ^ (F - 1 - s.toNat) : Nat) : Int) := by
    rw [hv, zshl_nn (by omega) (by omega), show (c - 1 - s).toNat = F - 1 - s.toNat by omega]
  exact ⟨e, zcast_b e hp⟩
theorem zsw2 {M N1 N2 : zMem} {q : Nat} {k c x y : Int} (h1 : N1 = zsI M q c.toNat (Int32.ofInt x)) (h2 : N2 = zsI N1 q k.toNat (Int32.ofInt y)) (rx : zn32 x) (ry : zn32 y) (hx : x = ze M q k.toNat) (hy : y = ze M q c.toNat) (k0 : 0 ≤ k) (c0 : 0 ≤ c) (i : Nat) : ze N2 q i = if (i : Int) = k then ze M q c.toNat else if (i : Int) = c then ze M q k.toNat else ze M q i := by
  by_cases g : (i : Int) = k
  · rw [if_pos g, show i = k.toNat by omega, zs_get h2 ry, hy]
  · rw [if_neg g, zs_oth h2 (j := i) (by omega)]
    by_cases g2 : (i : Int) = c
    · rw [if_pos g2, show i = c.toNat by omega, zs_get h1 rx, hx]
    · rw [if_neg g2, zs_oth h1 (j := i) (by omega)]
def zkr (p : Nat → Bool) (b : Nat → Nat) (L k : Int) : Prop := L = ((zxs (zpk p b) k.toNat : Nat) : Int) ∧ 0 ≤ L ∧ L < 134217728
section ZKR
variable {p : Nat → Bool} {b : Nat → Nat} {L k v : Int}
theorem zkr_z : zkr p b 0 0 := ⟨rfl, by omega⟩
theorem zkr_0 (h : zkr p b L k) (k0 : 0 ≤ k) (hp : p k.toNat = false) : zkr p b L (k + 1) := by
  refine ⟨?_, h.2⟩
  rw [show (k + 1).toNat = k.toNat + 1 by omega]
  show L = ((zxs (zpk p b) k.toNat ^^^ cond (p k.toNat) (b k.toNat) 0 : Nat) : Int)
  rw [hp]
  show L = ((zxs (zpk p b) k.toNat ^^^ 0 : Nat) : Int)
  rw [Nat.xor_zero]
  exact h.1
theorem zkr_1 (h : zkr p b L k) (k0 : 0 ≤ k) (hp : p k.toNat = true) (hv : 0 ≤ v ∧ v < 134217728) (hb : b k.toNat = v.toNat) : zkr p b (zxor L v) (k + 1) := by
  obtain ⟨x1, x2, x3⟩ := zxor_i h.2 hv
  refine ⟨?_, x2, x3⟩
  rw [show (k + 1).toNat = k.toNat + 1 by omega]
  show zxor L v = ((zxs (zpk p b) k.toNat ^^^ cond (p k.toNat) (b k.toNat) 0 : Nat) : Int)
  rw [hp]
  show zxor L v = ((zxs (zpk p b) k.toNat ^^^ b k.toNat : Nat) : Int)
  rw [hb, show zxs (zpk p b) k.toNat = L.toNat by have := h.1; omega, ← x1]
  omega
end ZKR
def zsgs (F n : Nat) (L s : Int) : Prop := (0 ≤ L ∧ L < 134217728) ∧ ∀ t : Nat, L.toNat.testBit t = true ↔ ((t : Int) < s ∧ n.testBit ((F : Int) - 1 - t).toNat = true)
section ZSGS
variable {F n : Nat} {L s : Int}
theorem zsgs_z : zsgs F n 0 0 := ⟨by omega, fun t => ⟨fun h => (by rw [show (0 : Int).toNat = 0 from rfl, Nat.zero_testBit] at h; cases h), fun h => absurd h.1 (by omega)⟩⟩
theorem zsgs_0 (h : zsgs F n L s) (s0 : 0 ≤ s) (hb : n.testBit ((F : Int) - 1 - s).toNat = false) : zsgs F n L (s + 1) := by
  refine ⟨h.1, fun t => ?_⟩
  rw [h.2 t]
  constructor
  · exact fun q => ⟨by omega, q.2⟩
  · rintro ⟨q1, q2⟩
    by_cases e : (t : Int) = s
    · rw [e, hb] at q2
      cases q2
    · exact ⟨by omega, q2⟩
theorem zsgs_1 (h : zsgs F n L s) (s0 : 0 ≤ s) (s1 : s < 27) (hb : n.testBit ((F : Int) - 1 - s).toNat = true) : zsgs F n (zor L (zshl 1 s)) (s + 1) := by
  obtain ⟨⟨a1, a2⟩, b⟩ := h
  obtain ⟨m, rfl⟩ := Int.eq_ofNat_of_zero_le a1
  obtain ⟨k, rfl⟩ := Int.eq_ofNat_of_zero_le s0
  have hp : 2 ^ k < 2 ^ 27 := Nat.pow_lt_pow_right (by omega) (by omega)
  have e : zor (m : Int) (zshl 1 (k : Int)) = ((m ||| 2 ^ k : Nat) : Int) := by rw [zshl1 k (by omega), zor_n m (2 ^ k) (by omega) (by omega)]
  have hl : m ||| 2 ^ k < 2 ^ 27 := Nat.or_lt_two_pow (by omega) hp
  rw [e]
  refine ⟨by omega, fun t => ?_⟩
  have h1 := b t
  rw [Int.toNat_natCast] at h1
  rw [Int.toNat_natCast, Nat.testBit_or, Bool.or_eq_true, Nat.testBit_two_pow, decide_eq_true_iff, h1]
  constructor
  · rintro (⟨q1, q2⟩ | q)
    · exact ⟨by omega, q2⟩
    · rw [← q]
      exact ⟨by omega, hb⟩
  · rintro ⟨q1, q2⟩
    by_cases g : t = k
    · exact Or.inr g.symm
    · exact Or.inl ⟨by omega, q2⟩
end ZSGS
def zUS (T : zGT) : Nat → Prop := fun x => x < 2 ^ (gF T).length ∧ ∀ i, i < (gF T).length → zyC T i x
def zUW (T : zGT) (d : Nat) (M : zMem) : Prop := ze M (d + 28) 4 = 0 ∨ (ze M (d + 28) 4 = 1 ∧ zUf (zUS T) d M)
def zUk (d : Nat) (M : zMem) (k : Nat) : Nat := zkth (zub d M) (ze M (d + 28) 3).toNat k
theorem zUW.fr {T : zGT} {d : Nat} {M N : zMem} {FA : List (Nat × Nat)} {CA : List Nat} {FR : List (Nat × Nat)} {CR : List Nat} (hW : zKW d M) (hf : zFc d FA CA FR CR M N) (h : zUW T d M) (hd : (28 < 38 ∧ 28 ∉ CR ∧ (28, 4) ∉ FR) ∧ (28 < 38 ∧ 28 ∉ CR ∧ (28, 3) ∉ FR) ∧ 30 < 38 ∧ 30 ∉ CR ∧ ∀ x ∈ FR, x.1 ≠ 30) : zUW T d N := by
  unfold zUW
  rw [hf.e hd.1]
  rcases h with h | ⟨h1, h2⟩
  · exact Or.inl h
  · exact Or.inr ⟨h1, h2.fr hW hf hd.2⟩
theorem zUk_c {d : Nat} {M N : zMem} {k : Nat} (h3 : ze N (d + 28) 3 = ze M (d + 28) 3) (hr : ∀ i : Nat, ze N (d + 30) i = ze M (d + 30) i) : zUk d N k = zUk d M k := by
  unfold zUk
  rw [h3, show zub d N = zub d M from funext fun i => by unfold zub; rw [hr i]]
theorem zSh_cq {F d : Nat} {M N : zMem} {s : Int} {f g : Nat → Int} (h : zSh F d M N s f) (e : ∀ k : Nat, k < F → f k = g k) : zSh F d M N s g := fun x => by
  have h1 := h x
  by_cases c : 27 * s ≤ (x : Int) ∧ (x : Int) < 27 * s + (F : Int)
  · rw [if_pos c] at h1
    rw [if_pos c, h1]
    exact e _ (by omega)
  · rw [if_neg c] at h1
    rw [if_neg c]
    exact h1
