def zush (a b : Int) : Int := (((Int32.ofInt a : Int32).toUInt32 >>> ((Int32.ofInt b : Int32).toUInt32 &&& Int32.toUInt32 31)).toInt32).toInt
theorem zush_k : ∀ k : Fin 32, ((Int32.ofInt ((k.val : Nat) : Int)).toUInt32 &&& Int32.toUInt32 31).toNat % 32 = k.val := by decide +kernel
theorem zush_n (m k : Nat) (hm : m < 2147483648) (hk : k < 32) : zush m k = ((m >>> k : Nat) : Int) := by
  refine zn_ti ?_ (Nat.lt_of_le_of_lt (Nat.shiftRight_le m k) hm)
  show ((Int32.ofInt (m : Int)).toUInt32 >>> ((Int32.ofInt (k : Int)).toUInt32 &&& Int32.toUInt32 31)).toNat = _
  have e1 : (Int32.ofInt (m : Int)).toUInt32.toNat = m := zn_bv m hm
  rw [UInt32.toNat_shiftRight, e1, zush_k ⟨k, hk⟩]
theorem zr_iushr {l : Launch} {k : zMeth} {X : Nat × Nat} {M : zMem} {pc : Nat} {L : List (Option Value)} {S : List Value} {Q : Option Value → zMem → Prop} {a b : Int} (hd : decode (zb k) pc = .ok (.iushr, 1)) (kk : zW l k X M (pc + 1) L (.int (Int32.ofInt (zush a b)) :: S) Q) : zW l k X M pc L (.int (Int32.ofInt b) :: .int (Int32.ofInt a) :: S) Q := zw_iushr hd (by
  unfold zush at kk
  rw [Int32.ofInt_toInt] at kk
  exact kk)
theorem zbc_1 {n : Nat} (h : n < 2147483648) : (n : Int) - zand (zush n 1) 1431655765 = ((kbc1 n : Nat) : Int) ∧ kbc1 n < 2147483648 := by
  have e0 : (1 : Int) = ((1 : Nat) : Int) := rfl
  have e1 : (1431655765 : Int) = ((1431655765 : Nat) : Int) := rfl
  have h2 : n >>> 1 ≤ n := Nat.shiftRight_le n 1
  rw [e0, zush_n n 1 h (by omega), e1, zand_n _ _ (by omega) (by omega)]
  have h3 : n >>> 1 &&& 1431655765 ≤ n >>> 1 := Nat.and_le_left
  have e : kbc1 n = n - (n >>> 1 &&& 1431655765) := rfl
  rw [e]
  omega
theorem zbc_2 {n : Nat} (h : n < 2147483648) : zand n 858993459 + zand (zush n 2) 858993459 = ((kbc2 n : Nat) : Int) ∧ kbc2 n < 2147483648 := by
  have e0 : (2 : Int) = ((2 : Nat) : Int) := rfl
  have e1 : (858993459 : Int) = ((858993459 : Nat) : Int) := rfl
  have h2 : n >>> 2 ≤ n := Nat.shiftRight_le n 2
  rw [e0, zush_n n 2 h (by omega), e1, zand_n _ _ (by omega) (by omega), zand_n _ _ (by omega) (by omega)]
  have h3 : n >>> 2 &&& 858993459 ≤ 858993459 := Nat.and_le_right
  have h4 : n &&& 858993459 ≤ 858993459 := Nat.and_le_right
  have e : kbc2 n = (n &&& 858993459) + (n >>> 2 &&& 858993459) := rfl
  rw [e]
  omega
theorem zbc_3 {n : Nat} (h : n < 2147483648) (h' : n ≤ 1717986918) : zand ((n : Int) + zush n 4) 252645135 = ((kbc3 n : Nat) : Int) ∧ kbc3 n ≤ 252645135 := by
  have e0 : (4 : Int) = ((4 : Nat) : Int) := rfl
  have e1 : (252645135 : Int) = ((252645135 : Nat) : Int) := rfl
  have h2 : n >>> 4 = n / 16 := Nat.shiftRight_eq_div_pow n 4
  rw [e0, zush_n n 4 h (by omega), e1, ← Int.natCast_add, zand_n _ _ (by omega) (by omega)]
  exact ⟨rfl, Nat.and_le_right⟩
theorem zbc_4 {n : Nat} (h : n ≤ 252645135) : (n : Int) + zush n 8 = ((kbc4 n : Nat) : Int) ∧ kbc4 n ≤ 505290270 := by
  have e0 : (8 : Int) = ((8 : Nat) : Int) := rfl
  have h2 : n >>> 8 ≤ n := Nat.shiftRight_le n 8
  rw [e0, zush_n n 8 (by omega) (by omega), ← Int.natCast_add]
  have e : kbc4 n = n + n >>> 8 := rfl
  exact ⟨rfl, by rw [e]; omega⟩
theorem zbc_5 {n : Nat} (h : n ≤ 505290270) : zand ((n : Int) + zush n 16) 63 = ((kbc5 n : Nat) : Int) := by
  have e0 : (16 : Int) = ((16 : Nat) : Int) := rfl
  have e1 : (63 : Int) = ((63 : Nat) : Int) := rfl
  have h2 : n >>> 16 ≤ n := Nat.shiftRight_le n 16
  rw [e0, zush_n n 16 (by omega) (by omega), e1, ← Int.natCast_add, zand_n _ _ (by omega) (by omega)]
  rfl
theorem kbc2_b (n : Nat) : kbc2 n ≤ 1717986918 := by
  have h3 : n >>> 2 &&& 858993459 ≤ 858993459 := Nat.and_le_right
  have h4 : n &&& 858993459 ≤ 858993459 := Nat.and_le_right
  have e : kbc2 n = (n &&& 858993459) + (n >>> 2 &&& 858993459) := rfl
  rw [e]
  omega
theorem kbc_b (n : Nat) : kbc n ≤ 63 := Nat.and_le_right
theorem zpa_n {b w : Nat} (hb : b < 2147483648) (hw : w < 2147483648) : zand b (zxor w (-1)) = 0 ↔ b &&& w = b := by
  have e : zand (b : Int) (zxor w (-1)) = ((b &&& (b ^^^ (b &&& w)) : Nat) : Int) := by
    refine zn_ti ?_ (Nat.lt_of_le_of_lt Nat.and_le_left hb)
    unfold zxor
    rw [Int32.ofInt_toInt]
    show ((Int32.ofInt (b : Int)) &&& (Int32.ofInt (w : Int) ^^^ Int32.ofInt (-1))).toBitVec.toNat = _
    refine Nat.eq_of_testBit_eq fun i => ?_
    rw [Int32.toBitVec_and, BitVec.toNat_and, Nat.testBit_and, Int32.toBitVec_xor, BitVec.toNat_xor, Nat.testBit_xor, zn_bv b hb, zn_bv w hw, Nat.testBit_and, Nat.testBit_xor, Nat.testBit_and]
    have hm : (Int32.ofInt (-1)).toBitVec.toNat = 2 ^ 32 - 1 := by decide
    rw [hm, Nat.testBit_two_pow_sub_one]
    by_cases g : i < 32
    · rw [decide_eq_true g]
      cases b.testBit i <;> cases w.testBit i <;> rfl
    · rw [Nat.testBit_lt_two_pow (x := b) (Nat.lt_of_lt_of_le hb (Nat.le_trans (by decide : 2147483648 ≤ 2 ^ 31) (Nat.pow_le_pow_right (by omega) (by omega))))]
      rfl
  rw [e]
  constructor
  · intro h
    have h0 : b &&& (b ^^^ (b &&& w)) = 0 := by omega
    refine Nat.eq_of_testBit_eq fun i => ?_
    have := congrArg (fun x => Nat.testBit x i) h0
    simp only [Nat.testBit_and, Nat.testBit_xor, Nat.zero_testBit] at this ⊢
    cases h1 : b.testBit i <;> cases h2 : w.testBit i <;> rw [h1, h2] at this <;> simp_all
  · intro h
    rw [h, Nat.xor_self, Nat.and_zero]
    rfl
def gAs (T : zGT) : Prop := (∀ a b c, a < gN T → b < gN T → c < gN T → gm T (gm T a b) c = gm T a (gm T b c)) ∧ (∀ a, a < gN T → gm T 0 a = a) ∧ ∀ a, a < gN T → gm T a 0 = a
theorem zTm.as {mv : List Nat} {T : zGT} (h : zTm mv T) (hp : ∀ g ∈ mv, gpm g) : gAs T := by
  obtain ⟨c, a1, a2, a3, a4, a5⟩ := h
  have hO := gTabs_ok T a1
  have h1 := hO.1.1
  have hc : ∀ i, i < gN T → gpm (c i) := fun i hi => ((a2 (c i)).mpr ⟨i, hi, rfl⟩).pm hp
  have inj : ∀ i j, i < gN T → j < gN T → c i = c j → i = j := fun i j hi hj e => by
    rcases Nat.lt_trichotomy i j with g | g | g
    · have := a3 i j g hj; omega
    · exact g
    · have := a3 j i g hi; omega
  have h00 : gm T 0 0 = 0 := by
    have hb := (hO.2.1.2.2 1 hO.2.1.2.1).1.2.2
    have := hb.2 0 0 (by omega) (by omega) hb.1 hb.1
    exact Nat.testBit_one_eq_true_iff_self_eq_zero.mp this
  have e0 : c 0 = gid := by
    have h2 := (a4 0 0 (by omega) (by omega)).2
    rw [h00] at h2
    have hp0 := hc 0 (by omega)
    refine gext hp0.1 gid_pm.1 (fun p hp => ?_)
    have h3 : gdg (c 0) p = gdg (c 0) (gdg (c 0) p) := by
      rw [← gco_d _ _ p hp, ← h2]
    rw [gid_d p hp]
    exact hp0.2.2 _ _ (hp0.2.1 p hp) hp h3.symm
  refine ⟨fun a b d ha hb hd => ?_, fun a ha => ?_, fun a ha => ?_⟩
  · have p1 := a4 a b ha hb
    have p2 := a4 b d hb hd
    have p3 := a4 (gm T a b) d p1.1 hd
    have p4 := a4 a (gm T b d) ha p2.1
    refine inj _ _ p3.1 p4.1 ?_
    rw [p3.2, p4.2, p1.2, p2.2, gco_as (hc a ha)]
  · have p1 := a4 0 a (by omega) ha
    refine inj _ _ p1.1 ha ?_
    rw [p1.2, e0, gco_1 (hc a ha).1]
  · have p1 := a4 a 0 ha (by omega)
    refine inj _ _ p1.1 ha ?_
    rw [p1.2, e0, gco_2 (hc a ha)]
def zSpn (T : zGT) (X : Nat) (f : Nat → Int) (s c i g : Int) : Prop := ((1 ≤ c ∧ c ≤ gN T) ∧ 0 ≤ s ∧ s.toNat < 2 ^ gN T ∧ f 0 = 0) ∧ (∀ k : Nat, (k : Int) < c → (0 ≤ f k ∧ (f k).toNat < gN T) ∧ s.toNat.testBit (f k).toNat = true) ∧ (∀ x, s.toNat.testBit x = true → ∃ k : Nat, (k : Int) < c ∧ (f k).toNat = x) ∧ (∀ k j : Nat, k < j → (j : Int) < c → f k ≠ f j) ∧ (∀ C, gCl T C → gSb X C → gSb s.toNat C) ∧ (∀ k : Nat, 1 ≤ k → (k : Int) < c → ∃ j h : Nat, j < k ∧ h < gN T ∧ X.testBit h = true ∧ (f k).toNat = gm T (f j).toNat h) ∧ ∀ k h : Nat, ((k : Int) < i ∨ ((k : Int) = i ∧ (h : Int) < g)) → (k : Int) < c → h < gN T → X.testBit h = true → s.toNat.testBit (gm T (f k).toNat h) = true
section ZSP
variable {T : zGT} {X : Nat} {f f' : Nat → Int} {s c i g : Int}
theorem zSpn_0 (h1 : 1 ≤ gN T) (h0 : f 0 = 0) : zSpn T X f 1 1 0 0 := by
  have e : (1 : Int).toNat = 1 := rfl
  refine ⟨⟨⟨by omega, by omega⟩, by omega, by rw [e]; exact Nat.one_lt_two_pow (by omega), h0⟩, fun k hk => ?_, fun x hx => ?_, fun k j h1 h2 => absurd h2 (by omega), fun C hC _ x hx => ?_, fun k h1 h2 => absurd h2 (by omega), fun k h hd => absurd hd (by omega)⟩
  · rw [show k = 0 by omega, h0]
    exact ⟨⟨by omega, by show 0 < gN T; omega⟩, rfl⟩
  · rw [e] at hx
    have := Nat.testBit_one_eq_true_iff_self_eq_zero.mp hx
    exact ⟨0, by omega, by rw [h0, this]; rfl⟩
  · rw [e] at hx
    rw [Nat.testBit_one_eq_true_iff_self_eq_zero.mp hx]
    exact hC.1
theorem zSpn_c (h : zSpn T X f s c i g) {v : Int} (v0 : 0 ≤ v) (v1 : v.toNat < gN T) (hv : ¬ zbt s v) : c + 1 ≤ gN T := by
  obtain ⟨⟨⟨a1, a2⟩, a3, a4, a5⟩, b, bs, bd, -⟩ := h
  have := nodup_len (v.toNat :: (List.range c.toNat).map (fun k => (f k).toNat)) (List.range (gN T)) (by
    refine List.nodup_cons.mpr ⟨fun hx => ?_, ?_⟩
    · obtain ⟨k, hk, e⟩ := List.mem_map.mp hx
      rw [List.mem_range] at hk
      have h2 := (b k (by omega)).2
      rw [e] at h2
      exact hv h2
    · rw [List.Nodup, List.pairwise_map]
      refine List.Pairwise.imp_of_mem ?_ (List.pairwise_lt_range (n := c.toNat))
      intro k j hk hj hkj e
      rw [List.mem_range] at hk hj
      have h3 := (b k (by omega)).1
      have h4 := (b j (by omega)).1
      exact bd k j hkj (by omega) (by omega)) (fun x hx => by
    rw [List.mem_range]
    rcases List.mem_cons.mp hx with rfl | hx
    · exact v1
    · obtain ⟨k, hk, rfl⟩ := List.mem_map.mp hx
      rw [List.mem_range] at hk
      exact (b k (by omega)).1.2)
  rw [List.length_cons, List.length_map, List.length_range, List.length_range] at this
  omega
theorem zSpn_a (hG : gGd T) (h : zSpn T X f s c i g) (hi : 0 ≤ i ∧ i < c) (hg : 0 ≤ g ∧ g < gN T) (hX : X.testBit g.toNat = true) {v : Int} (hvv : v = ((gm T (f i.toNat).toNat g.toNat : Nat) : Int)) (hv : ¬ zbt s v) (hf : ∀ j : Nat, f' j = zst f c.toNat v j) : zSpn T X f' (zor s (zshl 1 v)) (c + 1) i (g + 1) := by
  have hfi := (h.2.1 i.toNat (by omega)).1
  have hgm := hG.2.2.2 (f i.toNat).toNat g.toNat hfi.2 (by omega)
  have hc := zSpn_c h (v := v) (by omega) (by omega) hv
  have h24 := hG.2.1
  obtain ⟨⟨⟨a1, a2⟩, a3, a4, a5⟩, b, bs, bd, bm, bg, bc⟩ := h
  have hs24 := g24 h24 a3 a4
  have e1 : zor s (zshl 1 v) = ((s.toNat ||| 2 ^ v.toNat : Nat) : Int) := zorb a3 (by omega) (by omega) (by omega)
  have e2 : (zor s (zshl 1 v)).toNat = s.toNat ||| 2 ^ v.toNat := by rw [e1, Int.toNat_natCast]
  have o : ∀ k : Nat, (k : Int) < c → f' k = f k := fun k hk => (hf k).trans (zst_o (by omega))
  have t : f' c.toNat = v := (hf _).trans zst_t
  have up : ∀ x, s.toNat.testBit x = true → (zor s (zshl 1 v)).toNat.testBit x = true := fun x hx => by rw [e2, Nat.testBit_or, hx]; rfl
  have hvt : (zor s (zshl 1 v)).toNat.testBit v.toNat = true := by rw [e2, Nat.testBit_or, Nat.testBit_two_pow_self, Bool.or_true]
  refine ⟨⟨⟨by omega, hc⟩, by omega, ?_, by rw [o 0 (by omega)]; exact a5⟩, fun k hk => ?_, fun x hx => ?_, fun k j hkj hj => ?_, fun C hC hXC => ?_, fun k h1 h2 => ?_, fun k q hd hk hq hXq => ?_⟩
  · rw [e2]
    exact Nat.or_lt_two_pow a4 (Nat.pow_lt_pow_right (by omega) (by omega))
  · by_cases e : (k : Int) = c
    · rw [show k = c.toNat by omega, t]
      exact ⟨⟨by omega, by omega⟩, hvt⟩
    · rw [o k (by omega)]
      exact ⟨(b k (by omega)).1, up _ (b k (by omega)).2⟩
  · rw [e2, Nat.testBit_or, Bool.or_eq_true, Nat.testBit_two_pow, decide_eq_true_iff] at hx
    rcases hx with hx | hx
    · obtain ⟨k, hk, e⟩ := bs x hx
      exact ⟨k, by omega, by rw [o k hk]; exact e⟩
    · exact ⟨c.toNat, by omega, by rw [t]; exact hx⟩
  · rw [o k (by omega)]
    by_cases e : (j : Int) = c
    · rw [show j = c.toNat by omega, t]
      intro e3
      have := (b k (by omega)).2
      rw [e3] at this
      exact hv this
    · rw [o j (by omega)]
      exact bd k j hkj (by omega)
  · rw [e2]
    refine gSb.or (bm C hC hXC) (gSb.p2 ?_)
    rw [show v.toNat = gm T (f i.toNat).toNat g.toNat by omega]
    exact hC.2 _ _ hfi.2 (by omega) (bm C hC hXC _ (b i.toNat (by omega)).2) (hXC _ hX)
  · by_cases e : (k : Int) = c
    · refine ⟨i.toNat, g.toNat, by omega, by omega, hX, ?_⟩
      rw [show k = c.toNat by omega, t, o i.toNat (by omega), hvv, Int.toNat_natCast]
    · obtain ⟨j, q, q1, q2, q3, q4⟩ := bg k h1 (by omega)
      exact ⟨j, q, q1, q2, q3, by rw [o k (by omega), o j (by omega)]; exact q4⟩
  · by_cases e : (k : Int) = i ∧ (q : Int) = g
    · rw [o k (by omega), show k = i.toNat by omega, show q = g.toNat by omega, show gm T (f i.toNat).toNat g.toNat = v.toNat by omega]
      exact hvt
    · rw [o k (by omega)]
      exact up _ (bc k q (by omega) (by omega) hq hXq)
theorem zSpn_n (h : zSpn T X f s c i g) (hi : 0 ≤ i) (hg : 0 ≤ g) (hx : X.testBit g.toNat = true → s.toNat.testBit (gm T (f i.toNat).toNat g.toNat) = true) : zSpn T X f s c i (g + 1) := by
  obtain ⟨a, b, bs, bd, bm, bg, bc⟩ := h
  refine ⟨a, b, bs, bd, bm, bg, fun k q hd hk hq hXq => ?_⟩
  by_cases e : (k : Int) = i ∧ (q : Int) = g
  · rw [show k = i.toNat by omega, show q = g.toNat by omega]
    exact hx (by rw [← show q = g.toNat by omega]; exact hXq)
  · exact bc k q (by omega) hk hq hXq
theorem zSpn_r (h : zSpn T X f s c i g) (hg : (gN T : Int) ≤ g) : zSpn T X f s c (i + 1) 0 := by
  obtain ⟨a, b, bs, bd, bm, bg, bc⟩ := h
  exact ⟨a, b, bs, bd, bm, bg, fun k q hd hk hq hXq => bc k q (by omega) hk hq hXq⟩
theorem zSpn_e (hA : gAs T) (hG : gGd T) (hX : X < 2 ^ gN T) (h : zSpn T X f s c i 0) (hi : c ≤ i) : gLC T X s.toNat := by
  obtain ⟨⟨⟨a1, a2⟩, a3, a4, a5⟩, b, bs, bd, bm, bg, bc⟩ := h
  have h0 : (f 0).toNat = 0 := by rw [a5]; rfl
  refine ⟨a4, fun q hq => ?_, ⟨?_, fun x y hx hy hsx hsy => ?_⟩, bm⟩
  · have hqn := gbit_lt hX hq
    have := bc 0 q (by omega) (by omega) hqn hq
    rwa [h0, hA.2.1 q hqn] at this
  · have := (b 0 (by omega)).2
    rwa [h0] at this
  · have key : ∀ k : Nat, (k : Int) < c → ∀ x, x < gN T → s.toNat.testBit x = true → s.toNat.testBit (gm T x (f k).toNat) = true := by
      intro k
      induction k using Nat.strongRecOn with
      | ind k ih =>
        intro hk x hx hsx
        by_cases e : k = 0
        · rw [e, h0, hA.2.2 x hx]
          exact hsx
        · obtain ⟨j, q, q1, q2, q3, q4⟩ := bg k (by omega) hk
          have fj := (b j (by omega)).1.2
          rw [q4, ← hA.1 x _ q hx fj q2]
          obtain ⟨k', k1, k2⟩ := bs _ (ih j q1 (by omega) x hx hsx)
          rw [← k2]
          exact bc k' q (by omega) k1 q2 q3
    obtain ⟨k, k1, k2⟩ := bs y hsy
    rw [← k2]
    exact key k k1 x hx hsx
end ZSP
