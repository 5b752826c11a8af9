theorem zn_bv (m : Nat) (h : m < 2147483648) : (Int32.ofInt (m : Int)).toBitVec.toNat = m := by
  rw [Int32.toBitVec_ofInt, BitVec.ofInt_natCast, BitVec.toNat_ofNat]
  omega
theorem zn_ti {x : Int32} {m : Nat} (h : x.toBitVec.toNat = m) (hm : m < 2147483648) : x.toInt = (m : Int) := by
  show x.toBitVec.toInt = _
  rw [BitVec.toInt_eq_toNat_of_lt (by rw [h]; omega), h]
theorem zor_n (m n : Nat) (hm : m < 2147483648) (hn : n < 2147483648) : zor m n = ((m ||| n : Nat) : Int) := by
  refine zn_ti ?_ (Nat.or_lt_two_pow (n := 31) hm hn)
  rw [Int32.toBitVec_or, BitVec.toNat_or, zn_bv m hm, zn_bv n hn]
theorem zand_n (m n : Nat) (hm : m < 2147483648) (hn : n < 2147483648) : zand m n = ((m &&& n : Nat) : Int) := by
  refine zn_ti ?_ (Nat.lt_of_le_of_lt Nat.and_le_left hm)
  rw [Int32.toBitVec_and, BitVec.toNat_and, zn_bv m hm, zn_bv n hn]
theorem zsh_k : ∀ k : Fin 32, ((Int32.ofInt ((k.val : Nat) : Int)) &&& 31).toBitVec.smod 32 = BitVec.ofNat 32 k.val := by decide +kernel
theorem zshl1_k : ∀ k : Fin 31, zshl 1 ((k.val : Nat) : Int) = ((2 ^ k.val : Nat) : Int) := by decide +kernel
theorem zshl1 (k : Nat) (h : k < 31) : zshl 1 k = ((2 ^ k : Nat) : Int) := zshl1_k ⟨k, h⟩
theorem zshr_n (m k : Nat) (hm : m < 2147483648) (hk : k < 32) : zshr m k = ((m >>> k : Nat) : Int) := by
  refine zn_ti ?_ (Nat.lt_of_le_of_lt (Nat.shiftRight_le m k) hm)
  show (BitVec.sshiftRight' (Int32.ofInt (m : Int)).toBitVec (((Int32.ofInt ((k : Nat) : Int)) &&& 31).toBitVec.smod 32)).toNat = _
  rw [zsh_k ⟨k, hk⟩, BitVec.sshiftRight_eq', BitVec.sshiftRight_eq_of_msb_false, BitVec.toNat_ushiftRight, zn_bv m hm, BitVec.toNat_ofNat, Nat.mod_eq_of_lt (by show k < 2 ^ 32; omega)]
  rw [BitVec.msb_eq_false_iff_two_mul_lt, zn_bv m hm]
  omega
def zbt (x k : Int) : Prop := x.toNat.testBit k.toNat = true
theorem zbit {x k : Int} (h0 : 0 ≤ x) (h1 : x < 2147483648) (k0 : 0 ≤ k) (k1 : k < 32) : (zbt x k ∧ zand (zshr x k) 1 = 1) ∨ (¬ zbt x k ∧ zand (zshr x k) 1 = 0) := by
  obtain ⟨m, rfl⟩ := Int.eq_ofNat_of_zero_le h0
  obtain ⟨n, rfl⟩ := Int.eq_ofNat_of_zero_le k0
  have e1 := zshr_n m n (by omega) (by omega)
  have e2 := zand_n (m >>> n) 1 (Nat.lt_of_le_of_lt (Nat.shiftRight_le m n) (by omega)) (by omega)
  rw [e1]
  unfold zbt
  rw [Int.toNat_natCast, Int.toNat_natCast, Nat.testBit_eq_decide_div_mod_eq, ← Nat.shiftRight_eq_div_pow]
  have e3 : ((1 : Nat) : Int) = 1 := rfl
  rw [e3] at e2
  rw [e2, Nat.and_one_is_mod]
  rcases Nat.mod_two_eq_zero_or_one (m >>> n) with h | h
  · exact Or.inr ⟨by rw [h]; decide, by rw [h]; rfl⟩
  · exact Or.inl ⟨by rw [h]; decide, by rw [h]; rfl⟩
theorem zorb {x k : Int} (h0 : 0 ≤ x) (h1 : x < 2147483648) (k0 : 0 ≤ k) (k1 : k < 31) : zor x (zshl 1 k) = ((x.toNat ||| 2 ^ k.toNat : Nat) : Int) := by
  obtain ⟨m, rfl⟩ := Int.eq_ofNat_of_zero_le h0
  obtain ⟨n, rfl⟩ := Int.eq_ofNat_of_zero_le k0
  rw [zshl1 n (by omega), zor_n m (2 ^ n) (by omega) (by
    have : 2 ^ n ≤ 2 ^ 30 := Nat.pow_le_pow_right (by omega) (by omega)
    omega)]
  rfl
abbrev zGT : Type := Nat × Nat × List Nat × List Nat × List (List Nat)
def gN (T : zGT) : Nat := T.1
def gS (T : zGT) : List Nat := T.2.2.1
def gF (T : zGT) : List Nat := T.2.2.2.1
def gm (T : zGT) (a b : Nat) : Nat := (T.2.1 >>> (5 * (24 * a + b))) % 32
def gup {α : Type} (f : Nat → α → α) (a : α) : Nat → α
  | 0 => a
  | k + 1 => f k (gup f a k)
def gel (n S : Nat) : List Nat := (List.range n).filter (fun k => S.testBit k)
def gi (T : zGT) (a : Nat) : Nat := gup (fun b r => if gm T a b = 0 then b else r) 0 (gN T)
def gtr (T : zGT) (S g : Nat) : Nat := gup (fun x r => if S.testBit x then r ||| 2 ^ gm T (gm T (gi T g) x) g else r) 0 (gN T)
def glt (T : zGT) (S : Nat) : Nat := gup (fun g r => if gtr T S g < r then gtr T S g else r) S (gN T)
def gcos (T : zGT) (S x : Nat) : Nat := gup (fun h r => if S.testBit h && decide (gm T h x < r) then gm T h x else r) x (gN T)
def gfx (T : zGT) (F H x : Nat) : Bool := (gcos T F x == x) && (gel (gN T) H).all (fun k => gcos T F (gm T x k) == x)
def gmk (T : zGT) (F H : Nat) : Nat := gup (fun x r => r + (gfx T F H x).toNat) 0 (gN T)
def gCl (T : zGT) (C : Nat) : Prop := C.testBit 0 = true ∧ ∀ a b, a < gN T → b < gN T → C.testBit a = true → C.testBit b = true → C.testBit (gm T a b) = true
def gSb (S R : Nat) : Prop := ∀ k, S.testBit k = true → R.testBit k = true
def gLC (T : zGT) (X R : Nat) : Prop := R < 2 ^ gN T ∧ gSb X R ∧ gCl T R ∧ ∀ C, gCl T C → gSb X C → gSb R C
theorem gSb.rf (S : Nat) : gSb S S := fun _ h => h
theorem gSb.tr {S R Q : Nat} (h : gSb S R) (h2 : gSb R Q) : gSb S Q := fun k hk => h2 k (h k hk)
theorem gSb.le {S R : Nat} (h : gSb S R) : S ≤ R := by
  have e : S ||| R = R := Nat.eq_of_testBit_eq fun i => by
    rw [Nat.testBit_or]
    cases hs : S.testBit i with
    | false => rfl
    | true => rw [h i hs]; rfl
  rw [← e]
  exact Nat.left_le_or
theorem gSb.an {S R : Nat} (h : gSb S R) (h2 : gSb R S) : S = R := Nat.le_antisymm h.le h2.le
theorem gSb.or {S R Q : Nat} (h : gSb S Q) (h2 : gSb R Q) : gSb (S ||| R) Q := by
  intro k hk
  rw [Nat.testBit_or, Bool.or_eq_true] at hk
  exact hk.elim (h k) (h2 k)
theorem gSb.ol (S R : Nat) : gSb S (S ||| R) := fun k hk => by rw [Nat.testBit_or, hk]; rfl
theorem gSb.orr (S R : Nat) : gSb R (S ||| R) := fun k hk => by rw [Nat.testBit_or, hk, Bool.or_true]
theorem gSb.p2 {n R : Nat} (h : R.testBit n = true) : gSb (2 ^ n) R := by
  intro k hk
  rw [Nat.testBit_two_pow, decide_eq_true_eq] at hk
  rw [← hk]; exact h
theorem gbit_lt {S n k : Nat} (h : S < 2 ^ n) (hk : S.testBit k = true) : k < n := by
  rcases Nat.lt_or_ge k n with h1 | h1
  · exact h1
  · rw [Nat.testBit_lt_two_pow (Nat.lt_of_lt_of_le h (Nat.pow_le_pow_right (by omega) h1))] at hk
    cases hk
theorem gLC.uq {T : zGT} {X R R' : Nat} (h : gLC T X R) (h' : gLC T X R') : R = R' := gSb.an (h.2.2.2 R' h'.2.2.1 h'.2.1) (h'.2.2.2 R h.2.2.1 h.2.1)
theorem gel_m {n S k : Nat} : k ∈ gel n S ↔ k < n ∧ S.testBit k = true := by
  unfold gel
  rw [List.mem_filter, List.mem_range]
def gSub (T : zGT) (S : Nat) : Prop := S ∈ gS T ∧ S < 2 ^ gN T ∧ gCl T S
theorem gcomp {T : zGT} {J : List Nat} (h1 : 1 ∈ J) (hJ : ∀ S ∈ J, ∀ g, g < gN T → ¬ S.testBit g = true → ∃ R ∈ J, gLC T (S ||| 2 ^ g) R) {C : Nat} (hn : C < 2 ^ gN T) (hC : gCl T C) : C ∈ J := by
  have key : ∀ (d S : Nat), S ∈ J → gSb S C → C - S = d → C ∈ J := by
    intro d
    induction d using Nat.strongRecOn with
    | ind d ih =>
      intro S hS hs hd
      by_cases he : gSb C S
      · rw [hs.an he] at hS
        exact hS
      · have : ∃ g, C.testBit g = true ∧ ¬ S.testBit g = true := by
          refine Classical.byContradiction fun hx => he fun k hk => ?_
          refine Classical.byContradiction fun hy => hx ⟨k, hk, hy⟩
        obtain ⟨g, hg1, hg2⟩ := this
        obtain ⟨R, hR, hLC⟩ := hJ S hS g (gbit_lt hn hg1) hg2
        have hRC : gSb R C := hLC.2.2.2 C hC (hs.or (gSb.p2 hg1))
        have hSR : gSb S R := (gSb.ol S (2 ^ g)).tr hLC.2.1
        have hne : S ≠ R := by
          rintro rfl
          exact hg2 (hLC.2.1 g (by rw [Nat.testBit_or, Nat.testBit_two_pow_self, Bool.or_true]))
        have l1 := hSR.le
        have l2 := hRC.le
        exact ih (C - R) (by omega) R hR hRC rfl
  refine key (C - 1) 1 h1 (fun k hk => ?_) rfl
  have : k = 0 := Nat.testBit_one_eq_true_iff_self_eq_zero.mp hk
  rw [this]; exact hC.1
theorem gCl.and {T : zGT} {S R : Nat} (h : gCl T S) (h2 : gCl T R) : gCl T (S &&& R) := by
  refine ⟨by rw [Nat.testBit_and, h.1, h2.1]; rfl, fun a b ha hb h3 h4 => ?_⟩
  rw [Nat.testBit_and, Bool.and_eq_true] at h3 h4 ⊢
  exact ⟨h.2 a b ha hb h3.1 h4.1, h2.2 a b ha hb h3.2 h4.2⟩
def gIn (T : zGT) (x : Int) : Prop := 0 ≤ x ∧ x.toNat < 2 ^ gN T
def zclA (T : zGT) (x s w : Int) : Prop := (0 ≤ w ∧ w ≤ s) ∧ s.toNat < 2 ^ gN T ∧ gSb x.toNat s.toNat ∧ s.toNat.testBit 0 = true ∧ (∀ C, gCl T C → gSb x.toNat C → gSb s.toNat C) ∧ ∀ a b, a < gN T → b < gN T → w.toNat.testBit a = true → w.toNat.testBit b = true → s.toNat.testBit (gm T a b) = true
def zclB (T : zGT) (x w s a : Int) : Prop := (0 ≤ w ∧ 0 ≤ s) ∧ s.toNat < 2 ^ gN T ∧ gSb x.toNat s.toNat ∧ gSb w.toNat s.toNat ∧ s.toNat.testBit 0 = true ∧ (∀ C, gCl T C → gSb x.toNat C → gSb s.toNat C) ∧ ∀ a' b, a' < a.toNat → a' < gN T → b < gN T → w.toNat.testBit a' = true → w.toNat.testBit b = true → s.toNat.testBit (gm T a' b) = true
def zclC (T : zGT) (x w s a b : Int) : Prop := zclB T x w s a ∧ (0 ≤ a ∧ 0 ≤ b) ∧ ∀ b', b' < b.toNat → b' < gN T → w.toNat.testBit a.toNat = true → w.toNat.testBit b' = true → s.toNat.testBit (gm T a.toNat b') = true
theorem g24 {T : zGT} (h : gN T ≤ 24) {x : Int} (h0 : 0 ≤ x) (h1 : x.toNat < 2 ^ gN T) : x < 16777216 := by
  have h2 : 2 ^ gN T ≤ 2 ^ 24 := Nat.pow_le_pow_right (by omega) h
  have h3 : (2 : Nat) ^ 24 = 16777216 := rfl
  omega
theorem zclA_0 {T : zGT} (h1 : 1 ≤ gN T) (h24 : gN T ≤ 24) {x : Int} (hx : gIn T x) : zclA T x (zor x 1) 0 := by
  obtain ⟨h0, hx⟩ := hx
  have h2 := g24 h24 h0 hx
  obtain ⟨m, rfl⟩ := Int.eq_ofNat_of_zero_le h0
  have e : zor (m : Int) 1 = ((m ||| 1 : Nat) : Int) := zor_n m 1 (by omega) (by omega)
  rw [e]
  refine ⟨⟨by omega, by omega⟩, ?_, ?_, ?_, ?_, ?_⟩
  · exact Nat.or_lt_two_pow hx (Nat.one_lt_two_pow (by omega))
  · exact gSb.ol _ _
  · show (m ||| 1).testBit 0 = true
    rw [Nat.testBit_or, Nat.testBit_one_eq_true_iff_self_eq_zero.mpr rfl, Bool.or_true]
  · intro C hC hs
    refine gSb.or hs (fun k hk => ?_)
    rw [Nat.testBit_one_eq_true_iff_self_eq_zero.mp hk]
    exact hC.1
  · intro a b _ _ h
    exact absurd h (by rw [Int.toNat_zero, Nat.zero_testBit]; decide)
theorem zclA_l {T : zGT} (h24 : gN T ≤ 24) {x s w : Int} (h : zclA T x s w) : (0 ≤ w ∧ w ≤ s) ∧ s < 16777216 := ⟨h.1, g24 h24 (Int.le_trans h.1.1 h.1.2) h.2.1⟩
theorem zclB_0 {T : zGT} {x s w : Int} (h : zclA T x s w) : zclB T x s s 0 := ⟨⟨Int.le_trans h.1.1 h.1.2, Int.le_trans h.1.1 h.1.2⟩, h.2.1, h.2.2.1, gSb.rf _, h.2.2.2.1, h.2.2.2.2.1, fun a' b h0 => absurd h0 (by omega)⟩
theorem zclB_l {T : zGT} (h24 : gN T ≤ 24) {x w s a : Int} (h : zclB T x w s a) : (0 ≤ w ∧ w ≤ s) ∧ s < 16777216 := by
  have h2 := h.2.2.2.1.le
  have h3 := g24 h24 h.1.2 h.2.1
  have := h.1
  omega
theorem zclC_0 {T : zGT} {x w s a : Int} (h : zclB T x w s a) (ha : 0 ≤ a) : zclC T x w s a 0 := ⟨h, ⟨ha, by omega⟩, fun b' h0 => absurd h0 (by omega)⟩
theorem zclC_s1 {T : zGT} {x w s a b : Int} (h : zclC T x w s a b) (hb : ¬ zbt s b) : zclC T x w s a (b + 1) := by
  obtain ⟨hB, ⟨ha, hb0⟩, hC⟩ := h
  refine ⟨hB, ⟨ha, by omega⟩, fun b' h1 h2 h3 h4 => ?_⟩
  by_cases e : b' = b.toNat
  · subst e
    exact absurd (hB.2.2.2.1 _ h4) hb
  · exact hC b' (by omega) h2 h3 h4
theorem zclC_s2 {T : zGT} (h24 : gN T ≤ 24) (hm : ∀ a b, a < gN T → b < gN T → gm T a b < gN T) {x w s a b v : Int} (h : zclC T x w s a b) (ha : zbt s a) (hb : zbt s b) (han : a.toNat < gN T) (hbn : b.toNat < gN T) (hv : v = ((gm T a.toNat b.toNat : Nat) : Int)) : zclC T x w (zor s (zshl 1 v)) a (b + 1) := by
  obtain ⟨hB, ⟨ha0, hb0⟩, hC⟩ := h
  have hl := zclB_l h24 hB
  have hg := hm _ _ han hbn
  have e : zor s (zshl 1 v) = ((s.toNat ||| 2 ^ gm T a.toNat b.toNat : Nat) : Int) := by
    rw [zorb (by omega) (by omega) (by omega) (by omega), hv]
    rfl
  have en : (zor s (zshl 1 v)).toNat = s.toNat ||| 2 ^ gm T a.toNat b.toNat := by rw [e]; rfl
  have hsub : gSb s.toNat (zor s (zshl 1 v)).toNat := by rw [en]; exact gSb.ol _ _
  obtain ⟨⟨b1, b2⟩, b3, b4, b5, b6, b7, b8⟩ := hB
  refine ⟨⟨⟨b1, by omega⟩, ?_, b4.tr hsub, b5.tr hsub, hsub _ b6, ?_, fun a' b h1 h2 h3 h4 h5 => hsub _ (b8 a' b h1 h2 h3 h4 h5)⟩, ⟨ha0, by omega⟩, fun b' h1 h2 h3 h4 => ?_⟩
  · rw [en]
    exact Nat.or_lt_two_pow b3 (Nat.pow_lt_pow_right (by omega) hg)
  · intro C hCl hX
    rw [en]
    exact gSb.or (b7 C hCl hX) (gSb.p2 (hCl.2 _ _ han hbn (b7 C hCl hX _ ha) (b7 C hCl hX _ hb)))
  · by_cases e2 : b' = b.toNat
    · subst e2
      rw [en]
      exact gSb.orr _ _ _ Nat.testBit_two_pow_self
    · exact hsub _ (hC b' (by omega) h2 h3 h4)
theorem zclC_e1 {T : zGT} {x w s a b : Int} (h : zclC T x w s a b) (hb : (gN T : Int) ≤ b) : zclB T x w s (a + 1) := by
  obtain ⟨⟨b1, b3, b4, b5, b6, b7, b8⟩, ⟨ha0, hb0⟩, hC⟩ := h
  refine ⟨b1, b3, b4, b5, b6, b7, fun a' b' h1 h2 h3 h4 h5 => ?_⟩
  by_cases e : a' = a.toNat
  · subst e
    exact hC b' (by omega) h3 h4 h5
  · exact b8 a' b' (by omega) h2 h3 h4 h5
theorem zclC_e2 {T : zGT} {x w s a b : Int} (h : zclC T x w s a b) (ha : ¬ zbt s a) : zclB T x w s (a + 1) := by
  obtain ⟨⟨b1, b3, b4, b5, b6, b7, b8⟩, ⟨ha0, hb0⟩, hC⟩ := h
  refine ⟨b1, b3, b4, b5, b6, b7, fun a' b' h1 h2 h3 h4 h5 => ?_⟩
  by_cases e : a' = a.toNat
  · subst e
    exact absurd (b5 _ h4) ha
  · exact b8 a' b' (by omega) h2 h3 h4 h5
theorem zclB_e {T : zGT} {x w s a : Int} (h : zclB T x w s a) (ha : (gN T : Int) ≤ a) : zclA T x s w := by
  have h9 := h.2.2.2.1.le
  obtain ⟨b1, b3, b4, b5, b6, b7, b8⟩ := h
  exact ⟨⟨b1.1, by omega⟩, b3, b4, b6, b7, fun a' b' h2 h3 h4 h5 => b8 a' b' (by omega) h2 h3 h4 h5⟩
theorem zclA_e {T : zGT} {x s w : Int} (h : zclA T x s w) (e : s = w) : gLC T x.toNat s.toNat := by
  obtain ⟨b1, b2, b3, b4, b5, b6⟩ := h
  subst e
  exact ⟨b2, b3, ⟨b4, b6⟩, b5⟩
def zTab (T : zGT) (M : zMem) : Prop := ze M 81 20 = (gN T : Int) ∧ (∀ a b, a < gN T → b < gN T → ze M 87 (24 * a + b) = ((gm T a b : Nat) : Int)) ∧ ∀ a, a < gN T → ze M 88 a = ((gi T a : Nat) : Int)
theorem zTab.fr {T : zGT} {S C : List Nat} {M N : zMem} (hf : zFr S C M N) (h : zTab T M) (hs : 20 ∉ S) (hc : 87 ∉ C ∧ 88 ∉ C) : zTab T N := by
  unfold zTab
  rw [hf.e hs]
  refine ⟨h.1, fun a b ha hb => ?_, fun a ha => ?_⟩
  · rw [hf.ie (by decide) hc.1]; exact h.2.1 a b ha hb
  · rw [hf.ie (by decide) hc.2]; exact h.2.2 a ha
theorem zTab.m {T : zGT} {M : zMem} (h : zTab T M) {a b : Int} (a0 : 0 ≤ a) (a1 : a < ze M 81 20) (b0 : 0 ≤ b) (b1 : b < ze M 81 20) : ze M 87 (24 * a + b).toNat = ((gm T a.toNat b.toNat : Nat) : Int) := by
  have h1 := h.1
  rw [show (24 * a + b).toNat = 24 * a.toNat + b.toNat by omega]
  exact h.2.1 _ _ (by omega) (by omega)
theorem zTab.u {T : zGT} {M : zMem} (h : zTab T M) {a : Int} (a0 : 0 ≤ a) (a1 : a < ze M 81 20) : ze M 88 a.toNat = ((gi T a.toNat : Nat) : Int) := by
  have h1 := h.1
  exact h.2.2 _ (by omega)
def gGd (T : zGT) : Prop := 1 ≤ gN T ∧ gN T ≤ 24 ∧ (∀ a, a < gN T → gi T a < gN T) ∧ ∀ a b, a < gN T → b < gN T → gm T a b < gN T
def zcb (x : Int) : Nat → Int
  | 0 => 0
  | k + 1 => zcb x k + zand (zshr x k) 1
theorem zcb_s (x k : Int) (h : 0 ≤ k) : zcb x (k + 1).toNat = zcb x k.toNat + zand (zshr x k) 1 := by
  obtain ⟨n, rfl⟩ := Int.eq_ofNat_of_zero_le h
  rw [show ((n : Int) + 1).toNat = n + 1 by omega]
  rfl
