theorem zlquo_t {a b : Int} (a0 : -4611686018427387903 ≤ a) (a1 : a ≤ 4611686018427387903) (b0 : 1 ≤ b) (b1 : b ≤ 4611686018427387903) : zlquo a b = a.tdiv b := by
  have ha : zn64 a := ⟨by omega, by omega⟩
  have hb : zn64 b := ⟨by omega, by omega⟩
  unfold zlquo
  rw [Int64.toInt_div_of_ne_left _ _ (fun e => by
    have := congrArg Int64.toInt e
    rw [z64 ha, Int64.toInt_minValue] at this
    omega), z64 ha, z64 hb]
theorem ztd_b (a : Int) {b : Int} (b0 : 1 ≤ b) : (a.tdiv b).natAbs ≤ a.natAbs ∧ (a.tdiv b * b).natAbs ≤ a.natAbs := by
  rw [Int.natAbs_mul, Int.natAbs_tdiv]
  exact ⟨Nat.div_le_self _ _, Nat.div_mul_le_self _ _⟩
theorem zlrem_t {a b : Int} (a0 : 0 ≤ a) (a1 : a ≤ 4611686018427387903) (b0 : 1 ≤ b) (b1 : b ≤ 4611686018427387903) : zlrem a b = a.tmod b := by
  have e : Int64.ofInt a / Int64.ofInt b = Int64.ofInt (zlquo a b) := (Int64.ofInt_toInt _).symm
  have h1 := ztd_b a b0
  unfold zlrem
  rw [e, zlquo_t (by omega) a1 b0 b1, ← Int64.ofInt_mul, ← Int64.ofInt_sub, Int.tmod_def, Int.mul_comm b]
  exact z64 ⟨by omega, by omega⟩
theorem zrem_t {a b : Int} (a0 : -1000000000 ≤ a) (a1 : a ≤ 1000000000) (b0 : 1 ≤ b) (b1 : b ≤ 1000000000) : zrem a b = a.tmod b := by
  have ha : zn32 a := ⟨by omega, by omega⟩
  have hb : zn32 b := ⟨by omega, by omega⟩
  have e : Int32.ofInt a / Int32.ofInt b = Int32.ofInt (a.tdiv b) := by
    have h2 : (Int32.ofInt a / Int32.ofInt b).toInt = a.tdiv b := by
      rw [Int32.toInt_div_of_ne_left _ _ (fun e => by
        have := congrArg Int32.toInt e
        rw [z32 ha, Int32.toInt_minValue] at this
        omega), z32 ha, z32 hb]
    rw [← h2, Int32.ofInt_toInt]
  have h1 := ztd_b a b0
  unfold zrem
  rw [e, ← Int32.ofInt_mul, ← Int32.ofInt_sub, Int.tmod_def, Int.mul_comm b]
  exact z32 ⟨by omega, by omega⟩
theorem zrem_d {a b : Int} (a0 : -1000000000 ≤ a) (a1 : a ≤ 1000000000) (b0 : 1 ≤ b) (b1 : b ≤ 1000000000) : zrem a b = 0 ↔ b ∣ a := by
  rw [zrem_t a0 a1 b0 b1]
  exact (Int.dvd_iff_tmod_eq_zero).symm
theorem zgc_s {x y a b : Int} (x0 : 0 ≤ x) (x1 : x ≤ 4611686018427387903) (y0 : 1 ≤ y) (y1 : y ≤ 4611686018427387903) (h : Int.gcd x y = Int.gcd a b) : 0 ≤ zlrem x y ∧ zlrem x y < y ∧ Int.gcd y (zlrem x y) = Int.gcd a b := by
  rw [zlrem_t x0 x1 y0 y1, Int.tmod_eq_emod_of_nonneg x0]
  have h1 := Int.emod_nonneg x (b := y) (by omega)
  have h2 := Int.emod_lt_of_pos x (b := y) (by omega)
  refine ⟨h1, h2, ?_⟩
  rw [← h, Int.gcd_comm x y]
  obtain ⟨m, rfl⟩ := Int.eq_ofNat_of_zero_le x0
  obtain ⟨n, rfl⟩ := Int.eq_ofNat_of_zero_le (show 0 ≤ y by omega)
  rw [← Int.natCast_emod]
  show Nat.gcd n (m % n) = Nat.gcd n m
  rw [Nat.gcd_rec n m, Nat.gcd_comm]
theorem zgc_p {a b : Int} (b0 : 1 ≤ b) : 1 ≤ ((Int.gcd a b : Nat) : Int) ∧ ((Int.gcd a b : Nat) : Int) ≤ b := by
  have h1 : Int.gcd a b ∣ b.natAbs := Nat.gcd_dvd_right _ _
  have h2 := Nat.le_of_dvd (by omega) h1
  have h3 : 0 < Int.gcd a b := Nat.gcd_pos_of_pos_right _ (by omega)
  omega
def zSw (A B a b A' B' : Int) : Prop := A' = (A * b + a * B).tdiv ((Int.gcd (A * b + a * B) (B * b) : Nat) : Int) ∧ B' = (B * b).tdiv ((Int.gcd (A * b + a * B) (B * b) : Nat) : Int)
theorem zmb {x y p q : Int} (h1 : -p ≤ x) (h2 : x ≤ p) (h3 : -q ≤ y) (h4 : y ≤ q) : -(p * q) ≤ x * y ∧ x * y ≤ p * q := by
  have h : (x * y).natAbs ≤ p.natAbs * q.natAbs := by
    rw [Int.natAbs_mul]
    exact Nat.mul_le_mul (by omega) (by omega)
  rw [← Int.natAbs_mul] at h
  have h5 : 0 ≤ p * q := Int.mul_nonneg (by omega) (by omega)
  omega
theorem zsw_b {A B a b : Int} (h1 : -1000000000 ≤ A) (h2 : A ≤ 1000000000) (h3 : 1 ≤ B) (h4 : B ≤ 1000) (h5 : -1000000000 ≤ a) (h6 : a ≤ 1000000000) (h7 : 1 ≤ b) (h8 : b ≤ 1000) : (-1000000000000 ≤ A * b ∧ A * b ≤ 1000000000000) ∧ (-1000000000000 ≤ a * B ∧ a * B ≤ 1000000000000) ∧ 1 ≤ B * b ∧ B * b ≤ 1000000 := by
  have g1 := zmb h1 h2 (show -1000 ≤ b by omega) h8
  have g2 := zmb h5 h6 (show -1000 ≤ B by omega) h4
  have g3 := zmb (show -1000 ≤ B by omega) h4 (show -1000 ≤ b by omega) h8
  have g4 : 0 < B * b := Int.mul_pos (by omega) (by omega)
  omega
theorem zSw_i {A B a b A' B' g : Int} (h1 : -1000000000 ≤ A) (h2 : A ≤ 1000000000) (h3 : 1 ≤ B) (h4 : B ≤ 1000) (h5 : -1000000000 ≤ a) (h6 : a ≤ 1000000000) (h7 : 1 ≤ b) (h8 : b ≤ 1000) (hg : g = ((Int.gcd (A * b + a * B) (B * b) : Nat) : Int)) (hA : A' = zlquo (A * b + a * B) g) (hB : B' = zlquo (B * b) g) : zSw A B a b A' B' := by
  obtain ⟨g1, g2, g3⟩ := zsw_b h1 h2 h3 h4 h5 h6 h7 h8
  have g4 := zgc_p (a := A * b + a * B) (b := B * b) g3.1
  rw [← hg] at g4
  rw [zlquo_t (by omega) (by omega) (by omega) (by omega)] at hA hB
  unfold zSw
  rw [← hg]
  exact ⟨hA, hB⟩
def gmkI (T : zGT) (i k : Nat) : Int := ((gmk T ((gF T).getD i 0) ((gF T).getD k 0) : Nat) : Int)
def gqI (T : zGT) (i k : Nat) : Int := gmkI T i k / gmkI T i i
def gds (T : zGT) (D : Nat → Nat → Int) (j k : Nat) : Nat → Int
  | 0 => if k = j then 1 else 0
  | n + 1 => gds T D j k n - D j (k + 1 + n) * gqI T (k + 1 + n) k
def gDs (T : zGT) (D : Nat → Nat → Int) : Prop := (∀ j k, j < (gF T).length → k < (gF T).length → (-1000 ≤ D j k ∧ D j k ≤ 1000) ∧ D j k = gds T D j k ((gF T).length - 1 - k)) ∧ ∀ i k, i < (gF T).length → k < (gF T).length → gmkI T i k = gqI T i k * gmkI T i i
theorem gmk_b (T : zGT) (F H : Nat) : gmk T F H ≤ gN T := by
  rw [gmk_e]
  have : ∀ k, gup (gfxF T F H) 0 k ≤ k := by
    intro k
    induction k with
    | zero => exact Nat.le_refl _
    | succ k ih =>
      show gfxF T F H k (gup (gfxF T F H) 0 k) ≤ k + 1
      generalize gup (gfxF T F H) 0 k = r at ih ⊢
      unfold gfxF
      cases gfx T F H k <;> simp <;> omega
  exact this _
theorem gmkI_b {T : zGT} (hG : gGd T) (i k : Nat) : 0 ≤ gmkI T i k ∧ gmkI T i k ≤ 24 := by
  have := gmk_b T ((gF T).getD i 0) ((gF T).getD k 0)
  have := hG.2.1
  unfold gmkI
  omega
theorem gmkI_1 {T : zGT} (hO : gOK T) {i : Nat} (hi : i < (gF T).length) : 1 ≤ gmkI T i i := by
  have := hO.2.2.2 i hi
  unfold gmkI
  omega
theorem gqI_b {T : zGT} (hO : gOK T) {i : Nat} (hi : i < (gF T).length) (k : Nat) : 0 ≤ gqI T i k ∧ gqI T i k ≤ 24 := by
  have h1 := gmkI_b hO.1 i k
  have h2 := gmkI_1 hO hi
  unfold gqI
  refine ⟨Int.ediv_nonneg h1.1 (by omega), Int.le_trans (Int.ediv_le_self _ h1.1) h1.2⟩
theorem gds_b {T : zGT} (hO : gOK T) {D : Nat → Nat → Int} (hD : gDs T D) {j k : Nat} (hj : j < (gF T).length) : ∀ n : Nat, k + n < (gF T).length → -(1 + 24000 * (n : Int)) ≤ gds T D j k n ∧ gds T D j k n ≤ 1 + 24000 * (n : Int)
  | 0, _ => by
    unfold gds
    split <;> omega
  | n + 1, h => by
    have ih := gds_b hO hD (k := k) hj n (by omega)
    have hi : k + 1 + n < (gF T).length := by omega
    have h1 := (hD.1 j (k + 1 + n) hj hi).1
    have h2 := gqI_b hO hi k
    have h3 := zmb h1.1 h1.2 (show -24 ≤ _ by omega) h2.2
    unfold gds
    omega
def zPk (T : zGT) (D : Nat → Nat → Int) (j k : Nat) (M : zMem) : Prop := ∀ i, k ≤ i → i < (gF T).length → 1 ≤ zg M 108 i ∧ zg M 108 i ∣ gmkI T i i ∧ zg M 107 i * gmkI T i i = D j i * zg M 108 i
theorem zPk.fr {S C : List Nat} {M N : zMem} {T : zGT} {D : Nat → Nat → Int} {j k : Nat} (hf : zFr S C M N) (h : zPk T D j k M) (hc : 107 ∉ C ∧ 108 ∉ C) : zPk T D j k N := by
  intro i h1 h2
  rw [hf.jg (by decide) hc.1, hf.jg (by decide) hc.2]
  exact h i h1 h2
theorem zPk_0 {T : zGT} {D : Nat → Nat → Int} {j k : Nat} {M : zMem} (h : (gF T).length ≤ k) : zPk T D j k M := fun i h1 h2 => absurd h1 (by omega)
theorem zPk.v {T : zGT} (hO : gOK T) {D : Nat → Nat → Int} {j k : Nat} {M : zMem} (h : zPk T D j k M) {i : Nat} (h1 : k ≤ i) (h2 : i < (gF T).length) : ∃ e : Int, 1 ≤ e ∧ gmkI T i i = zg M 108 i * e ∧ zg M 107 i * e = D j i := by
  obtain ⟨a1, ⟨e, he⟩, a3⟩ := h i h1 h2
  have hm := gmkI_1 hO h2
  refine ⟨e, ?_, he, ?_⟩
  · rcases Int.lt_or_le e 1 with g | g
    · have := Int.mul_nonneg (show 0 ≤ zg M 108 i by omega) (show 0 ≤ -e by omega)
      rw [Int.mul_neg] at this
      omega
    · exact g
  · rw [he, ← Int.mul_assoc, Int.mul_right_comm] at a3
    exact Int.eq_of_mul_eq_mul_right (by omega) a3
theorem zdm {a e d : Int} (h : a * e = d) (he : 1 ≤ e) {q : Int} (h1 : -q ≤ d) (h2 : d ≤ q) : -q ≤ a ∧ a ≤ q := by
  have h3 : a.natAbs ≤ d.natAbs := by
    rw [← h, Int.natAbs_mul]
    exact Nat.le_mul_of_pos_right _ (by omega)
  omega
theorem zPk.b {T : zGT} (hO : gOK T) {D : Nat → Nat → Int} (hD : gDs T D) {j k : Nat} (hj : j < (gF T).length) {M : zMem} (h : zPk T D j k M) {i : Nat} (h1 : k ≤ i) (h2 : i < (gF T).length) : (-1000 ≤ zg M 107 i ∧ zg M 107 i ≤ 1000) ∧ 1 ≤ zg M 108 i ∧ zg M 108 i ≤ 24 := by
  obtain ⟨e, e1, e2, e3⟩ := h.v hO h1 h2
  have a1 := (h i h1 h2).1
  have hd := (hD.1 j i hj h2).1
  have hm := gmkI_b hO.1 i i
  exact ⟨zdm e3 e1 hd.1 hd.2, a1, (zdm e2.symm e1 (q := 24) (by omega) (by omega)).2⟩
theorem zpk_s1 {T : zGT} (hO : gOK T) {D : Nat → Nat → Int} (hD : gDs T D) {j k : Nat} {M : zMem} (h : zPk T D j (k + 1) M) {n : Nat} (hn : k + 1 + n < (gF T).length) {A a b A' B' : Int} (hA : A = gds T D j k n) (ha : a = -zg M 107 (k + 1 + n) * gmkI T (k + 1 + n) k) (hb : b = zg M 108 (k + 1 + n)) (hs : zSw A 1 a b A' B') : A' = gds T D j k (n + 1) ∧ B' = 1 := by
  have hi : k + 1 ≤ k + 1 + n := by omega
  obtain ⟨e, e1, e2, e3⟩ := h.v hO hi hn
  have b1 := (h _ hi hn).1
  rw [← hb] at b1 e2
  have hq := hD.2 (k + 1 + n) k hn (by omega)
  have ea : a = b * (-(D j (k + 1 + n) * gqI T (k + 1 + n) k)) := by
    rw [ha, hq, e2, ← e3, Int.neg_mul, Int.mul_neg]
    congr 1
    ac_rfl
  have eu : A * b + a * 1 = b * gds T D j k (n + 1) := by
    rw [ea, Int.mul_one, Int.mul_comm A b, ← Int.mul_add, hA]
    rfl
  obtain ⟨s1, s2⟩ := hs
  have eg : ((Int.gcd (A * b + a * 1) (1 * b) : Nat) : Int) = b := by
    rw [eu, Int.one_mul]
    show ((Nat.gcd (b * gds T D j k (n + 1)).natAbs b.natAbs : Nat) : Int) = b
    rw [Int.natAbs_mul, Nat.gcd_comm, Nat.gcd_mul_right_right]
    omega
  rw [eg] at s1 s2
  rw [eu] at s1
  rw [Int.mul_tdiv_cancel_left _ (by omega)] at s1
  rw [Int.one_mul, Int.tdiv_self (by omega)] at s2
  exact ⟨s1, s2⟩
theorem zpk_s0 {T : zGT} (hO : gOK T) {D : Nat → Nat → Int} (hD : gDs T D) {j k : Nat} {M : zMem} (h : zPk T D j (k + 1) M) {n : Nat} (hn : k + 1 + n < (gF T).length) {A : Int} (hA : A = gds T D j k n) (hz : zg M 107 (k + 1 + n) = 0 ∨ gmkI T (k + 1 + n) k = 0) : A = gds T D j k (n + 1) := by
  have hi : k + 1 ≤ k + 1 + n := by omega
  obtain ⟨e, e1, e2, e3⟩ := h.v hO hi hn
  have : D j (k + 1 + n) * gqI T (k + 1 + n) k = 0 := by
    rcases hz with hz | hz
    · rw [← e3, hz, Int.zero_mul, Int.zero_mul]
    · unfold gqI
      rw [hz, Int.zero_ediv, Int.mul_zero]
  show A = gds T D j k n - D j (k + 1 + n) * gqI T (k + 1 + n) k
  rw [this, hA, Int.sub_zero]
theorem zlow {u d m p : Int} (h : u * m = p * d) (hd : 1 ≤ d) (hm : 1 ≤ m) : 1 ≤ d.tdiv ((Int.gcd u d : Nat) : Int) ∧ d.tdiv ((Int.gcd u d : Nat) : Int) ∣ m ∧ u.tdiv ((Int.gcd u d : Nat) : Int) * m = p * d.tdiv ((Int.gcd u d : Nat) : Int) := by
  have hg := zgc_p (a := u) hd
  have g1 : ((Int.gcd u d : Nat) : Int) ∣ u := Int.gcd_dvd_left _ _
  have g2 : ((Int.gcd u d : Nat) : Int) ∣ d := Int.gcd_dvd_right _ _
  have hc : Int.gcd (u.tdiv ((Int.gcd u d : Nat) : Int)) (d.tdiv ((Int.gcd u d : Nat) : Int)) = 1 := by
    show Nat.gcd (Int.natAbs _) (Int.natAbs _) = 1
    rw [Int.natAbs_tdiv, Int.natAbs_tdiv, Int.natAbs_natCast]
    exact Nat.coprime_div_gcd_div_gcd (m := u.natAbs) (n := d.natAbs) (by show 0 < Int.gcd u d; omega)
  generalize ((Int.gcd u d : Nat) : Int) = g at hg g1 g2 hc ⊢
  obtain ⟨u', rfl⟩ := g1
  obtain ⟨d', rfl⟩ := g2
  rw [Int.mul_tdiv_cancel_left _ (by omega), Int.mul_tdiv_cancel_left _ (by omega)] at hc ⊢
  have e : u' * m = p * d' := by
    rw [Int.mul_assoc, Int.mul_left_comm p] at h
    exact Int.eq_of_mul_eq_mul_left (by omega) h
  refine ⟨?_, ?_, e⟩
  · rcases Int.lt_or_le d' 1 with k | k
    · have := Int.mul_nonneg (show 0 ≤ g by omega) (show 0 ≤ -d' by omega)
      rw [Int.mul_neg] at this
      omega
    · exact k
  · have h2 : d'.natAbs ∣ u'.natAbs * m.natAbs := by
      rw [← Int.natAbs_mul, e, Int.natAbs_mul]
      exact Nat.dvd_mul_left _ _
    have h3 : d'.natAbs ∣ m.natAbs := Nat.Coprime.dvd_of_dvd_mul_left (k := d'.natAbs) (m := u'.natAbs) (by
      show Nat.gcd _ _ = 1
      rw [Nat.gcd_comm]
      exact hc) h2
    exact Int.natAbs_dvd_natAbs.mp h3
theorem zpk_n {T : zGT} (hO : gOK T) {D : Nat → Nat → Int} (hD : gDs T D) {j k : Nat} (hj : j < (gF T).length) (hk : k < (gF T).length) {M N P : zMem} (h : zPk T D j (k + 1) M) {a m g x y : Int} (ha : a = D j k) (hm : m = gmkI T k k) (hg : g = ((Int.gcd a m : Nat) : Int)) (hx : x = zlquo a g) (hy : y = zlquo m g) (hN : N = zsJ M 107 k (Int64.ofInt x)) (hP : P = zsJ N 108 k (Int64.ofInt y)) : zPk T D j k P := by
  have d1 := (hD.1 j k hj hk).1
  have m0 := gmkI_b hO.1 k k
  have m1 := gmkI_1 hO hk
  have g1 := zgc_p (a := a) (b := m) (by omega)
  rw [← hg] at g1
  rw [zlquo_t (by omega) (by omega) (by omega) (by omega)] at hx hy
  obtain ⟨z1, z2, z3⟩ := zlow (u := a) (d := m) (m := m) (p := a) rfl (by omega) (by omega)
  rw [← hg] at z1 z2 z3
  rw [← hx] at z3
  rw [← hy] at z1 z2 z3
  have hx1 := ztd_b a (b := g) (by omega)
  have hy1 := ztd_b m (b := g) (by omega)
  rw [← hx] at hx1
  rw [← hy] at hy1
  have hf1 : zFr [] [107] M N := by rw [hN]; exact zFr.sB (by decide)
  have hf2 : zFr [] [108] N P := by rw [hP]; exact zFr.sB (by decide)
  intro i h1 h2
  by_cases e : i = k
  · subst e
    have v1 : zg P 107 i = x := by
      rw [hf2.jg (by decide) (by decide)]
      exact zs_getJ hN ⟨by omega, by omega⟩
    have v2 : zg P 108 i = y := zs_getJ hP ⟨by omega, by omega⟩
    rw [v1, v2, ← hm, ← ha]
    exact ⟨z1, z2, z3⟩
  · have v1 : zg P 107 i = zg M 107 i := by
      rw [hf2.jg (by decide) (by decide)]
      exact zs_othJ hN e
    have v2 : zg P 108 i = zg M 108 i := by
      rw [zs_othJ hP e]
      exact hf1.jg (by decide) (by decide) i
    rw [v1, v2]
    exact h i (by omega) h2
def zLc (T : zGT) (i : Nat) (n A B : Int) : Prop := ∃ p : Int, (-(1000 * n) ≤ p ∧ p ≤ 1000 * n) ∧ A * gmkI T i i = p * B ∧ 1 ≤ B ∧ B ∣ gmkI T i i
theorem zLc_0 {T : zGT} {i : Nat} : zLc T i 0 0 1 := ⟨0, ⟨by omega, by omega⟩, by rw [Int.zero_mul, Int.zero_mul], by omega, Int.one_dvd _⟩
theorem zLc_m {T : zGT} {i : Nat} {n A B : Int} (h : zLc T i n A B) : zLc T i (n + 1) A B := by
  obtain ⟨p, h1, h2⟩ := h
  exact ⟨p, by omega, h2⟩
theorem zLc_b {T : zGT} (hO : gOK T) {i : Nat} (hi : i < (gF T).length) {n A B : Int} (n0 : 0 ≤ n) (n1 : n ≤ 64) (h : zLc T i n A B) : (-2000000 ≤ A ∧ A ≤ 2000000) ∧ 1 ≤ B ∧ B ≤ 24 := by
  obtain ⟨p, h1, h2, h3, h4⟩ := h
  have m0 := gmkI_b hO.1 i i
  have m1 := gmkI_1 hO hi
  have hB : B ≤ 24 := Int.le_trans (Int.le_of_dvd (by omega) h4) m0.2
  have h5 := zmb (show -64000 ≤ p by omega) (show p ≤ 64000 by omega) (show -24 ≤ B by omega) hB
  rw [← h2] at h5
  have := zdm (a := A) rfl m1 (q := 1536000) (by omega) (by omega)
  omega
theorem zLc_s {T : zGT} (hO : gOK T) {D : Nat → Nat → Int} (hD : gDs T D) {j i : Nat} (hj : j < (gF T).length) (hi : i < (gF T).length) {M : zMem} (hP : zPk T D j 0 M) {n A B A' B' A1 B1 a b : Int} (h : zLc T i n A B) (hs : zSw A1 B1 a b A' B') (eA : A1 = A) (eB : B1 = B) (ea : a = zg M 107 i) (eb : b = zg M 108 i) : zLc T i (n + 1) A' B' := by
  subst eA eB ea eb
  obtain ⟨p, h1, h2, h3, h4⟩ := h
  obtain ⟨q1, q2, q3⟩ := hP i (Nat.zero_le _) hi
  have d1 := (hD.1 j i hj hi).1
  obtain ⟨s1, s2⟩ := hs
  have e : (A1 * zg M 108 i + zg M 107 i * B1) * gmkI T i i = (p + D j i) * (B1 * zg M 108 i) := by
    rw [Int.add_mul, Int.add_mul, Int.mul_right_comm A1, h2, Int.mul_right_comm (zg M 107 i), q3, Int.mul_assoc, Int.mul_assoc, Int.mul_comm (zg M 108 i) B1]
  obtain ⟨z1, z2, z3⟩ := zlow e (Int.mul_pos (by omega) (by omega)) (gmkI_1 hO hi)
  rw [← s1] at z3
  rw [← s2] at z1 z2 z3
  exact ⟨p + D j i, by omega, z3, z1, z2⟩
theorem zmb24 {x y : Int} (h1 : -1000 ≤ x) (h2 : x ≤ 1000) (h3 : 0 ≤ y) (h4 : y ≤ 24) : -24000 ≤ x * y ∧ x * y ≤ 24000 := by
  have := zmb h1 h2 (show -24 ≤ y by omega) h4
  omega
theorem zGB_mk {T : zGT} {M : zMem} (h : zGB T M) {i k : Int} (i0 : 0 ≤ i) (i1 : i < ze M 81 26) (k0 : 0 ≤ k) (k1 : k < ze M 81 26) : ze M 93 (64 * i + k).toNat = gmkI T i.toNat k.toNat := by
  have hl := h.2.2.2.1.1
  rw [show (64 * i + k).toNat = 64 * i.toNat + k.toNat by omega]
  exact h.2.2.2.2.2.2 i.toNat k.toNat (by omega) (by omega) (by omega)
theorem zpk_i1 {T : zGT} (hO : gOK T) {D : Nat → Nat → Int} (hD : gDs T D) {J : Nat} {M : zMem} {i k A B v m b A' B' : Int} (hs : zSw A B (-v * m) b A' B') (k0 : 0 ≤ k) (ki : k + 1 ≤ i) (il : i < ((gF T).length : Int)) (h : zPk T D J (k + 1).toNat M) (hA : A = gds T D J k.toNat (i - k - 1).toNat) (hB : B = 1) (hv : v = zg M 107 i.toNat) (hm : m = gmkI T i.toNat k.toNat) (hb : b = zg M 108 i.toNat) : B' = 1 ∧ A' = gds T D J k.toNat (i + 1 - k - 1).toNat := by
  have e1 : (k + 1).toNat = k.toNat + 1 := by omega
  have e2 : i.toNat = k.toNat + 1 + (i - k - 1).toNat := by omega
  have e3 : (i + 1 - k - 1).toNat = (i - k - 1).toNat + 1 := by omega
  rw [e1] at h
  rw [e2] at hv hm hb
  rw [hB, hv, hm] at hs
  have := zpk_s1 hO hD h (by omega) hA rfl hb hs
  rw [e3]
  exact ⟨this.2, this.1⟩
theorem zpk_i0 {T : zGT} (hO : gOK T) {D : Nat → Nat → Int} (hD : gDs T D) {J : Nat} {M : zMem} {i k A : Int} (k0 : 0 ≤ k) (ki : k + 1 ≤ i) (il : i < ((gF T).length : Int)) (h : zPk T D J (k + 1).toNat M) (hA : A = gds T D J k.toNat (i - k - 1).toNat) (hz : zg M 107 i.toNat = 0 ∨ gmkI T i.toNat k.toNat = 0) : A = gds T D J k.toNat (i + 1 - k - 1).toNat := by
  have e1 : (k + 1).toNat = k.toNat + 1 := by omega
  have e2 : i.toNat = k.toNat + 1 + (i - k - 1).toNat := by omega
  have e3 : (i + 1 - k - 1).toNat = (i - k - 1).toNat + 1 := by omega
  rw [e1] at h
  rw [e2] at hz
  rw [e3]
  exact zpk_s0 hO hD h (by omega) hA hz
theorem zpk_e {T : zGT} {D : Nat → Nat → Int} (hD : gDs T D) {J : Nat} (hJ : J < (gF T).length) {i k A : Int} (k0 : 0 ≤ k) (il : i = ((gF T).length : Int)) (kl : k < i) (hA : A = gds T D J k.toNat (i - k - 1).toNat) : A = D J k.toNat ∧ -1000 ≤ A ∧ A ≤ 1000 := by
  have h := hD.1 J k.toNat hJ (by omega)
  rw [show (i - k - 1).toNat = (gF T).length - 1 - k.toNat by omega, ← h.2] at hA
  rw [hA]
  exact ⟨rfl, h.1⟩
def gpw (T : zGT) (m : Nat) : Nat → Nat
  | 0 => m
  | k + 1 => gm T (gpw T m k) m
theorem gpw_s {T : zGT} {m : Nat} {i x v : Int} (hi : 0 ≤ i) (hx : x = ((gpw T m i.toNat : Nat) : Int)) (hv : v = ((gm T x.toNat m : Nat) : Int)) : v = ((gpw T m (i + 1).toNat : Nat) : Int) := by
  rw [show (i + 1).toNat = i.toNat + 1 by omega, hv, hx, Int.toNat_natCast]
  rfl
def gmmF (T : zGT) (F : Nat) : Nat → Nat → Nat := fun x r => if gtr T F x = F ∧ gcos T F x = x then r + 1 else r
def gmm (T : zGT) (F : Nat) : Nat := gup (gmmF T F) 0 (gN T)
def gcu (T : zGT) : Nat → Nat
  | 0 => 0
  | d + 1 => gcu T d + (if gmm T ((gF T).getD ((gF T).length - 1 - d) 0) ≤ 2 then 1 else 0)
def gEx (T : zGT) : Prop := (∀ m, m < gN T → ∃ k : Nat, k ≤ 24 ∧ gpw T m k = 0) ∧ (gF T).length ≤ 30 ∧ (∀ F ∈ gF T, gtr T F 0 = F) ∧ gcu T (gF T).length ≤ 15 ∧ (∀ F ∈ gF T, ∀ x, x < gN T → x ≠ 0 → gcos T F x = x → ∀ R, gLC T (F ||| 2 ^ x) R → glt T R ≠ F) ∧ ∃ D : Nat → Nat → Int, gDs T D
theorem gpw_n {T : zGT} {m K : Nat} (hK : gpw T m K = 0) {i x : Int} (hx : x = ((gpw T m i.toNat : Nat) : Int)) (h : x ≠ 0) (i0 : 0 ≤ i) : i ≠ K := by
  rintro rfl
  rw [Int.toNat_natCast, hK] at hx
  exact h hx
