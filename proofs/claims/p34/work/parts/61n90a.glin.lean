def zxs (g : Nat → Nat) : Nat → Nat
  | 0 => 0
  | k + 1 => zxs g k ^^^ g k
def zbx (q : Nat → Bool) : Nat → Bool
  | 0 => false
  | k + 1 => Bool.xor (zbx q k) (q k)
def zpk (p : Nat → Bool) (b : Nat → Nat) : Nat → Nat := fun i => cond (p i) (b i) 0
theorem zxs_c {g h : Nat → Nat} : ∀ m : Nat, (∀ i, i < m → g i = h i) → zxs g m = zxs h m
  | 0, _ => rfl
  | m + 1, e => by
    show zxs g m ^^^ g m = zxs h m ^^^ h m
    rw [zxs_c m (fun i hi => e i (by omega)), e m (by omega)]
theorem zbx_c {g h : Nat → Bool} : ∀ m : Nat, (∀ i, i < m → g i = h i) → zbx g m = zbx h m
  | 0, _ => rfl
  | m + 1, e => by
    show Bool.xor (zbx g m) (g m) = Bool.xor (zbx h m) (h m)
    rw [zbx_c m (fun i hi => e i (by omega)), e m (by omega)]
theorem zxs_x (g h : Nat → Nat) : ∀ m : Nat, zxs (fun i => g i ^^^ h i) m = zxs g m ^^^ zxs h m
  | 0 => (Nat.xor_self 0).symm
  | m + 1 => by
    show zxs (fun i => g i ^^^ h i) m ^^^ (g m ^^^ h m) = (zxs g m ^^^ g m) ^^^ (zxs h m ^^^ h m)
    rw [zxs_x g h m, Nat.xor_assoc, Nat.xor_assoc, ← Nat.xor_assoc (zxs h m) (g m) (h m), Nat.xor_comm (zxs h m) (g m), Nat.xor_assoc]
theorem zxs_cv (q : Nat → Bool) (v : Nat) : ∀ m : Nat, zxs (fun i => cond (q i) v 0) m = cond (zbx q m) v 0
  | 0 => rfl
  | m + 1 => by
    show zxs (fun i => cond (q i) v 0) m ^^^ cond (q m) v 0 = cond (Bool.xor (zbx q m) (q m)) v 0
    rw [zxs_cv q v m]
    cases zbx q m <;> cases q m
    · exact Nat.xor_self 0
    · exact Nat.zero_xor v
    · exact Nat.xor_zero v
    · exact Nat.xor_self v
theorem zbx_0 {q : Nat → Bool} : ∀ m : Nat, (∀ i, i < m → q i = false) → zbx q m = false
  | 0, _ => rfl
  | m + 1, h => by
    show Bool.xor (zbx q m) (q m) = false
    rw [zbx_0 m (fun i hi => h i (by omega)), h m (by omega)]
    rfl
theorem zbx_1 {q : Nat → Bool} {o : Nat} : ∀ m : Nat, (∀ i, i < m → i ≠ o → q i = false) → o < m → zbx q m = q o
  | 0, _, h => absurd h (Nat.not_lt_zero _)
  | m + 1, ho, h => by
    show Bool.xor (zbx q m) (q m) = q o
    by_cases g : m = o
    · rw [zbx_0 m (fun i hi => ho i (by omega) (by omega)), g]
      cases q o <;> rfl
    · rw [zbx_1 m (fun i hi => ho i (by omega)) (by omega), ho m (by omega) g]
      cases q o <;> rfl
theorem zxs_1 {o v : Nat} : ∀ m : Nat, zxs (fun i => if i = o then v else 0) m = if o < m then v else 0
  | 0 => by
    rw [if_neg (Nat.not_lt_zero _)]
    rfl
  | m + 1 => by
    show zxs (fun i => if i = o then v else 0) m ^^^ (if m = o then v else 0) = if o < m + 1 then v else 0
    rw [zxs_1 m]
    by_cases g : m = o
    · rw [if_pos g, if_neg (by omega), if_pos (by omega), Nat.zero_xor]
    · rw [if_neg g, Nat.xor_zero]
      by_cases g2 : o < m
      · rw [if_pos g2, if_pos (by omega)]
      · rw [if_neg g2, if_neg (by omega)]
theorem zxs_t (g : Nat → Nat) (t : Nat) : ∀ m : Nat, (zxs g m).testBit t = zbx (fun i => (g i).testBit t) m
  | 0 => Nat.zero_testBit t
  | m + 1 => by
    show (zxs g m ^^^ g m).testBit t = Bool.xor (zbx (fun i => (g i).testBit t) m) ((g m).testBit t)
    rw [Nat.testBit_xor, zxs_t g t m]
theorem zlt_tb {x y : Nat} (i : Nat) (hx : x.testBit i = false) (hy : y.testBit i = true) (hj : ∀ j, i < j → x.testBit j = y.testBit j) : x < y := by
  have e : x / 2 ^ (i + 1) = y / 2 ^ (i + 1) := Nat.eq_of_testBit_eq fun j => by
    rw [Nat.testBit_div_two_pow, Nat.testBit_div_two_pow]
    exact hj _ (by omega)
  rw [Nat.testBit_eq_decide_div_mod_eq] at hx hy
  have hx2 : ¬ x / 2 ^ i % 2 = 1 := of_decide_eq_false hx
  have hy2 : y / 2 ^ i % 2 = 1 := of_decide_eq_true hy
  have ex : x / 2 ^ (i + 1) = x / 2 ^ i / 2 := by rw [Nat.pow_succ, Nat.div_div_eq_div_mul]
  have ey : y / 2 ^ (i + 1) = y / 2 ^ i / 2 := by rw [Nat.pow_succ, Nat.div_div_eq_div_mul]
  have hlt : x / 2 ^ i < y / 2 ^ i := by omega
  exact Nat.lt_of_not_le fun h => absurd (Nat.div_le_div_right (c := 2 ^ i) h) (by omega)
def zsp (b : Nat → Nat) (m x : Nat) : Prop := ∃ p : Nat → Bool, zxs (zpk p b) m = x
def zind (b : Nat → Nat) (m : Nat) : Prop := ∀ p : Nat → Bool, zxs (zpk p b) m = 0 → ∀ i, i < m → p i = false
def zln (f : Nat → Bool) : Prop := f 0 = false ∧ ∀ x y, f (x ^^^ y) = Bool.xor (f x) (f y)
section ZLI
variable {f : Nat → Bool} {b b' : Nat → Nat} {m x y : Nat} {S : Nat → Prop}
theorem zln_s (hf : zln f) (g : Nat → Nat) : ∀ m : Nat, f (zxs g m) = zbx (fun i => f (g i)) m
  | 0 => hf.1
  | m + 1 => by
    show f (zxs g m ^^^ g m) = Bool.xor (zbx (fun i => f (g i)) m) (f (g m))
    rw [hf.2, zln_s hf g m]
theorem zsp_l (h0 : S 0) (hS : ∀ x i, i < m → S x → S (x ^^^ b i)) (h : zsp b m x) : S x := by
  obtain ⟨p, rfl⟩ := h
  have hk : ∀ k : Nat, k ≤ m → S (zxs (zpk p b) k) := by
    intro k
    induction k with
    | zero => exact fun _ => h0
    | succ k ih =>
      intro hk
      show S (zxs (zpk p b) k ^^^ cond (p k) (b k) 0)
      cases p k
      · show S (zxs (zpk p b) k ^^^ 0)
        rw [Nat.xor_zero]
        exact ih (by omega)
      · exact hS _ k (by omega) (ih (by omega))
  exact hk m (Nat.le_refl _)
theorem zsp_x (hx : zsp b m x) (hy : zsp b m y) : zsp b m (x ^^^ y) := by
  obtain ⟨p, rfl⟩ := hx
  obtain ⟨q, rfl⟩ := hy
  refine ⟨fun i => Bool.xor (p i) (q i), ?_⟩
  rw [← zxs_x]
  refine zxs_c m (fun i _ => ?_)
  show cond (Bool.xor (p i) (q i)) (b i) 0 = cond (p i) (b i) 0 ^^^ cond (q i) (b i) 0
  cases p i <;> cases q i
  · exact (Nat.xor_self 0).symm
  · exact (Nat.zero_xor _).symm
  · exact (Nat.xor_zero _).symm
  · exact (Nat.xor_self _).symm
theorem zsp_0 : zsp b m 0 := ⟨fun _ => false, by
  have h := zxs_cv (fun _ => false) 0 m
  rw [zbx_0 m (fun _ _ => rfl)] at h
  exact h⟩
theorem zsp_m {i : Nat} (hi : i < m) : zsp b m (b i) := ⟨fun j => decide (j = i), by
  have h := zxs_1 (o := i) (v := b i) m
  rw [if_pos hi] at h
  rw [← h]
  refine zxs_c m (fun j _ => ?_)
  show cond (decide (j = i)) (b j) 0 = if j = i then b i else 0
  by_cases g : j = i
  · rw [if_pos g, decide_eq_true g, g]
    rfl
  · rw [if_neg g, decide_eq_false g]
    rfl⟩
theorem zsp_i {m' : Nat} (hb : ∀ i, i < m' → zsp b m (b' i)) (h : zsp b' m' x) : zsp b m x := zsp_l (S := zsp b m) zsp_0 (fun _ i hi hx => zsp_x hx (hb i hi)) h
theorem zsp_a {t : Nat → Bool} {o : Nat} (ho : o < m) (h : ∀ i, i < m → b' i = b i ^^^ cond (t i) (b o) 0) (hto : t o = false) : zsp b' m x ↔ zsp b m x := by
  have h1 : ∀ i, i < m → zsp b m (b' i) := fun i hi => by
    rw [h i hi]
    cases t i
    · show zsp b m (b i ^^^ 0)
      rw [Nat.xor_zero]
      exact zsp_m hi
    · exact zsp_x (zsp_m hi) (zsp_m ho)
  have h2 : ∀ i, i < m → zsp b' m (b i) := fun i hi => by
    have e : b i = b' i ^^^ cond (t i) (b' o) 0 := by
      rw [h o ho, hto, h i hi]
      show b i = b i ^^^ cond (t i) (b o) 0 ^^^ cond (t i) (b o ^^^ 0) 0
      rw [Nat.xor_zero, Nat.xor_assoc, Nat.xor_self, Nat.xor_zero]
    rw [e]
    cases t i
    · show zsp b' m (b' i ^^^ 0)
      rw [Nat.xor_zero]
      exact zsp_m hi
    · exact zsp_x (zsp_m hi) (zsp_m ho)
  exact ⟨zsp_i h1, zsp_i h2⟩
theorem zind_a {t : Nat → Bool} {o : Nat} (ho : o < m) (h : ∀ i, i < m → b' i = b i ^^^ cond (t i) (b o) 0) (hto : t o = false) (hI : zind b m) : zind b' m := by
  intro p hp
  obtain ⟨r, hr⟩ : ∃ r, r = zbx (fun i => p i && t i) m := ⟨_, rfl⟩
  have e : zxs (zpk p b') m = zxs (zpk (fun i => Bool.xor (p i) (decide (i = o) && r)) b) m := by
    have e1 : zxs (zpk p b') m = zxs (zpk p b) m ^^^ cond r (b o) 0 := by
      rw [hr, ← zxs_cv, ← zxs_x]
      refine zxs_c m (fun i hi => ?_)
      show cond (p i) (b' i) 0 = cond (p i) (b i) 0 ^^^ cond (p i && t i) (b o) 0
      rw [h i hi]
      cases p i
      · exact (Nat.xor_self 0).symm
      · rfl
    have e2 : cond r (b o) 0 = zxs (fun i => if i = o then cond r (b o) 0 else 0) m := by
      rw [zxs_1, if_pos ho]
    rw [e1, e2, ← zxs_x]
    refine zxs_c m (fun i hi => ?_)
    show cond (p i) (b i) 0 ^^^ (if i = o then cond r (b o) 0 else 0) = cond (Bool.xor (p i) (decide (i = o) && r)) (b i) 0
    by_cases g : i = o
    · rw [if_pos g, decide_eq_true g, g]
      cases p o <;> cases r
      · exact Nat.xor_self 0
      · exact Nat.zero_xor _
      · exact Nat.xor_zero _
      · exact Nat.xor_self _
    · rw [if_neg g, decide_eq_false g, Nat.xor_zero]
      cases p i <;> rfl
  have h1 := hI _ (e.symm.trans hp)
  have h2 : ∀ i, i < m → i ≠ o → p i = false := fun i hi g => by
    have h3 := h1 i hi
    rw [decide_eq_false g] at h3
    revert h3
    cases p i
    · exact fun _ => rfl
    · exact fun z => z
  have hr0 : r = false := by
    rw [hr]
    refine zbx_0 m (fun i hi => ?_)
    by_cases g : i = o
    · rw [g, hto]
      cases p o <;> rfl
    · rw [h2 i hi g]
      rfl
  intro i hi
  by_cases g : i = o
  · have h3 := h1 o ho
    rw [hr0, decide_eq_true rfl] at h3
    rw [g]
    revert h3
    cases p o
    · exact fun _ => rfl
    · exact fun z => z
  · exact h2 i hi g
theorem zsp_d {n o : Nat} (hf : zln f) (ho : o ≤ n) (h1 : f (b o) = true) (h0 : ∀ i, i ≤ n → i ≠ o → f (b i) = false) (h : ∀ i, i < n → b' i = if i = o then b n else b i) : zsp b' n x ↔ (zsp b (n + 1) x ∧ f x = false) := by
  constructor
  · refine zsp_l (S := fun x => zsp b (n + 1) x ∧ f x = false) ⟨zsp_0, hf.1⟩ (fun y i hi hy => ?_)
    rw [h i hi]
    by_cases g : i = o
    · rw [if_pos g]
      refine ⟨zsp_x hy.1 (zsp_m (by omega)), ?_⟩
      rw [hf.2, hy.2, h0 n (Nat.le_refl _) (by omega)]
      rfl
    · rw [if_neg g]
      refine ⟨zsp_x hy.1 (zsp_m (by omega)), ?_⟩
      rw [hf.2, hy.2, h0 i (by omega) g]
      rfl
  · rintro ⟨⟨q, rfl⟩, hx⟩
    have hq : q o = false := by
      rw [zln_s hf, zbx_1 (o := o) (n + 1) (fun i hi g => ?_) (by omega)] at hx
      · have hx2 : f (cond (q o) (b o) 0) = false := hx
        revert hx2
        cases q o
        · exact fun _ => rfl
        · intro hx2
          have hx3 : f (b o) = false := hx2
          rw [h1] at hx3
          exact hx3
      · show f (cond (q i) (b i) 0) = false
        cases q i
        · exact hf.1
        · exact h0 i (by omega) g
    have hk : ∀ k : Nat, k ≤ n + 1 → zsp b' n (zxs (zpk q b) k) := by
      intro k
      induction k with
      | zero => exact fun _ => zsp_0
      | succ k ih =>
        intro hk
        show zsp b' n (zxs (zpk q b) k ^^^ cond (q k) (b k) 0)
        refine zsp_x (ih (by omega)) ?_
        by_cases g : k = o
        · rw [g, hq]
          exact zsp_0
        · have hb : zsp b' n (b k) := by
            by_cases g2 : k = n
            · have e := h o (by omega)
              rw [if_pos rfl] at e
              rw [g2, ← e]
              exact zsp_m (by omega)
            · have e := h k (by omega)
              rw [if_neg g] at e
              rw [← e]
              exact zsp_m (by omega)
          cases q k
          · exact zsp_0
          · exact hb
    exact hk (n + 1) (Nat.le_refl _)
theorem zind_d {n o : Nat} (ho : o ≤ n) (h : ∀ i, i < n → b' i = if i = o then b n else b i) (hI : zind b (n + 1)) : zind b' n := by
  intro p hp
  obtain ⟨q, hq⟩ : ∃ q : Nat → Bool, ∀ i, q i = if i = o then false else if i = n then p o else p i := ⟨_, fun _ => rfl⟩
  have e : zxs (zpk q b) (n + 1) = zxs (zpk p b') n := by
    show zxs (zpk q b) n ^^^ cond (q n) (b n) 0 = zxs (zpk p b') n
    by_cases g : o = n
    · rw [hq n, if_pos g.symm]
      show zxs (zpk q b) n ^^^ 0 = zxs (zpk p b') n
      rw [Nat.xor_zero]
      refine zxs_c n (fun i hi => ?_)
      show cond (q i) (b i) 0 = cond (p i) (b' i) 0
      rw [hq i, if_neg (by omega), if_neg (by omega), h i hi, if_neg (by omega)]
    · have e2 : cond (q n) (b n) 0 = zxs (fun i => if i = o then cond (p o) (b n) 0 else 0) n := by
        rw [zxs_1, if_pos (by omega), hq n, if_neg (by omega), if_pos rfl]
      rw [e2, ← zxs_x]
      refine zxs_c n (fun i hi => ?_)
      show cond (q i) (b i) 0 ^^^ (if i = o then cond (p o) (b n) 0 else 0) = cond (p i) (b' i) 0
      by_cases g2 : i = o
      · rw [if_pos g2, hq i, if_pos g2, h i hi, if_pos g2, g2]
        exact Nat.zero_xor _
      · rw [if_neg g2, hq i, if_neg g2, if_neg (by omega), h i hi, if_neg g2, Nat.xor_zero]
  have h1 := hI q (e.trans hp)
  intro i hi
  by_cases g : i = o
  · have h2 := h1 n (by omega)
    rw [hq n, if_neg (by omega), if_pos rfl] at h2
    rw [g]
    exact h2
  · have h2 := h1 i (by omega)
    rw [hq i, if_neg g, if_neg (by omega)] at h2
    exact h2
theorem zsp_w {u v : Nat} (hu : u < m) (hv : v < m) (h : ∀ i, i < m → b' i = if i = u then b v else if i = v then b u else b i) : zsp b' m x ↔ zsp b m x := by
  constructor
  · refine zsp_i (fun i hi => ?_)
    rw [h i hi]
    by_cases g : i = u
    · rw [if_pos g]
      exact zsp_m hv
    · rw [if_neg g]
      by_cases g2 : i = v
      · rw [if_pos g2]
        exact zsp_m hu
      · rw [if_neg g2]
        exact zsp_m hi
  · refine zsp_i (fun i hi => ?_)
    by_cases g : i = u
    · have e := h v hv
      by_cases g2 : v = u
      · rw [if_pos g2, g2] at e
        rw [g, ← e]
        exact zsp_m hu
      · rw [if_neg g2, if_pos rfl] at e
        rw [g, ← e]
        exact zsp_m hv
    · by_cases g2 : i = v
      · have e := h u hu
        rw [if_pos rfl] at e
        rw [g2, ← e]
        exact zsp_m hu
      · have e := h i hi
        rw [if_neg g, if_neg g2] at e
        rw [← e]
        exact zsp_m hi
theorem zxs_w {g : Nat → Nat} {u v : Nat} (hu : u < m) (hv : v < m) : zxs (fun i => g (if i = u then v else if i = v then u else i)) m = zxs g m := by
  have e : ∀ i, i < m → g (if i = u then v else if i = v then u else i) = g i ^^^ ((if i = u then g u ^^^ g v else 0) ^^^ (if i = v then g u ^^^ g v else 0)) := by
    intro i _
    by_cases g1 : i = u
    · rw [if_pos g1, if_pos g1]
      by_cases g2 : i = v
      · rw [if_pos g2, Nat.xor_self, Nat.xor_zero, g2]
      · rw [if_neg g2, Nat.xor_zero, g1, ← Nat.xor_assoc, Nat.xor_self, Nat.zero_xor]
    · rw [if_neg g1, if_neg g1, Nat.zero_xor]
      by_cases g2 : i = v
      · rw [if_pos g2, if_pos g2, g2, Nat.xor_comm (g u) (g v), ← Nat.xor_assoc, Nat.xor_self, Nat.zero_xor]
      · rw [if_neg g2, if_neg g2, Nat.xor_zero]
  rw [zxs_c m e, zxs_x, zxs_x, zxs_1, zxs_1, if_pos hu, if_pos hv, Nat.xor_self, Nat.xor_zero]
theorem zind_w {u v : Nat} (hu : u < m) (hv : v < m) (h : ∀ i, i < m → b' i = if i = u then b v else if i = v then b u else b i) (hI : zind b m) : zind b' m := by
  intro p hp
  have e : zxs (zpk (fun i => p (if i = u then v else if i = v then u else i)) b) m = zxs (zpk p b') m := by
    rw [← zxs_w (g := zpk p b') hu hv]
    refine zxs_c m (fun i hi => ?_)
    show cond (p (if i = u then v else if i = v then u else i)) (b i) 0 = cond (p (if i = u then v else if i = v then u else i)) (b' (if i = u then v else if i = v then u else i)) 0
    congr 1
    by_cases g1 : i = u
    · rw [if_pos g1, h v hv]
      by_cases g2 : v = u
      · rw [if_pos g2, g1, g2]
      · rw [if_neg g2, if_pos rfl, g1]
    · rw [if_neg g1]
      by_cases g2 : i = v
      · rw [if_pos g2, h u hu, if_pos rfl, g2]
      · rw [if_neg g2, h i hi, if_neg g1, if_neg g2]
  have h1 := hI _ (e.trans hp)
  intro i hi
  by_cases g1 : i = u
  · have h2 := h1 v hv
    by_cases g2 : v = u
    · rw [if_pos g2, g2] at h2
      rw [g1]
      exact h2
    · rw [if_neg g2, if_pos rfl] at h2
      rw [g1]
      exact h2
  · by_cases g2 : i = v
    · have h2 := h1 u hu
      rw [if_pos rfl] at h2
      rw [g2]
      exact h2
    · have h2 := h1 i hi
      rw [if_neg g1, if_neg g2] at h2
      exact h2
theorem zind_z (hI : zind b m) {i : Nat} (hi : i < m) : b i ≠ 0 := by
  intro h0
  have h1 := hI (fun j => decide (j = i)) (by
    have h := zxs_1 (o := i) (v := b i) m
    rw [if_pos hi, h0] at h
    refine (zxs_c m (fun j _ => ?_)).trans h
    show cond (decide (j = i)) (b j) 0 = if j = i then 0 else 0
    by_cases g : j = i
    · rw [if_pos g, decide_eq_true g, g, h0]
      rfl
    · rw [if_neg g, decide_eq_false g]
      rfl) i hi
  rw [decide_eq_true rfl] at h1
  cases h1
def zrr2 (b : Nat → Nat) (m : Nat) (pv : Nat → Nat) : Prop := (∀ i, i < m → (b i).testBit (pv i) = true) ∧ (∀ i j, i < m → j < m → i ≠ j → (b j).testBit (pv i) = false) ∧ (∀ i t, i < m → pv i < t → (b i).testBit t = false) ∧ ∀ i j, i < j → j < m → pv j < pv i
def zkth (b : Nat → Nat) (m k : Nat) : Nat := zxs (zpk (fun i => k.testBit (m - 1 - i)) b) m
theorem zkth_s {k : Nat} : zsp b m (zkth b m k) := ⟨_, rfl⟩
theorem ztop {k k' : Nat} (h : k < k') (hk : k' < 2 ^ m) : ∃ t, t < m ∧ k.testBit t = false ∧ k'.testBit t = true ∧ ∀ j, t < j → k.testBit j = k'.testBit j := by
  have h1 : ∀ d : Nat, (∀ j, m - d ≤ j → k.testBit j = k'.testBit j) ∨ ∃ t, k.testBit t ≠ k'.testBit t ∧ ∀ j, t < j → k.testBit j = k'.testBit j := by
    intro d
    induction d with
    | zero => exact Or.inl (fun j hj => by
        rw [Nat.testBit_lt_two_pow (Nat.lt_of_lt_of_le (Nat.lt_trans h hk) (Nat.pow_le_pow_right (by decide) (by omega))), Nat.testBit_lt_two_pow (Nat.lt_of_lt_of_le hk (Nat.pow_le_pow_right (by decide) (by omega)))])
    | succ d ih =>
      rcases ih with ih | ih
      · by_cases g : k.testBit (m - (d + 1)) = k'.testBit (m - (d + 1))
        · refine Or.inl (fun j hj => ?_)
          by_cases g2 : j = m - (d + 1)
          · rw [g2]
            exact g
          · exact ih j (by omega)
        · exact Or.inr ⟨_, g, fun j hj => ih j (by omega)⟩
      · exact Or.inr ih
  rcases h1 m with h2 | ⟨t, h2, h3⟩
  · have e : k = k' := Nat.eq_of_testBit_eq (fun j => h2 j (by omega))
    omega
  · have ht : t < m := by
      rcases Nat.lt_or_ge t m with g | g
      · exact g
      · exact absurd (by rw [Nat.testBit_lt_two_pow (Nat.lt_of_lt_of_le (Nat.lt_trans h hk) (Nat.pow_le_pow_right (by decide) g)), Nat.testBit_lt_two_pow (Nat.lt_of_lt_of_le hk (Nat.pow_le_pow_right (by decide) g))]) h2
    cases e1 : k.testBit t
    · cases e2 : k'.testBit t
      · rw [e1, e2] at h2
        exact absurd rfl h2
      · exact ⟨t, ht, e1, e2, h3⟩
    · cases e2 : k'.testBit t
      · have := zlt_tb t e2 e1 (fun j hj => (h3 j hj).symm)
        omega
      · rw [e1, e2] at h2
        exact absurd rfl h2
theorem zkth_lt {pv : Nat → Nat} (h : zrr2 b m pv) {k k' : Nat} (hk : k < k') (hk' : k' < 2 ^ m) : zkth b m k < zkth b m k' := by
  obtain ⟨a1, a2, a3, a4⟩ := h
  obtain ⟨t, t1, t2, t3, t4⟩ := ztop hk hk'
  have hb : ∀ (n T : Nat), (zkth b m n).testBit T = zbx (fun i => (zpk (fun i => n.testBit (m - 1 - i)) b i).testBit T) m := fun n T => zxs_t _ T m
  have hp : ∀ n : Nat, (zkth b m n).testBit (pv (m - 1 - t)) = n.testBit t := fun n => by
    rw [hb, zbx_1 (o := m - 1 - t) m (fun i hi g => ?_) (by omega)]
    · show (cond (n.testBit (m - 1 - (m - 1 - t))) (b (m - 1 - t)) 0).testBit (pv (m - 1 - t)) = n.testBit t
      rw [show m - 1 - (m - 1 - t) = t by omega]
      cases n.testBit t
      · exact Nat.zero_testBit _
      · exact a1 _ (by omega)
    · show (cond (n.testBit (m - 1 - i)) (b i) 0).testBit (pv (m - 1 - t)) = false
      cases n.testBit (m - 1 - i)
      · exact Nat.zero_testBit _
      · exact a2 _ _ (by omega) hi (fun e => g e.symm)
  refine zlt_tb (pv (m - 1 - t)) ?_ ?_ (fun T hT => ?_)
  · rw [hp, t2]
  · rw [hp, t3]
  · rw [hb, hb]
    refine zbx_c m (fun i hi => ?_)
    show (cond (k.testBit (m - 1 - i)) (b i) 0).testBit T = (cond (k'.testBit (m - 1 - i)) (b i) 0).testBit T
    by_cases g : i < m - 1 - t
    · rw [t4 (m - 1 - i) (by omega)]
    · have h5 : (b i).testBit T = false := a3 i T hi (by
        by_cases g2 : i = m - 1 - t
        · rw [g2]
          exact hT
        · have := a4 (m - 1 - t) i (by omega) hi
          omega)
      have h6 : ∀ c : Bool, (cond c (b i) 0).testBit T = false := fun c => by
        cases c
        · exact Nat.zero_testBit _
        · exact h5
      rw [h6, h6]
theorem zkth_x (h : zsp b m x) : ∃ k, k < 2 ^ m ∧ zkth b m k = x := by
  obtain ⟨p, rfl⟩ := h
  refine ⟨zbq (fun t => p (m - 1 - t) = true) m, zbq_lt _ _, zxs_c m (fun i hi => ?_)⟩
  have e : (zbq (fun t => p (m - 1 - t) = true) m).testBit (m - 1 - i) = p i := by
    rw [Bool.eq_iff_iff, zbq_t, show m - 1 - (m - 1 - i) = i by omega]
    exact ⟨fun q => q.2, fun q => ⟨by omega, q⟩⟩
  show cond ((zbq (fun t => p (m - 1 - t) = true) m).testBit (m - 1 - i)) (b i) 0 = cond (p i) (b i) 0
  rw [e]
end ZLI
theorem zrise {u w : Nat → Nat} {A B : Nat} (hu : ∀ i j, i < j → j < A → u i < u j) (hw : ∀ i j, i < j → j < B → w i < w j) (h1 : ∀ i, i < A → ∃ j, j < B ∧ w j = u i) (h2 : ∀ i, i < B → ∃ j, j < A ∧ u j = w i) : A = B ∧ ∀ i, i < A → u i = w i := by
  have key : ∀ n i : Nat, i < n → (i < A ↔ i < B) ∧ (i < A → u i = w i) := by
    intro n
    induction n with
    | zero => exact fun i hi => absurd hi (Nat.not_lt_zero _)
    | succ n ih =>
      intro i hi
      have ge1 : ∀ j, j < B → i < A → w j = u i → i ≤ j := fun j hj hA e => by
        rcases Nat.lt_or_ge j i with g | g
        · have a1 := ih j (by omega)
          have a2 := a1.2 (a1.1.mpr hj)
          have a3 := hu j i g hA
          omega
        · exact g
      have ge2 : ∀ j, j < A → i < B → u j = w i → i ≤ j := fun j hj hB e => by
        rcases Nat.lt_or_ge j i with g | g
        · have a1 := ih j (by omega)
          have a2 := a1.2 hj
          have a3 := hw j i g hB
          omega
        · exact g
      have hAB : i < A → i < B := fun hA => by
        obtain ⟨j, hj, e⟩ := h1 i hA
        have := ge1 j hj hA e
        omega
      have hBA : i < B → i < A := fun hB => by
        obtain ⟨j, hj, e⟩ := h2 i hB
        have := ge2 j hj hB e
        omega
      refine ⟨⟨hAB, hBA⟩, fun hA => ?_⟩
      have hB := hAB hA
      obtain ⟨j, hj, e⟩ := h1 i hA
      have g1 := ge1 j hj hA e
      obtain ⟨j', hj', e'⟩ := h2 i hB
      have g2 := ge2 j' hj' hB e'
      have m1 : w i ≤ w j := by
        by_cases g : i = j
        · rw [g]
          exact Nat.le_refl _
        · exact Nat.le_of_lt (hw i j (by omega) hj)
      have m2 : u i ≤ u j' := by
        by_cases g : i = j'
        · rw [g]
          exact Nat.le_refl _
        · exact Nat.le_of_lt (hu i j' (by omega) hj')
      omega
  refine ⟨?_, fun i hi => (key (i + 1) i (Nat.lt_succ_self _)).2 hi⟩
  have a1 := (key (A + B + 1) A (by omega)).1
  have a2 := (key (A + B + 1) B (by omega)).1
  omega
