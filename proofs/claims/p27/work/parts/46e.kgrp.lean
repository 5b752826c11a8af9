def gTb (mv : List Nat) (c : Nat → Nat) (T : zGT) : Prop := T ∈ gTabs ∧ (∀ x, gGen mv x ↔ ∃ i, i < gN T ∧ c i = x) ∧ (∀ i j, i < j → j < gN T → c i < c j) ∧ (∀ a b, a < gN T → b < gN T → gm T a b < gN T ∧ c (gm T a b) = gco (c a) (c b)) ∧ ∀ a, a < gN T → gi T a < gN T ∧ gm T a (gi T a) = 0
def zTm (mv : List Nat) (T : zGT) : Prop := ∃ c, gTb mv c T
theorem gTb_i {mv : List Nat} {c : Nat → Nat} {n : Nat} (hp : ∀ g ∈ mv, gpm g) (hF : gFin mv) (hs : ∀ x, gGen mv x ↔ ∃ i, i < n ∧ c i = x) (hc : ∀ i j, i < j → j < n → c i < c j) : ∃ T, gTb mv c T ∧ gN T = n := by
  obtain ⟨e, he, hex⟩ := gcls gGL_w mv hp hF
  obtain ⟨d1, d2, d3, d4, T, hT, t1, t2, t3⟩ := gGL_d e he
  have hset : ∀ y, (∃ i, i < n ∧ c i = y) ↔ (∃ i, i < en e ∧ kL (eL e) i = y) := by
    intro y
    have h1 := hs y
    have h2 := hex y
    constructor
    · intro h
      exact h2.mp (h1.mpr h)
    · intro hy
      exact h1.mp (h2.mpr hy)
  have u1 := gsort_u (a := c) (b := fun i => kL (eL e) i) hc d3 hset
  have u2 := gsort_u (a := fun i => kL (eL e) i) (b := c) d3 hc (fun y => (hset y).symm)
  have hl : n = en e := by
    refine Nat.le_antisymm ?_ ?_
    · rcases Nat.lt_or_ge (en e) n with g | g
      · have := (u1 _ g).1; omega
      · exact g
    · rcases Nat.lt_or_ge n (en e) with g | g
      · have := (u2 _ g).1; omega
      · exact g
  have hn : gN T = n := by omega
  refine ⟨T, ⟨hT, fun x => by rw [hn]; exact hs x, fun i j h1 h2 => hc i j h1 (by omega), fun a b h1 h2 => ?_, fun a h1 => ?_⟩, hn⟩
  · obtain ⟨v1, v2⟩ := t2 a b (by omega) (by omega)
    refine ⟨by omega, ?_⟩
    rw [(u1 _ (by omega : gm T a b < n)).2, (u1 a (by omega)).2, (u1 b (by omega)).2]
    exact v2
  · obtain ⟨v1, v2⟩ := t3 a (by omega)
    exact ⟨by omega, v2⟩
def gdj : List zGT → Bool
  | [] => true
  | T :: l => l.all (fun U => !(Nat.beq T.1 U.1 && Nat.beq T.2.1 U.2.1)) && gdj l
def gnz (T : zGT) : Bool := Nat.ble (gN T) 24 && Nat.blt T.2.1 (2 ^ (120 * gN T)) && (List.range (gN T)).all (fun a => Nat.beq ((T.2.1 >>> (5 * (24 * a + gN T))) % 2 ^ (5 * (24 - gN T))) 0)
theorem gTabs_dj : gdj gTabs = true := by decide +kernel
theorem gTabs_nz : gTabs.all gnz = true := by decide +kernel
theorem gdj_u : ∀ (l : List zGT), gdj l = true → ∀ T ∈ l, ∀ U ∈ l, T.1 = U.1 → T.2.1 = U.2.1 → T = U
  | [], _, T, hT, _, _, _, _ => absurd hT List.not_mem_nil
  | X :: l, h, T, hT, U, hU, e1, e2 => by
    have h' : (l.all (fun U => !(Nat.beq X.1 U.1 && Nat.beq X.2.1 U.2.1)) && gdj l) = true := h
    rw [Bool.and_eq_true, List.all_eq_true] at h'
    obtain ⟨h1, h2⟩ := h'
    have hX : ∀ Y ∈ l, X.1 = Y.1 → X.2.1 = Y.2.1 → False := fun Y hY f1 f2 => by
      have := h1 Y hY
      rw [f1, f2, Nat.beq_refl, Nat.beq_refl] at this
      exact absurd this (by decide)
    rcases List.mem_cons.mp hT with q1 | q1
    · rcases List.mem_cons.mp hU with q2 | q2
      · rw [q1, q2]
      · rw [q1] at e1 e2
        exact (hX U q2 e1 e2).elim
    · rcases List.mem_cons.mp hU with q2 | q2
      · rw [q2] at e1 e2
        exact (hX T q1 e1.symm e2.symm).elim
      · exact gdj_u l h2 T q1 U q2 e1 e2
theorem gdig {x y : Nat} : ∀ k : Nat, (∀ i, i < k → (x >>> (5 * i)) % 32 = (y >>> (5 * i)) % 32) → x % 2 ^ (5 * k) = y % 2 ^ (5 * k)
  | 0, _ => by rw [Nat.mul_zero, Nat.pow_zero, Nat.mod_one, Nat.mod_one]
  | k + 1, h => by
    have ih := gdig k (fun i hi => h i (by omega))
    have hk := h k (by omega)
    rw [Nat.shiftRight_eq_div_pow, Nat.shiftRight_eq_div_pow] at hk
    have e : 2 ^ (5 * (k + 1)) = 2 ^ (5 * k) * 32 := by
      rw [show 5 * (k + 1) = 5 * k + 5 by omega, Nat.pow_add]
    rw [e, Nat.mod_mul, Nat.mod_mul, ih, hk]
theorem gT_uq {T U : zGT} (hT : T ∈ gTabs) (hU : U ∈ gTabs) (hn : gN T = gN U) (hm : ∀ a b, a < gN T → b < gN T → gm T a b = gm U a b) : T = U := by
  have key : ∀ V ∈ gTabs, gN V ≤ 24 ∧ V.2.1 < 2 ^ (5 * (24 * gN V)) ∧ ∀ a, a < gN V → ∀ b, gN V ≤ b → b < 24 → (V.2.1 >>> (5 * (24 * a + b))) % 32 = 0 := by
    intro V hV
    have h := List.all_eq_true.mp gTabs_nz V hV
    unfold gnz at h
    rw [Bool.and_eq_true, Bool.and_eq_true, List.all_eq_true] at h
    obtain ⟨⟨h1, h2⟩, h3⟩ := h
    have h24 : gN V ≤ 24 := Nat.le_of_ble_eq_true h1
    have hlt : V.2.1 < 2 ^ (120 * gN V) := by
      have h4 : Nat.ble (V.2.1 + 1) (2 ^ (120 * gN V)) = true := h2
      exact Nat.le_of_ble_eq_true h4
    refine ⟨h24, by rw [show 5 * (24 * gN V) = 120 * gN V by omega]; exact hlt, fun a ha b hb1 hb2 => ?_⟩
    have h5 := Nat.eq_of_beq_eq_true (h3 a (List.mem_range.mpr ha))
    have e1 : V.2.1 >>> (5 * (24 * a + b)) = (V.2.1 >>> (5 * (24 * a + gN V))) >>> (5 * (b - gN V)) := by
      rw [← Nat.shiftRight_add]
      congr 1
      omega
    rw [e1]
    generalize V.2.1 >>> (5 * (24 * a + gN V)) = z at h5
    have e2 : 2 ^ (5 * (24 - gN V)) = 2 ^ (5 * (b - gN V)) * (32 * 2 ^ (5 * (23 - b))) := by
      rw [show (32 : Nat) = 2 ^ 5 from rfl, ← Nat.pow_add, ← Nat.pow_add]
      congr 1
      omega
    rw [e2] at h5
    rw [Nat.shiftRight_eq_div_pow]
    have h6 := Nat.mod_mul (a := 2 ^ (5 * (b - gN V))) (b := 32 * 2 ^ (5 * (23 - b))) (x := z)
    rw [h5] at h6
    have h7 : z / 2 ^ (5 * (b - gN V)) % (32 * 2 ^ (5 * (23 - b))) = 0 := by
      have hp : 0 < 2 ^ (5 * (b - gN V)) := Nat.two_pow_pos _
      rcases Nat.eq_zero_or_pos (z / 2 ^ (5 * (b - gN V)) % (32 * 2 ^ (5 * (23 - b)))) with g | g
      · exact g
      · have := Nat.mul_pos hp g
        omega
    have h8 := Nat.mod_mul (a := 32) (b := 2 ^ (5 * (23 - b))) (x := z / 2 ^ (5 * (b - gN V)))
    rw [h7] at h8
    omega
  obtain ⟨a1, a2, a3⟩ := key T hT
  obtain ⟨b1, b2, b3⟩ := key U hU
  refine gdj_u gTabs gTabs_dj T hT U hU hn ?_
  have hd := gdig (x := T.2.1) (y := U.2.1) (24 * gN T) (fun i hi => by
    have e : i = 24 * (i / 24) + i % 24 := by omega
    have hb : i % 24 < 24 := Nat.mod_lt _ (by decide)
    have ha : i / 24 < gN T := by omega
    by_cases g : i % 24 < gN T
    · have := hm (i / 24) (i % 24) ha g
      unfold gm at this
      rw [← e] at this
      exact this
    · have h1 := a3 (i / 24) ha (i % 24) (by omega) hb
      have h2 := b3 (i / 24) (by omega) (i % 24) (by omega) hb
      rw [← e] at h1 h2
      rw [h1, h2])
  rw [Nat.mod_eq_of_lt a2, hn, Nat.mod_eq_of_lt b2] at hd
  exact hd
theorem zTm_uq {mv : List Nat} {T U : zGT} (hT : zTm mv T) (hU : zTm mv U) : T = U := by
  obtain ⟨c, a1, a2, a3, a4, a5⟩ := hT
  obtain ⟨e, b1, b2, b3, b4, b5⟩ := hU
  have hset : ∀ y, (∃ i, i < gN T ∧ c i = y) ↔ (∃ i, i < gN U ∧ e i = y) := fun y => (a2 y).symm.trans (b2 y)
  have u1 := gsort_u (a := c) (b := e) a3 b3 hset
  have u2 := gsort_u (a := e) (b := c) b3 a3 (fun y => (hset y).symm)
  have hn : gN T = gN U := by
    refine Nat.le_antisymm ?_ ?_
    · rcases Nat.lt_or_ge (gN U) (gN T) with g | g
      · have := (u1 _ g).1; omega
      · exact g
    · rcases Nat.lt_or_ge (gN T) (gN U) with g | g
      · have := (u2 _ g).1; omega
      · exact g
  refine gT_uq a1 b1 hn (fun a b ha hb => ?_)
  obtain ⟨p1, p2⟩ := a4 a b ha hb
  obtain ⟨q1, q2⟩ := b4 a b (by omega) (by omega)
  rw [(u1 a ha).2, (u1 b hb).2, ← q2, (u1 _ p1).2] at p2
  rcases Nat.lt_trichotomy (gm T a b) (gm U a b) with g | g | g
  · have := b3 _ _ g q1
    omega
  · exact g
  · have := b3 _ _ g (by omega)
    omega
def zst (f : Nat → Int) (t : Nat) (c : Int) : Nat → Int := fun j => if j = t then c else f j
def ziA (f0 g : Nat → Int) (n : Nat) : Prop := ∀ y, (∃ j, j < n ∧ g j = y) ↔ ∃ j, j < n ∧ f0 j = y
def ziB (κ : Int → Int) (g : Nat → Int) (n : Nat) : Prop := ∀ a b, a < n → b < n → a ≠ b → κ (g a) ≠ κ (g b)
def ziS (κ : Int → Int) (f : Nat → Int) (i : Nat) : Prop := ∀ a b, a < b → b < i → κ (f a) < κ (f b)
def zSoK (κ : Int → Int) (f0 f : Nat → Int) (n i : Nat) : Prop := ziA f0 f n ∧ ziB κ f n ∧ ziS κ f i
def zSj (κ : Int → Int) (f0 f : Nat → Int) (n i t : Nat) (c : Int) : Prop := (t ≤ i ∧ i < n) ∧ ziA f0 (zst f t c) n ∧ ziB κ (zst f t c) n ∧ (∀ a b, a < b → b ≤ i → a ≠ t → b ≠ t → κ (f a) < κ (f b)) ∧ ∀ b, t < b → b ≤ i → κ c < κ (f b)
section ZSO
variable {κ : Int → Int} {f0 f f' : Nat → Int} {n i t : Nat} {c : Int}
theorem zst_t : zst f t c t = c := if_pos rfl
theorem zst_o {j : Nat} (h : j ≠ t) : zst f t c j = f j := if_neg h
theorem zSo_0 (hB : ziB κ f n) : zSoK κ f f n 1 := ⟨fun _ => Iff.rfl, hB, fun a b h1 h2 => absurd h2 (by omega)⟩
theorem zSj_0 (h : zSoK κ f0 f n i) (hi : i < n) : zSj κ f0 f n i i (f i) := by
  have e : zst f i (f i) = f := funext fun j => by
    unfold zst
    split
    · rename_i g; rw [g]
    · rfl
  refine ⟨⟨Nat.le_refl _, hi⟩, by rw [e]; exact h.1, by rw [e]; exact h.2.1, fun a b h1 h2 _ h4 => h.2.2 a b h1 (by omega), fun b h1 h2 => absurd h1 (by omega)⟩
theorem zSj_s (h : zSj κ f0 f n i t c) (t1 : 1 ≤ t) (hc : κ c < κ (f (t - 1))) (hf : ∀ j, f' j = zst f t (f (t - 1)) j) : zSj κ f0 f' n i (t - 1) c := by
  obtain ⟨⟨a1, a2⟩, a3, a4, a5, a6⟩ := h
  have g1 : ∀ j, zst f' (t - 1) c j = zst f t c (if j = t - 1 then t else if j = t then t - 1 else j) := by
    intro j
    by_cases e1 : j = t - 1
    · rw [if_pos e1, e1, zst_t, zst_t]
    · rw [if_neg e1, zst_o e1, hf j]
      by_cases e2 : j = t
      · rw [if_pos e2, e2, zst_t, zst_o (by omega)]
      · rw [if_neg e2, zst_o e2, zst_o e2]
  refine ⟨⟨by omega, a2⟩, fun y => ?_, fun a b ha hb hab => ?_, fun a b h1 h2 h3 h4 => ?_, fun b h1 h2 => ?_⟩
  · rw [← a3 y]
    constructor
    · rintro ⟨j, hj, e⟩
      rw [g1] at e
      refine ⟨_, ?_, e⟩
      split
      · omega
      · split <;> omega
    · rintro ⟨j, hj, e⟩
      refine ⟨if j = t - 1 then t else if j = t then t - 1 else j, ?_, ?_⟩
      · split
        · omega
        · split <;> omega
      · rw [g1]
        by_cases e1 : j = t - 1
        · rw [if_pos e1, if_neg (by omega), if_pos rfl, ← e1]
          exact e
        · rw [if_neg e1]
          by_cases e2 : j = t
          · rw [if_pos e2, if_pos rfl]
            rw [e2] at e
            exact e
          · rw [if_neg e2, if_neg e1, if_neg e2]
            exact e
  · rw [g1, g1]
    refine a4 _ _ ?_ ?_ ?_
    · split
      · omega
      · split <;> omega
    · split
      · omega
      · split <;> omega
    · intro e
      split at e
      · split at e
        · omega
        · split at e <;> omega
      · split at e
        · split at e
          · omega
          · split at e <;> omega
        · split at e
          · omega
          · split at e <;> omega
  · rw [hf a, hf b]
    by_cases e1 : b = t
    · rw [e1, zst_t, zst_o (by omega)]
      exact a5 a (t - 1) (by omega) (by omega) (by omega) (by omega)
    · rw [zst_o e1]
      by_cases e2 : a = t
      · rw [e2, zst_t]
        exact a5 (t - 1) b (by omega) h2 (by omega) e1
      · rw [zst_o e2]
        exact a5 a b h1 h2 e2 e1
  · rw [hf b]
    by_cases e1 : b = t
    · rw [e1, zst_t]
      exact hc
    · rw [zst_o e1]
      exact a6 b (by omega) h2
theorem zSj_e (h : zSj κ f0 f n i t c) (hc : t = 0 ∨ ¬ κ c < κ (f (t - 1))) (hf : ∀ j, f' j = zst f t c j) : zSoK κ f0 f' n (i + 1) := by
  obtain ⟨⟨a1, a2⟩, a3, a4, a5, a6⟩ := h
  have e : f' = zst f t c := funext hf
  rw [e]
  refine ⟨a3, a4, fun a b h1 h2 => ?_⟩
  by_cases e1 : a = t
  · rw [e1, zst_t, zst_o (by omega)]
    exact a6 b (by omega) (by omega)
  · rw [zst_o e1]
    by_cases e2 : b = t
    · rw [e2, zst_t]
      have h3 : t ≠ 0 := by omega
      have h4 : ¬ κ c < κ (f (t - 1)) := hc.resolve_left h3
      have h5 := a4 (t - 1) t (by omega) (by omega) (by omega)
      rw [zst_t, zst_o (by omega)] at h5
      by_cases e3 : a = t - 1
      · rw [e3]
        omega
      · have := a5 a (t - 1) (by omega) (by omega) (by omega) (by omega)
        omega
    · rw [zst_o e2]
      exact a5 a b h1 (by omega) e1 e2
end ZSO
