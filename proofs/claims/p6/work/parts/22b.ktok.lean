def zpB (c : Int) : Bool := decide (c = 32 ∨ c = 10)
def zpL (c : Int) : Bool := decide (97 ≤ c ∧ c ≤ 122)
def zpD (c : Int) : Bool := decide (48 ≤ c ∧ c ≤ 57)
def zpS (c : Int) : Bool := decide (c = 61 ∨ c = 43 ∨ c = 45 ∨ c = 42 ∨ c = 94 ∨ c = 40 ∨ c = 41 ∨ c = 59)
theorem zpB_t {c : Int} : zpB c = true ↔ (c = 32 ∨ c = 10) := decide_eq_true_iff
theorem zpL_t {c : Int} : zpL c = true ↔ (97 ≤ c ∧ c ≤ 122) := decide_eq_true_iff
theorem zpD_t {c : Int} : zpD c = true ↔ (48 ≤ c ∧ c ≤ 57) := decide_eq_true_iff
theorem zpS_t {c : Int} : zpS c = true ↔ (c = 61 ∨ c = 43 ∨ c = 45 ∨ c = 42 ∨ c = 94 ∨ c = 40 ∨ c = 41 ∨ c = 59) := decide_eq_true_iff
def zrn (P : Int → Bool) (b : Nat → Int) (n : Nat) : Nat → Nat → Nat
  | 0, p => p
  | f + 1, p => if p < n ∧ P (b p) = true then zrn P b n f (p + 1) else p
def zru (P : Int → Bool) (b : Nat → Int) (n p : Nat) : Nat := zrn P b n (n - p) p
theorem zru_t {P : Int → Bool} {b : Nat → Int} {n p : Nat} (h : p < n) (hb : P (b p) = true) : zru P b n p = zru P b n (p + 1) := by
  unfold zru
  obtain ⟨f, hf⟩ : ∃ f, n - p = f + 1 := ⟨n - p - 1, by (exact zo_1075 h)⟩
  rw [hf, show n - (p + 1) = f by (exact zo_1076 h hf)]
  show (if p < n ∧ P (b p) = true then zrn P b n f (p + 1) else p) = _
  rw [if_pos ⟨h, hb⟩]
theorem zru_f {P : Int → Bool} {b : Nat → Int} {n p : Nat} (h : ¬ (p < n ∧ P (b p) = true)) : zru P b n p = p := by
  unfold zru
  cases hf : n - p with
  | zero => rfl
  | succ f =>
    show (if p < n ∧ P (b p) = true then zrn P b n f (p + 1) else p) = _
    rw [if_neg h]
theorem zrn_ge {P : Int → Bool} {b : Nat → Int} {n : Nat} : ∀ (f p : Nat), p ≤ zrn P b n f p
  | 0, p => Nat.le_refl _
  | f + 1, p => by
    show p ≤ (if p < n ∧ P (b p) = true then zrn P b n f (p + 1) else p)
    split
    · have := zrn_ge (P := P) (b := b) (n := n) f (p + 1)
      (exact zo_1077 this)
    · exact Nat.le_refl _
theorem zrn_le {P : Int → Bool} {b : Nat → Int} {n : Nat} : ∀ (f p : Nat), p ≤ n → zrn P b n f p ≤ n
  | 0, p, h => h
  | f + 1, p, h => by
    show (if p < n ∧ P (b p) = true then zrn P b n f (p + 1) else p) ≤ n
    split
    · exact zrn_le f (p + 1) (by omega)
    · exact h
theorem zru_ge {P : Int → Bool} {b : Nat → Int} {n p : Nat} : p ≤ zru P b n p := zrn_ge _ _
theorem zru_le {P : Int → Bool} {b : Nat → Int} {n p : Nat} (h : p ≤ n) : zru P b n p ≤ n := zrn_le _ _ h
theorem zru_gt {P : Int → Bool} {b : Nat → Int} {n p : Nat} (h : p < n) (hb : P (b p) = true) : p < zru P b n p := by
  rw [zru_t h hb]
  have := zru_ge (P := P) (b := b) (n := n) (p := p + 1)
  (exact zo_1078 this)
theorem zru_in {P : Int → Bool} {b : Nat → Int} {n : Nat} : ∀ (m p k : Nat), k - p ≤ m → p ≤ k → k < zru P b n p → P (b k) = true ∧ k < n := by
  intro m
  induction m with
  | zero =>
    intro p k h0 h1 h2
    have e : k = p := by (exact zo_1079 h0 h1)
    subst e
    by_cases h : k < n ∧ P (b k) = true
    · exact ⟨h.2, h.1⟩
    · rw [zru_f h] at h2
      omega
  | succ m ih =>
    intro p k h0 h1 h2
    by_cases h : p < n ∧ P (b p) = true
    · by_cases e : k = p
      · subst e
        exact ⟨h.2, h.1⟩
      · rw [zru_t h.1 h.2] at h2
        exact ih (p + 1) k (by omega) (by (exact zo_1080 h1 e)) h2
    · rw [zru_f h] at h2
      omega
def zkd (b : Nat → Int) (n s : Nat) : Int := if n ≤ s then 0 else if zpL (b s) = true then (if zru zpL b n s ≤ s + 6 then 1 else 4) else if zpD (b s) = true then (if zru zpD b n s ≤ s + 3 ∧ ¬ (zru zpD b n s < n ∧ zpL (b (zru zpD b n s)) = true) then 2 else 4) else if zpS (b s) = true then 3 else 4
def zen (b : Nat → Int) (n s : Nat) : Nat := if n ≤ s then s else if zpL (b s) = true then zru zpL b n s else if zpD (b s) = true then zru zpD b n s else s + 1
def znx (b : Nat → Int) (n s : Nat) : Nat := zru zpB b n (zen b n s)
def zvl (b : Nat → Int) (s : Nat) : Nat → Int
  | 0 => 0
  | k + 1 => 10 * zvl b s k + (b (s + k) - 48)
def zw2 (b : Nat → Int) (s : Nat) : Nat → Int
  | 0 => 0
  | k + 1 => 27 * zw2 b s k + (b (s + k) - 96)
def zw8 (b : Nat → Int) (s : Nat) : Nat → Int
  | 0 => 0
  | k + 1 => 256 * zw8 b s k + b (s + k)
theorem zen_le {b : Nat → Int} {n s : Nat} (h : s ≤ n) : zen b n s ≤ n := by
  unfold zen
  split
  · exact h
  · split
    · exact zru_le h
    · split
      · exact zru_le h
      · omega
theorem zen_ge {b : Nat → Int} {n s : Nat} : s ≤ zen b n s := by
  unfold zen
  split
  · exact Nat.le_refl _
  · split
    · exact zru_ge
    · split
      · exact zru_ge
      · (exact zo_1081)
theorem zen_gt {b : Nat → Int} {n s : Nat} (h : s < n) : s < zen b n s := by
  unfold zen
  rw [if_neg (by (exact zo_1082 h))]
  split
  · rename_i h2
    exact zru_gt h h2
  · split
    · rename_i h2
      exact zru_gt h h2
    · (exact zo_1083)
theorem znx_gt {b : Nat → Int} {n s : Nat} (h : s < n) : s < znx b n s := Nat.lt_of_lt_of_le (zen_gt h) zru_ge
theorem zru_step {P : Int → Bool} {b : Nat → Int} {n x : Nat} {u v : Int} (h0 : 0 ≤ u) (h1 : u < n) (hv : v = b u.toNat) (hp : P v = true) (hi : zru P b n u.toNat = x) : zru P b n (u + 1).toNat = x := by
  rw [← hi, show (u + 1).toNat = u.toNat + 1 by (exact zo_1084 h0)]
  exact (zru_t (by (exact zo_1085 h0 h1)) (by rw [← hv]; exact hp)).symm
theorem zru_stop {P : Int → Bool} {b : Nat → Int} {n x : Nat} {u v : Int} (h0 : 0 ≤ u) (hx : (n : Int) ≤ u ∨ (v = b u.toNat ∧ P v = false)) (hi : zru P b n u.toNat = x) : u = (x : Int) := by
  rw [← hi, zru_f]
  · (exact zo_989 h0)
  · rintro ⟨h1, h2⟩
    rcases hx with h | ⟨h, h'⟩
    · (exact zo_1086 h h1)
    · rw [h, h2] at h'
      cases h'
def zBy (b : Nat → Int) (n : Nat) : Prop := ∀ k, k < n → 0 ≤ b k ∧ b k ≤ 255
theorem zvl_b {b : Nat → Int} {n s : Nat} (hb : zBy b n) : ∀ k : Nat, s + k ≤ n → -23 * ((10 : Int) ^ k - 1) ≤ zvl b s k ∧ zvl b s k ≤ 23 * ((10 : Int) ^ k - 1)
  | 0, _ => by
    show -23 * ((10 : Int) ^ 0 - 1) ≤ 0 ∧ (0 : Int) ≤ 23 * ((10 : Int) ^ 0 - 1)
    rw [Int.pow_zero]
    (decide)
  | k + 1, h => by
    have ih := zvl_b (s := s) hb k (by (exact zo_1087 h))
    have hk := hb (s + k) (by (exact zo_1088 h))
    show -23 * ((10 : Int) ^ (k + 1) - 1) ≤ 10 * zvl b s k + (b (s + k) - 48) ∧ 10 * zvl b s k + (b (s + k) - 48) ≤ 23 * ((10 : Int) ^ (k + 1) - 1)
    rw [Int.pow_succ]
    generalize (10 : Int) ^ k = p at ih ⊢
    (exact zo_1089 hk.1 hk.2 ih.1 ih.2)
theorem zvl_b7 {b : Nat → Int} {n s k : Nat} (hb : zBy b n) (h : s + k ≤ n) (hk : k ≤ 6) : -23000000 ≤ zvl b s k ∧ zvl b s k ≤ 23000000 := by
  have h1 := zvl_b hb k h
  have h2 : (10 : Int) ^ k ≤ 1000000 ∧ 1 ≤ (10 : Int) ^ k := by
    obtain rfl | rfl | rfl | rfl | rfl | rfl | rfl : k = 0 ∨ k = 1 ∨ k = 2 ∨ k = 3 ∨ k = 4 ∨ k = 5 ∨ k = 6 := by omega
    all_goals decide
  omega
theorem zvl_step {b : Nat → Int} {n : Nat} {s i x v w : Int} (hb : zBy b n) (h0 : 0 ≤ s) (h1 : s ≤ i) (h2 : i < n) (hi : i - s ≤ 6 → x = zvl b s.toNat (i - s).toNat) (hw : w = b i.toNat) (hv : zn32 (x * 10 + w - 48) → v = x * 10 + w - 48) : i + 1 - s ≤ 6 → v = zvl b s.toNat (i + 1 - s).toNat := by
  intro h6
  have hx := hi (by (exact zo_1090 h6))
  have hr := zvl_b7 (s := s.toNat) (k := (i - s).toNat) hb (by (exact zo_1091 h0 h1 h2)) (by (exact zo_1092 h1 h6))
  have hk := hb i.toNat (by (exact zo_1093 h0 h1 h2))
  rw [← hx] at hr
  rw [hv ⟨by omega, by omega⟩, show (i + 1 - s).toNat = (i - s).toNat + 1 by (exact zo_1094 h1)]
  show _ = 10 * zvl b s.toNat (i - s).toNat + (b (s.toNat + (i - s).toNat) - 48)
  rw [← hx, show s.toNat + (i - s).toNat = i.toNat by (exact zo_1095 h0 h1), ← hw]
  (exact zo_1096)
theorem zw2_b {b : Nat → Int} {n s : Nat} : ∀ k : Nat, (∀ i, s ≤ i → i < s + k → zpL (b i) = true) → 0 ≤ zw2 b s k ∧ zw2 b s k < (27 : Int) ^ k
  | 0, _ => by
    show (0 : Int) ≤ 0 ∧ (0 : Int) < (27 : Int) ^ 0
    rw [Int.pow_zero]
    (decide)
  | k + 1, h => by
    have ih := zw2_b (n := n) k (fun i h1 h2 => h i h1 (by (exact zo_1097 h2)))
    have hk := zpL_t.mp (h (s + k) (by (exact zo_1098)) (by (exact zo_1099)))
    show 0 ≤ 27 * zw2 b s k + (b (s + k) - 96) ∧ 27 * zw2 b s k + (b (s + k) - 96) < (27 : Int) ^ (k + 1)
    rw [Int.pow_succ]
    generalize (27 : Int) ^ k = p at ih ⊢
    omega
theorem zw2_step {b : Nat → Int} {n : Nat} {s i x v w : Int} (h0 : 0 ≤ s) (h1 : s ≤ i) (h2 : i < n) (hl : ∀ j : Nat, s.toNat ≤ j → j < i.toNat → zpL (b j) = true) (hi : i - s ≤ 6 → x = zw2 b s.toNat (i - s).toNat) (hw : w = b i.toNat) (hp : zpL w = true) (hv : zn32 (x * 27 + w - 97 + 1) → v = x * 27 + w - 97 + 1) : i + 1 - s ≤ 6 → v = zw2 b s.toNat (i + 1 - s).toNat := by
  intro h6
  have hx := hi (by (exact zo_1090 h6))
  have hr := zw2_b (b := b) (n := n) (s := s.toNat) (i - s).toNat (fun j a1 a2 => hl j a1 (by (exact zo_1100 a2 h0 h1)))
  have hk := zpL_t.mp hp
  have h27 : (27 : Int) ^ (i - s).toNat ≤ 14348907 := by
    obtain h | h | h | h | h | h : (i - s).toNat = 0 ∨ (i - s).toNat = 1 ∨ (i - s).toNat = 2 ∨ (i - s).toNat = 3 ∨ (i - s).toNat = 4 ∨ (i - s).toNat = 5 := by omega
    all_goals (rw [h]; decide)
  rw [← hx] at hr
  rw [hv ⟨by (exact zo_1101 hk.1 hr.1), by omega⟩, show (i + 1 - s).toNat = (i - s).toNat + 1 by (exact zo_1094 h1)]
  show _ = 27 * zw2 b s.toNat (i - s).toNat + (b (s.toNat + (i - s).toNat) - 96)
  rw [← hx, show s.toNat + (i - s).toNat = i.toNat by (exact zo_1095 h0 h1), ← hw]
  (exact zo_1102)
def zYb (b : Nat → Int) (n : Nat) (M : zMem) : Prop := ze M 1 1 = n ∧ n ≤ 700 ∧ zBy b n ∧ ∀ k, k < n → ze M 3 k = b k
theorem zYb.fr {b : Nat → Int} {n d : Nat} {FA : List (Nat × Nat)} {CA : List Nat} {FR : List (Nat × Nat)} {CR : List Nat} {M N : zMem} (hW : zKW d M) (hf : zFc d FA CA FR CR M N) (h : zYb b n M) (hd : (1 < 5 ∧ 1 ∉ CA ∧ (1, 1) ∉ FA) ∧ 3 < 5 ∧ 3 ∉ CA ∧ ∀ x ∈ FA, x.1 ≠ 3) : zYb b n N :=
  ⟨by rw [hf.ea hW hd.1]; exact h.1, h.2.1, h.2.2.1, fun k hk => by rw [hf.ra hW hd.2]; exact h.2.2.2 k hk⟩
def zYt (b : Nat → Int) (n : Nat) (M : zMem) : Prop := (0 ≤ ze M 1 2 ∧ ze M 1 2 ≤ n) ∧ ze M 1 3 = (zen b n (ze M 1 2).toNat : Nat) ∧ ze M 1 4 = zkd b n (ze M 1 2).toNat ∧ (zkd b n (ze M 1 2).toNat = 1 → ze M 1 5 = zw2 b (ze M 1 2).toNat (zen b n (ze M 1 2).toNat - (ze M 1 2).toNat)) ∧ (zkd b n (ze M 1 2).toNat = 2 → ze M 1 5 = zvl b (ze M 1 2).toNat (zen b n (ze M 1 2).toNat - (ze M 1 2).toNat)) ∧ (zkd b n (ze M 1 2).toNat = 3 → ze M 1 5 = b (ze M 1 2).toNat)
theorem zYt.fr {b : Nat → Int} {n d : Nat} {FA : List (Nat × Nat)} {CA : List Nat} {FR : List (Nat × Nat)} {CR : List Nat} {M N : zMem} (hW : zKW d M) (hf : zFc d FA CA FR CR M N) (h : zYt b n M) (hd : (1 < 5 ∧ 1 ∉ CA ∧ (1, 2) ∉ FA) ∧ (1 < 5 ∧ 1 ∉ CA ∧ (1, 3) ∉ FA) ∧ (1 < 5 ∧ 1 ∉ CA ∧ (1, 4) ∉ FA) ∧ 1 < 5 ∧ 1 ∉ CA ∧ (1, 5) ∉ FA) : zYt b n N := by
  unfold zYt
  rw [hf.ea hW hd.1, hf.ea hW hd.2.1, hf.ea hW hd.2.2.1, hf.ea hW hd.2.2.2]
  exact h
theorem zkd_0 {b : Nat → Int} {n s : Nat} (h : n ≤ s) : zkd b n s = 0 ∧ zen b n s = s := by
  unfold zkd zen
  exact ⟨if_pos h, if_pos h⟩
theorem zkd_L {b : Nat → Int} {n s : Nat} (h : s < n) (hl : zpL (b s) = true) : zkd b n s = (if zru zpL b n s ≤ s + 6 then 1 else 4) ∧ zen b n s = zru zpL b n s := by
  have h0 : ¬ n ≤ s := by (exact zo_1082 h)
  refine ⟨?_, ?_⟩
  · unfold zkd
    rw [if_neg h0, if_pos hl]
  · unfold zen
    rw [if_neg h0, if_pos hl]
theorem zkd_D {b : Nat → Int} {n s : Nat} (h : s < n) (hl : zpL (b s) = false) (hd : zpD (b s) = true) : zkd b n s = (if zru zpD b n s ≤ s + 3 ∧ ¬ (zru zpD b n s < n ∧ zpL (b (zru zpD b n s)) = true) then 2 else 4) ∧ zen b n s = zru zpD b n s := by
  have h0 : ¬ n ≤ s := by (exact zo_1082 h)
  have h1 : ¬ zpL (b s) = true := by rw [hl]; decide
  refine ⟨?_, ?_⟩
  · unfold zkd
    rw [if_neg h0, if_neg h1, if_pos hd]
  · unfold zen
    rw [if_neg h0, if_neg h1, if_pos hd]
theorem zkd_S {b : Nat → Int} {n s : Nat} (h : s < n) (hl : zpL (b s) = false) (hd : zpD (b s) = false) : zkd b n s = (if zpS (b s) = true then 3 else 4) ∧ zen b n s = s + 1 := by
  have h0 : ¬ n ≤ s := by (exact zo_1082 h)
  have h1 : ¬ zpL (b s) = true := by rw [hl]; decide
  have h2 : ¬ zpD (b s) = true := by rw [hd]; decide
  refine ⟨?_, ?_⟩
  · unfold zkd
    rw [if_neg h0, if_neg h1, if_neg h2]
  · unfold zen
    rw [if_neg h0, if_neg h1, if_neg h2]
def zNok (b : Nat → Int) (n s : Nat) : Prop := zru zpD b n s ≤ s + 3 ∧ ¬ (zru zpD b n s < n ∧ zpL (b (zru zpD b n s)) = true)
theorem zYt_L {b : Nat → Int} {n : Nat} {M : zMem} {s : Nat} (es : ze M 1 2 = s) (h : s < n) (hl : zpL (b s) = true) (h3 : ze M 1 3 = (zru zpL b n s : Nat)) (h5 : ((zru zpL b n s : Nat) : Int) - s ≤ 6 → ze M 1 5 = zw2 b s (zru zpL b n s - s)) (h4 : (((zru zpL b n s : Nat) : Int) - s ≤ 6 ∧ ze M 1 4 = 1) ∨ (6 < ((zru zpL b n s : Nat) : Int) - s ∧ ze M 1 4 = 4)) : zYt b n M := by
  obtain ⟨k1, k2⟩ := zkd_L h hl
  have e : (ze M 1 2).toNat = s := by (exact zo_1103 es)
  unfold zYt
  rw [e, k2, k1]
  refine ⟨⟨by (exact zo_537 es), by (exact zo_1104 e h)⟩, h3, ?_, ?_, ?_, ?_⟩
  · rcases h4 with ⟨a, c⟩ | ⟨a, c⟩
    · rw [if_pos (by (exact zo_1105 a))]; exact c
    · rw [if_neg (by (exact zo_1106 a))]; exact c
  · intro hk
    refine h5 ?_
    by_cases g : zru zpL b n s ≤ s + 6
    · (exact zo_1107 g)
    · rw [if_neg g] at hk; exact absurd hk (by decide)
  · intro hk
    split at hk <;> exact absurd hk (by decide)
  · intro hk
    split at hk <;> exact absurd hk (by decide)
theorem zYt_D {b : Nat → Int} {n : Nat} {M : zMem} {s : Nat} (es : ze M 1 2 = s) (h : s < n) (hl : zpL (b s) = false) (hd : zpD (b s) = true) (h3 : ze M 1 3 = (zru zpD b n s : Nat)) (h5 : zru zpD b n s ≤ s + 3 → ze M 1 5 = zvl b s (zru zpD b n s - s)) (h4 : (zNok b n s ∧ ze M 1 4 = 2) ∨ (¬ zNok b n s ∧ ze M 1 4 = 4)) : zYt b n M := by
  obtain ⟨k1, k2⟩ := zkd_D h hl hd
  have e : (ze M 1 2).toNat = s := by (exact zo_1103 es)
  unfold zYt
  rw [e, k2, k1]
  refine ⟨⟨by (exact zo_537 es), by (exact zo_1104 e h)⟩, h3, ?_, ?_, ?_, ?_⟩
  · rcases h4 with ⟨a, c⟩ | ⟨a, c⟩
    · rw [if_pos (by exact a)]; exact c
    · rw [if_neg (by exact a)]; exact c
  · intro hk
    split at hk <;> exact absurd hk (by decide)
  · intro hk
    refine h5 ?_
    by_cases g : zNok b n s
    · exact g.1
    · rw [if_neg (by exact g)] at hk; exact absurd hk (by decide)
  · intro hk
    split at hk <;> exact absurd hk (by decide)
theorem zYt_S {b : Nat → Int} {n : Nat} {M : zMem} {s : Nat} (es : ze M 1 2 = s) (h : s < n) (hl : zpL (b s) = false) (hd : zpD (b s) = false) (h3 : ze M 1 3 = s + 1) (h5 : ze M 1 5 = b s) (h4 : (zpS (b s) = true ∧ ze M 1 4 = 3) ∨ (zpS (b s) = false ∧ ze M 1 4 = 4)) : zYt b n M := by
  obtain ⟨k1, k2⟩ := zkd_S h hl hd
  have e : (ze M 1 2).toNat = s := by (exact zo_1103 es)
  unfold zYt
  rw [e, k2, k1]
  refine ⟨⟨by (exact zo_537 es), by (exact zo_1104 e h)⟩, by (exact zo_1108 h3), ?_, ?_, ?_, fun _ => h5⟩
  · rcases h4 with ⟨a, c⟩ | ⟨a, c⟩
    · rw [if_pos a]; exact c
    · rw [if_neg (by rw [a]; decide)]; exact c
  · intro hk
    split at hk <;> exact absurd hk (by decide)
  · intro hk
    split at hk <;> exact absurd hk (by decide)
theorem zYt_0 {b : Nat → Int} {n : Nat} {M : zMem} {s : Nat} (es : ze M 1 2 = s) (h : n = s) (h3 : ze M 1 3 = s) (h4 : ze M 1 4 = 0) : zYt b n M := by
  obtain ⟨k1, k2⟩ := zkd_0 (b := b) (n := n) (s := s) (by (exact zo_1109 h))
  have e : (ze M 1 2).toNat = s := by (exact zo_1103 es)
  unfold zYt
  rw [e, k2, k1]
  exact ⟨⟨by (exact zo_537 es), by (exact zo_1110 e h)⟩, h3, h4, fun h => absurd h (by decide), fun h => absurd h (by decide), fun h => absurd h (by decide)⟩
set_option maxHeartbeats 4000000 in
theorem u_Tokens_isBlank (l : Launch) (d_ : Nat) (Mz : zMem) (hW : zKW d_ Mz) (a0_ : Int) (ha0_a : -2147483648 ≤ a0_) (ha0_b : a0_ < 2147483648) : zC l m_Tokens_isBlank 0 0 [.int (Int32.ofInt a0_)] Mz (zqcI d_ [] [] [] [] Mz (fun v N => (((v = 1 ∧ zpB a0_ = true) ∨ (v = 0 ∧ zpB a0_ = false))))) := by
  refine zC_of (L0 := [some (.int (Int32.ofInt a0_))]) md_Tokens_isBlank (Nat.le_of_ble_eq_true rfl) rfl ?_ zQ0
  have hf : zFc d_ [] [] [] [] Mz Mz := zFc.rf
  refine zw_iload_n (pc := 0) (n := 0) (x := Int32.ofInt a0_) rfl (zdal_p dlA_Tokens_isBlank_76 (i := 0) rfl) ?_
  refine zw_bipush (pc := 1) (v := Int32.ofInt 32) (by decide) (zdal_p dlA_Tokens_isBlank_76 (i := 1) rfl) ?_
  refine zr_icmp_eq (pc := 3) (tgt := 12) ⟨ha0_a, ha0_b⟩ ⟨(by decide), (by decide)⟩ (by decide) (zdal_p dlA_Tokens_isBlank_76 (i := 2) rfl) (fun hc_3 => ?_) (fun hc_3 => ?_)
  · skip
    refine zw_iconst (pc := 12) (v := Int32.ofInt 1) (by decide) (zdal_p dlA_Tokens_isBlank_76 (i := 6) rfl) ?_
    refine zw_goto (pc := 13) (tgt := 17) (by decide) (zdal_p dlA_Tokens_isBlank_76 (i := 7) rfl) ?_
    exact zk_iret (pc := 17) (ty := .boolean) rfl (z_narB (by (decide))) ⟨by (decide), by (decide)⟩ hf (show ((1 = 1 ∧ zpB a0_ = true) ∨ (1 = 0 ∧ zpB a0_ = false)) from Or.inl (⟨(show 1 = 1 by first | rfl | exact zpB_t.mpr (by omega)), (show zpB a0_ = true by first | rfl | exact zpB_t.mpr (by (exact zo_1111 hc_3)))⟩)) (zdal_p dlA_Tokens_isBlank_76 (i := 9) rfl)
  · skip
    refine zw_iload_n (pc := 6) (n := 0) (x := Int32.ofInt a0_) rfl (zdal_p dlA_Tokens_isBlank_76 (i := 3) rfl) ?_
    refine zw_bipush (pc := 7) (v := Int32.ofInt 10) (by decide) (zdal_p dlA_Tokens_isBlank_76 (i := 4) rfl) ?_
    refine zr_icmp_ne (pc := 9) (tgt := 16) ⟨ha0_a, ha0_b⟩ ⟨(by decide), (by decide)⟩ (by decide) (zdal_p dlA_Tokens_isBlank_76 (i := 5) rfl) (fun hc_9 => ?_) (fun hc_9 => ?_)
    · skip
      refine zw_iconst (pc := 16) (v := Int32.ofInt 0) (by decide) (zdal_p dlA_Tokens_isBlank_76 (i := 8) rfl) ?_
      exact zk_iret (pc := 17) (ty := .boolean) rfl (z_narB (by (decide))) ⟨by (decide), by (decide)⟩ hf (show ((0 = 1 ∧ zpB a0_ = true) ∨ (0 = 0 ∧ zpB a0_ = false)) from Or.inr (⟨(show 0 = 0 by first | rfl | exact Bool.eq_false_iff.mpr (fun h => by have := zpB_t.mp h; omega)), (show zpB a0_ = false by first | rfl | exact Bool.eq_false_iff.mpr (fun h => by have := zpB_t.mp h; omega))⟩)) (zdal_p dlA_Tokens_isBlank_76 (i := 9) rfl)
    · skip
      refine zw_iconst (pc := 12) (v := Int32.ofInt 1) (by decide) (zdal_p dlA_Tokens_isBlank_76 (i := 6) rfl) ?_
      refine zw_goto (pc := 13) (tgt := 17) (by decide) (zdal_p dlA_Tokens_isBlank_76 (i := 7) rfl) ?_
      exact zk_iret (pc := 17) (ty := .boolean) rfl (z_narB (by (decide))) ⟨by (decide), by (decide)⟩ hf (show ((1 = 1 ∧ zpB a0_ = true) ∨ (1 = 0 ∧ zpB a0_ = false)) from Or.inl (⟨(show 1 = 1 by first | rfl | exact zpB_t.mpr (by omega)), (show zpB a0_ = true by first | rfl | exact zpB_t.mpr (by (exact zo_1112 hc_9)))⟩)) (zdal_p dlA_Tokens_isBlank_76 (i := 9) rfl)
set_option maxHeartbeats 4000000 in
theorem u_Tokens_isLetter (l : Launch) (d_ : Nat) (Mz : zMem) (hW : zKW d_ Mz) (a0_ : Int) (ha0_a : -2147483648 ≤ a0_) (ha0_b : a0_ < 2147483648) : zC l m_Tokens_isLetter 0 0 [.int (Int32.ofInt a0_)] Mz (zqcI d_ [] [] [] [] Mz (fun v N => (((v = 1 ∧ zpL a0_ = true) ∨ (v = 0 ∧ zpL a0_ = false))))) := by
  refine zC_of (L0 := [some (.int (Int32.ofInt a0_))]) md_Tokens_isLetter (Nat.le_of_ble_eq_true rfl) rfl ?_ zQ0
  have hf : zFc d_ [] [] [] [] Mz Mz := zFc.rf
  refine zw_iload_n (pc := 0) (n := 0) (x := Int32.ofInt a0_) rfl (zdal_p dlA_Tokens_isLetter_77 (i := 0) rfl) ?_
  refine zw_bipush (pc := 1) (v := Int32.ofInt 97) (by decide) (zdal_p dlA_Tokens_isLetter_77 (i := 1) rfl) ?_
  refine zr_icmp_lt (pc := 3) (tgt := 16) ⟨ha0_a, ha0_b⟩ ⟨(by decide), (by decide)⟩ (by decide) (zdal_p dlA_Tokens_isLetter_77 (i := 2) rfl) (fun hc_3 => ?_) (fun hc_3 => ?_)
  · skip
    refine zw_iconst (pc := 16) (v := Int32.ofInt 0) (by decide) (zdal_p dlA_Tokens_isLetter_77 (i := 8) rfl) ?_
    exact zk_iret (pc := 17) (ty := .boolean) rfl (z_narB (by (decide))) ⟨by (decide), by (decide)⟩ hf (show ((0 = 1 ∧ zpL a0_ = true) ∨ (0 = 0 ∧ zpL a0_ = false)) from Or.inr (⟨(show 0 = 0 by first | rfl | exact Bool.eq_false_iff.mpr (fun h => by have := zpL_t.mp h; omega)), (show zpL a0_ = false by first | rfl | exact Bool.eq_false_iff.mpr (fun h => by have := zpL_t.mp h; (exact zo_1113 hc_3 this.1)))⟩)) (zdal_p dlA_Tokens_isLetter_77 (i := 9) rfl)
  · skip
    refine zw_iload_n (pc := 6) (n := 0) (x := Int32.ofInt a0_) rfl (zdal_p dlA_Tokens_isLetter_77 (i := 3) rfl) ?_
    refine zw_bipush (pc := 7) (v := Int32.ofInt 122) (by decide) (zdal_p dlA_Tokens_isLetter_77 (i := 4) rfl) ?_
    refine zr_icmp_gt (pc := 9) (tgt := 16) ⟨ha0_a, ha0_b⟩ ⟨(by decide), (by decide)⟩ (by decide) (zdal_p dlA_Tokens_isLetter_77 (i := 5) rfl) (fun hc_9 => ?_) (fun hc_9 => ?_)
    · skip
      refine zw_iconst (pc := 16) (v := Int32.ofInt 0) (by decide) (zdal_p dlA_Tokens_isLetter_77 (i := 8) rfl) ?_
      exact zk_iret (pc := 17) (ty := .boolean) rfl (z_narB (by (decide))) ⟨by (decide), by (decide)⟩ hf (show ((0 = 1 ∧ zpL a0_ = true) ∨ (0 = 0 ∧ zpL a0_ = false)) from Or.inr (⟨(show 0 = 0 by first | rfl | exact Bool.eq_false_iff.mpr (fun h => by have := zpL_t.mp h; omega)), (show zpL a0_ = false by first | rfl | exact Bool.eq_false_iff.mpr (fun h => by have := zpL_t.mp h; (exact zo_1114 hc_9 this.2)))⟩)) (zdal_p dlA_Tokens_isLetter_77 (i := 9) rfl)
    · skip
      refine zw_iconst (pc := 12) (v := Int32.ofInt 1) (by decide) (zdal_p dlA_Tokens_isLetter_77 (i := 6) rfl) ?_
      refine zw_goto (pc := 13) (tgt := 17) (by decide) (zdal_p dlA_Tokens_isLetter_77 (i := 7) rfl) ?_
      exact zk_iret (pc := 17) (ty := .boolean) rfl (z_narB (by (decide))) ⟨by (decide), by (decide)⟩ hf (show ((1 = 1 ∧ zpL a0_ = true) ∨ (1 = 0 ∧ zpL a0_ = false)) from Or.inl (⟨(show 1 = 1 by first | rfl | exact zpL_t.mpr (by omega)), (show zpL a0_ = true by first | rfl | exact zpL_t.mpr (by (exact zo_176 hc_3 hc_9)))⟩)) (zdal_p dlA_Tokens_isLetter_77 (i := 9) rfl)
set_option maxHeartbeats 4000000 in
theorem u_Tokens_isDigit (l : Launch) (d_ : Nat) (Mz : zMem) (hW : zKW d_ Mz) (a0_ : Int) (ha0_a : -2147483648 ≤ a0_) (ha0_b : a0_ < 2147483648) : zC l m_Tokens_isDigit 0 0 [.int (Int32.ofInt a0_)] Mz (zqcI d_ [] [] [] [] Mz (fun v N => (((v = 1 ∧ zpD a0_ = true) ∨ (v = 0 ∧ zpD a0_ = false))))) := by
  refine zC_of (L0 := [some (.int (Int32.ofInt a0_))]) md_Tokens_isDigit (Nat.le_of_ble_eq_true rfl) rfl ?_ zQ0
  have hf : zFc d_ [] [] [] [] Mz Mz := zFc.rf
  refine zw_iload_n (pc := 0) (n := 0) (x := Int32.ofInt a0_) rfl (zdal_p dlA_Tokens_isDigit_80 (i := 0) rfl) ?_
  refine zw_bipush (pc := 1) (v := Int32.ofInt 48) (by decide) (zdal_p dlA_Tokens_isDigit_80 (i := 1) rfl) ?_
  refine zr_icmp_lt (pc := 3) (tgt := 16) ⟨ha0_a, ha0_b⟩ ⟨(by decide), (by decide)⟩ (by decide) (zdal_p dlA_Tokens_isDigit_80 (i := 2) rfl) (fun hc_3 => ?_) (fun hc_3 => ?_)
  · skip
    refine zw_iconst (pc := 16) (v := Int32.ofInt 0) (by decide) (zdal_p dlA_Tokens_isDigit_80 (i := 8) rfl) ?_
    exact zk_iret (pc := 17) (ty := .boolean) rfl (z_narB (by (decide))) ⟨by (decide), by (decide)⟩ hf (show ((0 = 1 ∧ zpD a0_ = true) ∨ (0 = 0 ∧ zpD a0_ = false)) from Or.inr (⟨(show 0 = 0 by first | rfl | exact Bool.eq_false_iff.mpr (fun h => by have := zpD_t.mp h; omega)), (show zpD a0_ = false by first | rfl | exact Bool.eq_false_iff.mpr (fun h => by have := zpD_t.mp h; (exact zo_1115 hc_3 this.1)))⟩)) (zdal_p dlA_Tokens_isDigit_80 (i := 9) rfl)
  · skip
    refine zw_iload_n (pc := 6) (n := 0) (x := Int32.ofInt a0_) rfl (zdal_p dlA_Tokens_isDigit_80 (i := 3) rfl) ?_
    refine zw_bipush (pc := 7) (v := Int32.ofInt 57) (by decide) (zdal_p dlA_Tokens_isDigit_80 (i := 4) rfl) ?_
    refine zr_icmp_gt (pc := 9) (tgt := 16) ⟨ha0_a, ha0_b⟩ ⟨(by decide), (by decide)⟩ (by decide) (zdal_p dlA_Tokens_isDigit_80 (i := 5) rfl) (fun hc_9 => ?_) (fun hc_9 => ?_)
    · skip
      refine zw_iconst (pc := 16) (v := Int32.ofInt 0) (by decide) (zdal_p dlA_Tokens_isDigit_80 (i := 8) rfl) ?_
      exact zk_iret (pc := 17) (ty := .boolean) rfl (z_narB (by (decide))) ⟨by (decide), by (decide)⟩ hf (show ((0 = 1 ∧ zpD a0_ = true) ∨ (0 = 0 ∧ zpD a0_ = false)) from Or.inr (⟨(show 0 = 0 by first | rfl | exact Bool.eq_false_iff.mpr (fun h => by have := zpD_t.mp h; omega)), (show zpD a0_ = false by first | rfl | exact Bool.eq_false_iff.mpr (fun h => by have := zpD_t.mp h; (exact zo_1116 hc_9 this.2)))⟩)) (zdal_p dlA_Tokens_isDigit_80 (i := 9) rfl)
    · skip
      refine zw_iconst (pc := 12) (v := Int32.ofInt 1) (by decide) (zdal_p dlA_Tokens_isDigit_80 (i := 6) rfl) ?_
      refine zw_goto (pc := 13) (tgt := 17) (by decide) (zdal_p dlA_Tokens_isDigit_80 (i := 7) rfl) ?_
      exact zk_iret (pc := 17) (ty := .boolean) rfl (z_narB (by (decide))) ⟨by (decide), by (decide)⟩ hf (show ((1 = 1 ∧ zpD a0_ = true) ∨ (1 = 0 ∧ zpD a0_ = false)) from Or.inl (⟨(show 1 = 1 by first | rfl | exact zpD_t.mpr (by omega)), (show zpD a0_ = true by first | rfl | exact zpD_t.mpr (by (exact zo_214 hc_3 hc_9)))⟩)) (zdal_p dlA_Tokens_isDigit_80 (i := 9) rfl)
set_option maxHeartbeats 4000000 in
theorem u_Tokens_isSignByte (l : Launch) (d_ : Nat) (Mz : zMem) (hW : zKW d_ Mz) (a0_ : Int) (ha0_a : -2147483648 ≤ a0_) (ha0_b : a0_ < 2147483648) : zC l m_Tokens_isSignByte 0 0 [.int (Int32.ofInt a0_)] Mz (zqcI d_ [] [] [] [] Mz (fun v N => (((v = 1 ∧ zpS a0_ = true) ∨ (v = 0 ∧ zpS a0_ = false))))) := by
  refine zC_of (L0 := [some (.int (Int32.ofInt a0_))]) md_Tokens_isSignByte (Nat.le_of_ble_eq_true rfl) rfl ?_ zQ0
  have hf : zFc d_ [] [] [] [] Mz Mz := zFc.rf
  refine zw_iload_n (pc := 0) (n := 0) (x := Int32.ofInt a0_) rfl (zdal_p dlA_Tokens_isSignByte_85 (i := 0) rfl) ?_
  refine zw_bipush (pc := 1) (v := Int32.ofInt 61) (by decide) (zdal_p dlA_Tokens_isSignByte_85 (i := 1) rfl) ?_
  refine zr_icmp_eq (pc := 3) (tgt := 48) ⟨ha0_a, ha0_b⟩ ⟨(by decide), (by decide)⟩ (by decide) (zdal_p dlA_Tokens_isSignByte_85 (i := 2) rfl) (fun hc_3 => ?_) (fun hc_3 => ?_)
  · skip
    refine zw_iconst (pc := 48) (v := Int32.ofInt 1) (by decide) d_Tokens_isSignByte_48 ?_
    refine zw_goto (pc := 49) (tgt := 53) (by decide) d_Tokens_isSignByte_49 ?_
    exact zk_iret (pc := 53) (ty := .boolean) rfl (z_narB (by (decide))) ⟨by (decide), by (decide)⟩ hf (show ((1 = 1 ∧ zpS a0_ = true) ∨ (1 = 0 ∧ zpS a0_ = false)) from Or.inl (⟨(show 1 = 1 by first | rfl | exact zpS_t.mpr (by omega)), (show zpS a0_ = true by first | rfl | exact zpS_t.mpr (by omega))⟩)) d_Tokens_isSignByte_53
  · skip
    refine zw_iload_n (pc := 6) (n := 0) (x := Int32.ofInt a0_) rfl (zdal_p dlA_Tokens_isSignByte_85 (i := 3) rfl) ?_
    refine zw_bipush (pc := 7) (v := Int32.ofInt 43) (by decide) (zdal_p dlA_Tokens_isSignByte_85 (i := 4) rfl) ?_
    refine zr_icmp_eq (pc := 9) (tgt := 48) ⟨ha0_a, ha0_b⟩ ⟨(by decide), (by decide)⟩ (by decide) (zdal_p dlA_Tokens_isSignByte_85 (i := 5) rfl) (fun hc_9 => ?_) (fun hc_9 => ?_)
    · skip
      refine zw_iconst (pc := 48) (v := Int32.ofInt 1) (by decide) d_Tokens_isSignByte_48 ?_
      refine zw_goto (pc := 49) (tgt := 53) (by decide) d_Tokens_isSignByte_49 ?_
      exact zk_iret (pc := 53) (ty := .boolean) rfl (z_narB (by (decide))) ⟨by (decide), by (decide)⟩ hf (show ((1 = 1 ∧ zpS a0_ = true) ∨ (1 = 0 ∧ zpS a0_ = false)) from Or.inl (⟨(show 1 = 1 by first | rfl | exact zpS_t.mpr (by omega)), (show zpS a0_ = true by first | rfl | exact zpS_t.mpr (by omega))⟩)) d_Tokens_isSignByte_53
    · skip
      refine zw_iload_n (pc := 12) (n := 0) (x := Int32.ofInt a0_) rfl (zdal_p dlA_Tokens_isSignByte_85 (i := 6) rfl) ?_
      refine zw_bipush (pc := 13) (v := Int32.ofInt 45) (by decide) (zdal_p dlA_Tokens_isSignByte_85 (i := 7) rfl) ?_
      refine zr_icmp_eq (pc := 15) (tgt := 48) ⟨ha0_a, ha0_b⟩ ⟨(by decide), (by decide)⟩ (by decide) (zdal_p dlA_Tokens_isSignByte_85 (i := 8) rfl) (fun hc_15 => ?_) (fun hc_15 => ?_)
      · skip
        refine zw_iconst (pc := 48) (v := Int32.ofInt 1) (by decide) d_Tokens_isSignByte_48 ?_
        refine zw_goto (pc := 49) (tgt := 53) (by decide) d_Tokens_isSignByte_49 ?_
        exact zk_iret (pc := 53) (ty := .boolean) rfl (z_narB (by (decide))) ⟨by (decide), by (decide)⟩ hf (show ((1 = 1 ∧ zpS a0_ = true) ∨ (1 = 0 ∧ zpS a0_ = false)) from Or.inl (⟨(show 1 = 1 by first | rfl | exact zpS_t.mpr (by omega)), (show zpS a0_ = true by first | rfl | exact zpS_t.mpr (by omega))⟩)) d_Tokens_isSignByte_53
      · skip
        refine zw_iload_n (pc := 18) (n := 0) (x := Int32.ofInt a0_) rfl (zdal_p dlA_Tokens_isSignByte_85 (i := 9) rfl) ?_
        refine zw_bipush (pc := 19) (v := Int32.ofInt 42) (by decide) (zdal_p dlA_Tokens_isSignByte_85 (i := 10) rfl) ?_
        refine zr_icmp_eq (pc := 21) (tgt := 48) ⟨ha0_a, ha0_b⟩ ⟨(by decide), (by decide)⟩ (by decide) (zdal_p dlA_Tokens_isSignByte_85 (i := 11) rfl) (fun hc_21 => ?_) (fun hc_21 => ?_)
        · skip
          refine zw_iconst (pc := 48) (v := Int32.ofInt 1) (by decide) d_Tokens_isSignByte_48 ?_
          refine zw_goto (pc := 49) (tgt := 53) (by decide) d_Tokens_isSignByte_49 ?_
          exact zk_iret (pc := 53) (ty := .boolean) rfl (z_narB (by (decide))) ⟨by (decide), by (decide)⟩ hf (show ((1 = 1 ∧ zpS a0_ = true) ∨ (1 = 0 ∧ zpS a0_ = false)) from Or.inl (⟨(show 1 = 1 by first | rfl | exact zpS_t.mpr (by omega)), (show zpS a0_ = true by first | rfl | exact zpS_t.mpr (by omega))⟩)) d_Tokens_isSignByte_53
        · skip
          refine zw_iload_n (pc := 24) (n := 0) (x := Int32.ofInt a0_) rfl (zdal_p dlA_Tokens_isSignByte_85 (i := 12) rfl) ?_
          refine zw_bipush (pc := 25) (v := Int32.ofInt 94) (by decide) (zdal_p dlA_Tokens_isSignByte_85 (i := 13) rfl) ?_
          refine zr_icmp_eq (pc := 27) (tgt := 48) ⟨ha0_a, ha0_b⟩ ⟨(by decide), (by decide)⟩ (by decide) (zdal_p dlA_Tokens_isSignByte_85 (i := 14) rfl) (fun hc_27 => ?_) (fun hc_27 => ?_)
          · skip
            refine zw_iconst (pc := 48) (v := Int32.ofInt 1) (by decide) d_Tokens_isSignByte_48 ?_
            refine zw_goto (pc := 49) (tgt := 53) (by decide) d_Tokens_isSignByte_49 ?_
            exact zk_iret (pc := 53) (ty := .boolean) rfl (z_narB (by (decide))) ⟨by (decide), by (decide)⟩ hf (show ((1 = 1 ∧ zpS a0_ = true) ∨ (1 = 0 ∧ zpS a0_ = false)) from Or.inl (⟨(show 1 = 1 by first | rfl | exact zpS_t.mpr (by omega)), (show zpS a0_ = true by first | rfl | exact zpS_t.mpr (by omega))⟩)) d_Tokens_isSignByte_53
          · skip
            refine zw_iload_n (pc := 30) (n := 0) (x := Int32.ofInt a0_) rfl (zdal_p dlA_Tokens_isSignByte_85 (i := 15) rfl) ?_
            refine zw_bipush (pc := 31) (v := Int32.ofInt 40) (by decide) (zdal_p dlA_Tokens_isSignByte_85 (i := 16) rfl) ?_
            refine zr_icmp_eq (pc := 33) (tgt := 48) ⟨ha0_a, ha0_b⟩ ⟨(by decide), (by decide)⟩ (by decide) (zdal_p dlA_Tokens_isSignByte_85 (i := 17) rfl) (fun hc_33 => ?_) (fun hc_33 => ?_)
            · skip
              refine zw_iconst (pc := 48) (v := Int32.ofInt 1) (by decide) d_Tokens_isSignByte_48 ?_
              refine zw_goto (pc := 49) (tgt := 53) (by decide) d_Tokens_isSignByte_49 ?_
              exact zk_iret (pc := 53) (ty := .boolean) rfl (z_narB (by (decide))) ⟨by (decide), by (decide)⟩ hf (show ((1 = 1 ∧ zpS a0_ = true) ∨ (1 = 0 ∧ zpS a0_ = false)) from Or.inl (⟨(show 1 = 1 by first | rfl | exact zpS_t.mpr (by omega)), (show zpS a0_ = true by first | rfl | exact zpS_t.mpr (by omega))⟩)) d_Tokens_isSignByte_53
            · skip
              refine zw_iload_n (pc := 36) (n := 0) (x := Int32.ofInt a0_) rfl (zdal_p dlA_Tokens_isSignByte_85 (i := 18) rfl) ?_
              refine zw_bipush (pc := 37) (v := Int32.ofInt 41) (by decide) (zdal_p dlA_Tokens_isSignByte_85 (i := 19) rfl) ?_
              refine zr_icmp_eq (pc := 39) (tgt := 48) ⟨ha0_a, ha0_b⟩ ⟨(by decide), (by decide)⟩ (by decide) (zdal_p dlA_Tokens_isSignByte_85 (i := 20) rfl) (fun hc_39 => ?_) (fun hc_39 => ?_)
              · skip
                refine zw_iconst (pc := 48) (v := Int32.ofInt 1) (by decide) d_Tokens_isSignByte_48 ?_
                refine zw_goto (pc := 49) (tgt := 53) (by decide) d_Tokens_isSignByte_49 ?_
                exact zk_iret (pc := 53) (ty := .boolean) rfl (z_narB (by (decide))) ⟨by (decide), by (decide)⟩ hf (show ((1 = 1 ∧ zpS a0_ = true) ∨ (1 = 0 ∧ zpS a0_ = false)) from Or.inl (⟨(show 1 = 1 by first | rfl | exact zpS_t.mpr (by omega)), (show zpS a0_ = true by first | rfl | exact zpS_t.mpr (by omega))⟩)) d_Tokens_isSignByte_53
              · skip
                refine zw_iload_n (pc := 42) (n := 0) (x := Int32.ofInt a0_) rfl (zdal_p dlA_Tokens_isSignByte_85 (i := 21) rfl) ?_
                refine zw_bipush (pc := 43) (v := Int32.ofInt 59) (by decide) (zdal_p dlA_Tokens_isSignByte_85 (i := 22) rfl) ?_
                refine zr_icmp_ne (pc := 45) (tgt := 52) ⟨ha0_a, ha0_b⟩ ⟨(by decide), (by decide)⟩ (by decide) (zdal_p dlA_Tokens_isSignByte_85 (i := 23) rfl) (fun hc_45 => ?_) (fun hc_45 => ?_)
                · skip
                  refine zw_iconst (pc := 52) (v := Int32.ofInt 0) (by decide) (zdal_p dlA_Tokens_isSignByte_86 (i := 2) rfl) ?_
                  exact zk_iret (pc := 53) (ty := .boolean) rfl (z_narB (by (decide))) ⟨by (decide), by (decide)⟩ hf (show ((0 = 1 ∧ zpS a0_ = true) ∨ (0 = 0 ∧ zpS a0_ = false)) from Or.inr (⟨(show 0 = 0 by first | rfl | exact Bool.eq_false_iff.mpr (fun h => by have := zpS_t.mp h; omega)), (show zpS a0_ = false by first | rfl | exact Bool.eq_false_iff.mpr (fun h => by have := zpS_t.mp h; omega))⟩)) d_Tokens_isSignByte_53
                · skip
                  refine zw_iconst (pc := 48) (v := Int32.ofInt 1) (by decide) d_Tokens_isSignByte_48 ?_
                  refine zw_goto (pc := 49) (tgt := 53) (by decide) d_Tokens_isSignByte_49 ?_
                  exact zk_iret (pc := 53) (ty := .boolean) rfl (z_narB (by (decide))) ⟨by (decide), by (decide)⟩ hf (show ((1 = 1 ∧ zpS a0_ = true) ∨ (1 = 0 ∧ zpS a0_ = false)) from Or.inl (⟨(show 1 = 1 by first | rfl | exact zpS_t.mpr (by omega)), (show zpS a0_ = true by first | rfl | exact zpS_t.mpr (by omega))⟩)) d_Tokens_isSignByte_53
set_option maxHeartbeats 4000000 in
theorem u_Tokens_pastBlanks (l : Launch) (d_ : Nat) (Mz : zMem) (hW : zKW d_ Mz) (a0_ : Int) (ha0_a : -2147483648 ≤ a0_) (ha0_b : a0_ < 2147483648) (b_ : Nat → Int) (n_ : Nat) (p0_ : zYb b_ n_ Mz) (p1_ : 0 ≤ a0_) (p2_ : a0_ ≤ n_) : zC l m_Tokens_pastBlanks 0 0 [.ref 1, .int (Int32.ofInt a0_)] Mz (zqcI d_ [] [] [] [] Mz (fun v N => v = (zru zpB b_ n_ (a0_).toNat : Nat))) := by
  refine zC_of (L0 := [some (.ref 1), some (.int (Int32.ofInt a0_)), none]) md_Tokens_pastBlanks (Nat.le_of_ble_eq_true rfl) rfl ?_ zQ0
  have hf : zFc d_ [] [] [] [] Mz Mz := zFc.rf
  have r_A1_1 := ze_r Mz 1 1
  obtain ⟨hn_, hn7_, hB_, hb_⟩ := id p0_
  refine zw_iload_n (pc := 0) (n := 1) (x := Int32.ofInt a0_) rfl (zdal_p dlA_Tokens_pastBlanks_75 (i := 0) rfl) ?_
  refine zw_istore_n (pc := 1) (i := 2) (L2 := [some (.ref 1), some (.int (Int32.ofInt a0_)), some (.int (Int32.ofInt a0_))]) rfl (by decide) rfl (zdal_p dlA_Tokens_pastBlanks_75 (i := 1) rfl) ?_
  have lp_2 : ∀ (n : Nat) (u1_ : Int) (hu1_a : -2147483648 ≤ u1_) (hu1_b : u1_ < 2147483648) (i2_ : a0_ ≤ u1_) (i3_ : u1_ ≤ n_) (i4_ : zru zpB b_ n_ (u1_).toNat = zru zpB b_ n_ (a0_).toNat), (n_ - u1_).toNat < n → zW l m_Tokens_pastBlanks (zn Mz + 0, zw Mz + 0) Mz 2 [some (.ref 1), some (.int (Int32.ofInt a0_)), some (.int (Int32.ofInt u1_))] [] (zqcI d_ [] [] [] [] Mz (fun v N => v = (zru zpB b_ n_ (a0_).toNat : Nat))) := by
    intro n
    induction n with
    | zero =>
      intro u1_ hu1_a hu1_b i2_ i3_ i4_ h0
      exact absurd h0 (Nat.not_lt_zero _)
    | succ n ih_2 =>
      intro u1_ hu1_a hu1_b i2_ i3_ i4_ hlt_2
      refine zw_iload_n (pc := 2) (n := 2) (x := Int32.ofInt u1_) rfl (zdal_p dlA_Tokens_pastBlanks_75 (i := 2) rfl) ?_
      refine zw_aload_n (pc := 3) (n := 0) (x := 1) rfl (zdal_p dlA_Tokens_pastBlanks_75 (i := 3) rfl) ?_
      refine zk_getI (pc := 4) f_Tokens_20 rfl ((hf.w hW).ka (o := 1) (by decide)) (zdal_p dlA_Tokens_pastBlanks_75 (i := 4) rfl) ?_
      refine zr_icmp_ge (pc := 7) (tgt := 30) ⟨hu1_a, hu1_b⟩ ⟨(ze_r Mz 1 1).1, (ze_r Mz 1 1).2⟩ (by decide) (zdal_p dlA_Tokens_pastBlanks_75 (i := 5) rfl) (fun hc_7 => ?_) (fun hc_7 => ?_)
      · skip
        refine zw_iload_n (pc := 30) (n := 2) (x := Int32.ofInt u1_) rfl (zdal_p dlA_Tokens_pastBlanks_75 (i := 14) rfl) ?_
        exact zk_iret (pc := 31) (ty := .int) rfl rfl ⟨by (exact hu1_a), by (exact hu1_b)⟩ hf (show u1_ = (zru zpB b_ n_ (a0_).toNat : Nat) by first | exact zru_stop (P := zpB) (b := b_) (n := n_) (v := 0) (by (exact zo_1117 hu1_a i2_ p1_)) (Or.inl (by (exact zo_1118 hc_7 hn7_ hn_ hu1_a))) (by first | with_reducible assumption | assumption) | exact zru_stop (P := zpB) (b := b_) (n := n_) (by omega) (Or.inr ⟨hbv, by assumption⟩) (by first | with_reducible assumption | assumption)) (zdal_p dlA_Tokens_pastBlanks_75 (i := 15) rfl)
      · skip
        refine zw_aload_n (pc := 10) (n := 0) (x := 1) rfl (zdal_p dlA_Tokens_pastBlanks_75 (i := 6) rfl) ?_
        refine zw_getF (pc := 11) f_Tokens_14 rfl ((hf.w hW).ka (o := 1) (by decide)) ((hf.w hW).la (o := 1) (s := 0) (r := 2) (by decide)) (zdal_p dlA_Tokens_pastBlanks_75 (i := 7) rfl) ?_
        refine zw_iload_n (pc := 14) (n := 2) (x := Int32.ofInt u1_) rfl (zdal_p dlA_Tokens_pastBlanks_75 (i := 8) rfl) ?_
        refine zk_at hf.x (pc := 15) l_Tokens_47 ((hf.w hW).ka (o := 2) (by decide)) ((hf.w hW).la (o := 2) (s := 0) (r := 3) (by decide)) ((hf.w hW).ra (o := 3) (t := 1) (n := 700) (by decide)) (by decide) (by (exact zo_1117 hu1_a i2_ p1_)) (by (exact zo_1119 hc_7 hn7_ hn_ hu1_b i3_)) (by decide) (Nat.le_of_ble_eq_true rfl) (zdal_p dlA_Tokens_pastBlanks_75 (i := 9) rfl) (fun v5_ hv5_ hv5_a hv5_b => ?_)
        have hbv : v5_ = b_ (u1_).toNat := hv5_.trans (hb_ _ (by (exact zo_1120 hc_7 hn_ hu1_a hu1_b i2_ i3_ p1_)))
        refine zr_callS hf.x (pc := 18) [.int (Int32.ofInt v5_)] [] l_Tokens_73 (u_Tokens_isBlank l d_ Mz (hf.w hW) v5_ hv5_a hv5_b) rfl rfl (by decide) (Nat.le_of_ble_eq_true rfl) (zdal_p dlA_Tokens_pastBlanks_75 (i := 10) rfl) ?_
        rintro _ N6_ ⟨v7_, rfl, ⟨hv7_a, hv7_b⟩, hsN6_, hp0_N6_⟩
        obtain rfl := hsN6_.eq.symm
        replace hp0_N6_ : ((v7_ = 1 ∧ zpB v5_ = true) ∨ (v7_ = 0 ∧ zpB v5_ = false)) := hp0_N6_
        rcases hp0_N6_ with ⟨rfl, ha18_0_hp0_N6_⟩ | ⟨rfl, ha18_0_hp0_N6_⟩
        · skip
          show zW l m_Tokens_pastBlanks (zn Mz + 0, zw Mz + 0) Mz 21 [some (.ref 1), some (.int (Int32.ofInt a0_)), some (.int (Int32.ofInt u1_))] [.int (Int32.ofInt 1)] _
          refine zr_if_eq (pc := 21) (tgt := 30) ⟨(by decide), (by decide)⟩ (by decide) (zdal_p dlA_Tokens_pastBlanks_75 (i := 11) rfl) (fun hc_21 => ?_) (fun hc_21 => ?_)
          · skip
            exact absurd hc_21 (by decide)
          · skip
            refine zr_iinc (pc := 24) (i := 2) (a := u1_) (n := 1) (L2 := [some (.ref 1), some (.int (Int32.ofInt a0_)), some (.int (Int32.ofInt (u1_ + 1)))]) rfl (by decide) rfl (zdal_p dlA_Tokens_pastBlanks_75 (i := 12) rfl) ?_
            refine zw_goto (pc := 27) (tgt := 2) (by decide) (zdal_p dlA_Tokens_pastBlanks_75 (i := 13) rfl) ?_
            exact ih_2 (u1_ + 1) (by (exact zo_679 hu1_a)) (by (exact zo_1121 hn7_ hu1_b i3_)) (show a0_ ≤ (u1_ + 1) by first | with_reducible assumption | (exact zo_961 i2_) | assumption) (show (u1_ + 1) ≤ n_ by first | with_reducible assumption | (exact zo_1122 hc_7 hn_ hu1_b i3_) | assumption) (show zru zpB b_ n_ ((u1_ + 1)).toNat = zru zpB b_ n_ (a0_).toNat by exact zru_step (by (exact zo_1117 hu1_a i2_ p1_)) (by (exact zo_1123 hc_7 hn_ hu1_b i3_)) hbv (by first | with_reducible assumption | assumption) (by first | with_reducible assumption | assumption)) (by (exact zo_1124 hc_7 hlt_2 hn_ hu1_b i3_))
        · skip
          show zW l m_Tokens_pastBlanks (zn Mz + 0, zw Mz + 0) Mz 21 [some (.ref 1), some (.int (Int32.ofInt a0_)), some (.int (Int32.ofInt u1_))] [.int (Int32.ofInt 0)] _
          refine zr_if_eq (pc := 21) (tgt := 30) ⟨(by decide), (by decide)⟩ (by decide) (zdal_p dlA_Tokens_pastBlanks_75 (i := 11) rfl) (fun hc_21 => ?_) (fun hc_21 => ?_)
          · skip
            refine zw_iload_n (pc := 30) (n := 2) (x := Int32.ofInt u1_) rfl (zdal_p dlA_Tokens_pastBlanks_75 (i := 14) rfl) ?_
            exact zk_iret (pc := 31) (ty := .int) rfl rfl ⟨by (exact hu1_a), by (exact hu1_b)⟩ hf (show u1_ = (zru zpB b_ n_ (a0_).toNat : Nat) by first | exact zru_stop (P := zpB) (b := b_) (n := n_) (v := 0) (by (exact zo_1117 hu1_a i2_ p1_)) (Or.inl (by omega)) (by first | with_reducible assumption | assumption) | exact zru_stop (P := zpB) (b := b_) (n := n_) (by (exact zo_1117 hu1_a i2_ p1_)) (Or.inr ⟨hbv, by assumption⟩) (by first | with_reducible assumption | assumption)) (zdal_p dlA_Tokens_pastBlanks_75 (i := 15) rfl)
          · skip
            exact absurd hc_21 (by decide)
  exact lp_2 _ a0_ ha0_a ha0_b (show a0_ ≤ a0_ by first | with_reducible assumption | (exact zo_628) | assumption) (show a0_ ≤ n_ by first | with_reducible assumption | assumption | omega) (show zru zpB b_ n_ (a0_).toNat = zru zpB b_ n_ (a0_).toNat by rfl) (Nat.lt_succ_self _)
set_option maxHeartbeats 4000000 in
theorem u_Tokens_pastDigits (l : Launch) (d_ : Nat) (Mz : zMem) (hW : zKW d_ Mz) (a0_ : Int) (ha0_a : -2147483648 ≤ a0_) (ha0_b : a0_ < 2147483648) (b_ : Nat → Int) (n_ : Nat) (p0_ : zYb b_ n_ Mz) (p1_ : 0 ≤ a0_) (p2_ : a0_ ≤ n_) : zC l m_Tokens_pastDigits 0 0 [.ref 1, .int (Int32.ofInt a0_)] Mz (zqcI d_ [] [] [] [] Mz (fun v N => v = (zru zpD b_ n_ (a0_).toNat : Nat))) := by
  refine zC_of (L0 := [some (.ref 1), some (.int (Int32.ofInt a0_)), none]) md_Tokens_pastDigits (Nat.le_of_ble_eq_true rfl) rfl ?_ zQ0
  have hf : zFc d_ [] [] [] [] Mz Mz := zFc.rf
  have r_A1_1 := ze_r Mz 1 1
  obtain ⟨hn_, hn7_, hB_, hb_⟩ := id p0_
  refine zw_iload_n (pc := 0) (n := 1) (x := Int32.ofInt a0_) rfl (zdal_p dlA_Tokens_pastDigits_83 (i := 0) rfl) ?_
  refine zw_istore_n (pc := 1) (i := 2) (L2 := [some (.ref 1), some (.int (Int32.ofInt a0_)), some (.int (Int32.ofInt a0_))]) rfl (by decide) rfl (zdal_p dlA_Tokens_pastDigits_83 (i := 1) rfl) ?_
  have lp_2 : ∀ (n : Nat) (u1_ : Int) (hu1_a : -2147483648 ≤ u1_) (hu1_b : u1_ < 2147483648) (i2_ : a0_ ≤ u1_) (i3_ : u1_ ≤ n_) (i4_ : zru zpD b_ n_ (u1_).toNat = zru zpD b_ n_ (a0_).toNat), (n_ - u1_).toNat < n → zW l m_Tokens_pastDigits (zn Mz + 0, zw Mz + 0) Mz 2 [some (.ref 1), some (.int (Int32.ofInt a0_)), some (.int (Int32.ofInt u1_))] [] (zqcI d_ [] [] [] [] Mz (fun v N => v = (zru zpD b_ n_ (a0_).toNat : Nat))) := by
    intro n
    induction n with
    | zero =>
      intro u1_ hu1_a hu1_b i2_ i3_ i4_ h0
      exact absurd h0 (Nat.not_lt_zero _)
    | succ n ih_2 =>
      intro u1_ hu1_a hu1_b i2_ i3_ i4_ hlt_2
      refine zw_iload_n (pc := 2) (n := 2) (x := Int32.ofInt u1_) rfl (zdal_p dlA_Tokens_pastDigits_83 (i := 2) rfl) ?_
      refine zw_aload_n (pc := 3) (n := 0) (x := 1) rfl (zdal_p dlA_Tokens_pastDigits_83 (i := 3) rfl) ?_
      refine zk_getI (pc := 4) f_Tokens_20 rfl ((hf.w hW).ka (o := 1) (by decide)) (zdal_p dlA_Tokens_pastDigits_83 (i := 4) rfl) ?_
      refine zr_icmp_ge (pc := 7) (tgt := 30) ⟨hu1_a, hu1_b⟩ ⟨(ze_r Mz 1 1).1, (ze_r Mz 1 1).2⟩ (by decide) (zdal_p dlA_Tokens_pastDigits_83 (i := 5) rfl) (fun hc_7 => ?_) (fun hc_7 => ?_)
      · skip
        refine zw_iload_n (pc := 30) (n := 2) (x := Int32.ofInt u1_) rfl (zdal_p dlA_Tokens_pastDigits_83 (i := 14) rfl) ?_
        exact zk_iret (pc := 31) (ty := .int) rfl rfl ⟨by (exact hu1_a), by (exact hu1_b)⟩ hf (show u1_ = (zru zpD b_ n_ (a0_).toNat : Nat) by first | exact zru_stop (P := zpD) (b := b_) (n := n_) (v := 0) (by (exact zo_1117 hu1_a i2_ p1_)) (Or.inl (by (exact zo_1118 hc_7 hn7_ hn_ hu1_a))) (by first | with_reducible assumption | assumption) | exact zru_stop (P := zpD) (b := b_) (n := n_) (by omega) (Or.inr ⟨hbv, by assumption⟩) (by first | with_reducible assumption | assumption)) (zdal_p dlA_Tokens_pastDigits_83 (i := 15) rfl)
      · skip
        refine zw_aload_n (pc := 10) (n := 0) (x := 1) rfl (zdal_p dlA_Tokens_pastDigits_83 (i := 6) rfl) ?_
        refine zw_getF (pc := 11) f_Tokens_14 rfl ((hf.w hW).ka (o := 1) (by decide)) ((hf.w hW).la (o := 1) (s := 0) (r := 2) (by decide)) (zdal_p dlA_Tokens_pastDigits_83 (i := 7) rfl) ?_
        refine zw_iload_n (pc := 14) (n := 2) (x := Int32.ofInt u1_) rfl (zdal_p dlA_Tokens_pastDigits_83 (i := 8) rfl) ?_
        refine zk_at hf.x (pc := 15) l_Tokens_47 ((hf.w hW).ka (o := 2) (by decide)) ((hf.w hW).la (o := 2) (s := 0) (r := 3) (by decide)) ((hf.w hW).ra (o := 3) (t := 1) (n := 700) (by decide)) (by decide) (by (exact zo_1117 hu1_a i2_ p1_)) (by (exact zo_1119 hc_7 hn7_ hn_ hu1_b i3_)) (by decide) (Nat.le_of_ble_eq_true rfl) (zdal_p dlA_Tokens_pastDigits_83 (i := 9) rfl) (fun v5_ hv5_ hv5_a hv5_b => ?_)
        have hbv : v5_ = b_ (u1_).toNat := hv5_.trans (hb_ _ (by (exact zo_1120 hc_7 hn_ hu1_a hu1_b i2_ i3_ p1_)))
        refine zr_callS hf.x (pc := 18) [.int (Int32.ofInt v5_)] [] l_Tokens_57 (u_Tokens_isDigit l d_ Mz (hf.w hW) v5_ hv5_a hv5_b) rfl rfl (by decide) (Nat.le_of_ble_eq_true rfl) (zdal_p dlA_Tokens_pastDigits_83 (i := 10) rfl) ?_
        rintro _ N6_ ⟨v7_, rfl, ⟨hv7_a, hv7_b⟩, hsN6_, hp0_N6_⟩
        obtain rfl := hsN6_.eq.symm
        replace hp0_N6_ : ((v7_ = 1 ∧ zpD v5_ = true) ∨ (v7_ = 0 ∧ zpD v5_ = false)) := hp0_N6_
        rcases hp0_N6_ with ⟨rfl, ha18_0_hp0_N6_⟩ | ⟨rfl, ha18_0_hp0_N6_⟩
        · skip
          show zW l m_Tokens_pastDigits (zn Mz + 0, zw Mz + 0) Mz 21 [some (.ref 1), some (.int (Int32.ofInt a0_)), some (.int (Int32.ofInt u1_))] [.int (Int32.ofInt 1)] _
          refine zr_if_eq (pc := 21) (tgt := 30) ⟨(by decide), (by decide)⟩ (by decide) (zdal_p dlA_Tokens_pastDigits_83 (i := 11) rfl) (fun hc_21 => ?_) (fun hc_21 => ?_)
          · skip
            exact absurd hc_21 (by decide)
          · skip
            refine zr_iinc (pc := 24) (i := 2) (a := u1_) (n := 1) (L2 := [some (.ref 1), some (.int (Int32.ofInt a0_)), some (.int (Int32.ofInt (u1_ + 1)))]) rfl (by decide) rfl (zdal_p dlA_Tokens_pastDigits_83 (i := 12) rfl) ?_
            refine zw_goto (pc := 27) (tgt := 2) (by decide) (zdal_p dlA_Tokens_pastDigits_83 (i := 13) rfl) ?_
            exact ih_2 (u1_ + 1) (by (exact zo_679 hu1_a)) (by (exact zo_1121 hn7_ hu1_b i3_)) (show a0_ ≤ (u1_ + 1) by first | with_reducible assumption | (exact zo_961 i2_) | assumption) (show (u1_ + 1) ≤ n_ by first | with_reducible assumption | (exact zo_1122 hc_7 hn_ hu1_b i3_) | assumption) (show zru zpD b_ n_ ((u1_ + 1)).toNat = zru zpD b_ n_ (a0_).toNat by exact zru_step (by (exact zo_1117 hu1_a i2_ p1_)) (by (exact zo_1123 hc_7 hn_ hu1_b i3_)) hbv (by first | with_reducible assumption | assumption) (by first | with_reducible assumption | assumption)) (by (exact zo_1124 hc_7 hlt_2 hn_ hu1_b i3_))
        · skip
          show zW l m_Tokens_pastDigits (zn Mz + 0, zw Mz + 0) Mz 21 [some (.ref 1), some (.int (Int32.ofInt a0_)), some (.int (Int32.ofInt u1_))] [.int (Int32.ofInt 0)] _
          refine zr_if_eq (pc := 21) (tgt := 30) ⟨(by decide), (by decide)⟩ (by decide) (zdal_p dlA_Tokens_pastDigits_83 (i := 11) rfl) (fun hc_21 => ?_) (fun hc_21 => ?_)
          · skip
            refine zw_iload_n (pc := 30) (n := 2) (x := Int32.ofInt u1_) rfl (zdal_p dlA_Tokens_pastDigits_83 (i := 14) rfl) ?_
            exact zk_iret (pc := 31) (ty := .int) rfl rfl ⟨by (exact hu1_a), by (exact hu1_b)⟩ hf (show u1_ = (zru zpD b_ n_ (a0_).toNat : Nat) by first | exact zru_stop (P := zpD) (b := b_) (n := n_) (v := 0) (by (exact zo_1117 hu1_a i2_ p1_)) (Or.inl (by omega)) (by first | with_reducible assumption | assumption) | exact zru_stop (P := zpD) (b := b_) (n := n_) (by (exact zo_1117 hu1_a i2_ p1_)) (Or.inr ⟨hbv, by assumption⟩) (by first | with_reducible assumption | assumption)) (zdal_p dlA_Tokens_pastDigits_83 (i := 15) rfl)
          · skip
            exact absurd hc_21 (by decide)
  exact lp_2 _ a0_ ha0_a ha0_b (show a0_ ≤ a0_ by first | with_reducible assumption | (exact zo_628) | assumption) (show a0_ ≤ n_ by first | with_reducible assumption | assumption | omega) (show zru zpD b_ n_ (a0_).toNat = zru zpD b_ n_ (a0_).toNat by rfl) (Nat.lt_succ_self _)
set_option maxHeartbeats 4000000 in
theorem u_Tokens_numberFrom (l : Launch) (d_ : Nat) (Mz : zMem) (hW : zKW d_ Mz) (a0_ : Int) (ha0_a : -2147483648 ≤ a0_) (ha0_b : a0_ < 2147483648) (a1_ : Int) (ha1_a : -2147483648 ≤ a1_) (ha1_b : a1_ < 2147483648) (b_ : Nat → Int) (n_ : Nat) (p0_ : zYb b_ n_ Mz) (p1_ : 0 ≤ a0_) (p2_ : a0_ ≤ a1_) (p3_ : a1_ ≤ n_) : zC l m_Tokens_numberFrom 0 0 [.ref 1, .int (Int32.ofInt a0_), .int (Int32.ofInt a1_)] Mz (zqcI d_ [] [] [] [] Mz (fun v N => (a1_ - a0_ ≤ 6 → v = zvl b_ (a0_).toNat (a1_ - a0_).toNat))) := by
  refine zC_of (L0 := [some (.ref 1), some (.int (Int32.ofInt a0_)), some (.int (Int32.ofInt a1_)), none, none]) md_Tokens_numberFrom (Nat.le_of_ble_eq_true rfl) rfl ?_ zQ0
  have hf : zFc d_ [] [] [] [] Mz Mz := zFc.rf
  obtain ⟨hn_, hn7_, hB_, hb_⟩ := id p0_
  refine zw_iconst (pc := 0) (v := Int32.ofInt 0) (by decide) (zdal_p dlA_Tokens_numberFrom_84 (i := 0) rfl) ?_
  refine zw_istore_n (pc := 1) (i := 3) (L2 := [some (.ref 1), some (.int (Int32.ofInt a0_)), some (.int (Int32.ofInt a1_)), some (.int (Int32.ofInt 0)), none]) rfl (by decide) rfl (zdal_p dlA_Tokens_numberFrom_84 (i := 1) rfl) ?_
  refine zw_iload_n (pc := 2) (n := 1) (x := Int32.ofInt a0_) rfl (zdal_p dlA_Tokens_numberFrom_84 (i := 2) rfl) ?_
  refine zw_istore (pc := 3) (i := 4) (L2 := [some (.ref 1), some (.int (Int32.ofInt a0_)), some (.int (Int32.ofInt a1_)), some (.int (Int32.ofInt 0)), some (.int (Int32.ofInt a0_))]) (by decide) rfl (zdal_p dlA_Tokens_numberFrom_84 (i := 3) rfl) ?_
  have lp_5 : ∀ (n : Nat) (u1_ : Int) (hu1_a : -2147483648 ≤ u1_) (hu1_b : u1_ < 2147483648) (u2_ : Int) (hu2_a : -2147483648 ≤ u2_) (hu2_b : u2_ < 2147483648) (i3_ : a0_ ≤ u2_) (i4_ : u2_ ≤ a1_) (i5_ : (u2_ - a0_ ≤ 6 → u1_ = zvl b_ (a0_).toNat (u2_ - a0_).toNat)), (a1_ - u2_).toNat < n → zW l m_Tokens_numberFrom (zn Mz + 0, zw Mz + 0) Mz 5 [some (.ref 1), some (.int (Int32.ofInt a0_)), some (.int (Int32.ofInt a1_)), some (.int (Int32.ofInt u1_)), some (.int (Int32.ofInt u2_))] [] (zqcI d_ [] [] [] [] Mz (fun v N => (a1_ - a0_ ≤ 6 → v = zvl b_ (a0_).toNat (a1_ - a0_).toNat))) := by
    intro n
    induction n with
    | zero =>
      intro u1_ hu1_a hu1_b u2_ hu2_a hu2_b i3_ i4_ i5_ h0
      exact absurd h0 (Nat.not_lt_zero _)
    | succ n ih_5 =>
      intro u1_ hu1_a hu1_b u2_ hu2_a hu2_b i3_ i4_ i5_ hlt_5
      refine zw_iload (pc := 5) (i := 4) (x := Int32.ofInt u2_) rfl (zdal_p dlA_Tokens_numberFrom_84 (i := 4) rfl) ?_
      refine zw_iload_n (pc := 7) (n := 2) (x := Int32.ofInt a1_) rfl (zdal_p dlA_Tokens_numberFrom_84 (i := 5) rfl) ?_
      refine zr_icmp_ge (pc := 8) (tgt := 35) ⟨hu2_a, hu2_b⟩ ⟨ha1_a, ha1_b⟩ (by decide) (zdal_p dlA_Tokens_numberFrom_84 (i := 6) rfl) (fun hc_8 => ?_) (fun hc_8 => ?_)
      · skip
        refine zw_iload_n (pc := 35) (n := 3) (x := Int32.ofInt u1_) rfl (zdal_p dlA_Tokens_numberFrom_84 (i := 20) rfl) ?_
        exact zk_iret (pc := 36) (ty := .int) rfl rfl ⟨by (exact hu1_a), by (exact hu1_b)⟩ hf (show (a1_ - a0_ ≤ 6 → u1_ = zvl b_ (a0_).toNat (a1_ - a0_).toNat) by have e : (u2_) = a1_ := (by (exact zo_1125 hc_8 i4_)); rw [← e]; assumption) (zdal_p dlA_Tokens_numberFrom_84 (i := 21) rfl)
      · skip
        refine zw_iload_n (pc := 11) (n := 3) (x := Int32.ofInt u1_) rfl (zdal_p dlA_Tokens_numberFrom_84 (i := 7) rfl) ?_
        refine zw_bipush (pc := 12) (v := Int32.ofInt 10) (by decide) (zdal_p dlA_Tokens_numberFrom_84 (i := 8) rfl) ?_
        refine zr_imul (pc := 14) (zdal_p dlA_Tokens_numberFrom_84 (i := 9) rfl) ?_
        refine zw_aload_n (pc := 15) (n := 0) (x := 1) rfl (zdal_p dlA_Tokens_numberFrom_84 (i := 10) rfl) ?_
        refine zw_getF (pc := 16) f_Tokens_14 rfl ((hf.w hW).ka (o := 1) (by decide)) ((hf.w hW).la (o := 1) (s := 0) (r := 2) (by decide)) (zdal_p dlA_Tokens_numberFrom_84 (i := 11) rfl) ?_
        refine zw_iload (pc := 19) (i := 4) (x := Int32.ofInt u2_) rfl (zdal_p dlA_Tokens_numberFrom_84 (i := 12) rfl) ?_
        refine zk_at hf.x (pc := 21) l_Tokens_47 ((hf.w hW).ka (o := 2) (by decide)) ((hf.w hW).la (o := 2) (s := 0) (r := 3) (by decide)) ((hf.w hW).ra (o := 3) (t := 1) (n := 700) (by decide)) (by decide) (by (exact zo_1117 hu2_a i3_ p1_)) (by (exact zo_1126 hc_8 hn7_ p3_)) (by decide) (Nat.le_of_ble_eq_true rfl) (zdal_p dlA_Tokens_numberFrom_84 (i := 13) rfl) (fun v6_ hv6_ hv6_a hv6_b => ?_)
        have hbv : v6_ = b_ (u2_).toNat := hv6_.trans (hb_ _ (by (exact zo_1127 hc_8 hu2_a i3_ p1_ p3_)))
        refine zr_iadd (pc := 24) (zdal_p dlA_Tokens_numberFrom_84 (i := 14) rfl) ?_
        refine zw_bipush (pc := 25) (v := Int32.ofInt 48) (by decide) (zdal_p dlA_Tokens_numberFrom_84 (i := 15) rfl) ?_
        refine zr_isub (pc := 27) (zdal_p dlA_Tokens_numberFrom_84 (i := 16) rfl) ?_
        refine zk_nmI (fun v7_ hv7_ hv7_e => ?_)
        obtain ⟨hv7_a, hv7_b⟩ := hv7_
        have hnm := hv7_e
        refine zw_istore_n (pc := 28) (i := 3) (L2 := [some (.ref 1), some (.int (Int32.ofInt a0_)), some (.int (Int32.ofInt a1_)), some (.int (Int32.ofInt v7_)), some (.int (Int32.ofInt u2_))]) rfl (by decide) rfl (zdal_p dlA_Tokens_numberFrom_84 (i := 17) rfl) ?_
        refine zr_iinc (pc := 29) (i := 4) (a := u2_) (n := 1) (L2 := [some (.ref 1), some (.int (Int32.ofInt a0_)), some (.int (Int32.ofInt a1_)), some (.int (Int32.ofInt v7_)), some (.int (Int32.ofInt (u2_ + 1)))]) rfl (by decide) rfl (zdal_p dlA_Tokens_numberFrom_84 (i := 18) rfl) ?_
        refine zw_goto (pc := 32) (tgt := 5) (by decide) (zdal_p dlA_Tokens_numberFrom_84 (i := 19) rfl) ?_
        exact ih_5 v7_ hv7_a hv7_b (u2_ + 1) (by (exact zo_679 hu2_a)) (by (exact zo_1128 ha1_b hc_8 hn7_ p3_)) (show a0_ ≤ (u2_ + 1) by first | with_reducible assumption | (exact zo_961 i3_) | assumption) (show (u2_ + 1) ≤ a1_ by first | with_reducible assumption | assumption | omega) (show ((u2_ + 1) - a0_ ≤ 6 → v7_ = zvl b_ (a0_).toNat ((u2_ + 1) - a0_).toNat) by exact zvl_step hB_ (by (exact p1_)) (by (exact i3_)) (by (exact zo_1129 hc_8 p3_)) (by first | with_reducible assumption | assumption) hbv hnm) (by (exact zo_147 hc_8 hlt_5))
  exact lp_5 _ 0 (by decide) (by decide) a0_ ha0_a ha0_b (show a0_ ≤ a0_ by first | with_reducible assumption | (exact zo_628) | assumption) (show a0_ ≤ a1_ by first | with_reducible assumption | assumption | omega) (show (a0_ - a0_ ≤ 6 → (0 : Int) = zvl b_ (a0_).toNat (a0_ - a0_).toNat) by intro _; rw [show (a0_ - a0_).toNat = 0 by (exact zo_1130)]; rfl) (Nat.lt_succ_self _)
set_option maxHeartbeats 4000000 in
theorem u_Tokens_readWord (l : Launch) (d_ : Nat) (Mz : zMem) (hW : zKW d_ Mz) (b_ : Nat → Int) (n_ : Nat) (p0_ : zYb b_ n_ Mz) (p1_ : 0 ≤ ze Mz 1 2) (p2_ : ze Mz 1 2 < n_) (p3_ : ze Mz 1 3 = ze Mz 1 2) (p4_ : ze Mz 1 5 = 0) : zC l m_Tokens_readWord 0 0 [.ref 1] Mz (zqcV d_ [(1, 3), (1, 4), (1, 5)] [] [] [] Mz (fun N => ze N 1 3 = (zru zpL b_ n_ (ze Mz 1 2).toNat : Nat) ∧ ((zru zpL b_ n_ (ze Mz 1 2).toNat : Nat) - ze Mz 1 2 ≤ 6 → ze N 1 5 = zw2 b_ (ze Mz 1 2).toNat ((zru zpL b_ n_ (ze Mz 1 2).toNat) - (ze Mz 1 2).toNat)) ∧ ((((zru zpL b_ n_ (ze Mz 1 2).toNat : Nat) - ze Mz 1 2 ≤ 6 ∧ ze N 1 4 = 1) ∨ (6 < (zru zpL b_ n_ (ze Mz 1 2).toNat : Nat) - ze Mz 1 2 ∧ ze N 1 4 = 4))))) := by
  refine zC_of (L0 := [some (.ref 1)]) md_Tokens_readWord (Nat.le_of_ble_eq_true rfl) rfl ?_ zQ0
  have hf : zFc d_ [(1, 3), (1, 4), (1, 5)] [] [] [] Mz Mz := zFc.rf
  have r_A1_1 := ze_r Mz 1 1
  have r_A1_2 := ze_r Mz 1 2
  have r_A1_3 := ze_r Mz 1 3
  have r_A1_4 := ze_r Mz 1 4
  have r_A1_5 := ze_r Mz 1 5
  obtain ⟨hn_, hn7_, hB_, hb_⟩ := id p0_
  have lp_0 : ∀ (n : Nat) (N1_ : zMem) (hs2_ : zFc d_ [(1, 3), (1, 5)] [] [] [] Mz N1_) (i3_ : ze Mz 1 2 ≤ ze N1_ 1 3) (i4_ : ze N1_ 1 3 ≤ n_) (i5_ : zru zpL b_ n_ (ze N1_ 1 3).toNat = zru zpL b_ n_ (ze Mz 1 2).toNat) (i6_ : (ze N1_ 1 3 - ze Mz 1 2 ≤ 6 → ze N1_ 1 5 = zw2 b_ (ze Mz 1 2).toNat (ze N1_ 1 3 - ze Mz 1 2).toNat)) (i7_ : ∀ j : Nat, (ze Mz 1 2).toNat ≤ j → j < (ze N1_ 1 3).toNat → zpL (b_ j) = true), (n_ - ze N1_ 1 3).toNat < n → zW l m_Tokens_readWord (zn Mz + 0, zw Mz + 0) N1_ 0 [some (.ref 1)] [] (zqcV d_ [(1, 3), (1, 4), (1, 5)] [] [] [] Mz (fun N => ze N 1 3 = (zru zpL b_ n_ (ze Mz 1 2).toNat : Nat) ∧ ((zru zpL b_ n_ (ze Mz 1 2).toNat : Nat) - ze Mz 1 2 ≤ 6 → ze N 1 5 = zw2 b_ (ze Mz 1 2).toNat ((zru zpL b_ n_ (ze Mz 1 2).toNat) - (ze Mz 1 2).toNat)) ∧ ((((zru zpL b_ n_ (ze Mz 1 2).toNat : Nat) - ze Mz 1 2 ≤ 6 ∧ ze N 1 4 = 1) ∨ (6 < (zru zpL b_ n_ (ze Mz 1 2).toNat : Nat) - ze Mz 1 2 ∧ ze N 1 4 = 4))))) := by
    intro n
    induction n with
    | zero =>
      intro N1_ hs2_ i3_ i4_ i5_ i6_ i7_ h0
      exact absurd h0 (Nat.not_lt_zero _)
    | succ n ih_0 =>
      intro N1_ hs2_ i3_ i4_ i5_ i6_ i7_ hlt_0
      have hf_N1_ : zFc d_ [(1, 3), (1, 4), (1, 5)] [] [] [] Mz N1_ := hf.tr hs2_ (by decide) (by decide) (by decide) (by decide)
      have eA1_1_N1_ : ze N1_ 1 1 = ze Mz 1 1 := hs2_.ea (hf.w hW) (by decide)
      have eA1_2_N1_ : ze N1_ 1 2 = ze Mz 1 2 := hs2_.ea (hf.w hW) (by decide)
      have rA1_3_N1_ := ze_r N1_ 1 3
      have eA1_4_N1_ : ze N1_ 1 4 = ze Mz 1 4 := hs2_.ea (hf.w hW) (by decide)
      have rA1_5_N1_ := ze_r N1_ 1 5
      have c8_ : zYb b_ n_ N1_ := zYb.fr (hf.w hW) hs2_ p0_ (by decide)
      refine zw_aload_n (pc := 0) (n := 0) (x := 1) rfl (zdal_p dlA_Tokens_readWord_78 (i := 0) rfl) ?_
      refine zk_getI (pc := 1) f_Tokens_28 rfl ((hf_N1_.w hW).ka (o := 1) (by decide)) (zdal_p dlA_Tokens_readWord_78 (i := 1) rfl) ?_
      refine zw_aload_n (pc := 4) (n := 0) (x := 1) rfl (zdal_p dlA_Tokens_readWord_78 (i := 2) rfl) ?_
      refine zk_getI (pc := 5) f_Tokens_20 rfl ((hf_N1_.w hW).ka (o := 1) (by decide)) (zdal_p dlA_Tokens_readWord_78 (i := 3) rfl) ?_
      rw [hf_N1_.ea hW (by decide)]
      refine zr_icmp_ge (pc := 8) (tgt := 69) ⟨(ze_r N1_ 1 3).1, (ze_r N1_ 1 3).2⟩ ⟨(ze_r Mz 1 1).1, (ze_r Mz 1 1).2⟩ (by decide) (zdal_p dlA_Tokens_readWord_78 (i := 4) rfl) (fun hc_8 => ?_) (fun hc_8 => ?_)
      · skip
        have hx_ : ze N1_ 1 3 = (zru zpL b_ n_ (ze Mz 1 2).toNat : Nat) := by first | exact zru_stop (P := zpL) (b := b_) (n := n_) (v := 0) (by (exact zo_839 i3_ p1_ rA1_3_N1_.1)) (Or.inl (by (exact zo_1118 hc_8 hn7_ hn_ rA1_3_N1_.1))) (by first | with_reducible assumption | assumption) | exact zru_stop (P := zpL) (b := b_) (n := n_) (by omega) (Or.inr ⟨hbl, by assumption⟩) (by first | with_reducible assumption | assumption)
        have hv_ := (show (ze N1_ 1 3 - ze Mz 1 2 ≤ 6 → ze N1_ 1 5 = zw2 b_ (ze Mz 1 2).toNat (ze N1_ 1 3 - ze Mz 1 2).toNat) by first | with_reducible assumption | assumption)
        rw [show (ze N1_ 1 3 - ze Mz 1 2).toNat = zru zpL b_ n_ (ze Mz 1 2).toNat - (ze Mz 1 2).toNat by omega] at hv_
        refine zw_aload_n (pc := 69) (n := 0) (x := 1) rfl (zdal_p dlA_Tokens_readWord_79 (i := 11) rfl) ?_
        refine zw_aload_n (pc := 70) (n := 0) (x := 1) rfl (zdal_p dlA_Tokens_readWord_79 (i := 12) rfl) ?_
        refine zk_getI (pc := 71) f_Tokens_28 rfl ((hf_N1_.w hW).ka (o := 1) (by decide)) (zdal_p dlA_Tokens_readWord_79 (i := 13) rfl) ?_
        refine zw_aload_n (pc := 74) (n := 0) (x := 1) rfl (zdal_p dlA_Tokens_readWord_79 (i := 14) rfl) ?_
        refine zk_getI (pc := 75) f_Tokens_38 rfl ((hf_N1_.w hW).ka (o := 1) (by decide)) (zdal_p dlA_Tokens_readWord_79 (i := 15) rfl) ?_
        rw [hf_N1_.ea hW (by decide)]
        refine zr_isub (pc := 78) (zdal_p dlA_Tokens_readWord_79 (i := 16) rfl) ?_
        refine zw_bipush (pc := 79) (v := Int32.ofInt 6) (by decide) (zdal_p dlA_Tokens_readWord_79 (i := 17) rfl) ?_
        refine zr_icmp_gt (pc := 81) (tgt := 88) ⟨(by (exact zo_1131 i3_)), (by (exact zo_1132 hn7_ i4_ p1_ rA1_3_N1_.2))⟩ ⟨(by decide), (by decide)⟩ (by decide) (zdal_p dlA_Tokens_readWord_79 (i := 18) rfl) (fun hc_81 => ?_) (fun hc_81 => ?_)
        · skip
          refine zw_iconst (pc := 88) (v := Int32.ofInt 4) (by decide) (zdal_p dlA_Tokens_readWord_79 (i := 21) rfl) ?_
          refine zk_putA (pc := 89) (hf_N1_.w hW) (by decide) f_Tokens_44 rfl rfl ((hf_N1_.w hW).ka (o := 1) (by decide)) ⟨by (decide), by (decide)⟩ rfl rfl (zdal_p dlA_Tokens_readWord_79 (i := 22) rfl) (fun N9_ hsN9_ hvN9_ => ?_)
          have hf_N9_ : zFc d_ [(1, 3), (1, 4), (1, 5)] [] [] [] Mz N9_ := hf_N1_.tr hsN9_ (by decide) (by decide) (by decide) (by decide)
          have eA1_3_N9_ : ze N9_ 1 3 = ze N1_ 1 3 := hsN9_.ea (hf_N1_.w hW) (by decide)
          have eA1_5_N9_ : ze N9_ 1 5 = ze N1_ 1 5 := hsN9_.ea (hf_N1_.w hW) (by decide)
          exact zk_vret (pc := 92) rfl hf_N9_ ⟨(show ze N9_ 1 3 = (zru zpL b_ n_ (ze Mz 1 2).toNat : Nat) by first | with_reducible assumption | (exact zo_1133 eA1_3_N9_ hn7_ hx_ i4_ rA1_3_N1_.2) | assumption), (show ((zru zpL b_ n_ (ze Mz 1 2).toNat : Nat) - ze Mz 1 2 ≤ 6 → ze N9_ 1 5 = zw2 b_ (ze Mz 1 2).toNat ((zru zpL b_ n_ (ze Mz 1 2).toNat) - (ze Mz 1 2).toNat)) by intro hq_; have := hv_ (by (exact zo_1134 hn7_ hq_ hx_ i4_ p1_ rA1_3_N1_.2)); (exact zo_794 eA1_5_N9_ this)), (show (((zru zpL b_ n_ (ze Mz 1 2).toNat : Nat) - ze Mz 1 2 ≤ 6 ∧ ze N9_ 1 4 = 1) ∨ (6 < (zru zpL b_ n_ (ze Mz 1 2).toNat : Nat) - ze Mz 1 2 ∧ ze N9_ 1 4 = 4)) by first | with_reducible assumption | (exact zo_1135 hc_81 hvN9_ hx_) | assumption)⟩ (zdal_p dlA_Tokens_readWord_79 (i := 23) rfl)
        · skip
          refine zw_iconst (pc := 84) (v := Int32.ofInt 1) (by decide) (zdal_p dlA_Tokens_readWord_79 (i := 19) rfl) ?_
          refine zw_goto (pc := 85) (tgt := 89) (by decide) (zdal_p dlA_Tokens_readWord_79 (i := 20) rfl) ?_
          refine zk_putA (pc := 89) (hf_N1_.w hW) (by decide) f_Tokens_44 rfl rfl ((hf_N1_.w hW).ka (o := 1) (by decide)) ⟨by (decide), by (decide)⟩ rfl rfl (zdal_p dlA_Tokens_readWord_79 (i := 22) rfl) (fun N11_ hsN11_ hvN11_ => ?_)
          have hf_N11_ : zFc d_ [(1, 3), (1, 4), (1, 5)] [] [] [] Mz N11_ := hf_N1_.tr hsN11_ (by decide) (by decide) (by decide) (by decide)
          have eA1_3_N11_ : ze N11_ 1 3 = ze N1_ 1 3 := hsN11_.ea (hf_N1_.w hW) (by decide)
          have eA1_5_N11_ : ze N11_ 1 5 = ze N1_ 1 5 := hsN11_.ea (hf_N1_.w hW) (by decide)
          exact zk_vret (pc := 92) rfl hf_N11_ ⟨(show ze N11_ 1 3 = (zru zpL b_ n_ (ze Mz 1 2).toNat : Nat) by first | with_reducible assumption | (exact zo_1133 eA1_3_N11_ hn7_ hx_ i4_ rA1_3_N1_.2) | assumption), (show ((zru zpL b_ n_ (ze Mz 1 2).toNat : Nat) - ze Mz 1 2 ≤ 6 → ze N11_ 1 5 = zw2 b_ (ze Mz 1 2).toNat ((zru zpL b_ n_ (ze Mz 1 2).toNat) - (ze Mz 1 2).toNat)) by intro hq_; have := hv_ (by (exact hc_81)); (exact zo_794 eA1_5_N11_ this)), (show (((zru zpL b_ n_ (ze Mz 1 2).toNat : Nat) - ze Mz 1 2 ≤ 6 ∧ ze N11_ 1 4 = 1) ∨ (6 < (zru zpL b_ n_ (ze Mz 1 2).toNat : Nat) - ze Mz 1 2 ∧ ze N11_ 1 4 = 4)) by first | with_reducible assumption | (exact zo_1136 hc_81 hvN11_ hx_) | assumption)⟩ (zdal_p dlA_Tokens_readWord_79 (i := 23) rfl)
      · skip
        refine zw_aload_n (pc := 11) (n := 0) (x := 1) rfl (zdal_p dlA_Tokens_readWord_78 (i := 5) rfl) ?_
        refine zw_getF (pc := 12) f_Tokens_14 rfl ((hf_N1_.w hW).ka (o := 1) (by decide)) ((hf_N1_.w hW).la (o := 1) (s := 0) (r := 2) (by decide)) (zdal_p dlA_Tokens_readWord_78 (i := 6) rfl) ?_
        refine zw_aload_n (pc := 15) (n := 0) (x := 1) rfl (zdal_p dlA_Tokens_readWord_78 (i := 7) rfl) ?_
        refine zk_getI (pc := 16) f_Tokens_28 rfl ((hf_N1_.w hW).ka (o := 1) (by decide)) (zdal_p dlA_Tokens_readWord_78 (i := 8) rfl) ?_
        refine zk_at hf_N1_.x (pc := 19) l_Tokens_47 ((hf_N1_.w hW).ka (o := 2) (by decide)) ((hf_N1_.w hW).la (o := 2) (s := 0) (r := 3) (by decide)) ((hf_N1_.w hW).ra (o := 3) (t := 1) (n := 700) (by decide)) (by decide) (by (exact zo_839 i3_ p1_ rA1_3_N1_.1)) (by (exact zo_1137 hc_8 hn7_ hn_ i4_ rA1_3_N1_.2)) (by decide) (Nat.le_of_ble_eq_true rfl) (zdal_p dlA_Tokens_readWord_78 (i := 9) rfl) (fun v13_ hv13_ hv13_a hv13_b => ?_)
        rw [hf_N1_.ra hW (by decide)] at hv13_
        have hbl : v13_ = b_ (ze N1_ 1 3).toNat := hv13_.trans (hb_ _ (by (exact zo_1138 hc_8 hn_ i3_ i4_ p1_ rA1_3_N1_.1 rA1_3_N1_.2)))
        refine zr_callS hf_N1_.x (pc := 22) [.int (Int32.ofInt v13_)] [] l_Tokens_50 (u_Tokens_isLetter l d_ N1_ (hf_N1_.w hW) v13_ hv13_a hv13_b) rfl rfl (by decide) (Nat.le_of_ble_eq_true rfl) (zdal_p dlA_Tokens_readWord_78 (i := 10) rfl) ?_
        rintro _ N14_ ⟨v15_, rfl, ⟨hv15_a, hv15_b⟩, hsN14_, hp0_N14_⟩
        obtain rfl := hsN14_.eq.symm
        replace hp0_N14_ : ((v15_ = 1 ∧ zpL v13_ = true) ∨ (v15_ = 0 ∧ zpL v13_ = false)) := hp0_N14_
        rcases hp0_N14_ with ⟨rfl, ha22_0_hp0_N14_⟩ | ⟨rfl, ha22_0_hp0_N14_⟩
        · skip
          show zW l m_Tokens_readWord (zn Mz + 0, zw Mz + 0) N1_ 25 [some (.ref 1)] [.int (Int32.ofInt 1)] _
          refine zr_if_eq (pc := 25) (tgt := 69) ⟨(by decide), (by decide)⟩ (by decide) (zdal_p dlA_Tokens_readWord_78 (i := 11) rfl) (fun hc_25 => ?_) (fun hc_25 => ?_)
          · skip
            exact absurd hc_25 (by decide)
          · skip
            refine zw_aload_n (pc := 28) (n := 0) (x := 1) rfl (zdal_p dlA_Tokens_readWord_78 (i := 12) rfl) ?_
            refine zw_aload_n (pc := 29) (n := 0) (x := 1) rfl (zdal_p dlA_Tokens_readWord_78 (i := 13) rfl) ?_
            refine zk_getI (pc := 30) f_Tokens_41 rfl ((hf_N1_.w hW).ka (o := 1) (by decide)) (zdal_p dlA_Tokens_readWord_78 (i := 14) rfl) ?_
            refine zw_bipush (pc := 33) (v := Int32.ofInt 27) (by decide) (zdal_p dlA_Tokens_readWord_78 (i := 15) rfl) ?_
            refine zr_imul (pc := 35) (zdal_p dlA_Tokens_readWord_78 (i := 16) rfl) ?_
            refine zw_aload_n (pc := 36) (n := 0) (x := 1) rfl (zdal_p dlA_Tokens_readWord_78 (i := 17) rfl) ?_
            refine zw_getF (pc := 37) f_Tokens_14 rfl ((hf_N1_.w hW).ka (o := 1) (by decide)) ((hf_N1_.w hW).la (o := 1) (s := 0) (r := 2) (by decide)) (zdal_p dlA_Tokens_readWord_78 (i := 18) rfl) ?_
            refine zw_aload_n (pc := 40) (n := 0) (x := 1) rfl (zdal_p dlA_Tokens_readWord_78 (i := 19) rfl) ?_
            refine zk_getI (pc := 41) f_Tokens_28 rfl ((hf_N1_.w hW).ka (o := 1) (by decide)) (zdal_p dlA_Tokens_readWord_78 (i := 20) rfl) ?_
            refine zk_at hf_N1_.x (pc := 44) l_Tokens_47 ((hf_N1_.w hW).ka (o := 2) (by decide)) ((hf_N1_.w hW).la (o := 2) (s := 0) (r := 3) (by decide)) ((hf_N1_.w hW).ra (o := 3) (t := 1) (n := 700) (by decide)) (by decide) (by (exact zo_839 i3_ p1_ rA1_3_N1_.1)) (by (exact zo_1137 hc_8 hn7_ hn_ i4_ rA1_3_N1_.2)) (by decide) (Nat.le_of_ble_eq_true rfl) (zdal_p dlA_Tokens_readWord_78 (i := 21) rfl) (fun v16_ hv16_ hv16_a hv16_b => ?_)
            rw [hf_N1_.ra hW (by decide)] at hv16_
            have hbv : v16_ = b_ (ze N1_ 1 3).toNat := hv16_.trans (hb_ _ (by (exact zo_1138 hc_8 hn_ i3_ i4_ p1_ rA1_3_N1_.1 rA1_3_N1_.2)))
            refine zr_iadd (pc := 47) (zdal_p dlA_Tokens_readWord_78 (i := 22) rfl) ?_
            refine zw_bipush (pc := 48) (v := Int32.ofInt 97) (by decide) (zdal_p dlA_Tokens_readWord_78 (i := 23) rfl) ?_
            refine zr_isub (pc := 50) (zdal_p dlA_Tokens_readWord_79 (i := 0) rfl) ?_
            refine zw_iconst (pc := 51) (v := Int32.ofInt 1) (by decide) (zdal_p dlA_Tokens_readWord_79 (i := 1) rfl) ?_
            refine zr_iadd (pc := 52) (zdal_p dlA_Tokens_readWord_79 (i := 2) rfl) ?_
            refine zk_nmI (fun v17_ hv17_ hv17_e => ?_)
            obtain ⟨hv17_a, hv17_b⟩ := hv17_
            have hnm := hv17_e
            obtain ⟨w_, hw_⟩ : ∃ w, w = v17_ := ⟨_, rfl⟩
            rw [← hw_] at hnm
            refine zk_putA (pc := 53) (hf_N1_.w hW) (by decide) f_Tokens_41 rfl rfl ((hf_N1_.w hW).ka (o := 1) (by decide)) ⟨by (exact hv17_a), by (exact hv17_b)⟩ rfl rfl (zdal_p dlA_Tokens_readWord_79 (i := 3) rfl) (fun N18_ hsN18_ hvN18_ => ?_)
            have hf_N18_ : zFc d_ [(1, 3), (1, 4), (1, 5)] [] [] [] Mz N18_ := hf_N1_.tr hsN18_ (by decide) (by decide) (by decide) (by decide)
            have hb0_N18_ : zFc d_ [(1, 3), (1, 5)] [] [] [] Mz N18_ := hs2_.tr hsN18_ (by decide) (by decide) (by decide) (by decide)
            have eA1_3_N18_ : ze N18_ 1 3 = ze N1_ 1 3 := hsN18_.ea (hf_N1_.w hW) (by decide)
            have c19_ : zYb b_ n_ N18_ := zYb.fr (hf_N1_.w hW) hsN18_ c8_ (by decide)
            refine zw_aload_n (pc := 56) (n := 0) (x := 1) rfl (zdal_p dlA_Tokens_readWord_79 (i := 4) rfl) ?_
            refine zw_dup (pc := 57) rfl (zdal_p dlA_Tokens_readWord_79 (i := 5) rfl) ?_
            refine zk_getI (pc := 58) f_Tokens_28 rfl ((hf_N18_.w hW).ka (o := 1) (by decide)) (zdal_p dlA_Tokens_readWord_79 (i := 6) rfl) ?_
            refine zw_iconst (pc := 61) (v := Int32.ofInt 1) (by decide) (zdal_p dlA_Tokens_readWord_79 (i := 7) rfl) ?_
            refine zr_iadd (pc := 62) (zdal_p dlA_Tokens_readWord_79 (i := 8) rfl) ?_
            refine zk_putA (pc := 63) (hf_N18_.w hW) (by decide) f_Tokens_28 rfl rfl ((hf_N18_.w hW).ka (o := 1) (by decide)) ⟨by (exact zo_1139 eA1_3_N18_ rA1_3_N1_.1), by (exact zo_1140 eA1_3_N18_ hn7_ i4_ rA1_3_N1_.2)⟩ rfl rfl (zdal_p dlA_Tokens_readWord_79 (i := 9) rfl) (fun N20_ hsN20_ hvN20_ => ?_)
            have hf_N20_ : zFc d_ [(1, 3), (1, 4), (1, 5)] [] [] [] Mz N20_ := hf_N18_.tr hsN20_ (by decide) (by decide) (by decide) (by decide)
            have hb0_N20_ : zFc d_ [(1, 3), (1, 5)] [] [] [] Mz N20_ := hb0_N18_.tr hsN20_ (by decide) (by decide) (by decide) (by decide)
            have rA1_3_N20_ := ze_r N20_ 1 3
            have eA1_5_N20_ : ze N20_ 1 5 = ze N18_ 1 5 := hsN20_.ea (hf_N18_.w hW) (by decide)
            have c21_ : zYb b_ n_ N20_ := zYb.fr (hf_N18_.w hW) hsN20_ c19_ (by decide)
            refine zw_goto (pc := 66) (tgt := 0) (by decide) (zdal_p dlA_Tokens_readWord_79 (i := 10) rfl) ?_
            have ea : ze N20_ 1 3 = ze N1_ 1 3 + 1 := by (exact zo_1141 eA1_3_N18_ hn7_ hvN20_ i4_ rA1_3_N1_.2 rA1_3_N20_.1)
            have ev : ze N20_ 1 5 = w_ := by (exact zo_1142 eA1_5_N20_ hvN18_ hw_)
            exact ih_0 N20_ hb0_N20_ (show ze Mz 1 2 ≤ ze N20_ 1 3 by first | with_reducible assumption | (exact zo_855 ea i3_ rA1_3_N20_.1 r_A1_2.2) | assumption) (show ze N20_ 1 3 ≤ n_ by first | with_reducible assumption | (exact zo_1143 ea hc_8 hn_ i4_ rA1_3_N1_.2) | assumption) (show zru zpL b_ n_ (ze N20_ 1 3).toNat = zru zpL b_ n_ (ze Mz 1 2).toNat by rw [ea]; exact zru_step (by (exact zo_839 i3_ p1_ rA1_3_N1_.1)) (by (exact zo_1144 hc_8 hn_ i4_ rA1_3_N1_.2)) hbl (by first | with_reducible assumption | assumption) (by first | with_reducible assumption | assumption)) (show (ze N20_ 1 3 - ze Mz 1 2 ≤ 6 → ze N20_ 1 5 = zw2 b_ (ze Mz 1 2).toNat (ze N20_ 1 3 - ze Mz 1 2).toNat) by rw [ea, ev]; exact zw2_step (n := n_) (by (exact p1_)) (by (exact i3_)) (by (exact zo_1144 hc_8 hn_ i4_ rA1_3_N1_.2)) (by first | with_reducible assumption | assumption) (by first | with_reducible assumption | assumption) hbv (by rw [hbv, ← hbl]; assumption) hnm) (show ∀ j : Nat, (ze Mz 1 2).toNat ≤ j → j < (ze N20_ 1 3).toNat → zpL (b_ j) = true by intro j h1 h2; rw [ea] at h2; by_cases hj : j < (ze N1_ 1 3).toNat; exact (by assumption : ∀ j : Nat, _ ≤ j → j < (ze N1_ 1 3).toNat → zpL (b_ j) = true) j h1 hj; rw [show j = (ze N1_ 1 3).toNat by (exact zo_1145 h2 hj hn7_ i3_ i4_ p1_ rA1_3_N1_.1 rA1_3_N1_.2), ← hbl]; assumption) (by (exact zo_1146 ea hc_8 hlt_0 hn7_ hn_ i4_ rA1_3_N1_.2 rA1_3_N20_.1))
        · skip
          show zW l m_Tokens_readWord (zn Mz + 0, zw Mz + 0) N1_ 25 [some (.ref 1)] [.int (Int32.ofInt 0)] _
          refine zr_if_eq (pc := 25) (tgt := 69) ⟨(by decide), (by decide)⟩ (by decide) (zdal_p dlA_Tokens_readWord_78 (i := 11) rfl) (fun hc_25 => ?_) (fun hc_25 => ?_)
          · skip
            have hx_ : ze N1_ 1 3 = (zru zpL b_ n_ (ze Mz 1 2).toNat : Nat) := by first | exact zru_stop (P := zpL) (b := b_) (n := n_) (v := 0) (by (exact zo_839 i3_ p1_ rA1_3_N1_.1)) (Or.inl (by omega)) (by first | with_reducible assumption | assumption) | exact zru_stop (P := zpL) (b := b_) (n := n_) (by (exact zo_839 i3_ p1_ rA1_3_N1_.1)) (Or.inr ⟨hbl, by assumption⟩) (by first | with_reducible assumption | assumption)
            have hv_ := (show (ze N1_ 1 3 - ze Mz 1 2 ≤ 6 → ze N1_ 1 5 = zw2 b_ (ze Mz 1 2).toNat (ze N1_ 1 3 - ze Mz 1 2).toNat) by first | with_reducible assumption | assumption)
            rw [show (ze N1_ 1 3 - ze Mz 1 2).toNat = zru zpL b_ n_ (ze Mz 1 2).toNat - (ze Mz 1 2).toNat by omega] at hv_
            refine zw_aload_n (pc := 69) (n := 0) (x := 1) rfl (zdal_p dlA_Tokens_readWord_79 (i := 11) rfl) ?_
            refine zw_aload_n (pc := 70) (n := 0) (x := 1) rfl (zdal_p dlA_Tokens_readWord_79 (i := 12) rfl) ?_
            refine zk_getI (pc := 71) f_Tokens_28 rfl ((hf_N1_.w hW).ka (o := 1) (by decide)) (zdal_p dlA_Tokens_readWord_79 (i := 13) rfl) ?_
            refine zw_aload_n (pc := 74) (n := 0) (x := 1) rfl (zdal_p dlA_Tokens_readWord_79 (i := 14) rfl) ?_
            refine zk_getI (pc := 75) f_Tokens_38 rfl ((hf_N1_.w hW).ka (o := 1) (by decide)) (zdal_p dlA_Tokens_readWord_79 (i := 15) rfl) ?_
            rw [hf_N1_.ea hW (by decide)]
            refine zr_isub (pc := 78) (zdal_p dlA_Tokens_readWord_79 (i := 16) rfl) ?_
            refine zw_bipush (pc := 79) (v := Int32.ofInt 6) (by decide) (zdal_p dlA_Tokens_readWord_79 (i := 17) rfl) ?_
            refine zr_icmp_gt (pc := 81) (tgt := 88) ⟨(by (exact zo_1131 i3_)), (by (exact zo_1132 hn7_ i4_ p1_ rA1_3_N1_.2))⟩ ⟨(by decide), (by decide)⟩ (by decide) (zdal_p dlA_Tokens_readWord_79 (i := 18) rfl) (fun hc_81 => ?_) (fun hc_81 => ?_)
            · skip
              refine zw_iconst (pc := 88) (v := Int32.ofInt 4) (by decide) (zdal_p dlA_Tokens_readWord_79 (i := 21) rfl) ?_
              refine zk_putA (pc := 89) (hf_N1_.w hW) (by decide) f_Tokens_44 rfl rfl ((hf_N1_.w hW).ka (o := 1) (by decide)) ⟨by (decide), by (decide)⟩ rfl rfl (zdal_p dlA_Tokens_readWord_79 (i := 22) rfl) (fun N22_ hsN22_ hvN22_ => ?_)
              have hf_N22_ : zFc d_ [(1, 3), (1, 4), (1, 5)] [] [] [] Mz N22_ := hf_N1_.tr hsN22_ (by decide) (by decide) (by decide) (by decide)
              have eA1_3_N22_ : ze N22_ 1 3 = ze N1_ 1 3 := hsN22_.ea (hf_N1_.w hW) (by decide)
              have eA1_5_N22_ : ze N22_ 1 5 = ze N1_ 1 5 := hsN22_.ea (hf_N1_.w hW) (by decide)
              exact zk_vret (pc := 92) rfl hf_N22_ ⟨(show ze N22_ 1 3 = (zru zpL b_ n_ (ze Mz 1 2).toNat : Nat) by first | with_reducible assumption | (exact zo_1133 eA1_3_N22_ hn7_ hx_ i4_ rA1_3_N1_.2) | assumption), (show ((zru zpL b_ n_ (ze Mz 1 2).toNat : Nat) - ze Mz 1 2 ≤ 6 → ze N22_ 1 5 = zw2 b_ (ze Mz 1 2).toNat ((zru zpL b_ n_ (ze Mz 1 2).toNat) - (ze Mz 1 2).toNat)) by intro hq_; have := hv_ (by (exact zo_1134 hn7_ hq_ hx_ i4_ p1_ rA1_3_N1_.2)); (exact zo_794 eA1_5_N22_ this)), (show (((zru zpL b_ n_ (ze Mz 1 2).toNat : Nat) - ze Mz 1 2 ≤ 6 ∧ ze N22_ 1 4 = 1) ∨ (6 < (zru zpL b_ n_ (ze Mz 1 2).toNat : Nat) - ze Mz 1 2 ∧ ze N22_ 1 4 = 4)) by first | with_reducible assumption | (exact zo_1135 hc_81 hvN22_ hx_) | assumption)⟩ (zdal_p dlA_Tokens_readWord_79 (i := 23) rfl)
            · skip
              refine zw_iconst (pc := 84) (v := Int32.ofInt 1) (by decide) (zdal_p dlA_Tokens_readWord_79 (i := 19) rfl) ?_
              refine zw_goto (pc := 85) (tgt := 89) (by decide) (zdal_p dlA_Tokens_readWord_79 (i := 20) rfl) ?_
              refine zk_putA (pc := 89) (hf_N1_.w hW) (by decide) f_Tokens_44 rfl rfl ((hf_N1_.w hW).ka (o := 1) (by decide)) ⟨by (decide), by (decide)⟩ rfl rfl (zdal_p dlA_Tokens_readWord_79 (i := 22) rfl) (fun N24_ hsN24_ hvN24_ => ?_)
              have hf_N24_ : zFc d_ [(1, 3), (1, 4), (1, 5)] [] [] [] Mz N24_ := hf_N1_.tr hsN24_ (by decide) (by decide) (by decide) (by decide)
              have eA1_3_N24_ : ze N24_ 1 3 = ze N1_ 1 3 := hsN24_.ea (hf_N1_.w hW) (by decide)
              have eA1_5_N24_ : ze N24_ 1 5 = ze N1_ 1 5 := hsN24_.ea (hf_N1_.w hW) (by decide)
              exact zk_vret (pc := 92) rfl hf_N24_ ⟨(show ze N24_ 1 3 = (zru zpL b_ n_ (ze Mz 1 2).toNat : Nat) by first | with_reducible assumption | (exact zo_1133 eA1_3_N24_ hn7_ hx_ i4_ rA1_3_N1_.2) | assumption), (show ((zru zpL b_ n_ (ze Mz 1 2).toNat : Nat) - ze Mz 1 2 ≤ 6 → ze N24_ 1 5 = zw2 b_ (ze Mz 1 2).toNat ((zru zpL b_ n_ (ze Mz 1 2).toNat) - (ze Mz 1 2).toNat)) by intro hq_; have := hv_ (by (exact hc_81)); (exact zo_794 eA1_5_N24_ this)), (show (((zru zpL b_ n_ (ze Mz 1 2).toNat : Nat) - ze Mz 1 2 ≤ 6 ∧ ze N24_ 1 4 = 1) ∨ (6 < (zru zpL b_ n_ (ze Mz 1 2).toNat : Nat) - ze Mz 1 2 ∧ ze N24_ 1 4 = 4)) by first | with_reducible assumption | (exact zo_1136 hc_81 hvN24_ hx_) | assumption)⟩ (zdal_p dlA_Tokens_readWord_79 (i := 23) rfl)
          · skip
            exact absurd hc_25 (by decide)
  exact lp_0 _ Mz zFc.rf (show ze Mz 1 2 ≤ ze Mz 1 3 by first | with_reducible assumption | (exact zo_1147 p3_) | assumption) (show ze Mz 1 3 ≤ n_ by first | with_reducible assumption | (exact zo_1148 p2_ p3_ r_A1_3.2) | assumption) (show zru zpL b_ n_ (ze Mz 1 3).toNat = zru zpL b_ n_ (ze Mz 1 2).toNat by rw [p3_]) (show (ze Mz 1 3 - ze Mz 1 2 ≤ 6 → ze Mz 1 5 = zw2 b_ (ze Mz 1 2).toNat (ze Mz 1 3 - ze Mz 1 2).toNat) by intro _; rw [show (ze Mz 1 3 - ze Mz 1 2).toNat = 0 by (exact zo_1149 p3_)]; exact p4_) (show ∀ j : Nat, (ze Mz 1 2).toNat ≤ j → j < (ze Mz 1 3).toNat → zpL (b_ j) = true by intro j h1 h2; omega) (Nat.lt_succ_self _)
set_option maxHeartbeats 4000000 in
theorem u_Tokens_readNumber (l : Launch) (d_ : Nat) (Mz : zMem) (hW : zKW d_ Mz) (b_ : Nat → Int) (n_ : Nat) (p0_ : zYb b_ n_ Mz) (p1_ : 0 ≤ ze Mz 1 2) (p2_ : ze Mz 1 2 < n_) : zC l m_Tokens_readNumber 0 0 [.ref 1] Mz (zqcV d_ [(1, 3), (1, 4), (1, 5)] [] [] [] Mz (fun N => ze N 1 3 = (zru zpD b_ n_ (ze Mz 1 2).toNat : Nat) ∧ (zru zpD b_ n_ (ze Mz 1 2).toNat ≤ (ze Mz 1 2).toNat + 3 → ze N 1 5 = zvl b_ (ze Mz 1 2).toNat (zru zpD b_ n_ (ze Mz 1 2).toNat - (ze Mz 1 2).toNat)) ∧ (((zNok b_ n_ (ze Mz 1 2).toNat ∧ ze N 1 4 = 2) ∨ (¬ zNok b_ n_ (ze Mz 1 2).toNat ∧ ze N 1 4 = 4))))) := by
  refine zC_of (L0 := [some (.ref 1), none]) md_Tokens_readNumber (Nat.le_of_ble_eq_true rfl) rfl ?_ zQ0
  have hf : zFc d_ [(1, 3), (1, 4), (1, 5)] [] [] [] Mz Mz := zFc.rf
  have r_A1_1 := ze_r Mz 1 1
  have r_A1_2 := ze_r Mz 1 2
  have r_A1_3 := ze_r Mz 1 3
  have r_A1_4 := ze_r Mz 1 4
  have r_A1_5 := ze_r Mz 1 5
  obtain ⟨hn_, hn7_, hB_, hb_⟩ := id p0_
  have hge_ := zru_ge (P := zpD) (b := b_) (n := n_) (p := (ze Mz 1 2).toNat)
  have hle_ := zru_le (P := zpD) (b := b_) (n := n_) (p := (ze Mz 1 2).toNat) (by (exact zo_1150 p1_ p2_ r_A1_2.2))
  refine zw_aload_n (pc := 0) (n := 0) (x := 1) rfl (zdal_p dlA_Tokens_readNumber_81 (i := 0) rfl) ?_
  refine zw_aload_n (pc := 1) (n := 0) (x := 1) rfl (zdal_p dlA_Tokens_readNumber_81 (i := 1) rfl) ?_
  refine zw_aload_n (pc := 2) (n := 0) (x := 1) rfl (zdal_p dlA_Tokens_readNumber_81 (i := 2) rfl) ?_
  refine zk_getI (pc := 3) f_Tokens_38 rfl ((hf.w hW).ka (o := 1) (by decide)) (zdal_p dlA_Tokens_readNumber_81 (i := 3) rfl) ?_
  refine zk_callV hf.x (pc := 6) [.int (Int32.ofInt (ze Mz 1 2))] [.ref 1] l_Tokens_66 (u_Tokens_pastDigits l d_ Mz (hf.w hW) (ze Mz 1 2) (ze_r Mz 1 2).1 (ze_r Mz 1 2).2 b_ n_ p0_ (show 0 ≤ (ze Mz 1 2) by first | with_reducible assumption | assumption | omega) (show (ze Mz 1 2) ≤ n_ by first | with_reducible assumption | (exact zo_1151 p2_ r_A1_2.2) | assumption)) rfl rfl ((hf.w hW).ka (o := 1) (by decide)) (by decide) (by decide) (Nat.le_of_ble_eq_true rfl) (zdal_p dlA_Tokens_readNumber_81 (i := 4) rfl) ?_
  rintro _ N1_ ⟨v2_, rfl, ⟨hv2_a, hv2_b⟩, hsN1_, hp0_N1_⟩
  obtain rfl := hsN1_.eq.symm
  replace hp0_N1_ : v2_ = (zru zpD b_ n_ ((ze Mz 1 2)).toNat : Nat) := hp0_N1_
  show zW l m_Tokens_readNumber (zn Mz + 0, zw Mz + 0) Mz 9 [some (.ref 1), none] [.int (Int32.ofInt v2_), .ref 1] _
  refine zk_putA (pc := 9) (hf.w hW) (by decide) f_Tokens_28 rfl rfl ((hf.w hW).ka (o := 1) (by decide)) ⟨by (exact hv2_a), by (exact hv2_b)⟩ rfl rfl (zdal_p dlA_Tokens_readNumber_81 (i := 5) rfl) (fun N3_ hsN3_ hvN3_ => ?_)
  have hf_N3_ : zFc d_ [(1, 3), (1, 4), (1, 5)] [] [] [] Mz N3_ := hf.tr hsN3_ (by decide) (by decide) (by decide) (by decide)
  have eA1_1_N3_ : ze N3_ 1 1 = ze Mz 1 1 := hsN3_.ea (hf.w hW) (by decide)
  have eA1_2_N3_ : ze N3_ 1 2 = ze Mz 1 2 := hsN3_.ea (hf.w hW) (by decide)
  have rA1_3_N3_ := ze_r N3_ 1 3
  have eA1_4_N3_ : ze N3_ 1 4 = ze Mz 1 4 := hsN3_.ea (hf.w hW) (by decide)
  have eA1_5_N3_ : ze N3_ 1 5 = ze Mz 1 5 := hsN3_.ea (hf.w hW) (by decide)
  have c4_ : zYb b_ n_ N3_ := zYb.fr (hf.w hW) hsN3_ p0_ (by decide)
  refine zw_aload_n (pc := 12) (n := 0) (x := 1) rfl (zdal_p dlA_Tokens_readNumber_81 (i := 6) rfl) ?_
  refine zw_aload_n (pc := 13) (n := 0) (x := 1) rfl (zdal_p dlA_Tokens_readNumber_81 (i := 7) rfl) ?_
  refine zw_aload_n (pc := 14) (n := 0) (x := 1) rfl (zdal_p dlA_Tokens_readNumber_81 (i := 8) rfl) ?_
  refine zk_getI (pc := 15) f_Tokens_38 rfl ((hf_N3_.w hW).ka (o := 1) (by decide)) (zdal_p dlA_Tokens_readNumber_81 (i := 9) rfl) ?_
  rw [hf_N3_.ea hW (by decide)]
  refine zw_aload_n (pc := 18) (n := 0) (x := 1) rfl (zdal_p dlA_Tokens_readNumber_81 (i := 10) rfl) ?_
  refine zk_getI (pc := 19) f_Tokens_28 rfl ((hf_N3_.w hW).ka (o := 1) (by decide)) (zdal_p dlA_Tokens_readNumber_81 (i := 11) rfl) ?_
  refine zk_callV hf_N3_.x (pc := 22) [.int (Int32.ofInt (ze Mz 1 2)), .int (Int32.ofInt (ze N3_ 1 3))] [.ref 1] l_Tokens_69 (u_Tokens_numberFrom l d_ N3_ (hf_N3_.w hW) (ze Mz 1 2) (ze_r Mz 1 2).1 (ze_r Mz 1 2).2 (ze N3_ 1 3) (ze_r N3_ 1 3).1 (ze_r N3_ 1 3).2 b_ n_ c4_ (show 0 ≤ (ze Mz 1 2) by first | with_reducible assumption | assumption | omega) (show (ze Mz 1 2) ≤ (ze N3_ 1 3) by first | with_reducible assumption | (exact zo_1152 hge_ hp0_N1_ hvN3_) | assumption) (show (ze N3_ 1 3) ≤ n_ by first | with_reducible assumption | (exact zo_1153 hle_ hp0_N1_ hvN3_ rA1_3_N3_.2) | assumption)) rfl rfl ((hf_N3_.w hW).ka (o := 1) (by decide)) (by decide) (by decide) (Nat.le_of_ble_eq_true rfl) (zdal_p dlA_Tokens_readNumber_81 (i := 12) rfl) ?_
  rintro _ N5_ ⟨v6_, rfl, ⟨hv6_a, hv6_b⟩, hsN5_, hp0_N5_⟩
  obtain rfl := hsN5_.eq.symm
  replace hp0_N5_ : ((ze N3_ 1 3) - (ze Mz 1 2) ≤ 6 → v6_ = zvl b_ ((ze Mz 1 2)).toNat ((ze N3_ 1 3) - (ze Mz 1 2)).toNat) := hp0_N5_
  show zW l m_Tokens_readNumber (zn Mz + 0, zw Mz + 0) N3_ 25 [some (.ref 1), none] [.int (Int32.ofInt v6_), .ref 1] _
  have hw_ := hp0_N5_
  rw [show (ze N3_ 1 3 - ze Mz 1 2).toNat = zru zpD b_ n_ (ze Mz 1 2).toNat - (ze Mz 1 2).toNat by (exact zo_1154 hge_ hle_ hn7_ hp0_N1_ hvN3_ p1_ rA1_3_N3_.2 r_A1_2.2)] at hw_
  refine zk_putA (pc := 25) (hf_N3_.w hW) (by decide) f_Tokens_41 rfl rfl ((hf_N3_.w hW).ka (o := 1) (by decide)) ⟨by (exact hv6_a), by (exact hv6_b)⟩ rfl rfl (zdal_p dlA_Tokens_readNumber_81 (i := 13) rfl) (fun N7_ hsN7_ hvN7_ => ?_)
  have hf_N7_ : zFc d_ [(1, 3), (1, 4), (1, 5)] [] [] [] Mz N7_ := hf_N3_.tr hsN7_ (by decide) (by decide) (by decide) (by decide)
  have eA1_1_N7_ : ze N7_ 1 1 = ze N3_ 1 1 := hsN7_.ea (hf_N3_.w hW) (by decide)
  have eA1_2_N7_ : ze N7_ 1 2 = ze N3_ 1 2 := hsN7_.ea (hf_N3_.w hW) (by decide)
  have eA1_3_N7_ : ze N7_ 1 3 = ze N3_ 1 3 := hsN7_.ea (hf_N3_.w hW) (by decide)
  have eA1_4_N7_ : ze N7_ 1 4 = ze N3_ 1 4 := hsN7_.ea (hf_N3_.w hW) (by decide)
  have rA1_5_N7_ := ze_r N7_ 1 5
  refine zw_aload_n (pc := 28) (n := 0) (x := 1) rfl (zdal_p dlA_Tokens_readNumber_81 (i := 14) rfl) ?_
  refine zk_getI (pc := 29) f_Tokens_28 rfl ((hf_N7_.w hW).ka (o := 1) (by decide)) (zdal_p dlA_Tokens_readNumber_81 (i := 15) rfl) ?_
  refine zw_aload_n (pc := 32) (n := 0) (x := 1) rfl (zdal_p dlA_Tokens_readNumber_81 (i := 16) rfl) ?_
  refine zk_getI (pc := 33) f_Tokens_20 rfl ((hf_N7_.w hW).ka (o := 1) (by decide)) (zdal_p dlA_Tokens_readNumber_81 (i := 17) rfl) ?_
  rw [hf_N7_.ea hW (by decide)]
  refine zr_icmp_ge (pc := 36) (tgt := 60) ⟨(ze_r N7_ 1 3).1, (ze_r N7_ 1 3).2⟩ ⟨(ze_r Mz 1 1).1, (ze_r Mz 1 1).2⟩ (by decide) (zdal_p dlA_Tokens_readNumber_81 (i := 18) rfl) (fun hc_36 => ?_) (fun hc_36 => ?_)
  · skip
    refine zw_iconst (pc := 60) (v := Int32.ofInt 0) (by decide) (zdal_p dlA_Tokens_readNumber_82 (i := 4) rfl) ?_
    refine zw_istore_n (pc := 61) (i := 1) (L2 := [some (.ref 1), some (.int (Int32.ofInt 0))]) rfl (by decide) rfl (zdal_p dlA_Tokens_readNumber_82 (i := 5) rfl) ?_
    refine zw_aload_n (pc := 62) (n := 0) (x := 1) rfl (zdal_p dlA_Tokens_readNumber_82 (i := 6) rfl) ?_
    refine zw_aload_n (pc := 63) (n := 0) (x := 1) rfl (zdal_p dlA_Tokens_readNumber_82 (i := 7) rfl) ?_
    refine zk_getI (pc := 64) f_Tokens_28 rfl ((hf_N7_.w hW).ka (o := 1) (by decide)) (zdal_p dlA_Tokens_readNumber_82 (i := 8) rfl) ?_
    refine zw_aload_n (pc := 67) (n := 0) (x := 1) rfl (zdal_p dlA_Tokens_readNumber_82 (i := 9) rfl) ?_
    refine zk_getI (pc := 68) f_Tokens_38 rfl ((hf_N7_.w hW).ka (o := 1) (by decide)) (zdal_p dlA_Tokens_readNumber_82 (i := 10) rfl) ?_
    rw [hf_N7_.ea hW (by decide)]
    refine zr_isub (pc := 71) (zdal_p dlA_Tokens_readNumber_82 (i := 11) rfl) ?_
    refine zw_iconst (pc := 72) (v := Int32.ofInt 3) (by decide) (zdal_p dlA_Tokens_readNumber_82 (i := 12) rfl) ?_
    refine zr_icmp_gt (pc := 73) (tgt := 84) ⟨(by (exact zo_1155 hc_36 hn_ r_A1_1.1 r_A1_2.2)), (by (exact zo_1156 eA1_3_N7_ p1_ rA1_3_N3_.2))⟩ ⟨(by decide), (by decide)⟩ (by decide) (zdal_p dlA_Tokens_readNumber_82 (i := 13) rfl) (fun hc_73 => ?_) (fun hc_73 => ?_)
    · skip
      refine zw_iconst (pc := 84) (v := Int32.ofInt 4) (by decide) (zdal_p dlA_Tokens_readNumber_82 (i := 18) rfl) ?_
      refine zk_putA (pc := 85) (hf_N7_.w hW) (by decide) f_Tokens_44 rfl rfl ((hf_N7_.w hW).ka (o := 1) (by decide)) ⟨by (decide), by (decide)⟩ rfl rfl d_Tokens_readNumber_85 (fun N9_ hsN9_ hvN9_ => ?_)
      have hf_N9_ : zFc d_ [(1, 3), (1, 4), (1, 5)] [] [] [] Mz N9_ := hf_N7_.tr hsN9_ (by decide) (by decide) (by decide) (by decide)
      have eA1_1_N9_ : ze N9_ 1 1 = ze N7_ 1 1 := hsN9_.ea (hf_N7_.w hW) (by decide)
      have eA1_2_N9_ : ze N9_ 1 2 = ze N7_ 1 2 := hsN9_.ea (hf_N7_.w hW) (by decide)
      have eA1_3_N9_ : ze N9_ 1 3 = ze N7_ 1 3 := hsN9_.ea (hf_N7_.w hW) (by decide)
      have rA1_4_N9_ := ze_r N9_ 1 4
      have eA1_5_N9_ : ze N9_ 1 5 = ze N7_ 1 5 := hsN9_.ea (hf_N7_.w hW) (by decide)
      exact zk_vret (pc := 88) rfl hf_N9_ ⟨(show ze N9_ 1 3 = (zru zpD b_ n_ (ze Mz 1 2).toNat : Nat) by first | with_reducible assumption | (exact zo_1157 eA1_3_N7_ eA1_3_N9_ hc_36 hc_73 hle_ hn7_ hn_ hp0_N1_ hvN3_ p1_ rA1_3_N3_.2) | assumption), (show (zru zpD b_ n_ (ze Mz 1 2).toNat ≤ (ze Mz 1 2).toNat + 3 → ze N9_ 1 5 = zvl b_ (ze Mz 1 2).toNat (zru zpD b_ n_ (ze Mz 1 2).toNat - (ze Mz 1 2).toNat)) by intro hq; have := hw_ (by (exact zo_1158 hp0_N1_ hq hvN3_ p1_ rA1_3_N3_.2)); (exact zo_1159 eA1_5_N9_ hvN7_ this)), (show ((zNok b_ n_ (ze Mz 1 2).toNat ∧ ze N9_ 1 4 = 2) ∨ (¬ zNok b_ n_ (ze Mz 1 2).toNat ∧ ze N9_ 1 4 = 4)) by first | (exfalso; omega) | (refine Or.inl ⟨⟨by omega, ?_⟩, by omega⟩; rintro ⟨q1, q2⟩; first | omega | (rw [hlf_] at q2; cases q2)) | (refine Or.inr ⟨?_, by (exact hvN9_)⟩; rintro ⟨q1, q2⟩; first | (exact zo_1160 eA1_3_N7_ hc_73 hp0_N1_ hvN3_ p1_ q1) | exact q2 ⟨by omega, hlt_⟩))⟩ d_Tokens_readNumber_88
    · skip
      refine zw_iload_n (pc := 76) (n := 1) (x := Int32.ofInt 0) rfl (zdal_p dlA_Tokens_readNumber_82 (i := 14) rfl) ?_
      refine zr_if_ne (pc := 77) (tgt := 84) ⟨(by decide), (by decide)⟩ (by decide) (zdal_p dlA_Tokens_readNumber_82 (i := 15) rfl) (fun hc_77 => ?_) (fun hc_77 => ?_)
      · skip
        exact absurd hc_77 (by decide)
      · skip
        refine zw_iconst (pc := 80) (v := Int32.ofInt 2) (by decide) (zdal_p dlA_Tokens_readNumber_82 (i := 16) rfl) ?_
        refine zw_goto (pc := 81) (tgt := 85) (by decide) (zdal_p dlA_Tokens_readNumber_82 (i := 17) rfl) ?_
        refine zk_putA (pc := 85) (hf_N7_.w hW) (by decide) f_Tokens_44 rfl rfl ((hf_N7_.w hW).ka (o := 1) (by decide)) ⟨by (decide), by (decide)⟩ rfl rfl d_Tokens_readNumber_85 (fun N11_ hsN11_ hvN11_ => ?_)
        have hf_N11_ : zFc d_ [(1, 3), (1, 4), (1, 5)] [] [] [] Mz N11_ := hf_N7_.tr hsN11_ (by decide) (by decide) (by decide) (by decide)
        have eA1_1_N11_ : ze N11_ 1 1 = ze N7_ 1 1 := hsN11_.ea (hf_N7_.w hW) (by decide)
        have eA1_2_N11_ : ze N11_ 1 2 = ze N7_ 1 2 := hsN11_.ea (hf_N7_.w hW) (by decide)
        have eA1_3_N11_ : ze N11_ 1 3 = ze N7_ 1 3 := hsN11_.ea (hf_N7_.w hW) (by decide)
        have rA1_4_N11_ := ze_r N11_ 1 4
        have eA1_5_N11_ : ze N11_ 1 5 = ze N7_ 1 5 := hsN11_.ea (hf_N7_.w hW) (by decide)
        exact zk_vret (pc := 88) rfl hf_N11_ ⟨(show ze N11_ 1 3 = (zru zpD b_ n_ (ze Mz 1 2).toNat : Nat) by first | with_reducible assumption | (exact zo_1161 eA1_3_N11_ eA1_3_N7_ hc_36 hc_73 hge_ hle_ hn_ hp0_N1_ hvN3_) | assumption), (show (zru zpD b_ n_ (ze Mz 1 2).toNat ≤ (ze Mz 1 2).toNat + 3 → ze N11_ 1 5 = zvl b_ (ze Mz 1 2).toNat (zru zpD b_ n_ (ze Mz 1 2).toNat - (ze Mz 1 2).toNat)) by intro hq; have := hw_ (by (exact zo_1162 eA1_3_N7_ hc_73 p1_ rA1_3_N3_.2)); (exact zo_1159 eA1_5_N11_ hvN7_ this)), (show ((zNok b_ n_ (ze Mz 1 2).toNat ∧ ze N11_ 1 4 = 2) ∨ (¬ zNok b_ n_ (ze Mz 1 2).toNat ∧ ze N11_ 1 4 = 4)) by first | (exfalso; omega) | (refine Or.inl ⟨⟨by (exact zo_1163 hc_36 hc_73 hle_ hn7_ hn_), ?_⟩, by (exact hvN11_)⟩; rintro ⟨q1, q2⟩; first | (exact zo_1164 eA1_3_N7_ hc_36 hn_ hp0_N1_ hvN3_ q1) | (rw [hlf_] at q2; cases q2)) | (refine Or.inr ⟨?_, by omega⟩; rintro ⟨q1, q2⟩; first | omega | exact q2 ⟨by omega, hlt_⟩))⟩ d_Tokens_readNumber_88
  · skip
    refine zw_aload_n (pc := 39) (n := 0) (x := 1) rfl (zdal_p dlA_Tokens_readNumber_81 (i := 19) rfl) ?_
    refine zw_getF (pc := 40) f_Tokens_14 rfl ((hf_N7_.w hW).ka (o := 1) (by decide)) ((hf_N7_.w hW).la (o := 1) (s := 0) (r := 2) (by decide)) (zdal_p dlA_Tokens_readNumber_81 (i := 20) rfl) ?_
    refine zw_aload_n (pc := 43) (n := 0) (x := 1) rfl (zdal_p dlA_Tokens_readNumber_81 (i := 21) rfl) ?_
    refine zk_getI (pc := 44) f_Tokens_28 rfl ((hf_N7_.w hW).ka (o := 1) (by decide)) (zdal_p dlA_Tokens_readNumber_81 (i := 22) rfl) ?_
    refine zk_at hf_N7_.x (pc := 47) l_Tokens_47 ((hf_N7_.w hW).ka (o := 2) (by decide)) ((hf_N7_.w hW).la (o := 2) (s := 0) (r := 3) (by decide)) ((hf_N7_.w hW).ra (o := 3) (t := 1) (n := 700) (by decide)) (by decide) (by (exact zo_1165 eA1_3_N7_ hp0_N1_ hvN3_ rA1_3_N3_.1)) (by (exact zo_1166 hc_36 hn7_ hn_ r_A1_1.2)) (by decide) (Nat.le_of_ble_eq_true rfl) (zdal_p dlA_Tokens_readNumber_81 (i := 23) rfl) (fun v13_ hv13_ hv13_a hv13_b => ?_)
    rw [hf_N7_.ra hW (by decide)] at hv13_
    have hbv_ : v13_ = b_ (zru zpD b_ n_ (ze Mz 1 2).toNat) := (hv13_.trans (hb_ _ (by (exact zo_1167 eA1_3_N7_ hc_36 hn_ hp0_N1_ hvN3_ rA1_3_N3_.1 r_A1_1.2)))).trans (by rw [show (ze N7_ 1 3).toNat = zru zpD b_ n_ (ze Mz 1 2).toNat by (exact zo_1168 eA1_3_N7_ hc_36 hle_ hn7_ hn_ hp0_N1_ hvN3_ rA1_3_N3_.1)])
    refine zr_callS hf_N7_.x (pc := 50) [.int (Int32.ofInt v13_)] [] l_Tokens_50 (u_Tokens_isLetter l d_ N7_ (hf_N7_.w hW) v13_ hv13_a hv13_b) rfl rfl (by decide) (Nat.le_of_ble_eq_true rfl) (zdal_p dlA_Tokens_readNumber_82 (i := 0) rfl) ?_
    rintro _ N14_ ⟨v15_, rfl, ⟨hv15_a, hv15_b⟩, hsN14_, hp0_N14_⟩
    obtain rfl := hsN14_.eq.symm
    replace hp0_N14_ : ((v15_ = 1 ∧ zpL v13_ = true) ∨ (v15_ = 0 ∧ zpL v13_ = false)) := hp0_N14_
    rcases hp0_N14_ with ⟨rfl, ha50_0_hp0_N14_⟩ | ⟨rfl, ha50_0_hp0_N14_⟩
    · skip
      have hlt_ : zpL (b_ (zru zpD b_ n_ (ze Mz 1 2).toNat)) = true := by rw [← hbv_]; exact ha50_0_hp0_N14_
      show zW l m_Tokens_readNumber (zn Mz + 0, zw Mz + 0) N7_ 53 [some (.ref 1), none] [.int (Int32.ofInt 1)] _
      refine zr_if_eq (pc := 53) (tgt := 60) ⟨(by decide), (by decide)⟩ (by decide) (zdal_p dlA_Tokens_readNumber_82 (i := 1) rfl) (fun hc_53 => ?_) (fun hc_53 => ?_)
      · skip
        exact absurd hc_53 (by decide)
      · skip
        refine zw_iconst (pc := 56) (v := Int32.ofInt 1) (by decide) (zdal_p dlA_Tokens_readNumber_82 (i := 2) rfl) ?_
        refine zw_goto (pc := 57) (tgt := 61) (by decide) (zdal_p dlA_Tokens_readNumber_82 (i := 3) rfl) ?_
        refine zw_istore_n (pc := 61) (i := 1) (L2 := [some (.ref 1), some (.int (Int32.ofInt 1))]) rfl (by decide) rfl (zdal_p dlA_Tokens_readNumber_82 (i := 5) rfl) ?_
        refine zw_aload_n (pc := 62) (n := 0) (x := 1) rfl (zdal_p dlA_Tokens_readNumber_82 (i := 6) rfl) ?_
        refine zw_aload_n (pc := 63) (n := 0) (x := 1) rfl (zdal_p dlA_Tokens_readNumber_82 (i := 7) rfl) ?_
        refine zk_getI (pc := 64) f_Tokens_28 rfl ((hf_N7_.w hW).ka (o := 1) (by decide)) (zdal_p dlA_Tokens_readNumber_82 (i := 8) rfl) ?_
        refine zw_aload_n (pc := 67) (n := 0) (x := 1) rfl (zdal_p dlA_Tokens_readNumber_82 (i := 9) rfl) ?_
        refine zk_getI (pc := 68) f_Tokens_38 rfl ((hf_N7_.w hW).ka (o := 1) (by decide)) (zdal_p dlA_Tokens_readNumber_82 (i := 10) rfl) ?_
        rw [hf_N7_.ea hW (by decide)]
        refine zr_isub (pc := 71) (zdal_p dlA_Tokens_readNumber_82 (i := 11) rfl) ?_
        refine zw_iconst (pc := 72) (v := Int32.ofInt 3) (by decide) (zdal_p dlA_Tokens_readNumber_82 (i := 12) rfl) ?_
        refine zr_icmp_gt (pc := 73) (tgt := 84) ⟨(by (exact zo_1169 eA1_3_N7_ hge_ hp0_N1_ hvN3_ rA1_3_N3_.1 r_A1_2.2)), (by (exact zo_1170 hc_36 p1_ r_A1_1.2))⟩ ⟨(by decide), (by decide)⟩ (by decide) (zdal_p dlA_Tokens_readNumber_82 (i := 13) rfl) (fun hc_73 => ?_) (fun hc_73 => ?_)
        · skip
          refine zw_iconst (pc := 84) (v := Int32.ofInt 4) (by decide) (zdal_p dlA_Tokens_readNumber_82 (i := 18) rfl) ?_
          refine zk_putA (pc := 85) (hf_N7_.w hW) (by decide) f_Tokens_44 rfl rfl ((hf_N7_.w hW).ka (o := 1) (by decide)) ⟨by (decide), by (decide)⟩ rfl rfl d_Tokens_readNumber_85 (fun N16_ hsN16_ hvN16_ => ?_)
          have hf_N16_ : zFc d_ [(1, 3), (1, 4), (1, 5)] [] [] [] Mz N16_ := hf_N7_.tr hsN16_ (by decide) (by decide) (by decide) (by decide)
          have eA1_1_N16_ : ze N16_ 1 1 = ze N7_ 1 1 := hsN16_.ea (hf_N7_.w hW) (by decide)
          have eA1_2_N16_ : ze N16_ 1 2 = ze N7_ 1 2 := hsN16_.ea (hf_N7_.w hW) (by decide)
          have eA1_3_N16_ : ze N16_ 1 3 = ze N7_ 1 3 := hsN16_.ea (hf_N7_.w hW) (by decide)
          have rA1_4_N16_ := ze_r N16_ 1 4
          have eA1_5_N16_ : ze N16_ 1 5 = ze N7_ 1 5 := hsN16_.ea (hf_N7_.w hW) (by decide)
          exact zk_vret (pc := 88) rfl hf_N16_ ⟨(show ze N16_ 1 3 = (zru zpD b_ n_ (ze Mz 1 2).toNat : Nat) by first | with_reducible assumption | (exact zo_1171 eA1_3_N16_ eA1_3_N7_ hc_36 hc_73 hle_ hn7_ hn_ hp0_N1_ hvN3_ p1_) | assumption), (show (zru zpD b_ n_ (ze Mz 1 2).toNat ≤ (ze Mz 1 2).toNat + 3 → ze N16_ 1 5 = zvl b_ (ze Mz 1 2).toNat (zru zpD b_ n_ (ze Mz 1 2).toNat - (ze Mz 1 2).toNat)) by intro hq; have := hw_ (by (exact zo_1158 hp0_N1_ hq hvN3_ p1_ rA1_3_N3_.2)); (exact zo_1159 eA1_5_N16_ hvN7_ this)), (show ((zNok b_ n_ (ze Mz 1 2).toNat ∧ ze N16_ 1 4 = 2) ∨ (¬ zNok b_ n_ (ze Mz 1 2).toNat ∧ ze N16_ 1 4 = 4)) by first | (exfalso; omega) | (refine Or.inl ⟨⟨by omega, ?_⟩, by omega⟩; rintro ⟨q1, q2⟩; first | omega | (rw [hlf_] at q2; cases q2)) | (refine Or.inr ⟨?_, by (exact hvN16_)⟩; rintro ⟨q1, q2⟩; first | (exact zo_1160 eA1_3_N7_ hc_73 hp0_N1_ hvN3_ p1_ q1) | exact q2 ⟨by omega, hlt_⟩))⟩ d_Tokens_readNumber_88
        · skip
          refine zw_iload_n (pc := 76) (n := 1) (x := Int32.ofInt 1) rfl (zdal_p dlA_Tokens_readNumber_82 (i := 14) rfl) ?_
          refine zr_if_ne (pc := 77) (tgt := 84) ⟨(by decide), (by decide)⟩ (by decide) (zdal_p dlA_Tokens_readNumber_82 (i := 15) rfl) (fun hc_77 => ?_) (fun hc_77 => ?_)
          · skip
            refine zw_iconst (pc := 84) (v := Int32.ofInt 4) (by decide) (zdal_p dlA_Tokens_readNumber_82 (i := 18) rfl) ?_
            refine zk_putA (pc := 85) (hf_N7_.w hW) (by decide) f_Tokens_44 rfl rfl ((hf_N7_.w hW).ka (o := 1) (by decide)) ⟨by (decide), by (decide)⟩ rfl rfl d_Tokens_readNumber_85 (fun N18_ hsN18_ hvN18_ => ?_)
            have hf_N18_ : zFc d_ [(1, 3), (1, 4), (1, 5)] [] [] [] Mz N18_ := hf_N7_.tr hsN18_ (by decide) (by decide) (by decide) (by decide)
            have eA1_1_N18_ : ze N18_ 1 1 = ze N7_ 1 1 := hsN18_.ea (hf_N7_.w hW) (by decide)
            have eA1_2_N18_ : ze N18_ 1 2 = ze N7_ 1 2 := hsN18_.ea (hf_N7_.w hW) (by decide)
            have eA1_3_N18_ : ze N18_ 1 3 = ze N7_ 1 3 := hsN18_.ea (hf_N7_.w hW) (by decide)
            have rA1_4_N18_ := ze_r N18_ 1 4
            have eA1_5_N18_ : ze N18_ 1 5 = ze N7_ 1 5 := hsN18_.ea (hf_N7_.w hW) (by decide)
            exact zk_vret (pc := 88) rfl hf_N18_ ⟨(show ze N18_ 1 3 = (zru zpD b_ n_ (ze Mz 1 2).toNat : Nat) by first | with_reducible assumption | (exact zo_1172 eA1_3_N18_ eA1_3_N7_ hc_73 hge_ hp0_N1_ hvN3_) | assumption), (show (zru zpD b_ n_ (ze Mz 1 2).toNat ≤ (ze Mz 1 2).toNat + 3 → ze N18_ 1 5 = zvl b_ (ze Mz 1 2).toNat (zru zpD b_ n_ (ze Mz 1 2).toNat - (ze Mz 1 2).toNat)) by intro hq; have := hw_ (by (exact zo_1162 eA1_3_N7_ hc_73 p1_ rA1_3_N3_.2)); (exact zo_1159 eA1_5_N18_ hvN7_ this)), (show ((zNok b_ n_ (ze Mz 1 2).toNat ∧ ze N18_ 1 4 = 2) ∨ (¬ zNok b_ n_ (ze Mz 1 2).toNat ∧ ze N18_ 1 4 = 4)) by first | (exfalso; omega) | (refine Or.inl ⟨⟨by (exact zo_1173 eA1_3_N7_ hc_73 hle_ hn7_ hp0_N1_ hvN3_), ?_⟩, by omega⟩; rintro ⟨q1, q2⟩; first | omega | (rw [hlf_] at q2; cases q2)) | (refine Or.inr ⟨?_, by (exact hvN18_)⟩; rintro ⟨q1, q2⟩; first | omega | exact q2 ⟨by (exact zo_1174 eA1_3_N7_ hc_36 hle_ hn_ hp0_N1_ hvN3_), hlt_⟩))⟩ d_Tokens_readNumber_88
          · skip
            exact absurd hc_77 (by decide)
    · skip
      have hlf_ : zpL (b_ (zru zpD b_ n_ (ze Mz 1 2).toNat)) = false := by rw [← hbv_]; exact ha50_0_hp0_N14_
      show zW l m_Tokens_readNumber (zn Mz + 0, zw Mz + 0) N7_ 53 [some (.ref 1), none] [.int (Int32.ofInt 0)] _
      refine zr_if_eq (pc := 53) (tgt := 60) ⟨(by decide), (by decide)⟩ (by decide) (zdal_p dlA_Tokens_readNumber_82 (i := 1) rfl) (fun hc_53 => ?_) (fun hc_53 => ?_)
      · skip
        refine zw_iconst (pc := 60) (v := Int32.ofInt 0) (by decide) (zdal_p dlA_Tokens_readNumber_82 (i := 4) rfl) ?_
        refine zw_istore_n (pc := 61) (i := 1) (L2 := [some (.ref 1), some (.int (Int32.ofInt 0))]) rfl (by decide) rfl (zdal_p dlA_Tokens_readNumber_82 (i := 5) rfl) ?_
        refine zw_aload_n (pc := 62) (n := 0) (x := 1) rfl (zdal_p dlA_Tokens_readNumber_82 (i := 6) rfl) ?_
        refine zw_aload_n (pc := 63) (n := 0) (x := 1) rfl (zdal_p dlA_Tokens_readNumber_82 (i := 7) rfl) ?_
        refine zk_getI (pc := 64) f_Tokens_28 rfl ((hf_N7_.w hW).ka (o := 1) (by decide)) (zdal_p dlA_Tokens_readNumber_82 (i := 8) rfl) ?_
        refine zw_aload_n (pc := 67) (n := 0) (x := 1) rfl (zdal_p dlA_Tokens_readNumber_82 (i := 9) rfl) ?_
        refine zk_getI (pc := 68) f_Tokens_38 rfl ((hf_N7_.w hW).ka (o := 1) (by decide)) (zdal_p dlA_Tokens_readNumber_82 (i := 10) rfl) ?_
        rw [hf_N7_.ea hW (by decide)]
        refine zr_isub (pc := 71) (zdal_p dlA_Tokens_readNumber_82 (i := 11) rfl) ?_
        refine zw_iconst (pc := 72) (v := Int32.ofInt 3) (by decide) (zdal_p dlA_Tokens_readNumber_82 (i := 12) rfl) ?_
        refine zr_icmp_gt (pc := 73) (tgt := 84) ⟨(by (exact zo_1169 eA1_3_N7_ hge_ hp0_N1_ hvN3_ rA1_3_N3_.1 r_A1_2.2)), (by (exact zo_1170 hc_36 p1_ r_A1_1.2))⟩ ⟨(by decide), (by decide)⟩ (by decide) (zdal_p dlA_Tokens_readNumber_82 (i := 13) rfl) (fun hc_73 => ?_) (fun hc_73 => ?_)
        · skip
          refine zw_iconst (pc := 84) (v := Int32.ofInt 4) (by decide) (zdal_p dlA_Tokens_readNumber_82 (i := 18) rfl) ?_
          refine zk_putA (pc := 85) (hf_N7_.w hW) (by decide) f_Tokens_44 rfl rfl ((hf_N7_.w hW).ka (o := 1) (by decide)) ⟨by (decide), by (decide)⟩ rfl rfl d_Tokens_readNumber_85 (fun N20_ hsN20_ hvN20_ => ?_)
          have hf_N20_ : zFc d_ [(1, 3), (1, 4), (1, 5)] [] [] [] Mz N20_ := hf_N7_.tr hsN20_ (by decide) (by decide) (by decide) (by decide)
          have eA1_1_N20_ : ze N20_ 1 1 = ze N7_ 1 1 := hsN20_.ea (hf_N7_.w hW) (by decide)
          have eA1_2_N20_ : ze N20_ 1 2 = ze N7_ 1 2 := hsN20_.ea (hf_N7_.w hW) (by decide)
          have eA1_3_N20_ : ze N20_ 1 3 = ze N7_ 1 3 := hsN20_.ea (hf_N7_.w hW) (by decide)
          have rA1_4_N20_ := ze_r N20_ 1 4
          have eA1_5_N20_ : ze N20_ 1 5 = ze N7_ 1 5 := hsN20_.ea (hf_N7_.w hW) (by decide)
          exact zk_vret (pc := 88) rfl hf_N20_ ⟨(show ze N20_ 1 3 = (zru zpD b_ n_ (ze Mz 1 2).toNat : Nat) by first | with_reducible assumption | (exact zo_1171 eA1_3_N20_ eA1_3_N7_ hc_36 hc_73 hle_ hn7_ hn_ hp0_N1_ hvN3_ p1_) | assumption), (show (zru zpD b_ n_ (ze Mz 1 2).toNat ≤ (ze Mz 1 2).toNat + 3 → ze N20_ 1 5 = zvl b_ (ze Mz 1 2).toNat (zru zpD b_ n_ (ze Mz 1 2).toNat - (ze Mz 1 2).toNat)) by intro hq; have := hw_ (by (exact zo_1158 hp0_N1_ hq hvN3_ p1_ rA1_3_N3_.2)); (exact zo_1159 eA1_5_N20_ hvN7_ this)), (show ((zNok b_ n_ (ze Mz 1 2).toNat ∧ ze N20_ 1 4 = 2) ∨ (¬ zNok b_ n_ (ze Mz 1 2).toNat ∧ ze N20_ 1 4 = 4)) by first | (exfalso; omega) | (refine Or.inl ⟨⟨by omega, ?_⟩, by omega⟩; rintro ⟨q1, q2⟩; first | omega | (rw [hlf_] at q2; cases q2)) | (refine Or.inr ⟨?_, by (exact hvN20_)⟩; rintro ⟨q1, q2⟩; first | (exact zo_1160 eA1_3_N7_ hc_73 hp0_N1_ hvN3_ p1_ q1) | exact q2 ⟨by omega, hlt_⟩))⟩ d_Tokens_readNumber_88
        · skip
          refine zw_iload_n (pc := 76) (n := 1) (x := Int32.ofInt 0) rfl (zdal_p dlA_Tokens_readNumber_82 (i := 14) rfl) ?_
          refine zr_if_ne (pc := 77) (tgt := 84) ⟨(by decide), (by decide)⟩ (by decide) (zdal_p dlA_Tokens_readNumber_82 (i := 15) rfl) (fun hc_77 => ?_) (fun hc_77 => ?_)
          · skip
            exact absurd hc_77 (by decide)
          · skip
            refine zw_iconst (pc := 80) (v := Int32.ofInt 2) (by decide) (zdal_p dlA_Tokens_readNumber_82 (i := 16) rfl) ?_
            refine zw_goto (pc := 81) (tgt := 85) (by decide) (zdal_p dlA_Tokens_readNumber_82 (i := 17) rfl) ?_
            refine zk_putA (pc := 85) (hf_N7_.w hW) (by decide) f_Tokens_44 rfl rfl ((hf_N7_.w hW).ka (o := 1) (by decide)) ⟨by (decide), by (decide)⟩ rfl rfl d_Tokens_readNumber_85 (fun N22_ hsN22_ hvN22_ => ?_)
            have hf_N22_ : zFc d_ [(1, 3), (1, 4), (1, 5)] [] [] [] Mz N22_ := hf_N7_.tr hsN22_ (by decide) (by decide) (by decide) (by decide)
            have eA1_1_N22_ : ze N22_ 1 1 = ze N7_ 1 1 := hsN22_.ea (hf_N7_.w hW) (by decide)
            have eA1_2_N22_ : ze N22_ 1 2 = ze N7_ 1 2 := hsN22_.ea (hf_N7_.w hW) (by decide)
            have eA1_3_N22_ : ze N22_ 1 3 = ze N7_ 1 3 := hsN22_.ea (hf_N7_.w hW) (by decide)
            have rA1_4_N22_ := ze_r N22_ 1 4
            have eA1_5_N22_ : ze N22_ 1 5 = ze N7_ 1 5 := hsN22_.ea (hf_N7_.w hW) (by decide)
            exact zk_vret (pc := 88) rfl hf_N22_ ⟨(show ze N22_ 1 3 = (zru zpD b_ n_ (ze Mz 1 2).toNat : Nat) by first | with_reducible assumption | (exact zo_1172 eA1_3_N22_ eA1_3_N7_ hc_73 hge_ hp0_N1_ hvN3_) | assumption), (show (zru zpD b_ n_ (ze Mz 1 2).toNat ≤ (ze Mz 1 2).toNat + 3 → ze N22_ 1 5 = zvl b_ (ze Mz 1 2).toNat (zru zpD b_ n_ (ze Mz 1 2).toNat - (ze Mz 1 2).toNat)) by intro hq; have := hw_ (by (exact zo_1162 eA1_3_N7_ hc_73 p1_ rA1_3_N3_.2)); (exact zo_1159 eA1_5_N22_ hvN7_ this)), (show ((zNok b_ n_ (ze Mz 1 2).toNat ∧ ze N22_ 1 4 = 2) ∨ (¬ zNok b_ n_ (ze Mz 1 2).toNat ∧ ze N22_ 1 4 = 4)) by first | (exfalso; omega) | (refine Or.inl ⟨⟨by (exact zo_1173 eA1_3_N7_ hc_73 hle_ hn7_ hp0_N1_ hvN3_), ?_⟩, by (exact hvN22_)⟩; rintro ⟨q1, q2⟩; first | omega | (rw [hlf_] at q2; cases q2)) | (refine Or.inr ⟨?_, by omega⟩; rintro ⟨q1, q2⟩; first | omega | exact q2 ⟨by omega, hlt_⟩))⟩ d_Tokens_readNumber_88
      · skip
        exact absurd hc_53 (by decide)
set_option maxHeartbeats 4000000 in
theorem u_Tokens_step (l : Launch) (d_ : Nat) (Mz : zMem) (hW : zKW d_ Mz) (b_ : Nat → Int) (n_ : Nat) (p0_ : zYb b_ n_ Mz) (p1_ : 0 ≤ ze Mz 1 3) (p2_ : ze Mz 1 3 ≤ n_) : zC l m_Tokens_step 0 0 [.ref 1] Mz (zqcV d_ [(1, 2), (1, 3), (1, 4), (1, 5)] [] [] [] Mz (fun N => ze N 1 2 = ((zru zpB b_ n_ (ze Mz 1 3).toNat) : Nat) ∧ zYt b_ n_ N)) := by
  refine zC_of (L0 := [some (.ref 1)]) md_Tokens_step (Nat.le_of_ble_eq_true rfl) rfl ?_ zQ0
  have hf : zFc d_ [(1, 2), (1, 3), (1, 4), (1, 5)] [] [] [] Mz Mz := zFc.rf
  have r_A1_1 := ze_r Mz 1 1
  have r_A1_2 := ze_r Mz 1 2
  have r_A1_3 := ze_r Mz 1 3
  have r_A1_4 := ze_r Mz 1 4
  have r_A1_5 := ze_r Mz 1 5
  obtain ⟨hn_, hn7_, hB_, hb_⟩ := id p0_
  have hge_ := zru_ge (P := zpB) (b := b_) (n := n_) (p := (ze Mz 1 3).toNat)
  have hle_ := zru_le (P := zpB) (b := b_) (n := n_) (p := (ze Mz 1 3).toNat) (by (exact zo_1175 p1_ p2_ r_A1_3.2))
  refine zw_aload_n (pc := 0) (n := 0) (x := 1) rfl (zdal_p dlA_Tokens_step_72 (i := 0) rfl) ?_
  refine zw_aload_n (pc := 1) (n := 0) (x := 1) rfl (zdal_p dlA_Tokens_step_72 (i := 1) rfl) ?_
  refine zw_aload_n (pc := 2) (n := 0) (x := 1) rfl (zdal_p dlA_Tokens_step_72 (i := 2) rfl) ?_
  refine zk_getI (pc := 3) f_Tokens_28 rfl ((hf.w hW).ka (o := 1) (by decide)) (zdal_p dlA_Tokens_step_72 (i := 3) rfl) ?_
  refine zk_callV hf.x (pc := 6) [.int (Int32.ofInt (ze Mz 1 3))] [.ref 1] l_Tokens_34 (u_Tokens_pastBlanks l d_ Mz (hf.w hW) (ze Mz 1 3) (ze_r Mz 1 3).1 (ze_r Mz 1 3).2 b_ n_ p0_ (show 0 ≤ (ze Mz 1 3) by first | with_reducible assumption | assumption | omega) (show (ze Mz 1 3) ≤ n_ by first | with_reducible assumption | assumption | omega)) rfl rfl ((hf.w hW).ka (o := 1) (by decide)) (by decide) (by decide) (Nat.le_of_ble_eq_true rfl) (zdal_p dlA_Tokens_step_72 (i := 4) rfl) ?_
  rintro _ N1_ ⟨v2_, rfl, ⟨hv2_a, hv2_b⟩, hsN1_, hp0_N1_⟩
  obtain rfl := hsN1_.eq.symm
  replace hp0_N1_ : v2_ = (zru zpB b_ n_ ((ze Mz 1 3)).toNat : Nat) := hp0_N1_
  show zW l m_Tokens_step (zn Mz + 0, zw Mz + 0) Mz 9 [some (.ref 1)] [.int (Int32.ofInt v2_), .ref 1] _
  refine zk_putA (pc := 9) (hf.w hW) (by decide) f_Tokens_38 rfl rfl ((hf.w hW).ka (o := 1) (by decide)) ⟨by (exact hv2_a), by (exact hv2_b)⟩ rfl rfl (zdal_p dlA_Tokens_step_72 (i := 5) rfl) (fun N3_ hsN3_ hvN3_ => ?_)
  have hf_N3_ : zFc d_ [(1, 2), (1, 3), (1, 4), (1, 5)] [] [] [] Mz N3_ := hf.tr hsN3_ (by decide) (by decide) (by decide) (by decide)
  have eA1_1_N3_ : ze N3_ 1 1 = ze Mz 1 1 := hsN3_.ea (hf.w hW) (by decide)
  have rA1_2_N3_ := ze_r N3_ 1 2
  have eA1_3_N3_ : ze N3_ 1 3 = ze Mz 1 3 := hsN3_.ea (hf.w hW) (by decide)
  have eA1_4_N3_ : ze N3_ 1 4 = ze Mz 1 4 := hsN3_.ea (hf.w hW) (by decide)
  have eA1_5_N3_ : ze N3_ 1 5 = ze Mz 1 5 := hsN3_.ea (hf.w hW) (by decide)
  have c4_ : zYb b_ n_ N3_ := zYb.fr (hf.w hW) hsN3_ p0_ (by decide)
  obtain ⟨hb1_, hb2_, hb3_, hb4_⟩ := id c4_
  refine zw_aload_n (pc := 12) (n := 0) (x := 1) rfl (zdal_p dlA_Tokens_step_72 (i := 6) rfl) ?_
  refine zw_aload_n (pc := 13) (n := 0) (x := 1) rfl (zdal_p dlA_Tokens_step_72 (i := 7) rfl) ?_
  refine zk_getI (pc := 14) f_Tokens_38 rfl ((hf_N3_.w hW).ka (o := 1) (by decide)) (zdal_p dlA_Tokens_step_72 (i := 8) rfl) ?_
  refine zk_putA (pc := 17) (hf_N3_.w hW) (by decide) f_Tokens_28 rfl rfl ((hf_N3_.w hW).ka (o := 1) (by decide)) ⟨by (exact zo_284 rA1_2_N3_.1), by (exact zo_285 rA1_2_N3_.2)⟩ rfl rfl (zdal_p dlA_Tokens_step_72 (i := 9) rfl) (fun N5_ hsN5_ hvN5_ => ?_)
  have hf_N5_ : zFc d_ [(1, 2), (1, 3), (1, 4), (1, 5)] [] [] [] Mz N5_ := hf_N3_.tr hsN5_ (by decide) (by decide) (by decide) (by decide)
  have eA1_1_N5_ : ze N5_ 1 1 = ze N3_ 1 1 := hsN5_.ea (hf_N3_.w hW) (by decide)
  have eA1_2_N5_ : ze N5_ 1 2 = ze N3_ 1 2 := hsN5_.ea (hf_N3_.w hW) (by decide)
  have rA1_3_N5_ := ze_r N5_ 1 3
  have eA1_4_N5_ : ze N5_ 1 4 = ze N3_ 1 4 := hsN5_.ea (hf_N3_.w hW) (by decide)
  have eA1_5_N5_ : ze N5_ 1 5 = ze N3_ 1 5 := hsN5_.ea (hf_N3_.w hW) (by decide)
  have c6_ : zYb b_ n_ N5_ := zYb.fr (hf_N3_.w hW) hsN5_ c4_ (by decide)
  refine zw_aload_n (pc := 20) (n := 0) (x := 1) rfl (zdal_p dlA_Tokens_step_72 (i := 10) rfl) ?_
  refine zw_iconst (pc := 21) (v := Int32.ofInt 0) (by decide) (zdal_p dlA_Tokens_step_72 (i := 11) rfl) ?_
  refine zk_putA (pc := 22) (hf_N5_.w hW) (by decide) f_Tokens_41 rfl rfl ((hf_N5_.w hW).ka (o := 1) (by decide)) ⟨by (decide), by (decide)⟩ rfl rfl (zdal_p dlA_Tokens_step_72 (i := 12) rfl) (fun N7_ hsN7_ hvN7_ => ?_)
  have hf_N7_ : zFc d_ [(1, 2), (1, 3), (1, 4), (1, 5)] [] [] [] Mz N7_ := hf_N5_.tr hsN7_ (by decide) (by decide) (by decide) (by decide)
  have eA1_1_N7_ : ze N7_ 1 1 = ze N5_ 1 1 := hsN7_.ea (hf_N5_.w hW) (by decide)
  have eA1_2_N7_ : ze N7_ 1 2 = ze N5_ 1 2 := hsN7_.ea (hf_N5_.w hW) (by decide)
  have eA1_3_N7_ : ze N7_ 1 3 = ze N5_ 1 3 := hsN7_.ea (hf_N5_.w hW) (by decide)
  have eA1_4_N7_ : ze N7_ 1 4 = ze N5_ 1 4 := hsN7_.ea (hf_N5_.w hW) (by decide)
  have rA1_5_N7_ := ze_r N7_ 1 5
  have c8_ : zYb b_ n_ N7_ := zYb.fr (hf_N5_.w hW) hsN7_ c6_ (by decide)
  refine zw_aload_n (pc := 25) (n := 0) (x := 1) rfl (zdal_p dlA_Tokens_step_72 (i := 13) rfl) ?_
  refine zk_getI (pc := 26) f_Tokens_38 rfl ((hf_N7_.w hW).ka (o := 1) (by decide)) (zdal_p dlA_Tokens_step_72 (i := 14) rfl) ?_
  refine zw_aload_n (pc := 29) (n := 0) (x := 1) rfl (zdal_p dlA_Tokens_step_72 (i := 15) rfl) ?_
  refine zk_getI (pc := 30) f_Tokens_20 rfl ((hf_N7_.w hW).ka (o := 1) (by decide)) (zdal_p dlA_Tokens_step_72 (i := 16) rfl) ?_
  rw [hf_N7_.ea hW (by decide)]
  refine zr_icmp_lt (pc := 33) (tgt := 44) ⟨(ze_r N7_ 1 2).1, (ze_r N7_ 1 2).2⟩ ⟨(ze_r Mz 1 1).1, (ze_r Mz 1 1).2⟩ (by decide) (zdal_p dlA_Tokens_step_72 (i := 17) rfl) (fun hc_33 => ?_) (fun hc_33 => ?_)
  · skip
    refine zw_aload_n (pc := 44) (n := 0) (x := 1) rfl (zdal_p dlA_Tokens_step_72 (i := 22) rfl) ?_
    refine zw_getF (pc := 45) f_Tokens_14 rfl ((hf_N7_.w hW).ka (o := 1) (by decide)) ((hf_N7_.w hW).la (o := 1) (s := 0) (r := 2) (by decide)) (zdal_p dlA_Tokens_step_72 (i := 23) rfl) ?_
    refine zw_aload_n (pc := 48) (n := 0) (x := 1) rfl (zdal_p dlA_Tokens_step_73 (i := 0) rfl) ?_
    refine zk_getI (pc := 49) f_Tokens_38 rfl ((hf_N7_.w hW).ka (o := 1) (by decide)) (zdal_p dlA_Tokens_step_73 (i := 1) rfl) ?_
    refine zk_at hf_N7_.x (pc := 52) l_Tokens_47 ((hf_N7_.w hW).ka (o := 2) (by decide)) ((hf_N7_.w hW).la (o := 2) (s := 0) (r := 3) (by decide)) ((hf_N7_.w hW).ra (o := 3) (t := 1) (n := 700) (by decide)) (by decide) (by (exact zo_1176 eA1_2_N5_ eA1_2_N7_ hp0_N1_ hvN3_ rA1_2_N3_.1)) (by (exact zo_1166 hc_33 hn7_ hn_ r_A1_1.2)) (by decide) (Nat.le_of_ble_eq_true rfl) (zdal_p dlA_Tokens_step_73 (i := 2) rfl) (fun v9_ hv9_ hv9_a hv9_b => ?_)
    rw [hf_N7_.ra hW (by decide)] at hv9_
    have hbv_ : v9_ = b_ (zru zpB b_ n_ (ze Mz 1 3).toNat) := (hv9_.trans (hb_ _ (by (exact zo_1177 eA1_2_N5_ eA1_2_N7_ hc_33 hn_ hp0_N1_ hvN3_ rA1_2_N3_.1 r_A1_1.2)))).trans (by rw [show (ze N7_ 1 2).toNat = (zru zpB b_ n_ (ze Mz 1 3).toNat) by (exact zo_1178 eA1_2_N5_ eA1_2_N7_ hc_33 hle_ hn7_ hn_ hp0_N1_ hvN3_ rA1_2_N3_.1)])
    refine zr_callS hf_N7_.x (pc := 55) [.int (Int32.ofInt v9_)] [] l_Tokens_50 (u_Tokens_isLetter l d_ N7_ (hf_N7_.w hW) v9_ hv9_a hv9_b) rfl rfl (by decide) (Nat.le_of_ble_eq_true rfl) (zdal_p dlA_Tokens_step_73 (i := 3) rfl) ?_
    rintro _ N10_ ⟨v11_, rfl, ⟨hv11_a, hv11_b⟩, hsN10_, hp0_N10_⟩
    obtain rfl := hsN10_.eq.symm
    replace hp0_N10_ : ((v11_ = 1 ∧ zpL v9_ = true) ∨ (v11_ = 0 ∧ zpL v9_ = false)) := hp0_N10_
    rcases hp0_N10_ with ⟨rfl, ha55_0_hp0_N10_⟩ | ⟨rfl, ha55_0_hp0_N10_⟩
    · skip
      have hL_ : zpL (b_ (zru zpB b_ n_ (ze Mz 1 3).toNat)) = true := by rw [← hbv_]; exact ha55_0_hp0_N10_
      show zW l m_Tokens_step (zn Mz + 0, zw Mz + 0) N7_ 58 [some (.ref 1)] [.int (Int32.ofInt 1)] _
      refine zr_if_eq (pc := 58) (tgt := 68) ⟨(by decide), (by decide)⟩ (by decide) (zdal_p dlA_Tokens_step_73 (i := 4) rfl) (fun hc_58 => ?_) (fun hc_58 => ?_)
      · skip
        exact absurd hc_58 (by decide)
      · skip
        refine zw_aload_n (pc := 61) (n := 0) (x := 1) rfl (zdal_p dlA_Tokens_step_73 (i := 5) rfl) ?_
        refine zk_callV hf_N7_.x (pc := 62) [] [] l_Tokens_54 (u_Tokens_readWord l d_ N7_ (hf_N7_.w hW) b_ n_ c8_ (show 0 ≤ ze N7_ 1 2 by first | with_reducible assumption | (exact zo_1176 eA1_2_N5_ eA1_2_N7_ hp0_N1_ hvN3_ rA1_2_N3_.1) | assumption) (show ze N7_ 1 2 < n_ by first | with_reducible assumption | (exact zo_1179 hc_33 hn_ r_A1_1.2) | assumption) (show ze N7_ 1 3 = ze N7_ 1 2 by first | with_reducible assumption | (exact zo_1180 eA1_2_N5_ eA1_2_N7_ eA1_3_N7_ hvN5_) | assumption) (show ze N7_ 1 5 = 0 by first | with_reducible assumption | assumption | omega)) rfl rfl ((hf_N7_.w hW).ka (o := 1) (by decide)) (by decide) (by decide) (Nat.le_of_ble_eq_true rfl) (zdal_p dlA_Tokens_step_73 (i := 6) rfl) ?_
        rintro _ N12_ ⟨rfl, hsN12_, ⟨hp0_N12_, hp1_N12_, hp2_N12_⟩⟩
        have hf_N12_ : zFc d_ [(1, 2), (1, 3), (1, 4), (1, 5)] [] [] [] Mz N12_ := hf_N7_.tr hsN12_ (by decide) (by decide) (by decide) (by decide)
        have eA1_1_N12_ : ze N12_ 1 1 = ze N7_ 1 1 := hsN12_.ea (hf_N7_.w hW) (by decide)
        have eA1_2_N12_ : ze N12_ 1 2 = ze N7_ 1 2 := hsN12_.ea (hf_N7_.w hW) (by decide)
        have rA1_3_N12_ := ze_r N12_ 1 3
        have rA1_4_N12_ := ze_r N12_ 1 4
        have rA1_5_N12_ := ze_r N12_ 1 5
        show zW l m_Tokens_step (zn Mz + 0, zw Mz + 0) N12_ 65 [some (.ref 1)] [] _
        have hq0_ := hp0_N12_
        have hq1_ := hp1_N12_
        have hq2_ := hp2_N12_
        rw [show (ze N7_ 1 2).toNat = (zru zpB b_ n_ (ze Mz 1 3).toNat) by omega] at hq0_ hq1_ hq2_
        rw [show ze N7_ 1 2 = ((zru zpB b_ n_ (ze Mz 1 3).toNat) : Nat) by omega] at hq1_ hq2_
        have hC_ : zYt b_ n_ N12_ := zYt_L (s := (zru zpB b_ n_ (ze Mz 1 3).toNat)) (by (exact zo_1181 eA1_2_N12_ eA1_2_N5_ eA1_2_N7_ hc_33 hn7_ hn_ hp0_N1_ hvN3_)) (by (exact zo_1182 eA1_2_N5_ eA1_2_N7_ hc_33 hle_ hn_ hp0_N1_ hvN3_)) hL_ hq0_ hq1_ hq2_
        refine zw_goto (pc := 65) (tgt := 136) (by decide) (zdal_p dlA_Tokens_step_73 (i := 7) rfl) ?_
        exact zk_vret (pc := 136) rfl hf_N12_ ⟨(show ze N12_ 1 2 = ((zru zpB b_ n_ (ze Mz 1 3).toNat) : Nat) by first | with_reducible assumption | (exact zo_1181 eA1_2_N12_ eA1_2_N5_ eA1_2_N7_ hc_33 hn7_ hn_ hp0_N1_ hvN3_) | assumption), hC_⟩ d_Tokens_step_136
    · skip
      have hL_ : zpL (b_ (zru zpB b_ n_ (ze Mz 1 3).toNat)) = false := by rw [← hbv_]; exact ha55_0_hp0_N10_
      show zW l m_Tokens_step (zn Mz + 0, zw Mz + 0) N7_ 58 [some (.ref 1)] [.int (Int32.ofInt 0)] _
      refine zr_if_eq (pc := 58) (tgt := 68) ⟨(by decide), (by decide)⟩ (by decide) (zdal_p dlA_Tokens_step_73 (i := 4) rfl) (fun hc_58 => ?_) (fun hc_58 => ?_)
      · skip
        refine zw_aload_n (pc := 68) (n := 0) (x := 1) rfl (zdal_p dlA_Tokens_step_73 (i := 8) rfl) ?_
        refine zw_getF (pc := 69) f_Tokens_14 rfl ((hf_N7_.w hW).ka (o := 1) (by decide)) ((hf_N7_.w hW).la (o := 1) (s := 0) (r := 2) (by decide)) (zdal_p dlA_Tokens_step_73 (i := 9) rfl) ?_
        refine zw_aload_n (pc := 72) (n := 0) (x := 1) rfl (zdal_p dlA_Tokens_step_73 (i := 10) rfl) ?_
        refine zk_getI (pc := 73) f_Tokens_38 rfl ((hf_N7_.w hW).ka (o := 1) (by decide)) (zdal_p dlA_Tokens_step_73 (i := 11) rfl) ?_
        refine zk_at hf_N7_.x (pc := 76) l_Tokens_47 ((hf_N7_.w hW).ka (o := 2) (by decide)) ((hf_N7_.w hW).la (o := 2) (s := 0) (r := 3) (by decide)) ((hf_N7_.w hW).ra (o := 3) (t := 1) (n := 700) (by decide)) (by decide) (by (exact zo_1176 eA1_2_N5_ eA1_2_N7_ hp0_N1_ hvN3_ rA1_2_N3_.1)) (by (exact zo_1166 hc_33 hn7_ hn_ r_A1_1.2)) (by decide) (Nat.le_of_ble_eq_true rfl) (zdal_p dlA_Tokens_step_73 (i := 12) rfl) (fun v15_ hv15_ hv15_a hv15_b => ?_)
        rw [hf_N7_.ra hW (by decide)] at hv15_
        have hbw_ : v15_ = b_ (zru zpB b_ n_ (ze Mz 1 3).toNat) := (hv15_.trans (hb_ _ (by (exact zo_1177 eA1_2_N5_ eA1_2_N7_ hc_33 hn_ hp0_N1_ hvN3_ rA1_2_N3_.1 r_A1_1.2)))).trans (by rw [show (ze N7_ 1 2).toNat = (zru zpB b_ n_ (ze Mz 1 3).toNat) by (exact zo_1178 eA1_2_N5_ eA1_2_N7_ hc_33 hle_ hn7_ hn_ hp0_N1_ hvN3_ rA1_2_N3_.1)])
        refine zr_callS hf_N7_.x (pc := 79) [.int (Int32.ofInt v15_)] [] l_Tokens_57 (u_Tokens_isDigit l d_ N7_ (hf_N7_.w hW) v15_ hv15_a hv15_b) rfl rfl (by decide) (Nat.le_of_ble_eq_true rfl) (zdal_p dlA_Tokens_step_73 (i := 13) rfl) ?_
        rintro _ N16_ ⟨v17_, rfl, ⟨hv17_a, hv17_b⟩, hsN16_, hp0_N16_⟩
        obtain rfl := hsN16_.eq.symm
        replace hp0_N16_ : ((v17_ = 1 ∧ zpD v15_ = true) ∨ (v17_ = 0 ∧ zpD v15_ = false)) := hp0_N16_
        rcases hp0_N16_ with ⟨rfl, ha79_0_hp0_N16_⟩ | ⟨rfl, ha79_0_hp0_N16_⟩
        · skip
          have hD_ : zpD (b_ (zru zpB b_ n_ (ze Mz 1 3).toNat)) = true := by rw [← hbw_]; exact ha79_0_hp0_N16_
          show zW l m_Tokens_step (zn Mz + 0, zw Mz + 0) N7_ 82 [some (.ref 1)] [.int (Int32.ofInt 1)] _
          refine zr_if_eq (pc := 82) (tgt := 92) ⟨(by decide), (by decide)⟩ (by decide) (zdal_p dlA_Tokens_step_73 (i := 14) rfl) (fun hc_82 => ?_) (fun hc_82 => ?_)
          · skip
            exact absurd hc_82 (by decide)
          · skip
            refine zw_aload_n (pc := 85) (n := 0) (x := 1) rfl (zdal_p dlA_Tokens_step_73 (i := 15) rfl) ?_
            refine zk_callV hf_N7_.x (pc := 86) [] [] l_Tokens_60 (u_Tokens_readNumber l d_ N7_ (hf_N7_.w hW) b_ n_ c8_ (show 0 ≤ ze N7_ 1 2 by first | with_reducible assumption | (exact zo_1176 eA1_2_N5_ eA1_2_N7_ hp0_N1_ hvN3_ rA1_2_N3_.1) | assumption) (show ze N7_ 1 2 < n_ by first | with_reducible assumption | (exact zo_1179 hc_33 hn_ r_A1_1.2) | assumption)) rfl rfl ((hf_N7_.w hW).ka (o := 1) (by decide)) (by decide) (by decide) (Nat.le_of_ble_eq_true rfl) (zdal_p dlA_Tokens_step_73 (i := 16) rfl) ?_
            rintro _ N18_ ⟨rfl, hsN18_, ⟨hp0_N18_, hp1_N18_, hp2_N18_⟩⟩
            have hf_N18_ : zFc d_ [(1, 2), (1, 3), (1, 4), (1, 5)] [] [] [] Mz N18_ := hf_N7_.tr hsN18_ (by decide) (by decide) (by decide) (by decide)
            have eA1_1_N18_ : ze N18_ 1 1 = ze N7_ 1 1 := hsN18_.ea (hf_N7_.w hW) (by decide)
            have eA1_2_N18_ : ze N18_ 1 2 = ze N7_ 1 2 := hsN18_.ea (hf_N7_.w hW) (by decide)
            have rA1_3_N18_ := ze_r N18_ 1 3
            have rA1_4_N18_ := ze_r N18_ 1 4
            have rA1_5_N18_ := ze_r N18_ 1 5
            show zW l m_Tokens_step (zn Mz + 0, zw Mz + 0) N18_ 89 [some (.ref 1)] [] _
            have hq0_ := hp0_N18_
            have hq1_ := hp1_N18_
            have hq2_ := hp2_N18_
            rw [show (ze N7_ 1 2).toNat = (zru zpB b_ n_ (ze Mz 1 3).toNat) by omega] at hq0_ hq1_ hq2_
            have hC_ : zYt b_ n_ N18_ := zYt_D (s := (zru zpB b_ n_ (ze Mz 1 3).toNat)) (by (exact zo_1181 eA1_2_N18_ eA1_2_N5_ eA1_2_N7_ hc_33 hn7_ hn_ hp0_N1_ hvN3_)) (by (exact zo_1182 eA1_2_N5_ eA1_2_N7_ hc_33 hle_ hn_ hp0_N1_ hvN3_)) hL_ hD_ hq0_ hq1_ hq2_
            refine zw_goto (pc := 89) (tgt := 136) (by decide) (zdal_p dlA_Tokens_step_73 (i := 17) rfl) ?_
            exact zk_vret (pc := 136) rfl hf_N18_ ⟨(show ze N18_ 1 2 = ((zru zpB b_ n_ (ze Mz 1 3).toNat) : Nat) by first | with_reducible assumption | (exact zo_1181 eA1_2_N18_ eA1_2_N5_ eA1_2_N7_ hc_33 hn7_ hn_ hp0_N1_ hvN3_) | assumption), hC_⟩ d_Tokens_step_136
        · skip
          have hD_ : zpD (b_ (zru zpB b_ n_ (ze Mz 1 3).toNat)) = false := by rw [← hbw_]; exact ha79_0_hp0_N16_
          show zW l m_Tokens_step (zn Mz + 0, zw Mz + 0) N7_ 82 [some (.ref 1)] [.int (Int32.ofInt 0)] _
          refine zr_if_eq (pc := 82) (tgt := 92) ⟨(by decide), (by decide)⟩ (by decide) (zdal_p dlA_Tokens_step_73 (i := 14) rfl) (fun hc_82 => ?_) (fun hc_82 => ?_)
          · skip
            refine zw_aload_n (pc := 92) (n := 0) (x := 1) rfl (zdal_p dlA_Tokens_step_73 (i := 18) rfl) ?_
            refine zw_aload_n (pc := 93) (n := 0) (x := 1) rfl (zdal_p dlA_Tokens_step_73 (i := 19) rfl) ?_
            refine zw_getF (pc := 94) f_Tokens_14 rfl ((hf_N7_.w hW).ka (o := 1) (by decide)) ((hf_N7_.w hW).la (o := 1) (s := 0) (r := 2) (by decide)) (zdal_p dlA_Tokens_step_73 (i := 20) rfl) ?_
            refine zw_aload_n (pc := 97) (n := 0) (x := 1) rfl (zdal_p dlA_Tokens_step_73 (i := 21) rfl) ?_
            refine zk_getI (pc := 98) f_Tokens_38 rfl ((hf_N7_.w hW).ka (o := 1) (by decide)) (zdal_p dlA_Tokens_step_73 (i := 22) rfl) ?_
            refine zk_at hf_N7_.x (pc := 101) l_Tokens_47 ((hf_N7_.w hW).ka (o := 2) (by decide)) ((hf_N7_.w hW).la (o := 2) (s := 0) (r := 3) (by decide)) ((hf_N7_.w hW).ra (o := 3) (t := 1) (n := 700) (by decide)) (by decide) (by (exact zo_1176 eA1_2_N5_ eA1_2_N7_ hp0_N1_ hvN3_ rA1_2_N3_.1)) (by (exact zo_1166 hc_33 hn7_ hn_ r_A1_1.2)) (by decide) (Nat.le_of_ble_eq_true rfl) (zdal_p dlA_Tokens_step_73 (i := 23) rfl) (fun v21_ hv21_ hv21_a hv21_b => ?_)
            rw [hf_N7_.ra hW (by decide)] at hv21_
            have hbx_ : v21_ = b_ (zru zpB b_ n_ (ze Mz 1 3).toNat) := (hv21_.trans (hb_ _ (by (exact zo_1177 eA1_2_N5_ eA1_2_N7_ hc_33 hn_ hp0_N1_ hvN3_ rA1_2_N3_.1 r_A1_1.2)))).trans (by rw [show (ze N7_ 1 2).toNat = (zru zpB b_ n_ (ze Mz 1 3).toNat) by (exact zo_1178 eA1_2_N5_ eA1_2_N7_ hc_33 hle_ hn7_ hn_ hp0_N1_ hvN3_ rA1_2_N3_.1)])
            refine zk_putA (pc := 104) (hf_N7_.w hW) (by decide) f_Tokens_41 rfl rfl ((hf_N7_.w hW).ka (o := 1) (by decide)) ⟨by (exact hv21_a), by (exact hv21_b)⟩ rfl rfl (zdal_p dlA_Tokens_step_74 (i := 0) rfl) (fun N22_ hsN22_ hvN22_ => ?_)
            have hf_N22_ : zFc d_ [(1, 2), (1, 3), (1, 4), (1, 5)] [] [] [] Mz N22_ := hf_N7_.tr hsN22_ (by decide) (by decide) (by decide) (by decide)
            have eA1_1_N22_ : ze N22_ 1 1 = ze N7_ 1 1 := hsN22_.ea (hf_N7_.w hW) (by decide)
            have eA1_2_N22_ : ze N22_ 1 2 = ze N7_ 1 2 := hsN22_.ea (hf_N7_.w hW) (by decide)
            have eA1_3_N22_ : ze N22_ 1 3 = ze N7_ 1 3 := hsN22_.ea (hf_N7_.w hW) (by decide)
            have eA1_4_N22_ : ze N22_ 1 4 = ze N7_ 1 4 := hsN22_.ea (hf_N7_.w hW) (by decide)
            have rA1_5_N22_ := ze_r N22_ 1 5
            have hvx_ := hvN22_
            refine zw_aload_n (pc := 107) (n := 0) (x := 1) rfl (zdal_p dlA_Tokens_step_74 (i := 1) rfl) ?_
            refine zw_aload_n (pc := 108) (n := 0) (x := 1) rfl (zdal_p dlA_Tokens_step_74 (i := 2) rfl) ?_
            refine zk_getI (pc := 109) f_Tokens_41 rfl ((hf_N22_.w hW).ka (o := 1) (by decide)) (zdal_p dlA_Tokens_step_74 (i := 3) rfl) ?_
            refine zr_callS hf_N22_.x (pc := 112) [.int (Int32.ofInt (ze N22_ 1 5))] [.ref 1] l_Tokens_63 (u_Tokens_isSignByte l d_ N22_ (hf_N22_.w hW) (ze N22_ 1 5) (ze_r N22_ 1 5).1 (ze_r N22_ 1 5).2) rfl rfl (by decide) (Nat.le_of_ble_eq_true rfl) (zdal_p dlA_Tokens_step_74 (i := 4) rfl) ?_
            rintro _ N24_ ⟨v25_, rfl, ⟨hv25_a, hv25_b⟩, hsN24_, hp0_N24_⟩
            obtain rfl := hsN24_.eq.symm
            replace hp0_N24_ : ((v25_ = 1 ∧ zpS (ze N22_ 1 5) = true) ∨ (v25_ = 0 ∧ zpS (ze N22_ 1 5) = false)) := hp0_N24_
            rcases hp0_N24_ with ⟨rfl, ha112_0_hp0_N24_⟩ | ⟨rfl, ha112_0_hp0_N24_⟩
            · skip
              have hs_ : zpS (b_ (zru zpB b_ n_ (ze Mz 1 3).toNat)) = true := by rw [← hbx_, ← hvx_]; exact ha112_0_hp0_N24_
              show zW l m_Tokens_step (zn Mz + 0, zw Mz + 0) N22_ 115 [some (.ref 1)] [.int (Int32.ofInt 1), .ref 1] _
              refine zr_if_eq (pc := 115) (tgt := 122) ⟨(by decide), (by decide)⟩ (by decide) (zdal_p dlA_Tokens_step_74 (i := 5) rfl) (fun hc_115 => ?_) (fun hc_115 => ?_)
              · skip
                exact absurd hc_115 (by decide)
              · skip
                refine zw_iconst (pc := 118) (v := Int32.ofInt 3) (by decide) (zdal_p dlA_Tokens_step_74 (i := 6) rfl) ?_
                refine zw_goto (pc := 119) (tgt := 123) (by decide) (zdal_p dlA_Tokens_step_74 (i := 7) rfl) ?_
                refine zk_putA (pc := 123) (hf_N22_.w hW) (by decide) f_Tokens_44 rfl rfl ((hf_N22_.w hW).ka (o := 1) (by decide)) ⟨by (decide), by (decide)⟩ rfl rfl (zdal_p dlA_Tokens_step_74 (i := 9) rfl) (fun N26_ hsN26_ hvN26_ => ?_)
                have hf_N26_ : zFc d_ [(1, 2), (1, 3), (1, 4), (1, 5)] [] [] [] Mz N26_ := hf_N22_.tr hsN26_ (by decide) (by decide) (by decide) (by decide)
                have eA1_1_N26_ : ze N26_ 1 1 = ze N22_ 1 1 := hsN26_.ea (hf_N22_.w hW) (by decide)
                have eA1_2_N26_ : ze N26_ 1 2 = ze N22_ 1 2 := hsN26_.ea (hf_N22_.w hW) (by decide)
                have eA1_3_N26_ : ze N26_ 1 3 = ze N22_ 1 3 := hsN26_.ea (hf_N22_.w hW) (by decide)
                have rA1_4_N26_ := ze_r N26_ 1 4
                have eA1_5_N26_ : ze N26_ 1 5 = ze N22_ 1 5 := hsN26_.ea (hf_N22_.w hW) (by decide)
                have hS_ : (zpS (b_ (zru zpB b_ n_ (ze Mz 1 3).toNat)) = true ∧ ze N26_ 1 4 = 3) ∨ (zpS (b_ (zru zpB b_ n_ (ze Mz 1 3).toNat)) = false ∧ ze N26_ 1 4 = 4) := by first | exact Or.inl ⟨hs_, by (exact hvN26_)⟩ | exact Or.inr ⟨hs_, by omega⟩
                refine zw_aload_n (pc := 126) (n := 0) (x := 1) rfl (zdal_p dlA_Tokens_step_74 (i := 10) rfl) ?_
                refine zw_aload_n (pc := 127) (n := 0) (x := 1) rfl (zdal_p dlA_Tokens_step_74 (i := 11) rfl) ?_
                refine zk_getI (pc := 128) f_Tokens_38 rfl ((hf_N26_.w hW).ka (o := 1) (by decide)) (zdal_p dlA_Tokens_step_74 (i := 12) rfl) ?_
                refine zw_iconst (pc := 131) (v := Int32.ofInt 1) (by decide) (zdal_p dlA_Tokens_step_74 (i := 13) rfl) ?_
                refine zr_iadd (pc := 132) (zdal_p dlA_Tokens_step_74 (i := 14) rfl) ?_
                refine zk_putA (pc := 133) (hf_N26_.w hW) (by decide) f_Tokens_28 rfl rfl ((hf_N26_.w hW).ka (o := 1) (by decide)) ⟨by (exact zo_1183 eA1_2_N22_ eA1_2_N26_ eA1_2_N5_ eA1_2_N7_ rA1_2_N3_.1), by (exact zo_1184 eA1_2_N22_ eA1_2_N26_ hc_33 r_A1_1.2)⟩ rfl rfl (zdal_p dlA_Tokens_step_74 (i := 15) rfl) (fun N28_ hsN28_ hvN28_ => ?_)
                have hf_N28_ : zFc d_ [(1, 2), (1, 3), (1, 4), (1, 5)] [] [] [] Mz N28_ := hf_N26_.tr hsN28_ (by decide) (by decide) (by decide) (by decide)
                have eA1_2_N28_ : ze N28_ 1 2 = ze N26_ 1 2 := hsN28_.ea (hf_N26_.w hW) (by decide)
                have rA1_3_N28_ := ze_r N28_ 1 3
                have eA1_4_N28_ : ze N28_ 1 4 = ze N26_ 1 4 := hsN28_.ea (hf_N26_.w hW) (by decide)
                have eA1_5_N28_ : ze N28_ 1 5 = ze N26_ 1 5 := hsN28_.ea (hf_N26_.w hW) (by decide)
                have hC_ : zYt b_ n_ N28_ := zYt_S (s := (zru zpB b_ n_ (ze Mz 1 3).toNat)) (by (exact zo_1185 eA1_2_N22_ eA1_2_N26_ eA1_2_N28_ eA1_2_N5_ eA1_2_N7_ hc_33 hle_ hn7_ hn_ hp0_N1_ hvN28_ hvN3_ rA1_3_N28_.1)) (by (exact zo_1182 eA1_2_N5_ eA1_2_N7_ hc_33 hle_ hn_ hp0_N1_ hvN3_)) hL_ hD_ (by (exact zo_1186 eA1_2_N22_ eA1_2_N26_ eA1_2_N5_ eA1_2_N7_ hc_33 hle_ hn7_ hn_ hp0_N1_ hvN28_ hvN3_ rA1_3_N28_.1)) (by (exact zo_1187 eA1_5_N26_ eA1_5_N28_ hbx_ hvN22_)) (hS_.imp (fun h_ => ⟨h_.1, by have g_ := h_.2; (exact zo_1188 eA1_4_N28_ hvN26_)⟩) (fun h_ => ⟨h_.1, by have g_ := h_.2; (exact zo_1189 eA1_4_N28_ h_.2 hvN26_)⟩))
                exact zk_vret (pc := 136) rfl hf_N28_ ⟨(show ze N28_ 1 2 = ((zru zpB b_ n_ (ze Mz 1 3).toNat) : Nat) by first | with_reducible assumption | (exact zo_1185 eA1_2_N22_ eA1_2_N26_ eA1_2_N28_ eA1_2_N5_ eA1_2_N7_ hc_33 hle_ hn7_ hn_ hp0_N1_ hvN28_ hvN3_ rA1_3_N28_.1) | assumption), hC_⟩ d_Tokens_step_136
            · skip
              have hs_ : zpS (b_ (zru zpB b_ n_ (ze Mz 1 3).toNat)) = false := by rw [← hbx_, ← hvx_]; exact ha112_0_hp0_N24_
              show zW l m_Tokens_step (zn Mz + 0, zw Mz + 0) N22_ 115 [some (.ref 1)] [.int (Int32.ofInt 0), .ref 1] _
              refine zr_if_eq (pc := 115) (tgt := 122) ⟨(by decide), (by decide)⟩ (by decide) (zdal_p dlA_Tokens_step_74 (i := 5) rfl) (fun hc_115 => ?_) (fun hc_115 => ?_)
              · skip
                refine zw_iconst (pc := 122) (v := Int32.ofInt 4) (by decide) (zdal_p dlA_Tokens_step_74 (i := 8) rfl) ?_
                refine zk_putA (pc := 123) (hf_N22_.w hW) (by decide) f_Tokens_44 rfl rfl ((hf_N22_.w hW).ka (o := 1) (by decide)) ⟨by (decide), by (decide)⟩ rfl rfl (zdal_p dlA_Tokens_step_74 (i := 9) rfl) (fun N30_ hsN30_ hvN30_ => ?_)
                have hf_N30_ : zFc d_ [(1, 2), (1, 3), (1, 4), (1, 5)] [] [] [] Mz N30_ := hf_N22_.tr hsN30_ (by decide) (by decide) (by decide) (by decide)
                have eA1_1_N30_ : ze N30_ 1 1 = ze N22_ 1 1 := hsN30_.ea (hf_N22_.w hW) (by decide)
                have eA1_2_N30_ : ze N30_ 1 2 = ze N22_ 1 2 := hsN30_.ea (hf_N22_.w hW) (by decide)
                have eA1_3_N30_ : ze N30_ 1 3 = ze N22_ 1 3 := hsN30_.ea (hf_N22_.w hW) (by decide)
                have rA1_4_N30_ := ze_r N30_ 1 4
                have eA1_5_N30_ : ze N30_ 1 5 = ze N22_ 1 5 := hsN30_.ea (hf_N22_.w hW) (by decide)
                have hS_ : (zpS (b_ (zru zpB b_ n_ (ze Mz 1 3).toNat)) = true ∧ ze N30_ 1 4 = 3) ∨ (zpS (b_ (zru zpB b_ n_ (ze Mz 1 3).toNat)) = false ∧ ze N30_ 1 4 = 4) := by first | exact Or.inl ⟨hs_, by omega⟩ | exact Or.inr ⟨hs_, by (exact hvN30_)⟩
                refine zw_aload_n (pc := 126) (n := 0) (x := 1) rfl (zdal_p dlA_Tokens_step_74 (i := 10) rfl) ?_
                refine zw_aload_n (pc := 127) (n := 0) (x := 1) rfl (zdal_p dlA_Tokens_step_74 (i := 11) rfl) ?_
                refine zk_getI (pc := 128) f_Tokens_38 rfl ((hf_N30_.w hW).ka (o := 1) (by decide)) (zdal_p dlA_Tokens_step_74 (i := 12) rfl) ?_
                refine zw_iconst (pc := 131) (v := Int32.ofInt 1) (by decide) (zdal_p dlA_Tokens_step_74 (i := 13) rfl) ?_
                refine zr_iadd (pc := 132) (zdal_p dlA_Tokens_step_74 (i := 14) rfl) ?_
                refine zk_putA (pc := 133) (hf_N30_.w hW) (by decide) f_Tokens_28 rfl rfl ((hf_N30_.w hW).ka (o := 1) (by decide)) ⟨by (exact zo_1183 eA1_2_N22_ eA1_2_N30_ eA1_2_N5_ eA1_2_N7_ rA1_2_N3_.1), by (exact zo_1184 eA1_2_N22_ eA1_2_N30_ hc_33 r_A1_1.2)⟩ rfl rfl (zdal_p dlA_Tokens_step_74 (i := 15) rfl) (fun N32_ hsN32_ hvN32_ => ?_)
                have hf_N32_ : zFc d_ [(1, 2), (1, 3), (1, 4), (1, 5)] [] [] [] Mz N32_ := hf_N30_.tr hsN32_ (by decide) (by decide) (by decide) (by decide)
                have eA1_2_N32_ : ze N32_ 1 2 = ze N30_ 1 2 := hsN32_.ea (hf_N30_.w hW) (by decide)
                have rA1_3_N32_ := ze_r N32_ 1 3
                have eA1_4_N32_ : ze N32_ 1 4 = ze N30_ 1 4 := hsN32_.ea (hf_N30_.w hW) (by decide)
                have eA1_5_N32_ : ze N32_ 1 5 = ze N30_ 1 5 := hsN32_.ea (hf_N30_.w hW) (by decide)
                have hC_ : zYt b_ n_ N32_ := zYt_S (s := (zru zpB b_ n_ (ze Mz 1 3).toNat)) (by (exact zo_1185 eA1_2_N22_ eA1_2_N30_ eA1_2_N32_ eA1_2_N5_ eA1_2_N7_ hc_33 hle_ hn7_ hn_ hp0_N1_ hvN32_ hvN3_ rA1_3_N32_.1)) (by (exact zo_1182 eA1_2_N5_ eA1_2_N7_ hc_33 hle_ hn_ hp0_N1_ hvN3_)) hL_ hD_ (by (exact zo_1186 eA1_2_N22_ eA1_2_N30_ eA1_2_N5_ eA1_2_N7_ hc_33 hle_ hn7_ hn_ hp0_N1_ hvN32_ hvN3_ rA1_3_N32_.1)) (by (exact zo_1187 eA1_5_N30_ eA1_5_N32_ hbx_ hvN22_)) (hS_.imp (fun h_ => ⟨h_.1, by have g_ := h_.2; (exact zo_1190 eA1_4_N32_ h_.2 hvN30_)⟩) (fun h_ => ⟨h_.1, by have g_ := h_.2; (exact zo_232 eA1_4_N32_ hvN30_)⟩))
                exact zk_vret (pc := 136) rfl hf_N32_ ⟨(show ze N32_ 1 2 = ((zru zpB b_ n_ (ze Mz 1 3).toNat) : Nat) by first | with_reducible assumption | (exact zo_1185 eA1_2_N22_ eA1_2_N30_ eA1_2_N32_ eA1_2_N5_ eA1_2_N7_ hc_33 hle_ hn7_ hn_ hp0_N1_ hvN32_ hvN3_ rA1_3_N32_.1) | assumption), hC_⟩ d_Tokens_step_136
              · skip
                exact absurd hc_115 (by decide)
          · skip
            exact absurd hc_82 (by decide)
      · skip
        exact absurd hc_58 (by decide)
  · skip
    refine zw_aload_n (pc := 36) (n := 0) (x := 1) rfl (zdal_p dlA_Tokens_step_72 (i := 18) rfl) ?_
    refine zw_iconst (pc := 37) (v := Int32.ofInt 0) (by decide) (zdal_p dlA_Tokens_step_72 (i := 19) rfl) ?_
    refine zk_putA (pc := 38) (hf_N7_.w hW) (by decide) f_Tokens_44 rfl rfl ((hf_N7_.w hW).ka (o := 1) (by decide)) ⟨by (decide), by (decide)⟩ rfl rfl (zdal_p dlA_Tokens_step_72 (i := 20) rfl) (fun N34_ hsN34_ hvN34_ => ?_)
    have hf_N34_ : zFc d_ [(1, 2), (1, 3), (1, 4), (1, 5)] [] [] [] Mz N34_ := hf_N7_.tr hsN34_ (by decide) (by decide) (by decide) (by decide)
    have eA1_2_N34_ : ze N34_ 1 2 = ze N7_ 1 2 := hsN34_.ea (hf_N7_.w hW) (by decide)
    have eA1_3_N34_ : ze N34_ 1 3 = ze N7_ 1 3 := hsN34_.ea (hf_N7_.w hW) (by decide)
    have hC_ : zYt b_ n_ N34_ := zYt_0 (s := (zru zpB b_ n_ (ze Mz 1 3).toNat)) (by (exact zo_1191 eA1_2_N34_ eA1_2_N5_ eA1_2_N7_ hc_33 hle_ hn_ hp0_N1_ hvN3_ rA1_2_N3_.2)) (by (exact zo_1192 eA1_2_N5_ eA1_2_N7_ hc_33 hle_ hn7_ hn_ hp0_N1_ hvN3_)) (by (exact zo_1193 eA1_3_N34_ eA1_3_N7_ hle_ hn7_ hp0_N1_ hvN3_ hvN5_ rA1_3_N5_.1 rA1_3_N5_.2)) (by (exact hvN34_))
    refine zw_goto (pc := 41) (tgt := 136) (by decide) (zdal_p dlA_Tokens_step_72 (i := 21) rfl) ?_
    exact zk_vret (pc := 136) rfl hf_N34_ ⟨(show ze N34_ 1 2 = ((zru zpB b_ n_ (ze Mz 1 3).toNat) : Nat) by first | with_reducible assumption | (exact zo_1191 eA1_2_N34_ eA1_2_N5_ eA1_2_N7_ hc_33 hle_ hn_ hp0_N1_ hvN3_ rA1_2_N3_.2) | assumption), hC_⟩ d_Tokens_step_136
set_option maxHeartbeats 4000000 in
theorem u_Tokens_rewind (l : Launch) (d_ : Nat) (Mz : zMem) (hW : zKW d_ Mz) (b_ : Nat → Int) (n_ : Nat) (p0_ : zYb b_ n_ Mz) : zC l m_Tokens_rewind 0 0 [.ref 1] Mz (zqcV d_ [(1, 2), (1, 3), (1, 4), (1, 5)] [] [] [] Mz (fun N => ze N 1 2 = (zru zpB b_ n_ 0 : Nat) ∧ zYt b_ n_ N)) := by
  refine zC_of (L0 := [some (.ref 1)]) md_Tokens_rewind (Nat.le_of_ble_eq_true rfl) rfl ?_ zQ0
  have hf : zFc d_ [(1, 2), (1, 3), (1, 4), (1, 5)] [] [] [] Mz Mz := zFc.rf
  have r_A1_2 := ze_r Mz 1 2
  have r_A1_3 := ze_r Mz 1 3
  obtain ⟨hn_, hn7_, hB_, hb_⟩ := id p0_
  refine zw_aload_n (pc := 0) (n := 0) (x := 1) rfl (zdal_p dlA_Tokens_rewind_71 (i := 0) rfl) ?_
  refine zw_iconst (pc := 1) (v := Int32.ofInt 0) (by decide) (zdal_p dlA_Tokens_rewind_71 (i := 1) rfl) ?_
  refine zk_putA (pc := 2) (hf.w hW) (by decide) f_Tokens_28 rfl rfl ((hf.w hW).ka (o := 1) (by decide)) ⟨by (decide), by (decide)⟩ rfl rfl (zdal_p dlA_Tokens_rewind_71 (i := 2) rfl) (fun N1_ hsN1_ hvN1_ => ?_)
  have hf_N1_ : zFc d_ [(1, 2), (1, 3), (1, 4), (1, 5)] [] [] [] Mz N1_ := hf.tr hsN1_ (by decide) (by decide) (by decide) (by decide)
  have c2_ : zYb b_ n_ N1_ := zYb.fr (hf.w hW) hsN1_ p0_ (by decide)
  refine zw_aload_n (pc := 5) (n := 0) (x := 1) rfl (zdal_p dlA_Tokens_rewind_71 (i := 3) rfl) ?_
  refine zk_callV hf_N1_.x (pc := 6) [] [] l_Tokens_31 (u_Tokens_step l d_ N1_ (hf_N1_.w hW) b_ n_ c2_ (show 0 ≤ ze N1_ 1 3 by first | with_reducible assumption | (exact zo_718 hvN1_) | assumption) (show ze N1_ 1 3 ≤ n_ by first | with_reducible assumption | (exact zo_1194 hvN1_) | assumption)) rfl rfl ((hf_N1_.w hW).ka (o := 1) (by decide)) (by decide) (by decide) (Nat.le_of_ble_eq_true rfl) (zdal_p dlA_Tokens_rewind_71 (i := 4) rfl) ?_
  rintro _ N3_ ⟨rfl, hsN3_, ⟨hp0_N3_, hp1_N3_⟩⟩
  have hf_N3_ : zFc d_ [(1, 2), (1, 3), (1, 4), (1, 5)] [] [] [] Mz N3_ := hf_N1_.tr hsN3_ (by decide) (by decide) (by decide) (by decide)
  show zW l m_Tokens_rewind (zn Mz + 0, zw Mz + 0) N3_ 9 [some (.ref 1)] [] _
  have hq0_ := hp0_N3_
  rw [show (ze N1_ 1 3).toNat = 0 by (exact zo_1061 hvN1_)] at hq0_
  exact zk_vret (pc := 9) rfl hf_N3_ ⟨(show ze N3_ 1 2 = (zru zpB b_ n_ 0 : Nat) by exact hq0_), hp1_N3_⟩ (zdal_p dlA_Tokens_rewind_71 (i := 5) rfl)
set_option maxHeartbeats 4000000 in
theorem u_Tokens_isNumber (l : Launch) (d_ : Nat) (Mz : zMem) (hW : zKW d_ Mz) (b_ : Nat → Int) (n_ : Nat) (p0_ : zYt b_ n_ Mz) : zC l m_Tokens_isNumber 0 0 [.ref 1] Mz (zqcI d_ [] [] [] [] Mz (fun v N => (((v = 1 ∧ zkd b_ n_ (ze Mz 1 2).toNat = 2) ∨ (v = 0 ∧ zkd b_ n_ (ze Mz 1 2).toNat ≠ 2))))) := by
  refine zC_of (L0 := [some (.ref 1)]) md_Tokens_isNumber (Nat.le_of_ble_eq_true rfl) rfl ?_ zQ0
  have hf : zFc d_ [] [] [] [] Mz Mz := zFc.rf
  have r_A1_2 := ze_r Mz 1 2
  have r_A1_4 := ze_r Mz 1 4
  obtain ⟨t1_, t2_, t3_, t4_, t5_, t6_⟩ := id p0_
  refine zw_aload_n (pc := 0) (n := 0) (x := 1) rfl (zdal_p dlA_Tokens_isNumber_93 (i := 0) rfl) ?_
  refine zk_getI (pc := 1) f_Tokens_44 rfl ((hf.w hW).ka (o := 1) (by decide)) (zdal_p dlA_Tokens_isNumber_93 (i := 1) rfl) ?_
  refine zw_iconst (pc := 4) (v := Int32.ofInt 2) (by decide) (zdal_p dlA_Tokens_isNumber_93 (i := 2) rfl) ?_
  refine zr_icmp_ne (pc := 5) (tgt := 12) ⟨(ze_r Mz 1 4).1, (ze_r Mz 1 4).2⟩ ⟨(by decide), (by decide)⟩ (by decide) (zdal_p dlA_Tokens_isNumber_93 (i := 3) rfl) (fun hc_5 => ?_) (fun hc_5 => ?_)
  · skip
    refine zw_iconst (pc := 12) (v := Int32.ofInt 0) (by decide) (zdal_p dlA_Tokens_isNumber_93 (i := 6) rfl) ?_
    exact zk_iret (pc := 13) (ty := .boolean) rfl (z_narB (by (decide))) ⟨by (decide), by (decide)⟩ hf (show ((0 = 1 ∧ zkd b_ n_ (ze Mz 1 2).toNat = 2) ∨ (0 = 0 ∧ zkd b_ n_ (ze Mz 1 2).toNat ≠ 2)) from Or.inr (⟨(show 0 = 0 by first | with_reducible assumption | (decide) | assumption), (show zkd b_ n_ (ze Mz 1 2).toNat ≠ 2 by first | with_reducible assumption | assumption | omega)⟩)) (zdal_p dlA_Tokens_isNumber_93 (i := 7) rfl)
  · skip
    refine zw_iconst (pc := 8) (v := Int32.ofInt 1) (by decide) (zdal_p dlA_Tokens_isNumber_93 (i := 4) rfl) ?_
    refine zw_goto (pc := 9) (tgt := 13) (by decide) (zdal_p dlA_Tokens_isNumber_93 (i := 5) rfl) ?_
    exact zk_iret (pc := 13) (ty := .boolean) rfl (z_narB (by (decide))) ⟨by (decide), by (decide)⟩ hf (show ((1 = 1 ∧ zkd b_ n_ (ze Mz 1 2).toNat = 2) ∨ (1 = 0 ∧ zkd b_ n_ (ze Mz 1 2).toNat ≠ 2)) from Or.inl (⟨(show 1 = 1 by first | with_reducible assumption | (decide) | assumption), (show zkd b_ n_ (ze Mz 1 2).toNat = 2 by first | with_reducible assumption | assumption | omega)⟩)) (zdal_p dlA_Tokens_isNumber_93 (i := 7) rfl)
set_option maxHeartbeats 4000000 in
theorem u_Tokens_isSign (l : Launch) (d_ : Nat) (Mz : zMem) (hW : zKW d_ Mz) (a0_ : Int) (ha0_a : -2147483648 ≤ a0_) (ha0_b : a0_ < 2147483648) (b_ : Nat → Int) (n_ : Nat) (p0_ : zYt b_ n_ Mz) : zC l m_Tokens_isSign 0 0 [.ref 1, .int (Int32.ofInt a0_)] Mz (zqcI d_ [] [] [] [] Mz (fun v N => (((v = 1 ∧ zkd b_ n_ (ze Mz 1 2).toNat = 3 ∧ b_ (ze Mz 1 2).toNat = a0_) ∨ (v = 0 ∧ ¬ (zkd b_ n_ (ze Mz 1 2).toNat = 3 ∧ b_ (ze Mz 1 2).toNat = a0_)))))) := by
  refine zC_of (L0 := [some (.ref 1), some (.int (Int32.ofInt a0_))]) md_Tokens_isSign (Nat.le_of_ble_eq_true rfl) rfl ?_ zQ0
  have hf : zFc d_ [] [] [] [] Mz Mz := zFc.rf
  have r_A1_2 := ze_r Mz 1 2
  have r_A1_4 := ze_r Mz 1 4
  have r_A1_5 := ze_r Mz 1 5
  obtain ⟨t1_, t2_, t3_, t4_, t5_, t6_⟩ := id p0_
  refine zw_aload_n (pc := 0) (n := 0) (x := 1) rfl (zdal_p dlA_Tokens_isSign_95 (i := 0) rfl) ?_
  refine zk_getI (pc := 1) f_Tokens_44 rfl ((hf.w hW).ka (o := 1) (by decide)) (zdal_p dlA_Tokens_isSign_95 (i := 1) rfl) ?_
  refine zw_iconst (pc := 4) (v := Int32.ofInt 3) (by decide) (zdal_p dlA_Tokens_isSign_95 (i := 2) rfl) ?_
  refine zr_icmp_ne (pc := 5) (tgt := 20) ⟨(ze_r Mz 1 4).1, (ze_r Mz 1 4).2⟩ ⟨(by decide), (by decide)⟩ (by decide) (zdal_p dlA_Tokens_isSign_95 (i := 3) rfl) (fun hc_5 => ?_) (fun hc_5 => ?_)
  · skip
    refine zw_iconst (pc := 20) (v := Int32.ofInt 0) (by decide) (zdal_p dlA_Tokens_isSign_95 (i := 10) rfl) ?_
    exact zk_iret (pc := 21) (ty := .boolean) rfl (z_narB (by (decide))) ⟨by (decide), by (decide)⟩ hf (show ((0 = 1 ∧ zkd b_ n_ (ze Mz 1 2).toNat = 3 ∧ b_ (ze Mz 1 2).toNat = a0_) ∨ (0 = 0 ∧ ¬ (zkd b_ n_ (ze Mz 1 2).toNat = 3 ∧ b_ (ze Mz 1 2).toNat = a0_))) from Or.inr (⟨(show 0 = 0 by first | (decide) | (rintro ⟨q1, q2⟩; have := t6_ q1; omega)), (show ¬ (zkd b_ n_ (ze Mz 1 2).toNat = 3 ∧ b_ (ze Mz 1 2).toNat = a0_) by first | omega | (rintro ⟨q1, q2⟩; have := t6_ q1; omega))⟩)) (zdal_p dlA_Tokens_isSign_95 (i := 11) rfl)
  · skip
    refine zw_aload_n (pc := 8) (n := 0) (x := 1) rfl (zdal_p dlA_Tokens_isSign_95 (i := 4) rfl) ?_
    refine zk_getI (pc := 9) f_Tokens_41 rfl ((hf.w hW).ka (o := 1) (by decide)) (zdal_p dlA_Tokens_isSign_95 (i := 5) rfl) ?_
    refine zw_iload_n (pc := 12) (n := 1) (x := Int32.ofInt a0_) rfl (zdal_p dlA_Tokens_isSign_95 (i := 6) rfl) ?_
    refine zr_icmp_ne (pc := 13) (tgt := 20) ⟨(ze_r Mz 1 5).1, (ze_r Mz 1 5).2⟩ ⟨ha0_a, ha0_b⟩ (by decide) (zdal_p dlA_Tokens_isSign_95 (i := 7) rfl) (fun hc_13 => ?_) (fun hc_13 => ?_)
    · skip
      refine zw_iconst (pc := 20) (v := Int32.ofInt 0) (by decide) (zdal_p dlA_Tokens_isSign_95 (i := 10) rfl) ?_
      exact zk_iret (pc := 21) (ty := .boolean) rfl (z_narB (by (decide))) ⟨by (decide), by (decide)⟩ hf (show ((0 = 1 ∧ zkd b_ n_ (ze Mz 1 2).toNat = 3 ∧ b_ (ze Mz 1 2).toNat = a0_) ∨ (0 = 0 ∧ ¬ (zkd b_ n_ (ze Mz 1 2).toNat = 3 ∧ b_ (ze Mz 1 2).toNat = a0_))) from Or.inr (⟨(show 0 = 0 by first | (decide) | (rintro ⟨q1, q2⟩; have := t6_ q1; omega)), (show ¬ (zkd b_ n_ (ze Mz 1 2).toNat = 3 ∧ b_ (ze Mz 1 2).toNat = a0_) by first | omega | (rintro ⟨q1, q2⟩; have := t6_ q1; omega))⟩)) (zdal_p dlA_Tokens_isSign_95 (i := 11) rfl)
    · skip
      refine zw_iconst (pc := 16) (v := Int32.ofInt 1) (by decide) (zdal_p dlA_Tokens_isSign_95 (i := 8) rfl) ?_
      refine zw_goto (pc := 17) (tgt := 21) (by decide) (zdal_p dlA_Tokens_isSign_95 (i := 9) rfl) ?_
      exact zk_iret (pc := 21) (ty := .boolean) rfl (z_narB (by (decide))) ⟨by (decide), by (decide)⟩ hf (show ((1 = 1 ∧ zkd b_ n_ (ze Mz 1 2).toNat = 3 ∧ b_ (ze Mz 1 2).toNat = a0_) ∨ (1 = 0 ∧ ¬ (zkd b_ n_ (ze Mz 1 2).toNat = 3 ∧ b_ (ze Mz 1 2).toNat = a0_))) from Or.inl (⟨(show 1 = 1 by first | (decide) | (have := t6_ (by omega); omega)), (show zkd b_ n_ (ze Mz 1 2).toNat = 3 by first | omega | (have := t6_ (by omega); omega)), (show b_ (ze Mz 1 2).toNat = a0_ by first | omega | (have := t6_ (by omega); omega))⟩)) (zdal_p dlA_Tokens_isSign_95 (i := 11) rfl)
noncomputable def zif {α : Type} (P : Prop) (a b : α) : α := @ite α P (Classical.propDecidable P) a b
theorem zif_t {α : Type} {P : Prop} {a b : α} (h : P) : zif P a b = a := by
  unfold zif
  rw [if_pos h]
theorem zif_f {α : Type} {P : Prop} {a b : α} (h : ¬ P) : zif P a b = b := by
  unfold zif
  rw [if_neg h]
def zsm (f : Nat → Int) : Nat → Int
  | 0 => 0
  | k + 1 => zsm f k + f k
theorem zsm_c {f g : Nat → Int} : ∀ k : Nat, (∀ i, i < k → f i = g i) → zsm f k = zsm g k
  | 0, _ => rfl
  | k + 1, h => by
    show zsm f k + f k = zsm g k + g k
    rw [zsm_c k (fun i hi => h i (by omega)), h k (by omega)]
theorem zsm_add (f g : Nat → Int) : ∀ k, zsm (fun i => f i + g i) k = zsm f k + zsm g k
  | 0 => rfl
  | k + 1 => by
    show zsm (fun i => f i + g i) k + (f k + g k) = (zsm f k + f k) + (zsm g k + g k)
    rw [zsm_add f g k]
    omega
theorem zsm_mul (f : Nat → Int) (c : Int) : ∀ k, zsm (fun i => c * f i) k = c * zsm f k
  | 0 => (Int.mul_zero c).symm
  | k + 1 => by
    show zsm (fun i => c * f i) k + c * f k = c * (zsm f k + f k)
    rw [zsm_mul f c k, Int.mul_add]
theorem zsm_0 : ∀ k, zsm (fun _ => 0) k = 0
  | 0 => rfl
  | k + 1 => by
    show zsm (fun _ => 0) k + 0 = 0
    rw [zsm_0 k]
    rfl
theorem zsm_z {f : Nat → Int} {k : Nat} (h : ∀ i, i < k → f i = 0) : zsm f k = 0 := (zsm_c k h).trans (zsm_0 k)
theorem zsm_sw (f : Nat → Nat → Int) (m : Nat) : ∀ k, zsm (fun i => zsm (fun j => f i j) m) k = zsm (fun j => zsm (fun i => f i j) k) m
  | 0 => (zsm_z (fun _ _ => rfl)).symm
  | k + 1 => by
    show zsm (fun i => zsm (fun j => f i j) m) k + zsm (fun j => f k j) m = zsm (fun j => zsm (fun i => f i j) k + f k j) m
    rw [zsm_sw f m k, zsm_add]
theorem zsm_1 {f : Nat → Int} {a : Nat} : ∀ {k : Nat}, a < k → (∀ i, i < k → i ≠ a → f i = 0) → zsm f k = f a
  | 0, h, _ => absurd h (by omega)
  | k + 1, h, h0 => by
    show zsm f k + f k = f a
    by_cases e : a = k
    · rw [e, zsm_z (fun i hi => h0 i (by omega) (by omega))]
      omega
    · rw [zsm_1 (by omega) (fun i hi => h0 i (by omega)), h0 k (by omega) (by omega)]
      omega
def zLim : Int := 1000000000000
def zmq (F : Nat) (K : Nat → Nat → Int) (v : Nat → Int) (j : Nat) : Int := zsm (fun i => v i * K i j) F
theorem zmq_c {F : Nat} {K : Nat → Nat → Int} {v w : Nat → Int} (h : ∀ i, i < F → v i = w i) (j : Nat) : zmq F K v j = zmq F K w j := zsm_c F (fun i hi => by rw [h i hi])
theorem zmq_add (F : Nat) (K : Nat → Nat → Int) (v w : Nat → Int) (j : Nat) : zmq F K (fun k => v k + w k) j = zmq F K v j + zmq F K w j := by
  unfold zmq
  rw [← zsm_add]
  exact zsm_c F (fun i _ => Int.add_mul _ _ _)
theorem zmq_mul (F : Nat) (K : Nat → Nat → Int) (c : Int) (v : Nat → Int) (j : Nat) : zmq F K (fun k => c * v k) j = c * zmq F K v j := by
  unfold zmq
  rw [← zsm_mul]
  exact zsm_c F (fun i _ => Int.mul_assoc _ _ _)
theorem zmq_neg (F : Nat) (K : Nat → Nat → Int) (v : Nat → Int) (j : Nat) : zmq F K (fun k => -v k) j = -zmq F K v j := by
  have h := zmq_mul F K (-1) v j
  rw [Int.neg_one_mul] at h
  rw [← h]
  exact zmq_c (fun i _ => (Int.neg_one_mul _).symm) j
def zTA (F : Nat) (K : Nat → Nat → Int) : Prop := (1 ≤ F ∧ F ≤ 27) ∧ (∀ i j, i < F → j < F → 0 ≤ K i j ∧ K i j ≤ 24) ∧ (∀ i j, i < j → j < F → K i j = 0) ∧ (∀ j, j < F → 1 ≤ K j j) ∧ (∀ i j, i < F → j < F → ∃ c : Nat → Int, ∀ k, k < F → zmq F K c k = K i k * K j k) ∧ (∀ u : Nat → Int, (∀ j, j < F → -zLim ≤ zmq F K u j ∧ zmq F K u j ≤ zLim) → ∀ i, i < F → -100000000000000000 ≤ u i * K i i ∧ u i * K i i ≤ 100000000000000000) ∧ (∀ i, i < F → K (F - 1) i = 1)
section ZTA
variable {F : Nat} {K : Nat → Nat → Int}
theorem zsm_tail {f : Nat → Int} {j : Nat} (h : ∀ i, i < j → f i = 0) : ∀ m, zsm f (j + 1 + m) = f j + zsm (fun i => f (j + 1 + i)) m
  | 0 => by
    show zsm f j + f j = f j + 0
    rw [zsm_z h]
    omega
  | m + 1 => by
    show zsm f (j + 1 + m) + f (j + 1 + m) = f j + (zsm (fun i => f (j + 1 + i)) m + f (j + 1 + m))
    rw [zsm_tail h m]
    omega
theorem zmq_tail (hA : zTA F K) {u : Nat → Int} {j : Nat} (hj : j < F) : zmq F K u j = u j * K j j + zsm (fun i => u (j + 1 + i) * K (j + 1 + i) j) (F - 1 - j) := by
  have h := zsm_tail (f := fun i => u i * K i j) (j := j) (fun i hi => by
    show u i * K i j = 0
    rw [hA.2.2.1 i j hi hj, Int.mul_zero]) (F - 1 - j)
  rw [show j + 1 + (F - 1 - j) = F by omega] at h
  exact h
def zPx (F : Nat) (K : Nat → Nat → Int) (v w u : Nat → Int) : Prop := (∀ k, F ≤ k → u k = 0) ∧ ∀ j, j < F → zmq F K u j = zmq F K v j * zmq F K w j
noncomputable def zprd (F : Nat) (K : Nat → Nat → Int) (v w : Nat → Int) : Nat → Int := @dite _ (∃ u, zPx F K v w u) (Classical.propDecidable _) (fun h => Classical.choose h) (fun _ _ => 0)
theorem zPx_ex (hA : zTA F K) (v w : Nat → Int) : ∃ u, zPx F K v w u := by
  have hc : ∀ i j, ∃ c : Nat → Int, i < F → j < F → ∀ k, k < F → zmq F K c k = K i k * K j k := fun i j => by
    by_cases h : i < F ∧ j < F
    · obtain ⟨c, hc⟩ := hA.2.2.2.2.1 i j h.1 h.2
      exact ⟨c, fun _ _ => hc⟩
    · exact ⟨fun _ => 0, fun h1 h2 => absurd ⟨h1, h2⟩ h⟩
  let c : Nat → Nat → Nat → Int := fun i j => Classical.choose (hc i j)
  have c1 : ∀ i j, i < F → j < F → ∀ k, k < F → zmq F K (c i j) k = K i k * K j k := fun i j => Classical.choose_spec (hc i j)
  refine ⟨fun l => if l < F then zsm (fun i => zsm (fun j => v i * w j * c i j l) F) F else 0, fun k hk => if_neg (by omega), fun k hk => ?_⟩
  rw [zmq_c (w := fun l => zsm (fun i => zsm (fun j => v i * w j * c i j l) F) F) (fun i hi => if_pos hi)]
  have e1 : zmq F K (fun l => zsm (fun i => zsm (fun j => v i * w j * c i j l) F) F) k = zsm (fun i => zsm (fun j => v i * w j * zmq F K (c i j) k) F) F := by
    unfold zmq
    rw [zsm_c (g := fun l => zsm (fun i => zsm (fun j => v i * w j * (c i j l * K l k)) F) F) F (fun l _ => ?_), zsm_sw]
    · refine zsm_c F (fun i _ => ?_)
      rw [zsm_sw]
      exact zsm_c F (fun j _ => zsm_mul _ _ F)
    · rw [Int.mul_comm, ← zsm_mul]
      refine zsm_c F (fun i _ => ?_)
      rw [← zsm_mul]
      refine zsm_c F (fun j _ => ?_)
      rw [Int.mul_comm, Int.mul_assoc]
  rw [e1]
  have e2 : zsm (fun i => zsm (fun j => v i * w j * zmq F K (c i j) k) F) F = zsm (fun i => (v i * K i k) * zmq F K w k) F := by
    refine zsm_c F (fun i hi => ?_)
    unfold zmq
    rw [← zsm_mul]
    refine zsm_c F (fun j hj => ?_)
    rw [show zsm (fun l => c i j l * K l k) F = K i k * K j k from c1 i j hi hj k hk, Int.mul_assoc, Int.mul_assoc]
    congr 1
    rw [← Int.mul_assoc, ← Int.mul_assoc, Int.mul_comm (w j)]
  rw [e2]
  unfold zmq
  rw [Int.mul_comm, ← zsm_mul]
  exact zsm_c F (fun i _ => Int.mul_comm _ _)
theorem zprd_s (hA : zTA F K) (v w : Nat → Int) : zPx F K v w (zprd F K v w) := by
  have h := zPx_ex hA v w
  unfold zprd
  rw [dif_pos h]
  exact Classical.choose_spec h
end ZTA
def zfit (F : Nat) (K : Nat → Nat → Int) (v : Nat → Int) : Prop := ∀ i, i < F → (-zLim ≤ v i ∧ v i ≤ zLim) ∧ -zLim ≤ zmq F K v i ∧ zmq F K v i ≤ zLim
def zmok (F : Nat) (K : Nat → Nat → Int) (v w : Nat → Int) : Prop := ∀ j, j < F → -zLim ≤ zmq F K v j * zmq F K w j ∧ zmq F K v j * zmq F K w j ≤ zLim
def zone (i x : Int) : Nat → Int := fun k => if (k : Int) = i then x else 0
noncomputable def zop (F : Nat) (K : Nat → Nat → Int) (x : Nat) (v w : Nat → Int) : Nat → Int := if x = 4 then zprd F K v w else if x = 2 then (fun k => v k + w k) else fun k => v k - w k
abbrev zTr : Type := List Nat × List (Nat → Int) × Bool
noncomputable def zwk1 (F : Nat) (K : Nat → Nat → Int) : zTr → zTr
  | ([], vs, g) => ([], vs, g)
  | (x :: sg, w :: v :: vs, false) => zif ((x = 4 → zmok F K v w) ∧ zfit F K (zop F K x v w)) (sg, zop F K x v w :: vs, false) (sg, [], true)
  | (_ :: sg, _, g) => (sg, [], g)
noncomputable def zrk (F : Nat) (K : Nat → Nat → Int) (x : Nat) : Nat → zTr → zTr
  | 0, t => t
  | k + 1, t => match t.1 with
    | [] => t
    | y :: _ => if x ≤ y then zrk F K x k (zwk1 F K t) else t
def zng : List Nat → List (Nat → Int) → List Nat × List (Nat → Int)
  | 1 :: sg, v :: vs => zng sg ((fun k => -v k) :: vs)
  | 1 :: sg, [] => zng sg []
  | sg, vs => (sg, vs)
noncomputable def zpw (F : Nat) (K : Nat → Nat → Int) (x : Nat → Int) : Nat → Option (Nat → Int)
  | 0 => some (zone ((F : Int) - 1) 1)
  | k + 1 => match zpw F K x k with
    | none => none
    | some v => zif (zmok F K v x ∧ zfit F K (zprd F K v x)) (some (zprd F K v x)) none
noncomputable def zpo (F : Nat) (K : Nat → Nat → Int) (k : Nat) : List (Nat → Int) → Bool → List (Nat → Int) × Bool
  | v :: vs, false => match zpw F K v k with
    | none => ([], true)
    | some u => (u :: vs, false)
  | vs, g => (vs, g)
def zdp (sg : List Nat) : Nat := sg.countP (fun x => x ≤ 1)
def zop0 (sg : List Nat) : Nat := sg.countP (fun x => x == 0)
def zbn (sg : List Nat) : Nat := sg.countP (fun x => 2 ≤ x)
def zpu (g : Bool) (v : Nat → Int) (vs : List (Nat → Int)) : List (Nat → Int) := if g = true then [] else v :: vs
def zfd : List (Int × (Nat → Int)) → Int → Option (Nat → Int)
  | [], _ => none
  | e :: l, x => if e.1 = x then some e.2 else zfd l x
def zkey (b : Nat → Int) (n p : Nat) : Int := zw2 b p (zen b n p - p)
def znu (b : Nat → Int) (n p : Nat) : Int := zvl b p (zen b n p - p)
def zkw : Nat → Int := fun i => [235981828, 267413, 8903, 385418].getD i 0
def zisn (b : Nat → Int) (n p : Nat) : Prop := zkd b n p = 1 ∧ zkey b n p ≠ zkw 0 ∧ zkey b n p ≠ zkw 1 ∧ zkey b n p ≠ zkw 2 ∧ zkey b n p ≠ zkw 3
def zisg (b : Nat → Int) (n p : Nat) (c : Int) : Prop := zkd b n p = 3 ∧ b p = c
abbrev zFst : Type := Nat × Nat × List Nat × List (Nat → Int) × Nat × Bool
def zFt : zFst := (4, 0, [], [], 0, false)
def zuo (sg : List Nat) (un : Nat) : Prop := un < 30 ∧ zdp sg ≤ 6
noncomputable def zfs (b : Nat → Int) (n F : Nat) (K : Nat → Nat → Int) (nm : List (Int × (Nat → Int))) : zFst → zFst
  | (0, p, sg, vs, un, g) =>
    zif (zisg b n p 45 ∨ zisg b n p 40) (zif (zuo sg un) (0, znx b n p, (if b p = 40 then 0 else 1) :: sg, vs, un + 1, g) zFt)
    (zif (zkd b n p = 2) (zif (zuo sg un) (1, znx b n p, sg, zpu g (zone ((F : Int) - 1) (znu b n p)) vs, un + 1, g) zFt)
    (zif (zkd b n p = 1 ∧ zkey b n p = zkw 3) (zif (zuo sg un ∧ zkd b n (znx b n p) = 2 ∧ znu b n (znx b n p) < F) (1, znx b n (znx b n p), sg, zpu g (zone (znu b n (znx b n p)) 1) vs, un + 1, g) zFt)
    (zif (zuo sg un ∧ zisn b n p) (match zfd nm (zkey b n p) with | none => zFt | some v => (1, znx b n p, sg, zpu g v vs, un + 1, g)) zFt)))
  | (1, p, sg, vs, un, g) =>
    zif (zisg b n p 94) (zif (zkd b n (znx b n p) = 2 ∧ znu b n (znx b n p) ≤ 9) (2, znx b n (znx b n p), (zng sg (zpo F K (znu b n (znx b n p)).toNat vs g).1).1, (zng sg (zpo F K (znu b n (znx b n p)).toNat vs g).1).2, un, (zpo F K (znu b n (znx b n p)).toNat vs g).2) zFt)
    (2, p, (zng sg vs).1, (zng sg vs).2, un, g)
  | (2, p, sg, vs, un, g) =>
    zif (zisg b n p 42) (0, znx b n p, 4 :: (zrk F K 4 sg.length (sg, vs, g)).1, (zrk F K 4 sg.length (sg, vs, g)).2.1, un, (zrk F K 4 sg.length (sg, vs, g)).2.2)
    (zif (zisg b n p 43 ∨ zisg b n p 45) (0, znx b n p, (if b p = 43 then 2 else 3) :: (zrk F K 2 sg.length (sg, vs, g)).1, (zrk F K 2 sg.length (sg, vs, g)).2.1, un, (zrk F K 2 sg.length (sg, vs, g)).2.2)
    (zif (zisg b n p 41 ∧ 0 ∈ sg) (1, znx b n p, (zrk F K 2 sg.length (sg, vs, g)).1.tail, (zrk F K 2 sg.length (sg, vs, g)).2.1, un, (zrk F K 2 sg.length (sg, vs, g)).2.2)
    (zif (0 ∈ sg) zFt (3, p, (zrk F K 2 sg.length (sg, vs, g)).1, (zrk F K 2 sg.length (sg, vs, g)).2.1, un, (zrk F K 2 sg.length (sg, vs, g)).2.2))))
  | s => s
def zrea (stp : zFst → zFst) : Nat → zFst → zFst
  | 0, s => s
  | n + 1, s => zrea stp n (stp s)
def zRea (stp : zFst → zFst) (s t : zFst) : Prop := ∃ n, zrea stp n s = t
theorem zrea_add {stp : zFst → zFst} : ∀ (n m : Nat) (s : zFst), zrea stp (n + m) s = zrea stp m (zrea stp n s)
  | 0, m, s => by rw [Nat.zero_add]; rfl
  | n + 1, m, s => by
    rw [show n + 1 + m = (n + m) + 1 by omega]
    exact zrea_add n m (stp s)
theorem zRea.rf {stp : zFst → zFst} {s : zFst} : zRea stp s s := ⟨0, rfl⟩
theorem zRea.tr {stp : zFst → zFst} {s t u : zFst} (h : zRea stp s t) (h2 : zRea stp t u) : zRea stp s u := by
  obtain ⟨n, rfl⟩ := h
  obtain ⟨m, rfl⟩ := h2
  exact ⟨n + m, zrea_add n m s⟩
theorem zRea.st {stp : zFst → zFst} {s t : zFst} (h : stp s = t) : zRea stp s t := ⟨1, h⟩
theorem zrea_fix {stp : zFst → zFst} {t : zFst} (h : stp t = t) : ∀ n, zrea stp n t = t
  | 0 => rfl
  | n + 1 => by
    show zrea stp n (stp t) = t
    rw [h]
    exact zrea_fix h n
theorem zRea.end {stp : zFst → zFst} {s t u : zFst} (h : zRea stp s t) (h2 : zRea stp s u) (ht : stp t = t) (hu : stp u = u) : t = u := by
  obtain ⟨n, rfl⟩ := h
  obtain ⟨m, rfl⟩ := h2
  rcases Nat.le_total n m with e | e
  · obtain ⟨k, rfl⟩ := Nat.exists_eq_add_of_le e
    rw [zrea_add, zrea_fix ht]
  · obtain ⟨k, rfl⟩ := Nat.exists_eq_add_of_le e
    rw [zrea_add, zrea_fix hu]
theorem z64q {v a : Int} (hv : zn64 v) (ha : zn64 a) (h : Int64.ofInt v = Int64.ofInt a) : v = a := by
  have := congrArg Int64.toInt h
  rwa [z64 hv, z64 ha] at this
theorem zq_td (a : Int) {b : Int} (b0 : 1 ≤ b) : (a.tdiv b).natAbs ≤ a.natAbs := by
  rw [Int.natAbs_tdiv]
  exact Nat.div_le_self _ _
theorem zq_t {a b : Int} (a0 : -4611686018427387903 ≤ a) (a1 : a ≤ 4611686018427387903) (b0 : 1 ≤ b) (b1 : b ≤ 4611686018427387903) : zlquo a b = a.tdiv b := by
  have ha : zn64 a := ⟨by omega, by omega⟩
  have hb : zn64 b := ⟨by (exact zo_2176 b0), by omega⟩
  unfold zlquo
  rw [Int64.toInt_div_of_ne_left _ _ (fun e => by
    have := congrArg Int64.toInt e
    rw [z64 ha, Int64.toInt_minValue] at this
    omega), z64 ha, z64 hb]
theorem zq_x {u m : Int} (h0 : -4611686018427387903 ≤ u * m) (h1 : u * m ≤ 4611686018427387903) (m0 : 1 ≤ m) (m1 : m ≤ 4611686018427387903) : zlquo (u * m) m = u := by
  rw [zq_t h0 h1 m0 m1]
  exact Int.mul_tdiv_cancel _ (by (exact zo_999 m0))
theorem zq_l {m o : Int} (m0 : 1 ≤ m) (m1 : m ≤ 1000000000000) : zlquo 1000000000000 m < o ↔ 1000000000000 < o * m := by
  rw [zq_t (by decide) (by decide) m0 (by omega), Int.tdiv_eq_ediv_of_nonneg (by decide)]
  exact Int.ediv_lt_iff_lt_mul (by omega)
theorem zmo {m o x y : Int} (hx : (0 < m ∧ x = m) ∨ (m ≤ 0 ∧ x = -m)) (hy : (0 < o ∧ y = o) ∨ (o ≤ 0 ∧ y = -o)) : (-1000000000000 ≤ m * o ∧ m * o ≤ 1000000000000) ↔ y * x ≤ 1000000000000 := by
  have e : ((m * o).natAbs : Int) = y * x := by
    rw [show x = (m.natAbs : Int) by omega, show y = (o.natAbs : Int) by omega, Int.natAbs_mul, Int.mul_comm]
    rfl
  rw [← e]
  omega
section ZKS
variable {l : Launch} {k : zMeth} {X : Nat × Nat} {Mz : zMem} {pc : Nat} {L : List (Option Value)} {S : List Value} {Q : Option Value → zMem → Prop} {a b : Int} {d : Nat}
theorem zk_absJ {ix : Nat} (hlk : Cond.methodLink (zR (zo k)) ix Lib.MathLoose.abs_long.x ∈ z_tbl) (hR : 1 ≤ zF k ∧ 30 ≤ zLo k) (hc8 : (S.map fun v => v.category).sum ≤ 8) (hd : decode (zb k) pc = .ok (.invokestatic ix, 3)) (ha : zn64 a) (kk : ∀ v : Int, ((0 < a ∧ v = a) ∨ (a ≤ 0 ∧ v = -a)) → zW l k X Mz (pc + 3) L (.long (Int64.ofInt v) :: S) Q) : zW l k X Mz pc L (.long (Int64.ofInt a) :: S) Q := by
  refine zw_mabsl hlk hR hc8 hd (fun v hv => ?_)
  have e : v = Int64.ofInt (if 0 < a then a else -a) := by
    rw [hv]
    have h0 : (0 : Int64) = Int64.ofInt 0 := by decide
    have hlt : (0 : Int64) < Int64.ofInt a ↔ 0 < a := by
      rw [h0, Int64.lt_iff_toInt_lt, z64 ha, z64 ⟨by decide, by decide⟩]
    by_cases h : 0 < a
    · rw [if_pos (hlt.mpr h), if_pos h]
    · rw [if_neg (fun z => h (hlt.mp z)), if_neg h, Int64.ofInt_neg]
  rw [e]
  exact kk _ (by split <;> omega)
end ZKS
def zKm (F : Nat) (K : Nat → Nat → Int) (d : Nat) (Mz : zMem) : Prop := ze Mz (d + 12) 7 = F ∧ ∀ i j, i < F → j < F → ze Mz (d + 22) (27 * i + j) = K i j
section ZKF
variable {d : Nat} {FA : List (Nat × Nat)} {CA : List Nat} {FR : List (Nat × Nat)} {CR : List Nat} {Mz Nz : zMem} {F : Nat} {K : Nat → Nat → Int}
theorem zKm.fr (_ : zKW d Mz) (hf : zFc d FA CA FR CR Mz Nz) (h : zKm F K d Mz) (hd : (12 < 38 ∧ 12 ∉ CR ∧ (12, 7) ∉ FR) ∧ 22 < 38 ∧ 22 ∉ CR ∧ ∀ x ∈ FR, x.1 ≠ 22) : zKm F K d Nz :=
  ⟨(hf.e hd.1).trans h.1, fun i j hi hj => (hf.r hd.2 _).trans (h.2 i j hi hj)⟩
theorem zKm.k (h : zKm F K d Mz) {i j v : Int} (i0 : 0 ≤ i) (i1 : i < F) (j0 : 0 ≤ j) (j1 : j < F) (hv : v = ze Mz (d + 22) (i * 27 + j).toNat) : v = K i.toNat j.toNat := by
  rw [hv, show (i * 27 + j).toNat = 27 * i.toNat + j.toNat by omega]
  exact h.2 _ _ (by (exact zo_1085 i0 i1)) (by (exact zo_1085 j0 j1))
def zSh (m : Int) (d : Nat) (Mz Nz : zMem) (s : Int) (f : Nat → Int) : Prop := ∀ x : Nat, zg Nz (d + 25) x = if 27 * s ≤ x ∧ (x : Int) < 27 * s + m then f ((x : Int) - 27 * s).toNat else zg Mz (d + 25) x
def zS1 (d : Nat) (Mz Nz : zMem) (e v : Int) : Prop := ∀ x : Nat, zg Nz (d + 25) x = if (x : Int) = e then v else zg Mz (d + 25) x
def zvc (F d : Nat) (Mz : zMem) (s : Int) : Nat → Int := fun k => if k < F then zg Mz (d + 25) (27 * s.toNat + k) else 0
theorem zSh_0 {s : Int} {f : Nat → Int} : zSh 0 d Mz Mz s f := fun x => by rw [if_neg (by omega)]
theorem zS1_i {e v : Int} (h : Nz = zsJ Mz (d + 25) e.toNat (Int64.ofInt v)) (hv : zn64 v) (e0 : 0 ≤ e) : zS1 d Mz Nz e v := fun x => by
  by_cases g : (x : Int) = e
  · rw [if_pos g, show x = e.toNat by (exact zo_2180 e0 g)]
    exact zs_getJ h hv
  · rw [if_neg g]
    exact zs_othJ h (by (exact zo_148 e0 g))
theorem zSh_s {Pz : zMem} {m s v e : Int} {f : Nat → Int} (h : zSh m d Mz Nz s f) (h1 : zS1 d Nz Pz e v) (he : e = s * 27 + m) (m0 : 0 ≤ m) (hv : v = f m.toNat) : zSh (m + 1) d Mz Pz s f := fun x => by
  rw [h1 x]
  by_cases g : (x : Int) = e
  · rw [if_pos g, if_pos (by omega), hv, show ((x : Int) - 27 * s).toNat = m.toNat by omega]
  · rw [if_neg g, h x]
    by_cases g2 : 27 * s ≤ x ∧ (x : Int) < 27 * s + m
    · rw [if_pos g2, if_pos (by omega)]
    · rw [if_neg g2, if_neg (by omega)]
theorem zSh_p {Pz : zMem} {m s : Int} {f : Nat → Int} (h : ∀ x : Nat, zg Nz (d + 25) x = zg Mz (d + 25) x) (h2 : zSh m d Nz Pz s f) : zSh m d Mz Pz s f := fun x => by rw [h2 x, h x]
theorem zSh_a {m s v : Int} {f : Nat → Int} (h : zSh m d Mz Nz s f) {x : Nat} (hv : v = zg Nz (d + 25) x) (hx : ¬ (27 * s ≤ x ∧ (x : Int) < 27 * s + m)) : v = zg Mz (d + 25) x := by
  rw [hv, h x, if_neg hx]
theorem zvc_at {s : Int} {k : Nat} (hk : k < F) (s0 : 0 ≤ s) {v : Int} {x : Nat} (hv : v = zg Mz (d + 25) x) (hx : (x : Int) = s * 27 + k) : v = zvc F d Mz s k := by
  unfold zvc
  rw [if_pos hk, hv, show x = 27 * s.toNat + k by omega]
theorem zSh_n {s : Int} {f : Nat → Int} (s0 : 0 ≤ s) (h : zSh F d Mz Nz s f) : zvc F d Nz s = fun k => if k < F then f k else 0 := by
  funext k
  unfold zvc
  by_cases g : k < F
  · rw [if_pos g, if_pos g, h, if_pos (by omega), show (((27 * s.toNat + k : Nat) : Int) - 27 * s).toNat = k by omega]
  · rw [if_neg g, if_neg g]
theorem zSh_o {s t : Int} {f : Nat → Int} (hF : F ≤ 27) (s0 : 0 ≤ s) (t0 : 0 ≤ t) (hst : s ≠ t) (h : zSh F d Mz Nz s f) : zvc F d Nz t = zvc F d Mz t := by
  funext k
  unfold zvc
  by_cases g : k < F
  · rw [if_pos g, if_pos g, h, if_neg (by omega)]
  · rw [if_neg g, if_neg g]
theorem zvc_f (hf : zFc d FA CA FR CR Mz Nz) (hd : 25 < 38 ∧ 25 ∉ CR ∧ ∀ x ∈ FR, x.1 ≠ 25) (s : Int) : zvc F d Nz s = zvc F d Mz s := by
  funext k
  unfold zvc
  rw [hf.rg hd]
theorem zvc_r (h : ∀ x : Nat, zg Nz (d + 25) x = zg Mz (d + 25) x) (s : Int) : zvc F d Nz s = zvc F d Mz s := by
  funext k
  unfold zvc
  rw [h]
theorem zmq_s {f : Nat → Int} {u w x y v : Int} (hi : Int64.ofInt u = Int64.ofInt (zsm f w.toNat)) (hv : Int64.ofInt v = Int64.ofInt (u + x * y)) (w0 : 0 ≤ w) (hf : f w.toNat = x * y) : Int64.ofInt v = Int64.ofInt (zsm f (w + 1).toNat) := by
  rw [show (w + 1).toNat = w.toNat + 1 by (exact zo_1084 w0)]
  show _ = Int64.ofInt (zsm f w.toNat + f w.toNat)
  rw [hv, Int64.ofInt_add, hi, hf, ← Int64.ofInt_add]
def zbd (F : Nat) (K : Nat → Nat → Int) (v : Nat → Int) : Prop := ∀ i, i < F → (-9000000000000000000 ≤ v i ∧ v i ≤ 9000000000000000000) ∧ -9000000000000000000 ≤ zmq F K v i ∧ zmq F K v i ≤ 9000000000000000000
theorem zfit.b {v : Nat → Int} (h : zfit F K v) : zbd F K v := fun i hi => by
  have := h i hi
  unfold zLim at this
  omega
def zft (F : Nat) (K : Nat → Nat → Int) (v : Nat → Int) (m : Int) : Prop := ∀ i : Nat, i < F → (i : Int) < m → (-zLim ≤ v i ∧ v i ≤ zLim) ∧ -zLim ≤ zmq F K v i ∧ zmq F K v i ≤ zLim
theorem zft_0 {v : Nat → Int} : zft F K v 0 := fun i _ h => absurd h (by (exact zo_131))
theorem zft_s {v : Nat → Int} {m : Int} (h : zft F K v m) (m0 : 0 ≤ m) (h1 : (-zLim ≤ v m.toNat ∧ v m.toNat ≤ zLim) ∧ -zLim ≤ zmq F K v m.toNat ∧ zmq F K v m.toNat ≤ zLim) : zft F K v (m + 1) := fun i hi him => by
  by_cases g : (i : Int) = m
  · rw [show i = m.toNat by (exact zo_2187 g him m0)]
    exact h1
  · exact h i hi (by (exact zo_130 him g))
theorem zft_e {v : Nat → Int} {m : Int} (h : zft F K v m) (hm : (F : Int) ≤ m) : zfit F K v := fun i hi => h i hi (by (exact zo_2188 hi hm))
def zsv (F : Nat) (K : Nat → Nat → Int) (d : Nat) (Mz : zMem) (u : Nat → Int) : Prop := (∀ j, j < F → zg Mz (d + 27) j = zmq F K u j) ∧ ∀ i, i < F → -100000000000000000 ≤ u i * K i i ∧ u i * K i i ≤ 100000000000000000
def zUp (F d : Nat) (Mz Nz : zMem) (s : Int) (u : Nat → Int) (j : Int) : Prop := ∀ x : Nat, (¬ (27 * s ≤ x ∧ (x : Int) < 27 * s + F) → zg Nz (d + 25) x = zg Mz (d + 25) x) ∧ (27 * s + j < x → (x : Int) < 27 * s + F → zg Nz (d + 25) x = u ((x : Int) - 27 * s).toNat)
def zOu (F d : Nat) (Mz Nz : zMem) (s : Int) : Prop := ∀ x : Nat, ¬ (27 * s ≤ x ∧ (x : Int) < 27 * s + F) → zg Nz (d + 25) x = zg Mz (d + 25) x
theorem zin_0 {u : Nat → Int} {r j : Int} (j0 : 0 ≤ j) (h : zsv F K d Mz u) (jF : j < F) (hr : r = zg Mz (d + 27) j.toNat) : Int64.ofInt r = Int64.ofInt (zmq F K u j.toNat - zsm (fun t => u (j.toNat + 1 + t) * K (j.toNat + 1 + t) j.toNat) (j + 1 - j - 1).toNat) := by
  rw [show (j + 1 - j - 1).toNat = 0 by (exact zo_1030), hr, h.1 _ (by (exact zo_1085 j0 jF))]
  show _ = Int64.ofInt (_ - 0)
  rw [Int.sub_zero]
theorem zin_s {Pz : zMem} {u : Nat → Int} {r v x y i j s : Int} (h : Int64.ofInt r = Int64.ofInt (zmq F K u j.toNat - zsm (fun t => u (j.toNat + 1 + t) * K (j.toNat + 1 + t) j.toNat) (i - j - 1).toNat)) (hv : Int64.ofInt v = Int64.ofInt (r - x * y)) (j0 : 0 ≤ j) (ji : j < i) (iF : i < F) (s0 : 0 ≤ s) (hU : zUp F d Mz Pz s u j) (hx : x = zg Pz (d + 25) (s * 27 + i).toNat) (hy : y = K i.toNat j.toNat) : Int64.ofInt v = Int64.ofInt (zmq F K u j.toNat - zsm (fun t => u (j.toNat + 1 + t) * K (j.toNat + 1 + t) j.toNat) (i + 1 - j - 1).toNat) := by
  have ex : x = u i.toNat := by
    rw [hx, (hU _).2 (by omega) (by omega)]
    congr 1
    omega
  have ei : j.toNat + 1 + (i - j - 1).toNat = i.toNat := by omega
  rw [show (i + 1 - j - 1).toNat = (i - j - 1).toNat + 1 by omega]
  show _ = Int64.ofInt (_ - (zsm _ (i - j - 1).toNat + u (j.toNat + 1 + (i - j - 1).toNat) * K (j.toNat + 1 + (i - j - 1).toNat) j.toNat))
  rw [ei, hv, Int64.ofInt_sub, h, ← Int64.ofInt_sub, ex, hy]
  congr 1
  omega
theorem zin_e (hA : zTA F K) {u : Nat → Int} {r j q m : Int} (h : Int64.ofInt r = Int64.ofInt (zmq F K u j.toNat - zsm (fun t => u (j.toNat + 1 + t) * K (j.toNat + 1 + t) j.toNat) (F - j - 1).toNat)) (hs : zsv F K d Mz u) (hr : zn64 r) (j0 : 0 ≤ j) (jF : j < F) (hm : m = K j.toNat j.toNat) (hq : q = zlquo r m) : q = u j.toNat := by
  have h1 := zmq_tail hA (u := u) (j := j.toNat) (by (exact zo_1085 j0 jF))
  rw [show ((F : Int) - j - 1).toNat = F - 1 - j.toNat by omega, h1, Int.add_sub_cancel] at h
  have h2 := hs.2 j.toNat (by (exact zo_1085 j0 jF))
  have h3 := hA.2.1 j.toNat j.toNat (by (exact zo_1085 j0 jF)) (by (exact zo_1085 j0 jF))
  have h4 := hA.2.2.2.1 j.toNat (by (exact zo_1085 j0 jF))
  rw [hq, hm, z64q hr ⟨by omega, by omega⟩ h]
  exact zq_x (by omega) (by omega) (by (exact h4)) (by omega)
theorem zUp_0 {s j : Int} {u : Nat → Int} (hj : (F : Int) - 1 ≤ j) : zUp F d Mz Mz s u j := fun x => ⟨fun _ => rfl, fun h1 h2 => absurd h2 (by omega)⟩
theorem zUp_s {Pz : zMem} {s j e v : Int} {u : Nat → Int} (h : zUp F d Mz Nz s u j) (h1 : zS1 d Nz Pz e v) (he : e = s * 27 + j) (j0 : 0 ≤ j) (jF : j < F) (hv : v = u j.toNat) : zUp F d Mz Pz s u (j - 1) := fun x => by
  refine ⟨fun g => ?_, fun g1 g2 => ?_⟩
  · rw [h1 x, if_neg (by omega)]
    exact (h x).1 g
  · rw [h1 x]
    by_cases g : (x : Int) = e
    · rw [if_pos g, hv, show ((x : Int) - 27 * s).toNat = j.toNat by omega]
    · rw [if_neg g]
      exact (h x).2 (by omega) g2
theorem zOu_s {Pz : zMem} {s j e v : Int} (h : zOu F d Mz Nz s) (h1 : zS1 d Nz Pz e v) (he : e = s * 27 + j) (j0 : 0 ≤ j) (jF : j < F) : zOu F d Mz Pz s := fun x g => by
  rw [h1 x, if_neg (by omega)]
  exact h x g
theorem zUp_e {s j : Int} {u : Nat → Int} (h : zUp F d Mz Nz s u j) (hj : j < 0) : zSh F d Mz Nz s u := fun x => by
  by_cases g : 27 * s ≤ x ∧ (x : Int) < 27 * s + F
  · rw [if_pos g]
    exact (h x).2 (by omega) g.2
  · rw [if_neg g]
    exact (h x).1 g
def zmp (F : Nat) (K : Nat → Nat → Int) (d : Nat) (Nz : zMem) (v w : Nat → Int) (m : Int) : Prop := ∀ j : Nat, j < F → (j : Int) < m → (-zLim ≤ zmq F K v j * zmq F K w j ∧ zmq F K v j * zmq F K w j ≤ zLim) ∧ zg Nz (d + 27) j = zmq F K v j * zmq F K w j
theorem zmp_0 {v w : Nat → Int} : zmp F K d Nz v w 0 := fun j _ h => absurd h (by (exact zo_131))
theorem zmp_s {Pz : zMem} {v w : Nat → Int} {m x y p : Int} (h : zmp F K d Nz v w m) (hP : Pz = zsJ Nz (d + 27) m.toNat (Int64.ofInt p)) (hp : p = x * y) (hx : x = zmq F K v m.toNat) (hy : y = zmq F K w m.toNat) (hb : -1000000000000 ≤ x * y ∧ x * y ≤ 1000000000000) (m0 : 0 ≤ m) : zmp F K d Pz v w (m + 1) := fun j hj hm => by
  by_cases g : (j : Int) = m
  · rw [show j = m.toNat by (exact zo_2187 g hm m0), zs_getJ hP ⟨by omega, by omega⟩, ← hx, ← hy]
    exact ⟨hb, hp⟩
  · rw [zs_othJ hP (by (exact zo_148 m0 g))]
    exact h j hj (by (exact zo_130 hm g))
theorem zmp_e (hA : zTA F K) {v w : Nat → Int} {m : Int} (h : zmp F K d Nz v w m) (hm : (F : Int) ≤ m) : zmok F K v w ∧ zsv F K d Nz (zprd F K v w) := by
  have hp := zprd_s hA v w
  have h1 : zmok F K v w := fun j hj => (h j hj (by (exact zo_2188 hj hm))).1
  refine ⟨h1, fun j hj => ?_, hA.2.2.2.2.2.1 _ (fun j hj => ?_)⟩
  · rw [hp.2 j hj]
    exact (h j hj (by (exact zo_2188 hj hm))).2
  · rw [hp.2 j hj]
    exact h1 j hj
end ZKF
set_option maxHeartbeats 4000000 in
theorem u_Sums_numberAt (l : Launch) (d_ : Nat) (Mz : zMem) (hW : zKW d_ Mz) (a0_ : Int) (ha0_a : -2147483648 ≤ a0_) (ha0_b : a0_ < 2147483648) (a1_ : Int) (ha1_a : -2147483648 ≤ a1_) (ha1_b : a1_ < 2147483648) (p0_ : 0 ≤ a0_) (p1_ : a0_ ≤ 39) (p2_ : 0 ≤ a1_) (p3_ : a1_ ≤ 26) : zC l m_Sums_numberAt 0 0 [.ref (d_ + 23), .int (Int32.ofInt a0_), .int (Int32.ofInt a1_)] Mz (zqcJ d_ [] [] [] [] Mz (fun v N => v = zg Mz (d_ + 25) (a0_ * 27 + a1_).toNat)) := by
  refine zC_of (L0 := [some (.ref (d_ + 23)), some (.int (Int32.ofInt a0_)), some (.int (Int32.ofInt a1_))]) md_Sums_numberAt (Nat.le_of_ble_eq_true rfl) rfl ?_ zQ0
  have hf : zFc d_ [] [] [] [] Mz Mz := zFc.rf
  refine zw_aload_n (pc := 0) (n := 0) (x := (d_ + 23)) rfl (zdal_p dlA_Sums_numberAt_146 (i := 0) rfl) ?_
  refine zw_getF (pc := 1) f_Sums_16 rfl ((hf.w hW).kr (o := 23) (by decide)) ((hf.w hW).lr (o := 23) (s := 1) (r := 24) (by decide)) (zdal_p dlA_Sums_numberAt_146 (i := 1) rfl) ?_
  refine zw_iload_n (pc := 4) (n := 1) (x := Int32.ofInt a0_) rfl (zdal_p dlA_Sums_numberAt_146 (i := 2) rfl) ?_
  refine zw_bipush (pc := 5) (v := Int32.ofInt 27) (by decide) (zdal_p dlA_Sums_numberAt_146 (i := 3) rfl) ?_
  refine zr_imul (pc := 7) (zdal_p dlA_Sums_numberAt_146 (i := 4) rfl) ?_
  refine zw_iload_n (pc := 8) (n := 2) (x := Int32.ofInt a1_) rfl (zdal_p dlA_Sums_numberAt_146 (i := 5) rfl) ?_
  refine zr_iadd (pc := 9) (zdal_p dlA_Sums_numberAt_146 (i := 6) rfl) ?_
  refine zk_atJ hf.x (pc := 10) l_Sums_27 ((hf.w hW).kr (o := 24) (by decide)) ((hf.w hW).lr (o := 24) (s := 0) (r := 25) (by decide)) ((hf.w hW).rr (o := 25) (t := 2) (n := 1080) (by decide)) (by decide) (by (exact zo_2198 p0_ p2_)) (by omega) (by decide) (Nat.le_of_ble_eq_true rfl) (zdal_p dlA_Sums_numberAt_146 (i := 7) rfl) (fun v1_ hv1_ hv1_a hv1_b => ?_)
  exact zk_lret (pc := 13) rfl ⟨by (exact hv1_a), by (exact hv1_b)⟩ hf (show v1_ = zg Mz (d_ + 25) (a0_ * 27 + a1_).toNat by first | with_reducible assumption | assumption | omega) (zdal_p dlA_Sums_numberAt_146 (i := 8) rfl)
set_option maxHeartbeats 4000000 in
theorem u_Sums_putNumber (l : Launch) (d_ : Nat) (Mz : zMem) (hW : zKW d_ Mz) (a0_ : Int) (ha0_a : -2147483648 ≤ a0_) (ha0_b : a0_ < 2147483648) (a1_ : Int) (ha1_a : -2147483648 ≤ a1_) (ha1_b : a1_ < 2147483648) (a2_ : Int) (ha2_a : -9223372036854775808 ≤ a2_) (ha2_b : a2_ < 9223372036854775808) (p0_ : 0 ≤ a0_) (p1_ : a0_ ≤ 39) (p2_ : 0 ≤ a1_) (p3_ : a1_ ≤ 26) : zC l m_Sums_putNumber 0 0 [.ref (d_ + 23), .int (Int32.ofInt a0_), .int (Int32.ofInt a1_), .long (Int64.ofInt a2_)] Mz (zqcV d_ [] [] [] [25] Mz (fun N => zS1 d_ Mz N (a0_ * 27 + a1_) a2_)) := by
  refine zC_of (L0 := [some (.ref (d_ + 23)), some (.int (Int32.ofInt a0_)), some (.int (Int32.ofInt a1_)), some (.long (Int64.ofInt a2_)), none]) md_Sums_putNumber (Nat.le_of_ble_eq_true rfl) rfl ?_ zQ0
  have hf : zFc d_ [] [] [] [25] Mz Mz := zFc.rf
  refine zw_aload_n (pc := 0) (n := 0) (x := (d_ + 23)) rfl (zdal_p dlA_Sums_putNumber_152 (i := 0) rfl) ?_
  refine zw_getF (pc := 1) f_Sums_16 rfl ((hf.w hW).kr (o := 23) (by decide)) ((hf.w hW).lr (o := 23) (s := 1) (r := 24) (by decide)) (zdal_p dlA_Sums_putNumber_152 (i := 1) rfl) ?_
  refine zw_iload_n (pc := 4) (n := 1) (x := Int32.ofInt a0_) rfl (zdal_p dlA_Sums_putNumber_152 (i := 2) rfl) ?_
  refine zw_bipush (pc := 5) (v := Int32.ofInt 27) (by decide) (zdal_p dlA_Sums_putNumber_152 (i := 3) rfl) ?_
  refine zr_imul (pc := 7) (zdal_p dlA_Sums_putNumber_152 (i := 4) rfl) ?_
  refine zw_iload_n (pc := 8) (n := 2) (x := Int32.ofInt a1_) rfl (zdal_p dlA_Sums_putNumber_152 (i := 5) rfl) ?_
  refine zr_iadd (pc := 9) (zdal_p dlA_Sums_putNumber_152 (i := 6) rfl) ?_
  refine zw_lload_n (pc := 10) (n := 3) (x := Int64.ofInt a2_) rfl (zdal_p dlA_Sums_putNumber_152 (i := 7) rfl) ?_
  refine zk_stJ hf.x (pc := 11) (o := 25) (by decide) l_Sums_31 ((hf.w hW).kr (o := 24) (by decide)) ((hf.w hW).lr (o := 24) (s := 0) (r := 25) (by decide)) ((hf.w hW).rr (o := 25) (t := 2) (n := 1080) (by decide)) (by decide) (by (exact zo_2198 p0_ p2_)) (by omega) (by decide) (Nat.le_of_ble_eq_true rfl) (zdal_p dlA_Sums_putNumber_152 (i := 8) rfl) (fun N1_ hN1_ hsN1_ => ?_)
  have hf_N1_ : zFc d_ [] [] [] [25] Mz N1_ := hf.tr hsN1_ (by decide) (by decide) (by decide) (by decide)
  exact zk_vret (pc := 14) rfl hf_N1_ (show zS1 d_ Mz N1_ (a0_ * 27 + a1_) a2_ by exact zS1_i hN1_ ⟨by (exact ha2_a), by (exact ha2_b)⟩ (by (exact zo_2198 p0_ p2_))) (zdal_p dlA_Sums_putNumber_152 (i := 9) rfl)
set_option maxHeartbeats 4000000 in
theorem u_Sums_putSingle (l : Launch) (d_ : Nat) (Mz : zMem) (hW : zKW d_ Mz) (a0_ : Int) (ha0_a : -2147483648 ≤ a0_) (ha0_b : a0_ < 2147483648) (a1_ : Int) (ha1_a : -2147483648 ≤ a1_) (ha1_b : a1_ < 2147483648) (a2_ : Int) (ha2_a : -9223372036854775808 ≤ a2_) (ha2_b : a2_ < 9223372036854775808) (F_ : Nat) (K_ : Nat → Nat → Int) (hA_ : zTA F_ K_) (p0_ : zKm F_ K_ d_ Mz) (p1_ : 0 ≤ a0_) (p2_ : a0_ ≤ 39) : zC l m_Sums_putSingle 0 0 [.ref (d_ + 23), .int (Int32.ofInt a0_), .int (Int32.ofInt a1_), .long (Int64.ofInt a2_)] Mz (zqcV d_ [] [] [] [25] Mz (fun N => zSh F_ d_ Mz N a0_ (zone a1_ a2_))) := by
  refine zC_of (L0 := [some (.ref (d_ + 23)), some (.int (Int32.ofInt a0_)), some (.int (Int32.ofInt a1_)), some (.long (Int64.ofInt a2_)), none, none]) md_Sums_putSingle (Nat.le_of_ble_eq_true rfl) rfl ?_ zQ0
  have hf : zFc d_ [] [] [] [25] Mz Mz := zFc.rf
  have r_D12_7 := ze_r Mz (d_ + 12) 7
  obtain ⟨⟨hF1_, hF27_⟩, hAr_⟩ := id hA_
  obtain ⟨hFc_, hKt_⟩ := id p0_
  refine zw_iconst (pc := 0) (v := Int32.ofInt 0) (by decide) (zdal_p dlA_Sums_putSingle_61 (i := 0) rfl) ?_
  refine zw_istore (pc := 1) (i := 5) (L2 := [some (.ref (d_ + 23)), some (.int (Int32.ofInt a0_)), some (.int (Int32.ofInt a1_)), some (.long (Int64.ofInt a2_)), none, some (.int (Int32.ofInt 0))]) (by decide) rfl (zdal_p dlA_Sums_putSingle_61 (i := 1) rfl) ?_
  have lp_3 : ∀ (n : Nat) (u1_ : Int) (hu1_a : -2147483648 ≤ u1_) (hu1_b : u1_ < 2147483648) (N2_ : zMem) (hs3_ : zFc d_ [] [] [] [25] Mz N2_) (i4_ : 0 ≤ u1_) (i5_ : u1_ ≤ F_) (i6_ : zSh u1_ d_ Mz N2_ a0_ (zone a1_ a2_)), (ze Mz (d_ + 12) 7 - u1_).toNat < n → zW l m_Sums_putSingle (zn Mz + 0, zw Mz + 0) N2_ 3 [some (.ref (d_ + 23)), some (.int (Int32.ofInt a0_)), some (.int (Int32.ofInt a1_)), some (.long (Int64.ofInt a2_)), none, some (.int (Int32.ofInt u1_))] [] (zqcV d_ [] [] [] [25] Mz (fun N => zSh F_ d_ Mz N a0_ (zone a1_ a2_))) := by
    intro n
    induction n with
    | zero =>
      intro u1_ hu1_a hu1_b N2_ hs3_ i4_ i5_ i6_ h0
      exact absurd h0 (Nat.not_lt_zero _)
    | succ n ih_3 =>
      intro u1_ hu1_a hu1_b N2_ hs3_ i4_ i5_ i6_ hlt_3
      have hf_N2_ : zFc d_ [] [] [] [25] Mz N2_ := hf.tr hs3_ (by decide) (by decide) (by decide) (by decide)
      have eD12_7_N2_ : ze N2_ (d_ + 12) 7 = ze Mz (d_ + 12) 7 := hs3_.e (by decide)
      refine zw_iload (pc := 3) (i := 5) (x := Int32.ofInt u1_) rfl (zdal_p dlA_Sums_putSingle_61 (i := 2) rfl) ?_
      refine zw_aload_n (pc := 5) (n := 0) (x := (d_ + 23)) rfl (zdal_p dlA_Sums_putSingle_61 (i := 3) rfl) ?_
      refine zw_getF (pc := 6) f_Sums_23 rfl ((hf_N2_.w hW).kr (o := 23) (by decide)) ((hf_N2_.w hW).lr (o := 23) (s := 0) (r := 12) (by decide)) (zdal_p dlA_Sums_putSingle_61 (i := 4) rfl) ?_
      refine zk_getI (pc := 9) f_Sums_35 rfl ((hf_N2_.w hW).kr (o := 12) (by decide)) (zdal_p dlA_Sums_putSingle_61 (i := 5) rfl) ?_
      rw [hf_N2_.e (by decide)]
      refine zr_icmp_ge (pc := 12) (tgt := 46) ⟨hu1_a, hu1_b⟩ ⟨(ze_r Mz (d_ + 12) 7).1, (ze_r Mz (d_ + 12) 7).2⟩ (by decide) (zdal_p dlA_Sums_putSingle_61 (i := 6) rfl) (fun hc_12 => ?_) (fun hc_12 => ?_)
      · skip
        exact zk_vret (pc := 46) rfl hf_N2_ (show zSh F_ d_ Mz N2_ a0_ (zone a1_ a2_) by rw [show (F_ : Int) = u1_ by (exact zo_2200 hF27_ hFc_ hc_12 hu1_b i4_ i5_ r_D12_7.2)]; assumption) (zdal_p dlA_Sums_putSingle_61 (i := 23) rfl)
      · skip
        refine zw_aload_n (pc := 15) (n := 0) (x := (d_ + 23)) rfl (zdal_p dlA_Sums_putSingle_61 (i := 7) rfl) ?_
        refine zw_getF (pc := 16) f_Sums_16 rfl ((hf_N2_.w hW).kr (o := 23) (by decide)) ((hf_N2_.w hW).lr (o := 23) (s := 1) (r := 24) (by decide)) (zdal_p dlA_Sums_putSingle_61 (i := 8) rfl) ?_
        refine zw_iload_n (pc := 19) (n := 1) (x := Int32.ofInt a0_) rfl (zdal_p dlA_Sums_putSingle_61 (i := 9) rfl) ?_
        refine zw_bipush (pc := 20) (v := Int32.ofInt 27) (by decide) (zdal_p dlA_Sums_putSingle_61 (i := 10) rfl) ?_
        refine zr_imul (pc := 22) (zdal_p dlA_Sums_putSingle_61 (i := 11) rfl) ?_
        refine zw_iload (pc := 23) (i := 5) (x := Int32.ofInt u1_) rfl (zdal_p dlA_Sums_putSingle_61 (i := 12) rfl) ?_
        refine zr_iadd (pc := 25) (zdal_p dlA_Sums_putSingle_61 (i := 13) rfl) ?_
        refine zw_iload (pc := 26) (i := 5) (x := Int32.ofInt u1_) rfl (zdal_p dlA_Sums_putSingle_61 (i := 14) rfl) ?_
        refine zw_iload_n (pc := 28) (n := 2) (x := Int32.ofInt a1_) rfl (zdal_p dlA_Sums_putSingle_61 (i := 15) rfl) ?_
        refine zr_icmp_ne (pc := 29) (tgt := 36) ⟨hu1_a, hu1_b⟩ ⟨ha1_a, ha1_b⟩ (by decide) (zdal_p dlA_Sums_putSingle_61 (i := 16) rfl) (fun hc_29 => ?_) (fun hc_29 => ?_)
        · skip
          refine zw_lconst (pc := 36) (v := Int64.ofInt 0) (by decide) (zdal_p dlA_Sums_putSingle_61 (i := 19) rfl) ?_
          refine zk_stJ hf_N2_.x (pc := 37) (o := 25) (by decide) l_Sums_31 ((hf_N2_.w hW).kr (o := 24) (by decide)) ((hf_N2_.w hW).lr (o := 24) (s := 0) (r := 25) (by decide)) ((hf_N2_.w hW).rr (o := 25) (t := 2) (n := 1080) (by decide)) (by decide) (by (exact zo_2201 i4_ p1_)) (by (exact zo_2202 hF27_ hFc_ hc_12 i5_ p2_)) (by decide) (Nat.le_of_ble_eq_true rfl) (zdal_p dlA_Sums_putSingle_61 (i := 20) rfl) (fun N8_ hN8_ hsN8_ => ?_)
          have hf_N8_ : zFc d_ [] [] [] [25] Mz N8_ := hf_N2_.tr hsN8_ (by decide) (by decide) (by decide) (by decide)
          have hb0_N8_ : zFc d_ [] [] [] [25] Mz N8_ := hs3_.tr hsN8_ (by decide) (by decide) (by decide) (by decide)
          have eD12_7_N8_ : ze N8_ (d_ + 12) 7 = ze N2_ (d_ + 12) 7 := hsN8_.e (by decide)
          have hs1_ := zSh_s (show zSh u1_ d_ Mz N2_ a0_ (zone a1_ a2_) by first | with_reducible assumption | assumption) (zS1_i hN8_ ⟨by (decide), by (decide)⟩ (by (exact zo_2201 i4_ p1_))) rfl (by (exact i4_)) (by unfold zone; split <;> omega)
          refine zr_iinc (pc := 40) (i := 5) (a := u1_) (n := 1) (L2 := [some (.ref (d_ + 23)), some (.int (Int32.ofInt a0_)), some (.int (Int32.ofInt a1_)), some (.long (Int64.ofInt a2_)), none, some (.int (Int32.ofInt (u1_ + 1)))]) rfl (by decide) rfl (zdal_p dlA_Sums_putSingle_61 (i := 21) rfl) ?_
          refine zw_goto (pc := 43) (tgt := 3) (by decide) (zdal_p dlA_Sums_putSingle_61 (i := 22) rfl) ?_
          exact ih_3 (u1_ + 1) (by (exact zo_74 i4_)) (by (exact zo_75 hF27_ hu1_b i5_)) N8_ hb0_N8_ (show 0 ≤ (u1_ + 1) by first | with_reducible assumption | (exact zo_76 i4_) | assumption) (show (u1_ + 1) ≤ F_ by first | with_reducible assumption | (exact zo_2203 hFc_ hc_12 i5_) | assumption) (show zSh (u1_ + 1) d_ Mz N8_ a0_ (zone a1_ a2_) by exact hs1_) (by (exact zo_147 hc_12 hlt_3))
        · skip
          refine zw_lload_n (pc := 32) (n := 3) (x := Int64.ofInt a2_) rfl (zdal_p dlA_Sums_putSingle_61 (i := 17) rfl) ?_
          refine zw_goto (pc := 33) (tgt := 37) (by decide) (zdal_p dlA_Sums_putSingle_61 (i := 18) rfl) ?_
          refine zk_stJ hf_N2_.x (pc := 37) (o := 25) (by decide) l_Sums_31 ((hf_N2_.w hW).kr (o := 24) (by decide)) ((hf_N2_.w hW).lr (o := 24) (s := 0) (r := 25) (by decide)) ((hf_N2_.w hW).rr (o := 25) (t := 2) (n := 1080) (by decide)) (by decide) (by (exact zo_2201 i4_ p1_)) (by (exact zo_2202 hF27_ hFc_ hc_12 i5_ p2_)) (by decide) (Nat.le_of_ble_eq_true rfl) (zdal_p dlA_Sums_putSingle_61 (i := 20) rfl) (fun N10_ hN10_ hsN10_ => ?_)
          have hf_N10_ : zFc d_ [] [] [] [25] Mz N10_ := hf_N2_.tr hsN10_ (by decide) (by decide) (by decide) (by decide)
          have hb0_N10_ : zFc d_ [] [] [] [25] Mz N10_ := hs3_.tr hsN10_ (by decide) (by decide) (by decide) (by decide)
          have eD12_7_N10_ : ze N10_ (d_ + 12) 7 = ze N2_ (d_ + 12) 7 := hsN10_.e (by decide)
          have hs1_ := zSh_s (show zSh u1_ d_ Mz N2_ a0_ (zone a1_ a2_) by first | with_reducible assumption | assumption) (zS1_i hN10_ ⟨by (exact ha2_a), by (exact ha2_b)⟩ (by (exact zo_2201 i4_ p1_))) rfl (by (exact i4_)) (by unfold zone; split <;> omega)
          refine zr_iinc (pc := 40) (i := 5) (a := u1_) (n := 1) (L2 := [some (.ref (d_ + 23)), some (.int (Int32.ofInt a0_)), some (.int (Int32.ofInt a1_)), some (.long (Int64.ofInt a2_)), none, some (.int (Int32.ofInt (u1_ + 1)))]) rfl (by decide) rfl (zdal_p dlA_Sums_putSingle_61 (i := 21) rfl) ?_
          refine zw_goto (pc := 43) (tgt := 3) (by decide) (zdal_p dlA_Sums_putSingle_61 (i := 22) rfl) ?_
          exact ih_3 (u1_ + 1) (by (exact zo_74 i4_)) (by omega) N10_ hb0_N10_ (show 0 ≤ (u1_ + 1) by first | with_reducible assumption | (exact zo_76 i4_) | assumption) (show (u1_ + 1) ≤ F_ by first | with_reducible assumption | (exact zo_2203 hFc_ hc_12 i5_) | assumption) (show zSh (u1_ + 1) d_ Mz N10_ a0_ (zone a1_ a2_) by exact hs1_) (by (exact zo_147 hc_12 hlt_3))
  exact lp_3 _ 0 (by decide) (by decide) Mz zFc.rf (show 0 ≤ (0 : Int) by first | with_reducible assumption | (decide) | assumption) (show (0 : Int) ≤ F_ by first | with_reducible assumption | (exact zo_85) | assumption) (show zSh (0 : Int) d_ Mz Mz a0_ (zone a1_ a2_) by exact zSh_0) (Nat.lt_succ_self _)
set_option maxHeartbeats 4000000 in
theorem u_Sums_copy (l : Launch) (d_ : Nat) (Mz : zMem) (hW : zKW d_ Mz) (a0_ : Int) (ha0_a : -2147483648 ≤ a0_) (ha0_b : a0_ < 2147483648) (a1_ : Int) (ha1_a : -2147483648 ≤ a1_) (ha1_b : a1_ < 2147483648) (F_ : Nat) (K_ : Nat → Nat → Int) (hA_ : zTA F_ K_) (p0_ : zKm F_ K_ d_ Mz) (p1_ : 0 ≤ a0_) (p2_ : a0_ ≤ 39) (p3_ : 0 ≤ a1_) (p4_ : a1_ ≤ 39) : zC l m_Sums_copy 0 0 [.ref (d_ + 23), .int (Int32.ofInt a0_), .int (Int32.ofInt a1_)] Mz (zqcV d_ [] [] [] [25] Mz (fun N => zSh F_ d_ Mz N a1_ (zvc F_ d_ Mz a0_))) := by
  refine zC_of (L0 := [some (.ref (d_ + 23)), some (.int (Int32.ofInt a0_)), some (.int (Int32.ofInt a1_)), none]) md_Sums_copy (Nat.le_of_ble_eq_true rfl) rfl ?_ zQ0
  have hf : zFc d_ [] [] [] [25] Mz Mz := zFc.rf
  have r_D12_7 := ze_r Mz (d_ + 12) 7
  obtain ⟨⟨hF1_, hF27_⟩, hAr_⟩ := id hA_
  obtain ⟨hFc_, hKt_⟩ := id p0_
  refine zw_iconst (pc := 0) (v := Int32.ofInt 0) (by decide) (zdal_p dlA_Sums_copy_127 (i := 0) rfl) ?_
  refine zw_istore_n (pc := 1) (i := 3) (L2 := [some (.ref (d_ + 23)), some (.int (Int32.ofInt a0_)), some (.int (Int32.ofInt a1_)), some (.int (Int32.ofInt 0))]) rfl (by decide) rfl (zdal_p dlA_Sums_copy_127 (i := 1) rfl) ?_
  have lp_2 : ∀ (n : Nat) (u1_ : Int) (hu1_a : -2147483648 ≤ u1_) (hu1_b : u1_ < 2147483648) (N2_ : zMem) (hs3_ : zFc d_ [] [] [] [25] Mz N2_) (i4_ : 0 ≤ u1_) (i5_ : u1_ ≤ F_) (i6_ : zSh u1_ d_ Mz N2_ a1_ (zvc F_ d_ Mz a0_)), (ze Mz (d_ + 12) 7 - u1_).toNat < n → zW l m_Sums_copy (zn Mz + 0, zw Mz + 0) N2_ 2 [some (.ref (d_ + 23)), some (.int (Int32.ofInt a0_)), some (.int (Int32.ofInt a1_)), some (.int (Int32.ofInt u1_))] [] (zqcV d_ [] [] [] [25] Mz (fun N => zSh F_ d_ Mz N a1_ (zvc F_ d_ Mz a0_))) := by
    intro n
    induction n with
    | zero =>
      intro u1_ hu1_a hu1_b N2_ hs3_ i4_ i5_ i6_ h0
      exact absurd h0 (Nat.not_lt_zero _)
    | succ n ih_2 =>
      intro u1_ hu1_a hu1_b N2_ hs3_ i4_ i5_ i6_ hlt_2
      have hf_N2_ : zFc d_ [] [] [] [25] Mz N2_ := hf.tr hs3_ (by decide) (by decide) (by decide) (by decide)
      have eD12_7_N2_ : ze N2_ (d_ + 12) 7 = ze Mz (d_ + 12) 7 := hs3_.e (by decide)
      refine zw_iload_n (pc := 2) (n := 3) (x := Int32.ofInt u1_) rfl (zdal_p dlA_Sums_copy_127 (i := 2) rfl) ?_
      refine zw_aload_n (pc := 3) (n := 0) (x := (d_ + 23)) rfl (zdal_p dlA_Sums_copy_127 (i := 3) rfl) ?_
      refine zw_getF (pc := 4) f_Sums_23 rfl ((hf_N2_.w hW).kr (o := 23) (by decide)) ((hf_N2_.w hW).lr (o := 23) (s := 0) (r := 12) (by decide)) (zdal_p dlA_Sums_copy_127 (i := 4) rfl) ?_
      refine zk_getI (pc := 7) f_Sums_35 rfl ((hf_N2_.w hW).kr (o := 12) (by decide)) (zdal_p dlA_Sums_copy_127 (i := 5) rfl) ?_
      rw [hf_N2_.e (by decide)]
      refine zr_icmp_ge (pc := 10) (tgt := 45) ⟨hu1_a, hu1_b⟩ ⟨(ze_r Mz (d_ + 12) 7).1, (ze_r Mz (d_ + 12) 7).2⟩ (by decide) (zdal_p dlA_Sums_copy_127 (i := 6) rfl) (fun hc_10 => ?_) (fun hc_10 => ?_)
      · skip
        exact zk_vret (pc := 45) rfl hf_N2_ (show zSh F_ d_ Mz N2_ a1_ (zvc F_ d_ Mz a0_) by rw [show (F_ : Int) = u1_ by (exact zo_2200 hF27_ hFc_ hc_10 hu1_b i4_ i5_ r_D12_7.2)]; assumption) (zdal_p dlA_Sums_copy_128 (i := 1) rfl)
      · skip
        refine zw_aload_n (pc := 13) (n := 0) (x := (d_ + 23)) rfl (zdal_p dlA_Sums_copy_127 (i := 7) rfl) ?_
        refine zw_getF (pc := 14) f_Sums_16 rfl ((hf_N2_.w hW).kr (o := 23) (by decide)) ((hf_N2_.w hW).lr (o := 23) (s := 1) (r := 24) (by decide)) (zdal_p dlA_Sums_copy_127 (i := 8) rfl) ?_
        refine zw_iload_n (pc := 17) (n := 2) (x := Int32.ofInt a1_) rfl (zdal_p dlA_Sums_copy_127 (i := 9) rfl) ?_
        refine zw_bipush (pc := 18) (v := Int32.ofInt 27) (by decide) (zdal_p dlA_Sums_copy_127 (i := 10) rfl) ?_
        refine zr_imul (pc := 20) (zdal_p dlA_Sums_copy_127 (i := 11) rfl) ?_
        refine zw_iload_n (pc := 21) (n := 3) (x := Int32.ofInt u1_) rfl (zdal_p dlA_Sums_copy_127 (i := 12) rfl) ?_
        refine zr_iadd (pc := 22) (zdal_p dlA_Sums_copy_127 (i := 13) rfl) ?_
        refine zw_aload_n (pc := 23) (n := 0) (x := (d_ + 23)) rfl (zdal_p dlA_Sums_copy_127 (i := 14) rfl) ?_
        refine zw_getF (pc := 24) f_Sums_16 rfl ((hf_N2_.w hW).kr (o := 23) (by decide)) ((hf_N2_.w hW).lr (o := 23) (s := 1) (r := 24) (by decide)) (zdal_p dlA_Sums_copy_127 (i := 15) rfl) ?_
        refine zw_iload_n (pc := 27) (n := 1) (x := Int32.ofInt a0_) rfl (zdal_p dlA_Sums_copy_127 (i := 16) rfl) ?_
        refine zw_bipush (pc := 28) (v := Int32.ofInt 27) (by decide) (zdal_p dlA_Sums_copy_127 (i := 17) rfl) ?_
        refine zr_imul (pc := 30) (zdal_p dlA_Sums_copy_127 (i := 18) rfl) ?_
        refine zw_iload_n (pc := 31) (n := 3) (x := Int32.ofInt u1_) rfl (zdal_p dlA_Sums_copy_127 (i := 19) rfl) ?_
        refine zr_iadd (pc := 32) (zdal_p dlA_Sums_copy_127 (i := 20) rfl) ?_
        refine zk_atJ hf_N2_.x (pc := 33) l_Sums_27 ((hf_N2_.w hW).kr (o := 24) (by decide)) ((hf_N2_.w hW).lr (o := 24) (s := 0) (r := 25) (by decide)) ((hf_N2_.w hW).rr (o := 25) (t := 2) (n := 1080) (by decide)) (by decide) (by (exact zo_2201 i4_ p1_)) (by (exact zo_2202 hF27_ hFc_ hc_10 i5_ p2_)) (by decide) (Nat.le_of_ble_eq_true rfl) (zdal_p dlA_Sums_copy_127 (i := 21) rfl) (fun v8_ hv8_ hv8_a hv8_b => ?_)
        have hx_ := zvc_at (F := F_) (k := (u1_).toNat) (s := a0_) (by (exact zo_2205 hFc_ hc_10 i4_ i5_)) (by (exact p1_)) (zSh_a (show zSh u1_ d_ Mz N2_ a1_ (zvc F_ d_ Mz a0_) by first | with_reducible assumption | assumption) hv8_ (by omega)) (by (exact zo_2206 i4_ p1_))
        refine zk_stJ hf_N2_.x (pc := 36) (o := 25) (by decide) l_Sums_31 ((hf_N2_.w hW).kr (o := 24) (by decide)) ((hf_N2_.w hW).lr (o := 24) (s := 0) (r := 25) (by decide)) ((hf_N2_.w hW).rr (o := 25) (t := 2) (n := 1080) (by decide)) (by decide) (by (exact zo_2201 i4_ p3_)) (by (exact zo_2202 hF27_ hFc_ hc_10 i5_ p4_)) (by decide) (Nat.le_of_ble_eq_true rfl) (zdal_p dlA_Sums_copy_127 (i := 22) rfl) (fun N9_ hN9_ hsN9_ => ?_)
        have hf_N9_ : zFc d_ [] [] [] [25] Mz N9_ := hf_N2_.tr hsN9_ (by decide) (by decide) (by decide) (by decide)
        have hb0_N9_ : zFc d_ [] [] [] [25] Mz N9_ := hs3_.tr hsN9_ (by decide) (by decide) (by decide) (by decide)
        have hs1_ := zSh_s (show zSh u1_ d_ Mz N2_ a1_ (zvc F_ d_ Mz a0_) by first | with_reducible assumption | assumption) (zS1_i hN9_ ⟨by (exact hv8_a), by (exact hv8_b)⟩ (by (exact zo_2201 i4_ p3_))) rfl (by (exact i4_)) hx_
        refine zr_iinc (pc := 39) (i := 3) (a := u1_) (n := 1) (L2 := [some (.ref (d_ + 23)), some (.int (Int32.ofInt a0_)), some (.int (Int32.ofInt a1_)), some (.int (Int32.ofInt (u1_ + 1)))]) rfl (by decide) rfl (zdal_p dlA_Sums_copy_127 (i := 23) rfl) ?_
        refine zw_goto (pc := 42) (tgt := 2) (by decide) (zdal_p dlA_Sums_copy_128 (i := 0) rfl) ?_
        exact ih_2 (u1_ + 1) (by (exact zo_74 i4_)) (by (exact zo_75 hF27_ hu1_b i5_)) N9_ hb0_N9_ (show 0 ≤ (u1_ + 1) by first | with_reducible assumption | (exact zo_76 i4_) | assumption) (show (u1_ + 1) ≤ F_ by first | with_reducible assumption | (exact zo_2203 hFc_ hc_10 i5_) | assumption) (show zSh (u1_ + 1) d_ Mz N9_ a1_ (zvc F_ d_ Mz a0_) by exact hs1_) (by (exact zo_147 hc_10 hlt_2))
  exact lp_2 _ 0 (by decide) (by decide) Mz zFc.rf (show 0 ≤ (0 : Int) by first | with_reducible assumption | (decide) | assumption) (show (0 : Int) ≤ F_ by first | with_reducible assumption | (exact zo_85) | assumption) (show zSh (0 : Int) d_ Mz Mz a1_ (zvc F_ d_ Mz a0_) by exact zSh_0) (Nat.lt_succ_self _)
set_option maxHeartbeats 4000000 in
theorem u_Sums_markOf (l : Launch) (d_ : Nat) (Mz : zMem) (hW : zKW d_ Mz) (a0_ : Int) (ha0_a : -2147483648 ≤ a0_) (ha0_b : a0_ < 2147483648) (a1_ : Int) (ha1_a : -2147483648 ≤ a1_) (ha1_b : a1_ < 2147483648) (F_ : Nat) (K_ : Nat → Nat → Int) (hA_ : zTA F_ K_) (p0_ : zKm F_ K_ d_ Mz) (p1_ : 0 ≤ a0_) (p2_ : a0_ ≤ 39) (p3_ : 0 ≤ a1_) (p4_ : a1_ < F_) : zC l m_Sums_markOf 0 0 [.ref (d_ + 23), .int (Int32.ofInt a0_), .int (Int32.ofInt a1_)] Mz (zqcJ d_ [] [] [] [] Mz (fun v N => Int64.ofInt v = Int64.ofInt (zmq F_ K_ (zvc F_ d_ Mz a0_) (a1_).toNat))) := by
  refine zC_of (L0 := [some (.ref (d_ + 23)), some (.int (Int32.ofInt a0_)), some (.int (Int32.ofInt a1_)), none, none, none]) md_Sums_markOf (Nat.le_of_ble_eq_true rfl) rfl ?_ zQ0
  have hf : zFc d_ [] [] [] [] Mz Mz := zFc.rf
  have r_D12_7 := ze_r Mz (d_ + 12) 7
  obtain ⟨⟨hF1_, hF27_⟩, hAr_⟩ := id hA_
  obtain ⟨hFc_, hKt_⟩ := id p0_
  refine zw_lconst (pc := 0) (v := Int64.ofInt 0) (by decide) (zdal_p dlA_Sums_markOf_138 (i := 0) rfl) ?_
  refine zw_lstore_n (pc := 1) (i := 3) (L2 := [some (.ref (d_ + 23)), some (.int (Int32.ofInt a0_)), some (.int (Int32.ofInt a1_)), some (.long (Int64.ofInt 0)), none, none]) rfl (by decide) rfl (zdal_p dlA_Sums_markOf_138 (i := 1) rfl) ?_
  refine zw_iconst (pc := 2) (v := Int32.ofInt 0) (by decide) (zdal_p dlA_Sums_markOf_138 (i := 2) rfl) ?_
  refine zw_istore (pc := 3) (i := 5) (L2 := [some (.ref (d_ + 23)), some (.int (Int32.ofInt a0_)), some (.int (Int32.ofInt a1_)), some (.long (Int64.ofInt 0)), none, some (.int (Int32.ofInt 0))]) (by decide) rfl (zdal_p dlA_Sums_markOf_138 (i := 3) rfl) ?_
  have lp_5 : ∀ (n : Nat) (u1_ : Int) (hu1_a : -9223372036854775808 ≤ u1_) (hu1_b : u1_ < 9223372036854775808) (u2_ : Int) (hu2_a : -2147483648 ≤ u2_) (hu2_b : u2_ < 2147483648) (i3_ : 0 ≤ u2_) (i4_ : u2_ ≤ F_) (i5_ : Int64.ofInt u1_ = Int64.ofInt (zsm (fun i => (zvc F_ d_ Mz a0_) i * K_ i (a1_).toNat) (u2_).toNat)), (ze Mz (d_ + 12) 7 - u2_).toNat < n → zW l m_Sums_markOf (zn Mz + 0, zw Mz + 0) Mz 5 [some (.ref (d_ + 23)), some (.int (Int32.ofInt a0_)), some (.int (Int32.ofInt a1_)), some (.long (Int64.ofInt u1_)), none, some (.int (Int32.ofInt u2_))] [] (zqcJ d_ [] [] [] [] Mz (fun v N => Int64.ofInt v = Int64.ofInt (zmq F_ K_ (zvc F_ d_ Mz a0_) (a1_).toNat))) := by
    intro n
    induction n with
    | zero =>
      intro u1_ hu1_a hu1_b u2_ hu2_a hu2_b i3_ i4_ i5_ h0
      exact absurd h0 (Nat.not_lt_zero _)
    | succ n ih_5 =>
      intro u1_ hu1_a hu1_b u2_ hu2_a hu2_b i3_ i4_ i5_ hlt_5
      refine zw_iload (pc := 5) (i := 5) (x := Int32.ofInt u2_) rfl (zdal_p dlA_Sums_markOf_138 (i := 4) rfl) ?_
      refine zw_aload_n (pc := 7) (n := 0) (x := (d_ + 23)) rfl (zdal_p dlA_Sums_markOf_138 (i := 5) rfl) ?_
      refine zw_getF (pc := 8) f_Sums_23 rfl ((hf.w hW).kr (o := 23) (by decide)) ((hf.w hW).lr (o := 23) (s := 0) (r := 12) (by decide)) (zdal_p dlA_Sums_markOf_138 (i := 6) rfl) ?_
      refine zk_getI (pc := 11) f_Sums_35 rfl ((hf.w hW).kr (o := 12) (by decide)) (zdal_p dlA_Sums_markOf_138 (i := 7) rfl) ?_
      refine zr_icmp_ge (pc := 14) (tgt := 59) ⟨hu2_a, hu2_b⟩ ⟨(ze_r Mz (d_ + 12) 7).1, (ze_r Mz (d_ + 12) 7).2⟩ (by decide) (zdal_p dlA_Sums_markOf_138 (i := 8) rfl) (fun hc_14 => ?_) (fun hc_14 => ?_)
      · skip
        refine zw_lload_n (pc := 59) (n := 3) (x := Int64.ofInt u1_) rfl (zdal_p dlA_Sums_markOf_139 (i := 9) rfl) ?_
        exact zk_lret (pc := 60) rfl ⟨by (exact hu1_a), by (exact hu1_b)⟩ hf (show Int64.ofInt u1_ = Int64.ofInt (zmq F_ K_ (zvc F_ d_ Mz a0_) (a1_).toNat) by have e_ : (u2_).toNat = F_ := (by omega); have h_ := (show Int64.ofInt u1_ = Int64.ofInt (zsm (fun i => (zvc F_ d_ Mz a0_) i * K_ i (a1_).toNat) (u2_).toNat) by first | with_reducible assumption | assumption); rw [e_] at h_; exact h_) (zdal_p dlA_Sums_markOf_139 (i := 10) rfl)
      · skip
        refine zw_lload_n (pc := 17) (n := 3) (x := Int64.ofInt u1_) rfl (zdal_p dlA_Sums_markOf_138 (i := 9) rfl) ?_
        refine zw_aload_n (pc := 18) (n := 0) (x := (d_ + 23)) rfl (zdal_p dlA_Sums_markOf_138 (i := 10) rfl) ?_
        refine zw_getF (pc := 19) f_Sums_16 rfl ((hf.w hW).kr (o := 23) (by decide)) ((hf.w hW).lr (o := 23) (s := 1) (r := 24) (by decide)) (zdal_p dlA_Sums_markOf_138 (i := 11) rfl) ?_
        refine zw_iload_n (pc := 22) (n := 1) (x := Int32.ofInt a0_) rfl (zdal_p dlA_Sums_markOf_138 (i := 12) rfl) ?_
        refine zw_bipush (pc := 23) (v := Int32.ofInt 27) (by decide) (zdal_p dlA_Sums_markOf_138 (i := 13) rfl) ?_
        refine zr_imul (pc := 25) (zdal_p dlA_Sums_markOf_138 (i := 14) rfl) ?_
        refine zw_iload (pc := 26) (i := 5) (x := Int32.ofInt u2_) rfl (zdal_p dlA_Sums_markOf_138 (i := 15) rfl) ?_
        refine zr_iadd (pc := 28) (zdal_p dlA_Sums_markOf_138 (i := 16) rfl) ?_
        refine zk_atJ hf.x (pc := 29) l_Sums_27 ((hf.w hW).kr (o := 24) (by decide)) ((hf.w hW).lr (o := 24) (s := 0) (r := 25) (by decide)) ((hf.w hW).rr (o := 25) (t := 2) (n := 1080) (by decide)) (by decide) (by (exact zo_2201 i3_ p1_)) (by (exact zo_2202 hF27_ hFc_ hc_14 i4_ p2_)) (by decide) (Nat.le_of_ble_eq_true rfl) (zdal_p dlA_Sums_markOf_138 (i := 17) rfl) (fun v6_ hv6_ hv6_a hv6_b => ?_)
        have hx_ := zvc_at (F := F_) (k := (u2_).toNat) (s := a0_) (by (exact zo_2205 hFc_ hc_14 i3_ i4_)) (by (exact p1_)) hv6_ (by (exact zo_2206 i3_ p1_))
        refine zw_aload_n (pc := 32) (n := 0) (x := (d_ + 23)) rfl (zdal_p dlA_Sums_markOf_138 (i := 18) rfl) ?_
        refine zw_getF (pc := 33) f_Sums_23 rfl ((hf.w hW).kr (o := 23) (by decide)) ((hf.w hW).lr (o := 23) (s := 0) (r := 12) (by decide)) (zdal_p dlA_Sums_markOf_138 (i := 19) rfl) ?_
        refine zw_getF (pc := 36) f_Sums_41 rfl ((hf.w hW).kr (o := 12) (by decide)) ((hf.w hW).lr (o := 12) (s := 5) (r := 21) (by decide)) (zdal_p dlA_Sums_markOf_138 (i := 20) rfl) ?_
        refine zw_iload (pc := 39) (i := 5) (x := Int32.ofInt u2_) rfl (zdal_p dlA_Sums_markOf_138 (i := 21) rfl) ?_
        refine zw_bipush (pc := 41) (v := Int32.ofInt 27) (by decide) (zdal_p dlA_Sums_markOf_138 (i := 22) rfl) ?_
        refine zr_imul (pc := 43) (zdal_p dlA_Sums_markOf_138 (i := 23) rfl) ?_
        refine zw_iload_n (pc := 44) (n := 2) (x := Int32.ofInt a1_) rfl (zdal_p dlA_Sums_markOf_139 (i := 0) rfl) ?_
        refine zr_iadd (pc := 45) (zdal_p dlA_Sums_markOf_139 (i := 1) rfl) ?_
        refine zk_at hf.x (pc := 46) l_Sums_45 ((hf.w hW).kr (o := 21) (by decide)) ((hf.w hW).lr (o := 21) (s := 0) (r := 22) (by decide)) ((hf.w hW).rr (o := 22) (t := 1) (n := 729) (by decide)) (by decide) (by (exact zo_2198 i3_ p3_)) (by omega) (by decide) (Nat.le_of_ble_eq_true rfl) (zdal_p dlA_Sums_markOf_139 (i := 2) rfl) (fun v7_ hv7_ hv7_a hv7_b => ?_)
        have hy_ := p0_.k (by (exact i3_)) (by (exact zo_2209 hFc_ hc_14 i4_)) (by (exact p3_)) (by (exact p4_)) hv7_
        refine zr_i2l (pc := 49) ⟨hv7_a, hv7_b⟩ (zdal_p dlA_Sums_markOf_139 (i := 3) rfl) ?_
        refine zr_lmul (pc := 50) (zdal_p dlA_Sums_markOf_139 (i := 4) rfl) ?_
        refine zr_ladd (pc := 51) (zdal_p dlA_Sums_markOf_139 (i := 5) rfl) ?_
        refine zk_nmJ (fun v8_ hv8_ hv8_e => ?_)
        obtain ⟨hv8_a, hv8_b⟩ := hv8_
        have hz_ := zmq_s (show Int64.ofInt u1_ = Int64.ofInt (zsm (fun i => (zvc F_ d_ Mz a0_) i * K_ i (a1_).toNat) (u2_).toNat) by first | with_reducible assumption | assumption) hv8_e (by (exact i3_)) (by show _ * _ = _; rw [← hx_, ← hy_])
        refine zw_lstore_n (pc := 52) (i := 3) (L2 := [some (.ref (d_ + 23)), some (.int (Int32.ofInt a0_)), some (.int (Int32.ofInt a1_)), some (.long (Int64.ofInt v8_)), none, some (.int (Int32.ofInt u2_))]) rfl (by decide) rfl (zdal_p dlA_Sums_markOf_139 (i := 6) rfl) ?_
        refine zr_iinc (pc := 53) (i := 5) (a := u2_) (n := 1) (L2 := [some (.ref (d_ + 23)), some (.int (Int32.ofInt a0_)), some (.int (Int32.ofInt a1_)), some (.long (Int64.ofInt v8_)), none, some (.int (Int32.ofInt (u2_ + 1)))]) rfl (by decide) rfl (zdal_p dlA_Sums_markOf_139 (i := 7) rfl) ?_
        refine zw_goto (pc := 56) (tgt := 5) (by decide) (zdal_p dlA_Sums_markOf_139 (i := 8) rfl) ?_
        exact ih_5 v8_ hv8_a hv8_b (u2_ + 1) (by (exact zo_74 i3_)) (by (exact zo_75 hF27_ hu2_b i4_)) (show 0 ≤ (u2_ + 1) by first | with_reducible assumption | (exact zo_76 i3_) | assumption) (show (u2_ + 1) ≤ F_ by first | with_reducible assumption | (exact zo_2203 hFc_ hc_14 i4_) | assumption) (show Int64.ofInt v8_ = Int64.ofInt (zsm (fun i => (zvc F_ d_ Mz a0_) i * K_ i (a1_).toNat) ((u2_ + 1)).toNat) by exact hz_) (by (exact zo_147 hc_14 hlt_5))
  exact lp_5 _ 0 (by decide) (by decide) 0 (by decide) (by decide) (show 0 ≤ (0 : Int) by first | with_reducible assumption | (decide) | assumption) (show (0 : Int) ≤ F_ by first | with_reducible assumption | (exact zo_85) | assumption) (show Int64.ofInt (0 : Int) = Int64.ofInt (zsm (fun i => (zvc F_ d_ Mz a0_) i * K_ i (a1_).toNat) ((0 : Int)).toNat) by rfl) (Nat.lt_succ_self _)
set_option maxHeartbeats 4000000 in
theorem u_Sums_solve (l : Launch) (d_ : Nat) (Mz : zMem) (hW : zKW d_ Mz) (a0_ : Int) (ha0_a : -2147483648 ≤ a0_) (ha0_b : a0_ < 2147483648) (F_ : Nat) (K_ : Nat → Nat → Int) (hA_ : zTA F_ K_) (p0_ : zKm F_ K_ d_ Mz) (p1_ : 0 ≤ a0_) (p2_ : a0_ ≤ 39) : zC l m_Sums_solve 0 0 [.ref (d_ + 23), .int (Int32.ofInt a0_)] Mz (zqcV d_ [] [] [] [25] Mz (fun N => (∀ u : Nat → Int, zsv F_ K_ d_ Mz u → zSh F_ d_ Mz N a0_ u) ∧ zOu F_ d_ Mz N a0_)) := by
  refine zC_of (L0 := [some (.ref (d_ + 23)), some (.int (Int32.ofInt a0_)), none, none, none, none]) md_Sums_solve (Nat.le_of_ble_eq_true rfl) rfl ?_ zQ0
  have hf : zFc d_ [] [] [] [25] Mz Mz := zFc.rf
  have r_D12_7 := ze_r Mz (d_ + 12) 7
  obtain ⟨⟨hF1_, hF27_⟩, hAr_⟩ := id hA_
  obtain ⟨hFc_, hKt_⟩ := id p0_
  refine zw_aload_n (pc := 0) (n := 0) (x := (d_ + 23)) rfl (zdal_p dlA_Sums_solve_140 (i := 0) rfl) ?_
  refine zw_getF (pc := 1) f_Sums_23 rfl ((hf.w hW).kr (o := 23) (by decide)) ((hf.w hW).lr (o := 23) (s := 0) (r := 12) (by decide)) (zdal_p dlA_Sums_solve_140 (i := 1) rfl) ?_
  refine zk_getI (pc := 4) f_Sums_35 rfl ((hf.w hW).kr (o := 12) (by decide)) (zdal_p dlA_Sums_solve_140 (i := 2) rfl) ?_
  refine zw_iconst (pc := 7) (v := Int32.ofInt 1) (by decide) (zdal_p dlA_Sums_solve_140 (i := 3) rfl) ?_
  refine zr_isub (pc := 8) (zdal_p dlA_Sums_solve_140 (i := 4) rfl) ?_
  refine zw_istore_n (pc := 9) (i := 2) (L2 := [some (.ref (d_ + 23)), some (.int (Int32.ofInt a0_)), some (.int (Int32.ofInt ((ze Mz (d_ + 12) 7) - 1))), none, none, none]) rfl (by decide) rfl (zdal_p dlA_Sums_solve_140 (i := 5) rfl) ?_
  have lp_10 : ∀ (n : Nat) (u1_ : Int) (hu1_a : -2147483648 ≤ u1_) (hu1_b : u1_ < 2147483648) (N2_ : zMem) (hs3_ : zFc d_ [] [] [] [25] Mz N2_) (i4_ : u1_ < F_) (i5_ : -1 ≤ u1_) (i6_ : ∀ u : Nat → Int, zsv F_ K_ d_ Mz u → zUp F_ d_ Mz N2_ a0_ u u1_) (i7_ : zOu F_ d_ Mz N2_ a0_), (u1_ + 1).toNat < n → zW l m_Sums_solve (zn Mz + 0, zw Mz + 0) N2_ 10 [some (.ref (d_ + 23)), some (.int (Int32.ofInt a0_)), some (.int (Int32.ofInt u1_)), none, none, none] [] (zqcV d_ [] [] [] [25] Mz (fun N => (∀ u : Nat → Int, zsv F_ K_ d_ Mz u → zSh F_ d_ Mz N a0_ u) ∧ zOu F_ d_ Mz N a0_)) := by
    intro n
    induction n with
    | zero =>
      intro u1_ hu1_a hu1_b N2_ hs3_ i4_ i5_ i6_ i7_ h0
      exact absurd h0 (Nat.not_lt_zero _)
    | succ n ih_10 =>
      intro u1_ hu1_a hu1_b N2_ hs3_ i4_ i5_ i6_ i7_ hlt_10
      have hf_N2_ : zFc d_ [] [] [] [25] Mz N2_ := hf.tr hs3_ (by decide) (by decide) (by decide) (by decide)
      have eD12_7_N2_ : ze N2_ (d_ + 12) 7 = ze Mz (d_ + 12) 7 := hs3_.e (by decide)
      have c8_ : zKm F_ K_ d_ N2_ := zKm.fr (hf.w hW) hs3_ p0_ (by decide)
      refine zw_iload_n (pc := 10) (n := 2) (x := Int32.ofInt u1_) rfl (zdal_p dlA_Sums_solve_140 (i := 6) rfl) ?_
      refine zr_if_lt (pc := 11) (tgt := 133) ⟨hu1_a, hu1_b⟩ (by decide) (zdal_p dlA_Sums_solve_140 (i := 7) rfl) (fun hc_11 => ?_) (fun hc_11 => ?_)
      · skip
        exact zk_vret (pc := 133) rfl hf_N2_ ⟨(show (∀ u : Nat → Int, zsv F_ K_ d_ Mz u → zSh F_ d_ Mz N2_ a0_ u) by exact fun u hu => zUp_e ((show ∀ u : Nat → Int, zsv F_ K_ d_ Mz u → zUp F_ d_ Mz N2_ a0_ u u1_ by first | with_reducible assumption | assumption) u hu) (by (exact hc_11))), (show zOu F_ d_ Mz N2_ a0_ by first | with_reducible assumption | assumption)⟩ (zdal_p dlA_Sums_solve_143 (i := 2) rfl)
      · skip
        refine zw_aload_n (pc := 14) (n := 0) (x := (d_ + 23)) rfl (zdal_p dlA_Sums_solve_140 (i := 8) rfl) ?_
        refine zw_getF (pc := 15) f_Sums_20 rfl ((hf_N2_.w hW).kr (o := 23) (by decide)) ((hf_N2_.w hW).lr (o := 23) (s := 2) (r := 26) (by decide)) (zdal_p dlA_Sums_solve_140 (i := 9) rfl) ?_
        refine zw_iload_n (pc := 18) (n := 2) (x := Int32.ofInt u1_) rfl (zdal_p dlA_Sums_solve_140 (i := 10) rfl) ?_
        refine zk_atJ hf_N2_.x (pc := 19) l_Sums_27 ((hf_N2_.w hW).kr (o := 26) (by decide)) ((hf_N2_.w hW).lr (o := 26) (s := 0) (r := 27) (by decide)) ((hf_N2_.w hW).rr (o := 27) (t := 2) (n := 27) (by decide)) (by decide) (by (exact hc_11)) (by omega) (by decide) (Nat.le_of_ble_eq_true rfl) (zdal_p dlA_Sums_solve_140 (i := 11) rfl) (fun v9_ hv9_ hv9_a hv9_b => ?_)
        rw [hf_N2_.rg (by decide)] at hv9_
        refine zw_lstore_n (pc := 22) (i := 3) (L2 := [some (.ref (d_ + 23)), some (.int (Int32.ofInt a0_)), some (.int (Int32.ofInt u1_)), some (.long (Int64.ofInt v9_)), none, none]) rfl (by decide) rfl (zdal_p dlA_Sums_solve_140 (i := 12) rfl) ?_
        refine zw_iload_n (pc := 23) (n := 2) (x := Int32.ofInt u1_) rfl (zdal_p dlA_Sums_solve_140 (i := 13) rfl) ?_
        refine zw_iconst (pc := 24) (v := Int32.ofInt 1) (by decide) (zdal_p dlA_Sums_solve_140 (i := 14) rfl) ?_
        refine zr_iadd (pc := 25) (zdal_p dlA_Sums_solve_140 (i := 15) rfl) ?_
        refine zw_istore (pc := 26) (i := 5) (L2 := [some (.ref (d_ + 23)), some (.int (Int32.ofInt a0_)), some (.int (Int32.ofInt u1_)), some (.long (Int64.ofInt v9_)), none, some (.int (Int32.ofInt (u1_ + 1)))]) (by decide) rfl (zdal_p dlA_Sums_solve_140 (i := 16) rfl) ?_
        have hup_ := (show ∀ u : Nat → Int, zsv F_ K_ d_ Mz u → zUp F_ d_ Mz N2_ a0_ u u1_ by first | with_reducible assumption | assumption)
        have lp_28 : ∀ (n : Nat) (u10_ : Int) (hu10_a : -9223372036854775808 ≤ u10_) (hu10_b : u10_ < 9223372036854775808) (u11_ : Int) (hu11_a : -2147483648 ≤ u11_) (hu11_b : u11_ < 2147483648) (i12_ : u1_ < u11_) (i13_ : u11_ ≤ F_) (i14_ : ∀ u : Nat → Int, zsv F_ K_ d_ Mz u → Int64.ofInt u10_ = Int64.ofInt (zmq F_ K_ u (u1_).toNat - zsm (fun t => u ((u1_).toNat + 1 + t) * K_ ((u1_).toNat + 1 + t) (u1_).toNat) (u11_ - u1_ - 1).toNat)), (F_ - u11_).toNat < n → zW l m_Sums_solve (zn Mz + 0, zw Mz + 0) N2_ 28 [some (.ref (d_ + 23)), some (.int (Int32.ofInt a0_)), some (.int (Int32.ofInt u1_)), some (.long (Int64.ofInt u10_)), none, some (.int (Int32.ofInt u11_))] [] (zqcV d_ [] [] [] [25] Mz (fun N => (∀ u : Nat → Int, zsv F_ K_ d_ Mz u → zSh F_ d_ Mz N a0_ u) ∧ zOu F_ d_ Mz N a0_)) := by
          intro n
          induction n with
          | zero =>
            intro u10_ hu10_a hu10_b u11_ hu11_a hu11_b i12_ i13_ i14_ h0
            exact absurd h0 (Nat.not_lt_zero _)
          | succ n ih_28 =>
            intro u10_ hu10_a hu10_b u11_ hu11_a hu11_b i12_ i13_ i14_ hlt_28
            refine zw_iload (pc := 28) (i := 5) (x := Int32.ofInt u11_) rfl (zdal_p dlA_Sums_solve_140 (i := 17) rfl) ?_
            refine zw_aload_n (pc := 30) (n := 0) (x := (d_ + 23)) rfl (zdal_p dlA_Sums_solve_140 (i := 18) rfl) ?_
            refine zw_getF (pc := 31) f_Sums_23 rfl ((hf_N2_.w hW).kr (o := 23) (by decide)) ((hf_N2_.w hW).lr (o := 23) (s := 0) (r := 12) (by decide)) (zdal_p dlA_Sums_solve_140 (i := 19) rfl) ?_
            refine zk_getI (pc := 34) f_Sums_35 rfl ((hf_N2_.w hW).kr (o := 12) (by decide)) (zdal_p dlA_Sums_solve_140 (i := 20) rfl) ?_
            rw [hf_N2_.e (by decide)]
            refine zr_icmp_ge (pc := 37) (tgt := 82) ⟨hu11_a, hu11_b⟩ ⟨(ze_r Mz (d_ + 12) 7).1, (ze_r Mz (d_ + 12) 7).2⟩ (by decide) (zdal_p dlA_Sums_solve_140 (i := 21) rfl) (fun hc_37 => ?_) (fun hc_37 => ?_)
            · skip
              refine zw_aload_n (pc := 82) (n := 0) (x := (d_ + 23)) rfl (zdal_p dlA_Sums_solve_141 (i := 22) rfl) ?_
              refine zw_getF (pc := 83) f_Sums_23 rfl ((hf_N2_.w hW).kr (o := 23) (by decide)) ((hf_N2_.w hW).lr (o := 23) (s := 0) (r := 12) (by decide)) (zdal_p dlA_Sums_solve_141 (i := 23) rfl) ?_
              refine zw_getF (pc := 86) f_Sums_41 rfl ((hf_N2_.w hW).kr (o := 12) (by decide)) ((hf_N2_.w hW).lr (o := 12) (s := 5) (r := 21) (by decide)) (zdal_p dlA_Sums_solve_142 (i := 0) rfl) ?_
              refine zw_iload_n (pc := 89) (n := 2) (x := Int32.ofInt u1_) rfl (zdal_p dlA_Sums_solve_142 (i := 1) rfl) ?_
              refine zw_bipush (pc := 90) (v := Int32.ofInt 27) (by decide) (zdal_p dlA_Sums_solve_142 (i := 2) rfl) ?_
              refine zr_imul (pc := 92) (zdal_p dlA_Sums_solve_142 (i := 3) rfl) ?_
              refine zw_iload_n (pc := 93) (n := 2) (x := Int32.ofInt u1_) rfl (zdal_p dlA_Sums_solve_142 (i := 4) rfl) ?_
              refine zr_iadd (pc := 94) (zdal_p dlA_Sums_solve_142 (i := 5) rfl) ?_
              refine zk_at hf_N2_.x (pc := 95) l_Sums_45 ((hf_N2_.w hW).kr (o := 21) (by decide)) ((hf_N2_.w hW).lr (o := 21) (s := 0) (r := 22) (by decide)) ((hf_N2_.w hW).rr (o := 22) (t := 1) (n := 729) (by decide)) (by decide) (by omega) (by omega) (by decide) (Nat.le_of_ble_eq_true rfl) (zdal_p dlA_Sums_solve_142 (i := 6) rfl) (fun v15_ hv15_ hv15_a hv15_b => ?_)
              rw [hf_N2_.r (by decide)] at hv15_
              have hm_ := p0_.k (by (exact hc_11)) (by (exact i4_)) (by (exact hc_11)) (by (exact i4_)) hv15_
              have hm1_ := hAr_.2.2.1 (u1_).toNat (by omega)
              have hL5_ : u11_ = (F_ : Int) := by omega
              have hin_ := (show ∀ u : Nat → Int, zsv F_ K_ d_ Mz u → Int64.ofInt u10_ = Int64.ofInt (zmq F_ K_ u (u1_).toNat - zsm (fun t => u ((u1_).toNat + 1 + t) * K_ ((u1_).toNat + 1 + t) (u1_).toNat) (u11_ - u1_ - 1).toNat) by first | with_reducible assumption | assumption)
              rw [hL5_] at hin_
              refine zw_istore (pc := 98) (i := 5) (L2 := [some (.ref (d_ + 23)), some (.int (Int32.ofInt a0_)), some (.int (Int32.ofInt u1_)), some (.long (Int64.ofInt u10_)), none, some (.int (Int32.ofInt v15_))]) (by decide) rfl (zdal_p dlA_Sums_solve_142 (i := 7) rfl) ?_
              refine zw_aload_n (pc := 100) (n := 0) (x := (d_ + 23)) rfl (zdal_p dlA_Sums_solve_142 (i := 8) rfl) ?_
              refine zw_getF (pc := 101) f_Sums_16 rfl ((hf_N2_.w hW).kr (o := 23) (by decide)) ((hf_N2_.w hW).lr (o := 23) (s := 1) (r := 24) (by decide)) (zdal_p dlA_Sums_solve_142 (i := 9) rfl) ?_
              refine zw_iload_n (pc := 104) (n := 1) (x := Int32.ofInt a0_) rfl (zdal_p dlA_Sums_solve_142 (i := 10) rfl) ?_
              refine zw_bipush (pc := 105) (v := Int32.ofInt 27) (by decide) (zdal_p dlA_Sums_solve_142 (i := 11) rfl) ?_
              refine zr_imul (pc := 107) (zdal_p dlA_Sums_solve_142 (i := 12) rfl) ?_
              refine zw_iload_n (pc := 108) (n := 2) (x := Int32.ofInt u1_) rfl (zdal_p dlA_Sums_solve_142 (i := 13) rfl) ?_
              refine zr_iadd (pc := 109) (zdal_p dlA_Sums_solve_142 (i := 14) rfl) ?_
              refine zw_iload (pc := 110) (i := 5) (x := Int32.ofInt v15_) rfl (zdal_p dlA_Sums_solve_142 (i := 15) rfl) ?_
              refine zr_if_eq (pc := 112) (tgt := 123) ⟨hv15_a, hv15_b⟩ (by decide) (zdal_p dlA_Sums_solve_142 (i := 16) rfl) (fun hc_112 => ?_) (fun hc_112 => ?_)
              · skip
                refine zw_lconst (pc := 123) (v := Int64.ofInt 0) (by decide) (zdal_p dlA_Sums_solve_142 (i := 22) rfl) ?_
                refine zk_stJ hf_N2_.x (pc := 124) (o := 25) (by decide) l_Sums_31 ((hf_N2_.w hW).kr (o := 24) (by decide)) ((hf_N2_.w hW).lr (o := 24) (s := 0) (r := 25) (by decide)) ((hf_N2_.w hW).rr (o := 25) (t := 2) (n := 1080) (by decide)) (by decide) (by (exact zo_2201 hc_11 p1_)) (by omega) (by decide) (Nat.le_of_ble_eq_true rfl) (zdal_p dlA_Sums_solve_142 (i := 23) rfl) (fun N16_ hN16_ hsN16_ => ?_)
                have hf_N16_ : zFc d_ [] [] [] [25] Mz N16_ := hf_N2_.tr hsN16_ (by decide) (by decide) (by decide) (by decide)
                have hb0_N16_ : zFc d_ [] [] [] [25] Mz N16_ := hs3_.tr hsN16_ (by decide) (by decide) (by decide) (by decide)
                have eD12_7_N16_ : ze N16_ (d_ + 12) 7 = ze N2_ (d_ + 12) 7 := hsN16_.e (by decide)
                have h1_ := zS1_i hN16_ ⟨by (decide), by (decide)⟩ (by (exact zo_2201 hc_11 p1_))
                have hu1_ := fun u hu => zUp_s (hup_ u hu) h1_ rfl (by (exact hc_11)) (by (exact i4_)) (by first | (exfalso; omega) | (rw [← hq_]; exact hqu_ u hu))
                have ho1_ := zOu_s (show zOu F_ d_ Mz N2_ a0_ by first | with_reducible assumption | assumption) h1_ rfl (by (exact hc_11)) (by (exact i4_))
                refine zr_iinc (pc := 127) (i := 2) (a := u1_) (n := -1) (L2 := [some (.ref (d_ + 23)), some (.int (Int32.ofInt a0_)), some (.int (Int32.ofInt (u1_ + (-1)))), some (.long (Int64.ofInt u10_)), none, some (.int (Int32.ofInt v15_))]) rfl (by decide) rfl (zdal_p dlA_Sums_solve_143 (i := 0) rfl) ?_
                refine zw_goto (pc := 130) (tgt := 10) (by decide) (zdal_p dlA_Sums_solve_143 (i := 1) rfl) ?_
                refine zW_le [some (.ref (d_ + 23)), some (.int (Int32.ofInt a0_)), some (.int (Int32.ofInt (u1_ + (-1)))), none, none, none] (⟨rfl, rfl, rfl, trivial⟩) ?_
                exact ih_10 (u1_ + (-1)) (by (exact zo_892 hc_11)) (by (exact zo_893 hu1_b)) N16_ hb0_N16_ (show (u1_ + (-1)) < F_ by first | with_reducible assumption | (exact zo_2217 hu1_b i4_) | assumption) (show -1 ≤ (u1_ + (-1)) by first | with_reducible assumption | (exact zo_938 hc_11) | assumption) (show ∀ u : Nat → Int, zsv F_ K_ d_ Mz u → zUp F_ d_ Mz N16_ a0_ u (u1_ + (-1)) by exact hu1_) (show zOu F_ d_ Mz N16_ a0_ by exact ho1_) (by (exact zo_896 hc_11 hlt_10 hu1_b))
              · skip
                refine zw_lload_n (pc := 115) (n := 3) (x := Int64.ofInt u10_) rfl (zdal_p dlA_Sums_solve_142 (i := 17) rfl) ?_
                refine zw_iload (pc := 116) (i := 5) (x := Int32.ofInt v15_) rfl (zdal_p dlA_Sums_solve_142 (i := 18) rfl) ?_
                refine zr_i2l (pc := 118) ⟨hv15_a, hv15_b⟩ (zdal_p dlA_Sums_solve_142 (i := 19) rfl) ?_
                refine zr_ldiv (pc := 119) ⟨by (exact zo_282 hv15_a), by (exact zo_283 hv15_b)⟩ (by (exact hc_112)) (zdal_p dlA_Sums_solve_142 (i := 20) rfl) ?_
                have hr18_ := zlquo_r u10_ v15_
                obtain ⟨q_, hq_⟩ : ∃ q, q = (zlquo u10_ v15_) := ⟨_, rfl⟩
                have hqu_ := fun u hu => zin_e hA_ (hin_ u hu) hu ⟨by (exact hu10_a), by (exact hu10_b)⟩ (by (exact hc_11)) (by (exact i4_)) hm_ hq_
                refine zw_goto (pc := 120) (tgt := 124) (by decide) (zdal_p dlA_Sums_solve_142 (i := 21) rfl) ?_
                refine zk_stJ hf_N2_.x (pc := 124) (o := 25) (by decide) l_Sums_31 ((hf_N2_.w hW).kr (o := 24) (by decide)) ((hf_N2_.w hW).lr (o := 24) (s := 0) (r := 25) (by decide)) ((hf_N2_.w hW).rr (o := 25) (t := 2) (n := 1080) (by decide)) (by decide) (by (exact zo_2201 hc_11 p1_)) (by omega) (by decide) (Nat.le_of_ble_eq_true rfl) (zdal_p dlA_Sums_solve_142 (i := 23) rfl) (fun N19_ hN19_ hsN19_ => ?_)
                have hf_N19_ : zFc d_ [] [] [] [25] Mz N19_ := hf_N2_.tr hsN19_ (by decide) (by decide) (by decide) (by decide)
                have hb0_N19_ : zFc d_ [] [] [] [25] Mz N19_ := hs3_.tr hsN19_ (by decide) (by decide) (by decide) (by decide)
                have eD12_7_N19_ : ze N19_ (d_ + 12) 7 = ze N2_ (d_ + 12) 7 := hsN19_.e (by decide)
                have h1_ := zS1_i hN19_ ⟨by (exact zo_79 hr18_.1), by (exact zo_80 hr18_.2)⟩ (by (exact zo_2201 hc_11 p1_))
                have hu1_ := fun u hu => zUp_s (hup_ u hu) h1_ rfl (by (exact hc_11)) (by (exact i4_)) (by first | (exfalso; omega) | (rw [← hq_]; exact hqu_ u hu))
                have ho1_ := zOu_s (show zOu F_ d_ Mz N2_ a0_ by first | with_reducible assumption | assumption) h1_ rfl (by (exact hc_11)) (by (exact i4_))
                refine zr_iinc (pc := 127) (i := 2) (a := u1_) (n := -1) (L2 := [some (.ref (d_ + 23)), some (.int (Int32.ofInt a0_)), some (.int (Int32.ofInt (u1_ + (-1)))), some (.long (Int64.ofInt u10_)), none, some (.int (Int32.ofInt v15_))]) rfl (by decide) rfl (zdal_p dlA_Sums_solve_143 (i := 0) rfl) ?_
                refine zw_goto (pc := 130) (tgt := 10) (by decide) (zdal_p dlA_Sums_solve_143 (i := 1) rfl) ?_
                refine zW_le [some (.ref (d_ + 23)), some (.int (Int32.ofInt a0_)), some (.int (Int32.ofInt (u1_ + (-1)))), none, none, none] (⟨rfl, rfl, rfl, trivial⟩) ?_
                exact ih_10 (u1_ + (-1)) (by (exact zo_892 hc_11)) (by (exact zo_893 hu1_b)) N19_ hb0_N19_ (show (u1_ + (-1)) < F_ by first | with_reducible assumption | (exact zo_2217 hu1_b i4_) | assumption) (show -1 ≤ (u1_ + (-1)) by first | with_reducible assumption | (exact zo_938 hc_11) | assumption) (show ∀ u : Nat → Int, zsv F_ K_ d_ Mz u → zUp F_ d_ Mz N19_ a0_ u (u1_ + (-1)) by exact hu1_) (show zOu F_ d_ Mz N19_ a0_ by exact ho1_) (by (exact zo_896 hc_11 hlt_10 hu1_b))
            · skip
              refine zw_lload_n (pc := 40) (n := 3) (x := Int64.ofInt u10_) rfl (zdal_p dlA_Sums_solve_140 (i := 22) rfl) ?_
              refine zw_aload_n (pc := 41) (n := 0) (x := (d_ + 23)) rfl (zdal_p dlA_Sums_solve_140 (i := 23) rfl) ?_
              refine zw_getF (pc := 42) f_Sums_16 rfl ((hf_N2_.w hW).kr (o := 23) (by decide)) ((hf_N2_.w hW).lr (o := 23) (s := 1) (r := 24) (by decide)) (zdal_p dlA_Sums_solve_141 (i := 0) rfl) ?_
              refine zw_iload_n (pc := 45) (n := 1) (x := Int32.ofInt a0_) rfl (zdal_p dlA_Sums_solve_141 (i := 1) rfl) ?_
              refine zw_bipush (pc := 46) (v := Int32.ofInt 27) (by decide) (zdal_p dlA_Sums_solve_141 (i := 2) rfl) ?_
              refine zr_imul (pc := 48) (zdal_p dlA_Sums_solve_141 (i := 3) rfl) ?_
              refine zw_iload (pc := 49) (i := 5) (x := Int32.ofInt u11_) rfl (zdal_p dlA_Sums_solve_141 (i := 4) rfl) ?_
              refine zr_iadd (pc := 51) (zdal_p dlA_Sums_solve_141 (i := 5) rfl) ?_
              refine zk_atJ hf_N2_.x (pc := 52) l_Sums_27 ((hf_N2_.w hW).kr (o := 24) (by decide)) ((hf_N2_.w hW).lr (o := 24) (s := 0) (r := 25) (by decide)) ((hf_N2_.w hW).rr (o := 25) (t := 2) (n := 1080) (by decide)) (by decide) (by omega) (by omega) (by decide) (Nat.le_of_ble_eq_true rfl) (zdal_p dlA_Sums_solve_141 (i := 6) rfl) (fun v21_ hv21_ hv21_a hv21_b => ?_)
              have hx_ := hv21_
              refine zw_aload_n (pc := 55) (n := 0) (x := (d_ + 23)) rfl (zdal_p dlA_Sums_solve_141 (i := 7) rfl) ?_
              refine zw_getF (pc := 56) f_Sums_23 rfl ((hf_N2_.w hW).kr (o := 23) (by decide)) ((hf_N2_.w hW).lr (o := 23) (s := 0) (r := 12) (by decide)) (zdal_p dlA_Sums_solve_141 (i := 8) rfl) ?_
              refine zw_getF (pc := 59) f_Sums_41 rfl ((hf_N2_.w hW).kr (o := 12) (by decide)) ((hf_N2_.w hW).lr (o := 12) (s := 5) (r := 21) (by decide)) (zdal_p dlA_Sums_solve_141 (i := 9) rfl) ?_
              refine zw_iload (pc := 62) (i := 5) (x := Int32.ofInt u11_) rfl (zdal_p dlA_Sums_solve_141 (i := 10) rfl) ?_
              refine zw_bipush (pc := 64) (v := Int32.ofInt 27) (by decide) (zdal_p dlA_Sums_solve_141 (i := 11) rfl) ?_
              refine zr_imul (pc := 66) (zdal_p dlA_Sums_solve_141 (i := 12) rfl) ?_
              refine zw_iload_n (pc := 67) (n := 2) (x := Int32.ofInt u1_) rfl (zdal_p dlA_Sums_solve_141 (i := 13) rfl) ?_
              refine zr_iadd (pc := 68) (zdal_p dlA_Sums_solve_141 (i := 14) rfl) ?_
              refine zk_at hf_N2_.x (pc := 69) l_Sums_45 ((hf_N2_.w hW).kr (o := 21) (by decide)) ((hf_N2_.w hW).lr (o := 21) (s := 0) (r := 22) (by decide)) ((hf_N2_.w hW).rr (o := 22) (t := 1) (n := 729) (by decide)) (by decide) (by omega) (by omega) (by decide) (Nat.le_of_ble_eq_true rfl) (zdal_p dlA_Sums_solve_141 (i := 15) rfl) (fun v22_ hv22_ hv22_a hv22_b => ?_)
              rw [hf_N2_.r (by decide)] at hv22_
              have hy_ := p0_.k (by omega) (by (exact zo_2223 hFc_ hc_37 hu11_b i13_)) (by (exact hc_11)) (by (exact i4_)) hv22_
              refine zr_i2l (pc := 72) ⟨hv22_a, hv22_b⟩ (zdal_p dlA_Sums_solve_141 (i := 16) rfl) ?_
              refine zr_lmul (pc := 73) (zdal_p dlA_Sums_solve_141 (i := 17) rfl) ?_
              refine zr_lsub (pc := 74) (zdal_p dlA_Sums_solve_141 (i := 18) rfl) ?_
              refine zk_nmJ (fun v23_ hv23_ hv23_e => ?_)
              obtain ⟨hv23_a, hv23_b⟩ := hv23_
              have hz_ := fun u hu => zin_s ((show ∀ u : Nat → Int, zsv F_ K_ d_ Mz u → Int64.ofInt u10_ = Int64.ofInt (zmq F_ K_ u (u1_).toNat - zsm (fun t => u ((u1_).toNat + 1 + t) * K_ ((u1_).toNat + 1 + t) (u1_).toNat) (u11_ - u1_ - 1).toNat) by first | with_reducible assumption | assumption) u hu) hv23_e (by (exact hc_11)) (by (exact i12_)) (by (exact zo_2223 hFc_ hc_37 hu11_b i13_)) (by (exact p1_)) (hup_ u hu) hx_ hy_
              refine zw_lstore_n (pc := 75) (i := 3) (L2 := [some (.ref (d_ + 23)), some (.int (Int32.ofInt a0_)), some (.int (Int32.ofInt u1_)), some (.long (Int64.ofInt v23_)), none, some (.int (Int32.ofInt u11_))]) rfl (by decide) rfl (zdal_p dlA_Sums_solve_141 (i := 19) rfl) ?_
              refine zr_iinc (pc := 76) (i := 5) (a := u11_) (n := 1) (L2 := [some (.ref (d_ + 23)), some (.int (Int32.ofInt a0_)), some (.int (Int32.ofInt u1_)), some (.long (Int64.ofInt v23_)), none, some (.int (Int32.ofInt (u11_ + 1)))]) rfl (by decide) rfl (zdal_p dlA_Sums_solve_141 (i := 20) rfl) ?_
              refine zw_goto (pc := 79) (tgt := 28) (by decide) (zdal_p dlA_Sums_solve_141 (i := 21) rfl) ?_
              exact ih_28 v23_ hv23_a hv23_b (u11_ + 1) (by (exact zo_679 hu11_a)) (by (exact zo_75 hF27_ hu11_b i13_)) (show u1_ < (u11_ + 1) by first | with_reducible assumption | assumption | omega) (show (u11_ + 1) ≤ F_ by first | with_reducible assumption | (exact zo_77 hFc_ hc_37 hu11_b i13_) | assumption) (show ∀ u : Nat → Int, zsv F_ K_ d_ Mz u → Int64.ofInt v23_ = Int64.ofInt (zmq F_ K_ u (u1_).toNat - zsm (fun t => u ((u1_).toNat + 1 + t) * K_ ((u1_).toNat + 1 + t) (u1_).toNat) ((u11_ + 1) - u1_ - 1).toNat) by exact hz_) (by (exact zo_78 hFc_ hc_37 hlt_28 hu11_b i13_))
        exact lp_28 _ v9_ hv9_a hv9_b (u1_ + 1) (by (exact zo_74 hc_11)) (by omega) (show u1_ < (u1_ + 1) by first | with_reducible assumption | (exact zo_683) | assumption) (show (u1_ + 1) ≤ F_ by first | with_reducible assumption | assumption | omega) (show ∀ u : Nat → Int, zsv F_ K_ d_ Mz u → Int64.ofInt v9_ = Int64.ofInt (zmq F_ K_ u (u1_).toNat - zsm (fun t => u ((u1_).toNat + 1 + t) * K_ ((u1_).toNat + 1 + t) (u1_).toNat) ((u1_ + 1) - u1_ - 1).toNat) by exact fun u hu => zin_0 (by (exact hc_11)) hu (by (exact i4_)) (by first | with_reducible assumption | assumption)) (Nat.lt_succ_self _)
  exact lp_10 _ ((ze Mz (d_ + 12) 7) - 1) (by (exact zo_786 hFc_ r_D12_7.1)) (by (exact zo_601 r_D12_7.2)) Mz zFc.rf (show ((ze Mz (d_ + 12) 7) - 1) < F_ by first | with_reducible assumption | (exact zo_792 hFc_ r_D12_7.2) | assumption) (show -1 ≤ ((ze Mz (d_ + 12) 7) - 1) by first | with_reducible assumption | assumption | omega) (show ∀ u : Nat → Int, zsv F_ K_ d_ Mz u → zUp F_ d_ Mz Mz a0_ u ((ze Mz (d_ + 12) 7) - 1) by exact fun u hu => zUp_0 (by omega)) (show zOu F_ d_ Mz Mz a0_ by exact fun x _ => rfl) (Nat.lt_succ_self _)
set_option maxHeartbeats 4000000 in
theorem u_Sums_isInBounds (l : Launch) (d_ : Nat) (Mz : zMem) (hW : zKW d_ Mz) (a0_ : Int) (ha0_a : -2147483648 ≤ a0_) (ha0_b : a0_ < 2147483648) (F_ : Nat) (K_ : Nat → Nat → Int) (hA_ : zTA F_ K_) (p0_ : zKm F_ K_ d_ Mz) (p1_ : 0 ≤ a0_) (p2_ : a0_ ≤ 39) (p3_ : zbd F_ K_ (zvc F_ d_ Mz a0_)) : zC l m_Sums_isInBounds 0 0 [.ref (d_ + 23), .int (Int32.ofInt a0_)] Mz (zqcI d_ [] [] [] [] Mz (fun v N => (((v = 1 ∧ zfit F_ K_ (zvc F_ d_ Mz a0_)) ∨ (v = 0 ∧ ¬ zfit F_ K_ (zvc F_ d_ Mz a0_)))))) := by
  refine zC_of (L0 := [some (.ref (d_ + 23)), some (.int (Int32.ofInt a0_)), none]) md_Sums_isInBounds (Nat.le_of_ble_eq_true rfl) rfl ?_ zQ0
  have hf : zFc d_ [] [] [] [] Mz Mz := zFc.rf
  have r_D12_7 := ze_r Mz (d_ + 12) 7
  obtain ⟨⟨hF1_, hF27_⟩, hAr_⟩ := id hA_
  obtain ⟨hFc_, hKt_⟩ := id p0_
  refine zw_iconst (pc := 0) (v := Int32.ofInt 0) (by decide) (zdal_p dlA_Sums_isInBounds_144 (i := 0) rfl) ?_
  refine zw_istore_n (pc := 1) (i := 2) (L2 := [some (.ref (d_ + 23)), some (.int (Int32.ofInt a0_)), some (.int (Int32.ofInt 0))]) rfl (by decide) rfl (zdal_p dlA_Sums_isInBounds_144 (i := 1) rfl) ?_
  have lp_2 : ∀ (n : Nat) (u1_ : Int) (hu1_a : -2147483648 ≤ u1_) (hu1_b : u1_ < 2147483648) (i2_ : 0 ≤ u1_) (i3_ : u1_ ≤ F_) (i4_ : zft F_ K_ (zvc F_ d_ Mz a0_) u1_), (ze Mz (d_ + 12) 7 - u1_).toNat < n → zW l m_Sums_isInBounds (zn Mz + 0, zw Mz + 0) Mz 2 [some (.ref (d_ + 23)), some (.int (Int32.ofInt a0_)), some (.int (Int32.ofInt u1_))] [] (zqcI d_ [] [] [] [] Mz (fun v N => (((v = 1 ∧ zfit F_ K_ (zvc F_ d_ Mz a0_)) ∨ (v = 0 ∧ ¬ zfit F_ K_ (zvc F_ d_ Mz a0_)))))) := by
    intro n
    induction n with
    | zero =>
      intro u1_ hu1_a hu1_b i2_ i3_ i4_ h0
      exact absurd h0 (Nat.not_lt_zero _)
    | succ n ih_2 =>
      intro u1_ hu1_a hu1_b i2_ i3_ i4_ hlt_2
      refine zw_iload_n (pc := 2) (n := 2) (x := Int32.ofInt u1_) rfl (zdal_p dlA_Sums_isInBounds_144 (i := 2) rfl) ?_
      refine zw_aload_n (pc := 3) (n := 0) (x := (d_ + 23)) rfl (zdal_p dlA_Sums_isInBounds_144 (i := 3) rfl) ?_
      refine zw_getF (pc := 4) f_Sums_23 rfl ((hf.w hW).kr (o := 23) (by decide)) ((hf.w hW).lr (o := 23) (s := 0) (r := 12) (by decide)) (zdal_p dlA_Sums_isInBounds_144 (i := 4) rfl) ?_
      refine zk_getI (pc := 7) f_Sums_35 rfl ((hf.w hW).kr (o := 12) (by decide)) (zdal_p dlA_Sums_isInBounds_144 (i := 5) rfl) ?_
      refine zr_icmp_ge (pc := 10) (tgt := 53) ⟨hu1_a, hu1_b⟩ ⟨(ze_r Mz (d_ + 12) 7).1, (ze_r Mz (d_ + 12) 7).2⟩ (by decide) (zdal_p dlA_Sums_isInBounds_144 (i := 6) rfl) (fun hc_10 => ?_) (fun hc_10 => ?_)
      · skip
        refine zw_iconst (pc := 53) (v := Int32.ofInt 1) (by decide) (zdal_p dlA_Sums_isInBounds_145 (i := 3) rfl) ?_
        exact zk_iret (pc := 54) (ty := .boolean) rfl (z_narB (by (decide))) ⟨by (decide), by (decide)⟩ hf (show ((1 = 1 ∧ zfit F_ K_ (zvc F_ d_ Mz a0_)) ∨ (1 = 0 ∧ ¬ zfit F_ K_ (zvc F_ d_ Mz a0_))) from Or.inl (⟨(show 1 = 1 by first | rfl | exact zft_e (show zft F_ K_ (zvc F_ d_ Mz a0_) u1_ by first | with_reducible assumption | assumption) (by omega)), (show zfit F_ K_ (zvc F_ d_ Mz a0_) by first | rfl | exact zft_e (show zft F_ K_ (zvc F_ d_ Mz a0_) u1_ by first | with_reducible assumption | assumption) (by (exact zo_2228 hF27_ hFc_ hc_10 i2_)))⟩)) (zdal_p dlA_Sums_isInBounds_145 (i := 4) rfl)
      · skip
        refine zw_aload_n (pc := 13) (n := 0) (x := (d_ + 23)) rfl (zdal_p dlA_Sums_isInBounds_144 (i := 7) rfl) ?_
        refine zw_iload_n (pc := 14) (n := 1) (x := Int32.ofInt a0_) rfl (zdal_p dlA_Sums_isInBounds_144 (i := 8) rfl) ?_
        refine zw_iload_n (pc := 15) (n := 2) (x := Int32.ofInt u1_) rfl (zdal_p dlA_Sums_isInBounds_144 (i := 9) rfl) ?_
        refine zk_callV hf.x (pc := 16) [.int (Int32.ofInt a0_), .int (Int32.ofInt u1_)] [] l_Sums_67 (u_Sums_numberAt l d_ Mz (hf.w hW) a0_ ha0_a ha0_b u1_ hu1_a hu1_b (show 0 ≤ a0_ by first | with_reducible assumption | assumption | omega) (show a0_ ≤ 39 by first | with_reducible assumption | assumption | omega) (show 0 ≤ u1_ by first | with_reducible assumption | assumption | omega) (show u1_ ≤ 26 by first | with_reducible assumption | (exact zo_2229 hF27_ hFc_ hc_10 i3_) | assumption)) rfl rfl ((hf.w hW).kr (o := 23) (by decide)) (by decide) (by decide) (Nat.le_of_ble_eq_true rfl) (zdal_p dlA_Sums_isInBounds_144 (i := 10) rfl) ?_
        rintro _ N5_ ⟨v6_, rfl, ⟨hv6_a, hv6_b⟩, hsN5_, hp0_N5_⟩
        obtain rfl := hsN5_.eq.symm
        replace hp0_N5_ : v6_ = zg Mz (d_ + 25) (a0_ * 27 + u1_).toNat := hp0_N5_
        show zW l m_Sums_isInBounds (zn Mz + 0, zw Mz + 0) Mz 19 [some (.ref (d_ + 23)), some (.int (Int32.ofInt a0_)), some (.int (Int32.ofInt u1_))] [.long (Int64.ofInt v6_)] _
        have hb_ := p3_ (u1_).toNat (by (exact zo_2205 hFc_ hc_10 i2_ i3_))
        have hx_ := zvc_at (F := F_) (k := (u1_).toNat) (s := a0_) (by (exact zo_2205 hFc_ hc_10 i2_ i3_)) (by (exact p1_)) hp0_N5_ (by (exact zo_2206 i2_ p1_))
        refine zk_absJ (pc := 19) x_Sums_74 (by decide) (Nat.le_of_ble_eq_true rfl) (zdal_p dlA_Sums_isInBounds_144 (i := 11) rfl) ⟨hv6_a, hv6_b⟩ (fun v7_ hv7_ => ?_)
        refine zr_ldc2 (pc := 22) (n := 1000000000000) (by decide) k_Sums_80 (zdal_p dlA_Sums_isInBounds_144 (i := 12) rfl) ?_
        refine zr_lcmp (pc := 25) ⟨(by (exact zo_2230 hv7_)), (by omega)⟩ ⟨(by decide), (by decide)⟩ (zdal_p dlA_Sums_isInBounds_144 (i := 13) rfl) ?_
        have hr8_ := zcmp_s v7_ 1000000000000
        refine zr_if_gt (pc := 26) (tgt := 45) ⟨(by omega), (by omega)⟩ (by decide) (zdal_p dlA_Sums_isInBounds_144 (i := 14) rfl) (fun hc_26 => ?_) (fun hc_26 => ?_)
        · skip
          refine zw_iconst (pc := 45) (v := Int32.ofInt 0) (by decide) (zdal_p dlA_Sums_isInBounds_144 (i := 23) rfl) ?_
          exact zk_iret (pc := 46) (ty := .boolean) rfl (z_narB (by (decide))) ⟨by (decide), by (decide)⟩ hf (show ((0 = 1 ∧ zfit F_ K_ (zvc F_ d_ Mz a0_)) ∨ (0 = 0 ∧ ¬ zfit F_ K_ (zvc F_ d_ Mz a0_))) from Or.inr (⟨(show 0 = 0 by first | rfl | (intro hq; have hq1 := hq (u1_).toNat (by omega); unfold zLim at hq1; omega)), (show ¬ zfit F_ K_ (zvc F_ d_ Mz a0_) by first | rfl | (intro hq; have hq1 := hq (u1_).toNat (by (exact zo_2205 hFc_ hc_10 i2_ i3_)); unfold zLim at hq1; omega))⟩)) (zdal_p dlA_Sums_isInBounds_145 (i := 0) rfl)
        · skip
          refine zw_aload_n (pc := 29) (n := 0) (x := (d_ + 23)) rfl (zdal_p dlA_Sums_isInBounds_144 (i := 15) rfl) ?_
          refine zw_iload_n (pc := 30) (n := 1) (x := Int32.ofInt a0_) rfl (zdal_p dlA_Sums_isInBounds_144 (i := 16) rfl) ?_
          refine zw_iload_n (pc := 31) (n := 2) (x := Int32.ofInt u1_) rfl (zdal_p dlA_Sums_isInBounds_144 (i := 17) rfl) ?_
          refine zk_callV hf.x (pc := 32) [.int (Int32.ofInt a0_), .int (Int32.ofInt u1_)] [] l_Sums_50 (u_Sums_markOf l d_ Mz (hf.w hW) a0_ ha0_a ha0_b u1_ hu1_a hu1_b F_ K_ hA_ p0_ (show 0 ≤ a0_ by first | with_reducible assumption | assumption | omega) (show a0_ ≤ 39 by first | with_reducible assumption | assumption | omega) (show 0 ≤ u1_ by first | with_reducible assumption | assumption | omega) (show u1_ < F_ by first | with_reducible assumption | (exact zo_2209 hFc_ hc_10 i3_) | assumption)) rfl rfl ((hf.w hW).kr (o := 23) (by decide)) (by decide) (by decide) (Nat.le_of_ble_eq_true rfl) (zdal_p dlA_Sums_isInBounds_144 (i := 18) rfl) ?_
          rintro _ N9_ ⟨v10_, rfl, ⟨hv10_a, hv10_b⟩, hsN9_, hp0_N9_⟩
          obtain rfl := hsN9_.eq.symm
          replace hp0_N9_ : Int64.ofInt v10_ = Int64.ofInt (zmq F_ K_ (zvc F_ d_ Mz a0_) (u1_).toNat) := hp0_N9_
          show zW l m_Sums_isInBounds (zn Mz + 0, zw Mz + 0) Mz 35 [some (.ref (d_ + 23)), some (.int (Int32.ofInt a0_)), some (.int (Int32.ofInt u1_))] [.long (Int64.ofInt v10_)] _
          have hy_ := z64q ⟨by (exact hv10_a), by (exact hv10_b)⟩ ⟨by omega, by omega⟩ hp0_N9_
          refine zk_absJ (pc := 35) x_Sums_74 (by decide) (Nat.le_of_ble_eq_true rfl) (zdal_p dlA_Sums_isInBounds_144 (i := 19) rfl) ⟨hv10_a, hv10_b⟩ (fun v11_ hv11_ => ?_)
          refine zr_ldc2 (pc := 38) (n := 1000000000000) (by decide) k_Sums_80 (zdal_p dlA_Sums_isInBounds_144 (i := 20) rfl) ?_
          refine zr_lcmp (pc := 41) ⟨(by (exact zo_2230 hv11_)), (by omega)⟩ ⟨(by decide), (by decide)⟩ (zdal_p dlA_Sums_isInBounds_144 (i := 21) rfl) ?_
          have hr12_ := zcmp_s v11_ 1000000000000
          refine zr_if_le (pc := 42) (tgt := 47) ⟨(by omega), (by omega)⟩ (by decide) (zdal_p dlA_Sums_isInBounds_144 (i := 22) rfl) (fun hc_42 => ?_) (fun hc_42 => ?_)
          · skip
            have hn_ := zft_s (show zft F_ K_ (zvc F_ d_ Mz a0_) u1_ by first | with_reducible assumption | assumption) (by (exact i2_)) (by unfold zLim; omega)
            refine zr_iinc (pc := 47) (i := 2) (a := u1_) (n := 1) (L2 := [some (.ref (d_ + 23)), some (.int (Int32.ofInt a0_)), some (.int (Int32.ofInt (u1_ + 1)))]) rfl (by decide) rfl (zdal_p dlA_Sums_isInBounds_145 (i := 1) rfl) ?_
            refine zw_goto (pc := 50) (tgt := 2) (by decide) (zdal_p dlA_Sums_isInBounds_145 (i := 2) rfl) ?_
            exact ih_2 (u1_ + 1) (by (exact zo_74 i2_)) (by (exact zo_75 hF27_ hu1_b i3_)) (show 0 ≤ (u1_ + 1) by first | with_reducible assumption | (exact zo_76 i2_) | assumption) (show (u1_ + 1) ≤ F_ by first | with_reducible assumption | (exact zo_2203 hFc_ hc_10 i3_) | assumption) (show zft F_ K_ (zvc F_ d_ Mz a0_) (u1_ + 1) by exact hn_) (by (exact zo_147 hc_10 hlt_2))
          · skip
            refine zw_iconst (pc := 45) (v := Int32.ofInt 0) (by decide) (zdal_p dlA_Sums_isInBounds_144 (i := 23) rfl) ?_
            exact zk_iret (pc := 46) (ty := .boolean) rfl (z_narB (by (decide))) ⟨by (decide), by (decide)⟩ hf (show ((0 = 1 ∧ zfit F_ K_ (zvc F_ d_ Mz a0_)) ∨ (0 = 0 ∧ ¬ zfit F_ K_ (zvc F_ d_ Mz a0_))) from Or.inr (⟨(show 0 = 0 by first | rfl | (intro hq; have hq1 := hq (u1_).toNat (by omega); unfold zLim at hq1; omega)), (show ¬ zfit F_ K_ (zvc F_ d_ Mz a0_) by first | rfl | (intro hq; have hq1 := hq (u1_).toNat (by (exact zo_2205 hFc_ hc_10 i2_ i3_)); unfold zLim at hq1; omega))⟩)) (zdal_p dlA_Sums_isInBounds_145 (i := 0) rfl)
  exact lp_2 _ 0 (by decide) (by decide) (show 0 ≤ (0 : Int) by first | with_reducible assumption | (decide) | assumption) (show (0 : Int) ≤ F_ by first | with_reducible assumption | (exact zo_85) | assumption) (show zft F_ K_ (zvc F_ d_ Mz a0_) (0 : Int) by exact zft_0) (Nat.lt_succ_self _)
set_option maxHeartbeats 4000000 in
theorem u_Sums_putNegative (l : Launch) (d_ : Nat) (Mz : zMem) (hW : zKW d_ Mz) (a0_ : Int) (ha0_a : -2147483648 ≤ a0_) (ha0_b : a0_ < 2147483648) (F_ : Nat) (K_ : Nat → Nat → Int) (hA_ : zTA F_ K_) (p0_ : zKm F_ K_ d_ Mz) (p1_ : 0 ≤ a0_) (p2_ : a0_ ≤ 39) (p3_ : zfit F_ K_ (zvc F_ d_ Mz a0_)) : zC l m_Sums_putNegative 0 0 [.ref (d_ + 23), .int (Int32.ofInt a0_)] Mz (zqcV d_ [] [] [] [25] Mz (fun N => zSh F_ d_ Mz N a0_ (fun k => -(zvc F_ d_ Mz a0_) k))) := by
  refine zC_of (L0 := [some (.ref (d_ + 23)), some (.int (Int32.ofInt a0_)), none]) md_Sums_putNegative (Nat.le_of_ble_eq_true rfl) rfl ?_ zQ0
  have hf : zFc d_ [] [] [] [25] Mz Mz := zFc.rf
  have r_D12_7 := ze_r Mz (d_ + 12) 7
  obtain ⟨⟨hF1_, hF27_⟩, hAr_⟩ := id hA_
  obtain ⟨hFc_, hKt_⟩ := id p0_
  refine zw_iconst (pc := 0) (v := Int32.ofInt 0) (by decide) (zdal_p dlA_Sums_putNegative_151 (i := 0) rfl) ?_
  refine zw_istore_n (pc := 1) (i := 2) (L2 := [some (.ref (d_ + 23)), some (.int (Int32.ofInt a0_)), some (.int (Int32.ofInt 0))]) rfl (by decide) rfl (zdal_p dlA_Sums_putNegative_151 (i := 1) rfl) ?_
  have lp_2 : ∀ (n : Nat) (u1_ : Int) (hu1_a : -2147483648 ≤ u1_) (hu1_b : u1_ < 2147483648) (N2_ : zMem) (hs3_ : zFc d_ [] [] [] [25] Mz N2_) (i4_ : 0 ≤ u1_) (i5_ : u1_ ≤ F_) (i6_ : zSh u1_ d_ Mz N2_ a0_ (fun k => -(zvc F_ d_ Mz a0_) k)), (ze Mz (d_ + 12) 7 - u1_).toNat < n → zW l m_Sums_putNegative (zn Mz + 0, zw Mz + 0) N2_ 2 [some (.ref (d_ + 23)), some (.int (Int32.ofInt a0_)), some (.int (Int32.ofInt u1_))] [] (zqcV d_ [] [] [] [25] Mz (fun N => zSh F_ d_ Mz N a0_ (fun k => -(zvc F_ d_ Mz a0_) k))) := by
    intro n
    induction n with
    | zero =>
      intro u1_ hu1_a hu1_b N2_ hs3_ i4_ i5_ i6_ h0
      exact absurd h0 (Nat.not_lt_zero _)
    | succ n ih_2 =>
      intro u1_ hu1_a hu1_b N2_ hs3_ i4_ i5_ i6_ hlt_2
      have hf_N2_ : zFc d_ [] [] [] [25] Mz N2_ := hf.tr hs3_ (by decide) (by decide) (by decide) (by decide)
      have eD12_7_N2_ : ze N2_ (d_ + 12) 7 = ze Mz (d_ + 12) 7 := hs3_.e (by decide)
      refine zw_iload_n (pc := 2) (n := 2) (x := Int32.ofInt u1_) rfl (zdal_p dlA_Sums_putNegative_151 (i := 2) rfl) ?_
      refine zw_aload_n (pc := 3) (n := 0) (x := (d_ + 23)) rfl (zdal_p dlA_Sums_putNegative_151 (i := 3) rfl) ?_
      refine zw_getF (pc := 4) f_Sums_23 rfl ((hf_N2_.w hW).kr (o := 23) (by decide)) ((hf_N2_.w hW).lr (o := 23) (s := 0) (r := 12) (by decide)) (zdal_p dlA_Sums_putNegative_151 (i := 4) rfl) ?_
      refine zk_getI (pc := 7) f_Sums_35 rfl ((hf_N2_.w hW).kr (o := 12) (by decide)) (zdal_p dlA_Sums_putNegative_151 (i := 5) rfl) ?_
      rw [hf_N2_.e (by decide)]
      refine zr_icmp_ge (pc := 10) (tgt := 32) ⟨hu1_a, hu1_b⟩ ⟨(ze_r Mz (d_ + 12) 7).1, (ze_r Mz (d_ + 12) 7).2⟩ (by decide) (zdal_p dlA_Sums_putNegative_151 (i := 6) rfl) (fun hc_10 => ?_) (fun hc_10 => ?_)
      · skip
        exact zk_vret (pc := 32) rfl hf_N2_ (show zSh F_ d_ Mz N2_ a0_ (fun k => -(zvc F_ d_ Mz a0_) k) by rw [show (F_ : Int) = u1_ by (exact zo_2200 hF27_ hFc_ hc_10 hu1_b i4_ i5_ r_D12_7.2)]; assumption) (zdal_p dlA_Sums_putNegative_151 (i := 18) rfl)
      · skip
        refine zw_aload_n (pc := 13) (n := 0) (x := (d_ + 23)) rfl (zdal_p dlA_Sums_putNegative_151 (i := 7) rfl) ?_
        refine zw_iload_n (pc := 14) (n := 1) (x := Int32.ofInt a0_) rfl (zdal_p dlA_Sums_putNegative_151 (i := 8) rfl) ?_
        refine zw_iload_n (pc := 15) (n := 2) (x := Int32.ofInt u1_) rfl (zdal_p dlA_Sums_putNegative_151 (i := 9) rfl) ?_
        refine zw_aload_n (pc := 16) (n := 0) (x := (d_ + 23)) rfl (zdal_p dlA_Sums_putNegative_151 (i := 10) rfl) ?_
        refine zw_iload_n (pc := 17) (n := 1) (x := Int32.ofInt a0_) rfl (zdal_p dlA_Sums_putNegative_151 (i := 11) rfl) ?_
        refine zw_iload_n (pc := 18) (n := 2) (x := Int32.ofInt u1_) rfl (zdal_p dlA_Sums_putNegative_151 (i := 12) rfl) ?_
        refine zk_callV hf_N2_.x (pc := 19) [.int (Int32.ofInt a0_), .int (Int32.ofInt u1_)] [.int (Int32.ofInt u1_), .int (Int32.ofInt a0_), .ref (d_ + 23)] l_Sums_67 (u_Sums_numberAt l d_ N2_ (hf_N2_.w hW) a0_ ha0_a ha0_b u1_ hu1_a hu1_b (show 0 ≤ a0_ by first | with_reducible assumption | assumption | omega) (show a0_ ≤ 39 by first | with_reducible assumption | assumption | omega) (show 0 ≤ u1_ by first | with_reducible assumption | assumption | omega) (show u1_ ≤ 26 by first | with_reducible assumption | (exact zo_2229 hF27_ hFc_ hc_10 i5_) | assumption)) rfl rfl ((hf_N2_.w hW).kr (o := 23) (by decide)) (by decide) (by decide) (Nat.le_of_ble_eq_true rfl) (zdal_p dlA_Sums_putNegative_151 (i := 13) rfl) ?_
        rintro _ N8_ ⟨v9_, rfl, ⟨hv9_a, hv9_b⟩, hsN8_, hp0_N8_⟩
        obtain rfl := hsN8_.eq.symm
        replace hp0_N8_ : v9_ = zg N2_ (d_ + 25) (a0_ * 27 + u1_).toNat := hp0_N8_
        show zW l m_Sums_putNegative (zn Mz + 0, zw Mz + 0) N2_ 22 [some (.ref (d_ + 23)), some (.int (Int32.ofInt a0_)), some (.int (Int32.ofInt u1_))] [.long (Int64.ofInt v9_), .int (Int32.ofInt u1_), .int (Int32.ofInt a0_), .ref (d_ + 23)] _
        have hb_ := (p3_ (u1_).toNat (by (exact zo_2205 hFc_ hc_10 i4_ i5_))).1
        unfold zLim at hb_
        have hx_ := zvc_at (F := F_) (k := (u1_).toNat) (s := a0_) (by (exact zo_2205 hFc_ hc_10 i4_ i5_)) (by (exact p1_)) (zSh_a (show zSh u1_ d_ Mz N2_ a0_ (fun k => -(zvc F_ d_ Mz a0_) k) by first | with_reducible assumption | assumption) hp0_N8_ (by omega)) (by (exact zo_2206 i4_ p1_))
        refine zr_lneg (pc := 22) (zdal_p dlA_Sums_putNegative_151 (i := 14) rfl) ?_
        refine zk_callV hf_N2_.x (pc := 23) [.int (Int32.ofInt a0_), .int (Int32.ofInt u1_), .long (Int64.ofInt (-v9_))] [] l_Sums_70 (u_Sums_putNumber l d_ N2_ (hf_N2_.w hW) a0_ ha0_a ha0_b u1_ hu1_a hu1_b (-v9_) (by (exact zo_84 hv9_b)) (by omega) (show 0 ≤ a0_ by first | with_reducible assumption | assumption | omega) (show a0_ ≤ 39 by first | with_reducible assumption | assumption | omega) (show 0 ≤ u1_ by first | with_reducible assumption | assumption | omega) (show u1_ ≤ 26 by first | with_reducible assumption | (exact zo_2229 hF27_ hFc_ hc_10 i5_) | assumption)) rfl rfl ((hf_N2_.w hW).kr (o := 23) (by decide)) (by decide) (by decide) (Nat.le_of_ble_eq_true rfl) (zdal_p dlA_Sums_putNegative_151 (i := 15) rfl) ?_
        rintro _ N10_ ⟨rfl, hsN10_, hp0_N10_⟩
        replace hp0_N10_ : zS1 d_ N2_ N10_ (a0_ * 27 + u1_) (-v9_) := hp0_N10_
        have hf_N10_ : zFc d_ [] [] [] [25] Mz N10_ := hf_N2_.tr hsN10_ (by decide) (by decide) (by decide) (by decide)
        have hb0_N10_ : zFc d_ [] [] [] [25] Mz N10_ := hs3_.tr hsN10_ (by decide) (by decide) (by decide) (by decide)
        show zW l m_Sums_putNegative (zn Mz + 0, zw Mz + 0) N10_ 26 [some (.ref (d_ + 23)), some (.int (Int32.ofInt a0_)), some (.int (Int32.ofInt u1_))] [] _
        have hs1_ := zSh_s (show zSh u1_ d_ Mz N2_ a0_ (fun k => -(zvc F_ d_ Mz a0_) k) by first | with_reducible assumption | assumption) hp0_N10_ rfl (by (exact i4_)) (by show _ = -_; rw [hx_])
        refine zr_iinc (pc := 26) (i := 2) (a := u1_) (n := 1) (L2 := [some (.ref (d_ + 23)), some (.int (Int32.ofInt a0_)), some (.int (Int32.ofInt (u1_ + 1)))]) rfl (by decide) rfl (zdal_p dlA_Sums_putNegative_151 (i := 16) rfl) ?_
        refine zw_goto (pc := 29) (tgt := 2) (by decide) (zdal_p dlA_Sums_putNegative_151 (i := 17) rfl) ?_
        exact ih_2 (u1_ + 1) (by (exact zo_74 i4_)) (by (exact zo_75 hF27_ hu1_b i5_)) N10_ hb0_N10_ (show 0 ≤ (u1_ + 1) by first | with_reducible assumption | (exact zo_76 i4_) | assumption) (show (u1_ + 1) ≤ F_ by first | with_reducible assumption | (exact zo_2203 hFc_ hc_10 i5_) | assumption) (show zSh (u1_ + 1) d_ Mz N10_ a0_ (fun k => -(zvc F_ d_ Mz a0_) k) by exact hs1_) (by (exact zo_147 hc_10 hlt_2))
  exact lp_2 _ 0 (by decide) (by decide) Mz zFc.rf (show 0 ≤ (0 : Int) by first | with_reducible assumption | (decide) | assumption) (show (0 : Int) ≤ F_ by first | with_reducible assumption | (exact zo_85) | assumption) (show zSh (0 : Int) d_ Mz Mz a0_ (fun k => -(zvc F_ d_ Mz a0_) k) by exact zSh_0) (Nat.lt_succ_self _)
set_option maxHeartbeats 4000000 in
theorem u_Sums_add (l : Launch) (d_ : Nat) (Mz : zMem) (hW : zKW d_ Mz) (a0_ : Int) (ha0_a : -2147483648 ≤ a0_) (ha0_b : a0_ < 2147483648) (a1_ : Int) (ha1_a : -2147483648 ≤ a1_) (ha1_b : a1_ < 2147483648) (a2_ : Int) (ha2_a : -2147483648 ≤ a2_) (ha2_b : a2_ < 2147483648) (F_ : Nat) (K_ : Nat → Nat → Int) (hA_ : zTA F_ K_) (p0_ : zKm F_ K_ d_ Mz) (p1_ : 0 ≤ a0_) (p2_ : a0_ ≤ 39) (p3_ : 0 ≤ a1_) (p4_ : a1_ ≤ 39) (p5_ : a0_ ≠ a1_) (p6_ : (a2_ = 1 ∨ a2_ = -1)) (p7_ : zfit F_ K_ (zvc F_ d_ Mz a0_)) (p8_ : zfit F_ K_ (zvc F_ d_ Mz a1_)) : zC l m_Sums_add 0 0 [.ref (d_ + 23), .int (Int32.ofInt a0_), .int (Int32.ofInt a1_), .int (Int32.ofInt a2_)] Mz (zqcV d_ [] [] [] [25] Mz (fun N => zSh F_ d_ Mz N a0_ (fun k => (zvc F_ d_ Mz a0_) k + a2_ * (zvc F_ d_ Mz a1_) k))) := by
  refine zC_of (L0 := [some (.ref (d_ + 23)), some (.int (Int32.ofInt a0_)), some (.int (Int32.ofInt a1_)), some (.int (Int32.ofInt a2_)), none]) md_Sums_add (Nat.le_of_ble_eq_true rfl) rfl ?_ zQ0
  have hf : zFc d_ [] [] [] [25] Mz Mz := zFc.rf
  have r_D12_7 := ze_r Mz (d_ + 12) 7
  obtain ⟨⟨hF1_, hF27_⟩, hAr_⟩ := id hA_
  obtain ⟨hFc_, hKt_⟩ := id p0_
  refine zw_iconst (pc := 0) (v := Int32.ofInt 0) (by decide) (zdal_p dlA_Sums_add_157 (i := 0) rfl) ?_
  refine zw_istore (pc := 1) (i := 4) (L2 := [some (.ref (d_ + 23)), some (.int (Int32.ofInt a0_)), some (.int (Int32.ofInt a1_)), some (.int (Int32.ofInt a2_)), some (.int (Int32.ofInt 0))]) (by decide) rfl (zdal_p dlA_Sums_add_157 (i := 1) rfl) ?_
  have lp_3 : ∀ (n : Nat) (u1_ : Int) (hu1_a : -2147483648 ≤ u1_) (hu1_b : u1_ < 2147483648) (N2_ : zMem) (hs3_ : zFc d_ [] [] [] [25] Mz N2_) (i4_ : 0 ≤ u1_) (i5_ : u1_ ≤ F_) (i6_ : zSh u1_ d_ Mz N2_ a0_ (fun k => (zvc F_ d_ Mz a0_) k + a2_ * (zvc F_ d_ Mz a1_) k)), (ze Mz (d_ + 12) 7 - u1_).toNat < n → zW l m_Sums_add (zn Mz + 0, zw Mz + 0) N2_ 3 [some (.ref (d_ + 23)), some (.int (Int32.ofInt a0_)), some (.int (Int32.ofInt a1_)), some (.int (Int32.ofInt a2_)), some (.int (Int32.ofInt u1_))] [] (zqcV d_ [] [] [] [25] Mz (fun N => zSh F_ d_ Mz N a0_ (fun k => (zvc F_ d_ Mz a0_) k + a2_ * (zvc F_ d_ Mz a1_) k))) := by
    intro n
    induction n with
    | zero =>
      intro u1_ hu1_a hu1_b N2_ hs3_ i4_ i5_ i6_ h0
      exact absurd h0 (Nat.not_lt_zero _)
    | succ n ih_3 =>
      intro u1_ hu1_a hu1_b N2_ hs3_ i4_ i5_ i6_ hlt_3
      have hf_N2_ : zFc d_ [] [] [] [25] Mz N2_ := hf.tr hs3_ (by decide) (by decide) (by decide) (by decide)
      have eD12_7_N2_ : ze N2_ (d_ + 12) 7 = ze Mz (d_ + 12) 7 := hs3_.e (by decide)
      refine zw_iload (pc := 3) (i := 4) (x := Int32.ofInt u1_) rfl (zdal_p dlA_Sums_add_157 (i := 2) rfl) ?_
      refine zw_aload_n (pc := 5) (n := 0) (x := (d_ + 23)) rfl (zdal_p dlA_Sums_add_157 (i := 3) rfl) ?_
      refine zw_getF (pc := 6) f_Sums_23 rfl ((hf_N2_.w hW).kr (o := 23) (by decide)) ((hf_N2_.w hW).lr (o := 23) (s := 0) (r := 12) (by decide)) (zdal_p dlA_Sums_add_157 (i := 4) rfl) ?_
      refine zk_getI (pc := 9) f_Sums_35 rfl ((hf_N2_.w hW).kr (o := 12) (by decide)) (zdal_p dlA_Sums_add_157 (i := 5) rfl) ?_
      rw [hf_N2_.e (by decide)]
      refine zr_icmp_ge (pc := 12) (tgt := 46) ⟨hu1_a, hu1_b⟩ ⟨(ze_r Mz (d_ + 12) 7).1, (ze_r Mz (d_ + 12) 7).2⟩ (by decide) (zdal_p dlA_Sums_add_157 (i := 6) rfl) (fun hc_12 => ?_) (fun hc_12 => ?_)
      · skip
        exact zk_vret (pc := 46) rfl hf_N2_ (show zSh F_ d_ Mz N2_ a0_ (fun k => (zvc F_ d_ Mz a0_) k + a2_ * (zvc F_ d_ Mz a1_) k) by rw [show (F_ : Int) = u1_ by (exact zo_2200 hF27_ hFc_ hc_12 hu1_b i4_ i5_ r_D12_7.2)]; assumption) (zdal_p dlA_Sums_add_158 (i := 1) rfl)
      · skip
        refine zw_aload_n (pc := 15) (n := 0) (x := (d_ + 23)) rfl (zdal_p dlA_Sums_add_157 (i := 7) rfl) ?_
        refine zw_iload_n (pc := 16) (n := 1) (x := Int32.ofInt a0_) rfl (zdal_p dlA_Sums_add_157 (i := 8) rfl) ?_
        refine zw_iload (pc := 17) (i := 4) (x := Int32.ofInt u1_) rfl (zdal_p dlA_Sums_add_157 (i := 9) rfl) ?_
        refine zw_aload_n (pc := 19) (n := 0) (x := (d_ + 23)) rfl (zdal_p dlA_Sums_add_157 (i := 10) rfl) ?_
        refine zw_iload_n (pc := 20) (n := 1) (x := Int32.ofInt a0_) rfl (zdal_p dlA_Sums_add_157 (i := 11) rfl) ?_
        refine zw_iload (pc := 21) (i := 4) (x := Int32.ofInt u1_) rfl (zdal_p dlA_Sums_add_157 (i := 12) rfl) ?_
        refine zk_callV hf_N2_.x (pc := 23) [.int (Int32.ofInt a0_), .int (Int32.ofInt u1_)] [.int (Int32.ofInt u1_), .int (Int32.ofInt a0_), .ref (d_ + 23)] l_Sums_67 (u_Sums_numberAt l d_ N2_ (hf_N2_.w hW) a0_ ha0_a ha0_b u1_ hu1_a hu1_b (show 0 ≤ a0_ by first | with_reducible assumption | assumption | omega) (show a0_ ≤ 39 by first | with_reducible assumption | assumption | omega) (show 0 ≤ u1_ by first | with_reducible assumption | assumption | omega) (show u1_ ≤ 26 by first | with_reducible assumption | (exact zo_2229 hF27_ hFc_ hc_12 i5_) | assumption)) rfl rfl ((hf_N2_.w hW).kr (o := 23) (by decide)) (by decide) (by decide) (Nat.le_of_ble_eq_true rfl) (zdal_p dlA_Sums_add_157 (i := 13) rfl) ?_
        rintro _ N8_ ⟨v9_, rfl, ⟨hv9_a, hv9_b⟩, hsN8_, hp0_N8_⟩
        obtain rfl := hsN8_.eq.symm
        replace hp0_N8_ : v9_ = zg N2_ (d_ + 25) (a0_ * 27 + u1_).toNat := hp0_N8_
        show zW l m_Sums_add (zn Mz + 0, zw Mz + 0) N2_ 26 [some (.ref (d_ + 23)), some (.int (Int32.ofInt a0_)), some (.int (Int32.ofInt a1_)), some (.int (Int32.ofInt a2_)), some (.int (Int32.ofInt u1_))] [.long (Int64.ofInt v9_), .int (Int32.ofInt u1_), .int (Int32.ofInt a0_), .ref (d_ + 23)] _
        have hb_ := (p7_ (u1_).toNat (by (exact zo_2205 hFc_ hc_12 i4_ i5_))).1
        have hc_ := (p8_ (u1_).toNat (by (exact zo_2205 hFc_ hc_12 i4_ i5_))).1
        unfold zLim at hb_ hc_
        have hx_ := zvc_at (F := F_) (k := (u1_).toNat) (s := a0_) (by (exact zo_2205 hFc_ hc_12 i4_ i5_)) (by (exact p1_)) (zSh_a (show zSh u1_ d_ Mz N2_ a0_ (fun k => (zvc F_ d_ Mz a0_) k + a2_ * (zvc F_ d_ Mz a1_) k) by first | with_reducible assumption | assumption) hp0_N8_ (by omega)) (by (exact zo_2206 i4_ p1_))
        refine zw_iload_n (pc := 26) (n := 3) (x := Int32.ofInt a2_) rfl (zdal_p dlA_Sums_add_157 (i := 14) rfl) ?_
        refine zr_i2l (pc := 27) ⟨ha2_a, ha2_b⟩ (zdal_p dlA_Sums_add_157 (i := 15) rfl) ?_
        refine zw_aload_n (pc := 28) (n := 0) (x := (d_ + 23)) rfl (zdal_p dlA_Sums_add_157 (i := 16) rfl) ?_
        refine zw_iload_n (pc := 29) (n := 2) (x := Int32.ofInt a1_) rfl (zdal_p dlA_Sums_add_157 (i := 17) rfl) ?_
        refine zw_iload (pc := 30) (i := 4) (x := Int32.ofInt u1_) rfl (zdal_p dlA_Sums_add_157 (i := 18) rfl) ?_
        refine zk_callV hf_N2_.x (pc := 32) [.int (Int32.ofInt a1_), .int (Int32.ofInt u1_)] [.long (Int64.ofInt a2_), .long (Int64.ofInt v9_), .int (Int32.ofInt u1_), .int (Int32.ofInt a0_), .ref (d_ + 23)] l_Sums_67 (u_Sums_numberAt l d_ N2_ (hf_N2_.w hW) a1_ ha1_a ha1_b u1_ hu1_a hu1_b (show 0 ≤ a1_ by first | with_reducible assumption | assumption | omega) (show a1_ ≤ 39 by first | with_reducible assumption | assumption | omega) (show 0 ≤ u1_ by first | with_reducible assumption | assumption | omega) (show u1_ ≤ 26 by first | with_reducible assumption | (exact zo_2229 hF27_ hFc_ hc_12 i5_) | assumption)) rfl rfl ((hf_N2_.w hW).kr (o := 23) (by decide)) (by decide) (by decide) (Nat.le_of_ble_eq_true rfl) (zdal_p dlA_Sums_add_157 (i := 19) rfl) ?_
        rintro _ N10_ ⟨v11_, rfl, ⟨hv11_a, hv11_b⟩, hsN10_, hp0_N10_⟩
        obtain rfl := hsN10_.eq.symm
        replace hp0_N10_ : v11_ = zg N2_ (d_ + 25) (a1_ * 27 + u1_).toNat := hp0_N10_
        show zW l m_Sums_add (zn Mz + 0, zw Mz + 0) N2_ 35 [some (.ref (d_ + 23)), some (.int (Int32.ofInt a0_)), some (.int (Int32.ofInt a1_)), some (.int (Int32.ofInt a2_)), some (.int (Int32.ofInt u1_))] [.long (Int64.ofInt v11_), .long (Int64.ofInt a2_), .long (Int64.ofInt v9_), .int (Int32.ofInt u1_), .int (Int32.ofInt a0_), .ref (d_ + 23)] _
        have hy_ := zvc_at (F := F_) (k := (u1_).toNat) (s := a1_) (by (exact zo_2205 hFc_ hc_12 i4_ i5_)) (by (exact p3_)) (zSh_a (show zSh u1_ d_ Mz N2_ a0_ (fun k => (zvc F_ d_ Mz a0_) k + a2_ * (zvc F_ d_ Mz a1_) k) by first | with_reducible assumption | assumption) hp0_N10_ (by omega)) (by (exact zo_2206 i4_ p3_))
        refine zr_lmul (pc := 35) (zdal_p dlA_Sums_add_157 (i := 20) rfl) ?_
        have hmu_ : (a2_ * v11_) = zvc F_ d_ Mz a1_ (u1_).toNat ∨ (a2_ * v11_) = -zvc F_ d_ Mz a1_ (u1_).toNat := by rw [hy_]; rcases p6_ with h_ | h_ <;> rw [h_] <;> omega
        refine zr_ladd (pc := 36) (zdal_p dlA_Sums_add_157 (i := 21) rfl) ?_
        refine zk_callV hf_N2_.x (pc := 37) [.int (Int32.ofInt a0_), .int (Int32.ofInt u1_), .long (Int64.ofInt (v9_ + (a2_ * v11_)))] [] l_Sums_70 (u_Sums_putNumber l d_ N2_ (hf_N2_.w hW) a0_ ha0_a ha0_b u1_ hu1_a hu1_b (v9_ + (a2_ * v11_)) (by omega) (by omega) (show 0 ≤ a0_ by first | with_reducible assumption | assumption | omega) (show a0_ ≤ 39 by first | with_reducible assumption | assumption | omega) (show 0 ≤ u1_ by first | with_reducible assumption | assumption | omega) (show u1_ ≤ 26 by first | with_reducible assumption | (exact zo_2229 hF27_ hFc_ hc_12 i5_) | assumption)) rfl rfl ((hf_N2_.w hW).kr (o := 23) (by decide)) (by decide) (by decide) (Nat.le_of_ble_eq_true rfl) (zdal_p dlA_Sums_add_157 (i := 22) rfl) ?_
        rintro _ N12_ ⟨rfl, hsN12_, hp0_N12_⟩
        replace hp0_N12_ : zS1 d_ N2_ N12_ (a0_ * 27 + u1_) (v9_ + (a2_ * v11_)) := hp0_N12_
        have hf_N12_ : zFc d_ [] [] [] [25] Mz N12_ := hf_N2_.tr hsN12_ (by decide) (by decide) (by decide) (by decide)
        have hb0_N12_ : zFc d_ [] [] [] [25] Mz N12_ := hs3_.tr hsN12_ (by decide) (by decide) (by decide) (by decide)
        show zW l m_Sums_add (zn Mz + 0, zw Mz + 0) N12_ 40 [some (.ref (d_ + 23)), some (.int (Int32.ofInt a0_)), some (.int (Int32.ofInt a1_)), some (.int (Int32.ofInt a2_)), some (.int (Int32.ofInt u1_))] [] _
        have hs1_ := zSh_s (show zSh u1_ d_ Mz N2_ a0_ (fun k => (zvc F_ d_ Mz a0_) k + a2_ * (zvc F_ d_ Mz a1_) k) by first | with_reducible assumption | assumption) hp0_N12_ rfl (by (exact i4_)) (by show _ = _ + _ * _; rw [hx_, hy_])
        refine zr_iinc (pc := 40) (i := 4) (a := u1_) (n := 1) (L2 := [some (.ref (d_ + 23)), some (.int (Int32.ofInt a0_)), some (.int (Int32.ofInt a1_)), some (.int (Int32.ofInt a2_)), some (.int (Int32.ofInt (u1_ + 1)))]) rfl (by decide) rfl (zdal_p dlA_Sums_add_157 (i := 23) rfl) ?_
        refine zw_goto (pc := 43) (tgt := 3) (by decide) (zdal_p dlA_Sums_add_158 (i := 0) rfl) ?_
        exact ih_3 (u1_ + 1) (by (exact zo_74 i4_)) (by (exact zo_75 hF27_ hu1_b i5_)) N12_ hb0_N12_ (show 0 ≤ (u1_ + 1) by first | with_reducible assumption | (exact zo_76 i4_) | assumption) (show (u1_ + 1) ≤ F_ by first | with_reducible assumption | (exact zo_2203 hFc_ hc_12 i5_) | assumption) (show zSh (u1_ + 1) d_ Mz N12_ a0_ (fun k => (zvc F_ d_ Mz a0_) k + a2_ * (zvc F_ d_ Mz a1_) k) by exact hs1_) (by (exact zo_147 hc_12 hlt_3))
  exact lp_3 _ 0 (by decide) (by decide) Mz zFc.rf (show 0 ≤ (0 : Int) by first | with_reducible assumption | (decide) | assumption) (show (0 : Int) ≤ F_ by first | with_reducible assumption | (exact zo_85) | assumption) (show zSh (0 : Int) d_ Mz Mz a0_ (fun k => (zvc F_ d_ Mz a0_) k + a2_ * (zvc F_ d_ Mz a1_) k) by exact zSh_0) (Nat.lt_succ_self _)
set_option maxHeartbeats 4000000 in
theorem u_Sums_multiply (l : Launch) (d_ : Nat) (Mz : zMem) (hW : zKW d_ Mz) (a0_ : Int) (ha0_a : -2147483648 ≤ a0_) (ha0_b : a0_ < 2147483648) (a1_ : Int) (ha1_a : -2147483648 ≤ a1_) (ha1_b : a1_ < 2147483648) (F_ : Nat) (K_ : Nat → Nat → Int) (hA_ : zTA F_ K_) (p0_ : zKm F_ K_ d_ Mz) (p1_ : 0 ≤ a0_) (p2_ : a0_ ≤ 39) (p3_ : 0 ≤ a1_) (p4_ : a1_ ≤ 39) (p5_ : zfit F_ K_ (zvc F_ d_ Mz a0_)) (p6_ : zfit F_ K_ (zvc F_ d_ Mz a1_)) : zC l m_Sums_multiply 0 0 [.ref (d_ + 23), .int (Int32.ofInt a0_), .int (Int32.ofInt a1_)] Mz (zqcI d_ [] [] [] [25, 27] Mz (fun v N => (((v = 1 ∧ zmok F_ K_ (zvc F_ d_ Mz a0_) (zvc F_ d_ Mz a1_) ∧ zSh F_ d_ Mz N a0_ (zprd F_ K_ (zvc F_ d_ Mz a0_) (zvc F_ d_ Mz a1_))) ∨ (v = 0 ∧ ¬ zmok F_ K_ (zvc F_ d_ Mz a0_) (zvc F_ d_ Mz a1_) ∧ (∀ x : Nat, zg N (d_ + 25) x = zg Mz (d_ + 25) x)))))) := by
  refine zC_of (L0 := [some (.ref (d_ + 23)), some (.int (Int32.ofInt a0_)), some (.int (Int32.ofInt a1_)), none, none, none, none, none]) md_Sums_multiply (Nat.le_of_ble_eq_true rfl) rfl ?_ zQ0
  have hf : zFc d_ [] [] [] [25, 27] Mz Mz := zFc.rf
  have r_D12_7 := ze_r Mz (d_ + 12) 7
  obtain ⟨⟨hF1_, hF27_⟩, hAr_⟩ := id hA_
  obtain ⟨hFc_, hKt_⟩ := id p0_
  refine zw_iconst (pc := 0) (v := Int32.ofInt 0) (by decide) (zdal_p dlA_Sums_multiply_136 (i := 0) rfl) ?_
  refine zw_istore_n (pc := 1) (i := 3) (L2 := [some (.ref (d_ + 23)), some (.int (Int32.ofInt a0_)), some (.int (Int32.ofInt a1_)), some (.int (Int32.ofInt 0)), none, none, none, none]) rfl (by decide) rfl (zdal_p dlA_Sums_multiply_136 (i := 1) rfl) ?_
  have lp_2 : ∀ (n : Nat) (u1_ : Int) (hu1_a : -2147483648 ≤ u1_) (hu1_b : u1_ < 2147483648) (N2_ : zMem) (hs3_ : zFc d_ [] [] [] [27] Mz N2_) (i4_ : 0 ≤ u1_) (i5_ : u1_ ≤ F_) (i6_ : zmp F_ K_ d_ N2_ (zvc F_ d_ Mz a0_) (zvc F_ d_ Mz a1_) u1_) (i7_ : (∀ x : Nat, zg N2_ (d_ + 25) x = zg Mz (d_ + 25) x)), (ze Mz (d_ + 12) 7 - u1_).toNat < n → zW l m_Sums_multiply (zn Mz + 0, zw Mz + 0) N2_ 2 [some (.ref (d_ + 23)), some (.int (Int32.ofInt a0_)), some (.int (Int32.ofInt a1_)), some (.int (Int32.ofInt u1_)), none, none, none, none] [] (zqcI d_ [] [] [] [25, 27] Mz (fun v N => (((v = 1 ∧ zmok F_ K_ (zvc F_ d_ Mz a0_) (zvc F_ d_ Mz a1_) ∧ zSh F_ d_ Mz N a0_ (zprd F_ K_ (zvc F_ d_ Mz a0_) (zvc F_ d_ Mz a1_))) ∨ (v = 0 ∧ ¬ zmok F_ K_ (zvc F_ d_ Mz a0_) (zvc F_ d_ Mz a1_) ∧ (∀ x : Nat, zg N (d_ + 25) x = zg Mz (d_ + 25) x)))))) := by
    intro n
    induction n with
    | zero =>
      intro u1_ hu1_a hu1_b N2_ hs3_ i4_ i5_ i6_ i7_ h0
      exact absurd h0 (Nat.not_lt_zero _)
    | succ n ih_2 =>
      intro u1_ hu1_a hu1_b N2_ hs3_ i4_ i5_ i6_ i7_ hlt_2
      have hf_N2_ : zFc d_ [] [] [] [25, 27] Mz N2_ := hf.tr hs3_ (by decide) (by decide) (by decide) (by decide)
      have eD12_7_N2_ : ze N2_ (d_ + 12) 7 = ze Mz (d_ + 12) 7 := hs3_.e (by decide)
      have c8_ : zKm F_ K_ d_ N2_ := zKm.fr (hf.w hW) hs3_ p0_ (by decide)
      refine zw_iload_n (pc := 2) (n := 3) (x := Int32.ofInt u1_) rfl (zdal_p dlA_Sums_multiply_136 (i := 2) rfl) ?_
      refine zw_aload_n (pc := 3) (n := 0) (x := (d_ + 23)) rfl (zdal_p dlA_Sums_multiply_136 (i := 3) rfl) ?_
      refine zw_getF (pc := 4) f_Sums_23 rfl ((hf_N2_.w hW).kr (o := 23) (by decide)) ((hf_N2_.w hW).lr (o := 23) (s := 0) (r := 12) (by decide)) (zdal_p dlA_Sums_multiply_136 (i := 4) rfl) ?_
      refine zk_getI (pc := 7) f_Sums_35 rfl ((hf_N2_.w hW).kr (o := 12) (by decide)) (zdal_p dlA_Sums_multiply_136 (i := 5) rfl) ?_
      rw [hf_N2_.e (by decide)]
      refine zr_icmp_ge (pc := 10) (tgt := 75) ⟨hu1_a, hu1_b⟩ ⟨(ze_r Mz (d_ + 12) 7).1, (ze_r Mz (d_ + 12) 7).2⟩ (by decide) (zdal_p dlA_Sums_multiply_136 (i := 6) rfl) (fun hc_10 => ?_) (fun hc_10 => ?_)
      · skip
        refine zw_aload_n (pc := 75) (n := 0) (x := (d_ + 23)) rfl (zdal_p dlA_Sums_multiply_137 (i := 16) rfl) ?_
        refine zw_iload_n (pc := 76) (n := 1) (x := Int32.ofInt a0_) rfl (zdal_p dlA_Sums_multiply_137 (i := 17) rfl) ?_
        refine zk_callV hf_N2_.x (pc := 77) [.int (Int32.ofInt a0_)] [] l_Sums_58 (u_Sums_solve l d_ N2_ (hf_N2_.w hW) a0_ ha0_a ha0_b F_ K_ hA_ c8_ (show 0 ≤ a0_ by first | with_reducible assumption | assumption | omega) (show a0_ ≤ 39 by first | with_reducible assumption | assumption | omega)) rfl rfl ((hf_N2_.w hW).kr (o := 23) (by decide)) (by decide) (by decide) (Nat.le_of_ble_eq_true rfl) (zdal_p dlA_Sums_multiply_137 (i := 18) rfl) ?_
        rintro _ N9_ ⟨rfl, hsN9_, ⟨hp0_N9_, hp1_N9_⟩⟩
        have hf_N9_ : zFc d_ [] [] [] [25, 27] Mz N9_ := hf_N2_.tr hsN9_ (by decide) (by decide) (by decide) (by decide)
        show zW l m_Sums_multiply (zn Mz + 0, zw Mz + 0) N9_ 80 [some (.ref (d_ + 23)), some (.int (Int32.ofInt a0_)), some (.int (Int32.ofInt a1_)), some (.int (Int32.ofInt u1_)), none, none, none, none] [] _
        have he_ := zmp_e hA_ (show zmp F_ K_ d_ N2_ (zvc F_ d_ Mz a0_) (zvc F_ d_ Mz a1_) u1_ by first | with_reducible assumption | assumption) (by (exact zo_2228 hF27_ hFc_ hc_10 i4_))
        have hsh_ := zSh_p (show (∀ x : Nat, zg N2_ (d_ + 25) x = zg Mz (d_ + 25) x) by first | with_reducible assumption | assumption) (hp0_N9_ _ he_.2)
        refine zw_iconst (pc := 80) (v := Int32.ofInt 1) (by decide) (zdal_p dlA_Sums_multiply_137 (i := 19) rfl) ?_
        exact zk_iret (pc := 81) (ty := .boolean) rfl (z_narB (by (decide))) ⟨by (decide), by (decide)⟩ hf_N9_ (show ((1 = 1 ∧ zmok F_ K_ (zvc F_ d_ Mz a0_) (zvc F_ d_ Mz a1_) ∧ zSh F_ d_ Mz N9_ a0_ (zprd F_ K_ (zvc F_ d_ Mz a0_) (zvc F_ d_ Mz a1_))) ∨ (1 = 0 ∧ ¬ zmok F_ K_ (zvc F_ d_ Mz a0_) (zvc F_ d_ Mz a1_) ∧ (∀ x : Nat, zg N9_ (d_ + 25) x = zg Mz (d_ + 25) x))) from Or.inl (⟨(show 1 = 1 by first | rfl | exact he_.1 | exact hsh_), (show zmok F_ K_ (zvc F_ d_ Mz a0_) (zvc F_ d_ Mz a1_) by first | rfl | exact he_.1 | exact hsh_), (show zSh F_ d_ Mz N9_ a0_ (zprd F_ K_ (zvc F_ d_ Mz a0_) (zvc F_ d_ Mz a1_)) by first | rfl | exact he_.1 | exact hsh_)⟩)) (zdal_p dlA_Sums_multiply_137 (i := 20) rfl)
      · skip
        refine zw_aload_n (pc := 13) (n := 0) (x := (d_ + 23)) rfl (zdal_p dlA_Sums_multiply_136 (i := 7) rfl) ?_
        refine zw_iload_n (pc := 14) (n := 1) (x := Int32.ofInt a0_) rfl (zdal_p dlA_Sums_multiply_136 (i := 8) rfl) ?_
        refine zw_iload_n (pc := 15) (n := 3) (x := Int32.ofInt u1_) rfl (zdal_p dlA_Sums_multiply_136 (i := 9) rfl) ?_
        refine zk_callV hf_N2_.x (pc := 16) [.int (Int32.ofInt a0_), .int (Int32.ofInt u1_)] [] l_Sums_50 (u_Sums_markOf l d_ N2_ (hf_N2_.w hW) a0_ ha0_a ha0_b u1_ hu1_a hu1_b F_ K_ hA_ c8_ (show 0 ≤ a0_ by first | with_reducible assumption | assumption | omega) (show a0_ ≤ 39 by first | with_reducible assumption | assumption | omega) (show 0 ≤ u1_ by first | with_reducible assumption | assumption | omega) (show u1_ < F_ by first | with_reducible assumption | (exact zo_2209 hFc_ hc_10 i5_) | assumption)) rfl rfl ((hf_N2_.w hW).kr (o := 23) (by decide)) (by decide) (by decide) (Nat.le_of_ble_eq_true rfl) (zdal_p dlA_Sums_multiply_136 (i := 10) rfl) ?_
        rintro _ N12_ ⟨v13_, rfl, ⟨hv13_a, hv13_b⟩, hsN12_, hp0_N12_⟩
        obtain rfl := hsN12_.eq.symm
        replace hp0_N12_ : Int64.ofInt v13_ = Int64.ofInt (zmq F_ K_ (zvc F_ d_ N2_ a0_) (u1_).toNat) := hp0_N12_
        show zW l m_Sums_multiply (zn Mz + 0, zw Mz + 0) N2_ 19 [some (.ref (d_ + 23)), some (.int (Int32.ofInt a0_)), some (.int (Int32.ofInt a1_)), some (.int (Int32.ofInt u1_)), none, none, none, none] [.long (Int64.ofInt v13_)] _
        have hv1_ := zvc_r (F := F_) (show (∀ x : Nat, zg N2_ (d_ + 25) x = zg Mz (d_ + 25) x) by first | with_reducible assumption | assumption)
        have hb_ := (p5_ (u1_).toNat (by (exact zo_2205 hFc_ hc_10 i4_ i5_))).2
        have hc_ := (p6_ (u1_).toNat (by (exact zo_2205 hFc_ hc_10 i4_ i5_))).2
        unfold zLim at hb_ hc_
        have hx_ := hp0_N12_
        rw [hv1_] at hx_
        have hx2_ := z64q ⟨by (exact hv13_a), by (exact hv13_b)⟩ ⟨by omega, by omega⟩ hx_
        refine zw_lstore (pc := 19) (i := 4) (L2 := [some (.ref (d_ + 23)), some (.int (Int32.ofInt a0_)), some (.int (Int32.ofInt a1_)), some (.int (Int32.ofInt u1_)), some (.long (Int64.ofInt v13_)), none, none, none]) (by decide) rfl (zdal_p dlA_Sums_multiply_136 (i := 11) rfl) ?_
        refine zw_aload_n (pc := 21) (n := 0) (x := (d_ + 23)) rfl (zdal_p dlA_Sums_multiply_136 (i := 12) rfl) ?_
        refine zw_iload_n (pc := 22) (n := 2) (x := Int32.ofInt a1_) rfl (zdal_p dlA_Sums_multiply_136 (i := 13) rfl) ?_
        refine zw_iload_n (pc := 23) (n := 3) (x := Int32.ofInt u1_) rfl (zdal_p dlA_Sums_multiply_136 (i := 14) rfl) ?_
        refine zk_callV hf_N2_.x (pc := 24) [.int (Int32.ofInt a1_), .int (Int32.ofInt u1_)] [] l_Sums_50 (u_Sums_markOf l d_ N2_ (hf_N2_.w hW) a1_ ha1_a ha1_b u1_ hu1_a hu1_b F_ K_ hA_ c8_ (show 0 ≤ a1_ by first | with_reducible assumption | assumption | omega) (show a1_ ≤ 39 by first | with_reducible assumption | assumption | omega) (show 0 ≤ u1_ by first | with_reducible assumption | assumption | omega) (show u1_ < F_ by first | with_reducible assumption | (exact zo_2209 hFc_ hc_10 i5_) | assumption)) rfl rfl ((hf_N2_.w hW).kr (o := 23) (by decide)) (by decide) (by decide) (Nat.le_of_ble_eq_true rfl) (zdal_p dlA_Sums_multiply_136 (i := 15) rfl) ?_
        rintro _ N14_ ⟨v15_, rfl, ⟨hv15_a, hv15_b⟩, hsN14_, hp0_N14_⟩
        obtain rfl := hsN14_.eq.symm
        replace hp0_N14_ : Int64.ofInt v15_ = Int64.ofInt (zmq F_ K_ (zvc F_ d_ N2_ a1_) (u1_).toNat) := hp0_N14_
        show zW l m_Sums_multiply (zn Mz + 0, zw Mz + 0) N2_ 27 [some (.ref (d_ + 23)), some (.int (Int32.ofInt a0_)), some (.int (Int32.ofInt a1_)), some (.int (Int32.ofInt u1_)), some (.long (Int64.ofInt v13_)), none, none, none] [.long (Int64.ofInt v15_)] _
        have hy_ := hp0_N14_
        rw [hv1_] at hy_
        have hy2_ := z64q ⟨by (exact hv15_a), by (exact hv15_b)⟩ ⟨by omega, by omega⟩ hy_
        refine zw_lstore (pc := 27) (i := 6) (L2 := [some (.ref (d_ + 23)), some (.int (Int32.ofInt a0_)), some (.int (Int32.ofInt a1_)), some (.int (Int32.ofInt u1_)), some (.long (Int64.ofInt v13_)), none, some (.long (Int64.ofInt v15_)), none]) (by decide) rfl (zdal_p dlA_Sums_multiply_136 (i := 16) rfl) ?_
        refine zw_lload (pc := 29) (i := 4) (x := Int64.ofInt v13_) rfl (zdal_p dlA_Sums_multiply_136 (i := 17) rfl) ?_
        refine zw_lconst (pc := 31) (v := Int64.ofInt 0) (by decide) (zdal_p dlA_Sums_multiply_136 (i := 18) rfl) ?_
        refine zr_lcmp (pc := 32) ⟨hv13_a, hv13_b⟩ ⟨(by decide), (by decide)⟩ (zdal_p dlA_Sums_multiply_136 (i := 19) rfl) ?_
        have hr16_ := zcmp_s v13_ 0
        refine zr_if_eq (pc := 33) (tgt := 56) ⟨(by (exact zo_71 hr16_)), (by (exact zo_72 hr16_))⟩ (by decide) (zdal_p dlA_Sums_multiply_136 (i := 20) rfl) (fun hc_33 => ?_) (fun hc_33 => ?_)
        · skip
          have hbd_ : -1000000000000 ≤ v13_ * v15_ ∧ v13_ * v15_ ≤ 1000000000000 := by first | (rw [show v13_ = 0 by omega, Int.zero_mul]; (decide)) | exact (zmo ha46_ ha38_).mpr (by omega)
          refine zw_aload_n (pc := 56) (n := 0) (x := (d_ + 23)) rfl (zdal_p dlA_Sums_multiply_137 (i := 7) rfl) ?_
          refine zw_getF (pc := 57) f_Sums_20 rfl ((hf_N2_.w hW).kr (o := 23) (by decide)) ((hf_N2_.w hW).lr (o := 23) (s := 2) (r := 26) (by decide)) (zdal_p dlA_Sums_multiply_137 (i := 8) rfl) ?_
          refine zw_iload_n (pc := 60) (n := 3) (x := Int32.ofInt u1_) rfl (zdal_p dlA_Sums_multiply_137 (i := 9) rfl) ?_
          refine zw_lload (pc := 61) (i := 4) (x := Int64.ofInt v13_) rfl (zdal_p dlA_Sums_multiply_137 (i := 10) rfl) ?_
          refine zw_lload (pc := 63) (i := 6) (x := Int64.ofInt v15_) rfl (zdal_p dlA_Sums_multiply_137 (i := 11) rfl) ?_
          refine zr_lmul (pc := 65) (zdal_p dlA_Sums_multiply_137 (i := 12) rfl) ?_
          refine zk_stJ hf_N2_.x (pc := 66) (o := 27) (by decide) l_Sums_31 ((hf_N2_.w hW).kr (o := 26) (by decide)) ((hf_N2_.w hW).lr (o := 26) (s := 0) (r := 27) (by decide)) ((hf_N2_.w hW).rr (o := 27) (t := 2) (n := 27) (by decide)) (by decide) (by (exact i4_)) (by omega) (by decide) (Nat.le_of_ble_eq_true rfl) (zdal_p dlA_Sums_multiply_137 (i := 13) rfl) (fun N17_ hN17_ hsN17_ => ?_)
          have hf_N17_ : zFc d_ [] [] [] [25, 27] Mz N17_ := hf_N2_.tr hsN17_ (by decide) (by decide) (by decide) (by decide)
          have hb0_N17_ : zFc d_ [] [] [] [27] Mz N17_ := hs3_.tr hsN17_ (by decide) (by decide) (by decide) (by decide)
          have hs1_ := zmp_s (show zmp F_ K_ d_ N2_ (zvc F_ d_ Mz a0_) (zvc F_ d_ Mz a1_) u1_ by first | with_reducible assumption | assumption) hN17_ rfl hx2_ hy2_ hbd_ (by (exact i4_))
          have hr1_ : (∀ x : Nat, zg N17_ (d_ + 25) x = zg Mz (d_ + 25) x) := fun x => (hsN17_.rg (by decide) x).trans ((show (∀ x : Nat, zg N2_ (d_ + 25) x = zg Mz (d_ + 25) x) by first | with_reducible assumption | assumption) x)
          refine zr_iinc (pc := 69) (i := 3) (a := u1_) (n := 1) (L2 := [some (.ref (d_ + 23)), some (.int (Int32.ofInt a0_)), some (.int (Int32.ofInt a1_)), some (.int (Int32.ofInt (u1_ + 1))), some (.long (Int64.ofInt v13_)), none, some (.long (Int64.ofInt v15_)), none]) rfl (by decide) rfl (zdal_p dlA_Sums_multiply_137 (i := 14) rfl) ?_
          refine zw_goto (pc := 72) (tgt := 2) (by decide) (zdal_p dlA_Sums_multiply_137 (i := 15) rfl) ?_
          refine zW_le [some (.ref (d_ + 23)), some (.int (Int32.ofInt a0_)), some (.int (Int32.ofInt a1_)), some (.int (Int32.ofInt (u1_ + 1))), none, none, none, none] (⟨rfl, rfl, rfl, rfl, trivial⟩) ?_
          exact ih_2 (u1_ + 1) (by (exact zo_74 i4_)) (by (exact zo_75 hF27_ hu1_b i5_)) N17_ hb0_N17_ (show 0 ≤ (u1_ + 1) by first | with_reducible assumption | (exact zo_76 i4_) | assumption) (show (u1_ + 1) ≤ F_ by first | with_reducible assumption | (exact zo_2203 hFc_ hc_10 i5_) | assumption) (show zmp F_ K_ d_ N17_ (zvc F_ d_ Mz a0_) (zvc F_ d_ Mz a1_) (u1_ + 1) by exact hs1_) (show (∀ x : Nat, zg N17_ (d_ + 25) x = zg Mz (d_ + 25) x) by exact hr1_) (by (exact zo_147 hc_10 hlt_2))
        · skip
          refine zw_lload (pc := 36) (i := 6) (x := Int64.ofInt v15_) rfl (zdal_p dlA_Sums_multiply_136 (i := 21) rfl) ?_
          refine zk_absJ (pc := 38) x_Sums_74 (by decide) (Nat.le_of_ble_eq_true rfl) (zdal_p dlA_Sums_multiply_136 (i := 22) rfl) ⟨hv15_a, hv15_b⟩ (fun v19_ hv19_ => ?_)
          have ha38_ := hv19_
          refine zr_ldc2 (pc := 41) (n := 1000000000000) (by decide) k_Sums_80 (zdal_p dlA_Sums_multiply_136 (i := 23) rfl) ?_
          refine zw_lload (pc := 44) (i := 4) (x := Int64.ofInt v13_) rfl (zdal_p dlA_Sums_multiply_137 (i := 0) rfl) ?_
          refine zk_absJ (pc := 46) x_Sums_74 (by decide) (Nat.le_of_ble_eq_true rfl) (zdal_p dlA_Sums_multiply_137 (i := 1) rfl) ⟨hv13_a, hv13_b⟩ (fun v20_ hv20_ => ?_)
          have ha46_ := hv20_
          have hq46_ := zq_l (m := v20_) (o := v19_) (by omega) (by omega)
          refine zr_ldiv (pc := 49) ⟨by (exact zo_2230 hv20_), by omega⟩ (by omega) (zdal_p dlA_Sums_multiply_137 (i := 2) rfl) ?_
          have hr21_ := zlquo_r 1000000000000 v20_
          refine zr_lcmp (pc := 50) ⟨(by (exact zo_2230 hv19_)), (by omega)⟩ ⟨(by (exact zo_79 hr21_.1)), (by (exact zo_80 hr21_.2))⟩ (zdal_p dlA_Sums_multiply_137 (i := 3) rfl) ?_
          have hr22_ := zcmp_s v19_ (zlquo 1000000000000 v20_)
          refine zr_if_le (pc := 51) (tgt := 56) ⟨(by (exact zo_81 hr22_)), (by (exact zo_82 hr22_))⟩ (by decide) (zdal_p dlA_Sums_multiply_137 (i := 4) rfl) (fun hc_51 => ?_) (fun hc_51 => ?_)
          · skip
            have hbd_ : -1000000000000 ≤ v13_ * v15_ ∧ v13_ * v15_ ≤ 1000000000000 := by first | (rw [show v13_ = 0 by omega, Int.zero_mul]; omega) | exact (zmo ha46_ ha38_).mpr (by omega)
            refine zw_aload_n (pc := 56) (n := 0) (x := (d_ + 23)) rfl (zdal_p dlA_Sums_multiply_137 (i := 7) rfl) ?_
            refine zw_getF (pc := 57) f_Sums_20 rfl ((hf_N2_.w hW).kr (o := 23) (by decide)) ((hf_N2_.w hW).lr (o := 23) (s := 2) (r := 26) (by decide)) (zdal_p dlA_Sums_multiply_137 (i := 8) rfl) ?_
            refine zw_iload_n (pc := 60) (n := 3) (x := Int32.ofInt u1_) rfl (zdal_p dlA_Sums_multiply_137 (i := 9) rfl) ?_
            refine zw_lload (pc := 61) (i := 4) (x := Int64.ofInt v13_) rfl (zdal_p dlA_Sums_multiply_137 (i := 10) rfl) ?_
            refine zw_lload (pc := 63) (i := 6) (x := Int64.ofInt v15_) rfl (zdal_p dlA_Sums_multiply_137 (i := 11) rfl) ?_
            refine zr_lmul (pc := 65) (zdal_p dlA_Sums_multiply_137 (i := 12) rfl) ?_
            refine zk_stJ hf_N2_.x (pc := 66) (o := 27) (by decide) l_Sums_31 ((hf_N2_.w hW).kr (o := 26) (by decide)) ((hf_N2_.w hW).lr (o := 26) (s := 0) (r := 27) (by decide)) ((hf_N2_.w hW).rr (o := 27) (t := 2) (n := 27) (by decide)) (by decide) (by (exact i4_)) (by omega) (by decide) (Nat.le_of_ble_eq_true rfl) (zdal_p dlA_Sums_multiply_137 (i := 13) rfl) (fun N23_ hN23_ hsN23_ => ?_)
            have hf_N23_ : zFc d_ [] [] [] [25, 27] Mz N23_ := hf_N2_.tr hsN23_ (by decide) (by decide) (by decide) (by decide)
            have hb0_N23_ : zFc d_ [] [] [] [27] Mz N23_ := hs3_.tr hsN23_ (by decide) (by decide) (by decide) (by decide)
            have hs1_ := zmp_s (show zmp F_ K_ d_ N2_ (zvc F_ d_ Mz a0_) (zvc F_ d_ Mz a1_) u1_ by first | with_reducible assumption | assumption) hN23_ rfl hx2_ hy2_ hbd_ (by (exact i4_))
            have hr1_ : (∀ x : Nat, zg N23_ (d_ + 25) x = zg Mz (d_ + 25) x) := fun x => (hsN23_.rg (by decide) x).trans ((show (∀ x : Nat, zg N2_ (d_ + 25) x = zg Mz (d_ + 25) x) by first | with_reducible assumption | assumption) x)
            refine zr_iinc (pc := 69) (i := 3) (a := u1_) (n := 1) (L2 := [some (.ref (d_ + 23)), some (.int (Int32.ofInt a0_)), some (.int (Int32.ofInt a1_)), some (.int (Int32.ofInt (u1_ + 1))), some (.long (Int64.ofInt v13_)), none, some (.long (Int64.ofInt v15_)), none]) rfl (by decide) rfl (zdal_p dlA_Sums_multiply_137 (i := 14) rfl) ?_
            refine zw_goto (pc := 72) (tgt := 2) (by decide) (zdal_p dlA_Sums_multiply_137 (i := 15) rfl) ?_
            refine zW_le [some (.ref (d_ + 23)), some (.int (Int32.ofInt a0_)), some (.int (Int32.ofInt a1_)), some (.int (Int32.ofInt (u1_ + 1))), none, none, none, none] (⟨rfl, rfl, rfl, rfl, trivial⟩) ?_
            exact ih_2 (u1_ + 1) (by (exact zo_74 i4_)) (by (exact zo_75 hF27_ hu1_b i5_)) N23_ hb0_N23_ (show 0 ≤ (u1_ + 1) by first | with_reducible assumption | (exact zo_76 i4_) | assumption) (show (u1_ + 1) ≤ F_ by first | with_reducible assumption | (exact zo_2203 hFc_ hc_10 i5_) | assumption) (show zmp F_ K_ d_ N23_ (zvc F_ d_ Mz a0_) (zvc F_ d_ Mz a1_) (u1_ + 1) by exact hs1_) (show (∀ x : Nat, zg N23_ (d_ + 25) x = zg Mz (d_ + 25) x) by exact hr1_) (by (exact zo_147 hc_10 hlt_2))
          · skip
            refine zw_iconst (pc := 54) (v := Int32.ofInt 0) (by decide) (zdal_p dlA_Sums_multiply_137 (i := 5) rfl) ?_
            exact zk_iret (pc := 55) (ty := .boolean) rfl (z_narB (by (decide))) ⟨by (decide), by (decide)⟩ hf_N2_ (show ((0 = 1 ∧ zmok F_ K_ (zvc F_ d_ Mz a0_) (zvc F_ d_ Mz a1_) ∧ zSh F_ d_ Mz N2_ a0_ (zprd F_ K_ (zvc F_ d_ Mz a0_) (zvc F_ d_ Mz a1_))) ∨ (0 = 0 ∧ ¬ zmok F_ K_ (zvc F_ d_ Mz a0_) (zvc F_ d_ Mz a1_) ∧ (∀ x : Nat, zg N2_ (d_ + 25) x = zg Mz (d_ + 25) x))) from Or.inr (⟨(show 0 = 0 by first | rfl | with_reducible assumption | assumption | (intro hq_; have q1_ := hq_ (u1_).toNat (by omega); rw [← hx2_, ← hy2_] at q1_; unfold zLim at q1_; have q2_ := (zmo ha46_ ha38_).mp q1_; omega)), (show ¬ zmok F_ K_ (zvc F_ d_ Mz a0_) (zvc F_ d_ Mz a1_) by first | rfl | with_reducible assumption | assumption | (intro hq_; have q1_ := hq_ (u1_).toNat (by (exact zo_2205 hFc_ hc_10 i4_ i5_)); rw [← hx2_, ← hy2_] at q1_; unfold zLim at q1_; have q2_ := (zmo ha46_ ha38_).mp q1_; omega)), (show (∀ x : Nat, zg N2_ (d_ + 25) x = zg Mz (d_ + 25) x) by first | rfl | with_reducible assumption | assumption | (intro hq_; have q1_ := hq_ (u1_).toNat (by omega); rw [← hx2_, ← hy2_] at q1_; unfold zLim at q1_; have q2_ := (zmo ha46_ ha38_).mp q1_; omega))⟩)) (zdal_p dlA_Sums_multiply_137 (i := 6) rfl)
  exact lp_2 _ 0 (by decide) (by decide) Mz zFc.rf (show 0 ≤ (0 : Int) by first | with_reducible assumption | (decide) | assumption) (show (0 : Int) ≤ F_ by first | with_reducible assumption | (exact zo_85) | assumption) (show zmp F_ K_ d_ Mz (zvc F_ d_ Mz a0_) (zvc F_ d_ Mz a1_) (0 : Int) by exact zmp_0) (show (∀ x : Nat, zg Mz (d_ + 25) x = zg Mz (d_ + 25) x) by exact fun x => rfl) (Nat.lt_succ_self _)
def zlst {α : Type} (f : Nat → α) : Nat → List α
  | 0 => []
  | k + 1 => f k :: zlst f k
theorem zlst_c {α : Type} {f g : Nat → α} : ∀ k : Nat, (∀ i, i < k → f i = g i) → zlst f k = zlst g k
  | 0, _ => rfl
  | k + 1, h => by
    show f k :: zlst f k = g k :: zlst g k
    rw [h k (by omega), zlst_c k (fun i hi => h i (by omega))]
theorem zlst_p {α : Type} {f : Nat → α} {c : Int} (h : 1 ≤ c) : zlst f c.toNat = f (c - 1).toNat :: zlst f (c - 1).toNat := by
  rw [show c.toNat = (c - 1).toNat + 1 by omega]
  rfl
theorem zlst_l {α : Type} (f : Nat → α) : ∀ k, (zlst f k).length = k
  | 0 => rfl
  | k + 1 => by
    show (zlst f k).length + 1 = k + 1
    rw [zlst_l f k]
theorem zlst_m {α : Type} {f : Nat → α} {x : α} : ∀ k, x ∈ zlst f k ↔ ∃ i, i < k ∧ f i = x
  | 0 => ⟨fun h => absurd h List.not_mem_nil, fun ⟨i, h, _⟩ => absurd h (by omega)⟩
  | k + 1 => by
    show x ∈ f k :: zlst f k ↔ _
    rw [List.mem_cons, zlst_m k]
    constructor
    · rintro (h | ⟨i, hi, h⟩)
      · exact ⟨k, by omega, h.symm⟩
      · exact ⟨i, by omega, h⟩
    · rintro ⟨i, hi, h⟩
      by_cases e : i = k
      · subst e
        exact Or.inl h.symm
      · exact Or.inr ⟨i, by omega, h⟩
def zwp (x y : Nat) : Prop := (x = 4 → y ≠ 1 ∧ y ≠ 4) ∧ ((x = 2 ∨ x = 3) → y = 0)
def zwf : List Nat → Prop
  | [] => True
  | x :: r => x ≤ 4 ∧ (∀ y, r.head? = some y → zwp x y) ∧ zwf r
theorem zdp_c (x : Nat) (r : List Nat) : zdp (x :: r) = zdp r + if x ≤ 1 then 1 else 0 := by
  unfold zdp
  rw [List.countP_cons]
  by_cases h : x ≤ 1 <;> simp [h]
theorem zop0_c (x : Nat) (r : List Nat) : zop0 (x :: r) = zop0 r + if x = 0 then 1 else 0 := by
  unfold zop0
  rw [List.countP_cons]
  by_cases h : x = 0 <;> simp [h]
theorem zbn_c (x : Nat) (r : List Nat) : zbn (x :: r) = zbn r + if 2 ≤ x then 1 else 0 := by
  unfold zbn
  rw [List.countP_cons]
  by_cases h : 2 ≤ x <;> simp [h]
theorem zbd_l : ∀ r : List Nat, zbn r + zdp r = r.length
  | [] => rfl
  | x :: r => by
    rw [zbn_c, zdp_c, List.length_cons, ← zbd_l r]
    split <;> split <;> omega
theorem zwf_l : ∀ r : List Nat, zwf r → r.length ≤ 3 * zdp r + (match r.head? with | none => 0 | some x => if x ≤ 1 then 0 else if x = 4 then 2 else 1)
  | [], _ => Nat.le_refl _
  | x :: r, h => by
    obtain ⟨h1, h2, h3⟩ := h
    have ih := zwf_l r h3
    rw [zdp_c, List.length_cons, List.head?_cons]
    have hb : r.length ≤ 3 * zdp r + 2 := by
      refine Nat.le_trans ih ?_
      cases r.head? with
      | none => simp
      | some y =>
        simp only
        split
        · omega
        · split <;> omega
    simp only
    by_cases g : x ≤ 1
    · rw [if_pos g, if_pos g]
      omega
    · rw [if_neg g, if_neg g]
      cases hr : r.head? with
      | none =>
        rw [hr] at ih
        simp only at ih
        split <;> omega
      | some y =>
        rw [hr] at ih
        simp only at ih
        have hw := h2 y hr
        unfold zwp at hw
        by_cases g4 : x = 4
        · rw [if_pos g4]
          have := hw.1 g4
          split at ih
          · omega
          · rw [if_neg this.2] at ih
            omega
        · rw [if_neg g4]
          have := hw.2 (by omega)
          rw [if_pos (by omega)] at ih
          omega
theorem zwf_b {r : List Nat} (h : zwf r) : r.length ≤ 3 * zdp r + 2 := by
  have h1 := zwf_l r h
  refine Nat.le_trans h1 ?_
  cases r.head? with
  | none => simp
  | some y =>
    simp only
    split
    · omega
    · split <;> omega
theorem zop0_le : ∀ r : List Nat, zop0 r ≤ zdp r
  | [] => Nat.le_refl _
  | x :: r => by
    have := zop0_le r
    rw [zop0_c, zdp_c]
    split <;> split <;> omega
theorem zop0_m (r : List Nat) : 0 ∈ r ↔ 0 < zop0 r := by
  unfold zop0
  rw [List.countP_pos_iff]
  constructor
  · intro h
    exact ⟨0, h, rfl⟩
  · rintro ⟨x, h1, h2⟩
    have e : x = 0 := by simpa using h2
    rw [← e]; exact h1
def zcd (c : Int) : Prop := c = 40 ∨ c = 126 ∨ c = 43 ∨ c = 45 ∨ c = 42
def zsgn (c : Int) : Nat := if c = 40 then 0 else if c = 126 then 1 else if c = 43 then 2 else if c = 45 then 3 else 4
def zkS (d : Nat) (Mz : zMem) : List Nat := zlst (fun i => zsgn (ze Mz (d + 35) i)) (ze Mz (d + 33) 2).toNat
def zkV (F d : Nat) (Mz : zMem) : List (Nat → Int) := zlst (fun i => zvc F d Mz (21 + i)) (ze Mz (d + 33) 3).toNat
def zkG (d : Nat) (Mz : zMem) : Bool := decide (ze Mz (d + 33) 6 ≠ 0)
def zkW (F d : Nat) (Mz : zMem) : List (Nat → Int) := if zkG d Mz = true then [] else zkV F d Mz
def zCI (F : Nat) (K : Nat → Nat → Int) (d : Nat) (e : Int) (Mz : zMem) : Prop := (0 ≤ ze Mz (d + 33) 2 ∧ ze Mz (d + 33) 2 ≤ 24) ∧ (∀ i : Nat, (i : Int) < ze Mz (d + 33) 2 → zcd (ze Mz (d + 35) i)) ∧ ze Mz (d + 33) 4 = (zdp (zkS d Mz) : Nat) ∧ ze Mz (d + 33) 5 = (zop0 (zkS d Mz) : Nat) ∧ ze Mz (d + 33) 3 = (zbn (zkS d Mz) : Nat) + e ∧ (ze Mz (d + 33) 6 = 0 ∨ ze Mz (d + 33) 6 = 1) ∧ zwf (zkS d Mz) ∧ zdp (zkS d Mz) ≤ 7 ∧ ∀ t : Int, 21 ≤ t → t < 21 + ze Mz (d + 33) 3 → zfit F K (zvc F d Mz t)
section ZKI
variable {d F : Nat} {K : Nat → Nat → Int} {FA FA' : List (Nat × Nat)} {CA CA' : List Nat} {FR FR' : List (Nat × Nat)} {CR CR' : List Nat} {Mz Nz Pz : zMem} {e : Int}
theorem zkS_f (h2 : ze Nz (d + 33) 2 = ze Mz (d + 33) 2) (h : ∀ i : Nat, (i : Int) < ze Mz (d + 33) 2 → ze Nz (d + 35) i = ze Mz (d + 35) i) : zkS d Nz = zkS d Mz := by
  unfold zkS
  rw [h2]
  exact zlst_c _ (fun i hi => by rw [h i (by omega)])
theorem zkV_f (h3 : ze Nz (d + 33) 3 = ze Mz (d + 33) 3) (h : ∀ t : Int, 21 ≤ t → t < 21 + ze Mz (d + 33) 3 → zvc F d Nz t = zvc F d Mz t) : zkV F d Nz = zkV F d Mz := by
  unfold zkV
  rw [h3]
  exact zlst_c _ (fun i hi => h _ (by omega) (by omega))
theorem zCI.fr (_ : zKW d Mz) (hf : zFc d FA CA FR CR Mz Nz) (h : zCI F K d e Mz) (hd : ((33 < 38 ∧ 33 ∉ CR ∧ (33, 2) ∉ FR) ∧ (33 < 38 ∧ 33 ∉ CR ∧ (33, 3) ∉ FR) ∧ (33 < 38 ∧ 33 ∉ CR ∧ (33, 4) ∉ FR) ∧ (33 < 38 ∧ 33 ∉ CR ∧ (33, 5) ∉ FR) ∧ 33 < 38 ∧ 33 ∉ CR ∧ (33, 6) ∉ FR) ∧ (35 < 38 ∧ 35 ∉ CR ∧ ∀ x ∈ FR, x.1 ≠ 35) ∧ 25 < 38 ∧ 25 ∉ CR ∧ ∀ x ∈ FR, x.1 ≠ 25) : zCI F K d e Nz := by
  have e2 := hf.e hd.1.1
  have e3 := hf.e hd.1.2.1
  have hS : zkS d Nz = zkS d Mz := zkS_f e2 (fun i _ => hf.r hd.2.1 i)
  unfold zCI
  rw [hS, e2, e3, hf.e hd.1.2.2.1, hf.e hd.1.2.2.2.1, hf.e hd.1.2.2.2.2]
  refine ⟨h.1, fun i hi => by rw [hf.r hd.2.1]; exact h.2.1 i hi, h.2.2.1, h.2.2.2.1, h.2.2.2.2.1, h.2.2.2.2.2.1, h.2.2.2.2.2.2.1, h.2.2.2.2.2.2.2.1, fun t h1 h2 => ?_⟩
  rw [zvc_f hf hd.2.2]
  exact h.2.2.2.2.2.2.2.2 t h1 h2
theorem zCI.b (h : zCI F K d e Mz) : ze Mz (d + 33) 2 = ((zkS d Mz).length : Int) ∧ (zkS d Mz).length ≤ 3 * zdp (zkS d Mz) + 2 ∧ zbn (zkS d Mz) + zdp (zkS d Mz) = (zkS d Mz).length ∧ (zkS d Mz).length ≤ 23 := by
  have h1 := zwf_b h.2.2.2.2.2.2.1
  have h2 := zbd_l (zkS d Mz)
  have h3 := h.2.2.2.2.2.2.2.1
  have h4 : (zkS d Mz).length = (ze Mz (d + 33) 2).toNat := zlst_l _ _
  have h5 := h.1
  omega
theorem zkS_p {c : Int} (h1 : 1 ≤ ze Mz (d + 33) 2) (hc : c = ze Mz (d + 35) (ze Mz (d + 33) 2 - 1).toNat) (h2 : ze Nz (d + 33) 2 = ze Mz (d + 33) 2 - 1) (h : ∀ i : Nat, (i : Int) < ze Mz (d + 33) 2 - 1 → ze Nz (d + 35) i = ze Mz (d + 35) i) : zkS d Mz = zsgn c :: zkS d Nz := by
  unfold zkS
  rw [zlst_p h1, hc, h2]
  congr 1
  exact (zlst_c _ (fun i hi => by rw [h i (by omega)])).symm
theorem zkS_0 (h : ze Mz (d + 33) 2 ≤ 0) : zkS d Mz = [] := by
  unfold zkS
  rw [show (ze Mz (d + 33) 2).toNat = 0 by omega]
  rfl
theorem zkS_h {c : Int} (h1 : 1 ≤ ze Mz (d + 33) 2) (hc : c = ze Mz (d + 35) (ze Mz (d + 33) 2 - 1).toNat) : (zkS d Mz).head? = some (zsgn c) := by
  unfold zkS
  rw [zlst_p h1, hc]
  rfl
theorem zkS_u {c : Int} (h0 : 0 ≤ ze Mz (d + 33) 2) (h2 : ze Nz (d + 33) 2 = ze Mz (d + 33) 2 + 1) (hc : ze Nz (d + 35) (ze Mz (d + 33) 2).toNat = c) (h : ∀ i : Nat, (i : Int) < ze Mz (d + 33) 2 → ze Nz (d + 35) i = ze Mz (d + 35) i) : zkS d Nz = zsgn c :: zkS d Mz := by
  unfold zkS
  rw [zlst_p (c := ze Nz (d + 33) 2) (by omega), show (ze Nz (d + 33) 2 - 1).toNat = (ze Mz (d + 33) 2).toNat by omega, hc]
  congr 1
  exact zlst_c _ (fun i hi => by rw [h i (by omega)])
theorem zcd_u {c : Int} (h0 : 0 ≤ ze Mz (d + 33) 2) (h2 : ze Nz (d + 33) 2 = ze Mz (d + 33) 2 + 1) (hc : ze Nz (d + 35) (ze Mz (d + 33) 2).toNat = c) (h : ∀ i : Nat, (i : Int) < ze Mz (d + 33) 2 → ze Nz (d + 35) i = ze Mz (d + 35) i) (hcd : zcd c) (hM : ∀ i : Nat, (i : Int) < ze Mz (d + 33) 2 → zcd (ze Mz (d + 35) i)) : ∀ i : Nat, (i : Int) < ze Nz (d + 33) 2 → zcd (ze Nz (d + 35) i) := by
  intro i hi
  by_cases g : (i : Int) = ze Mz (d + 33) 2
  · rw [show i = (ze Mz (d + 33) 2).toNat by omega, hc]
    exact hcd
  · rw [h i (by omega)]
    exact hM i (by omega)
theorem zkV_u {u : Nat → Int} (h0 : 0 ≤ ze Mz (d + 33) 3) (h3 : ze Nz (d + 33) 3 = ze Mz (d + 33) 3 + 1) (hu : zvc F d Nz (21 + ze Mz (d + 33) 3) = u) (h : ∀ t : Int, 21 ≤ t → t < 21 + ze Mz (d + 33) 3 → zvc F d Nz t = zvc F d Mz t) : zkV F d Nz = u :: zkV F d Mz := by
  unfold zkV
  rw [zlst_p (c := ze Nz (d + 33) 3) (by omega), show (ze Nz (d + 33) 3 - 1).toNat = (ze Mz (d + 33) 3).toNat by omega, ← hu, show (21 : Int) + ((ze Mz (d + 33) 3).toNat : Int) = 21 + ze Mz (d + 33) 3 by omega]
  congr 1
  exact zlst_c _ (fun i hi => h _ (by omega) (by omega))
theorem zkV_p (h1 : 1 ≤ ze Mz (d + 33) 3) : zkV F d Mz = zvc F d Mz (20 + ze Mz (d + 33) 3) :: zlst (fun i => zvc F d Mz (21 + i)) (ze Mz (d + 33) 3 - 1).toNat := by
  unfold zkV
  rw [zlst_p h1, show (21 : Int) + ((ze Mz (d + 33) 3 - 1).toNat : Int) = 20 + ze Mz (d + 33) 3 by omega]
theorem zkV_t {u : Nat → Int} (h1 : 1 ≤ ze Mz (d + 33) 3) (h3 : ze Nz (d + 33) 3 = ze Mz (d + 33) 3) (hu : zvc F d Nz (20 + ze Mz (d + 33) 3) = u) (h : ∀ t : Int, 21 ≤ t → t < 20 + ze Mz (d + 33) 3 → zvc F d Nz t = zvc F d Mz t) : ∃ vs, zkV F d Mz = zvc F d Mz (20 + ze Mz (d + 33) 3) :: vs ∧ zkV F d Nz = u :: vs := by
  refine ⟨_, zkV_p h1, ?_⟩
  rw [zkV_p (Mz := Nz) (by omega), h3, hu]
  congr 1
  exact zlst_c _ (fun i hi => h _ (by omega) (by omega))
theorem zkV_2 {u : Nat → Int} (h1 : 2 ≤ ze Mz (d + 33) 3) (h3 : ze Nz (d + 33) 3 = ze Mz (d + 33) 3 - 1) (hu : zvc F d Nz (19 + ze Mz (d + 33) 3) = u) (h : ∀ t : Int, 21 ≤ t → t < 19 + ze Mz (d + 33) 3 → zvc F d Nz t = zvc F d Mz t) : ∃ vs, zkV F d Mz = zvc F d Mz (20 + ze Mz (d + 33) 3) :: zvc F d Mz (19 + ze Mz (d + 33) 3) :: vs ∧ zkV F d Nz = u :: vs := by
  refine ⟨zlst (fun i => zvc F d Mz (21 + i)) (ze Mz (d + 33) 3 - 1 - 1).toNat, ?_, ?_⟩
  · rw [zkV_p (by omega), zlst_p (c := ze Mz (d + 33) 3 - 1) (by omega), show (21 : Int) + ((ze Mz (d + 33) 3 - 1 - 1).toNat : Int) = 19 + ze Mz (d + 33) 3 by omega]
  · rw [zkV_p (Mz := Nz) (by omega), h3, show (20 : Int) + (ze Mz (d + 33) 3 - 1) = 19 + ze Mz (d + 33) 3 by omega, hu]
    congr 1
    exact zlst_c _ (fun i hi => h _ (by omega) (by omega))
def zLow (d : Nat) (Mz Nz : zMem) : Prop := ∀ x : Nat, x < 567 → zg Nz (d + 25) x = zg Mz (d + 25) x
theorem zLow.rf : zLow d Mz Mz := fun _ _ => rfl
theorem zLow.tr (h : zLow d Mz Nz) (h2 : zLow d Nz Pz) : zLow d Mz Pz := fun x hx => (h2 x hx).trans (h x hx)
theorem zLow.sh {s m : Int} {f : Nat → Int} (h : zSh m d Mz Nz s f) (hs : 21 ≤ s) : zLow d Mz Nz := fun x hx => by rw [h x, if_neg (by omega)]
theorem zLow.f (hf : zFc d FA CA FR CR Mz Nz) (hd : 25 < 38 ∧ 25 ∉ CR ∧ ∀ x ∈ FR, x.1 ≠ 25) : zLow d Mz Nz := fun x _ => hf.rg hd x
theorem zLow.v (h : zLow d Mz Nz) (hF : F ≤ 27) {s : Int} (s0 : 0 ≤ s) (s1 : s ≤ 20) : zvc F d Nz s = zvc F d Mz s := by
  funext k
  unfold zvc
  by_cases g : k < F
  · rw [if_pos g, if_pos g, h _ (by omega)]
  · rw [if_neg g, if_neg g]
end ZKI
section ZKJ
variable {d F : Nat} {K : Nat → Nat → Int} {FA FA' : List (Nat × Nat)} {CA CA' : List Nat} {FR FR' : List (Nat × Nat)} {CR CR' : List Nat} {Mz Nz Pz : zMem} {e : Int}
theorem zone_n {i x : Int} (h0 : 0 ≤ i) (h1 : i < F) : (fun k : Nat => if k < F then zone i x k else 0) = zone i x := by
  funext k
  by_cases g : k < F
  · rw [if_pos g]
  · rw [if_neg g]
    unfold zone
    rw [if_neg (by omega)]
theorem zone_mq {i x : Int} (h0 : 0 ≤ i) (h1 : i < F) (j : Nat) : zmq F K (zone i x) j = x * K i.toNat j := by
  unfold zmq
  rw [zsm_1 (a := i.toNat) (by omega) (fun k hk hne => ?_)]
  · unfold zone
    rw [if_pos (by omega)]
  · unfold zone
    rw [if_neg (by omega), Int.zero_mul]
theorem zone_fit (hA : zTA F K) {i x : Int} (h0 : 0 ≤ i) (h1 : i < F) (x0 : 0 ≤ x) (x1 : x ≤ 999) : zfit F K (zone i x) := fun j hj => by
  have hk := hA.2.1 i.toNat j (by omega) hj
  have h2 : 0 ≤ x * K i.toNat j := Int.mul_nonneg x0 hk.1
  have h3 : x * K i.toNat j ≤ 999 * 24 := Int.mul_le_mul x1 hk.2 hk.1 (by omega)
  rw [zone_mq h0 h1]
  unfold zone zLim
  refine ⟨?_, by omega, by omega⟩
  split <;> omega
theorem zero_fit : zfit F K (fun _ => 0) := fun j _ => by
  have e0 : zmq F K (fun _ => 0) j = 0 := zsm_z (fun i _ => Int.zero_mul _)
  rw [e0]
  show (-zLim ≤ (0 : Int) ∧ (0 : Int) ≤ zLim) ∧ -zLim ≤ (0 : Int) ∧ (0 : Int) ≤ zLim
  unfold zLim
  refine ⟨⟨?_, ?_⟩, ?_, ?_⟩ <;> omega
theorem zone_z (x : Int) : (fun k : Nat => if k < F then zone (-1) 0 k else 0) = fun _ => 0 := by
  funext k
  unfold zone
  split
  · split <;> rfl
  · rfl
theorem zneg_fit {v : Nat → Int} (h : zfit F K v) : zfit F K (fun k => -v k) := fun j hj => by
  have h1 := h j hj
  rw [zmq_neg]
  show (-zLim ≤ -v j ∧ -v j ≤ zLim) ∧ _
  refine ⟨⟨?_, ?_⟩, ?_, ?_⟩ <;> omega
theorem zprd_bd (hA : zTA F K) {v w : Nat → Int} (h : zmok F K v w) : zbd F K (zprd F K v w) := fun j hj => by
  have hp := zprd_s hA v w
  have h1 := h j hj
  have h2 := hA.2.2.2.2.2.1 (zprd F K v w) (fun j hj => by rw [hp.2 j hj]; exact h j hj) j hj
  have h3 := hA.2.2.2.1 j hj
  rw [hp.2 j hj]
  unfold zLim at h1
  have h4 : (zprd F K v w j).natAbs ≤ (zprd F K v w j * K j j).natAbs := by
    rw [Int.natAbs_mul]
    exact Nat.le_mul_of_pos_right _ (by omega)
  refine ⟨⟨?_, ?_⟩, ?_, ?_⟩ <;> omega
theorem zprd_n (hA : zTA F K) (v w : Nat → Int) : (fun k : Nat => if k < F then zprd F K v w k else 0) = zprd F K v w := by
  funext k
  by_cases g : k < F
  · rw [if_pos g]
  · rw [if_neg g, (zprd_s hA v w).1 k (by omega)]
theorem zvc_n (s : Int) (k : Nat) (hk : F ≤ k) : zvc F d Mz s k = 0 := by
  unfold zvc
  rw [if_neg (by omega)]
theorem zadd_bd {v w : Nat → Int} {c : Int} (hc : c = 1 ∨ c = -1) (hv : zfit F K v) (hw : zfit F K w) : zbd F K (fun k => v k + c * w k) := fun j hj => by
  have h1 := hv j hj
  have h2 := hw j hj
  have e : zmq F K (fun k => v k + c * w k) j = zmq F K v j + c * zmq F K w j := by
    rw [zmq_add, zmq_mul]
  have e0 : (fun k => v k + c * w k) j = v j + c * w j := rfl
  rw [e, e0]
  unfold zLim at h1 h2
  rcases hc with rfl | rfl
  · refine ⟨⟨?_, ?_⟩, ?_, ?_⟩ <;> omega
  · refine ⟨⟨?_, ?_⟩, ?_, ?_⟩ <;> omega
theorem zCI_0 (h2 : ze Mz (d + 33) 2 = 0) (h3 : ze Mz (d + 33) 3 = 0) (h4 : ze Mz (d + 33) 4 = 0) (h5 : ze Mz (d + 33) 5 = 0) (h6 : ze Mz (d + 33) 6 = 0) : zCI F K d 0 Mz ∧ zkS d Mz = [] ∧ zkW F d Mz = [] ∧ zkG d Mz = false := by
  have hS : zkS d Mz = [] := zkS_0 (by omega)
  have hG : zkG d Mz = false := by
    unfold zkG
    rw [h6]
    rfl
  refine ⟨?_, hS, ?_, hG⟩
  · unfold zCI
    rw [hS, h2, h3, h4, h5, h6]
    exact ⟨⟨by omega, by omega⟩, fun i hi => absurd hi (by omega), rfl, rfl, rfl, Or.inl rfl, trivial, by decide, fun t h1 h2 => absurd h2 (by omega)⟩
  · unfold zkW zkV
    rw [hG, h3]
    rfl
theorem zkG_f (h : ze Nz (d + 33) 6 = ze Mz (d + 33) 6) : zkG d Nz = zkG d Mz := by
  unfold zkG
  rw [h]
theorem zkW_f (h6 : ze Nz (d + 33) 6 = ze Mz (d + 33) 6) (hV : zkV F d Nz = zkV F d Mz) : zkW F d Nz = zkW F d Mz := by
  unfold zkW
  rw [zkG_f h6, hV]
theorem zCI_op {c : Int} (hI : zCI F K d 0 Mz) (hd : zdp (zkS d Mz) ≤ 6) (hcc : c = 40 ∨ c = 126) (h2 : ze Nz (d + 33) 2 = ze Mz (d + 33) 2 + 1) (hc : ze Nz (d + 35) (ze Mz (d + 33) 2).toNat = c) (h : ∀ i : Nat, (i : Int) < ze Mz (d + 33) 2 → ze Nz (d + 35) i = ze Mz (d + 35) i) (h3 : ze Nz (d + 33) 3 = ze Mz (d + 33) 3) (h4 : ze Nz (d + 33) 4 = ze Mz (d + 33) 4 + 1) (h5 : ze Nz (d + 33) 5 = ze Mz (d + 33) 5 + if c = 40 then 1 else 0) (h6 : ze Nz (d + 33) 6 = ze Mz (d + 33) 6) (hv : ∀ t : Int, zvc F d Nz t = zvc F d Mz t) : zCI F K d 0 Nz ∧ zkS d Nz = zsgn c :: zkS d Mz ∧ zkW F d Nz = zkW F d Mz ∧ zkG d Nz = zkG d Mz := by
  have hb := hI.b
  obtain ⟨a1, a2, a3, a4, a5, a6, a7, a8, a9⟩ := hI
  have hS := zkS_u a1.1 h2 hc h
  have hcd : zcd c := by
    unfold zcd
    omega
  have hx : zsgn c ≤ 1 := by rcases hcc with rfl | rfl <;> decide
  refine ⟨?_, hS, zkW_f h6 (zkV_f h3 (fun t _ _ => hv t)), zkG_f h6⟩
  unfold zCI
  rw [hS, zdp_c, zop0_c, zbn_c, if_pos hx, if_neg (by omega : ¬ 2 ≤ zsgn c), h3, h4, h5, h6]
  refine ⟨by omega, zcd_u a1.1 h2 hc h hcd a2, by omega, ?_, by omega, a6, ⟨by omega, fun y _ => ⟨fun g => absurd g (by omega), fun g => absurd g (by omega)⟩, a7⟩, by omega, fun t t0 t1 => by rw [hv]; exact a9 t t0 t1⟩
  rcases hcc with rfl | rfl
  · rw [if_pos rfl, if_pos (by decide)]; omega
  · rw [if_neg (by decide), if_neg (by decide)]; omega
theorem zCI_pv {u : Nat → Int} (hI : zCI F K d 0 Mz) (h2 : ze Nz (d + 33) 2 = ze Mz (d + 33) 2) (h : ∀ i : Nat, ze Nz (d + 35) i = ze Mz (d + 35) i) (h3 : ze Nz (d + 33) 3 = ze Mz (d + 33) 3 + 1) (h4 : ze Nz (d + 33) 4 = ze Mz (d + 33) 4) (h5 : ze Nz (d + 33) 5 = ze Mz (d + 33) 5) (h6 : ze Nz (d + 33) 6 = ze Mz (d + 33) 6) (hu : zvc F d Nz (21 + ze Mz (d + 33) 3) = u) (hv : ∀ t : Int, 21 ≤ t → t < 21 + ze Mz (d + 33) 3 → zvc F d Nz t = zvc F d Mz t) (hf : zfit F K u) : zCI F K d 1 Nz ∧ zkS d Nz = zkS d Mz ∧ zkW F d Nz = zpu (zkG d Mz) u (zkW F d Mz) ∧ zkG d Nz = zkG d Mz := by
  obtain ⟨a1, a2, a3, a4, a5, a6, a7, a8, a9⟩ := hI
  have hS : zkS d Nz = zkS d Mz := zkS_f h2 (fun i _ => h i)
  have hV := zkV_u (F := F) (by omega) h3 hu hv
  refine ⟨?_, hS, ?_, zkG_f h6⟩
  · unfold zCI
    rw [hS, h2, h4, h5, h6]
    refine ⟨a1, fun i hi => by rw [h i]; exact a2 i hi, a3, a4, by omega, a6, a7, a8, fun t t0 t1 => ?_⟩
    by_cases g : t = 21 + ze Mz (d + 33) 3
    · rw [g, hu]; exact hf
    · rw [hv t t0 (by omega)]; exact a9 t t0 (by omega)
  · unfold zkW zpu
    rw [zkG_f h6, hV]
    cases zkG d Mz with
    | true => rfl
    | false => rfl
theorem zCI_tv {u : Nat → Int} (hI : zCI F K d 1 Mz) (h2 : ze Nz (d + 33) 2 = ze Mz (d + 33) 2) (h : ∀ i : Nat, ze Nz (d + 35) i = ze Mz (d + 35) i) (h3 : ze Nz (d + 33) 3 = ze Mz (d + 33) 3) (h4 : ze Nz (d + 33) 4 = ze Mz (d + 33) 4) (h5 : ze Nz (d + 33) 5 = ze Mz (d + 33) 5) (h6 : ze Nz (d + 33) 6 = 0 ∨ ze Nz (d + 33) 6 = 1) (hu : zvc F d Nz (20 + ze Mz (d + 33) 3) = u) (hv : ∀ t : Int, 21 ≤ t → t < 20 + ze Mz (d + 33) 3 → zvc F d Nz t = zvc F d Mz t) (hf : zfit F K u) : zCI F K d 1 Nz ∧ zkS d Nz = zkS d Mz := by
  obtain ⟨a1, a2, a3, a4, a5, a6, a7, a8, a9⟩ := hI
  have hS : zkS d Nz = zkS d Mz := zkS_f h2 (fun i _ => h i)
  refine ⟨?_, hS⟩
  unfold zCI
  rw [hS, h2, h3, h4, h5]
  refine ⟨a1, fun i hi => by rw [h i]; exact a2 i hi, a3, a4, by omega, h6, a7, a8, fun t t0 t1 => ?_⟩
  by_cases g : t = 20 + ze Mz (d + 33) 3
  · rw [g, hu]; exact hf
  · rw [hv t t0 (by omega)]; exact a9 t t0 (by omega)
theorem zCI_pop {c : Int} (hI : zCI F K d 1 Mz) (h1 : 1 ≤ ze Mz (d + 33) 2) (hc : c = ze Mz (d + 35) (ze Mz (d + 33) 2 - 1).toNat) (hcc : c = 40 ∨ c = 126) (h2 : ze Nz (d + 33) 2 = ze Mz (d + 33) 2 - 1) (h : ∀ i : Nat, ze Nz (d + 35) i = ze Mz (d + 35) i) (h3 : ze Nz (d + 33) 3 = ze Mz (d + 33) 3) (h4 : ze Nz (d + 33) 4 = ze Mz (d + 33) 4 - 1) (h5 : ze Nz (d + 33) 5 = ze Mz (d + 33) 5 - if c = 40 then 1 else 0) (h6 : ze Nz (d + 33) 6 = ze Mz (d + 33) 6) (hv : ∀ t : Int, 21 ≤ t → t < 21 + ze Mz (d + 33) 3 → zfit F K (zvc F d Nz t)) : zCI F K d 1 Nz ∧ zkS d Mz = zsgn c :: zkS d Nz ∧ zkG d Nz = zkG d Mz := by
  obtain ⟨a1, a2, a3, a4, a5, a6, a7, a8, a9⟩ := hI
  have hS := zkS_p h1 hc h2 (fun i _ => h i)
  have hx : zsgn c ≤ 1 := by rcases hcc with rfl | rfl <;> decide
  refine ⟨?_, hS, zkG_f h6⟩
  rw [hS, zdp_c, if_pos hx] at a3 a8
  rw [hS, zop0_c] at a4
  rw [hS, zbn_c, if_neg (by omega : ¬ 2 ≤ zsgn c)] at a5
  rw [hS] at a7
  unfold zCI
  rw [h2, h3, h4, h5, h6]
  refine ⟨by omega, fun i hi => by rw [h i]; exact a2 i (by omega), by omega, ?_, by omega, a6, a7.2.2, by omega, hv⟩
  rcases hcc with rfl | rfl
  · rw [if_pos (by decide)] at a4
    rw [if_pos rfl]; omega
  · rw [if_neg (by decide)] at a4
    rw [if_neg (by decide)]; omega
theorem zCI_bs {c : Int} (hI : zCI F K d 1 Mz) (hcc : c = 42 ∨ c = 43 ∨ c = 45) (hh : ∀ y, (zkS d Mz).head? = some y → zwp (zsgn c) y) (h2 : ze Nz (d + 33) 2 = ze Mz (d + 33) 2 + 1) (hc : ze Nz (d + 35) (ze Mz (d + 33) 2).toNat = c) (h : ∀ i : Nat, (i : Int) < ze Mz (d + 33) 2 → ze Nz (d + 35) i = ze Mz (d + 35) i) (h3 : ze Nz (d + 33) 3 = ze Mz (d + 33) 3) (h4 : ze Nz (d + 33) 4 = ze Mz (d + 33) 4) (h5 : ze Nz (d + 33) 5 = ze Mz (d + 33) 5) (h6 : ze Nz (d + 33) 6 = ze Mz (d + 33) 6) (hv : ∀ t : Int, zvc F d Nz t = zvc F d Mz t) : zCI F K d 0 Nz ∧ zkS d Nz = zsgn c :: zkS d Mz ∧ zkW F d Nz = zkW F d Mz ∧ zkG d Nz = zkG d Mz := by
  have hb := hI.b
  obtain ⟨a1, a2, a3, a4, a5, a6, a7, a8, a9⟩ := hI
  have hS := zkS_u a1.1 h2 hc h
  have hcd : zcd c := by
    unfold zcd
    omega
  have hx : 2 ≤ zsgn c ∧ zsgn c ≤ 4 := by rcases hcc with rfl | rfl | rfl <;> decide
  refine ⟨?_, hS, zkW_f h6 (zkV_f h3 (fun t _ _ => hv t)), zkG_f h6⟩
  unfold zCI
  rw [hS, zdp_c, zop0_c, zbn_c, if_neg (by omega : ¬ zsgn c ≤ 1), if_pos hx.1, if_neg (by omega : ¬ zsgn c = 0), h3, h4, h5, h6]
  exact ⟨by omega, zcd_u a1.1 h2 hc h hcd a2, by omega, by omega, by omega, a6, ⟨by omega, hh, a7⟩, by omega, fun t t0 t1 => by rw [hv]; exact a9 t t0 t1⟩
theorem zng_s (sg : List Nat) (v : Nat → Int) (vs : List (Nat → Int)) : zng (1 :: sg) (v :: vs) = zng sg ((fun k => -v k) :: vs) := by rw [zng]
theorem zng_s0 (sg : List Nat) : zng (1 :: sg) [] = zng sg [] := by rw [zng]
theorem zng_e {sg : List Nat} (h : sg.head? ≠ some 1) (vs : List (Nat → Int)) : zng sg vs = (sg, vs) := by
  cases sg with
  | nil => rw [zng] <;> intros <;> contradiction
  | cons x r =>
    have hx : x ≠ 1 := fun g => h (by rw [g]; rfl)
    rw [zng]
    · intro a b c g
      injection g with g1 g2
      exact absurd g1 hx
    · intro a g
      injection g with g1 g2
      exact absurd g1 hx
end ZKJ
