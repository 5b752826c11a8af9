def zpB (c : Int) : Bool := decide (c = 32 ∨ c = 10)
def zpL (c : Int) : Bool := decide (97 ≤ c ∧ c ≤ 122)
def zpD (c : Int) : Bool := decide (48 ≤ c ∧ c ≤ 57)
def zpS (c : Int) : Bool := decide (c = 61 ∨ c = 43 ∨ c = 45 ∨ c = 42 ∨ c = 94 ∨ c = 40 ∨ c = 41 ∨ c = 59)
theorem zpB_t {c : Int} : zpB c = true ↔ (c = 32 ∨ c = 10) := decide_eq_true_iff
theorem zpL_t {c : Int} : zpL c = true ↔ (97 ≤ c ∧ c ≤ 122) := decide_eq_true_iff
theorem zpD_t {c : Int} : zpD c = true ↔ (48 ≤ c ∧ c ≤ 57) := decide_eq_true_iff
theorem zpS_t {c : Int} : zpS c = true ↔ (c = 61 ∨ c = 43 ∨ c = 45 ∨ c = 42 ∨ c = 94 ∨ c = 40 ∨ c = 41 ∨ c = 59) := decide_eq_true_iff
def zrn (P : Int → Bool) (b : Nat → Int) (n : Nat) : Nat → Nat → Nat
  | 0, p => p
  | f + 1, p => if p < n ∧ P (b p) = true then zrn P b n f (p + 1) else p
def zru (P : Int → Bool) (b : Nat → Int) (n p : Nat) : Nat := zrn P b n (n - p) p
theorem zru_t {P : Int → Bool} {b : Nat → Int} {n p : Nat} (h : p < n) (hb : P (b p) = true) : zru P b n p = zru P b n (p + 1) := by
  unfold zru
  obtain ⟨f, hf⟩ : ∃ f, n - p = f + 1 := ⟨n - p - 1, by omega⟩
  rw [hf, show n - (p + 1) = f by omega]
  show (if p < n ∧ P (b p) = true then zrn P b n f (p + 1) else p) = _
  rw [if_pos ⟨h, hb⟩]
theorem zru_f {P : Int → Bool} {b : Nat → Int} {n p : Nat} (h : ¬ (p < n ∧ P (b p) = true)) : zru P b n p = p := by
  unfold zru
  cases hf : n - p with
  | zero => rfl
  | succ f =>
    show (if p < n ∧ P (b p) = true then zrn P b n f (p + 1) else p) = _
    rw [if_neg h]
theorem zrn_ge {P : Int → Bool} {b : Nat → Int} {n : Nat} : ∀ (f p : Nat), p ≤ zrn P b n f p
  | 0, p => Nat.le_refl _
  | f + 1, p => by
    show p ≤ (if p < n ∧ P (b p) = true then zrn P b n f (p + 1) else p)
    split
    · have := zrn_ge (P := P) (b := b) (n := n) f (p + 1)
      omega
    · exact Nat.le_refl _
theorem zrn_le {P : Int → Bool} {b : Nat → Int} {n : Nat} : ∀ (f p : Nat), p ≤ n → zrn P b n f p ≤ n
  | 0, p, h => h
  | f + 1, p, h => by
    show (if p < n ∧ P (b p) = true then zrn P b n f (p + 1) else p) ≤ n
    split
    · exact zrn_le f (p + 1) (by omega)
    · exact h
theorem zru_ge {P : Int → Bool} {b : Nat → Int} {n p : Nat} : p ≤ zru P b n p := zrn_ge _ _
theorem zru_le {P : Int → Bool} {b : Nat → Int} {n p : Nat} (h : p ≤ n) : zru P b n p ≤ n := zrn_le _ _ h
theorem zru_gt {P : Int → Bool} {b : Nat → Int} {n p : Nat} (h : p < n) (hb : P (b p) = true) : p < zru P b n p := by
  rw [zru_t h hb]
  have := zru_ge (P := P) (b := b) (n := n) (p := p + 1)
  omega
theorem zru_in {P : Int → Bool} {b : Nat → Int} {n : Nat} : ∀ (m p k : Nat), k - p ≤ m → p ≤ k → k < zru P b n p → P (b k) = true ∧ k < n := by
  intro m
  induction m with
  | zero =>
    intro p k h0 h1 h2
    have e : k = p := by omega
    subst e
    by_cases h : k < n ∧ P (b k) = true
    · exact ⟨h.2, h.1⟩
    · rw [zru_f h] at h2
      omega
  | succ m ih =>
    intro p k h0 h1 h2
    by_cases h : p < n ∧ P (b p) = true
    · by_cases e : k = p
      · subst e
        exact ⟨h.2, h.1⟩
      · rw [zru_t h.1 h.2] at h2
        exact ih (p + 1) k (by omega) (by omega) h2
    · rw [zru_f h] at h2
      omega
def zkd (b : Nat → Int) (n s : Nat) : Int := if n ≤ s then 0 else if zpL (b s) = true then (if zru zpL b n s ≤ s + 6 then 1 else 4) else if zpD (b s) = true then (if zru zpD b n s ≤ s + 3 ∧ ¬ (zru zpD b n s < n ∧ zpL (b (zru zpD b n s)) = true) then 2 else 4) else if zpS (b s) = true then 3 else 4
def zen (b : Nat → Int) (n s : Nat) : Nat := if n ≤ s then s else if zpL (b s) = true then zru zpL b n s else if zpD (b s) = true then zru zpD b n s else s + 1
def znx (b : Nat → Int) (n s : Nat) : Nat := zru zpB b n (zen b n s)
def zvl (b : Nat → Int) (s : Nat) : Nat → Int
  | 0 => 0
  | k + 1 => 10 * zvl b s k + (b (s + k) - 48)
def zw2 (b : Nat → Int) (s : Nat) : Nat → Int
  | 0 => 0
  | k + 1 => 27 * zw2 b s k + (b (s + k) - 96)
def zw8 (b : Nat → Int) (s : Nat) : Nat → Int
  | 0 => 0
  | k + 1 => 256 * zw8 b s k + b (s + k)
theorem zen_le {b : Nat → Int} {n s : Nat} (h : s ≤ n) : zen b n s ≤ n := by
  unfold zen
  split
  · exact h
  · split
    · exact zru_le h
    · split
      · exact zru_le h
      · omega
theorem zen_ge {b : Nat → Int} {n s : Nat} : s ≤ zen b n s := by
  unfold zen
  split
  · exact Nat.le_refl _
  · split
    · exact zru_ge
    · split
      · exact zru_ge
      · omega
theorem zen_gt {b : Nat → Int} {n s : Nat} (h : s < n) : s < zen b n s := by
  unfold zen
  rw [if_neg (by omega)]
  split
  · rename_i h2
    exact zru_gt h h2
  · split
    · rename_i h2
      exact zru_gt h h2
    · omega
theorem znx_gt {b : Nat → Int} {n s : Nat} (h : s < n) : s < znx b n s := Nat.lt_of_lt_of_le (zen_gt h) zru_ge
theorem zru_step {P : Int → Bool} {b : Nat → Int} {n x : Nat} {u v : Int} (h0 : 0 ≤ u) (h1 : u < n) (hv : v = b u.toNat) (hp : P v = true) (hi : zru P b n u.toNat = x) : zru P b n (u + 1).toNat = x := by
  rw [← hi, show (u + 1).toNat = u.toNat + 1 by omega]
  exact (zru_t (by omega) (by rw [← hv]; exact hp)).symm
theorem zru_stop {P : Int → Bool} {b : Nat → Int} {n x : Nat} {u v : Int} (h0 : 0 ≤ u) (hx : (n : Int) ≤ u ∨ (v = b u.toNat ∧ P v = false)) (hi : zru P b n u.toNat = x) : u = (x : Int) := by
  rw [← hi, zru_f]
  · omega
  · rintro ⟨h1, h2⟩
    rcases hx with h | ⟨h, h'⟩
    · omega
    · rw [h, h2] at h'
      cases h'
def zBy (b : Nat → Int) (n : Nat) : Prop := ∀ k, k < n → 0 ≤ b k ∧ b k ≤ 255
theorem zvl_b {b : Nat → Int} {n s : Nat} (hb : zBy b n) : ∀ k : Nat, s + k ≤ n → -23 * ((10 : Int) ^ k - 1) ≤ zvl b s k ∧ zvl b s k ≤ 23 * ((10 : Int) ^ k - 1)
  | 0, _ => by
    show -23 * ((10 : Int) ^ 0 - 1) ≤ 0 ∧ (0 : Int) ≤ 23 * ((10 : Int) ^ 0 - 1)
    rw [Int.pow_zero]
    omega
  | k + 1, h => by
    have ih := zvl_b (s := s) hb k (by omega)
    have hk := hb (s + k) (by omega)
    show -23 * ((10 : Int) ^ (k + 1) - 1) ≤ 10 * zvl b s k + (b (s + k) - 48) ∧ 10 * zvl b s k + (b (s + k) - 48) ≤ 23 * ((10 : Int) ^ (k + 1) - 1)
    rw [Int.pow_succ]
    generalize (10 : Int) ^ k = p at ih ⊢
    omega
theorem zvl_b7 {b : Nat → Int} {n s k : Nat} (hb : zBy b n) (h : s + k ≤ n) (hk : k ≤ 6) : -23000000 ≤ zvl b s k ∧ zvl b s k ≤ 23000000 := by
  have h1 := zvl_b hb k h
  have h2 : (10 : Int) ^ k ≤ 1000000 ∧ 1 ≤ (10 : Int) ^ k := by
    obtain rfl | rfl | rfl | rfl | rfl | rfl | rfl : k = 0 ∨ k = 1 ∨ k = 2 ∨ k = 3 ∨ k = 4 ∨ k = 5 ∨ k = 6 := by omega
    all_goals decide
  omega
theorem zvl_step {b : Nat → Int} {n : Nat} {s i x v w : Int} (hb : zBy b n) (h0 : 0 ≤ s) (h1 : s ≤ i) (h2 : i < n) (hi : i - s ≤ 6 → x = zvl b s.toNat (i - s).toNat) (hw : w = b i.toNat) (hv : zn32 (x * 10 + w - 48) → v = x * 10 + w - 48) : i + 1 - s ≤ 6 → v = zvl b s.toNat (i + 1 - s).toNat := by
  intro h6
  have hx := hi (by omega)
  have hr := zvl_b7 (s := s.toNat) (k := (i - s).toNat) hb (by omega) (by omega)
  have hk := hb i.toNat (by omega)
  rw [← hx] at hr
  rw [hv ⟨by omega, by omega⟩, show (i + 1 - s).toNat = (i - s).toNat + 1 by omega]
  show _ = 10 * zvl b s.toNat (i - s).toNat + (b (s.toNat + (i - s).toNat) - 48)
  rw [← hx, show s.toNat + (i - s).toNat = i.toNat by omega, ← hw]
  omega
theorem zw2_b {b : Nat → Int} {n s : Nat} : ∀ k : Nat, (∀ i, s ≤ i → i < s + k → zpL (b i) = true) → 0 ≤ zw2 b s k ∧ zw2 b s k < (27 : Int) ^ k
  | 0, _ => by
    show (0 : Int) ≤ 0 ∧ (0 : Int) < (27 : Int) ^ 0
    rw [Int.pow_zero]
    omega
  | k + 1, h => by
    have ih := zw2_b (n := n) k (fun i h1 h2 => h i h1 (by omega))
    have hk := zpL_t.mp (h (s + k) (by omega) (by omega))
    show 0 ≤ 27 * zw2 b s k + (b (s + k) - 96) ∧ 27 * zw2 b s k + (b (s + k) - 96) < (27 : Int) ^ (k + 1)
    rw [Int.pow_succ]
    generalize (27 : Int) ^ k = p at ih ⊢
    omega
theorem zw2_step {b : Nat → Int} {n : Nat} {s i x v w : Int} (h0 : 0 ≤ s) (h1 : s ≤ i) (h2 : i < n) (hl : ∀ j : Nat, s.toNat ≤ j → j < i.toNat → zpL (b j) = true) (hi : i - s ≤ 6 → x = zw2 b s.toNat (i - s).toNat) (hw : w = b i.toNat) (hp : zpL w = true) (hv : zn32 (x * 27 + w - 97 + 1) → v = x * 27 + w - 97 + 1) : i + 1 - s ≤ 6 → v = zw2 b s.toNat (i + 1 - s).toNat := by
  intro h6
  have hx := hi (by omega)
  have hr := zw2_b (b := b) (n := n) (s := s.toNat) (i - s).toNat (fun j a1 a2 => hl j a1 (by omega))
  have hk := zpL_t.mp hp
  have h27 : (27 : Int) ^ (i - s).toNat ≤ 14348907 := by
    obtain h | h | h | h | h | h : (i - s).toNat = 0 ∨ (i - s).toNat = 1 ∨ (i - s).toNat = 2 ∨ (i - s).toNat = 3 ∨ (i - s).toNat = 4 ∨ (i - s).toNat = 5 := by omega
    all_goals (rw [h]; decide)
  rw [← hx] at hr
  rw [hv ⟨by omega, by omega⟩, show (i + 1 - s).toNat = (i - s).toNat + 1 by omega]
  show _ = 27 * zw2 b s.toNat (i - s).toNat + (b (s.toNat + (i - s).toNat) - 96)
  rw [← hx, show s.toNat + (i - s).toNat = i.toNat by omega, ← hw]
  omega
def zYb (b : Nat → Int) (n : Nat) (M : zMem) : Prop := ze M 1 1 = n ∧ n ≤ 700 ∧ zBy b n ∧ ∀ k, k < n → ze M 3 k = b k
theorem zYb.fr {b : Nat → Int} {n d : Nat} {FA : List (Nat × Nat)} {CA : List Nat} {FR : List (Nat × Nat)} {CR : List Nat} {M N : zMem} (hW : zKW d M) (hf : zFc d FA CA FR CR M N) (h : zYb b n M) (hd : (1 < 5 ∧ 1 ∉ CA ∧ (1, 1) ∉ FA) ∧ 3 < 5 ∧ 3 ∉ CA ∧ ∀ x ∈ FA, x.1 ≠ 3) : zYb b n N :=
  ⟨by rw [hf.ea hW hd.1]; exact h.1, h.2.1, h.2.2.1, fun k hk => by rw [hf.ra hW hd.2]; exact h.2.2.2 k hk⟩
def zYt (b : Nat → Int) (n : Nat) (M : zMem) : Prop := (0 ≤ ze M 1 2 ∧ ze M 1 2 ≤ n) ∧ ze M 1 3 = (zen b n (ze M 1 2).toNat : Nat) ∧ ze M 1 4 = zkd b n (ze M 1 2).toNat ∧ (zkd b n (ze M 1 2).toNat = 1 → ze M 1 5 = zw2 b (ze M 1 2).toNat (zen b n (ze M 1 2).toNat - (ze M 1 2).toNat)) ∧ (zkd b n (ze M 1 2).toNat = 2 → ze M 1 5 = zvl b (ze M 1 2).toNat (zen b n (ze M 1 2).toNat - (ze M 1 2).toNat)) ∧ (zkd b n (ze M 1 2).toNat = 3 → ze M 1 5 = b (ze M 1 2).toNat)
theorem zYt.fr {b : Nat → Int} {n d : Nat} {FA : List (Nat × Nat)} {CA : List Nat} {FR : List (Nat × Nat)} {CR : List Nat} {M N : zMem} (hW : zKW d M) (hf : zFc d FA CA FR CR M N) (h : zYt b n M) (hd : (1 < 5 ∧ 1 ∉ CA ∧ (1, 2) ∉ FA) ∧ (1 < 5 ∧ 1 ∉ CA ∧ (1, 3) ∉ FA) ∧ (1 < 5 ∧ 1 ∉ CA ∧ (1, 4) ∉ FA) ∧ 1 < 5 ∧ 1 ∉ CA ∧ (1, 5) ∉ FA) : zYt b n N := by
  unfold zYt
  rw [hf.ea hW hd.1, hf.ea hW hd.2.1, hf.ea hW hd.2.2.1, hf.ea hW hd.2.2.2]
  exact h
theorem zkd_0 {b : Nat → Int} {n s : Nat} (h : n ≤ s) : zkd b n s = 0 ∧ zen b n s = s := by
  unfold zkd zen
  exact ⟨if_pos h, if_pos h⟩
theorem zkd_L {b : Nat → Int} {n s : Nat} (h : s < n) (hl : zpL (b s) = true) : zkd b n s = (if zru zpL b n s ≤ s + 6 then 1 else 4) ∧ zen b n s = zru zpL b n s := by
  have h0 : ¬ n ≤ s := by omega
  refine ⟨?_, ?_⟩
  · unfold zkd
    rw [if_neg h0, if_pos hl]
  · unfold zen
    rw [if_neg h0, if_pos hl]
theorem zkd_D {b : Nat → Int} {n s : Nat} (h : s < n) (hl : zpL (b s) = false) (hd : zpD (b s) = true) : zkd b n s = (if zru zpD b n s ≤ s + 3 ∧ ¬ (zru zpD b n s < n ∧ zpL (b (zru zpD b n s)) = true) then 2 else 4) ∧ zen b n s = zru zpD b n s := by
  have h0 : ¬ n ≤ s := by omega
  have h1 : ¬ zpL (b s) = true := by rw [hl]; decide
  refine ⟨?_, ?_⟩
  · unfold zkd
    rw [if_neg h0, if_neg h1, if_pos hd]
  · unfold zen
    rw [if_neg h0, if_neg h1, if_pos hd]
theorem zkd_S {b : Nat → Int} {n s : Nat} (h : s < n) (hl : zpL (b s) = false) (hd : zpD (b s) = false) : zkd b n s = (if zpS (b s) = true then 3 else 4) ∧ zen b n s = s + 1 := by
  have h0 : ¬ n ≤ s := by omega
  have h1 : ¬ zpL (b s) = true := by rw [hl]; decide
  have h2 : ¬ zpD (b s) = true := by rw [hd]; decide
  refine ⟨?_, ?_⟩
  · unfold zkd
    rw [if_neg h0, if_neg h1, if_neg h2]
  · unfold zen
    rw [if_neg h0, if_neg h1, if_neg h2]
def zNok (b : Nat → Int) (n s : Nat) : Prop := zru zpD b n s ≤ s + 3 ∧ ¬ (zru zpD b n s < n ∧ zpL (b (zru zpD b n s)) = true)
theorem zYt_L {b : Nat → Int} {n : Nat} {M : zMem} {s : Nat} (es : ze M 1 2 = s) (h : s < n) (hl : zpL (b s) = true) (h3 : ze M 1 3 = (zru zpL b n s : Nat)) (h5 : ((zru zpL b n s : Nat) : Int) - s ≤ 6 → ze M 1 5 = zw2 b s (zru zpL b n s - s)) (h4 : (((zru zpL b n s : Nat) : Int) - s ≤ 6 ∧ ze M 1 4 = 1) ∨ (6 < ((zru zpL b n s : Nat) : Int) - s ∧ ze M 1 4 = 4)) : zYt b n M := by
  obtain ⟨k1, k2⟩ := zkd_L h hl
  have e : (ze M 1 2).toNat = s := by omega
  unfold zYt
  rw [e, k2, k1]
  refine ⟨⟨by omega, by omega⟩, h3, ?_, ?_, ?_, ?_⟩
  · rcases h4 with ⟨a, c⟩ | ⟨a, c⟩
    · rw [if_pos (by omega)]; exact c
    · rw [if_neg (by omega)]; exact c
  · intro hk
    refine h5 ?_
    by_cases g : zru zpL b n s ≤ s + 6
    · omega
    · rw [if_neg g] at hk; exact absurd hk (by decide)
  · intro hk
    split at hk <;> exact absurd hk (by decide)
  · intro hk
    split at hk <;> exact absurd hk (by decide)
theorem zYt_D {b : Nat → Int} {n : Nat} {M : zMem} {s : Nat} (es : ze M 1 2 = s) (h : s < n) (hl : zpL (b s) = false) (hd : zpD (b s) = true) (h3 : ze M 1 3 = (zru zpD b n s : Nat)) (h5 : zru zpD b n s ≤ s + 3 → ze M 1 5 = zvl b s (zru zpD b n s - s)) (h4 : (zNok b n s ∧ ze M 1 4 = 2) ∨ (¬ zNok b n s ∧ ze M 1 4 = 4)) : zYt b n M := by
  obtain ⟨k1, k2⟩ := zkd_D h hl hd
  have e : (ze M 1 2).toNat = s := by omega
  unfold zYt
  rw [e, k2, k1]
  refine ⟨⟨by omega, by omega⟩, h3, ?_, ?_, ?_, ?_⟩
  · rcases h4 with ⟨a, c⟩ | ⟨a, c⟩
    · rw [if_pos (by exact a)]; exact c
    · rw [if_neg (by exact a)]; exact c
  · intro hk
    split at hk <;> exact absurd hk (by decide)
  · intro hk
    refine h5 ?_
    by_cases g : zNok b n s
    · exact g.1
    · rw [if_neg (by exact g)] at hk; exact absurd hk (by decide)
  · intro hk
    split at hk <;> exact absurd hk (by decide)
theorem zYt_S {b : Nat → Int} {n : Nat} {M : zMem} {s : Nat} (es : ze M 1 2 = s) (h : s < n) (hl : zpL (b s) = false) (hd : zpD (b s) = false) (h3 : ze M 1 3 = s + 1) (h5 : ze M 1 5 = b s) (h4 : (zpS (b s) = true ∧ ze M 1 4 = 3) ∨ (zpS (b s) = false ∧ ze M 1 4 = 4)) : zYt b n M := by
  obtain ⟨k1, k2⟩ := zkd_S h hl hd
  have e : (ze M 1 2).toNat = s := by omega
  unfold zYt
  rw [e, k2, k1]
  refine ⟨⟨by omega, by omega⟩, by omega, ?_, ?_, ?_, fun _ => h5⟩
  · rcases h4 with ⟨a, c⟩ | ⟨a, c⟩
    · rw [if_pos a]; exact c
    · rw [if_neg (by rw [a]; decide)]; exact c
  · intro hk
    split at hk <;> exact absurd hk (by decide)
  · intro hk
    split at hk <;> exact absurd hk (by decide)
theorem zYt_0 {b : Nat → Int} {n : Nat} {M : zMem} {s : Nat} (es : ze M 1 2 = s) (h : n = s) (h3 : ze M 1 3 = s) (h4 : ze M 1 4 = 0) : zYt b n M := by
  obtain ⟨k1, k2⟩ := zkd_0 (b := b) (n := n) (s := s) (by omega)
  have e : (ze M 1 2).toNat = s := by omega
  unfold zYt
  rw [e, k2, k1]
  exact ⟨⟨by omega, by omega⟩, h3, h4, fun h => absurd h (by decide), fun h => absurd h (by decide), fun h => absurd h (by decide)⟩
set_option maxHeartbeats 4000000 in
theorem u_Tokens_isBlank (l : Launch) (d_ : Nat) (Mz : zMem) (hW : zKW d_ Mz) (a0_ : Int) (ha0_a : -2147483648 ≤ a0_) (ha0_b : a0_ < 2147483648) : zC l m_Tokens_isBlank 0 0 [.int (Int32.ofInt a0_)] Mz (zqcI d_ [] [] [] [] Mz (fun v N => (((v = 1 ∧ zpB a0_ = true) ∨ (v = 0 ∧ zpB a0_ = false))))) := by
  refine zC_of (L0 := [some (.int (Int32.ofInt a0_))]) md_Tokens_isBlank (Nat.le_of_ble_eq_true rfl) rfl ?_ zQ0
  have hf : zFc d_ [] [] [] [] Mz Mz := zFc.rf
  refine zw_iload_n (pc := 0) (n := 0) (x := Int32.ofInt a0_) rfl (zdal_p dlA_Tokens_isBlank_76 (i := 0) rfl) ?_
  refine zw_bipush (pc := 1) (v := Int32.ofInt 32) (by decide) (zdal_p dlA_Tokens_isBlank_76 (i := 1) rfl) ?_
  refine zr_icmp_eq (pc := 3) (tgt := 12) ⟨ha0_a, ha0_b⟩ ⟨(by decide), (by decide)⟩ (by decide) (zdal_p dlA_Tokens_isBlank_76 (i := 2) rfl) (fun hc_3 => ?_) (fun hc_3 => ?_)
  · skip
    refine zw_iconst (pc := 12) (v := Int32.ofInt 1) (by decide) (zdal_p dlA_Tokens_isBlank_76 (i := 6) rfl) ?_
    refine zw_goto (pc := 13) (tgt := 17) (by decide) (zdal_p dlA_Tokens_isBlank_76 (i := 7) rfl) ?_
    exact zk_iret (pc := 17) (ty := .boolean) rfl (z_narB (by omega)) ⟨by omega, by omega⟩ hf (show ((1 = 1 ∧ zpB a0_ = true) ∨ (1 = 0 ∧ zpB a0_ = false)) from Or.inl (⟨(show 1 = 1 by first | rfl | exact zpB_t.mpr (by omega)), (show zpB a0_ = true by first | rfl | exact zpB_t.mpr (by omega))⟩)) d_Tokens_isBlank_17
  · skip
    refine zw_iload_n (pc := 6) (n := 0) (x := Int32.ofInt a0_) rfl (zdal_p dlA_Tokens_isBlank_76 (i := 3) rfl) ?_
    refine zw_bipush (pc := 7) (v := Int32.ofInt 10) (by decide) (zdal_p dlA_Tokens_isBlank_76 (i := 4) rfl) ?_
    refine zr_icmp_ne (pc := 9) (tgt := 16) ⟨ha0_a, ha0_b⟩ ⟨(by decide), (by decide)⟩ (by decide) (zdal_p dlA_Tokens_isBlank_76 (i := 5) rfl) (fun hc_9 => ?_) (fun hc_9 => ?_)
    · skip
      refine zw_iconst (pc := 16) (v := Int32.ofInt 0) (by decide) (zdal_p dlA_Tokens_isBlank_76 (i := 8) rfl) ?_
      exact zk_iret (pc := 17) (ty := .boolean) rfl (z_narB (by omega)) ⟨by omega, by omega⟩ hf (show ((0 = 1 ∧ zpB a0_ = true) ∨ (0 = 0 ∧ zpB a0_ = false)) from Or.inr (⟨(show 0 = 0 by first | rfl | exact Bool.eq_false_iff.mpr (fun h => by have := zpB_t.mp h; omega)), (show zpB a0_ = false by first | rfl | exact Bool.eq_false_iff.mpr (fun h => by have := zpB_t.mp h; omega))⟩)) d_Tokens_isBlank_17
    · skip
      refine zw_iconst (pc := 12) (v := Int32.ofInt 1) (by decide) (zdal_p dlA_Tokens_isBlank_76 (i := 6) rfl) ?_
      refine zw_goto (pc := 13) (tgt := 17) (by decide) (zdal_p dlA_Tokens_isBlank_76 (i := 7) rfl) ?_
      exact zk_iret (pc := 17) (ty := .boolean) rfl (z_narB (by omega)) ⟨by omega, by omega⟩ hf (show ((1 = 1 ∧ zpB a0_ = true) ∨ (1 = 0 ∧ zpB a0_ = false)) from Or.inl (⟨(show 1 = 1 by first | rfl | exact zpB_t.mpr (by omega)), (show zpB a0_ = true by first | rfl | exact zpB_t.mpr (by omega))⟩)) d_Tokens_isBlank_17
set_option maxHeartbeats 4000000 in
theorem u_Tokens_isLetter (l : Launch) (d_ : Nat) (Mz : zMem) (hW : zKW d_ Mz) (a0_ : Int) (ha0_a : -2147483648 ≤ a0_) (ha0_b : a0_ < 2147483648) : zC l m_Tokens_isLetter 0 0 [.int (Int32.ofInt a0_)] Mz (zqcI d_ [] [] [] [] Mz (fun v N => (((v = 1 ∧ zpL a0_ = true) ∨ (v = 0 ∧ zpL a0_ = false))))) := by
  refine zC_of (L0 := [some (.int (Int32.ofInt a0_))]) md_Tokens_isLetter (Nat.le_of_ble_eq_true rfl) rfl ?_ zQ0
  have hf : zFc d_ [] [] [] [] Mz Mz := zFc.rf
  refine zw_iload_n (pc := 0) (n := 0) (x := Int32.ofInt a0_) rfl (zdal_p dlA_Tokens_isLetter_77 (i := 0) rfl) ?_
  refine zw_bipush (pc := 1) (v := Int32.ofInt 97) (by decide) (zdal_p dlA_Tokens_isLetter_77 (i := 1) rfl) ?_
  refine zr_icmp_lt (pc := 3) (tgt := 16) ⟨ha0_a, ha0_b⟩ ⟨(by decide), (by decide)⟩ (by decide) (zdal_p dlA_Tokens_isLetter_77 (i := 2) rfl) (fun hc_3 => ?_) (fun hc_3 => ?_)
  · skip
    refine zw_iconst (pc := 16) (v := Int32.ofInt 0) (by decide) (zdal_p dlA_Tokens_isLetter_77 (i := 8) rfl) ?_
    exact zk_iret (pc := 17) (ty := .boolean) rfl (z_narB (by omega)) ⟨by omega, by omega⟩ hf (show ((0 = 1 ∧ zpL a0_ = true) ∨ (0 = 0 ∧ zpL a0_ = false)) from Or.inr (⟨(show 0 = 0 by first | rfl | exact Bool.eq_false_iff.mpr (fun h => by have := zpL_t.mp h; omega)), (show zpL a0_ = false by first | rfl | exact Bool.eq_false_iff.mpr (fun h => by have := zpL_t.mp h; omega))⟩)) d_Tokens_isLetter_17
  · skip
    refine zw_iload_n (pc := 6) (n := 0) (x := Int32.ofInt a0_) rfl (zdal_p dlA_Tokens_isLetter_77 (i := 3) rfl) ?_
    refine zw_bipush (pc := 7) (v := Int32.ofInt 122) (by decide) (zdal_p dlA_Tokens_isLetter_77 (i := 4) rfl) ?_
    refine zr_icmp_gt (pc := 9) (tgt := 16) ⟨ha0_a, ha0_b⟩ ⟨(by decide), (by decide)⟩ (by decide) (zdal_p dlA_Tokens_isLetter_77 (i := 5) rfl) (fun hc_9 => ?_) (fun hc_9 => ?_)
    · skip
      refine zw_iconst (pc := 16) (v := Int32.ofInt 0) (by decide) (zdal_p dlA_Tokens_isLetter_77 (i := 8) rfl) ?_
      exact zk_iret (pc := 17) (ty := .boolean) rfl (z_narB (by omega)) ⟨by omega, by omega⟩ hf (show ((0 = 1 ∧ zpL a0_ = true) ∨ (0 = 0 ∧ zpL a0_ = false)) from Or.inr (⟨(show 0 = 0 by first | rfl | exact Bool.eq_false_iff.mpr (fun h => by have := zpL_t.mp h; omega)), (show zpL a0_ = false by first | rfl | exact Bool.eq_false_iff.mpr (fun h => by have := zpL_t.mp h; omega))⟩)) d_Tokens_isLetter_17
    · skip
      refine zw_iconst (pc := 12) (v := Int32.ofInt 1) (by decide) (zdal_p dlA_Tokens_isLetter_77 (i := 6) rfl) ?_
      refine zw_goto (pc := 13) (tgt := 17) (by decide) (zdal_p dlA_Tokens_isLetter_77 (i := 7) rfl) ?_
      exact zk_iret (pc := 17) (ty := .boolean) rfl (z_narB (by omega)) ⟨by omega, by omega⟩ hf (show ((1 = 1 ∧ zpL a0_ = true) ∨ (1 = 0 ∧ zpL a0_ = false)) from Or.inl (⟨(show 1 = 1 by first | rfl | exact zpL_t.mpr (by omega)), (show zpL a0_ = true by first | rfl | exact zpL_t.mpr (by omega))⟩)) d_Tokens_isLetter_17
set_option maxHeartbeats 4000000 in
theorem u_Tokens_isDigit (l : Launch) (d_ : Nat) (Mz : zMem) (hW : zKW d_ Mz) (a0_ : Int) (ha0_a : -2147483648 ≤ a0_) (ha0_b : a0_ < 2147483648) : zC l m_Tokens_isDigit 0 0 [.int (Int32.ofInt a0_)] Mz (zqcI d_ [] [] [] [] Mz (fun v N => (((v = 1 ∧ zpD a0_ = true) ∨ (v = 0 ∧ zpD a0_ = false))))) := by
  refine zC_of (L0 := [some (.int (Int32.ofInt a0_))]) md_Tokens_isDigit (Nat.le_of_ble_eq_true rfl) rfl ?_ zQ0
  have hf : zFc d_ [] [] [] [] Mz Mz := zFc.rf
  refine zw_iload_n (pc := 0) (n := 0) (x := Int32.ofInt a0_) rfl (zdal_p dlA_Tokens_isDigit_80 (i := 0) rfl) ?_
  refine zw_bipush (pc := 1) (v := Int32.ofInt 48) (by decide) (zdal_p dlA_Tokens_isDigit_80 (i := 1) rfl) ?_
  refine zr_icmp_lt (pc := 3) (tgt := 16) ⟨ha0_a, ha0_b⟩ ⟨(by decide), (by decide)⟩ (by decide) (zdal_p dlA_Tokens_isDigit_80 (i := 2) rfl) (fun hc_3 => ?_) (fun hc_3 => ?_)
  · skip
    refine zw_iconst (pc := 16) (v := Int32.ofInt 0) (by decide) (zdal_p dlA_Tokens_isDigit_80 (i := 8) rfl) ?_
    exact zk_iret (pc := 17) (ty := .boolean) rfl (z_narB (by omega)) ⟨by omega, by omega⟩ hf (show ((0 = 1 ∧ zpD a0_ = true) ∨ (0 = 0 ∧ zpD a0_ = false)) from Or.inr (⟨(show 0 = 0 by first | rfl | exact Bool.eq_false_iff.mpr (fun h => by have := zpD_t.mp h; omega)), (show zpD a0_ = false by first | rfl | exact Bool.eq_false_iff.mpr (fun h => by have := zpD_t.mp h; omega))⟩)) d_Tokens_isDigit_17
  · skip
    refine zw_iload_n (pc := 6) (n := 0) (x := Int32.ofInt a0_) rfl (zdal_p dlA_Tokens_isDigit_80 (i := 3) rfl) ?_
    refine zw_bipush (pc := 7) (v := Int32.ofInt 57) (by decide) (zdal_p dlA_Tokens_isDigit_80 (i := 4) rfl) ?_
    refine zr_icmp_gt (pc := 9) (tgt := 16) ⟨ha0_a, ha0_b⟩ ⟨(by decide), (by decide)⟩ (by decide) (zdal_p dlA_Tokens_isDigit_80 (i := 5) rfl) (fun hc_9 => ?_) (fun hc_9 => ?_)
    · skip
      refine zw_iconst (pc := 16) (v := Int32.ofInt 0) (by decide) (zdal_p dlA_Tokens_isDigit_80 (i := 8) rfl) ?_
      exact zk_iret (pc := 17) (ty := .boolean) rfl (z_narB (by omega)) ⟨by omega, by omega⟩ hf (show ((0 = 1 ∧ zpD a0_ = true) ∨ (0 = 0 ∧ zpD a0_ = false)) from Or.inr (⟨(show 0 = 0 by first | rfl | exact Bool.eq_false_iff.mpr (fun h => by have := zpD_t.mp h; omega)), (show zpD a0_ = false by first | rfl | exact Bool.eq_false_iff.mpr (fun h => by have := zpD_t.mp h; omega))⟩)) d_Tokens_isDigit_17
    · skip
      refine zw_iconst (pc := 12) (v := Int32.ofInt 1) (by decide) (zdal_p dlA_Tokens_isDigit_80 (i := 6) rfl) ?_
      refine zw_goto (pc := 13) (tgt := 17) (by decide) (zdal_p dlA_Tokens_isDigit_80 (i := 7) rfl) ?_
      exact zk_iret (pc := 17) (ty := .boolean) rfl (z_narB (by omega)) ⟨by omega, by omega⟩ hf (show ((1 = 1 ∧ zpD a0_ = true) ∨ (1 = 0 ∧ zpD a0_ = false)) from Or.inl (⟨(show 1 = 1 by first | rfl | exact zpD_t.mpr (by omega)), (show zpD a0_ = true by first | rfl | exact zpD_t.mpr (by omega))⟩)) d_Tokens_isDigit_17
set_option maxHeartbeats 4000000 in
theorem u_Tokens_isSignByte (l : Launch) (d_ : Nat) (Mz : zMem) (hW : zKW d_ Mz) (a0_ : Int) (ha0_a : -2147483648 ≤ a0_) (ha0_b : a0_ < 2147483648) : zC l m_Tokens_isSignByte 0 0 [.int (Int32.ofInt a0_)] Mz (zqcI d_ [] [] [] [] Mz (fun v N => (((v = 1 ∧ zpS a0_ = true) ∨ (v = 0 ∧ zpS a0_ = false))))) := by
  refine zC_of (L0 := [some (.int (Int32.ofInt a0_))]) md_Tokens_isSignByte (Nat.le_of_ble_eq_true rfl) rfl ?_ zQ0
  have hf : zFc d_ [] [] [] [] Mz Mz := zFc.rf
  refine zw_iload_n (pc := 0) (n := 0) (x := Int32.ofInt a0_) rfl (zdal_p dlA_Tokens_isSignByte_85 (i := 0) rfl) ?_
  refine zw_bipush (pc := 1) (v := Int32.ofInt 61) (by decide) (zdal_p dlA_Tokens_isSignByte_85 (i := 1) rfl) ?_
  refine zr_icmp_eq (pc := 3) (tgt := 48) ⟨ha0_a, ha0_b⟩ ⟨(by decide), (by decide)⟩ (by decide) (zdal_p dlA_Tokens_isSignByte_85 (i := 2) rfl) (fun hc_3 => ?_) (fun hc_3 => ?_)
  · skip
    refine zw_iconst (pc := 48) (v := Int32.ofInt 1) (by decide) d_Tokens_isSignByte_48 ?_
    refine zw_goto (pc := 49) (tgt := 53) (by decide) d_Tokens_isSignByte_49 ?_
    exact zk_iret (pc := 53) (ty := .boolean) rfl (z_narB (by omega)) ⟨by omega, by omega⟩ hf (show ((1 = 1 ∧ zpS a0_ = true) ∨ (1 = 0 ∧ zpS a0_ = false)) from Or.inl (⟨(show 1 = 1 by first | rfl | exact zpS_t.mpr (by omega)), (show zpS a0_ = true by first | rfl | exact zpS_t.mpr (by omega))⟩)) d_Tokens_isSignByte_53
  · skip
    refine zw_iload_n (pc := 6) (n := 0) (x := Int32.ofInt a0_) rfl (zdal_p dlA_Tokens_isSignByte_85 (i := 3) rfl) ?_
    refine zw_bipush (pc := 7) (v := Int32.ofInt 43) (by decide) (zdal_p dlA_Tokens_isSignByte_85 (i := 4) rfl) ?_
    refine zr_icmp_eq (pc := 9) (tgt := 48) ⟨ha0_a, ha0_b⟩ ⟨(by decide), (by decide)⟩ (by decide) (zdal_p dlA_Tokens_isSignByte_85 (i := 5) rfl) (fun hc_9 => ?_) (fun hc_9 => ?_)
    · skip
      refine zw_iconst (pc := 48) (v := Int32.ofInt 1) (by decide) d_Tokens_isSignByte_48 ?_
      refine zw_goto (pc := 49) (tgt := 53) (by decide) d_Tokens_isSignByte_49 ?_
      exact zk_iret (pc := 53) (ty := .boolean) rfl (z_narB (by omega)) ⟨by omega, by omega⟩ hf (show ((1 = 1 ∧ zpS a0_ = true) ∨ (1 = 0 ∧ zpS a0_ = false)) from Or.inl (⟨(show 1 = 1 by first | rfl | exact zpS_t.mpr (by omega)), (show zpS a0_ = true by first | rfl | exact zpS_t.mpr (by omega))⟩)) d_Tokens_isSignByte_53
    · skip
      refine zw_iload_n (pc := 12) (n := 0) (x := Int32.ofInt a0_) rfl (zdal_p dlA_Tokens_isSignByte_85 (i := 6) rfl) ?_
      refine zw_bipush (pc := 13) (v := Int32.ofInt 45) (by decide) (zdal_p dlA_Tokens_isSignByte_85 (i := 7) rfl) ?_
      refine zr_icmp_eq (pc := 15) (tgt := 48) ⟨ha0_a, ha0_b⟩ ⟨(by decide), (by decide)⟩ (by decide) (zdal_p dlA_Tokens_isSignByte_85 (i := 8) rfl) (fun hc_15 => ?_) (fun hc_15 => ?_)
      · skip
        refine zw_iconst (pc := 48) (v := Int32.ofInt 1) (by decide) d_Tokens_isSignByte_48 ?_
        refine zw_goto (pc := 49) (tgt := 53) (by decide) d_Tokens_isSignByte_49 ?_
        exact zk_iret (pc := 53) (ty := .boolean) rfl (z_narB (by omega)) ⟨by omega, by omega⟩ hf (show ((1 = 1 ∧ zpS a0_ = true) ∨ (1 = 0 ∧ zpS a0_ = false)) from Or.inl (⟨(show 1 = 1 by first | rfl | exact zpS_t.mpr (by omega)), (show zpS a0_ = true by first | rfl | exact zpS_t.mpr (by omega))⟩)) d_Tokens_isSignByte_53
      · skip
        refine zw_iload_n (pc := 18) (n := 0) (x := Int32.ofInt a0_) rfl (zdal_p dlA_Tokens_isSignByte_85 (i := 9) rfl) ?_
        refine zw_bipush (pc := 19) (v := Int32.ofInt 42) (by decide) (zdal_p dlA_Tokens_isSignByte_85 (i := 10) rfl) ?_
        refine zr_icmp_eq (pc := 21) (tgt := 48) ⟨ha0_a, ha0_b⟩ ⟨(by decide), (by decide)⟩ (by decide) (zdal_p dlA_Tokens_isSignByte_85 (i := 11) rfl) (fun hc_21 => ?_) (fun hc_21 => ?_)
        · skip
          refine zw_iconst (pc := 48) (v := Int32.ofInt 1) (by decide) d_Tokens_isSignByte_48 ?_
          refine zw_goto (pc := 49) (tgt := 53) (by decide) d_Tokens_isSignByte_49 ?_
          exact zk_iret (pc := 53) (ty := .boolean) rfl (z_narB (by omega)) ⟨by omega, by omega⟩ hf (show ((1 = 1 ∧ zpS a0_ = true) ∨ (1 = 0 ∧ zpS a0_ = false)) from Or.inl (⟨(show 1 = 1 by first | rfl | exact zpS_t.mpr (by omega)), (show zpS a0_ = true by first | rfl | exact zpS_t.mpr (by omega))⟩)) d_Tokens_isSignByte_53
        · skip
          refine zw_iload_n (pc := 24) (n := 0) (x := Int32.ofInt a0_) rfl (zdal_p dlA_Tokens_isSignByte_85 (i := 12) rfl) ?_
          refine zw_bipush (pc := 25) (v := Int32.ofInt 94) (by decide) (zdal_p dlA_Tokens_isSignByte_85 (i := 13) rfl) ?_
          refine zr_icmp_eq (pc := 27) (tgt := 48) ⟨ha0_a, ha0_b⟩ ⟨(by decide), (by decide)⟩ (by decide) (zdal_p dlA_Tokens_isSignByte_85 (i := 14) rfl) (fun hc_27 => ?_) (fun hc_27 => ?_)
          · skip
            refine zw_iconst (pc := 48) (v := Int32.ofInt 1) (by decide) d_Tokens_isSignByte_48 ?_
            refine zw_goto (pc := 49) (tgt := 53) (by decide) d_Tokens_isSignByte_49 ?_
            exact zk_iret (pc := 53) (ty := .boolean) rfl (z_narB (by omega)) ⟨by omega, by omega⟩ hf (show ((1 = 1 ∧ zpS a0_ = true) ∨ (1 = 0 ∧ zpS a0_ = false)) from Or.inl (⟨(show 1 = 1 by first | rfl | exact zpS_t.mpr (by omega)), (show zpS a0_ = true by first | rfl | exact zpS_t.mpr (by omega))⟩)) d_Tokens_isSignByte_53
          · skip
            refine zw_iload_n (pc := 30) (n := 0) (x := Int32.ofInt a0_) rfl (zdal_p dlA_Tokens_isSignByte_85 (i := 15) rfl) ?_
            refine zw_bipush (pc := 31) (v := Int32.ofInt 40) (by decide) (zdal_p dlA_Tokens_isSignByte_85 (i := 16) rfl) ?_
            refine zr_icmp_eq (pc := 33) (tgt := 48) ⟨ha0_a, ha0_b⟩ ⟨(by decide), (by decide)⟩ (by decide) (zdal_p dlA_Tokens_isSignByte_85 (i := 17) rfl) (fun hc_33 => ?_) (fun hc_33 => ?_)
            · skip
              refine zw_iconst (pc := 48) (v := Int32.ofInt 1) (by decide) d_Tokens_isSignByte_48 ?_
              refine zw_goto (pc := 49) (tgt := 53) (by decide) d_Tokens_isSignByte_49 ?_
              exact zk_iret (pc := 53) (ty := .boolean) rfl (z_narB (by omega)) ⟨by omega, by omega⟩ hf (show ((1 = 1 ∧ zpS a0_ = true) ∨ (1 = 0 ∧ zpS a0_ = false)) from Or.inl (⟨(show 1 = 1 by first | rfl | exact zpS_t.mpr (by omega)), (show zpS a0_ = true by first | rfl | exact zpS_t.mpr (by omega))⟩)) d_Tokens_isSignByte_53
            · skip
              refine zw_iload_n (pc := 36) (n := 0) (x := Int32.ofInt a0_) rfl (zdal_p dlA_Tokens_isSignByte_85 (i := 18) rfl) ?_
              refine zw_bipush (pc := 37) (v := Int32.ofInt 41) (by decide) (zdal_p dlA_Tokens_isSignByte_85 (i := 19) rfl) ?_
              refine zr_icmp_eq (pc := 39) (tgt := 48) ⟨ha0_a, ha0_b⟩ ⟨(by decide), (by decide)⟩ (by decide) (zdal_p dlA_Tokens_isSignByte_85 (i := 20) rfl) (fun hc_39 => ?_) (fun hc_39 => ?_)
              · skip
                refine zw_iconst (pc := 48) (v := Int32.ofInt 1) (by decide) d_Tokens_isSignByte_48 ?_
                refine zw_goto (pc := 49) (tgt := 53) (by decide) d_Tokens_isSignByte_49 ?_
                exact zk_iret (pc := 53) (ty := .boolean) rfl (z_narB (by omega)) ⟨by omega, by omega⟩ hf (show ((1 = 1 ∧ zpS a0_ = true) ∨ (1 = 0 ∧ zpS a0_ = false)) from Or.inl (⟨(show 1 = 1 by first | rfl | exact zpS_t.mpr (by omega)), (show zpS a0_ = true by first | rfl | exact zpS_t.mpr (by omega))⟩)) d_Tokens_isSignByte_53
              · skip
                refine zw_iload_n (pc := 42) (n := 0) (x := Int32.ofInt a0_) rfl (zdal_p dlA_Tokens_isSignByte_85 (i := 21) rfl) ?_
                refine zw_bipush (pc := 43) (v := Int32.ofInt 59) (by decide) (zdal_p dlA_Tokens_isSignByte_85 (i := 22) rfl) ?_
                refine zr_icmp_ne (pc := 45) (tgt := 52) ⟨ha0_a, ha0_b⟩ ⟨(by decide), (by decide)⟩ (by decide) (zdal_p dlA_Tokens_isSignByte_85 (i := 23) rfl) (fun hc_45 => ?_) (fun hc_45 => ?_)
                · skip
                  refine zw_iconst (pc := 52) (v := Int32.ofInt 0) (by decide) (zdal_p dlA_Tokens_isSignByte_86 (i := 2) rfl) ?_
                  exact zk_iret (pc := 53) (ty := .boolean) rfl (z_narB (by omega)) ⟨by omega, by omega⟩ hf (show ((0 = 1 ∧ zpS a0_ = true) ∨ (0 = 0 ∧ zpS a0_ = false)) from Or.inr (⟨(show 0 = 0 by first | rfl | exact Bool.eq_false_iff.mpr (fun h => by have := zpS_t.mp h; omega)), (show zpS a0_ = false by first | rfl | exact Bool.eq_false_iff.mpr (fun h => by have := zpS_t.mp h; omega))⟩)) d_Tokens_isSignByte_53
                · skip
                  refine zw_iconst (pc := 48) (v := Int32.ofInt 1) (by decide) d_Tokens_isSignByte_48 ?_
                  refine zw_goto (pc := 49) (tgt := 53) (by decide) d_Tokens_isSignByte_49 ?_
                  exact zk_iret (pc := 53) (ty := .boolean) rfl (z_narB (by omega)) ⟨by omega, by omega⟩ hf (show ((1 = 1 ∧ zpS a0_ = true) ∨ (1 = 0 ∧ zpS a0_ = false)) from Or.inl (⟨(show 1 = 1 by first | rfl | exact zpS_t.mpr (by omega)), (show zpS a0_ = true by first | rfl | exact zpS_t.mpr (by omega))⟩)) d_Tokens_isSignByte_53
set_option maxHeartbeats 4000000 in
theorem u_Tokens_pastBlanks (l : Launch) (d_ : Nat) (Mz : zMem) (hW : zKW d_ Mz) (a0_ : Int) (ha0_a : -2147483648 ≤ a0_) (ha0_b : a0_ < 2147483648) (b_ : Nat → Int) (n_ : Nat) (p0_ : zYb b_ n_ Mz) (p1_ : 0 ≤ a0_) (p2_ : a0_ ≤ n_) : zC l m_Tokens_pastBlanks 0 0 [.ref 1, .int (Int32.ofInt a0_)] Mz (zqcI d_ [] [] [] [] Mz (fun v N => v = (zru zpB b_ n_ (a0_).toNat : Nat))) := by
  refine zC_of (L0 := [some (.ref 1), some (.int (Int32.ofInt a0_)), none]) md_Tokens_pastBlanks (Nat.le_of_ble_eq_true rfl) rfl ?_ zQ0
  have hf : zFc d_ [] [] [] [] Mz Mz := zFc.rf
  have r_A1_1 := ze_r Mz 1 1
  obtain ⟨hn_, hn7_, hB_, hb_⟩ := id p0_
  refine zw_iload_n (pc := 0) (n := 1) (x := Int32.ofInt a0_) rfl (zdal_p dlA_Tokens_pastBlanks_75 (i := 0) rfl) ?_
  refine zw_istore_n (pc := 1) (i := 2) (L2 := [some (.ref 1), some (.int (Int32.ofInt a0_)), some (.int (Int32.ofInt a0_))]) rfl (by decide) rfl (zdal_p dlA_Tokens_pastBlanks_75 (i := 1) rfl) ?_
  have lp_2 : ∀ (n : Nat) (u1_ : Int) (hu1_a : -2147483648 ≤ u1_) (hu1_b : u1_ < 2147483648) (i2_ : a0_ ≤ u1_) (i3_ : u1_ ≤ n_) (i4_ : zru zpB b_ n_ (u1_).toNat = zru zpB b_ n_ (a0_).toNat), (n_ - u1_).toNat < n → zW l m_Tokens_pastBlanks (zn Mz + 0, zw Mz + 0) Mz 2 [some (.ref 1), some (.int (Int32.ofInt a0_)), some (.int (Int32.ofInt u1_))] [] (zqcI d_ [] [] [] [] Mz (fun v N => v = (zru zpB b_ n_ (a0_).toNat : Nat))) := by
    intro n
    induction n with
    | zero =>
      intro u1_ hu1_a hu1_b i2_ i3_ i4_ h0
      exact absurd h0 (Nat.not_lt_zero _)
    | succ n ih_2 =>
      intro u1_ hu1_a hu1_b i2_ i3_ i4_ hlt_2
      refine zw_iload_n (pc := 2) (n := 2) (x := Int32.ofInt u1_) rfl (zdal_p dlA_Tokens_pastBlanks_75 (i := 2) rfl) ?_
      refine zw_aload_n (pc := 3) (n := 0) (x := 1) rfl (zdal_p dlA_Tokens_pastBlanks_75 (i := 3) rfl) ?_
      refine zk_getI (pc := 4) f_Tokens_20 rfl ((hf.w hW).ka (o := 1) (by decide)) (zdal_p dlA_Tokens_pastBlanks_75 (i := 4) rfl) ?_
      refine zr_icmp_ge (pc := 7) (tgt := 30) ⟨hu1_a, hu1_b⟩ ⟨(ze_r Mz 1 1).1, (ze_r Mz 1 1).2⟩ (by decide) (zdal_p dlA_Tokens_pastBlanks_75 (i := 5) rfl) (fun hc_7 => ?_) (fun hc_7 => ?_)
      · skip
        refine zw_iload_n (pc := 30) (n := 2) (x := Int32.ofInt u1_) rfl (zdal_p dlA_Tokens_pastBlanks_75 (i := 14) rfl) ?_
        exact zk_iret (pc := 31) (ty := .int) rfl rfl ⟨by omega, by omega⟩ hf (show u1_ = (zru zpB b_ n_ (a0_).toNat : Nat) by first | exact zru_stop (P := zpB) (b := b_) (n := n_) (v := 0) (by omega) (Or.inl (by omega)) (by assumption) | exact zru_stop (P := zpB) (b := b_) (n := n_) (by omega) (Or.inr ⟨hbv, by assumption⟩) (by assumption)) (zdal_p dlA_Tokens_pastBlanks_75 (i := 15) rfl)
      · skip
        refine zw_aload_n (pc := 10) (n := 0) (x := 1) rfl (zdal_p dlA_Tokens_pastBlanks_75 (i := 6) rfl) ?_
        refine zw_getF (pc := 11) f_Tokens_14 rfl ((hf.w hW).ka (o := 1) (by decide)) ((hf.w hW).la (o := 1) (s := 0) (r := 2) (by decide)) (zdal_p dlA_Tokens_pastBlanks_75 (i := 7) rfl) ?_
        refine zw_iload_n (pc := 14) (n := 2) (x := Int32.ofInt u1_) rfl (zdal_p dlA_Tokens_pastBlanks_75 (i := 8) rfl) ?_
        refine zk_at hf.x (pc := 15) l_Tokens_47 ((hf.w hW).ka (o := 2) (by decide)) ((hf.w hW).la (o := 2) (s := 0) (r := 3) (by decide)) ((hf.w hW).ra (o := 3) (t := 1) (n := 700) (by decide)) (by decide) (by omega) (by omega) (by decide) (Nat.le_of_ble_eq_true rfl) (zdal_p dlA_Tokens_pastBlanks_75 (i := 9) rfl) (fun v5_ hv5_ hv5_a hv5_b => ?_)
        have hbv : v5_ = b_ (u1_).toNat := hv5_.trans (hb_ _ (by omega))
        refine zr_callS hf.x (pc := 18) [.int (Int32.ofInt v5_)] [] l_Tokens_73 (u_Tokens_isBlank l d_ Mz (hf.w hW) v5_ hv5_a hv5_b) rfl rfl (by decide) (Nat.le_of_ble_eq_true rfl) (zdal_p dlA_Tokens_pastBlanks_75 (i := 10) rfl) ?_
        rintro _ N6_ ⟨v7_, rfl, ⟨hv7_a, hv7_b⟩, hsN6_, hp0_N6_⟩
        obtain rfl := hsN6_.eq.symm
        replace hp0_N6_ : ((v7_ = 1 ∧ zpB v5_ = true) ∨ (v7_ = 0 ∧ zpB v5_ = false)) := hp0_N6_
        rcases hp0_N6_ with ⟨rfl, ha18_0_hp0_N6_⟩ | ⟨rfl, ha18_0_hp0_N6_⟩
        · skip
          show zW l m_Tokens_pastBlanks (zn Mz + 0, zw Mz + 0) Mz 21 [some (.ref 1), some (.int (Int32.ofInt a0_)), some (.int (Int32.ofInt u1_))] [.int (Int32.ofInt 1)] _
          refine zr_if_eq (pc := 21) (tgt := 30) ⟨(by decide), (by decide)⟩ (by decide) (zdal_p dlA_Tokens_pastBlanks_75 (i := 11) rfl) (fun hc_21 => ?_) (fun hc_21 => ?_)
          · skip
            exact absurd hc_21 (by decide)
          · skip
            refine zr_iinc (pc := 24) (i := 2) (a := u1_) (n := 1) (L2 := [some (.ref 1), some (.int (Int32.ofInt a0_)), some (.int (Int32.ofInt (u1_ + 1)))]) rfl (by decide) rfl (zdal_p dlA_Tokens_pastBlanks_75 (i := 12) rfl) ?_
            refine zw_goto (pc := 27) (tgt := 2) (by decide) (zdal_p dlA_Tokens_pastBlanks_75 (i := 13) rfl) ?_
            exact ih_2 (u1_ + 1) (by omega) (by omega) (show a0_ ≤ (u1_ + 1) by first | assumption | omega) (show (u1_ + 1) ≤ n_ by first | assumption | omega) (show zru zpB b_ n_ ((u1_ + 1)).toNat = zru zpB b_ n_ (a0_).toNat by exact zru_step (by omega) (by omega) hbv (by assumption) (by assumption)) (by omega)
        · skip
          show zW l m_Tokens_pastBlanks (zn Mz + 0, zw Mz + 0) Mz 21 [some (.ref 1), some (.int (Int32.ofInt a0_)), some (.int (Int32.ofInt u1_))] [.int (Int32.ofInt 0)] _
          refine zr_if_eq (pc := 21) (tgt := 30) ⟨(by decide), (by decide)⟩ (by decide) (zdal_p dlA_Tokens_pastBlanks_75 (i := 11) rfl) (fun hc_21 => ?_) (fun hc_21 => ?_)
          · skip
            refine zw_iload_n (pc := 30) (n := 2) (x := Int32.ofInt u1_) rfl (zdal_p dlA_Tokens_pastBlanks_75 (i := 14) rfl) ?_
            exact zk_iret (pc := 31) (ty := .int) rfl rfl ⟨by omega, by omega⟩ hf (show u1_ = (zru zpB b_ n_ (a0_).toNat : Nat) by first | exact zru_stop (P := zpB) (b := b_) (n := n_) (v := 0) (by omega) (Or.inl (by omega)) (by assumption) | exact zru_stop (P := zpB) (b := b_) (n := n_) (by omega) (Or.inr ⟨hbv, by assumption⟩) (by assumption)) (zdal_p dlA_Tokens_pastBlanks_75 (i := 15) rfl)
          · skip
            exact absurd hc_21 (by decide)
  exact lp_2 _ a0_ ha0_a ha0_b (show a0_ ≤ a0_ by first | assumption | omega) (show a0_ ≤ n_ by first | assumption | omega) (show zru zpB b_ n_ (a0_).toNat = zru zpB b_ n_ (a0_).toNat by rfl) (Nat.lt_succ_self _)
set_option maxHeartbeats 4000000 in
theorem u_Tokens_pastDigits (l : Launch) (d_ : Nat) (Mz : zMem) (hW : zKW d_ Mz) (a0_ : Int) (ha0_a : -2147483648 ≤ a0_) (ha0_b : a0_ < 2147483648) (b_ : Nat → Int) (n_ : Nat) (p0_ : zYb b_ n_ Mz) (p1_ : 0 ≤ a0_) (p2_ : a0_ ≤ n_) : zC l m_Tokens_pastDigits 0 0 [.ref 1, .int (Int32.ofInt a0_)] Mz (zqcI d_ [] [] [] [] Mz (fun v N => v = (zru zpD b_ n_ (a0_).toNat : Nat))) := by
  refine zC_of (L0 := [some (.ref 1), some (.int (Int32.ofInt a0_)), none]) md_Tokens_pastDigits (Nat.le_of_ble_eq_true rfl) rfl ?_ zQ0
  have hf : zFc d_ [] [] [] [] Mz Mz := zFc.rf
  have r_A1_1 := ze_r Mz 1 1
  obtain ⟨hn_, hn7_, hB_, hb_⟩ := id p0_
  refine zw_iload_n (pc := 0) (n := 1) (x := Int32.ofInt a0_) rfl (zdal_p dlA_Tokens_pastDigits_83 (i := 0) rfl) ?_
  refine zw_istore_n (pc := 1) (i := 2) (L2 := [some (.ref 1), some (.int (Int32.ofInt a0_)), some (.int (Int32.ofInt a0_))]) rfl (by decide) rfl (zdal_p dlA_Tokens_pastDigits_83 (i := 1) rfl) ?_
  have lp_2 : ∀ (n : Nat) (u1_ : Int) (hu1_a : -2147483648 ≤ u1_) (hu1_b : u1_ < 2147483648) (i2_ : a0_ ≤ u1_) (i3_ : u1_ ≤ n_) (i4_ : zru zpD b_ n_ (u1_).toNat = zru zpD b_ n_ (a0_).toNat), (n_ - u1_).toNat < n → zW l m_Tokens_pastDigits (zn Mz + 0, zw Mz + 0) Mz 2 [some (.ref 1), some (.int (Int32.ofInt a0_)), some (.int (Int32.ofInt u1_))] [] (zqcI d_ [] [] [] [] Mz (fun v N => v = (zru zpD b_ n_ (a0_).toNat : Nat))) := by
    intro n
    induction n with
    | zero =>
      intro u1_ hu1_a hu1_b i2_ i3_ i4_ h0
      exact absurd h0 (Nat.not_lt_zero _)
    | succ n ih_2 =>
      intro u1_ hu1_a hu1_b i2_ i3_ i4_ hlt_2
      refine zw_iload_n (pc := 2) (n := 2) (x := Int32.ofInt u1_) rfl (zdal_p dlA_Tokens_pastDigits_83 (i := 2) rfl) ?_
      refine zw_aload_n (pc := 3) (n := 0) (x := 1) rfl (zdal_p dlA_Tokens_pastDigits_83 (i := 3) rfl) ?_
      refine zk_getI (pc := 4) f_Tokens_20 rfl ((hf.w hW).ka (o := 1) (by decide)) (zdal_p dlA_Tokens_pastDigits_83 (i := 4) rfl) ?_
      refine zr_icmp_ge (pc := 7) (tgt := 30) ⟨hu1_a, hu1_b⟩ ⟨(ze_r Mz 1 1).1, (ze_r Mz 1 1).2⟩ (by decide) (zdal_p dlA_Tokens_pastDigits_83 (i := 5) rfl) (fun hc_7 => ?_) (fun hc_7 => ?_)
      · skip
        refine zw_iload_n (pc := 30) (n := 2) (x := Int32.ofInt u1_) rfl (zdal_p dlA_Tokens_pastDigits_83 (i := 14) rfl) ?_
        exact zk_iret (pc := 31) (ty := .int) rfl rfl ⟨by omega, by omega⟩ hf (show u1_ = (zru zpD b_ n_ (a0_).toNat : Nat) by first | exact zru_stop (P := zpD) (b := b_) (n := n_) (v := 0) (by omega) (Or.inl (by omega)) (by assumption) | exact zru_stop (P := zpD) (b := b_) (n := n_) (by omega) (Or.inr ⟨hbv, by assumption⟩) (by assumption)) (zdal_p dlA_Tokens_pastDigits_83 (i := 15) rfl)
      · skip
        refine zw_aload_n (pc := 10) (n := 0) (x := 1) rfl (zdal_p dlA_Tokens_pastDigits_83 (i := 6) rfl) ?_
        refine zw_getF (pc := 11) f_Tokens_14 rfl ((hf.w hW).ka (o := 1) (by decide)) ((hf.w hW).la (o := 1) (s := 0) (r := 2) (by decide)) (zdal_p dlA_Tokens_pastDigits_83 (i := 7) rfl) ?_
        refine zw_iload_n (pc := 14) (n := 2) (x := Int32.ofInt u1_) rfl (zdal_p dlA_Tokens_pastDigits_83 (i := 8) rfl) ?_
        refine zk_at hf.x (pc := 15) l_Tokens_47 ((hf.w hW).ka (o := 2) (by decide)) ((hf.w hW).la (o := 2) (s := 0) (r := 3) (by decide)) ((hf.w hW).ra (o := 3) (t := 1) (n := 700) (by decide)) (by decide) (by omega) (by omega) (by decide) (Nat.le_of_ble_eq_true rfl) (zdal_p dlA_Tokens_pastDigits_83 (i := 9) rfl) (fun v5_ hv5_ hv5_a hv5_b => ?_)
        have hbv : v5_ = b_ (u1_).toNat := hv5_.trans (hb_ _ (by omega))
        refine zr_callS hf.x (pc := 18) [.int (Int32.ofInt v5_)] [] l_Tokens_57 (u_Tokens_isDigit l d_ Mz (hf.w hW) v5_ hv5_a hv5_b) rfl rfl (by decide) (Nat.le_of_ble_eq_true rfl) (zdal_p dlA_Tokens_pastDigits_83 (i := 10) rfl) ?_
        rintro _ N6_ ⟨v7_, rfl, ⟨hv7_a, hv7_b⟩, hsN6_, hp0_N6_⟩
        obtain rfl := hsN6_.eq.symm
        replace hp0_N6_ : ((v7_ = 1 ∧ zpD v5_ = true) ∨ (v7_ = 0 ∧ zpD v5_ = false)) := hp0_N6_
        rcases hp0_N6_ with ⟨rfl, ha18_0_hp0_N6_⟩ | ⟨rfl, ha18_0_hp0_N6_⟩
        · skip
          show zW l m_Tokens_pastDigits (zn Mz + 0, zw Mz + 0) Mz 21 [some (.ref 1), some (.int (Int32.ofInt a0_)), some (.int (Int32.ofInt u1_))] [.int (Int32.ofInt 1)] _
          refine zr_if_eq (pc := 21) (tgt := 30) ⟨(by decide), (by decide)⟩ (by decide) (zdal_p dlA_Tokens_pastDigits_83 (i := 11) rfl) (fun hc_21 => ?_) (fun hc_21 => ?_)
          · skip
            exact absurd hc_21 (by decide)
          · skip
            refine zr_iinc (pc := 24) (i := 2) (a := u1_) (n := 1) (L2 := [some (.ref 1), some (.int (Int32.ofInt a0_)), some (.int (Int32.ofInt (u1_ + 1)))]) rfl (by decide) rfl (zdal_p dlA_Tokens_pastDigits_83 (i := 12) rfl) ?_
            refine zw_goto (pc := 27) (tgt := 2) (by decide) (zdal_p dlA_Tokens_pastDigits_83 (i := 13) rfl) ?_
            exact ih_2 (u1_ + 1) (by omega) (by omega) (show a0_ ≤ (u1_ + 1) by first | assumption | omega) (show (u1_ + 1) ≤ n_ by first | assumption | omega) (show zru zpD b_ n_ ((u1_ + 1)).toNat = zru zpD b_ n_ (a0_).toNat by exact zru_step (by omega) (by omega) hbv (by assumption) (by assumption)) (by omega)
        · skip
          show zW l m_Tokens_pastDigits (zn Mz + 0, zw Mz + 0) Mz 21 [some (.ref 1), some (.int (Int32.ofInt a0_)), some (.int (Int32.ofInt u1_))] [.int (Int32.ofInt 0)] _
          refine zr_if_eq (pc := 21) (tgt := 30) ⟨(by decide), (by decide)⟩ (by decide) (zdal_p dlA_Tokens_pastDigits_83 (i := 11) rfl) (fun hc_21 => ?_) (fun hc_21 => ?_)
          · skip
            refine zw_iload_n (pc := 30) (n := 2) (x := Int32.ofInt u1_) rfl (zdal_p dlA_Tokens_pastDigits_83 (i := 14) rfl) ?_
            exact zk_iret (pc := 31) (ty := .int) rfl rfl ⟨by omega, by omega⟩ hf (show u1_ = (zru zpD b_ n_ (a0_).toNat : Nat) by first | exact zru_stop (P := zpD) (b := b_) (n := n_) (v := 0) (by omega) (Or.inl (by omega)) (by assumption) | exact zru_stop (P := zpD) (b := b_) (n := n_) (by omega) (Or.inr ⟨hbv, by assumption⟩) (by assumption)) (zdal_p dlA_Tokens_pastDigits_83 (i := 15) rfl)
          · skip
            exact absurd hc_21 (by decide)
  exact lp_2 _ a0_ ha0_a ha0_b (show a0_ ≤ a0_ by first | assumption | omega) (show a0_ ≤ n_ by first | assumption | omega) (show zru zpD b_ n_ (a0_).toNat = zru zpD b_ n_ (a0_).toNat by rfl) (Nat.lt_succ_self _)
set_option maxHeartbeats 4000000 in
theorem u_Tokens_numberFrom (l : Launch) (d_ : Nat) (Mz : zMem) (hW : zKW d_ Mz) (a0_ : Int) (ha0_a : -2147483648 ≤ a0_) (ha0_b : a0_ < 2147483648) (a1_ : Int) (ha1_a : -2147483648 ≤ a1_) (ha1_b : a1_ < 2147483648) (b_ : Nat → Int) (n_ : Nat) (p0_ : zYb b_ n_ Mz) (p1_ : 0 ≤ a0_) (p2_ : a0_ ≤ a1_) (p3_ : a1_ ≤ n_) : zC l m_Tokens_numberFrom 0 0 [.ref 1, .int (Int32.ofInt a0_), .int (Int32.ofInt a1_)] Mz (zqcI d_ [] [] [] [] Mz (fun v N => (a1_ - a0_ ≤ 6 → v = zvl b_ (a0_).toNat (a1_ - a0_).toNat))) := by
  refine zC_of (L0 := [some (.ref 1), some (.int (Int32.ofInt a0_)), some (.int (Int32.ofInt a1_)), none, none]) md_Tokens_numberFrom (Nat.le_of_ble_eq_true rfl) rfl ?_ zQ0
  have hf : zFc d_ [] [] [] [] Mz Mz := zFc.rf
  obtain ⟨hn_, hn7_, hB_, hb_⟩ := id p0_
  refine zw_iconst (pc := 0) (v := Int32.ofInt 0) (by decide) (zdal_p dlA_Tokens_numberFrom_84 (i := 0) rfl) ?_
  refine zw_istore_n (pc := 1) (i := 3) (L2 := [some (.ref 1), some (.int (Int32.ofInt a0_)), some (.int (Int32.ofInt a1_)), some (.int (Int32.ofInt 0)), none]) rfl (by decide) rfl (zdal_p dlA_Tokens_numberFrom_84 (i := 1) rfl) ?_
  refine zw_iload_n (pc := 2) (n := 1) (x := Int32.ofInt a0_) rfl (zdal_p dlA_Tokens_numberFrom_84 (i := 2) rfl) ?_
  refine zw_istore (pc := 3) (i := 4) (L2 := [some (.ref 1), some (.int (Int32.ofInt a0_)), some (.int (Int32.ofInt a1_)), some (.int (Int32.ofInt 0)), some (.int (Int32.ofInt a0_))]) (by decide) rfl (zdal_p dlA_Tokens_numberFrom_84 (i := 3) rfl) ?_
  have lp_5 : ∀ (n : Nat) (u1_ : Int) (hu1_a : -2147483648 ≤ u1_) (hu1_b : u1_ < 2147483648) (u2_ : Int) (hu2_a : -2147483648 ≤ u2_) (hu2_b : u2_ < 2147483648) (i3_ : a0_ ≤ u2_) (i4_ : u2_ ≤ a1_) (i5_ : (u2_ - a0_ ≤ 6 → u1_ = zvl b_ (a0_).toNat (u2_ - a0_).toNat)), (a1_ - u2_).toNat < n → zW l m_Tokens_numberFrom (zn Mz + 0, zw Mz + 0) Mz 5 [some (.ref 1), some (.int (Int32.ofInt a0_)), some (.int (Int32.ofInt a1_)), some (.int (Int32.ofInt u1_)), some (.int (Int32.ofInt u2_))] [] (zqcI d_ [] [] [] [] Mz (fun v N => (a1_ - a0_ ≤ 6 → v = zvl b_ (a0_).toNat (a1_ - a0_).toNat))) := by
    intro n
    induction n with
    | zero =>
      intro u1_ hu1_a hu1_b u2_ hu2_a hu2_b i3_ i4_ i5_ h0
      exact absurd h0 (Nat.not_lt_zero _)
    | succ n ih_5 =>
      intro u1_ hu1_a hu1_b u2_ hu2_a hu2_b i3_ i4_ i5_ hlt_5
      refine zw_iload (pc := 5) (i := 4) (x := Int32.ofInt u2_) rfl (zdal_p dlA_Tokens_numberFrom_84 (i := 4) rfl) ?_
      refine zw_iload_n (pc := 7) (n := 2) (x := Int32.ofInt a1_) rfl (zdal_p dlA_Tokens_numberFrom_84 (i := 5) rfl) ?_
      refine zr_icmp_ge (pc := 8) (tgt := 35) ⟨hu2_a, hu2_b⟩ ⟨ha1_a, ha1_b⟩ (by decide) (zdal_p dlA_Tokens_numberFrom_84 (i := 6) rfl) (fun hc_8 => ?_) (fun hc_8 => ?_)
      · skip
        refine zw_iload_n (pc := 35) (n := 3) (x := Int32.ofInt u1_) rfl (zdal_p dlA_Tokens_numberFrom_84 (i := 20) rfl) ?_
        exact zk_iret (pc := 36) (ty := .int) rfl rfl ⟨by omega, by omega⟩ hf (show (a1_ - a0_ ≤ 6 → u1_ = zvl b_ (a0_).toNat (a1_ - a0_).toNat) by have e : (u2_) = a1_ := (by omega); rw [← e]; assumption) (zdal_p dlA_Tokens_numberFrom_84 (i := 21) rfl)
      · skip
        refine zw_iload_n (pc := 11) (n := 3) (x := Int32.ofInt u1_) rfl (zdal_p dlA_Tokens_numberFrom_84 (i := 7) rfl) ?_
        refine zw_bipush (pc := 12) (v := Int32.ofInt 10) (by decide) (zdal_p dlA_Tokens_numberFrom_84 (i := 8) rfl) ?_
        refine zr_imul (pc := 14) (zdal_p dlA_Tokens_numberFrom_84 (i := 9) rfl) ?_
        refine zw_aload_n (pc := 15) (n := 0) (x := 1) rfl (zdal_p dlA_Tokens_numberFrom_84 (i := 10) rfl) ?_
        refine zw_getF (pc := 16) f_Tokens_14 rfl ((hf.w hW).ka (o := 1) (by decide)) ((hf.w hW).la (o := 1) (s := 0) (r := 2) (by decide)) (zdal_p dlA_Tokens_numberFrom_84 (i := 11) rfl) ?_
        refine zw_iload (pc := 19) (i := 4) (x := Int32.ofInt u2_) rfl (zdal_p dlA_Tokens_numberFrom_84 (i := 12) rfl) ?_
        refine zk_at hf.x (pc := 21) l_Tokens_47 ((hf.w hW).ka (o := 2) (by decide)) ((hf.w hW).la (o := 2) (s := 0) (r := 3) (by decide)) ((hf.w hW).ra (o := 3) (t := 1) (n := 700) (by decide)) (by decide) (by omega) (by omega) (by decide) (Nat.le_of_ble_eq_true rfl) (zdal_p dlA_Tokens_numberFrom_84 (i := 13) rfl) (fun v6_ hv6_ hv6_a hv6_b => ?_)
        have hbv : v6_ = b_ (u2_).toNat := hv6_.trans (hb_ _ (by omega))
        refine zr_iadd (pc := 24) (zdal_p dlA_Tokens_numberFrom_84 (i := 14) rfl) ?_
        refine zw_bipush (pc := 25) (v := Int32.ofInt 48) (by decide) (zdal_p dlA_Tokens_numberFrom_84 (i := 15) rfl) ?_
        refine zr_isub (pc := 27) (zdal_p dlA_Tokens_numberFrom_84 (i := 16) rfl) ?_
        refine zk_nmI (fun v7_ hv7_ hv7_e => ?_)
        obtain ⟨hv7_a, hv7_b⟩ := hv7_
        have hnm := hv7_e
        refine zw_istore_n (pc := 28) (i := 3) (L2 := [some (.ref 1), some (.int (Int32.ofInt a0_)), some (.int (Int32.ofInt a1_)), some (.int (Int32.ofInt v7_)), some (.int (Int32.ofInt u2_))]) rfl (by decide) rfl (zdal_p dlA_Tokens_numberFrom_84 (i := 17) rfl) ?_
        refine zr_iinc (pc := 29) (i := 4) (a := u2_) (n := 1) (L2 := [some (.ref 1), some (.int (Int32.ofInt a0_)), some (.int (Int32.ofInt a1_)), some (.int (Int32.ofInt v7_)), some (.int (Int32.ofInt (u2_ + 1)))]) rfl (by decide) rfl (zdal_p dlA_Tokens_numberFrom_84 (i := 18) rfl) ?_
        refine zw_goto (pc := 32) (tgt := 5) (by decide) (zdal_p dlA_Tokens_numberFrom_84 (i := 19) rfl) ?_
        exact ih_5 v7_ hv7_a hv7_b (u2_ + 1) (by omega) (by omega) (show a0_ ≤ (u2_ + 1) by first | assumption | omega) (show (u2_ + 1) ≤ a1_ by first | assumption | omega) (show ((u2_ + 1) - a0_ ≤ 6 → v7_ = zvl b_ (a0_).toNat ((u2_ + 1) - a0_).toNat) by exact zvl_step hB_ (by omega) (by omega) (by omega) (by assumption) hbv hnm) (by omega)
  exact lp_5 _ 0 (by decide) (by decide) a0_ ha0_a ha0_b (show a0_ ≤ a0_ by first | assumption | omega) (show a0_ ≤ a1_ by first | assumption | omega) (show (a0_ - a0_ ≤ 6 → (0 : Int) = zvl b_ (a0_).toNat (a0_ - a0_).toNat) by intro _; rw [show (a0_ - a0_).toNat = 0 by omega]; rfl) (Nat.lt_succ_self _)
set_option maxHeartbeats 4000000 in
theorem u_Tokens_readWord (l : Launch) (d_ : Nat) (Mz : zMem) (hW : zKW d_ Mz) (b_ : Nat → Int) (n_ : Nat) (p0_ : zYb b_ n_ Mz) (p1_ : 0 ≤ ze Mz 1 2) (p2_ : ze Mz 1 2 < n_) (p3_ : ze Mz 1 3 = ze Mz 1 2) (p4_ : ze Mz 1 5 = 0) : zC l m_Tokens_readWord 0 0 [.ref 1] Mz (zqcV d_ [(1, 3), (1, 4), (1, 5)] [] [] [] Mz (fun N => ze N 1 3 = (zru zpL b_ n_ (ze Mz 1 2).toNat : Nat) ∧ ((zru zpL b_ n_ (ze Mz 1 2).toNat : Nat) - ze Mz 1 2 ≤ 6 → ze N 1 5 = zw2 b_ (ze Mz 1 2).toNat ((zru zpL b_ n_ (ze Mz 1 2).toNat) - (ze Mz 1 2).toNat)) ∧ ((((zru zpL b_ n_ (ze Mz 1 2).toNat : Nat) - ze Mz 1 2 ≤ 6 ∧ ze N 1 4 = 1) ∨ (6 < (zru zpL b_ n_ (ze Mz 1 2).toNat : Nat) - ze Mz 1 2 ∧ ze N 1 4 = 4))))) := by
  refine zC_of (L0 := [some (.ref 1)]) md_Tokens_readWord (Nat.le_of_ble_eq_true rfl) rfl ?_ zQ0
  have hf : zFc d_ [(1, 3), (1, 4), (1, 5)] [] [] [] Mz Mz := zFc.rf
  have r_A1_1 := ze_r Mz 1 1
  have r_A1_2 := ze_r Mz 1 2
  have r_A1_3 := ze_r Mz 1 3
  have r_A1_4 := ze_r Mz 1 4
  have r_A1_5 := ze_r Mz 1 5
  obtain ⟨hn_, hn7_, hB_, hb_⟩ := id p0_
  have lp_0 : ∀ (n : Nat) (N1_ : zMem) (hs2_ : zFc d_ [(1, 3), (1, 5)] [] [] [] Mz N1_) (i3_ : ze Mz 1 2 ≤ ze N1_ 1 3) (i4_ : ze N1_ 1 3 ≤ n_) (i5_ : zru zpL b_ n_ (ze N1_ 1 3).toNat = zru zpL b_ n_ (ze Mz 1 2).toNat) (i6_ : (ze N1_ 1 3 - ze Mz 1 2 ≤ 6 → ze N1_ 1 5 = zw2 b_ (ze Mz 1 2).toNat (ze N1_ 1 3 - ze Mz 1 2).toNat)) (i7_ : ∀ j : Nat, (ze Mz 1 2).toNat ≤ j → j < (ze N1_ 1 3).toNat → zpL (b_ j) = true), (n_ - ze N1_ 1 3).toNat < n → zW l m_Tokens_readWord (zn Mz + 0, zw Mz + 0) N1_ 0 [some (.ref 1)] [] (zqcV d_ [(1, 3), (1, 4), (1, 5)] [] [] [] Mz (fun N => ze N 1 3 = (zru zpL b_ n_ (ze Mz 1 2).toNat : Nat) ∧ ((zru zpL b_ n_ (ze Mz 1 2).toNat : Nat) - ze Mz 1 2 ≤ 6 → ze N 1 5 = zw2 b_ (ze Mz 1 2).toNat ((zru zpL b_ n_ (ze Mz 1 2).toNat) - (ze Mz 1 2).toNat)) ∧ ((((zru zpL b_ n_ (ze Mz 1 2).toNat : Nat) - ze Mz 1 2 ≤ 6 ∧ ze N 1 4 = 1) ∨ (6 < (zru zpL b_ n_ (ze Mz 1 2).toNat : Nat) - ze Mz 1 2 ∧ ze N 1 4 = 4))))) := by
    intro n
    induction n with
    | zero =>
      intro N1_ hs2_ i3_ i4_ i5_ i6_ i7_ h0
      exact absurd h0 (Nat.not_lt_zero _)
    | succ n ih_0 =>
      intro N1_ hs2_ i3_ i4_ i5_ i6_ i7_ hlt_0
      have hf_N1_ : zFc d_ [(1, 3), (1, 4), (1, 5)] [] [] [] Mz N1_ := hf.tr hs2_ (by decide) (by decide) (by decide) (by decide)
      have eA1_1_N1_ : ze N1_ 1 1 = ze Mz 1 1 := hs2_.ea (hf.w hW) (by decide)
      have eA1_2_N1_ : ze N1_ 1 2 = ze Mz 1 2 := hs2_.ea (hf.w hW) (by decide)
      have rA1_3_N1_ := ze_r N1_ 1 3
      have eA1_4_N1_ : ze N1_ 1 4 = ze Mz 1 4 := hs2_.ea (hf.w hW) (by decide)
      have rA1_5_N1_ := ze_r N1_ 1 5
      have c8_ : zYb b_ n_ N1_ := zYb.fr (hf.w hW) hs2_ p0_ (by decide)
      refine zw_aload_n (pc := 0) (n := 0) (x := 1) rfl (zdal_p dlA_Tokens_readWord_78 (i := 0) rfl) ?_
      refine zk_getI (pc := 1) f_Tokens_28 rfl ((hf_N1_.w hW).ka (o := 1) (by decide)) (zdal_p dlA_Tokens_readWord_78 (i := 1) rfl) ?_
      refine zw_aload_n (pc := 4) (n := 0) (x := 1) rfl (zdal_p dlA_Tokens_readWord_78 (i := 2) rfl) ?_
      refine zk_getI (pc := 5) f_Tokens_20 rfl ((hf_N1_.w hW).ka (o := 1) (by decide)) (zdal_p dlA_Tokens_readWord_78 (i := 3) rfl) ?_
      rw [hf_N1_.ea hW (by decide)]
      refine zr_icmp_ge (pc := 8) (tgt := 69) ⟨(ze_r N1_ 1 3).1, (ze_r N1_ 1 3).2⟩ ⟨(ze_r Mz 1 1).1, (ze_r Mz 1 1).2⟩ (by decide) (zdal_p dlA_Tokens_readWord_78 (i := 4) rfl) (fun hc_8 => ?_) (fun hc_8 => ?_)
      · skip
        have hx_ : ze N1_ 1 3 = (zru zpL b_ n_ (ze Mz 1 2).toNat : Nat) := by first | exact zru_stop (P := zpL) (b := b_) (n := n_) (v := 0) (by omega) (Or.inl (by omega)) (by assumption) | exact zru_stop (P := zpL) (b := b_) (n := n_) (by omega) (Or.inr ⟨hbl, by assumption⟩) (by assumption)
        have hv_ := (show (ze N1_ 1 3 - ze Mz 1 2 ≤ 6 → ze N1_ 1 5 = zw2 b_ (ze Mz 1 2).toNat (ze N1_ 1 3 - ze Mz 1 2).toNat) by assumption)
        rw [show (ze N1_ 1 3 - ze Mz 1 2).toNat = zru zpL b_ n_ (ze Mz 1 2).toNat - (ze Mz 1 2).toNat by omega] at hv_
        refine zw_aload_n (pc := 69) (n := 0) (x := 1) rfl (zdal_p dlA_Tokens_readWord_79 (i := 11) rfl) ?_
        refine zw_aload_n (pc := 70) (n := 0) (x := 1) rfl (zdal_p dlA_Tokens_readWord_79 (i := 12) rfl) ?_
        refine zk_getI (pc := 71) f_Tokens_28 rfl ((hf_N1_.w hW).ka (o := 1) (by decide)) (zdal_p dlA_Tokens_readWord_79 (i := 13) rfl) ?_
        refine zw_aload_n (pc := 74) (n := 0) (x := 1) rfl (zdal_p dlA_Tokens_readWord_79 (i := 14) rfl) ?_
        refine zk_getI (pc := 75) f_Tokens_38 rfl ((hf_N1_.w hW).ka (o := 1) (by decide)) (zdal_p dlA_Tokens_readWord_79 (i := 15) rfl) ?_
        rw [hf_N1_.ea hW (by decide)]
        refine zr_isub (pc := 78) (zdal_p dlA_Tokens_readWord_79 (i := 16) rfl) ?_
        refine zw_bipush (pc := 79) (v := Int32.ofInt 6) (by decide) (zdal_p dlA_Tokens_readWord_79 (i := 17) rfl) ?_
        refine zr_icmp_gt (pc := 81) (tgt := 88) ⟨(by omega), (by omega)⟩ ⟨(by decide), (by decide)⟩ (by decide) (zdal_p dlA_Tokens_readWord_79 (i := 18) rfl) (fun hc_81 => ?_) (fun hc_81 => ?_)
        · skip
          refine zw_iconst (pc := 88) (v := Int32.ofInt 4) (by decide) (zdal_p dlA_Tokens_readWord_79 (i := 21) rfl) ?_
          refine zk_putA (pc := 89) (hf_N1_.w hW) (by decide) f_Tokens_44 rfl rfl ((hf_N1_.w hW).ka (o := 1) (by decide)) ⟨by omega, by omega⟩ rfl rfl d_Tokens_readWord_89 (fun N9_ hsN9_ hvN9_ => ?_)
          have hf_N9_ : zFc d_ [(1, 3), (1, 4), (1, 5)] [] [] [] Mz N9_ := hf_N1_.tr hsN9_ (by decide) (by decide) (by decide) (by decide)
          have eA1_1_N9_ : ze N9_ 1 1 = ze N1_ 1 1 := hsN9_.ea (hf_N1_.w hW) (by decide)
          have eA1_2_N9_ : ze N9_ 1 2 = ze N1_ 1 2 := hsN9_.ea (hf_N1_.w hW) (by decide)
          have eA1_3_N9_ : ze N9_ 1 3 = ze N1_ 1 3 := hsN9_.ea (hf_N1_.w hW) (by decide)
          have rA1_4_N9_ := ze_r N9_ 1 4
          have eA1_5_N9_ : ze N9_ 1 5 = ze N1_ 1 5 := hsN9_.ea (hf_N1_.w hW) (by decide)
          have c10_ : zYb b_ n_ N9_ := zYb.fr (hf_N1_.w hW) hsN9_ c8_ (by decide)
          exact zk_vret (pc := 92) rfl hf_N9_ ⟨(show ze N9_ 1 3 = (zru zpL b_ n_ (ze Mz 1 2).toNat : Nat) by first | assumption | omega), (show ((zru zpL b_ n_ (ze Mz 1 2).toNat : Nat) - ze Mz 1 2 ≤ 6 → ze N9_ 1 5 = zw2 b_ (ze Mz 1 2).toNat ((zru zpL b_ n_ (ze Mz 1 2).toNat) - (ze Mz 1 2).toNat)) by intro hq_; have := hv_ (by omega); omega), (show (((zru zpL b_ n_ (ze Mz 1 2).toNat : Nat) - ze Mz 1 2 ≤ 6 ∧ ze N9_ 1 4 = 1) ∨ (6 < (zru zpL b_ n_ (ze Mz 1 2).toNat : Nat) - ze Mz 1 2 ∧ ze N9_ 1 4 = 4)) by first | assumption | omega)⟩ d_Tokens_readWord_92
        · skip
          refine zw_iconst (pc := 84) (v := Int32.ofInt 1) (by decide) (zdal_p dlA_Tokens_readWord_79 (i := 19) rfl) ?_
          refine zw_goto (pc := 85) (tgt := 89) (by decide) (zdal_p dlA_Tokens_readWord_79 (i := 20) rfl) ?_
          refine zk_putA (pc := 89) (hf_N1_.w hW) (by decide) f_Tokens_44 rfl rfl ((hf_N1_.w hW).ka (o := 1) (by decide)) ⟨by omega, by omega⟩ rfl rfl d_Tokens_readWord_89 (fun N11_ hsN11_ hvN11_ => ?_)
          have hf_N11_ : zFc d_ [(1, 3), (1, 4), (1, 5)] [] [] [] Mz N11_ := hf_N1_.tr hsN11_ (by decide) (by decide) (by decide) (by decide)
          have eA1_1_N11_ : ze N11_ 1 1 = ze N1_ 1 1 := hsN11_.ea (hf_N1_.w hW) (by decide)
          have eA1_2_N11_ : ze N11_ 1 2 = ze N1_ 1 2 := hsN11_.ea (hf_N1_.w hW) (by decide)
          have eA1_3_N11_ : ze N11_ 1 3 = ze N1_ 1 3 := hsN11_.ea (hf_N1_.w hW) (by decide)
          have rA1_4_N11_ := ze_r N11_ 1 4
          have eA1_5_N11_ : ze N11_ 1 5 = ze N1_ 1 5 := hsN11_.ea (hf_N1_.w hW) (by decide)
          have c12_ : zYb b_ n_ N11_ := zYb.fr (hf_N1_.w hW) hsN11_ c8_ (by decide)
          exact zk_vret (pc := 92) rfl hf_N11_ ⟨(show ze N11_ 1 3 = (zru zpL b_ n_ (ze Mz 1 2).toNat : Nat) by first | assumption | omega), (show ((zru zpL b_ n_ (ze Mz 1 2).toNat : Nat) - ze Mz 1 2 ≤ 6 → ze N11_ 1 5 = zw2 b_ (ze Mz 1 2).toNat ((zru zpL b_ n_ (ze Mz 1 2).toNat) - (ze Mz 1 2).toNat)) by intro hq_; have := hv_ (by omega); omega), (show (((zru zpL b_ n_ (ze Mz 1 2).toNat : Nat) - ze Mz 1 2 ≤ 6 ∧ ze N11_ 1 4 = 1) ∨ (6 < (zru zpL b_ n_ (ze Mz 1 2).toNat : Nat) - ze Mz 1 2 ∧ ze N11_ 1 4 = 4)) by first | assumption | omega)⟩ d_Tokens_readWord_92
      · skip
        refine zw_aload_n (pc := 11) (n := 0) (x := 1) rfl (zdal_p dlA_Tokens_readWord_78 (i := 5) rfl) ?_
        refine zw_getF (pc := 12) f_Tokens_14 rfl ((hf_N1_.w hW).ka (o := 1) (by decide)) ((hf_N1_.w hW).la (o := 1) (s := 0) (r := 2) (by decide)) (zdal_p dlA_Tokens_readWord_78 (i := 6) rfl) ?_
        refine zw_aload_n (pc := 15) (n := 0) (x := 1) rfl (zdal_p dlA_Tokens_readWord_78 (i := 7) rfl) ?_
        refine zk_getI (pc := 16) f_Tokens_28 rfl ((hf_N1_.w hW).ka (o := 1) (by decide)) (zdal_p dlA_Tokens_readWord_78 (i := 8) rfl) ?_
        refine zk_at hf_N1_.x (pc := 19) l_Tokens_47 ((hf_N1_.w hW).ka (o := 2) (by decide)) ((hf_N1_.w hW).la (o := 2) (s := 0) (r := 3) (by decide)) ((hf_N1_.w hW).ra (o := 3) (t := 1) (n := 700) (by decide)) (by decide) (by omega) (by omega) (by decide) (Nat.le_of_ble_eq_true rfl) (zdal_p dlA_Tokens_readWord_78 (i := 9) rfl) (fun v13_ hv13_ hv13_a hv13_b => ?_)
        rw [hf_N1_.ra hW (by decide)] at hv13_
        have hbl : v13_ = b_ (ze N1_ 1 3).toNat := hv13_.trans (hb_ _ (by omega))
        refine zr_callS hf_N1_.x (pc := 22) [.int (Int32.ofInt v13_)] [] l_Tokens_50 (u_Tokens_isLetter l d_ N1_ (hf_N1_.w hW) v13_ hv13_a hv13_b) rfl rfl (by decide) (Nat.le_of_ble_eq_true rfl) (zdal_p dlA_Tokens_readWord_78 (i := 10) rfl) ?_
        rintro _ N14_ ⟨v15_, rfl, ⟨hv15_a, hv15_b⟩, hsN14_, hp0_N14_⟩
        obtain rfl := hsN14_.eq.symm
        replace hp0_N14_ : ((v15_ = 1 ∧ zpL v13_ = true) ∨ (v15_ = 0 ∧ zpL v13_ = false)) := hp0_N14_
        rcases hp0_N14_ with ⟨rfl, ha22_0_hp0_N14_⟩ | ⟨rfl, ha22_0_hp0_N14_⟩
        · skip
          show zW l m_Tokens_readWord (zn Mz + 0, zw Mz + 0) N1_ 25 [some (.ref 1)] [.int (Int32.ofInt 1)] _
          refine zr_if_eq (pc := 25) (tgt := 69) ⟨(by decide), (by decide)⟩ (by decide) (zdal_p dlA_Tokens_readWord_78 (i := 11) rfl) (fun hc_25 => ?_) (fun hc_25 => ?_)
          · skip
            exact absurd hc_25 (by decide)
          · skip
            refine zw_aload_n (pc := 28) (n := 0) (x := 1) rfl (zdal_p dlA_Tokens_readWord_78 (i := 12) rfl) ?_
            refine zw_aload_n (pc := 29) (n := 0) (x := 1) rfl (zdal_p dlA_Tokens_readWord_78 (i := 13) rfl) ?_
            refine zk_getI (pc := 30) f_Tokens_41 rfl ((hf_N1_.w hW).ka (o := 1) (by decide)) (zdal_p dlA_Tokens_readWord_78 (i := 14) rfl) ?_
            refine zw_bipush (pc := 33) (v := Int32.ofInt 27) (by decide) (zdal_p dlA_Tokens_readWord_78 (i := 15) rfl) ?_
            refine zr_imul (pc := 35) (zdal_p dlA_Tokens_readWord_78 (i := 16) rfl) ?_
            refine zw_aload_n (pc := 36) (n := 0) (x := 1) rfl (zdal_p dlA_Tokens_readWord_78 (i := 17) rfl) ?_
            refine zw_getF (pc := 37) f_Tokens_14 rfl ((hf_N1_.w hW).ka (o := 1) (by decide)) ((hf_N1_.w hW).la (o := 1) (s := 0) (r := 2) (by decide)) (zdal_p dlA_Tokens_readWord_78 (i := 18) rfl) ?_
            refine zw_aload_n (pc := 40) (n := 0) (x := 1) rfl (zdal_p dlA_Tokens_readWord_78 (i := 19) rfl) ?_
            refine zk_getI (pc := 41) f_Tokens_28 rfl ((hf_N1_.w hW).ka (o := 1) (by decide)) (zdal_p dlA_Tokens_readWord_78 (i := 20) rfl) ?_
            refine zk_at hf_N1_.x (pc := 44) l_Tokens_47 ((hf_N1_.w hW).ka (o := 2) (by decide)) ((hf_N1_.w hW).la (o := 2) (s := 0) (r := 3) (by decide)) ((hf_N1_.w hW).ra (o := 3) (t := 1) (n := 700) (by decide)) (by decide) (by omega) (by omega) (by decide) (Nat.le_of_ble_eq_true rfl) (zdal_p dlA_Tokens_readWord_78 (i := 21) rfl) (fun v16_ hv16_ hv16_a hv16_b => ?_)
            rw [hf_N1_.ra hW (by decide)] at hv16_
            have hbv : v16_ = b_ (ze N1_ 1 3).toNat := hv16_.trans (hb_ _ (by omega))
            refine zr_iadd (pc := 47) (zdal_p dlA_Tokens_readWord_78 (i := 22) rfl) ?_
            refine zw_bipush (pc := 48) (v := Int32.ofInt 97) (by decide) (zdal_p dlA_Tokens_readWord_78 (i := 23) rfl) ?_
            refine zr_isub (pc := 50) (zdal_p dlA_Tokens_readWord_79 (i := 0) rfl) ?_
            refine zw_iconst (pc := 51) (v := Int32.ofInt 1) (by decide) (zdal_p dlA_Tokens_readWord_79 (i := 1) rfl) ?_
            refine zr_iadd (pc := 52) (zdal_p dlA_Tokens_readWord_79 (i := 2) rfl) ?_
            refine zk_nmI (fun v17_ hv17_ hv17_e => ?_)
            obtain ⟨hv17_a, hv17_b⟩ := hv17_
            have hnm := hv17_e
            obtain ⟨w_, hw_⟩ : ∃ w, w = v17_ := ⟨_, rfl⟩
            rw [← hw_] at hnm
            refine zk_putA (pc := 53) (hf_N1_.w hW) (by decide) f_Tokens_41 rfl rfl ((hf_N1_.w hW).ka (o := 1) (by decide)) ⟨by omega, by omega⟩ rfl rfl (zdal_p dlA_Tokens_readWord_79 (i := 3) rfl) (fun N18_ hsN18_ hvN18_ => ?_)
            have hf_N18_ : zFc d_ [(1, 3), (1, 4), (1, 5)] [] [] [] Mz N18_ := hf_N1_.tr hsN18_ (by decide) (by decide) (by decide) (by decide)
            have hb0_N18_ : zFc d_ [(1, 3), (1, 5)] [] [] [] Mz N18_ := hs2_.tr hsN18_ (by decide) (by decide) (by decide) (by decide)
            have eA1_1_N18_ : ze N18_ 1 1 = ze N1_ 1 1 := hsN18_.ea (hf_N1_.w hW) (by decide)
            have eA1_2_N18_ : ze N18_ 1 2 = ze N1_ 1 2 := hsN18_.ea (hf_N1_.w hW) (by decide)
            have eA1_3_N18_ : ze N18_ 1 3 = ze N1_ 1 3 := hsN18_.ea (hf_N1_.w hW) (by decide)
            have eA1_4_N18_ : ze N18_ 1 4 = ze N1_ 1 4 := hsN18_.ea (hf_N1_.w hW) (by decide)
            have rA1_5_N18_ := ze_r N18_ 1 5
            have c19_ : zYb b_ n_ N18_ := zYb.fr (hf_N1_.w hW) hsN18_ c8_ (by decide)
            refine zw_aload_n (pc := 56) (n := 0) (x := 1) rfl (zdal_p dlA_Tokens_readWord_79 (i := 4) rfl) ?_
            refine zw_dup (pc := 57) rfl (zdal_p dlA_Tokens_readWord_79 (i := 5) rfl) ?_
            refine zk_getI (pc := 58) f_Tokens_28 rfl ((hf_N18_.w hW).ka (o := 1) (by decide)) (zdal_p dlA_Tokens_readWord_79 (i := 6) rfl) ?_
            refine zw_iconst (pc := 61) (v := Int32.ofInt 1) (by decide) (zdal_p dlA_Tokens_readWord_79 (i := 7) rfl) ?_
            refine zr_iadd (pc := 62) (zdal_p dlA_Tokens_readWord_79 (i := 8) rfl) ?_
            refine zk_putA (pc := 63) (hf_N18_.w hW) (by decide) f_Tokens_28 rfl rfl ((hf_N18_.w hW).ka (o := 1) (by decide)) ⟨by omega, by omega⟩ rfl rfl (zdal_p dlA_Tokens_readWord_79 (i := 9) rfl) (fun N20_ hsN20_ hvN20_ => ?_)
            have hf_N20_ : zFc d_ [(1, 3), (1, 4), (1, 5)] [] [] [] Mz N20_ := hf_N18_.tr hsN20_ (by decide) (by decide) (by decide) (by decide)
            have hb0_N20_ : zFc d_ [(1, 3), (1, 5)] [] [] [] Mz N20_ := hb0_N18_.tr hsN20_ (by decide) (by decide) (by decide) (by decide)
            have eA1_1_N20_ : ze N20_ 1 1 = ze N18_ 1 1 := hsN20_.ea (hf_N18_.w hW) (by decide)
            have eA1_2_N20_ : ze N20_ 1 2 = ze N18_ 1 2 := hsN20_.ea (hf_N18_.w hW) (by decide)
            have rA1_3_N20_ := ze_r N20_ 1 3
            have eA1_4_N20_ : ze N20_ 1 4 = ze N18_ 1 4 := hsN20_.ea (hf_N18_.w hW) (by decide)
            have eA1_5_N20_ : ze N20_ 1 5 = ze N18_ 1 5 := hsN20_.ea (hf_N18_.w hW) (by decide)
            have c21_ : zYb b_ n_ N20_ := zYb.fr (hf_N18_.w hW) hsN20_ c19_ (by decide)
            refine zw_goto (pc := 66) (tgt := 0) (by decide) (zdal_p dlA_Tokens_readWord_79 (i := 10) rfl) ?_
            have ea : ze N20_ 1 3 = ze N1_ 1 3 + 1 := by omega
            have ev : ze N20_ 1 5 = w_ := by omega
            exact ih_0 N20_ hb0_N20_ (show ze Mz 1 2 ≤ ze N20_ 1 3 by first | assumption | omega) (show ze N20_ 1 3 ≤ n_ by first | assumption | omega) (show zru zpL b_ n_ (ze N20_ 1 3).toNat = zru zpL b_ n_ (ze Mz 1 2).toNat by rw [ea]; exact zru_step (by omega) (by omega) hbl (by assumption) (by assumption)) (show (ze N20_ 1 3 - ze Mz 1 2 ≤ 6 → ze N20_ 1 5 = zw2 b_ (ze Mz 1 2).toNat (ze N20_ 1 3 - ze Mz 1 2).toNat) by rw [ea, ev]; exact zw2_step (n := n_) (by omega) (by omega) (by omega) (by assumption) (by assumption) hbv (by rw [hbv, ← hbl]; assumption) hnm) (show ∀ j : Nat, (ze Mz 1 2).toNat ≤ j → j < (ze N20_ 1 3).toNat → zpL (b_ j) = true by intro j h1 h2; rw [ea] at h2; by_cases hj : j < (ze N1_ 1 3).toNat; exact (by assumption : ∀ j : Nat, _ ≤ j → j < (ze N1_ 1 3).toNat → zpL (b_ j) = true) j h1 hj; rw [show j = (ze N1_ 1 3).toNat by omega, ← hbl]; assumption) (by omega)
        · skip
          show zW l m_Tokens_readWord (zn Mz + 0, zw Mz + 0) N1_ 25 [some (.ref 1)] [.int (Int32.ofInt 0)] _
          refine zr_if_eq (pc := 25) (tgt := 69) ⟨(by decide), (by decide)⟩ (by decide) (zdal_p dlA_Tokens_readWord_78 (i := 11) rfl) (fun hc_25 => ?_) (fun hc_25 => ?_)
          · skip
            have hx_ : ze N1_ 1 3 = (zru zpL b_ n_ (ze Mz 1 2).toNat : Nat) := by first | exact zru_stop (P := zpL) (b := b_) (n := n_) (v := 0) (by omega) (Or.inl (by omega)) (by assumption) | exact zru_stop (P := zpL) (b := b_) (n := n_) (by omega) (Or.inr ⟨hbl, by assumption⟩) (by assumption)
            have hv_ := (show (ze N1_ 1 3 - ze Mz 1 2 ≤ 6 → ze N1_ 1 5 = zw2 b_ (ze Mz 1 2).toNat (ze N1_ 1 3 - ze Mz 1 2).toNat) by assumption)
            rw [show (ze N1_ 1 3 - ze Mz 1 2).toNat = zru zpL b_ n_ (ze Mz 1 2).toNat - (ze Mz 1 2).toNat by omega] at hv_
            refine zw_aload_n (pc := 69) (n := 0) (x := 1) rfl (zdal_p dlA_Tokens_readWord_79 (i := 11) rfl) ?_
            refine zw_aload_n (pc := 70) (n := 0) (x := 1) rfl (zdal_p dlA_Tokens_readWord_79 (i := 12) rfl) ?_
            refine zk_getI (pc := 71) f_Tokens_28 rfl ((hf_N1_.w hW).ka (o := 1) (by decide)) (zdal_p dlA_Tokens_readWord_79 (i := 13) rfl) ?_
            refine zw_aload_n (pc := 74) (n := 0) (x := 1) rfl (zdal_p dlA_Tokens_readWord_79 (i := 14) rfl) ?_
            refine zk_getI (pc := 75) f_Tokens_38 rfl ((hf_N1_.w hW).ka (o := 1) (by decide)) (zdal_p dlA_Tokens_readWord_79 (i := 15) rfl) ?_
            rw [hf_N1_.ea hW (by decide)]
            refine zr_isub (pc := 78) (zdal_p dlA_Tokens_readWord_79 (i := 16) rfl) ?_
            refine zw_bipush (pc := 79) (v := Int32.ofInt 6) (by decide) (zdal_p dlA_Tokens_readWord_79 (i := 17) rfl) ?_
            refine zr_icmp_gt (pc := 81) (tgt := 88) ⟨(by omega), (by omega)⟩ ⟨(by decide), (by decide)⟩ (by decide) (zdal_p dlA_Tokens_readWord_79 (i := 18) rfl) (fun hc_81 => ?_) (fun hc_81 => ?_)
            · skip
              refine zw_iconst (pc := 88) (v := Int32.ofInt 4) (by decide) (zdal_p dlA_Tokens_readWord_79 (i := 21) rfl) ?_
              refine zk_putA (pc := 89) (hf_N1_.w hW) (by decide) f_Tokens_44 rfl rfl ((hf_N1_.w hW).ka (o := 1) (by decide)) ⟨by omega, by omega⟩ rfl rfl d_Tokens_readWord_89 (fun N22_ hsN22_ hvN22_ => ?_)
              have hf_N22_ : zFc d_ [(1, 3), (1, 4), (1, 5)] [] [] [] Mz N22_ := hf_N1_.tr hsN22_ (by decide) (by decide) (by decide) (by decide)
              have eA1_1_N22_ : ze N22_ 1 1 = ze N1_ 1 1 := hsN22_.ea (hf_N1_.w hW) (by decide)
              have eA1_2_N22_ : ze N22_ 1 2 = ze N1_ 1 2 := hsN22_.ea (hf_N1_.w hW) (by decide)
              have eA1_3_N22_ : ze N22_ 1 3 = ze N1_ 1 3 := hsN22_.ea (hf_N1_.w hW) (by decide)
              have rA1_4_N22_ := ze_r N22_ 1 4
              have eA1_5_N22_ : ze N22_ 1 5 = ze N1_ 1 5 := hsN22_.ea (hf_N1_.w hW) (by decide)
              have c23_ : zYb b_ n_ N22_ := zYb.fr (hf_N1_.w hW) hsN22_ c8_ (by decide)
              exact zk_vret (pc := 92) rfl hf_N22_ ⟨(show ze N22_ 1 3 = (zru zpL b_ n_ (ze Mz 1 2).toNat : Nat) by first | assumption | omega), (show ((zru zpL b_ n_ (ze Mz 1 2).toNat : Nat) - ze Mz 1 2 ≤ 6 → ze N22_ 1 5 = zw2 b_ (ze Mz 1 2).toNat ((zru zpL b_ n_ (ze Mz 1 2).toNat) - (ze Mz 1 2).toNat)) by intro hq_; have := hv_ (by omega); omega), (show (((zru zpL b_ n_ (ze Mz 1 2).toNat : Nat) - ze Mz 1 2 ≤ 6 ∧ ze N22_ 1 4 = 1) ∨ (6 < (zru zpL b_ n_ (ze Mz 1 2).toNat : Nat) - ze Mz 1 2 ∧ ze N22_ 1 4 = 4)) by first | assumption | omega)⟩ d_Tokens_readWord_92
            · skip
              refine zw_iconst (pc := 84) (v := Int32.ofInt 1) (by decide) (zdal_p dlA_Tokens_readWord_79 (i := 19) rfl) ?_
              refine zw_goto (pc := 85) (tgt := 89) (by decide) (zdal_p dlA_Tokens_readWord_79 (i := 20) rfl) ?_
              refine zk_putA (pc := 89) (hf_N1_.w hW) (by decide) f_Tokens_44 rfl rfl ((hf_N1_.w hW).ka (o := 1) (by decide)) ⟨by omega, by omega⟩ rfl rfl d_Tokens_readWord_89 (fun N24_ hsN24_ hvN24_ => ?_)
              have hf_N24_ : zFc d_ [(1, 3), (1, 4), (1, 5)] [] [] [] Mz N24_ := hf_N1_.tr hsN24_ (by decide) (by decide) (by decide) (by decide)
              have eA1_1_N24_ : ze N24_ 1 1 = ze N1_ 1 1 := hsN24_.ea (hf_N1_.w hW) (by decide)
              have eA1_2_N24_ : ze N24_ 1 2 = ze N1_ 1 2 := hsN24_.ea (hf_N1_.w hW) (by decide)
              have eA1_3_N24_ : ze N24_ 1 3 = ze N1_ 1 3 := hsN24_.ea (hf_N1_.w hW) (by decide)
              have rA1_4_N24_ := ze_r N24_ 1 4
              have eA1_5_N24_ : ze N24_ 1 5 = ze N1_ 1 5 := hsN24_.ea (hf_N1_.w hW) (by decide)
              have c25_ : zYb b_ n_ N24_ := zYb.fr (hf_N1_.w hW) hsN24_ c8_ (by decide)
              exact zk_vret (pc := 92) rfl hf_N24_ ⟨(show ze N24_ 1 3 = (zru zpL b_ n_ (ze Mz 1 2).toNat : Nat) by first | assumption | omega), (show ((zru zpL b_ n_ (ze Mz 1 2).toNat : Nat) - ze Mz 1 2 ≤ 6 → ze N24_ 1 5 = zw2 b_ (ze Mz 1 2).toNat ((zru zpL b_ n_ (ze Mz 1 2).toNat) - (ze Mz 1 2).toNat)) by intro hq_; have := hv_ (by omega); omega), (show (((zru zpL b_ n_ (ze Mz 1 2).toNat : Nat) - ze Mz 1 2 ≤ 6 ∧ ze N24_ 1 4 = 1) ∨ (6 < (zru zpL b_ n_ (ze Mz 1 2).toNat : Nat) - ze Mz 1 2 ∧ ze N24_ 1 4 = 4)) by first | assumption | omega)⟩ d_Tokens_readWord_92
          · skip
            exact absurd hc_25 (by decide)
  exact lp_0 _ Mz zFc.rf (show ze Mz 1 2 ≤ ze Mz 1 3 by first | assumption | omega) (show ze Mz 1 3 ≤ n_ by first | assumption | omega) (show zru zpL b_ n_ (ze Mz 1 3).toNat = zru zpL b_ n_ (ze Mz 1 2).toNat by rw [p3_]) (show (ze Mz 1 3 - ze Mz 1 2 ≤ 6 → ze Mz 1 5 = zw2 b_ (ze Mz 1 2).toNat (ze Mz 1 3 - ze Mz 1 2).toNat) by intro _; rw [show (ze Mz 1 3 - ze Mz 1 2).toNat = 0 by omega]; exact p4_) (show ∀ j : Nat, (ze Mz 1 2).toNat ≤ j → j < (ze Mz 1 3).toNat → zpL (b_ j) = true by intro j h1 h2; omega) (Nat.lt_succ_self _)
set_option maxHeartbeats 4000000 in
theorem u_Tokens_readNumber (l : Launch) (d_ : Nat) (Mz : zMem) (hW : zKW d_ Mz) (b_ : Nat → Int) (n_ : Nat) (p0_ : zYb b_ n_ Mz) (p1_ : 0 ≤ ze Mz 1 2) (p2_ : ze Mz 1 2 < n_) : zC l m_Tokens_readNumber 0 0 [.ref 1] Mz (zqcV d_ [(1, 3), (1, 4), (1, 5)] [] [] [] Mz (fun N => ze N 1 3 = (zru zpD b_ n_ (ze Mz 1 2).toNat : Nat) ∧ (zru zpD b_ n_ (ze Mz 1 2).toNat ≤ (ze Mz 1 2).toNat + 3 → ze N 1 5 = zvl b_ (ze Mz 1 2).toNat (zru zpD b_ n_ (ze Mz 1 2).toNat - (ze Mz 1 2).toNat)) ∧ (((zNok b_ n_ (ze Mz 1 2).toNat ∧ ze N 1 4 = 2) ∨ (¬ zNok b_ n_ (ze Mz 1 2).toNat ∧ ze N 1 4 = 4))))) := by
  refine zC_of (L0 := [some (.ref 1), none]) md_Tokens_readNumber (Nat.le_of_ble_eq_true rfl) rfl ?_ zQ0
  have hf : zFc d_ [(1, 3), (1, 4), (1, 5)] [] [] [] Mz Mz := zFc.rf
  have r_A1_1 := ze_r Mz 1 1
  have r_A1_2 := ze_r Mz 1 2
  have r_A1_3 := ze_r Mz 1 3
  have r_A1_4 := ze_r Mz 1 4
  have r_A1_5 := ze_r Mz 1 5
  obtain ⟨hn_, hn7_, hB_, hb_⟩ := id p0_
  have hge_ := zru_ge (P := zpD) (b := b_) (n := n_) (p := (ze Mz 1 2).toNat)
  have hle_ := zru_le (P := zpD) (b := b_) (n := n_) (p := (ze Mz 1 2).toNat) (by omega)
  refine zw_aload_n (pc := 0) (n := 0) (x := 1) rfl (zdal_p dlA_Tokens_readNumber_81 (i := 0) rfl) ?_
  refine zw_aload_n (pc := 1) (n := 0) (x := 1) rfl (zdal_p dlA_Tokens_readNumber_81 (i := 1) rfl) ?_
  refine zw_aload_n (pc := 2) (n := 0) (x := 1) rfl (zdal_p dlA_Tokens_readNumber_81 (i := 2) rfl) ?_
  refine zk_getI (pc := 3) f_Tokens_38 rfl ((hf.w hW).ka (o := 1) (by decide)) (zdal_p dlA_Tokens_readNumber_81 (i := 3) rfl) ?_
  refine zk_callV hf.x (pc := 6) [.int (Int32.ofInt (ze Mz 1 2))] [.ref 1] l_Tokens_66 (u_Tokens_pastDigits l d_ Mz (hf.w hW) (ze Mz 1 2) (ze_r Mz 1 2).1 (ze_r Mz 1 2).2 b_ n_ p0_ (show 0 ≤ (ze Mz 1 2) by first | assumption | omega) (show (ze Mz 1 2) ≤ n_ by first | assumption | omega)) rfl rfl ((hf.w hW).ka (o := 1) (by decide)) (by decide) (by decide) (Nat.le_of_ble_eq_true rfl) (zdal_p dlA_Tokens_readNumber_81 (i := 4) rfl) ?_
  rintro _ N1_ ⟨v2_, rfl, ⟨hv2_a, hv2_b⟩, hsN1_, hp0_N1_⟩
  obtain rfl := hsN1_.eq.symm
  replace hp0_N1_ : v2_ = (zru zpD b_ n_ ((ze Mz 1 2)).toNat : Nat) := hp0_N1_
  show zW l m_Tokens_readNumber (zn Mz + 0, zw Mz + 0) Mz 9 [some (.ref 1), none] [.int (Int32.ofInt v2_), .ref 1] _
  refine zk_putA (pc := 9) (hf.w hW) (by decide) f_Tokens_28 rfl rfl ((hf.w hW).ka (o := 1) (by decide)) ⟨by omega, by omega⟩ rfl rfl (zdal_p dlA_Tokens_readNumber_81 (i := 5) rfl) (fun N3_ hsN3_ hvN3_ => ?_)
  have hf_N3_ : zFc d_ [(1, 3), (1, 4), (1, 5)] [] [] [] Mz N3_ := hf.tr hsN3_ (by decide) (by decide) (by decide) (by decide)
  have eA1_1_N3_ : ze N3_ 1 1 = ze Mz 1 1 := hsN3_.ea (hf.w hW) (by decide)
  have eA1_2_N3_ : ze N3_ 1 2 = ze Mz 1 2 := hsN3_.ea (hf.w hW) (by decide)
  have rA1_3_N3_ := ze_r N3_ 1 3
  have eA1_4_N3_ : ze N3_ 1 4 = ze Mz 1 4 := hsN3_.ea (hf.w hW) (by decide)
  have eA1_5_N3_ : ze N3_ 1 5 = ze Mz 1 5 := hsN3_.ea (hf.w hW) (by decide)
  have c4_ : zYb b_ n_ N3_ := zYb.fr (hf.w hW) hsN3_ p0_ (by decide)
  refine zw_aload_n (pc := 12) (n := 0) (x := 1) rfl (zdal_p dlA_Tokens_readNumber_81 (i := 6) rfl) ?_
  refine zw_aload_n (pc := 13) (n := 0) (x := 1) rfl (zdal_p dlA_Tokens_readNumber_81 (i := 7) rfl) ?_
  refine zw_aload_n (pc := 14) (n := 0) (x := 1) rfl (zdal_p dlA_Tokens_readNumber_81 (i := 8) rfl) ?_
  refine zk_getI (pc := 15) f_Tokens_38 rfl ((hf_N3_.w hW).ka (o := 1) (by decide)) (zdal_p dlA_Tokens_readNumber_81 (i := 9) rfl) ?_
  rw [hf_N3_.ea hW (by decide)]
  refine zw_aload_n (pc := 18) (n := 0) (x := 1) rfl (zdal_p dlA_Tokens_readNumber_81 (i := 10) rfl) ?_
  refine zk_getI (pc := 19) f_Tokens_28 rfl ((hf_N3_.w hW).ka (o := 1) (by decide)) (zdal_p dlA_Tokens_readNumber_81 (i := 11) rfl) ?_
  refine zk_callV hf_N3_.x (pc := 22) [.int (Int32.ofInt (ze Mz 1 2)), .int (Int32.ofInt (ze N3_ 1 3))] [.ref 1] l_Tokens_69 (u_Tokens_numberFrom l d_ N3_ (hf_N3_.w hW) (ze Mz 1 2) (ze_r Mz 1 2).1 (ze_r Mz 1 2).2 (ze N3_ 1 3) (ze_r N3_ 1 3).1 (ze_r N3_ 1 3).2 b_ n_ c4_ (show 0 ≤ (ze Mz 1 2) by first | assumption | omega) (show (ze Mz 1 2) ≤ (ze N3_ 1 3) by first | assumption | omega) (show (ze N3_ 1 3) ≤ n_ by first | assumption | omega)) rfl rfl ((hf_N3_.w hW).ka (o := 1) (by decide)) (by decide) (by decide) (Nat.le_of_ble_eq_true rfl) (zdal_p dlA_Tokens_readNumber_81 (i := 12) rfl) ?_
  rintro _ N5_ ⟨v6_, rfl, ⟨hv6_a, hv6_b⟩, hsN5_, hp0_N5_⟩
  obtain rfl := hsN5_.eq.symm
  replace hp0_N5_ : ((ze N3_ 1 3) - (ze Mz 1 2) ≤ 6 → v6_ = zvl b_ ((ze Mz 1 2)).toNat ((ze N3_ 1 3) - (ze Mz 1 2)).toNat) := hp0_N5_
  show zW l m_Tokens_readNumber (zn Mz + 0, zw Mz + 0) N3_ 25 [some (.ref 1), none] [.int (Int32.ofInt v6_), .ref 1] _
  have hw_ := hp0_N5_
  rw [show (ze N3_ 1 3 - ze Mz 1 2).toNat = zru zpD b_ n_ (ze Mz 1 2).toNat - (ze Mz 1 2).toNat by omega] at hw_
  refine zk_putA (pc := 25) (hf_N3_.w hW) (by decide) f_Tokens_41 rfl rfl ((hf_N3_.w hW).ka (o := 1) (by decide)) ⟨by omega, by omega⟩ rfl rfl (zdal_p dlA_Tokens_readNumber_81 (i := 13) rfl) (fun N7_ hsN7_ hvN7_ => ?_)
  have hf_N7_ : zFc d_ [(1, 3), (1, 4), (1, 5)] [] [] [] Mz N7_ := hf_N3_.tr hsN7_ (by decide) (by decide) (by decide) (by decide)
  have eA1_1_N7_ : ze N7_ 1 1 = ze N3_ 1 1 := hsN7_.ea (hf_N3_.w hW) (by decide)
  have eA1_2_N7_ : ze N7_ 1 2 = ze N3_ 1 2 := hsN7_.ea (hf_N3_.w hW) (by decide)
  have eA1_3_N7_ : ze N7_ 1 3 = ze N3_ 1 3 := hsN7_.ea (hf_N3_.w hW) (by decide)
  have eA1_4_N7_ : ze N7_ 1 4 = ze N3_ 1 4 := hsN7_.ea (hf_N3_.w hW) (by decide)
  have rA1_5_N7_ := ze_r N7_ 1 5
  have c8_ : zYb b_ n_ N7_ := zYb.fr (hf_N3_.w hW) hsN7_ c4_ (by decide)
  refine zw_aload_n (pc := 28) (n := 0) (x := 1) rfl (zdal_p dlA_Tokens_readNumber_81 (i := 14) rfl) ?_
  refine zk_getI (pc := 29) f_Tokens_28 rfl ((hf_N7_.w hW).ka (o := 1) (by decide)) (zdal_p dlA_Tokens_readNumber_81 (i := 15) rfl) ?_
  refine zw_aload_n (pc := 32) (n := 0) (x := 1) rfl (zdal_p dlA_Tokens_readNumber_81 (i := 16) rfl) ?_
  refine zk_getI (pc := 33) f_Tokens_20 rfl ((hf_N7_.w hW).ka (o := 1) (by decide)) (zdal_p dlA_Tokens_readNumber_81 (i := 17) rfl) ?_
  rw [hf_N7_.ea hW (by decide)]
  refine zr_icmp_ge (pc := 36) (tgt := 60) ⟨(ze_r N7_ 1 3).1, (ze_r N7_ 1 3).2⟩ ⟨(ze_r Mz 1 1).1, (ze_r Mz 1 1).2⟩ (by decide) (zdal_p dlA_Tokens_readNumber_81 (i := 18) rfl) (fun hc_36 => ?_) (fun hc_36 => ?_)
  · skip
    refine zw_iconst (pc := 60) (v := Int32.ofInt 0) (by decide) (zdal_p dlA_Tokens_readNumber_82 (i := 4) rfl) ?_
    refine zw_istore_n (pc := 61) (i := 1) (L2 := [some (.ref 1), some (.int (Int32.ofInt 0))]) rfl (by decide) rfl d_Tokens_readNumber_61 ?_
    refine zw_aload_n (pc := 62) (n := 0) (x := 1) rfl d_Tokens_readNumber_62 ?_
    refine zw_aload_n (pc := 63) (n := 0) (x := 1) rfl d_Tokens_readNumber_63 ?_
    refine zk_getI (pc := 64) f_Tokens_28 rfl ((hf_N7_.w hW).ka (o := 1) (by decide)) d_Tokens_readNumber_64 ?_
    refine zw_aload_n (pc := 67) (n := 0) (x := 1) rfl d_Tokens_readNumber_67 ?_
    refine zk_getI (pc := 68) f_Tokens_38 rfl ((hf_N7_.w hW).ka (o := 1) (by decide)) d_Tokens_readNumber_68 ?_
    rw [hf_N7_.ea hW (by decide)]
    refine zr_isub (pc := 71) d_Tokens_readNumber_71 ?_
    refine zw_iconst (pc := 72) (v := Int32.ofInt 3) (by decide) d_Tokens_readNumber_72 ?_
    refine zr_icmp_gt (pc := 73) (tgt := 84) ⟨(by omega), (by omega)⟩ ⟨(by decide), (by decide)⟩ (by decide) d_Tokens_readNumber_73 (fun hc_73 => ?_) (fun hc_73 => ?_)
    · skip
      refine zw_iconst (pc := 84) (v := Int32.ofInt 4) (by decide) d_Tokens_readNumber_84 ?_
      refine zk_putA (pc := 85) (hf_N7_.w hW) (by decide) f_Tokens_44 rfl rfl ((hf_N7_.w hW).ka (o := 1) (by decide)) ⟨by omega, by omega⟩ rfl rfl d_Tokens_readNumber_85 (fun N9_ hsN9_ hvN9_ => ?_)
      have hf_N9_ : zFc d_ [(1, 3), (1, 4), (1, 5)] [] [] [] Mz N9_ := hf_N7_.tr hsN9_ (by decide) (by decide) (by decide) (by decide)
      have eA1_1_N9_ : ze N9_ 1 1 = ze N7_ 1 1 := hsN9_.ea (hf_N7_.w hW) (by decide)
      have eA1_2_N9_ : ze N9_ 1 2 = ze N7_ 1 2 := hsN9_.ea (hf_N7_.w hW) (by decide)
      have eA1_3_N9_ : ze N9_ 1 3 = ze N7_ 1 3 := hsN9_.ea (hf_N7_.w hW) (by decide)
      have rA1_4_N9_ := ze_r N9_ 1 4
      have eA1_5_N9_ : ze N9_ 1 5 = ze N7_ 1 5 := hsN9_.ea (hf_N7_.w hW) (by decide)
      have c10_ : zYb b_ n_ N9_ := zYb.fr (hf_N7_.w hW) hsN9_ c8_ (by decide)
      exact zk_vret (pc := 88) rfl hf_N9_ ⟨(show ze N9_ 1 3 = (zru zpD b_ n_ (ze Mz 1 2).toNat : Nat) by first | assumption | omega), (show (zru zpD b_ n_ (ze Mz 1 2).toNat ≤ (ze Mz 1 2).toNat + 3 → ze N9_ 1 5 = zvl b_ (ze Mz 1 2).toNat (zru zpD b_ n_ (ze Mz 1 2).toNat - (ze Mz 1 2).toNat)) by intro hq; have := hw_ (by omega); omega), (show ((zNok b_ n_ (ze Mz 1 2).toNat ∧ ze N9_ 1 4 = 2) ∨ (¬ zNok b_ n_ (ze Mz 1 2).toNat ∧ ze N9_ 1 4 = 4)) by first | (exfalso; omega) | (refine Or.inl ⟨⟨by omega, ?_⟩, by omega⟩; rintro ⟨q1, q2⟩; first | omega | (rw [hlf_] at q2; cases q2)) | (refine Or.inr ⟨?_, by omega⟩; rintro ⟨q1, q2⟩; first | omega | exact q2 ⟨by omega, hlt_⟩))⟩ d_Tokens_readNumber_88
    · skip
      refine zw_iload_n (pc := 76) (n := 1) (x := Int32.ofInt 0) rfl d_Tokens_readNumber_76 ?_
      refine zr_if_ne (pc := 77) (tgt := 84) ⟨(by decide), (by decide)⟩ (by decide) d_Tokens_readNumber_77 (fun hc_77 => ?_) (fun hc_77 => ?_)
      · skip
        exact absurd hc_77 (by decide)
      · skip
        refine zw_iconst (pc := 80) (v := Int32.ofInt 2) (by decide) (zdal_p dlA_Tokens_readNumber_82 (i := 16) rfl) ?_
        refine zw_goto (pc := 81) (tgt := 85) (by decide) (zdal_p dlA_Tokens_readNumber_82 (i := 17) rfl) ?_
        refine zk_putA (pc := 85) (hf_N7_.w hW) (by decide) f_Tokens_44 rfl rfl ((hf_N7_.w hW).ka (o := 1) (by decide)) ⟨by omega, by omega⟩ rfl rfl d_Tokens_readNumber_85 (fun N11_ hsN11_ hvN11_ => ?_)
        have hf_N11_ : zFc d_ [(1, 3), (1, 4), (1, 5)] [] [] [] Mz N11_ := hf_N7_.tr hsN11_ (by decide) (by decide) (by decide) (by decide)
        have eA1_1_N11_ : ze N11_ 1 1 = ze N7_ 1 1 := hsN11_.ea (hf_N7_.w hW) (by decide)
        have eA1_2_N11_ : ze N11_ 1 2 = ze N7_ 1 2 := hsN11_.ea (hf_N7_.w hW) (by decide)
        have eA1_3_N11_ : ze N11_ 1 3 = ze N7_ 1 3 := hsN11_.ea (hf_N7_.w hW) (by decide)
        have rA1_4_N11_ := ze_r N11_ 1 4
        have eA1_5_N11_ : ze N11_ 1 5 = ze N7_ 1 5 := hsN11_.ea (hf_N7_.w hW) (by decide)
        have c12_ : zYb b_ n_ N11_ := zYb.fr (hf_N7_.w hW) hsN11_ c8_ (by decide)
        exact zk_vret (pc := 88) rfl hf_N11_ ⟨(show ze N11_ 1 3 = (zru zpD b_ n_ (ze Mz 1 2).toNat : Nat) by first | assumption | omega), (show (zru zpD b_ n_ (ze Mz 1 2).toNat ≤ (ze Mz 1 2).toNat + 3 → ze N11_ 1 5 = zvl b_ (ze Mz 1 2).toNat (zru zpD b_ n_ (ze Mz 1 2).toNat - (ze Mz 1 2).toNat)) by intro hq; have := hw_ (by omega); omega), (show ((zNok b_ n_ (ze Mz 1 2).toNat ∧ ze N11_ 1 4 = 2) ∨ (¬ zNok b_ n_ (ze Mz 1 2).toNat ∧ ze N11_ 1 4 = 4)) by first | (exfalso; omega) | (refine Or.inl ⟨⟨by omega, ?_⟩, by omega⟩; rintro ⟨q1, q2⟩; first | omega | (rw [hlf_] at q2; cases q2)) | (refine Or.inr ⟨?_, by omega⟩; rintro ⟨q1, q2⟩; first | omega | exact q2 ⟨by omega, hlt_⟩))⟩ d_Tokens_readNumber_88
  · skip
    refine zw_aload_n (pc := 39) (n := 0) (x := 1) rfl (zdal_p dlA_Tokens_readNumber_81 (i := 19) rfl) ?_
    refine zw_getF (pc := 40) f_Tokens_14 rfl ((hf_N7_.w hW).ka (o := 1) (by decide)) ((hf_N7_.w hW).la (o := 1) (s := 0) (r := 2) (by decide)) (zdal_p dlA_Tokens_readNumber_81 (i := 20) rfl) ?_
    refine zw_aload_n (pc := 43) (n := 0) (x := 1) rfl (zdal_p dlA_Tokens_readNumber_81 (i := 21) rfl) ?_
    refine zk_getI (pc := 44) f_Tokens_28 rfl ((hf_N7_.w hW).ka (o := 1) (by decide)) (zdal_p dlA_Tokens_readNumber_81 (i := 22) rfl) ?_
    refine zk_at hf_N7_.x (pc := 47) l_Tokens_47 ((hf_N7_.w hW).ka (o := 2) (by decide)) ((hf_N7_.w hW).la (o := 2) (s := 0) (r := 3) (by decide)) ((hf_N7_.w hW).ra (o := 3) (t := 1) (n := 700) (by decide)) (by decide) (by omega) (by omega) (by decide) (Nat.le_of_ble_eq_true rfl) (zdal_p dlA_Tokens_readNumber_81 (i := 23) rfl) (fun v13_ hv13_ hv13_a hv13_b => ?_)
    rw [hf_N7_.ra hW (by decide)] at hv13_
    have hbv_ : v13_ = b_ (zru zpD b_ n_ (ze Mz 1 2).toNat) := (hv13_.trans (hb_ _ (by omega))).trans (by rw [show (ze N7_ 1 3).toNat = zru zpD b_ n_ (ze Mz 1 2).toNat by omega])
    refine zr_callS hf_N7_.x (pc := 50) [.int (Int32.ofInt v13_)] [] l_Tokens_50 (u_Tokens_isLetter l d_ N7_ (hf_N7_.w hW) v13_ hv13_a hv13_b) rfl rfl (by decide) (Nat.le_of_ble_eq_true rfl) (zdal_p dlA_Tokens_readNumber_82 (i := 0) rfl) ?_
    rintro _ N14_ ⟨v15_, rfl, ⟨hv15_a, hv15_b⟩, hsN14_, hp0_N14_⟩
    obtain rfl := hsN14_.eq.symm
    replace hp0_N14_ : ((v15_ = 1 ∧ zpL v13_ = true) ∨ (v15_ = 0 ∧ zpL v13_ = false)) := hp0_N14_
    rcases hp0_N14_ with ⟨rfl, ha50_0_hp0_N14_⟩ | ⟨rfl, ha50_0_hp0_N14_⟩
    · skip
      have hlt_ : zpL (b_ (zru zpD b_ n_ (ze Mz 1 2).toNat)) = true := by rw [← hbv_]; exact ha50_0_hp0_N14_
      show zW l m_Tokens_readNumber (zn Mz + 0, zw Mz + 0) N7_ 53 [some (.ref 1), none] [.int (Int32.ofInt 1)] _
      refine zr_if_eq (pc := 53) (tgt := 60) ⟨(by decide), (by decide)⟩ (by decide) (zdal_p dlA_Tokens_readNumber_82 (i := 1) rfl) (fun hc_53 => ?_) (fun hc_53 => ?_)
      · skip
        exact absurd hc_53 (by decide)
      · skip
        refine zw_iconst (pc := 56) (v := Int32.ofInt 1) (by decide) (zdal_p dlA_Tokens_readNumber_82 (i := 2) rfl) ?_
        refine zw_goto (pc := 57) (tgt := 61) (by decide) (zdal_p dlA_Tokens_readNumber_82 (i := 3) rfl) ?_
        refine zw_istore_n (pc := 61) (i := 1) (L2 := [some (.ref 1), some (.int (Int32.ofInt 1))]) rfl (by decide) rfl d_Tokens_readNumber_61 ?_
        refine zw_aload_n (pc := 62) (n := 0) (x := 1) rfl d_Tokens_readNumber_62 ?_
        refine zw_aload_n (pc := 63) (n := 0) (x := 1) rfl d_Tokens_readNumber_63 ?_
        refine zk_getI (pc := 64) f_Tokens_28 rfl ((hf_N7_.w hW).ka (o := 1) (by decide)) d_Tokens_readNumber_64 ?_
        refine zw_aload_n (pc := 67) (n := 0) (x := 1) rfl d_Tokens_readNumber_67 ?_
        refine zk_getI (pc := 68) f_Tokens_38 rfl ((hf_N7_.w hW).ka (o := 1) (by decide)) d_Tokens_readNumber_68 ?_
        rw [hf_N7_.ea hW (by decide)]
        refine zr_isub (pc := 71) d_Tokens_readNumber_71 ?_
        refine zw_iconst (pc := 72) (v := Int32.ofInt 3) (by decide) d_Tokens_readNumber_72 ?_
        refine zr_icmp_gt (pc := 73) (tgt := 84) ⟨(by omega), (by omega)⟩ ⟨(by decide), (by decide)⟩ (by decide) d_Tokens_readNumber_73 (fun hc_73 => ?_) (fun hc_73 => ?_)
        · skip
          refine zw_iconst (pc := 84) (v := Int32.ofInt 4) (by decide) d_Tokens_readNumber_84 ?_
          refine zk_putA (pc := 85) (hf_N7_.w hW) (by decide) f_Tokens_44 rfl rfl ((hf_N7_.w hW).ka (o := 1) (by decide)) ⟨by omega, by omega⟩ rfl rfl d_Tokens_readNumber_85 (fun N16_ hsN16_ hvN16_ => ?_)
          have hf_N16_ : zFc d_ [(1, 3), (1, 4), (1, 5)] [] [] [] Mz N16_ := hf_N7_.tr hsN16_ (by decide) (by decide) (by decide) (by decide)
          have eA1_1_N16_ : ze N16_ 1 1 = ze N7_ 1 1 := hsN16_.ea (hf_N7_.w hW) (by decide)
          have eA1_2_N16_ : ze N16_ 1 2 = ze N7_ 1 2 := hsN16_.ea (hf_N7_.w hW) (by decide)
          have eA1_3_N16_ : ze N16_ 1 3 = ze N7_ 1 3 := hsN16_.ea (hf_N7_.w hW) (by decide)
          have rA1_4_N16_ := ze_r N16_ 1 4
          have eA1_5_N16_ : ze N16_ 1 5 = ze N7_ 1 5 := hsN16_.ea (hf_N7_.w hW) (by decide)
          have c17_ : zYb b_ n_ N16_ := zYb.fr (hf_N7_.w hW) hsN16_ c8_ (by decide)
          exact zk_vret (pc := 88) rfl hf_N16_ ⟨(show ze N16_ 1 3 = (zru zpD b_ n_ (ze Mz 1 2).toNat : Nat) by first | assumption | omega), (show (zru zpD b_ n_ (ze Mz 1 2).toNat ≤ (ze Mz 1 2).toNat + 3 → ze N16_ 1 5 = zvl b_ (ze Mz 1 2).toNat (zru zpD b_ n_ (ze Mz 1 2).toNat - (ze Mz 1 2).toNat)) by intro hq; have := hw_ (by omega); omega), (show ((zNok b_ n_ (ze Mz 1 2).toNat ∧ ze N16_ 1 4 = 2) ∨ (¬ zNok b_ n_ (ze Mz 1 2).toNat ∧ ze N16_ 1 4 = 4)) by first | (exfalso; omega) | (refine Or.inl ⟨⟨by omega, ?_⟩, by omega⟩; rintro ⟨q1, q2⟩; first | omega | (rw [hlf_] at q2; cases q2)) | (refine Or.inr ⟨?_, by omega⟩; rintro ⟨q1, q2⟩; first | omega | exact q2 ⟨by omega, hlt_⟩))⟩ d_Tokens_readNumber_88
        · skip
          refine zw_iload_n (pc := 76) (n := 1) (x := Int32.ofInt 1) rfl d_Tokens_readNumber_76 ?_
          refine zr_if_ne (pc := 77) (tgt := 84) ⟨(by decide), (by decide)⟩ (by decide) d_Tokens_readNumber_77 (fun hc_77 => ?_) (fun hc_77 => ?_)
          · skip
            refine zw_iconst (pc := 84) (v := Int32.ofInt 4) (by decide) d_Tokens_readNumber_84 ?_
            refine zk_putA (pc := 85) (hf_N7_.w hW) (by decide) f_Tokens_44 rfl rfl ((hf_N7_.w hW).ka (o := 1) (by decide)) ⟨by omega, by omega⟩ rfl rfl d_Tokens_readNumber_85 (fun N18_ hsN18_ hvN18_ => ?_)
            have hf_N18_ : zFc d_ [(1, 3), (1, 4), (1, 5)] [] [] [] Mz N18_ := hf_N7_.tr hsN18_ (by decide) (by decide) (by decide) (by decide)
            have eA1_1_N18_ : ze N18_ 1 1 = ze N7_ 1 1 := hsN18_.ea (hf_N7_.w hW) (by decide)
            have eA1_2_N18_ : ze N18_ 1 2 = ze N7_ 1 2 := hsN18_.ea (hf_N7_.w hW) (by decide)
            have eA1_3_N18_ : ze N18_ 1 3 = ze N7_ 1 3 := hsN18_.ea (hf_N7_.w hW) (by decide)
            have rA1_4_N18_ := ze_r N18_ 1 4
            have eA1_5_N18_ : ze N18_ 1 5 = ze N7_ 1 5 := hsN18_.ea (hf_N7_.w hW) (by decide)
            have c19_ : zYb b_ n_ N18_ := zYb.fr (hf_N7_.w hW) hsN18_ c8_ (by decide)
            exact zk_vret (pc := 88) rfl hf_N18_ ⟨(show ze N18_ 1 3 = (zru zpD b_ n_ (ze Mz 1 2).toNat : Nat) by first | assumption | omega), (show (zru zpD b_ n_ (ze Mz 1 2).toNat ≤ (ze Mz 1 2).toNat + 3 → ze N18_ 1 5 = zvl b_ (ze Mz 1 2).toNat (zru zpD b_ n_ (ze Mz 1 2).toNat - (ze Mz 1 2).toNat)) by intro hq; have := hw_ (by omega); omega), (show ((zNok b_ n_ (ze Mz 1 2).toNat ∧ ze N18_ 1 4 = 2) ∨ (¬ zNok b_ n_ (ze Mz 1 2).toNat ∧ ze N18_ 1 4 = 4)) by first | (exfalso; omega) | (refine Or.inl ⟨⟨by omega, ?_⟩, by omega⟩; rintro ⟨q1, q2⟩; first | omega | (rw [hlf_] at q2; cases q2)) | (refine Or.inr ⟨?_, by omega⟩; rintro ⟨q1, q2⟩; first | omega | exact q2 ⟨by omega, hlt_⟩))⟩ d_Tokens_readNumber_88
          · skip
            exact absurd hc_77 (by decide)
    · skip
      have hlf_ : zpL (b_ (zru zpD b_ n_ (ze Mz 1 2).toNat)) = false := by rw [← hbv_]; exact ha50_0_hp0_N14_
      show zW l m_Tokens_readNumber (zn Mz + 0, zw Mz + 0) N7_ 53 [some (.ref 1), none] [.int (Int32.ofInt 0)] _
      refine zr_if_eq (pc := 53) (tgt := 60) ⟨(by decide), (by decide)⟩ (by decide) (zdal_p dlA_Tokens_readNumber_82 (i := 1) rfl) (fun hc_53 => ?_) (fun hc_53 => ?_)
      · skip
        refine zw_iconst (pc := 60) (v := Int32.ofInt 0) (by decide) (zdal_p dlA_Tokens_readNumber_82 (i := 4) rfl) ?_
        refine zw_istore_n (pc := 61) (i := 1) (L2 := [some (.ref 1), some (.int (Int32.ofInt 0))]) rfl (by decide) rfl d_Tokens_readNumber_61 ?_
        refine zw_aload_n (pc := 62) (n := 0) (x := 1) rfl d_Tokens_readNumber_62 ?_
        refine zw_aload_n (pc := 63) (n := 0) (x := 1) rfl d_Tokens_readNumber_63 ?_
        refine zk_getI (pc := 64) f_Tokens_28 rfl ((hf_N7_.w hW).ka (o := 1) (by decide)) d_Tokens_readNumber_64 ?_
        refine zw_aload_n (pc := 67) (n := 0) (x := 1) rfl d_Tokens_readNumber_67 ?_
        refine zk_getI (pc := 68) f_Tokens_38 rfl ((hf_N7_.w hW).ka (o := 1) (by decide)) d_Tokens_readNumber_68 ?_
        rw [hf_N7_.ea hW (by decide)]
        refine zr_isub (pc := 71) d_Tokens_readNumber_71 ?_
        refine zw_iconst (pc := 72) (v := Int32.ofInt 3) (by decide) d_Tokens_readNumber_72 ?_
        refine zr_icmp_gt (pc := 73) (tgt := 84) ⟨(by omega), (by omega)⟩ ⟨(by decide), (by decide)⟩ (by decide) d_Tokens_readNumber_73 (fun hc_73 => ?_) (fun hc_73 => ?_)
        · skip
          refine zw_iconst (pc := 84) (v := Int32.ofInt 4) (by decide) d_Tokens_readNumber_84 ?_
          refine zk_putA (pc := 85) (hf_N7_.w hW) (by decide) f_Tokens_44 rfl rfl ((hf_N7_.w hW).ka (o := 1) (by decide)) ⟨by omega, by omega⟩ rfl rfl d_Tokens_readNumber_85 (fun N20_ hsN20_ hvN20_ => ?_)
          have hf_N20_ : zFc d_ [(1, 3), (1, 4), (1, 5)] [] [] [] Mz N20_ := hf_N7_.tr hsN20_ (by decide) (by decide) (by decide) (by decide)
          have eA1_1_N20_ : ze N20_ 1 1 = ze N7_ 1 1 := hsN20_.ea (hf_N7_.w hW) (by decide)
          have eA1_2_N20_ : ze N20_ 1 2 = ze N7_ 1 2 := hsN20_.ea (hf_N7_.w hW) (by decide)
          have eA1_3_N20_ : ze N20_ 1 3 = ze N7_ 1 3 := hsN20_.ea (hf_N7_.w hW) (by decide)
          have rA1_4_N20_ := ze_r N20_ 1 4
          have eA1_5_N20_ : ze N20_ 1 5 = ze N7_ 1 5 := hsN20_.ea (hf_N7_.w hW) (by decide)
          have c21_ : zYb b_ n_ N20_ := zYb.fr (hf_N7_.w hW) hsN20_ c8_ (by decide)
          exact zk_vret (pc := 88) rfl hf_N20_ ⟨(show ze N20_ 1 3 = (zru zpD b_ n_ (ze Mz 1 2).toNat : Nat) by first | assumption | omega), (show (zru zpD b_ n_ (ze Mz 1 2).toNat ≤ (ze Mz 1 2).toNat + 3 → ze N20_ 1 5 = zvl b_ (ze Mz 1 2).toNat (zru zpD b_ n_ (ze Mz 1 2).toNat - (ze Mz 1 2).toNat)) by intro hq; have := hw_ (by omega); omega), (show ((zNok b_ n_ (ze Mz 1 2).toNat ∧ ze N20_ 1 4 = 2) ∨ (¬ zNok b_ n_ (ze Mz 1 2).toNat ∧ ze N20_ 1 4 = 4)) by first | (exfalso; omega) | (refine Or.inl ⟨⟨by omega, ?_⟩, by omega⟩; rintro ⟨q1, q2⟩; first | omega | (rw [hlf_] at q2; cases q2)) | (refine Or.inr ⟨?_, by omega⟩; rintro ⟨q1, q2⟩; first | omega | exact q2 ⟨by omega, hlt_⟩))⟩ d_Tokens_readNumber_88
        · skip
          refine zw_iload_n (pc := 76) (n := 1) (x := Int32.ofInt 0) rfl d_Tokens_readNumber_76 ?_
          refine zr_if_ne (pc := 77) (tgt := 84) ⟨(by decide), (by decide)⟩ (by decide) d_Tokens_readNumber_77 (fun hc_77 => ?_) (fun hc_77 => ?_)
          · skip
            exact absurd hc_77 (by decide)
          · skip
            refine zw_iconst (pc := 80) (v := Int32.ofInt 2) (by decide) (zdal_p dlA_Tokens_readNumber_82 (i := 16) rfl) ?_
            refine zw_goto (pc := 81) (tgt := 85) (by decide) (zdal_p dlA_Tokens_readNumber_82 (i := 17) rfl) ?_
            refine zk_putA (pc := 85) (hf_N7_.w hW) (by decide) f_Tokens_44 rfl rfl ((hf_N7_.w hW).ka (o := 1) (by decide)) ⟨by omega, by omega⟩ rfl rfl d_Tokens_readNumber_85 (fun N22_ hsN22_ hvN22_ => ?_)
            have hf_N22_ : zFc d_ [(1, 3), (1, 4), (1, 5)] [] [] [] Mz N22_ := hf_N7_.tr hsN22_ (by decide) (by decide) (by decide) (by decide)
            have eA1_1_N22_ : ze N22_ 1 1 = ze N7_ 1 1 := hsN22_.ea (hf_N7_.w hW) (by decide)
            have eA1_2_N22_ : ze N22_ 1 2 = ze N7_ 1 2 := hsN22_.ea (hf_N7_.w hW) (by decide)
            have eA1_3_N22_ : ze N22_ 1 3 = ze N7_ 1 3 := hsN22_.ea (hf_N7_.w hW) (by decide)
            have rA1_4_N22_ := ze_r N22_ 1 4
            have eA1_5_N22_ : ze N22_ 1 5 = ze N7_ 1 5 := hsN22_.ea (hf_N7_.w hW) (by decide)
            have c23_ : zYb b_ n_ N22_ := zYb.fr (hf_N7_.w hW) hsN22_ c8_ (by decide)
            exact zk_vret (pc := 88) rfl hf_N22_ ⟨(show ze N22_ 1 3 = (zru zpD b_ n_ (ze Mz 1 2).toNat : Nat) by first | assumption | omega), (show (zru zpD b_ n_ (ze Mz 1 2).toNat ≤ (ze Mz 1 2).toNat + 3 → ze N22_ 1 5 = zvl b_ (ze Mz 1 2).toNat (zru zpD b_ n_ (ze Mz 1 2).toNat - (ze Mz 1 2).toNat)) by intro hq; have := hw_ (by omega); omega), (show ((zNok b_ n_ (ze Mz 1 2).toNat ∧ ze N22_ 1 4 = 2) ∨ (¬ zNok b_ n_ (ze Mz 1 2).toNat ∧ ze N22_ 1 4 = 4)) by first | (exfalso; omega) | (refine Or.inl ⟨⟨by omega, ?_⟩, by omega⟩; rintro ⟨q1, q2⟩; first | omega | (rw [hlf_] at q2; cases q2)) | (refine Or.inr ⟨?_, by omega⟩; rintro ⟨q1, q2⟩; first | omega | exact q2 ⟨by omega, hlt_⟩))⟩ d_Tokens_readNumber_88
      · skip
        exact absurd hc_53 (by decide)
set_option maxHeartbeats 4000000 in
theorem u_Tokens_step (l : Launch) (d_ : Nat) (Mz : zMem) (hW : zKW d_ Mz) (b_ : Nat → Int) (n_ : Nat) (p0_ : zYb b_ n_ Mz) (p1_ : 0 ≤ ze Mz 1 3) (p2_ : ze Mz 1 3 ≤ n_) : zC l m_Tokens_step 0 0 [.ref 1] Mz (zqcV d_ [(1, 2), (1, 3), (1, 4), (1, 5)] [] [] [] Mz (fun N => ze N 1 2 = ((zru zpB b_ n_ (ze Mz 1 3).toNat) : Nat) ∧ zYt b_ n_ N)) := by
  refine zC_of (L0 := [some (.ref 1)]) md_Tokens_step (Nat.le_of_ble_eq_true rfl) rfl ?_ zQ0
  have hf : zFc d_ [(1, 2), (1, 3), (1, 4), (1, 5)] [] [] [] Mz Mz := zFc.rf
  have r_A1_1 := ze_r Mz 1 1
  have r_A1_2 := ze_r Mz 1 2
  have r_A1_3 := ze_r Mz 1 3
  have r_A1_4 := ze_r Mz 1 4
  have r_A1_5 := ze_r Mz 1 5
  obtain ⟨hn_, hn7_, hB_, hb_⟩ := id p0_
  have hge_ := zru_ge (P := zpB) (b := b_) (n := n_) (p := (ze Mz 1 3).toNat)
  have hle_ := zru_le (P := zpB) (b := b_) (n := n_) (p := (ze Mz 1 3).toNat) (by omega)
  refine zw_aload_n (pc := 0) (n := 0) (x := 1) rfl (zdal_p dlA_Tokens_step_72 (i := 0) rfl) ?_
  refine zw_aload_n (pc := 1) (n := 0) (x := 1) rfl (zdal_p dlA_Tokens_step_72 (i := 1) rfl) ?_
  refine zw_aload_n (pc := 2) (n := 0) (x := 1) rfl (zdal_p dlA_Tokens_step_72 (i := 2) rfl) ?_
  refine zk_getI (pc := 3) f_Tokens_28 rfl ((hf.w hW).ka (o := 1) (by decide)) (zdal_p dlA_Tokens_step_72 (i := 3) rfl) ?_
  refine zk_callV hf.x (pc := 6) [.int (Int32.ofInt (ze Mz 1 3))] [.ref 1] l_Tokens_34 (u_Tokens_pastBlanks l d_ Mz (hf.w hW) (ze Mz 1 3) (ze_r Mz 1 3).1 (ze_r Mz 1 3).2 b_ n_ p0_ (show 0 ≤ (ze Mz 1 3) by first | assumption | omega) (show (ze Mz 1 3) ≤ n_ by first | assumption | omega)) rfl rfl ((hf.w hW).ka (o := 1) (by decide)) (by decide) (by decide) (Nat.le_of_ble_eq_true rfl) (zdal_p dlA_Tokens_step_72 (i := 4) rfl) ?_
  rintro _ N1_ ⟨v2_, rfl, ⟨hv2_a, hv2_b⟩, hsN1_, hp0_N1_⟩
  obtain rfl := hsN1_.eq.symm
  replace hp0_N1_ : v2_ = (zru zpB b_ n_ ((ze Mz 1 3)).toNat : Nat) := hp0_N1_
  show zW l m_Tokens_step (zn Mz + 0, zw Mz + 0) Mz 9 [some (.ref 1)] [.int (Int32.ofInt v2_), .ref 1] _
  refine zk_putA (pc := 9) (hf.w hW) (by decide) f_Tokens_38 rfl rfl ((hf.w hW).ka (o := 1) (by decide)) ⟨by omega, by omega⟩ rfl rfl (zdal_p dlA_Tokens_step_72 (i := 5) rfl) (fun N3_ hsN3_ hvN3_ => ?_)
  have hf_N3_ : zFc d_ [(1, 2), (1, 3), (1, 4), (1, 5)] [] [] [] Mz N3_ := hf.tr hsN3_ (by decide) (by decide) (by decide) (by decide)
  have eA1_1_N3_ : ze N3_ 1 1 = ze Mz 1 1 := hsN3_.ea (hf.w hW) (by decide)
  have rA1_2_N3_ := ze_r N3_ 1 2
  have eA1_3_N3_ : ze N3_ 1 3 = ze Mz 1 3 := hsN3_.ea (hf.w hW) (by decide)
  have eA1_4_N3_ : ze N3_ 1 4 = ze Mz 1 4 := hsN3_.ea (hf.w hW) (by decide)
  have eA1_5_N3_ : ze N3_ 1 5 = ze Mz 1 5 := hsN3_.ea (hf.w hW) (by decide)
  have c4_ : zYb b_ n_ N3_ := zYb.fr (hf.w hW) hsN3_ p0_ (by decide)
  obtain ⟨hb1_, hb2_, hb3_, hb4_⟩ := id c4_
  refine zw_aload_n (pc := 12) (n := 0) (x := 1) rfl (zdal_p dlA_Tokens_step_72 (i := 6) rfl) ?_
  refine zw_aload_n (pc := 13) (n := 0) (x := 1) rfl (zdal_p dlA_Tokens_step_72 (i := 7) rfl) ?_
  refine zk_getI (pc := 14) f_Tokens_38 rfl ((hf_N3_.w hW).ka (o := 1) (by decide)) (zdal_p dlA_Tokens_step_72 (i := 8) rfl) ?_
  refine zk_putA (pc := 17) (hf_N3_.w hW) (by decide) f_Tokens_28 rfl rfl ((hf_N3_.w hW).ka (o := 1) (by decide)) ⟨by omega, by omega⟩ rfl rfl (zdal_p dlA_Tokens_step_72 (i := 9) rfl) (fun N5_ hsN5_ hvN5_ => ?_)
  have hf_N5_ : zFc d_ [(1, 2), (1, 3), (1, 4), (1, 5)] [] [] [] Mz N5_ := hf_N3_.tr hsN5_ (by decide) (by decide) (by decide) (by decide)
  have eA1_1_N5_ : ze N5_ 1 1 = ze N3_ 1 1 := hsN5_.ea (hf_N3_.w hW) (by decide)
  have eA1_2_N5_ : ze N5_ 1 2 = ze N3_ 1 2 := hsN5_.ea (hf_N3_.w hW) (by decide)
  have rA1_3_N5_ := ze_r N5_ 1 3
  have eA1_4_N5_ : ze N5_ 1 4 = ze N3_ 1 4 := hsN5_.ea (hf_N3_.w hW) (by decide)
  have eA1_5_N5_ : ze N5_ 1 5 = ze N3_ 1 5 := hsN5_.ea (hf_N3_.w hW) (by decide)
  have c6_ : zYb b_ n_ N5_ := zYb.fr (hf_N3_.w hW) hsN5_ c4_ (by decide)
  refine zw_aload_n (pc := 20) (n := 0) (x := 1) rfl (zdal_p dlA_Tokens_step_72 (i := 10) rfl) ?_
  refine zw_iconst (pc := 21) (v := Int32.ofInt 0) (by decide) (zdal_p dlA_Tokens_step_72 (i := 11) rfl) ?_
  refine zk_putA (pc := 22) (hf_N5_.w hW) (by decide) f_Tokens_41 rfl rfl ((hf_N5_.w hW).ka (o := 1) (by decide)) ⟨by omega, by omega⟩ rfl rfl (zdal_p dlA_Tokens_step_72 (i := 12) rfl) (fun N7_ hsN7_ hvN7_ => ?_)
  have hf_N7_ : zFc d_ [(1, 2), (1, 3), (1, 4), (1, 5)] [] [] [] Mz N7_ := hf_N5_.tr hsN7_ (by decide) (by decide) (by decide) (by decide)
  have eA1_1_N7_ : ze N7_ 1 1 = ze N5_ 1 1 := hsN7_.ea (hf_N5_.w hW) (by decide)
  have eA1_2_N7_ : ze N7_ 1 2 = ze N5_ 1 2 := hsN7_.ea (hf_N5_.w hW) (by decide)
  have eA1_3_N7_ : ze N7_ 1 3 = ze N5_ 1 3 := hsN7_.ea (hf_N5_.w hW) (by decide)
  have eA1_4_N7_ : ze N7_ 1 4 = ze N5_ 1 4 := hsN7_.ea (hf_N5_.w hW) (by decide)
  have rA1_5_N7_ := ze_r N7_ 1 5
  have c8_ : zYb b_ n_ N7_ := zYb.fr (hf_N5_.w hW) hsN7_ c6_ (by decide)
  refine zw_aload_n (pc := 25) (n := 0) (x := 1) rfl (zdal_p dlA_Tokens_step_72 (i := 13) rfl) ?_
  refine zk_getI (pc := 26) f_Tokens_38 rfl ((hf_N7_.w hW).ka (o := 1) (by decide)) (zdal_p dlA_Tokens_step_72 (i := 14) rfl) ?_
  refine zw_aload_n (pc := 29) (n := 0) (x := 1) rfl (zdal_p dlA_Tokens_step_72 (i := 15) rfl) ?_
  refine zk_getI (pc := 30) f_Tokens_20 rfl ((hf_N7_.w hW).ka (o := 1) (by decide)) (zdal_p dlA_Tokens_step_72 (i := 16) rfl) ?_
  rw [hf_N7_.ea hW (by decide)]
  refine zr_icmp_lt (pc := 33) (tgt := 44) ⟨(ze_r N7_ 1 2).1, (ze_r N7_ 1 2).2⟩ ⟨(ze_r Mz 1 1).1, (ze_r Mz 1 1).2⟩ (by decide) (zdal_p dlA_Tokens_step_72 (i := 17) rfl) (fun hc_33 => ?_) (fun hc_33 => ?_)
  · skip
    refine zw_aload_n (pc := 44) (n := 0) (x := 1) rfl (zdal_p dlA_Tokens_step_72 (i := 22) rfl) ?_
    refine zw_getF (pc := 45) f_Tokens_14 rfl ((hf_N7_.w hW).ka (o := 1) (by decide)) ((hf_N7_.w hW).la (o := 1) (s := 0) (r := 2) (by decide)) (zdal_p dlA_Tokens_step_72 (i := 23) rfl) ?_
    refine zw_aload_n (pc := 48) (n := 0) (x := 1) rfl (zdal_p dlA_Tokens_step_73 (i := 0) rfl) ?_
    refine zk_getI (pc := 49) f_Tokens_38 rfl ((hf_N7_.w hW).ka (o := 1) (by decide)) (zdal_p dlA_Tokens_step_73 (i := 1) rfl) ?_
    refine zk_at hf_N7_.x (pc := 52) l_Tokens_47 ((hf_N7_.w hW).ka (o := 2) (by decide)) ((hf_N7_.w hW).la (o := 2) (s := 0) (r := 3) (by decide)) ((hf_N7_.w hW).ra (o := 3) (t := 1) (n := 700) (by decide)) (by decide) (by omega) (by omega) (by decide) (Nat.le_of_ble_eq_true rfl) (zdal_p dlA_Tokens_step_73 (i := 2) rfl) (fun v9_ hv9_ hv9_a hv9_b => ?_)
    rw [hf_N7_.ra hW (by decide)] at hv9_
    have hbv_ : v9_ = b_ (zru zpB b_ n_ (ze Mz 1 3).toNat) := (hv9_.trans (hb_ _ (by omega))).trans (by rw [show (ze N7_ 1 2).toNat = (zru zpB b_ n_ (ze Mz 1 3).toNat) by omega])
    refine zr_callS hf_N7_.x (pc := 55) [.int (Int32.ofInt v9_)] [] l_Tokens_50 (u_Tokens_isLetter l d_ N7_ (hf_N7_.w hW) v9_ hv9_a hv9_b) rfl rfl (by decide) (Nat.le_of_ble_eq_true rfl) (zdal_p dlA_Tokens_step_73 (i := 3) rfl) ?_
    rintro _ N10_ ⟨v11_, rfl, ⟨hv11_a, hv11_b⟩, hsN10_, hp0_N10_⟩
    obtain rfl := hsN10_.eq.symm
    replace hp0_N10_ : ((v11_ = 1 ∧ zpL v9_ = true) ∨ (v11_ = 0 ∧ zpL v9_ = false)) := hp0_N10_
    rcases hp0_N10_ with ⟨rfl, ha55_0_hp0_N10_⟩ | ⟨rfl, ha55_0_hp0_N10_⟩
    · skip
      have hL_ : zpL (b_ (zru zpB b_ n_ (ze Mz 1 3).toNat)) = true := by rw [← hbv_]; exact ha55_0_hp0_N10_
      show zW l m_Tokens_step (zn Mz + 0, zw Mz + 0) N7_ 58 [some (.ref 1)] [.int (Int32.ofInt 1)] _
      refine zr_if_eq (pc := 58) (tgt := 68) ⟨(by decide), (by decide)⟩ (by decide) (zdal_p dlA_Tokens_step_73 (i := 4) rfl) (fun hc_58 => ?_) (fun hc_58 => ?_)
      · skip
        exact absurd hc_58 (by decide)
      · skip
        refine zw_aload_n (pc := 61) (n := 0) (x := 1) rfl (zdal_p dlA_Tokens_step_73 (i := 5) rfl) ?_
        refine zk_callV hf_N7_.x (pc := 62) [] [] l_Tokens_54 (u_Tokens_readWord l d_ N7_ (hf_N7_.w hW) b_ n_ c8_ (show 0 ≤ ze N7_ 1 2 by first | assumption | omega) (show ze N7_ 1 2 < n_ by first | assumption | omega) (show ze N7_ 1 3 = ze N7_ 1 2 by first | assumption | omega) (show ze N7_ 1 5 = 0 by first | assumption | omega)) rfl rfl ((hf_N7_.w hW).ka (o := 1) (by decide)) (by decide) (by decide) (Nat.le_of_ble_eq_true rfl) (zdal_p dlA_Tokens_step_73 (i := 6) rfl) ?_
        rintro _ N12_ ⟨rfl, hsN12_, ⟨hp0_N12_, hp1_N12_, hp2_N12_⟩⟩
        have hf_N12_ : zFc d_ [(1, 2), (1, 3), (1, 4), (1, 5)] [] [] [] Mz N12_ := hf_N7_.tr hsN12_ (by decide) (by decide) (by decide) (by decide)
        have eA1_1_N12_ : ze N12_ 1 1 = ze N7_ 1 1 := hsN12_.ea (hf_N7_.w hW) (by decide)
        have eA1_2_N12_ : ze N12_ 1 2 = ze N7_ 1 2 := hsN12_.ea (hf_N7_.w hW) (by decide)
        have rA1_3_N12_ := ze_r N12_ 1 3
        have rA1_4_N12_ := ze_r N12_ 1 4
        have rA1_5_N12_ := ze_r N12_ 1 5
        have c14_ : zYb b_ n_ N12_ := zYb.fr (hf_N7_.w hW) hsN12_ c8_ (by decide)
        show zW l m_Tokens_step (zn Mz + 0, zw Mz + 0) N12_ 65 [some (.ref 1)] [] _
        have hq0_ := hp0_N12_
        have hq1_ := hp1_N12_
        have hq2_ := hp2_N12_
        rw [show (ze N7_ 1 2).toNat = (zru zpB b_ n_ (ze Mz 1 3).toNat) by omega] at hq0_ hq1_ hq2_
        rw [show ze N7_ 1 2 = ((zru zpB b_ n_ (ze Mz 1 3).toNat) : Nat) by omega] at hq1_ hq2_
        have hC_ : zYt b_ n_ N12_ := zYt_L (s := (zru zpB b_ n_ (ze Mz 1 3).toNat)) (by omega) (by omega) hL_ hq0_ hq1_ hq2_
        refine zw_goto (pc := 65) (tgt := 136) (by decide) (zdal_p dlA_Tokens_step_73 (i := 7) rfl) ?_
        exact zk_vret (pc := 136) rfl hf_N12_ ⟨(show ze N12_ 1 2 = ((zru zpB b_ n_ (ze Mz 1 3).toNat) : Nat) by first | assumption | omega), hC_⟩ d_Tokens_step_136
    · skip
      have hL_ : zpL (b_ (zru zpB b_ n_ (ze Mz 1 3).toNat)) = false := by rw [← hbv_]; exact ha55_0_hp0_N10_
      show zW l m_Tokens_step (zn Mz + 0, zw Mz + 0) N7_ 58 [some (.ref 1)] [.int (Int32.ofInt 0)] _
      refine zr_if_eq (pc := 58) (tgt := 68) ⟨(by decide), (by decide)⟩ (by decide) (zdal_p dlA_Tokens_step_73 (i := 4) rfl) (fun hc_58 => ?_) (fun hc_58 => ?_)
      · skip
        refine zw_aload_n (pc := 68) (n := 0) (x := 1) rfl (zdal_p dlA_Tokens_step_73 (i := 8) rfl) ?_
        refine zw_getF (pc := 69) f_Tokens_14 rfl ((hf_N7_.w hW).ka (o := 1) (by decide)) ((hf_N7_.w hW).la (o := 1) (s := 0) (r := 2) (by decide)) (zdal_p dlA_Tokens_step_73 (i := 9) rfl) ?_
        refine zw_aload_n (pc := 72) (n := 0) (x := 1) rfl (zdal_p dlA_Tokens_step_73 (i := 10) rfl) ?_
        refine zk_getI (pc := 73) f_Tokens_38 rfl ((hf_N7_.w hW).ka (o := 1) (by decide)) (zdal_p dlA_Tokens_step_73 (i := 11) rfl) ?_
        refine zk_at hf_N7_.x (pc := 76) l_Tokens_47 ((hf_N7_.w hW).ka (o := 2) (by decide)) ((hf_N7_.w hW).la (o := 2) (s := 0) (r := 3) (by decide)) ((hf_N7_.w hW).ra (o := 3) (t := 1) (n := 700) (by decide)) (by decide) (by omega) (by omega) (by decide) (Nat.le_of_ble_eq_true rfl) (zdal_p dlA_Tokens_step_73 (i := 12) rfl) (fun v15_ hv15_ hv15_a hv15_b => ?_)
        rw [hf_N7_.ra hW (by decide)] at hv15_
        have hbw_ : v15_ = b_ (zru zpB b_ n_ (ze Mz 1 3).toNat) := (hv15_.trans (hb_ _ (by omega))).trans (by rw [show (ze N7_ 1 2).toNat = (zru zpB b_ n_ (ze Mz 1 3).toNat) by omega])
        refine zr_callS hf_N7_.x (pc := 79) [.int (Int32.ofInt v15_)] [] l_Tokens_57 (u_Tokens_isDigit l d_ N7_ (hf_N7_.w hW) v15_ hv15_a hv15_b) rfl rfl (by decide) (Nat.le_of_ble_eq_true rfl) (zdal_p dlA_Tokens_step_73 (i := 13) rfl) ?_
        rintro _ N16_ ⟨v17_, rfl, ⟨hv17_a, hv17_b⟩, hsN16_, hp0_N16_⟩
        obtain rfl := hsN16_.eq.symm
        replace hp0_N16_ : ((v17_ = 1 ∧ zpD v15_ = true) ∨ (v17_ = 0 ∧ zpD v15_ = false)) := hp0_N16_
        rcases hp0_N16_ with ⟨rfl, ha79_0_hp0_N16_⟩ | ⟨rfl, ha79_0_hp0_N16_⟩
        · skip
          have hD_ : zpD (b_ (zru zpB b_ n_ (ze Mz 1 3).toNat)) = true := by rw [← hbw_]; exact ha79_0_hp0_N16_
          show zW l m_Tokens_step (zn Mz + 0, zw Mz + 0) N7_ 82 [some (.ref 1)] [.int (Int32.ofInt 1)] _
          refine zr_if_eq (pc := 82) (tgt := 92) ⟨(by decide), (by decide)⟩ (by decide) (zdal_p dlA_Tokens_step_73 (i := 14) rfl) (fun hc_82 => ?_) (fun hc_82 => ?_)
          · skip
            exact absurd hc_82 (by decide)
          · skip
            refine zw_aload_n (pc := 85) (n := 0) (x := 1) rfl (zdal_p dlA_Tokens_step_73 (i := 15) rfl) ?_
            refine zk_callV hf_N7_.x (pc := 86) [] [] l_Tokens_60 (u_Tokens_readNumber l d_ N7_ (hf_N7_.w hW) b_ n_ c8_ (show 0 ≤ ze N7_ 1 2 by first | assumption | omega) (show ze N7_ 1 2 < n_ by first | assumption | omega)) rfl rfl ((hf_N7_.w hW).ka (o := 1) (by decide)) (by decide) (by decide) (Nat.le_of_ble_eq_true rfl) (zdal_p dlA_Tokens_step_73 (i := 16) rfl) ?_
            rintro _ N18_ ⟨rfl, hsN18_, ⟨hp0_N18_, hp1_N18_, hp2_N18_⟩⟩
            have hf_N18_ : zFc d_ [(1, 2), (1, 3), (1, 4), (1, 5)] [] [] [] Mz N18_ := hf_N7_.tr hsN18_ (by decide) (by decide) (by decide) (by decide)
            have eA1_1_N18_ : ze N18_ 1 1 = ze N7_ 1 1 := hsN18_.ea (hf_N7_.w hW) (by decide)
            have eA1_2_N18_ : ze N18_ 1 2 = ze N7_ 1 2 := hsN18_.ea (hf_N7_.w hW) (by decide)
            have rA1_3_N18_ := ze_r N18_ 1 3
            have rA1_4_N18_ := ze_r N18_ 1 4
            have rA1_5_N18_ := ze_r N18_ 1 5
            have c20_ : zYb b_ n_ N18_ := zYb.fr (hf_N7_.w hW) hsN18_ c8_ (by decide)
            show zW l m_Tokens_step (zn Mz + 0, zw Mz + 0) N18_ 89 [some (.ref 1)] [] _
            have hq0_ := hp0_N18_
            have hq1_ := hp1_N18_
            have hq2_ := hp2_N18_
            rw [show (ze N7_ 1 2).toNat = (zru zpB b_ n_ (ze Mz 1 3).toNat) by omega] at hq0_ hq1_ hq2_
            have hC_ : zYt b_ n_ N18_ := zYt_D (s := (zru zpB b_ n_ (ze Mz 1 3).toNat)) (by omega) (by omega) hL_ hD_ hq0_ hq1_ hq2_
            refine zw_goto (pc := 89) (tgt := 136) (by decide) (zdal_p dlA_Tokens_step_73 (i := 17) rfl) ?_
            exact zk_vret (pc := 136) rfl hf_N18_ ⟨(show ze N18_ 1 2 = ((zru zpB b_ n_ (ze Mz 1 3).toNat) : Nat) by first | assumption | omega), hC_⟩ d_Tokens_step_136
        · skip
          have hD_ : zpD (b_ (zru zpB b_ n_ (ze Mz 1 3).toNat)) = false := by rw [← hbw_]; exact ha79_0_hp0_N16_
          show zW l m_Tokens_step (zn Mz + 0, zw Mz + 0) N7_ 82 [some (.ref 1)] [.int (Int32.ofInt 0)] _
          refine zr_if_eq (pc := 82) (tgt := 92) ⟨(by decide), (by decide)⟩ (by decide) (zdal_p dlA_Tokens_step_73 (i := 14) rfl) (fun hc_82 => ?_) (fun hc_82 => ?_)
          · skip
            refine zw_aload_n (pc := 92) (n := 0) (x := 1) rfl (zdal_p dlA_Tokens_step_73 (i := 18) rfl) ?_
            refine zw_aload_n (pc := 93) (n := 0) (x := 1) rfl (zdal_p dlA_Tokens_step_73 (i := 19) rfl) ?_
            refine zw_getF (pc := 94) f_Tokens_14 rfl ((hf_N7_.w hW).ka (o := 1) (by decide)) ((hf_N7_.w hW).la (o := 1) (s := 0) (r := 2) (by decide)) (zdal_p dlA_Tokens_step_73 (i := 20) rfl) ?_
            refine zw_aload_n (pc := 97) (n := 0) (x := 1) rfl (zdal_p dlA_Tokens_step_73 (i := 21) rfl) ?_
            refine zk_getI (pc := 98) f_Tokens_38 rfl ((hf_N7_.w hW).ka (o := 1) (by decide)) (zdal_p dlA_Tokens_step_73 (i := 22) rfl) ?_
            refine zk_at hf_N7_.x (pc := 101) l_Tokens_47 ((hf_N7_.w hW).ka (o := 2) (by decide)) ((hf_N7_.w hW).la (o := 2) (s := 0) (r := 3) (by decide)) ((hf_N7_.w hW).ra (o := 3) (t := 1) (n := 700) (by decide)) (by decide) (by omega) (by omega) (by decide) (Nat.le_of_ble_eq_true rfl) (zdal_p dlA_Tokens_step_73 (i := 23) rfl) (fun v21_ hv21_ hv21_a hv21_b => ?_)
            rw [hf_N7_.ra hW (by decide)] at hv21_
            have hbx_ : v21_ = b_ (zru zpB b_ n_ (ze Mz 1 3).toNat) := (hv21_.trans (hb_ _ (by omega))).trans (by rw [show (ze N7_ 1 2).toNat = (zru zpB b_ n_ (ze Mz 1 3).toNat) by omega])
            refine zk_putA (pc := 104) (hf_N7_.w hW) (by decide) f_Tokens_41 rfl rfl ((hf_N7_.w hW).ka (o := 1) (by decide)) ⟨by omega, by omega⟩ rfl rfl (zdal_p dlA_Tokens_step_74 (i := 0) rfl) (fun N22_ hsN22_ hvN22_ => ?_)
            have hf_N22_ : zFc d_ [(1, 2), (1, 3), (1, 4), (1, 5)] [] [] [] Mz N22_ := hf_N7_.tr hsN22_ (by decide) (by decide) (by decide) (by decide)
            have eA1_1_N22_ : ze N22_ 1 1 = ze N7_ 1 1 := hsN22_.ea (hf_N7_.w hW) (by decide)
            have eA1_2_N22_ : ze N22_ 1 2 = ze N7_ 1 2 := hsN22_.ea (hf_N7_.w hW) (by decide)
            have eA1_3_N22_ : ze N22_ 1 3 = ze N7_ 1 3 := hsN22_.ea (hf_N7_.w hW) (by decide)
            have eA1_4_N22_ : ze N22_ 1 4 = ze N7_ 1 4 := hsN22_.ea (hf_N7_.w hW) (by decide)
            have rA1_5_N22_ := ze_r N22_ 1 5
            have c23_ : zYb b_ n_ N22_ := zYb.fr (hf_N7_.w hW) hsN22_ c8_ (by decide)
            have hvx_ := hvN22_
            refine zw_aload_n (pc := 107) (n := 0) (x := 1) rfl (zdal_p dlA_Tokens_step_74 (i := 1) rfl) ?_
            refine zw_aload_n (pc := 108) (n := 0) (x := 1) rfl (zdal_p dlA_Tokens_step_74 (i := 2) rfl) ?_
            refine zk_getI (pc := 109) f_Tokens_41 rfl ((hf_N22_.w hW).ka (o := 1) (by decide)) (zdal_p dlA_Tokens_step_74 (i := 3) rfl) ?_
            refine zr_callS hf_N22_.x (pc := 112) [.int (Int32.ofInt (ze N22_ 1 5))] [.ref 1] l_Tokens_63 (u_Tokens_isSignByte l d_ N22_ (hf_N22_.w hW) (ze N22_ 1 5) (ze_r N22_ 1 5).1 (ze_r N22_ 1 5).2) rfl rfl (by decide) (Nat.le_of_ble_eq_true rfl) (zdal_p dlA_Tokens_step_74 (i := 4) rfl) ?_
            rintro _ N24_ ⟨v25_, rfl, ⟨hv25_a, hv25_b⟩, hsN24_, hp0_N24_⟩
            obtain rfl := hsN24_.eq.symm
            replace hp0_N24_ : ((v25_ = 1 ∧ zpS (ze N22_ 1 5) = true) ∨ (v25_ = 0 ∧ zpS (ze N22_ 1 5) = false)) := hp0_N24_
            rcases hp0_N24_ with ⟨rfl, ha112_0_hp0_N24_⟩ | ⟨rfl, ha112_0_hp0_N24_⟩
            · skip
              have hs_ : zpS (b_ (zru zpB b_ n_ (ze Mz 1 3).toNat)) = true := by rw [← hbx_, ← hvx_]; exact ha112_0_hp0_N24_
              show zW l m_Tokens_step (zn Mz + 0, zw Mz + 0) N22_ 115 [some (.ref 1)] [.int (Int32.ofInt 1), .ref 1] _
              refine zr_if_eq (pc := 115) (tgt := 122) ⟨(by decide), (by decide)⟩ (by decide) (zdal_p dlA_Tokens_step_74 (i := 5) rfl) (fun hc_115 => ?_) (fun hc_115 => ?_)
              · skip
                exact absurd hc_115 (by decide)
              · skip
                refine zw_iconst (pc := 118) (v := Int32.ofInt 3) (by decide) (zdal_p dlA_Tokens_step_74 (i := 6) rfl) ?_
                refine zw_goto (pc := 119) (tgt := 123) (by decide) (zdal_p dlA_Tokens_step_74 (i := 7) rfl) ?_
                refine zk_putA (pc := 123) (hf_N22_.w hW) (by decide) f_Tokens_44 rfl rfl ((hf_N22_.w hW).ka (o := 1) (by decide)) ⟨by omega, by omega⟩ rfl rfl (zdal_p dlA_Tokens_step_74 (i := 9) rfl) (fun N26_ hsN26_ hvN26_ => ?_)
                have hf_N26_ : zFc d_ [(1, 2), (1, 3), (1, 4), (1, 5)] [] [] [] Mz N26_ := hf_N22_.tr hsN26_ (by decide) (by decide) (by decide) (by decide)
                have eA1_1_N26_ : ze N26_ 1 1 = ze N22_ 1 1 := hsN26_.ea (hf_N22_.w hW) (by decide)
                have eA1_2_N26_ : ze N26_ 1 2 = ze N22_ 1 2 := hsN26_.ea (hf_N22_.w hW) (by decide)
                have eA1_3_N26_ : ze N26_ 1 3 = ze N22_ 1 3 := hsN26_.ea (hf_N22_.w hW) (by decide)
                have rA1_4_N26_ := ze_r N26_ 1 4
                have eA1_5_N26_ : ze N26_ 1 5 = ze N22_ 1 5 := hsN26_.ea (hf_N22_.w hW) (by decide)
                have c27_ : zYb b_ n_ N26_ := zYb.fr (hf_N22_.w hW) hsN26_ c23_ (by decide)
                have hS_ : (zpS (b_ (zru zpB b_ n_ (ze Mz 1 3).toNat)) = true ∧ ze N26_ 1 4 = 3) ∨ (zpS (b_ (zru zpB b_ n_ (ze Mz 1 3).toNat)) = false ∧ ze N26_ 1 4 = 4) := by first | exact Or.inl ⟨hs_, by omega⟩ | exact Or.inr ⟨hs_, by omega⟩
                refine zw_aload_n (pc := 126) (n := 0) (x := 1) rfl (zdal_p dlA_Tokens_step_74 (i := 10) rfl) ?_
                refine zw_aload_n (pc := 127) (n := 0) (x := 1) rfl (zdal_p dlA_Tokens_step_74 (i := 11) rfl) ?_
                refine zk_getI (pc := 128) f_Tokens_38 rfl ((hf_N26_.w hW).ka (o := 1) (by decide)) (zdal_p dlA_Tokens_step_74 (i := 12) rfl) ?_
                refine zw_iconst (pc := 131) (v := Int32.ofInt 1) (by decide) (zdal_p dlA_Tokens_step_74 (i := 13) rfl) ?_
                refine zr_iadd (pc := 132) (zdal_p dlA_Tokens_step_74 (i := 14) rfl) ?_
                refine zk_putA (pc := 133) (hf_N26_.w hW) (by decide) f_Tokens_28 rfl rfl ((hf_N26_.w hW).ka (o := 1) (by decide)) ⟨by omega, by omega⟩ rfl rfl (zdal_p dlA_Tokens_step_74 (i := 15) rfl) (fun N28_ hsN28_ hvN28_ => ?_)
                have hf_N28_ : zFc d_ [(1, 2), (1, 3), (1, 4), (1, 5)] [] [] [] Mz N28_ := hf_N26_.tr hsN28_ (by decide) (by decide) (by decide) (by decide)
                have eA1_1_N28_ : ze N28_ 1 1 = ze N26_ 1 1 := hsN28_.ea (hf_N26_.w hW) (by decide)
                have eA1_2_N28_ : ze N28_ 1 2 = ze N26_ 1 2 := hsN28_.ea (hf_N26_.w hW) (by decide)
                have rA1_3_N28_ := ze_r N28_ 1 3
                have eA1_4_N28_ : ze N28_ 1 4 = ze N26_ 1 4 := hsN28_.ea (hf_N26_.w hW) (by decide)
                have eA1_5_N28_ : ze N28_ 1 5 = ze N26_ 1 5 := hsN28_.ea (hf_N26_.w hW) (by decide)
                have c29_ : zYb b_ n_ N28_ := zYb.fr (hf_N26_.w hW) hsN28_ c27_ (by decide)
                have hC_ : zYt b_ n_ N28_ := zYt_S (s := (zru zpB b_ n_ (ze Mz 1 3).toNat)) (by omega) (by omega) hL_ hD_ (by omega) (by omega) (hS_.imp (fun h_ => ⟨h_.1, by have g_ := h_.2; omega⟩) (fun h_ => ⟨h_.1, by have g_ := h_.2; omega⟩))
                exact zk_vret (pc := 136) rfl hf_N28_ ⟨(show ze N28_ 1 2 = ((zru zpB b_ n_ (ze Mz 1 3).toNat) : Nat) by first | assumption | omega), hC_⟩ d_Tokens_step_136
            · skip
              have hs_ : zpS (b_ (zru zpB b_ n_ (ze Mz 1 3).toNat)) = false := by rw [← hbx_, ← hvx_]; exact ha112_0_hp0_N24_
              show zW l m_Tokens_step (zn Mz + 0, zw Mz + 0) N22_ 115 [some (.ref 1)] [.int (Int32.ofInt 0), .ref 1] _
              refine zr_if_eq (pc := 115) (tgt := 122) ⟨(by decide), (by decide)⟩ (by decide) (zdal_p dlA_Tokens_step_74 (i := 5) rfl) (fun hc_115 => ?_) (fun hc_115 => ?_)
              · skip
                refine zw_iconst (pc := 122) (v := Int32.ofInt 4) (by decide) (zdal_p dlA_Tokens_step_74 (i := 8) rfl) ?_
                refine zk_putA (pc := 123) (hf_N22_.w hW) (by decide) f_Tokens_44 rfl rfl ((hf_N22_.w hW).ka (o := 1) (by decide)) ⟨by omega, by omega⟩ rfl rfl (zdal_p dlA_Tokens_step_74 (i := 9) rfl) (fun N30_ hsN30_ hvN30_ => ?_)
                have hf_N30_ : zFc d_ [(1, 2), (1, 3), (1, 4), (1, 5)] [] [] [] Mz N30_ := hf_N22_.tr hsN30_ (by decide) (by decide) (by decide) (by decide)
                have eA1_1_N30_ : ze N30_ 1 1 = ze N22_ 1 1 := hsN30_.ea (hf_N22_.w hW) (by decide)
                have eA1_2_N30_ : ze N30_ 1 2 = ze N22_ 1 2 := hsN30_.ea (hf_N22_.w hW) (by decide)
                have eA1_3_N30_ : ze N30_ 1 3 = ze N22_ 1 3 := hsN30_.ea (hf_N22_.w hW) (by decide)
                have rA1_4_N30_ := ze_r N30_ 1 4
                have eA1_5_N30_ : ze N30_ 1 5 = ze N22_ 1 5 := hsN30_.ea (hf_N22_.w hW) (by decide)
                have c31_ : zYb b_ n_ N30_ := zYb.fr (hf_N22_.w hW) hsN30_ c23_ (by decide)
                have hS_ : (zpS (b_ (zru zpB b_ n_ (ze Mz 1 3).toNat)) = true ∧ ze N30_ 1 4 = 3) ∨ (zpS (b_ (zru zpB b_ n_ (ze Mz 1 3).toNat)) = false ∧ ze N30_ 1 4 = 4) := by first | exact Or.inl ⟨hs_, by omega⟩ | exact Or.inr ⟨hs_, by omega⟩
                refine zw_aload_n (pc := 126) (n := 0) (x := 1) rfl (zdal_p dlA_Tokens_step_74 (i := 10) rfl) ?_
                refine zw_aload_n (pc := 127) (n := 0) (x := 1) rfl (zdal_p dlA_Tokens_step_74 (i := 11) rfl) ?_
                refine zk_getI (pc := 128) f_Tokens_38 rfl ((hf_N30_.w hW).ka (o := 1) (by decide)) (zdal_p dlA_Tokens_step_74 (i := 12) rfl) ?_
                refine zw_iconst (pc := 131) (v := Int32.ofInt 1) (by decide) (zdal_p dlA_Tokens_step_74 (i := 13) rfl) ?_
                refine zr_iadd (pc := 132) (zdal_p dlA_Tokens_step_74 (i := 14) rfl) ?_
                refine zk_putA (pc := 133) (hf_N30_.w hW) (by decide) f_Tokens_28 rfl rfl ((hf_N30_.w hW).ka (o := 1) (by decide)) ⟨by omega, by omega⟩ rfl rfl (zdal_p dlA_Tokens_step_74 (i := 15) rfl) (fun N32_ hsN32_ hvN32_ => ?_)
                have hf_N32_ : zFc d_ [(1, 2), (1, 3), (1, 4), (1, 5)] [] [] [] Mz N32_ := hf_N30_.tr hsN32_ (by decide) (by decide) (by decide) (by decide)
                have eA1_1_N32_ : ze N32_ 1 1 = ze N30_ 1 1 := hsN32_.ea (hf_N30_.w hW) (by decide)
                have eA1_2_N32_ : ze N32_ 1 2 = ze N30_ 1 2 := hsN32_.ea (hf_N30_.w hW) (by decide)
                have rA1_3_N32_ := ze_r N32_ 1 3
                have eA1_4_N32_ : ze N32_ 1 4 = ze N30_ 1 4 := hsN32_.ea (hf_N30_.w hW) (by decide)
                have eA1_5_N32_ : ze N32_ 1 5 = ze N30_ 1 5 := hsN32_.ea (hf_N30_.w hW) (by decide)
                have c33_ : zYb b_ n_ N32_ := zYb.fr (hf_N30_.w hW) hsN32_ c31_ (by decide)
                have hC_ : zYt b_ n_ N32_ := zYt_S (s := (zru zpB b_ n_ (ze Mz 1 3).toNat)) (by omega) (by omega) hL_ hD_ (by omega) (by omega) (hS_.imp (fun h_ => ⟨h_.1, by have g_ := h_.2; omega⟩) (fun h_ => ⟨h_.1, by have g_ := h_.2; omega⟩))
                exact zk_vret (pc := 136) rfl hf_N32_ ⟨(show ze N32_ 1 2 = ((zru zpB b_ n_ (ze Mz 1 3).toNat) : Nat) by first | assumption | omega), hC_⟩ d_Tokens_step_136
              · skip
                exact absurd hc_115 (by decide)
          · skip
            exact absurd hc_82 (by decide)
      · skip
        exact absurd hc_58 (by decide)
  · skip
    refine zw_aload_n (pc := 36) (n := 0) (x := 1) rfl (zdal_p dlA_Tokens_step_72 (i := 18) rfl) ?_
    refine zw_iconst (pc := 37) (v := Int32.ofInt 0) (by decide) (zdal_p dlA_Tokens_step_72 (i := 19) rfl) ?_
    refine zk_putA (pc := 38) (hf_N7_.w hW) (by decide) f_Tokens_44 rfl rfl ((hf_N7_.w hW).ka (o := 1) (by decide)) ⟨by omega, by omega⟩ rfl rfl (zdal_p dlA_Tokens_step_72 (i := 20) rfl) (fun N34_ hsN34_ hvN34_ => ?_)
    have hf_N34_ : zFc d_ [(1, 2), (1, 3), (1, 4), (1, 5)] [] [] [] Mz N34_ := hf_N7_.tr hsN34_ (by decide) (by decide) (by decide) (by decide)
    have eA1_1_N34_ : ze N34_ 1 1 = ze N7_ 1 1 := hsN34_.ea (hf_N7_.w hW) (by decide)
    have eA1_2_N34_ : ze N34_ 1 2 = ze N7_ 1 2 := hsN34_.ea (hf_N7_.w hW) (by decide)
    have eA1_3_N34_ : ze N34_ 1 3 = ze N7_ 1 3 := hsN34_.ea (hf_N7_.w hW) (by decide)
    have rA1_4_N34_ := ze_r N34_ 1 4
    have eA1_5_N34_ : ze N34_ 1 5 = ze N7_ 1 5 := hsN34_.ea (hf_N7_.w hW) (by decide)
    have c35_ : zYb b_ n_ N34_ := zYb.fr (hf_N7_.w hW) hsN34_ c8_ (by decide)
    have hC_ : zYt b_ n_ N34_ := zYt_0 (s := (zru zpB b_ n_ (ze Mz 1 3).toNat)) (by omega) (by omega) (by omega) (by omega)
    refine zw_goto (pc := 41) (tgt := 136) (by decide) (zdal_p dlA_Tokens_step_72 (i := 21) rfl) ?_
    exact zk_vret (pc := 136) rfl hf_N34_ ⟨(show ze N34_ 1 2 = ((zru zpB b_ n_ (ze Mz 1 3).toNat) : Nat) by first | assumption | omega), hC_⟩ d_Tokens_step_136
set_option maxHeartbeats 4000000 in
theorem u_Tokens_rewind (l : Launch) (d_ : Nat) (Mz : zMem) (hW : zKW d_ Mz) (b_ : Nat → Int) (n_ : Nat) (p0_ : zYb b_ n_ Mz) : zC l m_Tokens_rewind 0 0 [.ref 1] Mz (zqcV d_ [(1, 2), (1, 3), (1, 4), (1, 5)] [] [] [] Mz (fun N => ze N 1 2 = (zru zpB b_ n_ 0 : Nat) ∧ zYt b_ n_ N)) := by
  refine zC_of (L0 := [some (.ref 1)]) md_Tokens_rewind (Nat.le_of_ble_eq_true rfl) rfl ?_ zQ0
  have hf : zFc d_ [(1, 2), (1, 3), (1, 4), (1, 5)] [] [] [] Mz Mz := zFc.rf
  have r_A1_2 := ze_r Mz 1 2
  have r_A1_3 := ze_r Mz 1 3
  obtain ⟨hn_, hn7_, hB_, hb_⟩ := id p0_
  refine zw_aload_n (pc := 0) (n := 0) (x := 1) rfl (zdal_p dlA_Tokens_rewind_71 (i := 0) rfl) ?_
  refine zw_iconst (pc := 1) (v := Int32.ofInt 0) (by decide) (zdal_p dlA_Tokens_rewind_71 (i := 1) rfl) ?_
  refine zk_putA (pc := 2) (hf.w hW) (by decide) f_Tokens_28 rfl rfl ((hf.w hW).ka (o := 1) (by decide)) ⟨by omega, by omega⟩ rfl rfl (zdal_p dlA_Tokens_rewind_71 (i := 2) rfl) (fun N1_ hsN1_ hvN1_ => ?_)
  have hf_N1_ : zFc d_ [(1, 2), (1, 3), (1, 4), (1, 5)] [] [] [] Mz N1_ := hf.tr hsN1_ (by decide) (by decide) (by decide) (by decide)
  have eA1_2_N1_ : ze N1_ 1 2 = ze Mz 1 2 := hsN1_.ea (hf.w hW) (by decide)
  have rA1_3_N1_ := ze_r N1_ 1 3
  have c2_ : zYb b_ n_ N1_ := zYb.fr (hf.w hW) hsN1_ p0_ (by decide)
  refine zw_aload_n (pc := 5) (n := 0) (x := 1) rfl (zdal_p dlA_Tokens_rewind_71 (i := 3) rfl) ?_
  refine zk_callV hf_N1_.x (pc := 6) [] [] l_Tokens_31 (u_Tokens_step l d_ N1_ (hf_N1_.w hW) b_ n_ c2_ (show 0 ≤ ze N1_ 1 3 by first | assumption | omega) (show ze N1_ 1 3 ≤ n_ by first | assumption | omega)) rfl rfl ((hf_N1_.w hW).ka (o := 1) (by decide)) (by decide) (by decide) (Nat.le_of_ble_eq_true rfl) (zdal_p dlA_Tokens_rewind_71 (i := 4) rfl) ?_
  rintro _ N3_ ⟨rfl, hsN3_, ⟨hp0_N3_, hp1_N3_⟩⟩
  have hf_N3_ : zFc d_ [(1, 2), (1, 3), (1, 4), (1, 5)] [] [] [] Mz N3_ := hf_N1_.tr hsN3_ (by decide) (by decide) (by decide) (by decide)
  have rA1_2_N3_ := ze_r N3_ 1 2
  have rA1_3_N3_ := ze_r N3_ 1 3
  have c5_ : zYb b_ n_ N3_ := zYb.fr (hf_N1_.w hW) hsN3_ c2_ (by decide)
  show zW l m_Tokens_rewind (zn Mz + 0, zw Mz + 0) N3_ 9 [some (.ref 1)] [] _
  have hq0_ := hp0_N3_
  rw [show (ze N1_ 1 3).toNat = 0 by omega] at hq0_
  exact zk_vret (pc := 9) rfl hf_N3_ ⟨(show ze N3_ 1 2 = (zru zpB b_ n_ 0 : Nat) by exact hq0_), hp1_N3_⟩ (zdal_p dlA_Tokens_rewind_71 (i := 5) rfl)
set_option maxHeartbeats 4000000 in
theorem u_Tokens_isNumber (l : Launch) (d_ : Nat) (Mz : zMem) (hW : zKW d_ Mz) (b_ : Nat → Int) (n_ : Nat) (p0_ : zYt b_ n_ Mz) : zC l m_Tokens_isNumber 0 0 [.ref 1] Mz (zqcI d_ [] [] [] [] Mz (fun v N => (((v = 1 ∧ zkd b_ n_ (ze Mz 1 2).toNat = 2) ∨ (v = 0 ∧ zkd b_ n_ (ze Mz 1 2).toNat ≠ 2))))) := by
  refine zC_of (L0 := [some (.ref 1)]) md_Tokens_isNumber (Nat.le_of_ble_eq_true rfl) rfl ?_ zQ0
  have hf : zFc d_ [] [] [] [] Mz Mz := zFc.rf
  have r_A1_2 := ze_r Mz 1 2
  have r_A1_4 := ze_r Mz 1 4
  obtain ⟨t1_, t2_, t3_, t4_, t5_, t6_⟩ := id p0_
  refine zw_aload_n (pc := 0) (n := 0) (x := 1) rfl (zdal_p dlA_Tokens_isNumber_93 (i := 0) rfl) ?_
  refine zk_getI (pc := 1) f_Tokens_44 rfl ((hf.w hW).ka (o := 1) (by decide)) (zdal_p dlA_Tokens_isNumber_93 (i := 1) rfl) ?_
  refine zw_iconst (pc := 4) (v := Int32.ofInt 2) (by decide) (zdal_p dlA_Tokens_isNumber_93 (i := 2) rfl) ?_
  refine zr_icmp_ne (pc := 5) (tgt := 12) ⟨(ze_r Mz 1 4).1, (ze_r Mz 1 4).2⟩ ⟨(by decide), (by decide)⟩ (by decide) (zdal_p dlA_Tokens_isNumber_93 (i := 3) rfl) (fun hc_5 => ?_) (fun hc_5 => ?_)
  · skip
    refine zw_iconst (pc := 12) (v := Int32.ofInt 0) (by decide) (zdal_p dlA_Tokens_isNumber_93 (i := 6) rfl) ?_
    exact zk_iret (pc := 13) (ty := .boolean) rfl (z_narB (by omega)) ⟨by omega, by omega⟩ hf (show ((0 = 1 ∧ zkd b_ n_ (ze Mz 1 2).toNat = 2) ∨ (0 = 0 ∧ zkd b_ n_ (ze Mz 1 2).toNat ≠ 2)) from Or.inr (⟨(show 0 = 0 by first | assumption | omega), (show zkd b_ n_ (ze Mz 1 2).toNat ≠ 2 by first | assumption | omega)⟩)) (zdal_p dlA_Tokens_isNumber_93 (i := 7) rfl)
  · skip
    refine zw_iconst (pc := 8) (v := Int32.ofInt 1) (by decide) (zdal_p dlA_Tokens_isNumber_93 (i := 4) rfl) ?_
    refine zw_goto (pc := 9) (tgt := 13) (by decide) (zdal_p dlA_Tokens_isNumber_93 (i := 5) rfl) ?_
    exact zk_iret (pc := 13) (ty := .boolean) rfl (z_narB (by omega)) ⟨by omega, by omega⟩ hf (show ((1 = 1 ∧ zkd b_ n_ (ze Mz 1 2).toNat = 2) ∨ (1 = 0 ∧ zkd b_ n_ (ze Mz 1 2).toNat ≠ 2)) from Or.inl (⟨(show 1 = 1 by first | assumption | omega), (show zkd b_ n_ (ze Mz 1 2).toNat = 2 by first | assumption | omega)⟩)) (zdal_p dlA_Tokens_isNumber_93 (i := 7) rfl)
set_option maxHeartbeats 4000000 in
theorem u_Tokens_isSign (l : Launch) (d_ : Nat) (Mz : zMem) (hW : zKW d_ Mz) (a0_ : Int) (ha0_a : -2147483648 ≤ a0_) (ha0_b : a0_ < 2147483648) (b_ : Nat → Int) (n_ : Nat) (p0_ : zYt b_ n_ Mz) : zC l m_Tokens_isSign 0 0 [.ref 1, .int (Int32.ofInt a0_)] Mz (zqcI d_ [] [] [] [] Mz (fun v N => (((v = 1 ∧ zkd b_ n_ (ze Mz 1 2).toNat = 3 ∧ b_ (ze Mz 1 2).toNat = a0_) ∨ (v = 0 ∧ ¬ (zkd b_ n_ (ze Mz 1 2).toNat = 3 ∧ b_ (ze Mz 1 2).toNat = a0_)))))) := by
  refine zC_of (L0 := [some (.ref 1), some (.int (Int32.ofInt a0_))]) md_Tokens_isSign (Nat.le_of_ble_eq_true rfl) rfl ?_ zQ0
  have hf : zFc d_ [] [] [] [] Mz Mz := zFc.rf
  have r_A1_2 := ze_r Mz 1 2
  have r_A1_4 := ze_r Mz 1 4
  have r_A1_5 := ze_r Mz 1 5
  obtain ⟨t1_, t2_, t3_, t4_, t5_, t6_⟩ := id p0_
  refine zw_aload_n (pc := 0) (n := 0) (x := 1) rfl (zdal_p dlA_Tokens_isSign_95 (i := 0) rfl) ?_
  refine zk_getI (pc := 1) f_Tokens_44 rfl ((hf.w hW).ka (o := 1) (by decide)) (zdal_p dlA_Tokens_isSign_95 (i := 1) rfl) ?_
  refine zw_iconst (pc := 4) (v := Int32.ofInt 3) (by decide) (zdal_p dlA_Tokens_isSign_95 (i := 2) rfl) ?_
  refine zr_icmp_ne (pc := 5) (tgt := 20) ⟨(ze_r Mz 1 4).1, (ze_r Mz 1 4).2⟩ ⟨(by decide), (by decide)⟩ (by decide) (zdal_p dlA_Tokens_isSign_95 (i := 3) rfl) (fun hc_5 => ?_) (fun hc_5 => ?_)
  · skip
    refine zw_iconst (pc := 20) (v := Int32.ofInt 0) (by decide) (zdal_p dlA_Tokens_isSign_95 (i := 10) rfl) ?_
    exact zk_iret (pc := 21) (ty := .boolean) rfl (z_narB (by omega)) ⟨by omega, by omega⟩ hf (show ((0 = 1 ∧ zkd b_ n_ (ze Mz 1 2).toNat = 3 ∧ b_ (ze Mz 1 2).toNat = a0_) ∨ (0 = 0 ∧ ¬ (zkd b_ n_ (ze Mz 1 2).toNat = 3 ∧ b_ (ze Mz 1 2).toNat = a0_))) from Or.inr (⟨(show 0 = 0 by first | omega | (rintro ⟨q1, q2⟩; have := t6_ q1; omega)), (show ¬ (zkd b_ n_ (ze Mz 1 2).toNat = 3 ∧ b_ (ze Mz 1 2).toNat = a0_) by first | omega | (rintro ⟨q1, q2⟩; have := t6_ q1; omega))⟩)) d_Tokens_isSign_21
  · skip
    refine zw_aload_n (pc := 8) (n := 0) (x := 1) rfl (zdal_p dlA_Tokens_isSign_95 (i := 4) rfl) ?_
    refine zk_getI (pc := 9) f_Tokens_41 rfl ((hf.w hW).ka (o := 1) (by decide)) (zdal_p dlA_Tokens_isSign_95 (i := 5) rfl) ?_
    refine zw_iload_n (pc := 12) (n := 1) (x := Int32.ofInt a0_) rfl (zdal_p dlA_Tokens_isSign_95 (i := 6) rfl) ?_
    refine zr_icmp_ne (pc := 13) (tgt := 20) ⟨(ze_r Mz 1 5).1, (ze_r Mz 1 5).2⟩ ⟨ha0_a, ha0_b⟩ (by decide) (zdal_p dlA_Tokens_isSign_95 (i := 7) rfl) (fun hc_13 => ?_) (fun hc_13 => ?_)
    · skip
      refine zw_iconst (pc := 20) (v := Int32.ofInt 0) (by decide) (zdal_p dlA_Tokens_isSign_95 (i := 10) rfl) ?_
      exact zk_iret (pc := 21) (ty := .boolean) rfl (z_narB (by omega)) ⟨by omega, by omega⟩ hf (show ((0 = 1 ∧ zkd b_ n_ (ze Mz 1 2).toNat = 3 ∧ b_ (ze Mz 1 2).toNat = a0_) ∨ (0 = 0 ∧ ¬ (zkd b_ n_ (ze Mz 1 2).toNat = 3 ∧ b_ (ze Mz 1 2).toNat = a0_))) from Or.inr (⟨(show 0 = 0 by first | omega | (rintro ⟨q1, q2⟩; have := t6_ q1; omega)), (show ¬ (zkd b_ n_ (ze Mz 1 2).toNat = 3 ∧ b_ (ze Mz 1 2).toNat = a0_) by first | omega | (rintro ⟨q1, q2⟩; have := t6_ q1; omega))⟩)) d_Tokens_isSign_21
    · skip
      refine zw_iconst (pc := 16) (v := Int32.ofInt 1) (by decide) (zdal_p dlA_Tokens_isSign_95 (i := 8) rfl) ?_
      refine zw_goto (pc := 17) (tgt := 21) (by decide) (zdal_p dlA_Tokens_isSign_95 (i := 9) rfl) ?_
      exact zk_iret (pc := 21) (ty := .boolean) rfl (z_narB (by omega)) ⟨by omega, by omega⟩ hf (show ((1 = 1 ∧ zkd b_ n_ (ze Mz 1 2).toNat = 3 ∧ b_ (ze Mz 1 2).toNat = a0_) ∨ (1 = 0 ∧ ¬ (zkd b_ n_ (ze Mz 1 2).toNat = 3 ∧ b_ (ze Mz 1 2).toNat = a0_))) from Or.inl (⟨(show 1 = 1 by first | omega | (have := t6_ (by omega); omega)), (show zkd b_ n_ (ze Mz 1 2).toNat = 3 by first | omega | (have := t6_ (by omega); omega)), (show b_ (ze Mz 1 2).toNat = a0_ by first | omega | (have := t6_ (by omega); omega))⟩)) d_Tokens_isSign_21
