def zEn (T : zGT) (f : Nat → Nat) (m : Nat) : Prop := (∀ k, k < m → f k ∈ gS T) ∧ (∀ s, s ∈ gS T → ∃ k, k < m ∧ f k = s) ∧ ∀ i j, i < j → j < m → f i ≠ f j
noncomputable def zPb (p : Prop) : Bool := @decide p (Classical.propDecidable p)
theorem zPb_t {p : Prop} : zPb p = true ↔ p := @decide_eq_true_iff p (Classical.propDecidable p)
theorem zct_l (p : Nat → Prop) : ∀ m, zct p m = ((List.range m).filter (fun k => zPb (p k))).length
  | 0 => rfl
  | m + 1 => by
    have ih := zct_l p m
    rw [List.range_succ, List.filter_append, List.length_append, ← ih]
    by_cases h : p m
    · rw [zct_t h]
      have : List.filter (fun k => zPb (p k)) [m] = [m] := List.filter_cons_of_pos (zPb_t.mpr h)
      rw [this]
      rfl
    · rw [zct_f h]
      have : List.filter (fun k => zPb (p k)) [m] = [] := List.filter_cons_of_neg (fun q => h (zPb_t.mp q))
      rw [this]
      rfl
theorem zct_el {T : zGT} {f f' : Nat → Nat} {m m' : Nat} (p : Nat → Prop) (h : zEn T f m) (h' : zEn T f' m') : zct (fun k => p (f k)) m ≤ zct (fun k => p (f' k)) m' := by
  obtain ⟨a1, a2, a3⟩ := h
  obtain ⟨b1, b2, b3⟩ := h'
  rw [zct_l, zct_l]
  have h1 := nodup_len (((List.range m).filter (fun k => zPb (p (f k)))).map f) (((List.range m').filter (fun k => zPb (p (f' k)))).map f') (by
    rw [List.Nodup, List.pairwise_map]
    refine List.Pairwise.imp_of_mem ?_ (List.Pairwise.filter _ (List.pairwise_lt_range (n := m)))
    intro i j hi hj hij
    have hj2 := (List.mem_filter.mp hj).1
    rw [List.mem_range] at hj2
    exact a3 i j hij hj2) (fun x hx => by
    obtain ⟨k, hk, rfl⟩ := List.mem_map.mp hx
    obtain ⟨hk1, hk2⟩ := List.mem_filter.mp hk
    rw [List.mem_range] at hk1
    have hk2 := zPb_t.mp hk2
    obtain ⟨j, hj, e⟩ := b2 _ (a1 k hk1)
    refine List.mem_map.mpr ⟨j, List.mem_filter.mpr ⟨List.mem_range.mpr hj, zPb_t.mpr ?_⟩, e⟩
    rw [e]
    exact hk2)
  rw [List.length_map, List.length_map] at h1
  exact h1
theorem zct_en {T : zGT} {f f' : Nat → Nat} {m m' : Nat} (p : Nat → Prop) (h : zEn T f m) (h' : zEn T f' m') : zct (fun k => p (f k)) m = zct (fun k => p (f' k)) m' := Nat.le_antisymm (zct_el p h h') (zct_el p h' h)
theorem zLs.en {T : zGT} {f : Nat → Int} {m : Int} (h : zLs T f m) : zEn T (fun k => (f k).toNat) m.toNat := by
  obtain ⟨a1, a2, a3, a4⟩ := h
  refine ⟨fun k hk => (a2 k (by omega)).2, fun s hs => ?_, fun i j hij hj e => ?_⟩
  · obtain ⟨j, hj, e⟩ := a3 s hs
    exact ⟨j, by omega, e⟩
  · have h1 := a4 i j hij (by omega)
    have e2 : (f i).toNat = (f j).toNat := e
    unfold zkyK at h1
    rw [e2] at h1
    omega
theorem zJX.en {T : zGT} (hO : gOK T) {M : zMem} (h : zJX T M) : zEn T (fun k => (ze M 89 k).toNat) (ze M 81 25).toNat := by
  have h3 := h.1
  refine ⟨fun k hk => (h3.2.2.1 k (by omega)).2, fun s hs => ?_, fun i j hij hj e => ?_⟩
  · obtain ⟨q1, q2, q3⟩ := (hO.2.1.2.2 s hs).1
    obtain ⟨k, hk, e⟩ := zJ_all h.1 h.2 q2 q3
    refine ⟨k, by omega, ?_⟩
    show (ze M 89 k).toNat = s
    omega
  · have a1 := (h3.2.2.1 i (by omega)).1
    have a2 := (h3.2.2.1 j (by omega)).1
    exact h3.2.2.2 i j hij (by omega) (by have e2 : (ze M 89 i).toNat = (ze M 89 j).toNat := e; omega)
def gWi (T : zGT) (i : Int) (F : Nat) (s : Nat) : Prop := zSrt T s i ∧ s &&& F = s
def zfWi (T : zGT) (i : Int) (F : Nat) (v : Int) : Prop := ∃ f m, zEn T f m ∧ v = ((zct (fun k => gWi T i F (f k)) m : Nat) : Int)
theorem zfWi.u {T : zGT} {i : Int} {F : Nat} {v w : Int} (h : zfWi T i F v) (h2 : zfWi T i F w) : v = w := by
  obtain ⟨f, m, a1, rfl⟩ := h
  obtain ⟨f', m', b1, rfl⟩ := h2
  rw [zct_en _ a1 b1]
theorem zSrt.q {T : zGT} (hO : gOK T) {s : Nat} {v i : Int} (h : zSrt T s v) : v = i ↔ zSrt T s i := by
  constructor
  · intro e
    rw [← e]
    exact h
  · intro h2
    exact h.u hO h2
theorem gTb_c {mv : List Nat} {T : zGT} {c c' : Nat → Nat} (h : gTb mv c T) (h' : gTb mv c' T) : ∀ i, i < gN T → c i = c' i := by
  obtain ⟨a1, a2, a3, -⟩ := h
  obtain ⟨b1, b2, b3, -⟩ := h'
  have hset : ∀ y, (∃ i, i < gN T ∧ c i = y) ↔ (∃ i, i < gN T ∧ c' i = y) := fun y => (a2 y).symm.trans (b2 y)
  exact fun i hi => (gsort_u a3 b3 hset i hi).2
theorem zGc.dg {mv : List Nat} {P : Nat} {T : zGT} {d : Nat} {M : zMem} (h : zGc mv P T d M) (hP : P ≤ 6) {i p : Nat} (hi : i < gN T) (hp : p < P) : gdg (ze M (d + 5) i).toNat p = gdg (zCo P d M i) p := by
  show _ = gdg (zkc P (ze M (d + 5) i)) p
  rw [zkc_d (h.2.2 i hi) p (by omega), if_pos hp]
theorem zCdR.dg {P : Nat} {M : zMem} (hB : zB 85 144 0 5 M) {i p : Nat} (hi : i < 24) (hp : p < P) (hP : P ≤ 6) : ze M 85 (6 * i + p) = ((gdg (zrc M 85 i P) p : Nat) : Int) := by
  have hb : ∀ q : Nat, q < 6 → 0 ≤ ze M 85 (6 * i + q) ∧ ze M 85 (6 * i + q) ≤ 5 := fun q hq => by
    have := hB.g (e := ((6 * i + q : Nat) : Int)) (by omega) (by omega)
    rw [Int.toNat_natCast] at this
    exact this
  rw [zrc_d (fun q hq => by have := (hb q (by omega)).2; omega) p (by omega)]
  unfold zrd
  rw [if_pos (by omega)]
  have := (hb p (by omega)).1
  omega
def zImg (q : Nat → Prop) (g : Nat → Nat) (k : Nat) (x : Int) : Prop := (0 ≤ x ∧ x < 16777216) ∧ ∀ y, x.toNat.testBit y = true ↔ ∃ m, m < k ∧ q m ∧ g m = y
theorem zImg_0 {q : Nat → Prop} {g : Nat → Nat} : zImg q g 0 0 := by
  refine ⟨by omega, fun y => ?_⟩
  show Nat.testBit 0 y = true ↔ _
  rw [Nat.zero_testBit]
  constructor
  · intro h
    exact absurd h (by decide)
  · rintro ⟨m, hm, -⟩
    omega
theorem zImg_1 {q : Nat → Prop} {g : Nat → Nat} {k x v : Int} (k0 : 0 ≤ k) (h : zImg q g k.toNat x) (hq : q k.toNat) (hv : v = ((g k.toNat : Nat) : Int)) (h24 : g k.toNat < 24) : zImg q g (k + 1).toNat (zor x (zshl 1 v)) := by
  obtain ⟨⟨h1, h2⟩, h3⟩ := h
  rw [zorb h1 (by omega) (by omega) (by omega)]
  have hx : x.toNat < 2 ^ 24 := by omega
  have h4 : 2 ^ v.toNat < 2 ^ 24 := Nat.pow_lt_pow_right (by omega) (by omega)
  have h5 := Nat.or_lt_two_pow hx h4
  refine ⟨by omega, fun y => ?_⟩
  rw [Int.toNat_natCast, Nat.testBit_or, Bool.or_eq_true, h3 y, Nat.testBit_two_pow, decide_eq_true_iff]
  constructor
  · rintro (⟨m, a1, a2⟩ | a1)
    · exact ⟨m, by omega, a2⟩
    · exact ⟨k.toNat, by omega, hq, by omega⟩
  · rintro ⟨m, a1, a2, a3⟩
    by_cases e : m = k.toNat
    · rw [e] at a3
      exact Or.inr (by omega)
    · exact Or.inl ⟨m, by omega, a2, a3⟩
theorem zImg_n {q : Nat → Prop} {g : Nat → Nat} {k x : Int} (k0 : 0 ≤ k) (h : zImg q g k.toNat x) (hq : ¬ q k.toNat) : zImg q g (k + 1).toNat x := by
  refine ⟨h.1, fun y => (h.2 y).trans ⟨?_, ?_⟩⟩
  · rintro ⟨m, a1, a2⟩
    exact ⟨m, by omega, a2⟩
  · rintro ⟨m, a1, a2, a3⟩
    by_cases e : m = k.toNat
    · rw [e] at a2
      exact absurd a2 hq
    · exact ⟨m, by omega, a2, a3⟩
section ZMX
variable {T : zGT} {F : Nat} {x y r v : Int}
end ZMX
theorem zSS.o {T : zGT} (hO : gOK T) {M : zMem} (hF : zFirs T M) (hS : zSSm T M) {k : Nat} (hk : (k : Int) < ze M 81 25) : zSrt T (ze M 89 k).toNat (ze M 90 k) := by
  have h := hS k hk
  have hl := hF.1
  refine ⟨⟨h.1, by omega⟩, ?_⟩
  have h2 := hF.2 (ze M 90 k).toNat (by have := h.1; omega)
  unfold gFn
  have h3 := h.2.2
  rw [h2] at h3
  omega
