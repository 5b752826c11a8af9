def zEn (T : zGT) (f : Nat → Nat) (m : Nat) : Prop := (∀ k, k < m → f k ∈ gS T) ∧ (∀ s, s ∈ gS T → ∃ k, k < m ∧ f k = s) ∧ ∀ i j, i < j → j < m → f i ≠ f j
noncomputable def zPb (p : Prop) : Bool := @decide p (Classical.propDecidable p)
theorem zPb_t {p : Prop} : zPb p = true ↔ p := @decide_eq_true_iff p (Classical.propDecidable p)
theorem zct_l (p : Nat → Prop) : ∀ m, zct p m = ((List.range m).filter (fun k => zPb (p k))).length
  | 0 => rfl
  | m + 1 => by
    have ih := zct_l p m
    rw [List.range_succ, List.filter_append, List.length_append, ← ih]
    by_cases h : p m
    · rw [zct_t h]
      have : List.filter (fun k => zPb (p k)) [m] = [m] := List.filter_cons_of_pos (zPb_t.mpr h)
      rw [this]
      rfl
    · rw [zct_f h]
      have : List.filter (fun k => zPb (p k)) [m] = [] := List.filter_cons_of_neg (fun q => h (zPb_t.mp q))
      rw [this]
      rfl
theorem zct_el {T : zGT} {f f' : Nat → Nat} {m m' : Nat} (p : Nat → Prop) (h : zEn T f m) (h' : zEn T f' m') : zct (fun k => p (f k)) m ≤ zct (fun k => p (f' k)) m' := by
  obtain ⟨a1, a2, a3⟩ := h
  obtain ⟨b1, b2, b3⟩ := h'
  rw [zct_l, zct_l]
  have h1 := nodup_len (((List.range m).filter (fun k => zPb (p (f k)))).map f) (((List.range m').filter (fun k => zPb (p (f' k)))).map f') (by
    rw [List.Nodup, List.pairwise_map]
    refine List.Pairwise.imp_of_mem ?_ (List.Pairwise.filter _ (List.pairwise_lt_range (n := m)))
    intro i j hi hj hij
    have hj2 := (List.mem_filter.mp hj).1
    rw [List.mem_range] at hj2
    exact a3 i j hij hj2) (fun x hx => by
    obtain ⟨k, hk, rfl⟩ := List.mem_map.mp hx
    obtain ⟨hk1, hk2⟩ := List.mem_filter.mp hk
    rw [List.mem_range] at hk1
    have hk2 := zPb_t.mp hk2
    obtain ⟨j, hj, e⟩ := b2 _ (a1 k hk1)
    refine List.mem_map.mpr ⟨j, List.mem_filter.mpr ⟨List.mem_range.mpr hj, zPb_t.mpr ?_⟩, e⟩
    rw [e]
    exact hk2)
  rw [List.length_map, List.length_map] at h1
  exact h1
theorem zct_en {T : zGT} {f f' : Nat → Nat} {m m' : Nat} (p : Nat → Prop) (h : zEn T f m) (h' : zEn T f' m') : zct (fun k => p (f k)) m = zct (fun k => p (f' k)) m' := Nat.le_antisymm (zct_el p h h') (zct_el p h' h)
theorem zLs.en {T : zGT} {f : Nat → Int} {m : Int} (h : zLs T f m) : zEn T (fun k => (f k).toNat) m.toNat := by
  obtain ⟨a1, a2, a3, a4⟩ := h
  refine ⟨fun k hk => (a2 k (by omega)).2, fun s hs => ?_, fun i j hij hj e => ?_⟩
  · obtain ⟨j, hj, e⟩ := a3 s hs
    exact ⟨j, by omega, e⟩
  · have h1 := a4 i j hij (by omega)
    have e2 : (f i).toNat = (f j).toNat := e
    unfold zkyK at h1
    rw [e2] at h1
    omega
theorem zJX.en {T : zGT} (hO : gOK T) {M : zMem} (h : zJX T M) : zEn T (fun k => (ze M 89 k).toNat) (ze M 81 25).toNat := by
  have h3 := h.1
  refine ⟨fun k hk => (h3.2.2.1 k (by omega)).2, fun s hs => ?_, fun i j hij hj e => ?_⟩
  · obtain ⟨q1, q2, q3⟩ := (hO.2.1.2.2 s hs).1
    obtain ⟨k, hk, e⟩ := zJ_all h.1 h.2 q2 q3
    refine ⟨k, by omega, ?_⟩
    show (ze M 89 k).toNat = s
    omega
  · have a1 := (h3.2.2.1 i (by omega)).1
    have a2 := (h3.2.2.1 j (by omega)).1
    exact h3.2.2.2 i j hij (by omega) (by have e2 : (ze M 89 i).toNat = (ze M 89 j).toNat := e; omega)
def gWi (T : zGT) (i : Int) (F : Nat) (s : Nat) : Prop := zSrt T s i ∧ s &&& F = s
def zfWi (T : zGT) (i : Int) (F : Nat) (v : Int) : Prop := ∃ f m, zEn T f m ∧ v = ((zct (fun k => gWi T i F (f k)) m : Nat) : Int)
theorem zfWi.u {T : zGT} {i : Int} {F : Nat} {v w : Int} (h : zfWi T i F v) (h2 : zfWi T i F w) : v = w := by
  obtain ⟨f, m, a1, rfl⟩ := h
  obtain ⟨f', m', b1, rfl⟩ := h2
  rw [zct_en _ a1 b1]
theorem zSrt.q {T : zGT} (hO : gOK T) {s : Nat} {v i : Int} (h : zSrt T s v) : v = i ↔ zSrt T s i := by
  constructor
  · intro e
    rw [← e]
    exact h
  · intro h2
    exact h.u hO h2
section ZMX
variable {T : zGT} {F : Nat} {x y r v : Int}
end ZMX
theorem zSS.o {T : zGT} (hO : gOK T) {M : zMem} (hF : zFirs T M) (hS : zSSm T M) {k : Nat} (hk : (k : Int) < ze M 81 25) : zSrt T (ze M 89 k).toNat (ze M 90 k) := by
  have h := hS k hk
  have hl := hF.1
  refine ⟨⟨h.1, by omega⟩, ?_⟩
  have h2 := hF.2 (ze M 90 k).toNat (by have := h.1; omega)
  unfold gFn
  have h3 := h.2.2
  rw [h2] at h3
  omega
