noncomputable def zrm (b : Nat → Int) (n P : Nat) : Nat → Nat → List Nat → Option (Nat × List Nat)
  | 0, p, l => some (p, l)
  | k + 1, p, l => zif (zkd b n p = 2 ∧ znu b n p < P ∧ (znu b n p).toNat ∉ l) (zrm b n P k (znx b n p) (l ++ [(znu b n p).toNat])) none
theorem zrm_t {b : Nat → Int} {n P k p : Nat} {l : List Nat} (h : zkd b n p = 2 ∧ znu b n p < P ∧ (znu b n p).toNat ∉ l) : zrm b n P (k + 1) p l = zrm b n P k (znx b n p) (l ++ [(znu b n p).toNat]) := by
  show zif _ _ _ = _
  rw [zif_t h]
theorem zrm_f {b : Nat → Int} {n P k p : Nat} {l : List Nat} (h : ¬ (zkd b n p = 2 ∧ znu b n p < P ∧ (znu b n p).toNat ∉ l)) : zrm b n P (k + 1) p l = none := by
  show zif _ _ _ = _
  rw [zif_f h]
def zmc (P : Nat) (l : List Nat) : Nat := gmkc (fun p => if p < P then l.getD p 0 else p)
def gFin (mv : List Nat) : Prop := ∃ C : List Nat, C.length ≤ 24 ∧ gid ∈ C ∧ ∀ c ∈ C, ∀ g ∈ mv, gco c g ∈ C
abbrev zMst : Type := Nat × Nat × List Nat
def zMf : zMst := (2, 0, [])
noncomputable def zbs (b : Nat → Int) (n P : Nat) : zMst → zMst
  | (0, p, mv) => zif (zkd b n p = 1 ∧ zkey b n p = zkw 1)
      (zif (mv.length < 4) (match zrm b n P P (znx b n p) [] with | none => zMf | some e => zif (zisg b n e.1 59 ∧ gFin (mv ++ [zmc P e.2])) (0, znx b n e.1, mv ++ [zmc P e.2]) zMf) zMf) (1, p, mv)
  | s => s
section ZBS
variable {b : Nat → Int} {n P p q : Nat} {mv l : List Nat}
theorem zbs_0 : zbs b n P (0, p, mv) = zif (zkd b n p = 1 ∧ zkey b n p = zkw 1)
      (zif (mv.length < 4) (match zrm b n P P (znx b n p) [] with | none => zMf | some e => zif (zisg b n e.1 59 ∧ gFin (mv ++ [zmc P e.2])) (0, znx b n e.1, mv ++ [zmc P e.2]) zMf) zMf) (1, p, mv) := rfl
theorem zbs_1 : zbs b n P (1, p, mv) = (1, p, mv) := rfl
theorem zbs_F : zbs b n P zMf = zMf := rfl
theorem zbs_e (h : ¬ (zkd b n p = 1 ∧ zkey b n p = zkw 1)) : zbs b n P (0, p, mv) = (1, p, mv) := by
  rw [zbs_0, zif_f h]
theorem zbs_4 (h : zkd b n p = 1 ∧ zkey b n p = zkw 1) (h4 : ¬ mv.length < 4) : zbs b n P (0, p, mv) = zMf := by
  rw [zbs_0, zif_t h, zif_f h4]
theorem zbs_n (h : zkd b n p = 1 ∧ zkey b n p = zkw 1) (hr : zrm b n P P (znx b n p) [] = none) : zbs b n P (0, p, mv) = zMf := by
  rw [zbs_0, zif_t h, hr]
  by_cases h4 : mv.length < 4
  · rw [zif_t h4]
  · rw [zif_f h4]
theorem zbs_f (h : zkd b n p = 1 ∧ zkey b n p = zkw 1) (hr : zrm b n P P (znx b n p) [] = some (q, l)) (h2 : ¬ (zisg b n q 59 ∧ gFin (mv ++ [zmc P l]))) : zbs b n P (0, p, mv) = zMf := by
  rw [zbs_0, zif_t h, hr]
  by_cases h4 : mv.length < 4
  · rw [zif_t h4]
    show zif _ _ _ = _
    rw [zif_f h2]
  · rw [zif_f h4]
theorem zbs_t (h : zkd b n p = 1 ∧ zkey b n p = zkw 1) (h4 : mv.length < 4) (hr : zrm b n P P (znx b n p) [] = some (q, l)) (h2 : zisg b n q 59 ∧ gFin (mv ++ [zmc P l])) : zbs b n P (0, p, mv) = (0, znx b n q, mv ++ [zmc P l]) := by
  rw [zbs_0, zif_t h, hr, zif_t h4]
  show zif _ _ _ = _
  rw [zif_t h2]
end ZBS
theorem zap_1 {l : List Nat} {v i : Nat} (h : i < l.length) : (l ++ [v]).getD i 0 = l.getD i 0 := by
  rw [List.getD_eq_getElem?_getD, List.getElem?_append_left h, ← List.getD_eq_getElem?_getD]
theorem zap_2 {l : List Nat} {v : Nat} : (l ++ [v]).getD l.length 0 = v := by
  rw [List.getD_eq_getElem?_getD, List.getElem?_append_right (Nat.le_refl _), Nat.sub_self]
  rfl
theorem zap_m {l : List Nat} {v : Nat} : v ∈ l ↔ ∃ i, i < l.length ∧ l.getD i 0 = v := by
  rw [List.mem_iff_getElem]
  constructor
  · rintro ⟨i, hi, e⟩
    refine ⟨i, hi, ?_⟩
    rw [List.getD_eq_getElem?_getD, List.getElem?_eq_getElem hi]
    exact e
  · rintro ⟨i, hi, e⟩
    refine ⟨i, hi, ?_⟩
    rw [List.getD_eq_getElem?_getD, List.getElem?_eq_getElem hi] at e
    exact e
def zmV (P : Nat) (l : List Nat) : Prop := (∀ i, i < l.length → l.getD i 0 < P) ∧ ∀ i j, i < j → j < l.length → l.getD i 0 ≠ l.getD j 0
theorem zmV_0 (P : Nat) : zmV P [] := ⟨fun i h => absurd h (Nat.not_lt_zero i), fun i j _ h => absurd h (Nat.not_lt_zero j)⟩
theorem zmV.s {P v : Nat} {l : List Nat} (h : zmV P l) (hv : v < P) (hn : v ∉ l) : zmV P (l ++ [v]) := by
  refine ⟨fun i hi => ?_, fun i j hij hj => ?_⟩
  · rw [List.length_append, List.length_singleton] at hi
    by_cases g : i < l.length
    · rw [zap_1 g]
      exact h.1 i g
    · rw [show i = l.length by omega, zap_2]
      exact hv
  · rw [List.length_append, List.length_singleton] at hj
    rw [zap_1 (show i < l.length by omega)]
    by_cases g : j < l.length
    · rw [zap_1 g]
      exact h.2 i j hij g
    · rw [show j = l.length by omega, zap_2]
      exact fun e => hn (zap_m.mpr ⟨i, by omega, e⟩)
theorem zmc_8 {P : Nat} {l : List Nat} (hP : P ≤ 6) (hl : l.length = P) (h : zmV P l) : ∀ p, p < 6 → (fun p => if p < P then l.getD p 0 else p) p < 8 := fun p hp => by
  show (if p < P then l.getD p 0 else p) < 8
  split
  · have := h.1 p (by omega); omega
  · omega
theorem zmc_d {P : Nat} {l : List Nat} (hP : P ≤ 6) (hl : l.length = P) (h : zmV P l) : ∀ p, p < 6 → gdg (zmc P l) p = if p < P then l.getD p 0 else p := gmkc_d (zmc_8 hP hl h)
theorem zmc_p {P : Nat} {l : List Nat} (hP : P ≤ 6) (hl : l.length = P) (h : zmV P l) : gpm (zmc P l) ∧ gfix P (zmc P l) := by
  have hd := zmc_d hP hl h
  have hlt : ∀ p, p < 6 → gdg (zmc P l) p < 6 ∧ (gdg (zmc P l) p < P ↔ p < P) := fun p hp => by
    rw [hd p hp]
    by_cases g : p < P
    · rw [if_pos g]
      have := h.1 p (by omega)
      omega
    · rw [if_neg g]
      omega
  refine ⟨⟨gmkc_lt (zmc_8 hP hl h), fun p hp => (hlt p hp).1, fun p q hp hq e => ?_⟩, fun p h1 h2 => ?_⟩
  · have e1 := (hlt p hp).2
    have e2 := (hlt q hq).2
    rw [← e] at e2
    by_cases g : p < P
    · have gq : q < P := e2.mp (e1.mpr g)
      rw [hd p hp, hd q hq, if_pos g, if_pos gq] at e
      rcases Nat.lt_trichotomy p q with k | k | k
      · exact absurd e (h.2 p q k (by omega))
      · exact k
      · exact absurd e.symm (h.2 q p k (by omega))
    · have gq : ¬ q < P := fun k => g (e1.mp (e2.mpr k))
      rw [hd p hp, hd q hq, if_neg g, if_neg gq] at e
      exact e
  · rw [hd p h2, if_neg (by omega)]
def zmt (t : Int) (l : List Nat) : Prop := (0 ≤ t ∧ t < 64) ∧ ∀ v : Nat, v < 6 → (zbt t v ↔ v ∈ l)
theorem zmt_0 : zmt 0 [] := by
  refine ⟨by omega, fun v _ => ⟨fun h => ?_, fun h => absurd h List.not_mem_nil⟩⟩
  unfold zbt at h
  rw [show (0 : Int).toNat = 0 from rfl, Nat.zero_testBit] at h
  cases h
theorem zmt.s {t : Int} {l : List Nat} {v : Int} (h : zmt t l) (v0 : 0 ≤ v) (v6 : v < 6) : zmt (zor t (zshl 1 v)) (l ++ [v.toNat]) := by
  obtain ⟨⟨h1, h2⟩, h3⟩ := h
  have e := zorb (x := t) (k := v) h1 (by omega) v0 (by omega)
  have hp : 2 ^ v.toNat < 2 ^ 6 := Nat.pow_lt_pow_right (by omega) (by omega)
  have hlt : t.toNat ||| 2 ^ v.toNat < 2 ^ 6 := Nat.or_lt_two_pow (by omega) hp
  refine ⟨by rw [e]; omega, fun w hw => ?_⟩
  have h4 := h3 w hw
  unfold zbt at h4 ⊢
  rw [e, Int.toNat_natCast, Int.toNat_natCast, Nat.testBit_or, Nat.testBit_two_pow, List.mem_append, List.mem_singleton, Bool.or_eq_true, decide_eq_true_iff]
  rw [Int.toNat_natCast] at h4
  rw [h4]
  constructor
  · rintro (k | k)
    · exact Or.inl k
    · exact Or.inr k.symm
  · rintro (k | k)
    · exact Or.inl k
    · exact Or.inr k.symm
def gbS (mv : List Nat) (c : Nat → Nat) (s : Int) : Prop := (1 ≤ s ∧ s ≤ 24) ∧ (∀ i : Nat, (i : Int) < s → gGen mv (c i)) ∧ (∀ i j : Nat, i < j → (j : Int) < s → c i ≠ c j) ∧ c 0 = gid
def gbC (mv : List Nat) (c : Nat → Nat) (s m k : Int) : Prop := ∀ i q : Nat, (i : Int) < s → q < mv.length → ((i : Int) < m ∨ ((i : Int) = m ∧ (q : Int) < k)) → ∃ j : Nat, (j : Int) < s ∧ c j = gco (c i) (mv.getD q 0)
def gGp (mv : List Nat) (c : Nat → Nat) (s : Int) : Prop := (1 ≤ s ∧ s ≤ 24) ∧ (∀ x, gGen mv x ↔ ∃ i : Nat, (i : Int) < s ∧ c i = x) ∧ (∀ i j : Nat, i < j → (j : Int) < s → c i ≠ c j) ∧ gFin mv
section GBS
variable {mv : List Nat} {c c' : Nat → Nat} {s m k : Int}
theorem gmv_m {q : Nat} (h : q < mv.length) : mv.getD q 0 ∈ mv := zap_m.mpr ⟨q, h, rfl⟩
theorem gbS_0 (h : c 0 = gid) : gbS mv c 1 ∧ gbC mv c 1 0 0 := by
  refine ⟨⟨by omega, fun i hi => ?_, fun i j h1 h2 => absurd h2 (by omega), h⟩, fun i q _ _ hd => absurd hd (by omega)⟩
  rw [show i = 0 by omega, h]
  exact gGen.id mv
theorem gbC_f {v : Nat} (hm : 0 ≤ m) (hk : 0 ≤ k) (hC : gbC mv c s m k) (hv : (v : Int) < s) (e : c v = gco (c m.toNat) (mv.getD k.toNat 0)) : gbC mv c s m (k + 1) := fun i q hi hq hd => by
  by_cases g : (i : Int) = m ∧ (q : Int) = k
  · refine ⟨v, hv, ?_⟩
    rw [e, show i = m.toNat by omega, show q = k.toNat by omega]
  · exact hC i q hi hq (by omega)
theorem gbS_a (hm : 0 ≤ m ∧ m < s) (hk : 0 ≤ k ∧ k < mv.length) (hS : gbS mv c s) (hC : gbC mv c s m k) (s24 : s ≤ 23) (hn : ∀ i : Nat, (i : Int) < s → c i ≠ gco (c m.toNat) (mv.getD k.toNat 0)) (hc : ∀ i : Nat, (i : Int) < s → c' i = c i) (e : c' s.toNat = gco (c m.toNat) (mv.getD k.toNat 0)) : gbS mv c' (s + 1) ∧ gbC mv c' (s + 1) m (k + 1) := by
  obtain ⟨a1, a2, a3, a4⟩ := hS
  refine ⟨⟨by omega, fun i hi => ?_, fun i j hij hj => ?_, by rw [hc 0 (by omega)]; exact a4⟩, fun i q hi hq hd => ?_⟩
  · by_cases g : (i : Int) = s
    · rw [show i = s.toNat by omega, e]
      exact (a2 m.toNat (by omega)).g (gmv_m (by omega))
    · rw [hc i (by omega)]
      exact a2 i (by omega)
  · rw [hc i (by omega)]
    by_cases g : (j : Int) = s
    · rw [show j = s.toNat by omega, e]
      exact hn i (by omega)
    · rw [hc j (by omega)]
      exact a3 i j hij (by omega)
  · by_cases g : (i : Int) = m ∧ (q : Int) = k
    · refine ⟨s.toNat, by omega, ?_⟩
      rw [e, hc i (by omega), show i = m.toNat by omega, show q = k.toNat by omega]
    · obtain ⟨j, hj, e2⟩ := hC i q (by omega) hq (by omega)
      refine ⟨j, by omega, ?_⟩
      rw [hc j hj, hc i (by omega)]
      exact e2
theorem gbC_n (h : gbC mv c s m k) (hk : (mv.length : Int) ≤ k) : gbC mv c s (m + 1) 0 := fun i q hi hq hd => h i q hi hq (by omega)
theorem gbS_24 (hm : 0 ≤ m ∧ m < s) (hk : 0 ≤ k ∧ k < mv.length) (hS : gbS mv c s) (s24 : 24 ≤ s) (hn : ∀ i : Nat, (i : Int) < s → c i ≠ gco (c m.toNat) (mv.getD k.toNat 0)) : ¬ gFin mv := by
  rintro ⟨C, c1, c2, c3⟩
  obtain ⟨a1, a2, a3, a4⟩ := hS
  have hin : ∀ x, gGen mv x → x ∈ C := fun x hx => hx (fun y => y ∈ C) c2 (fun y g hy hg => c3 y hy g hg)
  have hnew : gGen mv (gco (c m.toNat) (mv.getD k.toNat 0)) := (a2 m.toNat (by omega)).g (gmv_m (by omega))
  have := nodup_len (gco (c m.toNat) (mv.getD k.toNat 0) :: (List.range 24).map (fun i => c i)) C (by
    refine List.nodup_cons.mpr ⟨fun hx => ?_, ?_⟩
    · obtain ⟨i, hi, e⟩ := List.mem_map.mp hx
      rw [List.mem_range] at hi
      exact hn i (by omega) e
    · rw [List.Nodup, List.pairwise_map]
      refine List.Pairwise.imp_of_mem ?_ (List.pairwise_lt_range (n := 24))
      intro i j hi hj hij
      rw [List.mem_range] at hi hj
      exact a3 i j hij (by omega)) (fun x hx => by
    rcases List.mem_cons.mp hx with rfl | hx
    · exact hin _ hnew
    · obtain ⟨i, hi, rfl⟩ := List.mem_map.mp hx
      rw [List.mem_range] at hi
      exact hin _ (a2 i (by omega)))
  rw [List.length_cons, List.length_map, List.length_range] at this
  omega
theorem gbS_e (hS : gbS mv c s) (hC : gbC mv c s m 0) (hm : s ≤ m) : gGp mv c s := by
  obtain ⟨a1, a2, a3, a4⟩ := hS
  have hcl : ∀ x g, (∃ i : Nat, (i : Int) < s ∧ c i = x) → g ∈ mv → ∃ i : Nat, (i : Int) < s ∧ c i = gco x g := by
    rintro _ g ⟨i, hi, rfl⟩ hg
    obtain ⟨q, hq, rfl⟩ := zap_m.mp hg
    exact hC i q hi hq (by omega)
  have h0 : ∃ i : Nat, (i : Int) < s ∧ c i = gid := ⟨0, by omega, a4⟩
  refine ⟨a1, fun x => ⟨fun hx => hx (fun x => ∃ i : Nat, (i : Int) < s ∧ c i = x) h0 (fun c g hc hg => hcl c g hc hg), ?_⟩, a3, (List.range s.toNat).map c, ?_, ?_, ?_⟩
  · rintro ⟨i, hi, rfl⟩
    exact a2 i hi
  · rw [List.length_map, List.length_range]
    omega
  · obtain ⟨i, hi, e⟩ := h0
    exact List.mem_map.mpr ⟨i, List.mem_range.mpr (by omega), e⟩
  · intro x hx g hg
    obtain ⟨i, hi, e⟩ := List.mem_map.mp hx
    rw [List.mem_range] at hi
    obtain ⟨j, hj, e2⟩ := hcl x g ⟨i, by omega, e⟩ hg
    exact List.mem_map.mpr ⟨j, List.mem_range.mpr (by omega), e2⟩
end GBS
def zMvK (mv : List Nat) (P d : Nat) (Mz : zMem) : Prop := (ze Mz (d + 1) 5 = P ∧ 1 ≤ P ∧ P ≤ 6) ∧ ze Mz (d + 1) 6 = (mv.length : Int) ∧ mv.length ≤ 4 ∧ ∀ k, k < mv.length → zkv P (ze Mz (d + 3) k) ∧ zkc P (ze Mz (d + 3) k) = mv.getD k 0
def zCo (P d : Nat) (Mz : zMem) : Nat → Nat := fun i => zkc P (ze Mz (d + 5) i)
def zGI (mv : List Nat) (P d : Nat) (Mz : zMem) (m k : Int) : Prop := (∀ i : Nat, (i : Int) < ze Mz (d + 1) 7 → zkv P (ze Mz (d + 5) i)) ∧ gbS mv (zCo P d Mz) (ze Mz (d + 1) 7) ∧ gbC mv (zCo P d Mz) (ze Mz (d + 1) 7) m k
def zGg (mv : List Nat) (P d : Nat) (Mz : zMem) : Prop := (∀ i : Nat, (i : Int) < ze Mz (d + 1) 7 → zkv P (ze Mz (d + 5) i)) ∧ gGp mv (zCo P d Mz) (ze Mz (d + 1) 7)
section ZKH
variable {d P : Nat} {mv : List Nat} {FA : List (Nat × Nat)} {CA : List Nat} {FR : List (Nat × Nat)} {CR : List Nat} {Mz Nz Pz : zMem} {m k : Int}
theorem zMvK.fr (_ : zKW d Mz) (hf : zFc d FA CA FR CR Mz Nz) (h : zMvK mv P d Mz) (hd : (1 < 38 ∧ 1 ∉ CR ∧ (1, 5) ∉ FR) ∧ (1 < 38 ∧ 1 ∉ CR ∧ (1, 6) ∉ FR) ∧ 3 < 38 ∧ 3 ∉ CR ∧ ∀ x ∈ FR, x.1 ≠ 3) : zMvK mv P d Nz := by
  unfold zMvK
  rw [hf.e hd.1, hf.e hd.2.1]
  exact ⟨h.1, h.2.1, h.2.2.1, fun k hk => by rw [hf.r hd.2.2]; exact h.2.2.2 k hk⟩
theorem zGg.fr (_ : zKW d Mz) (hf : zFc d FA CA FR CR Mz Nz) (h : zGg mv P d Mz) (hd : (1 < 38 ∧ 1 ∉ CR ∧ (1, 7) ∉ FR) ∧ 5 < 38 ∧ 5 ∉ CR ∧ ∀ x ∈ FR, x.1 ≠ 5) : zGg mv P d Nz := by
  have e : zCo P d Nz = zCo P d Mz := funext fun i => by
    unfold zCo
    rw [hf.r hd.2]
  unfold zGg
  rw [hf.e hd.1, e]
  exact ⟨fun i hi => by rw [hf.r hd.2]; exact h.1 i hi, h.2⟩
theorem zGI_0 (hP : P ≤ 6) (h7 : ze Mz (d + 1) 7 = 1) (h0 : ze Mz (d + 5) 0 = ((zdc (fun p => p) P : Nat) : Int)) : zGI mv P d Mz 0 0 := by
  have e : zCo P d Mz 0 = gid := by
    unfold zCo
    rw [h0]
    exact zid_c hP
  unfold zGI
  rw [h7]
  exact ⟨fun i hi => by rw [show i = 0 by omega, h0]; exact zid_v hP, gbS_0 e⟩
theorem zGI_b (hv : zMvK mv P d Mz) (h : zGI mv P d Mz m k) (hm : 0 ≤ m ∧ m < ze Mz (d + 1) 7) (hk : 0 ≤ k ∧ k < ze Mz (d + 1) 6) : zkv P (ze Mz (d + 5) m.toNat) ∧ zkv P (ze Mz (d + 3) k.toNat) ∧ zkc P ((zbe P (ze Mz (d + 5) m.toNat) (ze Mz (d + 3) k.toNat) : Nat) : Int) = gco (zCo P d Mz m.toNat) (mv.getD k.toNat 0) ∧ zkv P ((zbe P (ze Mz (d + 5) m.toNat) (ze Mz (d + 3) k.toNat) : Nat) : Int) := by
  have h1 := h.1 m.toNat (by omega)
  have h2 := hv.2.2.2 k.toNat (by have := hv.2.1; omega)
  refine ⟨h1, h2.1, ?_, zbe_v hv.1.2.2 h1 h2.1⟩
  rw [zbe_c hv.1.2.2 h1 h2.1, h2.2]
  rfl
theorem zGI_f (hv : zMvK mv P d Mz) (h : zGI mv P d Mz m k) (hm : 0 ≤ m ∧ m < ze Mz (d + 1) 7) (hk : 0 ≤ k ∧ k < ze Mz (d + 1) 6) {v x : Int} (v0 : 0 ≤ v) (v1 : v < ze Mz (d + 1) 7) (hx : x = ((zbe P (ze Mz (d + 5) m.toNat) (ze Mz (d + 3) k.toNat) : Nat) : Int)) (e : ze Mz (d + 5) v.toNat = x) : zGI mv P d Mz m (k + 1) := by
  have hb := zGI_b hv h hm hk
  refine ⟨h.1, h.2.1, gbC_f (v := v.toNat) hm.1 hk.1 h.2.2 (by omega) ?_⟩
  rw [← hb.2.2.1, ← hx, ← e]
  rfl
theorem zGI_x (hv : zMvK mv P d Mz) (h : zGI mv P d Mz m k) (hm : 0 ≤ m ∧ m < ze Mz (d + 1) 7) (hk : 0 ≤ k ∧ k < ze Mz (d + 1) 6) {x : Int} (hx : x = ((zbe P (ze Mz (d + 5) m.toNat) (ze Mz (d + 3) k.toNat) : Nat) : Int)) (e : ∀ i : Nat, (i : Int) < ze Mz (d + 1) 7 → ze Mz (d + 5) i ≠ x) : ∀ i : Nat, (i : Int) < ze Mz (d + 1) 7 → zCo P d Mz i ≠ gco (zCo P d Mz m.toNat) (mv.getD k.toNat 0) := by
  have hb := zGI_b hv h hm hk
  intro i hi he
  rw [← hb.2.2.1, ← hx] at he
  exact e i hi ((zkc_i (h.1 i hi).1 (by rw [hx]; exact hb.2.2.2.1)).mp he)
theorem zGI_24 (hv : zMvK mv P d Mz) (h : zGI mv P d Mz m k) (hm : 0 ≤ m ∧ m < ze Mz (d + 1) 7) (hk : 0 ≤ k ∧ k < ze Mz (d + 1) 6) {x : Int} (hx : x = ((zbe P (ze Mz (d + 5) m.toNat) (ze Mz (d + 3) k.toNat) : Nat) : Int)) (e : ∀ i : Nat, (i : Int) < ze Mz (d + 1) 7 → ze Mz (d + 5) i ≠ x) (h24 : 24 ≤ ze Mz (d + 1) 7) : ¬ gFin mv := gbS_24 hm (by have := hv.2.1; omega) h.2.1 h24 (zGI_x hv h hm hk hx e)
theorem zGI_a (hv : zMvK mv P d Mz) (h : zGI mv P d Mz m k) (hm : 0 ≤ m ∧ m < ze Mz (d + 1) 7) (hk : 0 ≤ k ∧ k < ze Mz (d + 1) 6) {x : Int} (hx : x = ((zbe P (ze Mz (d + 5) m.toNat) (ze Mz (d + 3) k.toNat) : Nat) : Int)) (e : ∀ i : Nat, (i : Int) < ze Mz (d + 1) 7 → ze Mz (d + 5) i ≠ x) (h24 : ze Mz (d + 1) 7 ≤ 23) (h7 : ze Nz (d + 1) 7 = ze Mz (d + 1) 7 + 1) (hc : ∀ i : Nat, (i : Int) < ze Mz (d + 1) 7 → ze Nz (d + 5) i = ze Mz (d + 5) i) (hn : ze Nz (d + 5) (ze Mz (d + 1) 7).toNat = x) : zGI mv P d Nz m (k + 1) := by
  have hb := zGI_b hv h hm hk
  have hl := hv.2.1
  have hs := h.2.1.1
  have ha := gbS_a (c' := zCo P d Nz) hm (by omega) h.2.1 h.2.2 h24 (zGI_x hv h hm hk hx e) (fun i hi => by unfold zCo; rw [hc i hi]) (by unfold zCo; rw [hn, hx]; exact hb.2.2.1)
  unfold zGI
  rw [h7]
  refine ⟨fun i hi => ?_, ha⟩
  by_cases g : (i : Int) = ze Mz (d + 1) 7
  · rw [show i = (ze Mz (d + 1) 7).toNat by omega, hn, hx]
    exact hb.2.2.2
  · rw [hc i (by omega)]
    exact h.1 i (by omega)
theorem zGI_n (h : zGI mv P d Mz m k) (hk : (mv.length : Int) ≤ k) : zGI mv P d Mz (m + 1) 0 := ⟨h.1, h.2.1, gbC_n h.2.2 hk⟩
theorem zGI_e (h : zGI mv P d Mz m 0) (hm : ze Mz (d + 1) 7 ≤ m) : zGg mv P d Mz := ⟨h.1, gbS_e h.2.1 h.2.2 hm⟩
theorem zMvK.u {x : Int} (h : zMvK mv P d Mz) (h4 : ze Mz (d + 1) 6 ≤ 3) (h5 : ze Nz (d + 1) 5 = ze Mz (d + 1) 5) (h6 : ze Nz (d + 1) 6 = ze Mz (d + 1) 6 + 1) (hx : zkv P x) (hn : ze Nz (d + 3) (ze Mz (d + 1) 6).toNat = x) (hc : ∀ i : Nat, (i : Int) < ze Mz (d + 1) 6 → ze Nz (d + 3) i = ze Mz (d + 3) i) : zMvK (mv ++ [zkc P x]) P d Nz := by
  obtain ⟨a1, a2, a3, a4⟩ := h
  refine ⟨by rw [h5]; exact a1, ?_, ?_, fun k hk => ?_⟩
  · rw [List.length_append, List.length_singleton]
    omega
  · rw [List.length_append, List.length_singleton]
    omega
  · rw [List.length_append, List.length_singleton] at hk
    by_cases g : k < mv.length
    · rw [hc k (by omega), zap_1 g]
      exact a4 k g
    · have e : k = (ze Mz (d + 1) 6).toNat := by omega
      rw [e, hn, show (ze Mz (d + 1) 6).toNat = mv.length by omega, zap_2]
      exact ⟨hx, rfl⟩
end ZKH
theorem zdc_e {f g : Nat → Nat} {k : Nat} (h : ∀ p, p < k → f p = g p) : zdc f k = zdc g k := gmkc_c (fun p _ => by
  show (if p < k then f p else 0) = if p < k then g p else 0
  by_cases e : p < k
  · rw [if_pos e, if_pos e, h p e]
  · rw [if_neg e, if_neg e])
theorem gFin_0 : gFin [] := ⟨[gid], by decide, List.mem_singleton.mpr rfl, fun _ _ g hg => absurd hg List.not_mem_nil⟩
def zHd (b : Nat → Int) (n p P q : Nat) : Prop := (zkd b n p = 1 ∧ zkey b n p = zkw 0) ∧ (zkd b n (znx b n p) = 2 ∧ znu b n (znx b n p) = P ∧ 1 ≤ P ∧ P ≤ 6) ∧ zisg b n (znx b n (znx b n p)) 59 ∧ q = znx b n (znx b n (znx b n p))
theorem zmv_s {P : Nat} {l : List Nat} {t v c k w : Int} (hP : P ≤ 6) (hV : zmV P l) (hl : (l.length : Int) = k) (ht : zmt t l) (hc : c = ((zdc (fun p => l.getD p 0) k.toNat : Nat) : Int)) (v0 : 0 ≤ v) (vP : v < P) (kP : k < P) (hn : v.toNat ∉ l) (hw : w = ((v.toNat * zw5 k.toNat : Nat) : Int)) : zmV P (l ++ [v.toNat]) ∧ ((l ++ [v.toNat]).length : Int) = k + 1 ∧ zmt (zor t (zshl 1 v)) (l ++ [v.toNat]) ∧ zor c w = ((zdc (fun p => (l ++ [v.toNat]).getD p 0) (k + 1).toNat : Nat) : Int) := by
  refine ⟨hV.s (by omega) hn, by rw [List.length_append, List.length_singleton]; omega, ht.s v0 (by omega), ?_⟩
  have e1 : zdc (fun p => l.getD p 0) k.toNat = zdc (fun p => (l ++ [v.toNat]).getD p 0) k.toNat := zdc_e (fun p hp => (zap_1 (by omega)).symm)
  have e2 : (l ++ [v.toNat]).getD k.toNat 0 = v.toNat := by
    rw [show k.toNat = l.length by omega]
    exact zap_2
  rw [e1] at hc
  refine (zdc_z (f := fun p => (l ++ [v.toNat]).getD p 0) (k := k) (v := c) (t := w) (by omega) (by omega) (fun p hp hk => ?_) hc ?_).1
  · show (l ++ [v.toNat]).getD p 0 < 8
    by_cases g : p < l.length
    · rw [zap_1 g]
      have := hV.1 p g
      omega
    · rw [show p = l.length by omega, zap_2]
      omega
  · show w = (((l ++ [v.toNat]).getD k.toNat 0 * zw5 k.toNat : Nat) : Int)
    rw [e2]
    exact hw
theorem zmc_z {P : Nat} {l : List Nat} (hP : P ≤ 6) (hV : zmV P l) (hl : l.length = P) : zkv P ((zdc (fun p => l.getD p 0) P : Nat) : Int) ∧ zkc P ((zdc (fun p => l.getD p 0) P : Nat) : Int) = zmc P l :=
  ⟨zdc_v hP (fun p hp => hV.1 p (by omega)), zdc_c hP (fun p hp => hV.1 p (by omega))⟩
