def gdg (c p : Nat) : Nat := (c >>> (3 * (5 - p))) % 8
def gco (a b : Nat) : Nat := gdg b (gdg a 0) * 32768 + gdg b (gdg a 1) * 4096 + gdg b (gdg a 2) * 512 + gdg b (gdg a 3) * 64 + gdg b (gdg a 4) * 8 + gdg b (gdg a 5)
def gid : Nat := 5349
def gpm (c : Nat) : Prop := c < 262144 ∧ (∀ p, p < 6 → gdg c p < 6) ∧ ∀ p q, p < 6 → q < 6 → gdg c p = gdg c q → p = q
def zrd (M : zMem) (q m : Nat) (P : Int) (p : Nat) : Nat := if (p : Int) < P then (ze M q (6 * m + p)).toNat else p
def zrc (M : zMem) (q m : Nat) (P : Int) : Nat := zrd M q m P 0 * 32768 + zrd M q m P 1 * 4096 + zrd M q m P 2 * 512 + zrd M q m P 3 * 64 + zrd M q m P 4 * 8 + zrd M q m P 5
def zMvs (M : zMem) : List Nat := (List.range (ze M 81 13).toNat).map (fun k => zrc M 83 k (ze M 81 12))
def zPm (M : zMem) : Prop := ∀ g ∈ zMvs M, gpm g
def zFin (M : zMem) : Prop := ∃ C : List Nat, C.length ≤ 24 ∧ gid ∈ C ∧ ∀ c ∈ C, ∀ g ∈ zMvs M, gco c g ∈ C
theorem zrc_f {M N : zMem} {q : Nat} (h : ∀ k, ze N q k = ze M q k) (m : Nat) (P : Int) : zrc N q m P = zrc M q m P := by
  unfold zrc zrd
  simp only [h]
theorem zMvs_f {S C : List Nat} {M N : zMem} (h : zFr S C M N) (hs : 12 ∉ S ∧ 13 ∉ S) (hc : 83 ∉ C) : zMvs N = zMvs M := by
  unfold zMvs
  rw [h.e hs.1, h.e hs.2]
  apply List.map_congr_left
  intro k _
  exact zrc_f (fun j => h.ie (by decide) hc j) k _
theorem zPm.fr {S C : List Nat} {M N : zMem} (h : zFr S C M N) (hp : zPm M) (hs : 12 ∉ S ∧ 13 ∉ S) (hc : 83 ∉ C) : zPm N := by
  unfold zPm
  rw [zMvs_f h hs hc]
  exact hp
theorem zFin.fr {S C : List Nat} {M N : zMem} (h : zFr S C M N) (hp : zFin M) (hs : 12 ∉ S ∧ 13 ∉ S) (hc : 83 ∉ C) : zFin N := by
  unfold zFin
  rw [zMvs_f h hs hc]
  exact hp
def gcb (S : Nat) : Nat := gup (fun k r => r + (S >>> k) % 2) 0 31
def gky (S : Nat) : Nat := gcb S * 16777216 + S
def gOK (T : zGT) : Prop := gGd T ∧ ((gS T).length ≤ 64 ∧ 1 ∈ gS T ∧ ∀ S ∈ gS T, gSub T S ∧ ∀ g, g < gN T → ∃ R ∈ gS T, gLC T (S ||| 2 ^ g) R) ∧ ((∀ S ∈ gS T, glt T S ∈ gF T) ∧ (∀ S ∈ gF T, S ∈ gS T ∧ glt T S = S) ∧ ∀ i j, i < j → j < (gF T).length → gky ((gF T).getD i 0) < gky ((gF T).getD j 0)) ∧ ∀ i, i < (gF T).length → 1 ≤ gmk T ((gF T).getD i 0) ((gF T).getD i 0)
theorem gOK.mem {T : zGT} (h : gOK T) {X R : Nat} (hR : gLC T X R) : R ∈ gS T := by
  refine gcomp h.2.1.2.1 (fun S hS g hg _ => ?_) hR.1 hR.2.2.1
  obtain ⟨Q, hQ, hL⟩ := (h.2.1.2.2 S hS).2 g hg
  exact ⟨Q, hQ, hL⟩
theorem gOK.clm {T : zGT} (h : gOK T) {R : Nat} (h1 : R < 2 ^ gN T) (h2 : gCl T R) : R ∈ gS T := h.mem (X := R) ⟨h1, gSb.rf R, h2, fun _ _ hs => hs⟩
theorem gOK.sb {T : zGT} (h : gOK T) {S : Nat} (hS : S ∈ gS T) : S < 16777216 := by
  have h1 := (h.2.1.2.2 S hS).1.2.1
  have h2 : (2 : Nat) ^ gN T ≤ 2 ^ 24 := Nat.pow_le_pow_right (by omega) h.1.2.1
  have h3 : (2 : Nat) ^ 24 = 16777216 := rfl
  omega
def zJ (T : zGT) (M : zMem) (m : Int) : Prop := 1 ≤ m ∧ ze M 89 0 = 1 ∧ (∀ k : Nat, (k : Int) < m → 0 ≤ ze M 89 k ∧ (ze M 89 k).toNat ∈ gS T) ∧ ∀ i j : Nat, i < j → (j : Int) < m → ze M 89 i ≠ ze M 89 j
def zX (T : zGT) (M : zMem) (m k g : Int) : Prop := ∀ k' g' : Nat, g' < gN T → ((k' : Int) < k ∨ ((k' : Int) = k ∧ (g' : Int) < g)) → (k' : Int) < m → ¬ (ze M 89 k').toNat.testBit g' = true → ∃ j : Nat, (j : Int) < m ∧ gLC T ((ze M 89 k').toNat ||| 2 ^ g') (ze M 89 j).toNat
theorem zJ.e {T : zGT} {M N : zMem} {m : Int} (h : ∀ k, ze N 89 k = ze M 89 k) (hJ : zJ T M m) : zJ T N m := by
  unfold zJ
  simp only [h]
  exact hJ
theorem zX.e {T : zGT} {M N : zMem} {m k g : Int} (h : ∀ k, ze N 89 k = ze M 89 k) (hX : zX T M m k g) : zX T N m k g := by
  unfold zX
  simp only [h]
  exact hX
theorem zJ_0 {T : zGT} (hO : gOK T) {N : zMem} (h : ze N 89 0 = 1) : zJ T N 1 := ⟨Int.le_refl _, h, fun k hk => by
  rw [show k = 0 by omega, h]
  exact ⟨by omega, hO.2.1.2.1⟩, fun i j h1 h2 => by omega⟩
theorem zX_0 {T : zGT} {M : zMem} {m : Int} : zX T M m 0 0 := fun k' g' _ h => absurd h (by omega)
theorem zX_1 {T : zGT} (hO : gOK T) {M : zMem} {m k : Int} (hJ : zJ T M m) (h : zX T M m k 0) : zX T M m k 1 := by
  intro k' g' h1 h2 h3 h4
  by_cases e : g' = 0
  · subst e
    exact absurd ((hO.2.1.2.2 _ (hJ.2.2.1 k' h3).2).1.2.2.1) h4
  · exact h k' g' h1 (by omega) h3 h4
theorem zX_n {T : zGT} {M : zMem} {m k g : Int} (h : zX T M m k g) (hg : (gN T : Int) ≤ g) : zX T M m (k + 1) 0 := by
  intro k' g' h1 h2 h3 h4
  exact h k' g' h1 (by omega) h3 h4
theorem zX_b {T : zGT} {M : zMem} {m k g v : Int} (hk : 0 ≤ k) (hg : 0 ≤ g) (h : zX T M m k g) (hv : v = ze M 89 k.toNat) (hb : zbt v g) : zX T M m k (g + 1) := by
  intro k' g' h1 h2 h3 h4
  by_cases e : (k' : Int) = k ∧ (g' : Int) = g
  · obtain ⟨e1, e2⟩ := e
    unfold zbt at hb
    rw [hv, ← e1, ← e2] at hb
    exact absurd hb h4
  · exact h k' g' h1 (by omega) h3 h4
theorem zX_f {T : zGT} {M : zMem} {m k g v r : Int} (hk : 0 ≤ k) (hg : 0 ≤ g) (h : zX T M m k g) (hv : v = ze M 89 k.toNat) (hr : gLC T (v.toNat ||| 2 ^ g.toNat) r.toNat) {j : Nat} (hjr : ze M 89 j = r) (hj : (j : Int) < m) : zX T M m k (g + 1) := by
  intro k' g' h1 h2 h3 h4
  by_cases e : (k' : Int) = k ∧ (g' : Int) = g
  · obtain ⟨e1, e2⟩ := e
    refine ⟨j, hj, ?_⟩
    rw [hjr, show g' = g.toNat by omega]
    rw [hv, ← e1] at hr
    exact hr
  · exact h k' g' h1 (by omega) h3 h4
theorem zJ_a {T : zGT} (hO : gOK T) {M N : zMem} {m k g v r : Int} (hk : 0 ≤ k) (hkm : k < m) (hg : 0 ≤ g) (hJ : zJ T M m) (h : zX T M m k g) (hv : v = ze M 89 k.toNat) (hr0 : 0 ≤ r) (hr : gLC T (v.toNat ||| 2 ^ g.toNat) r.toNat) (hn : ∀ j : Nat, (j : Int) < m → ze M 89 j ≠ r) (hN : N = zsI M 89 m.toNat (Int32.ofInt r)) : zJ T N (m + 1) ∧ zX T N (m + 1) k (g + 1) := by
  have hm := hJ.1
  have hR := hO.mem hr
  have hRb := hO.sb hR
  have hrr : zn32 r := ⟨by omega, by omega⟩
  have e1 : ∀ j : Nat, (j : Int) < m → ze N 89 j = ze M 89 j := fun j hj => zs_oth hN (by omega)
  have e2 : ze N 89 m.toNat = r := zs_get hN hrr
  refine ⟨⟨by omega, by rw [e1 0 (by omega)]; exact hJ.2.1, fun j hj => ?_, fun i j h1 h2 => ?_⟩, fun k' g' h1 h2 h3 h4 => ?_⟩
  · by_cases e : (j : Int) = m
    · rw [show j = m.toNat by omega, e2]; exact ⟨hr0, hR⟩
    · rw [e1 j (by omega)]; exact hJ.2.2.1 j (by omega)
  · rw [e1 i (by omega)]
    by_cases e : (j : Int) = m
    · rw [show j = m.toNat by omega, e2]; exact hn i (by omega)
    · rw [e1 j (by omega)]; exact hJ.2.2.2 i j h1 (by omega)
  · have hk' : (k' : Int) < m := by omega
    rw [e1 k' hk'] at h4 ⊢
    by_cases e : (k' : Int) = k ∧ (g' : Int) = g
    · obtain ⟨d1, d2⟩ := e
      refine ⟨m.toNat, by omega, ?_⟩
      rw [e2, show g' = g.toNat by omega]
      rw [hv, ← d1] at hr
      exact hr
    · obtain ⟨j, hj, hL⟩ := h k' g' h1 (by omega) hk' h4
      exact ⟨j, by omega, by rw [e1 j hj]; exact hL⟩
theorem nodup_len : ∀ (l1 l2 : List Nat), l1.Nodup → (∀ x ∈ l1, x ∈ l2) → l1.length ≤ l2.length
  | [], _, _, _ => Nat.zero_le _
  | x :: l, l2, hn, hs => by
    have h1 := List.nodup_cons.mp hn
    have h2 := nodup_len l (l2.erase x) h1.2 (fun y hy => (List.mem_erase_of_ne (fun e : y = x => h1.1 (by rw [← e]; exact hy))).mpr (hs y (List.mem_cons_of_mem _ hy)))
    have hx := hs x List.mem_cons_self
    rw [List.length_erase_of_mem hx] at h2
    have := List.length_pos_of_mem hx
    simp only [List.length_cons]
    omega
theorem zJ_le {T : zGT} (hO : gOK T) {M : zMem} {m : Int} (hJ : zJ T M m) : m ≤ 64 := by
  have h := nodup_len ((List.range m.toNat).map (fun k => (ze M 89 k).toNat)) (gS T) (by
    rw [List.Nodup, List.pairwise_map]
    refine List.Pairwise.imp_of_mem ?_ (List.pairwise_lt_range (n := m.toNat))
    intro i j hi hj hij e
    rw [List.mem_range] at hi hj
    have a1 := hJ.2.2.1 i (by omega)
    have a2 := hJ.2.2.1 j (by omega)
    exact hJ.2.2.2 i j hij (by omega) (by omega)) (by
    intro x hx
    obtain ⟨k, hk, rfl⟩ := List.mem_map.mp hx
    rw [List.mem_range] at hk
    exact (hJ.2.2.1 k (by omega)).2)
  rw [List.length_map, List.length_range] at h
  have := hO.2.1.1
  omega
theorem zJ_all {T : zGT} {M : zMem} {m : Int} (hJ : zJ T M m) (hX : zX T M m m 0) {S : Nat} (h1 : S < 2 ^ gN T) (h2 : gCl T S) : ∃ k : Nat, (k : Int) < m ∧ ze M 89 k = (S : Int) := by
  have h := gcomp (T := T) (J := (List.range m.toNat).map (fun k => (ze M 89 k).toNat)) (by
    refine List.mem_map.mpr ⟨0, ?_, ?_⟩
    · rw [List.mem_range]; have := hJ.1; omega
    · rw [hJ.2.1]; rfl) (by
    intro Q hQ g hg hb
    obtain ⟨k, hk, rfl⟩ := List.mem_map.mp hQ
    rw [List.mem_range] at hk
    obtain ⟨j, hj, hL⟩ := hX k g hg (Or.inl (by omega)) (by omega) hb
    exact ⟨_, List.mem_map.mpr ⟨j, by rw [List.mem_range]; omega, rfl⟩, hL⟩) h1 h2
  obtain ⟨k, hk, e⟩ := List.mem_map.mp h
  rw [List.mem_range] at hk
  have := (hJ.2.2.1 k (by omega)).1
  exact ⟨k, by omega, by omega⟩
theorem zcb_n {m : Nat} (hm : m < 2147483648) : ∀ k, k ≤ 31 → zcb (m : Int) k = ((gup (fun k r => r + (m >>> k) % 2) 0 k : Nat) : Int)
  | 0, _ => rfl
  | k + 1, h => by
    have ih := zcb_n hm k (by omega)
    show zcb (m : Int) k + zand (zshr m k) 1 = ((gup _ 0 k + (m >>> k) % 2 : Nat) : Int)
    have e1 := zshr_n m k hm (by omega)
    have e2 := zand_n (m >>> k) 1 (Nat.lt_of_le_of_lt (Nat.shiftRight_le m k) hm) (by omega)
    have e3 : ((1 : Nat) : Int) = 1 := rfl
    rw [e3] at e2
    rw [ih, e1, e2, Nat.and_one_is_mod]
    rfl
theorem zky_n {m : Nat} (hm : m < 16777216) : zky (m : Int) = ((gky m : Nat) : Int) := by
  unfold zky gky gcb
  rw [zcb_n (by omega) 31 (Nat.le_refl _)]
  omega
theorem zsort_u {a b : Nat → Int} {n n' : Nat} (ha : ∀ i j, i < j → j < n → zky (a i) < zky (a j)) (hb : ∀ i j, i < j → j < n' → zky (b i) < zky (b j)) (h : ∀ y : Int, (∃ i, i < n ∧ a i = y) ↔ (∃ i, i < n' ∧ b i = y)) : ∀ i, i < n → i < n' ∧ a i = b i := by
  intro i
  induction i using Nat.strongRecOn with
  | ind i ih =>
    intro hi
    obtain ⟨p, hp, ep⟩ := (h (a i)).mp ⟨i, hi, rfl⟩
    have hpi : i ≤ p := by
      rcases Nat.lt_or_ge p i with g | g
      · have := (ih p g (by omega)).2
        have h2 := ha p i g hi
        rw [this, ep] at h2
        omega
      · exact g
    obtain ⟨q, hq, eq⟩ := (h (b i)).mpr ⟨i, by omega, rfl⟩
    have hqi : i ≤ q := by
      rcases Nat.lt_or_ge q i with g | g
      · have := (ih q g (by omega)).2
        have h2 := hb q i g (by omega)
        rw [← this, eq] at h2
        omega
      · exact g
    refine ⟨by omega, ?_⟩
    by_cases e1 : i = p
    · rw [e1] at ep ⊢
      exact ep.symm
    · by_cases e2 : i = q
      · rw [e2] at eq ⊢
        exact eq
      · have h1 := hb i p (by omega) hp
        have h2 := ha i q (by omega) hq
        rw [ep] at h1
        rw [eq] at h2
        omega
def zFl (T : zGT) (M : zMem) (k : Int) : Prop := (0 ≤ ze M 81 26 ∧ ze M 81 26 ≤ k) ∧ zSo M (ze M 81 26) ∧ ∀ y : Int, (∃ j : Nat, (j : Int) < ze M 81 26 ∧ ze M 91 j = y) ↔ ∃ k' : Nat, (k' : Int) < k ∧ ze M 89 k' = y ∧ ((glt T y.toNat : Nat) : Int) = y
theorem zFl_0 {T : zGT} {M : zMem} (h : ze M 81 26 = 0) : zFl T M 0 := by
  unfold zFl
  rw [h]
  refine ⟨⟨Int.le_refl _, Int.le_refl _⟩, ⟨fun i j _ h2 => by omega, fun i h2 => by omega⟩, fun y => ⟨?_, ?_⟩⟩
  · rintro ⟨j, h2, -⟩; omega
  · rintro ⟨j, h2, -⟩; omega
theorem zFl_n {T : zGT} {M : zMem} {k v t : Int} (hk : 0 ≤ k) (h : zFl T M k) (hv : v = ze M 89 k.toNat) (ht : t = ((glt T v.toNat : Nat) : Int)) (hn : t ≠ v) : zFl T M (k + 1) := by
  obtain ⟨h1, h2, h3⟩ := h
  refine ⟨⟨h1.1, by omega⟩, h2, fun y => (h3 y).trans ⟨?_, ?_⟩⟩
  · rintro ⟨k', a1, a2, a3⟩
    exact ⟨k', by omega, a2, a3⟩
  · rintro ⟨k', a1, a2, a3⟩
    refine ⟨k', ?_, a2, a3⟩
    by_cases e : (k' : Int) = k
    · rw [show k' = k.toNat by omega, ← hv] at a2
      subst a2
      omega
    · omega
theorem zFl_ne {T : zGT} {M : zMem} {m k v : Int} (hJ : zJ T M m) (hk : 0 ≤ k) (hkm : k < m) (h : zFl T M k) (hv : v = ze M 89 k.toNat) : ∀ i : Nat, (i : Int) < ze M 81 26 → ze M 91 i ≠ v := by
  intro i hi e
  obtain ⟨k', a1, a2, -⟩ := (h.2.2 v).mp ⟨i, hi, e⟩
  exact hJ.2.2.2 k' k.toNat (by omega) (by omega) (by rw [a2, hv])
theorem zFl_a {T : zGT} {M N : zMem} {k v t : Int} (hk : 0 ≤ k) (h : zFl T M k) (hv : v = ze M 89 k.toNat) (ht : t = ((glt T v.toNat : Nat) : Int)) (hn : t = v) (hs : ∀ j, ze N 89 j = ze M 89 j) (g1 : ze N 81 26 = ze M 81 26 + 1) (g2 : zSo N (ze N 81 26)) (g3 : ∀ y : Int, (∃ j : Nat, (j : Int) < ze N 81 26 ∧ ze N 91 j = y) ↔ (y = v ∨ ∃ j : Nat, (j : Int) < ze M 81 26 ∧ ze M 91 j = y)) : zFl T N (k + 1) := by
  obtain ⟨h1, h2, h3⟩ := h
  refine ⟨⟨by omega, by omega⟩, g2, fun y => (g3 y).trans ⟨?_, ?_⟩⟩
  · rintro (rfl | hy)
    · exact ⟨k.toNat, by omega, by rw [hs, hv], by rw [← ht]; exact hn⟩
    · obtain ⟨k', a1, a2, a3⟩ := (h3 y).mp hy
      exact ⟨k', by omega, by rw [hs]; exact a2, a3⟩
  · rintro ⟨k', a1, a2, a3⟩
    rw [hs] at a2
    by_cases e : (k' : Int) = k
    · rw [show k' = k.toNat by omega, ← hv] at a2
      exact Or.inl a2.symm
    · exact Or.inr ((h3 y).mpr ⟨k', by omega, a2, a3⟩)
def zFirs (T : zGT) (M : zMem) : Prop := ze M 81 26 = ((gF T).length : Int) ∧ ∀ i, i < (gF T).length → ze M 91 i = (((gF T).getD i 0 : Nat) : Int)
theorem gF_m {T : zGT} {i : Nat} (h : i < (gF T).length) : (gF T).getD i 0 ∈ gF T := by
  rw [List.getD_eq_getElem?_getD, List.getElem?_eq_getElem h]
  exact List.getElem_mem h
theorem zFl_e {T : zGT} (hO : gOK T) {M : zMem} {m : Int} (hJ : zJ T M m) (hX : zX T M m m 0) (h : zFl T M m) : zFirs T M := by
  obtain ⟨h1, h2, h3⟩ := h
  have hb : ∀ i, i < (gF T).length → (gF T).getD i 0 < 16777216 := fun i hi => hO.sb (hO.2.2.1.2.1 _ (gF_m hi)).1
  have hset : ∀ y : Int, (∃ i, i < (ze M 81 26).toNat ∧ ze M 91 i = y) ↔ (∃ i, i < (gF T).length ∧ (((gF T).getD i 0 : Nat) : Int) = y) := by
    intro y
    constructor
    · rintro ⟨i, hi, e⟩
      obtain ⟨k', a1, a2, a3⟩ := (h3 y).mp ⟨i, by omega, e⟩
      obtain ⟨c1, c2⟩ := hJ.2.2.1 k' a1
      rw [a2] at c1 c2
      have hm := hO.2.2.1.1 _ c2
      obtain ⟨j, hj, ej⟩ := List.mem_iff_getElem.mp hm
      refine ⟨j, hj, ?_⟩
      rw [List.getD_eq_getElem?_getD, List.getElem?_eq_getElem hj]
      show (((gF T)[j] : Nat) : Int) = y
      rw [ej]
      exact a3
    · rintro ⟨i, hi, e⟩
      have hm := gF_m hi
      obtain ⟨c1, c2⟩ := hO.2.2.1.2.1 _ hm
      obtain ⟨c3, c4, c5⟩ := (hO.2.1.2.2 _ c1).1
      obtain ⟨k, hk, ek⟩ := zJ_all hJ hX c4 c5
      obtain ⟨j, hj, ej⟩ := (h3 y).mpr ⟨k, hk, by rw [ek, e], by rw [← e, Int.toNat_natCast, c2]⟩
      exact ⟨j, by omega, ej⟩
  have ka : ∀ i j : Nat, i < j → j < (ze M 81 26).toNat → zky (ze M 91 i) < zky (ze M 91 j) := fun i j g1 g2 => h2.1 i j g1 (by omega)
  have kb : ∀ i j : Nat, i < j → j < (gF T).length → zky (((gF T).getD i 0 : Nat) : Int) < zky (((gF T).getD j 0 : Nat) : Int) := fun i j g1 g2 => by
    rw [zky_n (hb i (by omega)), zky_n (hb j g2)]
    have := hO.2.2.1.2.2 i j g1 g2
    omega
  have u1 := zsort_u (a := fun i => ze M 91 i) (b := fun i => (((gF T).getD i 0 : Nat) : Int)) ka kb hset
  have u2 := zsort_u (a := fun i => (((gF T).getD i 0 : Nat) : Int)) (b := fun i => ze M 91 i) kb ka (fun y => (hset y).symm)
  have hl : (ze M 81 26).toNat = (gF T).length := by
    refine Nat.le_antisymm ?_ ?_
    · rcases Nat.lt_or_ge (gF T).length (ze M 81 26).toNat with g | g
      · have := (u1 _ g).1; omega
      · exact g
    · rcases Nat.lt_or_ge (ze M 81 26).toNat (gF T).length with g | g
      · have := (u2 _ g).1; omega
      · exact g
  exact ⟨by omega, fun i hi => (u2 i hi).2.symm⟩
