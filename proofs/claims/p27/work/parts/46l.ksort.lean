def zJk (T : zGT) (f : Nat → Int) (m : Int) : Prop := (1 ≤ m ∧ m ≤ 35) ∧ f 0 = 1 ∧ (∀ k : Nat, (k : Int) < m → 0 ≤ f k ∧ (f k).toNat ∈ gS T) ∧ ∀ i j : Nat, i < j → (j : Int) < m → f i ≠ f j
def zXk (T : zGT) (f : Nat → Int) (m k g : Int) : Prop := ∀ k' g' : Nat, g' < gN T → ((k' : Int) < k ∨ ((k' : Int) = k ∧ (g' : Int) < g)) → (k' : Int) < m → ¬ (f k').toNat.testBit g' = true → ∃ j : Nat, (j : Int) < m ∧ gLC T ((f k').toNat ||| 2 ^ g') (f j).toNat
section ZJK
variable {T : zGT} {f f' : Nat → Int} {m k g r : Int}
theorem zJk_0 (hO : gOK T) (h : f 0 = 1) : zJk T f 1 ∧ zXk T f 1 0 0 := ⟨⟨by omega, h, fun k hk => by
  rw [show k = 0 by omega, h]
  exact ⟨by omega, hO.2.1.2.1⟩, fun i j h1 h2 => absurd h2 (by omega)⟩, fun k' g' _ h => absurd h (by omega)⟩
theorem zXk_n (h : zXk T f m k g) (hg : (gN T : Int) ≤ g) : zXk T f m (k + 1) 0 := fun k' g' h1 h2 h3 h4 => h k' g' h1 (by omega) h3 h4
theorem zXk_b (hk : 0 ≤ k) (hg : 0 ≤ g) (h : zXk T f m k g) {v : Int} (hv : v = f k.toNat) (hb : zbt v g) : zXk T f m k (g + 1) := by
  intro k' g' h1 h2 h3 h4
  by_cases e : (k' : Int) = k ∧ (g' : Int) = g
  · obtain ⟨e1, e2⟩ := e
    unfold zbt at hb
    rw [hv, show k.toNat = k' by omega, show g.toNat = g' by omega] at hb
    exact absurd hb h4
  · exact h k' g' h1 (by omega) h3 h4
theorem zXk_f (hk : 0 ≤ k) (hg : 0 ≤ g) (h : zXk T f m k g) (hr : gLC T ((f k.toNat).toNat ||| 2 ^ g.toNat) r.toNat) {j : Nat} (hj : (j : Int) < m) (hjr : f j = r) : zXk T f m k (g + 1) := by
  intro k' g' h1 h2 h3 h4
  by_cases e : (k' : Int) = k ∧ (g' : Int) = g
  · obtain ⟨e1, e2⟩ := e
    refine ⟨j, hj, ?_⟩
    rw [hjr, show g' = g.toNat by omega, show k' = k.toNat by omega]
    exact hr
  · exact h k' g' h1 (by omega) h3 h4
theorem zJk_c (h35 : (gS T).length ≤ 35) (hJ : zJk T f m) (r0 : 0 ≤ r) (hr : r.toNat ∈ gS T) (hn : ∀ i : Nat, (i : Int) < m → f i ≠ r) : m ≤ 34 := by
  obtain ⟨a1, a2, a3, a4⟩ := hJ
  have := nodup_len (r.toNat :: (List.range m.toNat).map (fun k => (f k).toNat)) (gS T) (by
    refine List.nodup_cons.mpr ⟨fun hx => ?_, ?_⟩
    · obtain ⟨k, hk, e⟩ := List.mem_map.mp hx
      rw [List.mem_range] at hk
      have h2 := (a3 k (by omega)).1
      exact hn k (by omega) (by omega)
    · rw [List.Nodup, List.pairwise_map]
      refine List.Pairwise.imp_of_mem ?_ (List.pairwise_lt_range (n := m.toNat))
      intro k j hk hj hkj e
      rw [List.mem_range] at hk hj
      have h3 := (a3 k (by omega)).1
      have h4 := (a3 j (by omega)).1
      exact a4 k j hkj (by omega) (by omega)) (fun x hx => by
    rcases List.mem_cons.mp hx with rfl | hx
    · exact hr
    · obtain ⟨k, hk, rfl⟩ := List.mem_map.mp hx
      rw [List.mem_range] at hk
      exact (a3 k (by omega)).2)
  rw [List.length_cons, List.length_map, List.length_range] at this
  omega
theorem zJk_a (hJ : zJk T f m) (m34 : m ≤ 34) (r0 : 0 ≤ r) (hr : r.toNat ∈ gS T) (hn : ∀ i : Nat, (i : Int) < m → f i ≠ r) (hf : ∀ j : Nat, f' j = zst f m.toNat r j) (hX : zXk T f m k g) (hk : 0 ≤ k ∧ k < m) (hg : 0 ≤ g) (hL : gLC T ((f k.toNat).toNat ||| 2 ^ g.toNat) r.toNat) : zJk T f' (m + 1) ∧ zXk T f' (m + 1) k (g + 1) := by
  obtain ⟨a1, a2, a3, a4⟩ := hJ
  have o : ∀ i : Nat, (i : Int) < m → f' i = f i := fun i hi => (hf i).trans (zst_o (by omega))
  have t : f' m.toNat = r := (hf _).trans zst_t
  refine ⟨⟨by omega, by rw [o 0 (by omega)]; exact a2, fun i hi => ?_, fun i j hij hj => ?_⟩, fun k' g' h1 h2 h3 h4 => ?_⟩
  · by_cases e : (i : Int) = m
    · rw [show i = m.toNat by omega, t]
      exact ⟨r0, hr⟩
    · rw [o i (by omega)]
      exact a3 i (by omega)
  · rw [o i (by omega)]
    by_cases e : (j : Int) = m
    · rw [show j = m.toNat by omega, t]
      exact hn i (by omega)
    · rw [o j (by omega)]
      exact a4 i j hij (by omega)
  · rw [o k' (by omega)] at h4 ⊢
    by_cases e : (k' : Int) = k ∧ (g' : Int) = g
    · refine ⟨m.toNat, by omega, ?_⟩
      rw [t, show k' = k.toNat by omega, show g' = g.toNat by omega]
      exact hL
    · obtain ⟨j, hj, q⟩ := hX k' g' h1 (by omega) (by omega) h4
      exact ⟨j, by omega, by rw [o j hj]; exact q⟩
theorem zJk_e (hO : gOK T) (hJ : zJk T f m) (hX : zXk T f m k 0) (hk : m ≤ k) : ∀ s, s ∈ gS T ↔ ∃ j : Nat, (j : Int) < m ∧ (f j).toNat = s := by
  intro s
  constructor
  · intro hs
    have hq := (hO.2.1.2.2 s hs).1
    have := gcomp (T := T) (J := (List.range m.toNat).map (fun j => (f j).toNat)) (List.mem_map.mpr ⟨0, List.mem_range.mpr (by have := hJ.1; omega), by rw [hJ.2.1]; rfl⟩) (fun S hS g hg hb => by
      obtain ⟨j, hj, rfl⟩ := List.mem_map.mp hS
      rw [List.mem_range] at hj
      obtain ⟨i, hi, q⟩ := hX j g hg (by omega) (by omega) hb
      exact ⟨_, List.mem_map.mpr ⟨i, List.mem_range.mpr (by omega), rfl⟩, q⟩) hq.2.1 hq.2.2
    obtain ⟨j, hj, e⟩ := List.mem_map.mp this
    rw [List.mem_range] at hj
    exact ⟨j, by omega, e⟩
  · rintro ⟨j, hj, rfl⟩
    exact (hJ.2.2.1 j hj).2
end ZJK
def zkyK (x : Int) : Int := ((gky x.toNat : Nat) : Int)
theorem gky_i {a b : Nat} (ha : a < 16777216) (hb : b < 16777216) (h : gky a = gky b) : a = b := by
  unfold gky at h
  omega
theorem zky_l {a b : Int} (ha : 0 ≤ a ∧ a < 16777216) (hb : 0 ≤ b ∧ b < 16777216) : zkyK a < zkyK b ↔ (gcb a.toNat < gcb b.toNat ∨ (gcb a.toNat = gcb b.toNat ∧ a < b)) := by
  unfold zkyK gky
  omega
theorem zJk_s {T : zGT} (hO : gOK T) {f : Nat → Int} {m : Int} (hJ : zJk T f m) : zSoK zkyK f f m.toNat 1 := by
  refine zSo_0 (fun a b ha hb hab e => ?_)
  have h1 := hJ.2.2.1 a (by omega)
  have h2 := hJ.2.2.1 b (by omega)
  have e2 : (f a).toNat = (f b).toNat := gky_i (hO.sb h1.2) (hO.sb h2.2) (by unfold zkyK at e; omega)
  rcases Nat.lt_or_ge a b with g | g
  · exact hJ.2.2.2 a b g (by omega) (by omega)
  · exact hJ.2.2.2 b a (by omega) (by omega) (by omega)
def zLs (T : zGT) (f : Nat → Int) (m : Int) : Prop := (1 ≤ m ∧ m ≤ 35) ∧ (∀ k : Nat, (k : Int) < m → 0 ≤ f k ∧ (f k).toNat ∈ gS T) ∧ (∀ s, s ∈ gS T → ∃ j : Nat, (j : Int) < m ∧ (f j).toNat = s) ∧ ∀ i j : Nat, i < j → (j : Int) < m → zkyK (f i) < zkyK (f j)
theorem zLs_i {T : zGT} {f0 f : Nat → Int} {m : Int} {i : Nat} (hJ : zJk T f0 m) (hc : ∀ s, s ∈ gS T ↔ ∃ j : Nat, (j : Int) < m ∧ (f0 j).toNat = s) (hs : zSoK zkyK f0 f m.toNat i) (hi : m.toNat ≤ i) : zLs T f m := by
  obtain ⟨a1, a2, a3⟩ := hs
  refine ⟨hJ.1, fun k hk => ?_, fun s hs => ?_, fun i j hij hj => a3 i j hij (by omega)⟩
  · obtain ⟨j, hj, e⟩ := (a1 (f k)).mp ⟨k, by omega, rfl⟩
    rw [← e]
    exact hJ.2.2.1 j (by omega)
  · obtain ⟨j, hj, e⟩ := (hc s).mp hs
    obtain ⟨k, hk, e2⟩ := (a1 (f0 j)).mpr ⟨j, by omega, rfl⟩
    exact ⟨k, by omega, by rw [e2]; exact e⟩
theorem glt_le (T : zGT) (S : Nat) : glt T S ≤ S := by
  rw [glt_e]
  have : ∀ k, gup (gltF T S) S k ≤ S := by
    intro k
    induction k with
    | zero => exact Nat.le_refl _
    | succ k ih =>
      show gltF T S k (gup (gltF T S) S k) ≤ S
      generalize gup (gltF T S) S k = q at ih ⊢
      unfold gltF
      split
      · omega
      · exact ih
  exact this _
def zMk (T : zGT) (f : Nat → Int) (k g : Int) (s : Nat) : Prop := ∃ j h : Nat, ((j : Int) < k ∨ ((j : Int) = k ∧ (h : Int) < g)) ∧ h < gN T ∧ (f j).toNat ∈ gF T ∧ gtr T (f j).toNat h = s
def zNu (T : zGT) (f : Nat → Int) (m : Int) (q fi : Nat → Int) (c k g : Int) : Prop := (∀ i : Nat, (i : Int) < m → -1 ≤ q i ∧ (q i ≠ -1 ↔ zMk T f k g (f i).toNat)) ∧ (0 ≤ c ∧ (∀ i : Nat, (i : Int) < c → 0 ≤ fi i ∧ (fi i).toNat ∈ gF T) ∧ (∀ i j : Nat, i < j → (j : Int) < c → zkyK (fi i) < zkyK (fi j)) ∧ (∀ i : Nat, (i : Int) < c → ∃ j : Nat, (j : Int) < k ∧ f j = fi i) ∧ ∀ j : Nat, (j : Int) < k → (f j).toNat ∈ gF T → ∃ i : Nat, (i : Int) < c ∧ fi i = f j)
section ZNU
variable {T : zGT} {f q q' fi fi' : Nat → Int} {m c k g : Int} {l : List Nat} {Kp : Nat} {KL : List Nat}
theorem zNu_0 (hq : ∀ i : Nat, (i : Int) < m → q i = -1) : zNu T f m q fi 0 0 0 := by
  refine ⟨fun i hi => ?_, by omega, fun i hi => absurd hi (by omega), fun i j h1 h2 => absurd h2 (by omega), fun i hi => absurd hi (by omega), fun j hj => absurd hj (by omega)⟩
  rw [hq i hi]
  refine ⟨by omega, fun h => absurd rfl h, ?_⟩
  rintro ⟨j, h, hd, -⟩
  exact absurd hd (by omega)
theorem zNu_t (hO : gOK T) (hL : zLs T f m) (ol : gOL T l Kp KL) (h : zNu T f m q fi c k 0) (hk : 0 ≤ k ∧ k < m) : q k.toNat = -1 ↔ (f k.toNat).toNat ∈ gF T := by
  obtain ⟨-, -, -, o4, o5, -, -, -, o8, -⟩ := ol
  have hq := (h.1 k.toNat (by omega)).2
  have hm := hL.2.1 k.toNat (by omega)
  constructor
  · intro he
    refine Classical.byContradiction fun hn => ?_
    have hf := hO.2.2.1.1 _ hm.2
    obtain ⟨hh, h1, h2⟩ := o5 _ hm.2
    have hg := (hO.2.2.1.2.1 _ hf).1
    obtain ⟨j, hj, e⟩ := hL.2.2.1 _ hg
    have hj0 := (hL.2.1 j hj).1
    have hle := glt_le T (f k.toNat).toNat
    have hne : glt T (f k.toNat).toNat ≠ (f k.toNat).toNat := fun e2 => hn (by rw [← e2]; exact hf)
    have hcb := o8 _ hm.2
    have hjk : j < k.toNat := by
      rcases Nat.lt_trichotomy j k.toNat with g | g | g
      · exact g
      · rw [g] at e
        exact absurd e.symm hne
      · have h3 := hL.2.2.2 k.toNat j g hj
        unfold zkyK gky at h3
        rw [e, hcb] at h3
        omega
    exact absurd he (hq.mpr ⟨j, hh, by omega, h1, by rw [e]; exact hf, by rw [e]; exact h2⟩)
  · intro hf
    refine Classical.byContradiction fun hn => ?_
    obtain ⟨j, hh, hd, h1, h2, h3⟩ := hq.mp hn
    have h4 := (o4 _ h2 hh h1).2 (by rw [h3]; exact hf)
    rw [h3] at h4
    have h5 := hL.2.2.2 j k.toNat (by omega) (by omega)
    unfold zkyK at h5
    rw [h4] at h5
    omega
theorem zNu_n (hL : zLs T f m) (h : zNu T f m q fi c k 0) (hk : 0 ≤ k ∧ k < m) (hn : (f k.toNat).toNat ∉ gF T) : zNu T f m q fi c (k + 1) 0 := by
  obtain ⟨h1, h2, h3, h4, h5, h6⟩ := h
  refine ⟨fun i hi => ⟨(h1 i hi).1, (h1 i hi).2.trans ⟨?_, ?_⟩⟩, h2, h3, h4, fun i hi => ?_, fun j hj hf => ?_⟩
  · rintro ⟨j, hh, hd, a⟩
    exact ⟨j, hh, by omega, a⟩
  · rintro ⟨j, hh, hd, a1, a2, a3⟩
    refine ⟨j, hh, ?_, a1, a2, a3⟩
    by_cases e : j = k.toNat
    · rw [e] at a2
      exact absurd a2 hn
    · omega
  · obtain ⟨j, hj, e⟩ := h5 i hi
    exact ⟨j, by omega, e⟩
  · by_cases e : j = k.toNat
    · rw [e] at hf
      exact absurd hf hn
    · exact h6 j (by omega) hf
theorem zNu_g (h24 : gN T ≤ 24) (hL : zLs T f m) (h : zNu T f m q fi c k g) (hk : 0 ≤ k ∧ k < m) (hg : 0 ≤ g ∧ g < gN T) (hf : (f k.toNat).toNat ∈ gF T) (c0 : 0 ≤ c) {v : Int} (v0 : 0 ≤ v) (v1 : v < m) (hv : (f v.toNat).toNat = gtr T (f k.toNat).toNat g.toNat) (hq : ∀ j : Nat, q' j = zst q v.toNat c j) : zNu T f m q' fi c k (g + 1) := by
  obtain ⟨h1, h2⟩ := h
  refine ⟨fun i hi => ?_, h2⟩
  rw [hq i]
  have hi1 := h1 i hi
  by_cases e : i = v.toNat
  · rw [e, zst_t]
    exact ⟨by omega, fun _ => ⟨k.toNat, g.toNat, by omega, by omega, hf, by rw [hv]⟩, fun _ => by omega⟩
  · rw [zst_o e]
    refine ⟨hi1.1, hi1.2.trans ⟨?_, ?_⟩⟩
    · rintro ⟨j, hh, hd, a⟩
      exact ⟨j, hh, by omega, a⟩
    · rintro ⟨j, hh, hd, a1, a2, a3⟩
      refine ⟨j, hh, ?_, a1, a2, a3⟩
      by_cases e2 : j = k.toNat ∧ hh = g.toNat
      · obtain ⟨rfl, rfl⟩ := e2
        rw [← hv] at a3
        have hv0 := (hL.2.1 v.toNat (by omega)).1
        have hi0 := (hL.2.1 i hi).1
        exfalso
        rcases Nat.lt_trichotomy i v.toNat with b | b | b
        · have := hL.2.2.2 i v.toNat b (by omega)
          unfold zkyK at this
          rw [a3] at this
          omega
        · exact e b
        · have := hL.2.2.2 v.toNat i b (by omega)
          unfold zkyK at this
          rw [a3] at this
          omega
      · omega
theorem zNu_w (h : zNu T f m q fi c k g) (o : ∀ i : Nat, (i : Int) < c → fi' i = fi i) : zNu T f m q fi' c k g := by
  obtain ⟨h1, h2, h3, h4, h5, h6⟩ := h
  refine ⟨h1, h2, fun i hi => by rw [o i hi]; exact h3 i hi, fun i j hij hj => by rw [o i (by omega), o j hj]; exact h4 i j hij hj, fun i hi => by rw [o i hi]; exact h5 i hi, fun j hj hf => ?_⟩
  obtain ⟨i, hi, e⟩ := h6 j hj hf
  exact ⟨i, hi, by rw [o i hi]; exact e⟩
theorem zNu_f (hL : zLs T f m) (h : zNu T f m q fi c k g) (hk : 0 ≤ k ∧ k < m) (hg : (gN T : Int) ≤ g) (hf : (f k.toNat).toNat ∈ gF T) (t : fi c.toNat = f k.toNat) : zNu T f m q fi (c + 1) (k + 1) 0 := by
  obtain ⟨h1, h2, h3, h4, h5, h6⟩ := h
  refine ⟨fun i hi => ⟨(h1 i hi).1, (h1 i hi).2.trans ⟨?_, ?_⟩⟩, by omega, fun i hi => ?_, fun i j hij hj => ?_, fun i hi => ?_, fun j hj hjf => ?_⟩
  · rintro ⟨j, hh, hd, a⟩
    exact ⟨j, hh, by omega, a⟩
  · rintro ⟨j, hh, hd, a1, a⟩
    exact ⟨j, hh, by omega, a1, a⟩
  · by_cases e : (i : Int) = c
    · rw [show i = c.toNat by omega, t]
      exact ⟨(hL.2.1 k.toNat (by omega)).1, hf⟩
    · exact h3 i (by omega)
  · by_cases e : (j : Int) = c
    · rw [show j = c.toNat by omega, t]
      obtain ⟨p, hp, e2⟩ := h5 i (by omega)
      rw [← e2]
      exact hL.2.2.2 p k.toNat (by omega) (by omega)
    · exact h4 i j hij (by omega)
  · by_cases e : (i : Int) = c
    · exact ⟨k.toNat, by omega, by rw [show i = c.toNat by omega, t]⟩
    · obtain ⟨p, hp, e2⟩ := h5 i (by omega)
      exact ⟨p, by omega, e2⟩
  · by_cases e : j = k.toNat
    · exact ⟨c.toNat, by omega, by rw [t, e]⟩
    · obtain ⟨i, hi, e2⟩ := h6 j (by omega) hjf
      exact ⟨i, by omega, e2⟩
theorem zNu_r (hL : zLs T f m) (ol : gOL T l Kp KL) (h : zNu T f m q fi c k 0) (hk : 0 ≤ k ∧ k < m) (hf : (f k.toNat).toNat ∈ gF T) : c ≤ 26 := by
  obtain ⟨h1, h2, h3, h4, h5, h6⟩ := h
  have := nodup_len ((f k.toNat).toNat :: (List.range c.toNat).map (fun i => (fi i).toNat)) (gF T) (by
    refine List.nodup_cons.mpr ⟨fun hx => ?_, ?_⟩
    · obtain ⟨i, hi, e⟩ := List.mem_map.mp hx
      rw [List.mem_range] at hi
      obtain ⟨j, hj, e2⟩ := h5 i (by omega)
      have h7 := hL.2.2.2 j k.toNat (by omega) (by omega)
      rw [e2] at h7
      unfold zkyK at h7
      rw [e] at h7
      omega
    · rw [List.Nodup, List.pairwise_map]
      refine List.Pairwise.imp_of_mem ?_ (List.pairwise_lt_range (n := c.toNat))
      intro i j hi hj hij e
      rw [List.mem_range] at hi hj
      have := h4 i j hij (by omega)
      unfold zkyK at this
      rw [e] at this
      omega) (fun x hx => by
    rcases List.mem_cons.mp hx with rfl | hx
    · exact hf
    · obtain ⟨i, hi, rfl⟩ := List.mem_map.mp hx
      rw [List.mem_range] at hi
      exact (h3 i (by omega)).2)
  rw [List.length_cons, List.length_map, List.length_range] at this
  have := ol.1.2
  omega
theorem zNu_e (hO : gOK T) (hL : zLs T f m) (h : zNu T f m q fi c k 0) (hk : m ≤ k) : c = ((gF T).length : Int) ∧ ∀ i, i < (gF T).length → fi i = (((gF T).getD i 0 : Nat) : Int) := by
  obtain ⟨h1, h2, h3, h4, h5, h6⟩ := h
  have hfm : ∀ i, i < (gF T).length → (gF T).getD i 0 ∈ gF T := fun i hi => zap_m.mpr ⟨i, hi, rfl⟩
  have hset : ∀ y, (∃ i, i < c.toNat ∧ gky (fi i).toNat = y) ↔ (∃ i, i < (gF T).length ∧ gky ((gF T).getD i 0) = y) := by
    intro y
    constructor
    · rintro ⟨i, hi, rfl⟩
      obtain ⟨j, hj, e⟩ := zap_m.mp (h3 i (by omega)).2
      exact ⟨j, hj, by rw [e]⟩
    · rintro ⟨i, hi, rfl⟩
      have hF := hfm i hi
      obtain ⟨j, hj, e⟩ := hL.2.2.1 _ (hO.2.2.1.2.1 _ hF).1
      obtain ⟨p, hp, e2⟩ := h6 j (by omega) (by rw [e]; exact hF)
      exact ⟨p, by omega, by rw [e2, e]⟩
  have ra : ∀ i j, i < j → j < c.toNat → gky (fi i).toNat < gky (fi j).toNat := fun i j hij hj => by
    have := h4 i j hij (by omega)
    unfold zkyK at this
    omega
  have rb : ∀ i j, i < j → j < (gF T).length → gky ((gF T).getD i 0) < gky ((gF T).getD j 0) := hO.2.2.1.2.2
  have u1 := gsort_u (a := fun i => gky (fi i).toNat) (b := fun i => gky ((gF T).getD i 0)) ra rb hset
  have u2 := gsort_u (a := fun i => gky ((gF T).getD i 0)) (b := fun i => gky (fi i).toNat) rb ra (fun y => (hset y).symm)
  have hc : c.toNat = (gF T).length := by
    refine Nat.le_antisymm ?_ ?_
    · rcases Nat.lt_or_ge (gF T).length c.toNat with g | g
      · have := (u1 _ g).1; omega
      · exact g
    · rcases Nat.lt_or_ge c.toNat (gF T).length with g | g
      · have := (u2 _ g).1; omega
      · exact g
  refine ⟨by omega, fun i hi => ?_⟩
  have e := (u1 i (by omega)).2
  have hb1 := hO.sb (hO.2.2.1.2.1 _ (h3 i (by omega)).2).1
  have hb2 := hO.sb (hO.2.2.1.2.1 _ (hfm i hi)).1
  have e2 := gky_i hb1 hb2 e
  have := (h3 i (by omega)).1
  omega
end ZNU
def gctF (T : zGT) (F H : Nat) : Nat → Nat → Nat := fun g r => if gtr T H g &&& F = gtr T H g then r + 1 else r
theorem gct_e (T : zGT) (F H : Nat) : gct T F H = gup (gctF T F H) 0 (gN T) := rfl
theorem gct_b (T : zGT) (F H : Nat) : ∀ k, gup (gctF T F H) 0 k ≤ k
  | 0 => Nat.le_refl _
  | k + 1 => by
    have ih := gct_b T F H k
    show gctF T F H k (gup (gctF T F H) 0 k) ≤ _
    generalize gup (gctF T F H) 0 k = q at ih ⊢
    unfold gctF
    split <;> omega
def gFn (T : zGT) (i : Nat) : Nat := (gF T).getD i 0
def zFl2 (T : zGT) (t : Nat → Int) (j g i : Int) : Prop := (∀ a b : Nat, a < (gF T).length → b < (gF T).length → (b : Int) < j → t (27 * a + b) = gmkI T a b) ∧ ∀ a : Nat, a < (gF T).length → t (27 * a + j.toNat) = ((gup (gctF T (gFn T a) (gFn T j.toNat)) 0 (if (a : Int) < i then (g + 1).toNat else g.toNat) : Nat) : Int)
def zFl0 (T : zGT) (t : Nat → Int) (j i : Int) : Prop := (∀ a b : Nat, a < (gF T).length → b < (gF T).length → (b : Int) < j → t (27 * a + b) = gmkI T a b) ∧ ∀ a : Nat, (a : Int) < i → t (27 * a + j.toNat) = 0
def zFl9 (T : zGT) (t : Nat → Int) (j i : Int) : Prop := (∀ a b : Nat, a < (gF T).length → b < (gF T).length → ((b : Int) < j ∨ ((b : Int) = j ∧ (a : Int) < i)) → t (27 * a + b) = gmkI T a b) ∧ ∀ a : Nat, a < (gF T).length → i ≤ (a : Int) → t (27 * a + j.toNat) = ((gct T (gFn T a) (gFn T j.toNat) : Nat) : Int)
section ZFL
variable {T : zGT} {t t' : Nat → Int} {j g i v e : Int}
theorem zFl0_0 (h : ∀ a b : Nat, a < (gF T).length → b < (gF T).length → (b : Int) < j → t (27 * a + b) = gmkI T a b) : zFl0 T t j 0 := ⟨h, fun a ha => absurd ha (by omega)⟩
theorem zFl0_s (h27 : (gF T).length ≤ 27) (h : zFl0 T t j i) (hj : 0 ≤ j ∧ j < (gF T).length) (hi : 0 ≤ i) (ht : ∀ x : Nat, t' x = zst t (i * 27 + j).toNat 0 x) : zFl0 T t' j (i + 1) := by
  refine ⟨fun a b ha hb hbj => ?_, fun a ha => ?_⟩
  · rw [ht, zst_o (by omega)]
    exact h.1 a b ha hb hbj
  · rw [ht]
    by_cases q : (a : Int) = i
    · rw [show 27 * a + j.toNat = (i * 27 + j).toNat by omega, zst_t]
    · rw [zst_o (by omega)]
      exact h.2 a (by omega)
theorem zFl0_e (h : zFl0 T t j i) (hi : ((gF T).length : Int) ≤ i) : zFl2 T t j 0 0 := ⟨h.1, fun a ha => by
  rw [h.2 a (by omega), if_neg (by omega)]
  rfl⟩
theorem zFl2_s (h27 : (gF T).length ≤ 27) (h : zFl2 T t j g i) (hj : 0 ≤ j ∧ j < (gF T).length) (hi : 0 ≤ i ∧ i < (gF T).length) (hg : 0 ≤ g) (hp : gtr T (gFn T j.toNat) g.toNat &&& gFn T i.toNat = gtr T (gFn T j.toNat) g.toNat) (hv : v = t (i * 27 + j).toNat) (ht : ∀ x : Nat, t' x = zst t (i * 27 + j).toNat (v + 1) x) : zFl2 T t' j g (i + 1) := by
  refine ⟨fun a b ha hb hbj => ?_, fun a ha => ?_⟩
  · rw [ht, zst_o (by omega)]
    exact h.1 a b ha hb hbj
  · rw [ht]
    have h2 := h.2 a ha
    by_cases q : (a : Int) = i
    · have ea : i.toNat = a := by omega
      rw [show 27 * a + j.toNat = (i * 27 + j).toNat by omega, zst_t, hv, if_pos (by omega), show (i * 27 + j).toNat = 27 * a + j.toNat by omega, h2, if_neg (by omega), show (g + 1).toNat = g.toNat + 1 by omega]
      show _ = ((gctF T (gFn T a) (gFn T j.toNat) g.toNat (gup (gctF T (gFn T a) (gFn T j.toNat)) 0 g.toNat) : Nat) : Int)
      rw [ea] at hp
      generalize gup (gctF T (gFn T a) (gFn T j.toNat)) 0 g.toNat = z
      unfold gctF
      rw [if_pos hp]
      omega
    · rw [zst_o (by omega), h2]
      by_cases q2 : (a : Int) < i
      · rw [if_pos q2, if_pos (by omega)]
      · rw [if_neg q2, if_neg (by omega)]
theorem zFl2_n (h : zFl2 T t j g i) (hi : 0 ≤ i ∧ i < (gF T).length) (hg : 0 ≤ g) (hp : ¬ gtr T (gFn T j.toNat) g.toNat &&& gFn T i.toNat = gtr T (gFn T j.toNat) g.toNat) : zFl2 T t j g (i + 1) := by
  refine ⟨h.1, fun a ha => ?_⟩
  have h2 := h.2 a ha
  by_cases q : (a : Int) = i
  · have ea : i.toNat = a := by omega
    rw [h2, if_neg (by omega), if_pos (by omega), show (g + 1).toNat = g.toNat + 1 by omega]
    show _ = ((gctF T (gFn T a) (gFn T j.toNat) g.toNat (gup (gctF T (gFn T a) (gFn T j.toNat)) 0 g.toNat) : Nat) : Int)
    rw [ea] at hp
    generalize gup (gctF T (gFn T a) (gFn T j.toNat)) 0 g.toNat = z
    unfold gctF
    rw [if_neg hp]
  · rw [h2]
    by_cases q2 : (a : Int) < i
    · rw [if_pos q2, if_pos (by omega)]
    · rw [if_neg q2, if_neg (by omega)]
theorem zFl2_r (h : zFl2 T t j g i) (hg : 0 ≤ g) (hi : ((gF T).length : Int) ≤ i) : zFl2 T t j (g + 1) 0 := ⟨h.1, fun a ha => by
  rw [h.2 a ha, if_pos (by omega), if_neg (by omega)]⟩
theorem zFl2_e (h : zFl2 T t j g 0) (hg : g = (gN T : Int)) : zFl9 T t j 0 := ⟨fun a b ha hb hd => h.1 a b ha hb (by omega), fun a ha _ => by
  rw [h.2 a ha, if_neg (by omega), gct_e, hg, Int.toNat_natCast]⟩
theorem zFl9_s (h27 : (gF T).length ≤ 27) {l : List Nat} {Kp : Nat} {KL : List Nat} (ol : gOL T l Kp KL) (h : zFl9 T t j i) (hj : 0 ≤ j ∧ j < (gF T).length) (hi : 0 ≤ i ∧ i < (gF T).length) (hv : v = t (i * 27 + j).toNat) (he : e = ((gcb (gFn T i.toNat) : Nat) : Int)) (e1 : 1 ≤ e) {w : Int} (hw : w = v / e) (ht : ∀ x : Nat, t' x = zst t (i * 27 + j).toNat w x) : zFl9 T t' j (i + 1) := by
  have o6 := ol.2.2.2.2.2.1
  refine ⟨fun a b ha hb hd => ?_, fun a ha hia => ?_⟩
  · rw [ht]
    by_cases q : (b : Int) = j ∧ (a : Int) = i
    · have ea : i.toNat = a := by omega
      have eb : j.toNat = b := by omega
      rw [show 27 * a + b = (i * 27 + j).toNat by omega, zst_t, hw, hv, show (i * 27 + j).toNat = 27 * a + j.toNat by omega, h.2 a ha (by omega), he, ea, eb]
      have h6 := o6 a b ha hb
      unfold gFn at he ⊢
      rw [ea] at he
      rw [h6]
      unfold gmkI
      rw [Int.natCast_mul]
      exact Int.mul_ediv_cancel _ (by omega)
    · rw [zst_o (by omega)]
      exact h.1 a b ha hb (by omega)
  · rw [ht, zst_o (by omega)]
    exact h.2 a ha (by omega)
theorem zFl9_e (h : zFl9 T t j i) (hi : ((gF T).length : Int) ≤ i) : ∀ a b : Nat, a < (gF T).length → b < (gF T).length → (b : Int) < j + 1 → t (27 * a + b) = gmkI T a b := fun a b ha hb hbj => h.1 a b ha hb (by omega)
end ZFL
theorem zSj_m {κ : Int → Int} {f0 f : Nat → Int} {n i t : Nat} {c : Int} (h : zSj κ f0 f n i t c) : (∃ j, j < n ∧ f0 j = c) ∧ (1 ≤ t → ∃ j, j < n ∧ f0 j = f (t - 1)) := by
  obtain ⟨⟨a1, a2⟩, a3, -⟩ := h
  refine ⟨(a3 c).mp ⟨t, by omega, zst_t⟩, fun h1 => (a3 _).mp ⟨t - 1, by omega, zst_o (by omega)⟩⟩
section ZTT
variable {T : zGT} {d : Nat} {Mz : zMem} {a b v : Int}
theorem zTt.m (h : zTt T d Mz) (hG : gGd T) (a0 : 0 ≤ a) (a1 : a < gN T) (b0 : 0 ≤ b) (b1 : b < gN T) (hv : v = ze Mz (d + 7) (a * 24 + b).toNat) : v = ((gm T a.toNat b.toNat : Nat) : Int) ∧ 0 ≤ v ∧ v < gN T := by
  have e : v = ((gm T a.toNat b.toNat : Nat) : Int) := by
    rw [hv, show (a * 24 + b).toNat = 24 * a.toNat + b.toNat by omega]
    exact h.2.1 _ _ (by omega) (by omega)
  have := hG.2.2.2 a.toNat b.toNat (by omega) (by omega)
  exact ⟨e, by omega, by omega⟩
theorem zTt.u (h : zTt T d Mz) (hG : gGd T) (a0 : 0 ≤ a) (a1 : a < gN T) (hv : v = ze Mz (d + 9) a.toNat) : v = ((gi T a.toNat : Nat) : Int) ∧ 0 ≤ v ∧ v < gN T := by
  have e : v = ((gi T a.toNat : Nat) : Int) := by
    rw [hv]
    exact h.2.2 _ (by omega)
  have := hG.2.2.1 a.toNat (by omega)
  exact ⟨e, by omega, by omega⟩
end ZTT
def zFlA (T : zGT) (t : Nat → Int) (j : Int) : Prop := ∀ a b : Nat, a < (gF T).length → b < (gF T).length → (b : Int) < j → t (27 * a + b) = gmkI T a b
def zFir (T : zGT) (d : Nat) (Mz : zMem) : Prop := ze Mz (d + 12) 7 = ((gF T).length : Int) ∧ ∀ i, i < (gF T).length → ze Mz (d + 20) i = ((gFn T i : Nat) : Int)
theorem gFn_m {T : zGT} {i : Nat} (h : i < (gF T).length) : gFn T i ∈ gF T := zap_m.mpr ⟨i, h, rfl⟩
theorem gS_b {T : zGT} (hO : gOK T) {s : Nat} (h : s ∈ gS T) : s < 2 ^ gN T ∧ s < 16777216 ∧ s.testBit 0 = true := ⟨(hO.2.1.2.2 s h).1.2.1, hO.sb h, (hO.2.1.2.2 s h).1.2.2.1⟩
theorem gcb_p {S : Nat} (h : S.testBit 0 = true) (hS : S < 16777216) : 1 ≤ gcb S := by
  unfold gcb
  have key : ∀ k, 1 ≤ k → 1 ≤ gup (fun k r => r + (S >>> k) % 2) 0 k := by
    intro k
    induction k with
    | zero => intro h; omega
    | succ k ih =>
      intro _
      show 1 ≤ gup (fun k r => r + (S >>> k) % 2) 0 k + (S >>> k) % 2
      cases k with
      | zero =>
        show 1 ≤ 0 + (S >>> 0) % 2
        rw [Nat.testBit_eq_decide_div_mod_eq, decide_eq_true_iff] at h
        rw [Nat.shiftRight_zero]
        omega
      | succ k =>
        have := ih (by omega)
        omega
  exact key 31 (by omega)
theorem zquoK {a b : Int} (a0 : 0 ≤ a) (a1 : a < 2147483648) (b0 : 1 ≤ b ∧ b < 2147483648) : zquo a b = a / b := by
  have ha : zn32 a := ⟨by omega, a1⟩
  have hb : zn32 b := ⟨by omega, b0.2⟩
  unfold zquo
  rw [Int32.toInt_div, z32 ha, z32 hb, Int.tdiv_eq_ediv_of_nonneg a0]
  have h1 : 0 ≤ a / b := Int.ediv_nonneg a0 (by omega)
  have h2 : a / b ≤ a := Int.ediv_le_self b a0
  rw [Int.bmod_def]
  omega
