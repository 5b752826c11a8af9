def gGr (T : zGT) : Prop := gAs T ∧ ∀ a, a < gN T → gi T a < gN T ∧ gm T a (gi T a) = 0
theorem zTm.gr {mv : List Nat} {T : zGT} (h : zTm mv T) (hp : ∀ g ∈ mv, gpm g) : gGr T := by
  refine ⟨h.as hp, ?_⟩
  obtain ⟨c, a1, a2, a3, a4, a5⟩ := h
  exact a5
section GGR
variable {T : zGT} {a b x y F h s S i : Nat}
theorem gGr.l (hA : gGr T) (hG : gGd T) (ha : a < gN T) : gm T (gi T a) a = 0 := by
  obtain ⟨⟨h1, h2, h3⟩, h4⟩ := hA
  have ha1 := h4 a ha
  have hb1 := h4 (gi T a) ha1.1
  have hm := hG.2.2.2 (gi T a) a ha1.1 ha
  have e1 : gm T (gm T (gi T a) a) (gm T (gi T a) (gi T (gi T a))) = gm T (gi T a) a := by rw [hb1.2, h3 _ hm]
  rw [← e1, h1 _ _ _ ha1.1 ha (hG.2.2.2 _ _ ha1.1 hb1.1), ← h1 _ _ _ ha ha1.1 hb1.1, ha1.2, h2 _ hb1.1, hb1.2]
theorem gGr.c (hA : gGr T) (hG : gGd T) (ha : a < gN T) (hx : x < gN T) (hy : y < gN T) (e : gm T a x = gm T a y) : x = y := by
  have hl := hA.l hG ha
  obtain ⟨⟨h1, h2, h3⟩, h4⟩ := hA
  have ha1 := h4 a ha
  rw [← h2 x hx, ← h2 y hy, ← hl, h1 _ _ _ ha1.1 ha hx, h1 _ _ _ ha1.1 ha hy, e]
theorem gGr.iv (hA : gGr T) (hG : gGd T) (ha : a < gN T) (hb : b < gN T) : gi T (gm T a b) = gm T (gi T b) (gi T a) := by
  have hab := hG.2.2.2 a b ha hb
  have i1 := hA.2 a ha
  have i2 := hA.2 b hb
  have i3 := hA.2 _ hab
  have hm := hG.2.2.2 _ _ i2.1 i1.1
  refine hA.c hG hab i3.1 hm ?_
  rw [i3.2, hA.1.1 _ _ _ ha hb hm, ← hA.1.1 _ _ _ hb i2.1 i1.1, i2.2, hA.1.2.1 _ i1.1, i1.2]
theorem gtr_t (hG : gGd T) (hg : a < gN T) (y : Nat) : ∀ k, k ≤ gN T → ((gup (gtrF T S a) 0 k).testBit y = true ↔ ∃ x, x < k ∧ S.testBit x = true ∧ gm T (gm T (gi T a) x) a = y)
  | 0, _ => by
    constructor
    · intro h
      have h0 : Nat.testBit 0 y = true := h
      rw [Nat.zero_testBit] at h0
      exact absurd h0 (by decide)
    · rintro ⟨x, hx, -⟩
      omega
  | k + 1, hk => by
    have ih := gtr_t hG hg y k (by omega)
    show (gtrF T S a k (gup (gtrF T S a) 0 k)).testBit y = true ↔ _
    unfold gtrF at ih ⊢
    by_cases hb : S.testBit k = true
    · rw [if_pos hb, Nat.testBit_or, Bool.or_eq_true, ih, Nat.testBit_two_pow, decide_eq_true_iff]
      constructor
      · rintro (⟨x, h1, h2⟩ | h1)
        · exact ⟨x, by omega, h2⟩
        · exact ⟨k, by omega, hb, h1⟩
      · rintro ⟨x, h1, h2, h3⟩
        by_cases e : x = k
        · rw [e] at h3
          exact Or.inr h3
        · exact Or.inl ⟨x, by omega, h2, h3⟩
    · rw [if_neg hb, ih]
      constructor
      · rintro ⟨x, h1, h2⟩
        exact ⟨x, by omega, h2⟩
      · rintro ⟨x, h1, h2, h3⟩
        by_cases e : x = k
        · rw [e] at h2
          exact absurd h2 hb
        · exact ⟨x, by omega, h2, h3⟩
theorem gtr_x (hG : gGd T) (hg : a < gN T) (y : Nat) : (gtr T S a).testBit y = true ↔ ∃ x, x < gN T ∧ S.testBit x = true ∧ gm T (gm T (gi T a) x) a = y := gtr_t hG hg y (gN T) (Nat.le_refl _)
theorem gtr_cm (hA : gGr T) (hG : gGd T) (ha : a < gN T) (hb : b < gN T) : gtr T (gtr T S a) b = gtr T S (gm T a b) := by
  have hab := hG.2.2.2 a b ha hb
  have e : ∀ x, x < gN T → gm T (gm T (gi T b) (gm T (gm T (gi T a) x) a)) b = gm T (gm T (gi T (gm T a b)) x) (gm T a b) := fun x hx => by
    have i1 := (hA.2 a ha).1
    have i2 := (hA.2 b hb).1
    have m1 := hG.2.2.2 _ _ i1 hx
    have m2 := hG.2.2.2 _ _ i2 i1
    have as_ := hA.1.1
    rw [hA.iv hG ha hb, ← as_ _ _ _ i2 m1 ha, ← as_ _ _ _ i2 i1 hx, as_ _ _ _ (hG.2.2.2 _ _ m2 hx) ha hb]
  refine Nat.eq_of_testBit_eq fun y => ?_
  rw [Bool.eq_iff_iff, gtr_x hG hb, gtr_x hG hab]
  constructor
  · rintro ⟨z, hz, h1, h2⟩
    obtain ⟨x, hx, h3, h4⟩ := (gtr_x hG ha z).mp h1
    exact ⟨x, hx, h3, by rw [← e x hx, h4]; exact h2⟩
  · rintro ⟨x, hx, h3, h4⟩
    have hz := hG.2.2.2 _ _ (hG.2.2.2 _ _ (hA.2 a ha).1 hx) ha
    exact ⟨_, hz, (gtr_x hG ha _).mpr ⟨x, hx, h3, rfl⟩, by rw [e x hx]; exact h4⟩
theorem glt_at (T : zGT) (S : Nat) : glt T S = S ∨ ∃ g, g < gN T ∧ glt T S = gtr T S g := by
  rw [glt_e]
  have : ∀ k, k ≤ gN T → gup (gltF T S) S k = S ∨ ∃ g, g < gN T ∧ gup (gltF T S) S k = gtr T S g := by
    intro k
    induction k with
    | zero => exact fun _ => Or.inl rfl
    | succ k ih =>
      intro hk
      have ih := ih (by omega)
      show gltF T S k (gup (gltF T S) S k) = S ∨ ∃ g, g < gN T ∧ gltF T S k (gup (gltF T S) S k) = gtr T S g
      generalize gup (gltF T S) S k = q at ih ⊢
      unfold gltF
      split
      · exact Or.inr ⟨k, by omega, rfl⟩
      · exact ih
  exact this _ (Nat.le_refl _)
theorem gtr_gl (hA : gGr T) (hO : gOK T) {l : List Nat} {Kp : Nat} {KL : List Nat} (ol : gOL T l Kp KL) (hF : F ∈ gF T) (hh : h < gN T) (e : gtr T F h = s) : glt T s = F := by
  have hG := hO.1
  have hs : s ∈ gS T := by
    rw [← e]
    exact (ol.2.2.2.1 F hF h hh).1
  have hg := hO.2.2.1.1 s hs
  rcases glt_at T s with g | ⟨x, hx, g⟩
  · rw [g] at hg ⊢
    rw [← e] at hg ⊢
    exact (ol.2.2.2.1 F hF h hh).2 hg
  · rw [g, ← e, gtr_cm hA hG hh hx] at hg ⊢
    exact (ol.2.2.2.1 F hF _ (hG.2.2.2 _ _ hh hx)).2 hg
def zSrt (T : zGT) (R : Nat) (v : Int) : Prop := (0 ≤ v ∧ v < ((gF T).length : Int)) ∧ gFn T v.toNat = glt T R
theorem gFn_u (hO : gOK T) {i j : Nat} (hi : i < (gF T).length) (hj : j < (gF T).length) (e : gFn T i = gFn T j) : i = j := by
  unfold gFn at e
  rcases Nat.lt_trichotomy i j with g | g | g
  · have := hO.2.2.1.2.2 i j g hj
    rw [e] at this
    omega
  · exact g
  · have := hO.2.2.1.2.2 j i g hi
    rw [e] at this
    omega
theorem zSrt.u (hO : gOK T) {R : Nat} {v w : Int} (h1 : zSrt T R v) (h2 : zSrt T R w) : v = w := by
  have := gFn_u hO (i := v.toNat) (j := w.toNat) (by have := h1.1; omega) (by have := h2.1; omega) (h1.2.trans h2.2.symm)
  have := h1.1
  have := h2.1
  omega
theorem gLC_s {C : Nat} (h : C < 2 ^ gN T) (hC : gCl T C) : gLC T C C := ⟨h, gSb.rf C, hC, fun _ _ h => h⟩
end GGR
def zNq (T : zGT) (f : Nat → Int) (m : Int) (q fi : Nat → Int) (c : Int) : Prop := ∀ i : Nat, (i : Int) < m → q i ≠ -1 → (0 ≤ q i ∧ q i < c) ∧ ∃ h, h < gN T ∧ gtr T (fi (q i).toNat).toNat h = (f i).toNat
section ZNQ
variable {T : zGT} {f q q' fi fi' : Nat → Int} {m c k g : Int}
theorem zNq_0 (hq : ∀ i : Nat, (i : Int) < m → q i = -1) : zNq T f m q fi c := fun i hi hn => absurd (hq i hi) hn
theorem zNq_w (h : zNq T f m q fi c) (o : ∀ i : Nat, (i : Int) < c → fi' i = fi i) : zNq T f m q fi' (c + 1) := fun i hi hn => by
  obtain ⟨⟨h1, h2⟩, x, h3, h4⟩ := h i hi hn
  exact ⟨⟨h1, by omega⟩, x, h3, by rw [o _ (by omega)]; exact h4⟩
theorem zNq_g (h : zNq T f m q fi (c + 1)) (c0 : 0 ≤ c) (hf : fi c.toNat = f k.toNat) {v : Int} (hv : (f v.toNat).toNat = gtr T (f k.toNat).toNat g.toNat) (hg : 0 ≤ g ∧ g < gN T) (hq : ∀ j : Nat, q' j = zst q v.toNat c j) : zNq T f m q' fi (c + 1) := fun i hi hn => by
  rw [hq i] at hn ⊢
  by_cases e : i = v.toNat
  · rw [e, zst_t]
    exact ⟨by omega, g.toNat, by omega, by rw [hf]; exact hv.symm⟩
  · rw [zst_o e] at hn ⊢
    exact h i hi hn
end ZNQ
def zSbK (T : zGT) (d : Nat) (M : zMem) : Prop := zLs T (zRw d 14 M) (ze M (d + 12) 6) ∧ ∀ i : Nat, (i : Int) < ze M (d + 12) 6 → zSrt T (ze M (d + 14) i).toNat (ze M (d + 16) i)
theorem zSbK_i {T : zGT} {f q fi : Nat → Int} {m k : Int} (hA : gGr T) (hO : gOK T) {l : List Nat} {Kp : Nat} {KL : List Nat} (ol : gOL T l Kp KL) (hL : zLs T f m) (h : zNq T f m q fi ((gF T).length : Int)) (hu : zNu T f m q fi ((gF T).length : Int) k 0) (hk : m ≤ k) (hfi : ∀ i, i < (gF T).length → fi i = ((gFn T i : Nat) : Int)) : ∀ i : Nat, (i : Int) < m → zSrt T (f i).toNat (q i) := fun i hi => by
  have hs := (hL.2.1 i hi).2
  have hne : q i ≠ -1 := by
    refine (hu.1 i hi).2.mpr ?_
    obtain ⟨x, hx, e⟩ := ol.2.2.2.2.1 _ hs
    have hF := hO.2.2.1.1 _ hs
    obtain ⟨j, hj, e2⟩ := hL.2.2.1 _ (hO.2.2.1.2.1 _ hF).1
    exact ⟨j, x, by omega, hx, by rw [e2]; exact hF, by rw [e2]; exact e⟩
  obtain ⟨h1, x, hx, e⟩ := h i hi hne
  have hF := gFn_m (T := T) (i := (q i).toNat) (by omega)
  rw [hfi _ (by omega), Int.toNat_natCast] at e
  exact ⟨h1, (gtr_gl hA hO ol hF hx e).symm⟩
theorem zSbK_m {M N : zMem} {d : Nat} {T : zGT} (hL : zLs T (zRw d 14 M) (ze M (d + 12) 6)) (e6 : ze N (d + 12) 6 = ze M (d + 12) 6) (e14 : ∀ j : Nat, ze N (d + 14) j = ze M (d + 14) j) (h : ∀ i : Nat, (i : Int) < ze M (d + 12) 6 → zSrt T (ze M (d + 14) i).toNat (ze N (d + 16) i)) : zSbK T d N := by
  have ef : zRw d 14 N = zRw d 14 M := funext e14
  unfold zSbK
  rw [e6, ef]
  exact ⟨hL, fun i hi => by rw [e14 i]; exact h i hi⟩
section ZSBK
variable {M N : zMem} {d : Nat} {T : zGT} {FA : List (Nat × Nat)} {CA : List Nat} {FR : List (Nat × Nat)} {CR : List Nat}
theorem zSbK.ee (e6 : ze N (d + 12) 6 = ze M (d + 12) 6) (e14 : ∀ j, ze N (d + 14) j = ze M (d + 14) j) (e16 : ∀ j, ze N (d + 16) j = ze M (d + 16) j) (h : zSbK T d M) : zSbK T d N := by
  have ef : zRw d 14 N = zRw d 14 M := funext e14
  unfold zSbK at h ⊢
  rw [e6, ef]
  exact ⟨h.1, fun i hi => by rw [e14 i, e16 i]; exact h.2 i hi⟩
theorem zSbK.fr (_ : zKW d M) (hf : zFc d FA CA FR CR M N) (h : zSbK T d M) (hc : (12 ∉ CR ∧ (12, 6) ∉ FR) ∧ (14 ∉ CR ∧ ∀ x ∈ FR, x.1 ≠ 14) ∧ 16 ∉ CR ∧ ∀ x ∈ FR, x.1 ≠ 16) : zSbK T d N := by
  obtain ⟨⟨c1, c2⟩, c3, c4⟩ := hc
  exact h.ee (hf.e ⟨by decide, c1, c2⟩) (fun j => hf.r ⟨by decide, c3⟩ j) (fun j => hf.r ⟨by decide, c4⟩ j)
end ZSBK
