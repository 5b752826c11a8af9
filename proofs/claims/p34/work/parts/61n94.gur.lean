theorem zus_z {T : zGT} {M : zMem} {s : Int} (h26 : ze M 81 26 = ((gF T).length : Int)) : ∀ n : Nat, (∀ k, k < n → 0 ≤ ze M 109 k) → zus M s n = zsm (fun k => zyg T s.toNat (ze M 109 k).toNat) n
  | 0, _ => rfl
  | n + 1, h => by
    show zus M s n + (if s.toNat.testBit (ze M 81 26 - 1 - ze M 109 n).toNat = true then -1 else 1) = zsm (fun k => zyg T s.toNat (ze M 109 k).toNat) n + (if s.toNat.testBit ((gF T).length - 1 - (ze M 109 n).toNat) = true then -1 else 1)
    rw [zus_z h26 n (fun k hk => h k (by omega)), show (ze M 81 26 - 1 - ze M 109 n).toNat = (gF T).length - 1 - (ze M 109 n).toNat by have := h n (by omega); omega]
theorem zuk_z {T : zGT} {M : zMem} {s j : Int} (h26 : ze M 81 26 = ((gF T).length : Int)) (hq : zMq T j M) (hs : zMss T (gFn T j.toNat) M (gN T : Int)) : zuk M s ↔ zyR T j.toNat s.toNat := by
  have h1 := hs.2 (zyg T s.toNat)
  rw [Int.toNat_natCast] at h1
  have e : ((gmm T (gFn T j.toNat) : Nat) : Int) = ze M 81 55 := hq.1.1.symm
  unfold zuk zyR zCgr
  rw [e, ← h1, zus_z h26 _ (fun k hk => (hq.2.1 k (by omega)).1)]
theorem zyR_c {T : zGT} (hT : T ∈ gTabs) (hA : gGr T) {j r r' : Nat} (hj : j < (gF T).length) (h : ∀ s, j ≤ s → s < (gF T).length → r.testBit ((gF T).length - 1 - s) = r'.testBit ((gF T).length - 1 - s)) : zyR T j r ↔ zyR T j r' := by
  have e : zsm (zmi T (gFn T j) (zcgF T (gFn T j) (zyg T r))) (gN T) = zsm (zmi T (gFn T j) (zcgF T (gFn T j) (zyg T r'))) (gN T) := zsm_c _ (fun x hx => by
    show zif (gtr T (gFn T j) x = gFn T j ∧ gcos T (gFn T j) x = x) (zyg T r (gUs T j x)) 0 = zif (gtr T (gFn T j) x = gFn T j ∧ gcos T (gFn T j) x = x) (zyg T r' (gUs T j x)) 0
    by_cases c : gtr T (gFn T j) x = gFn T j ∧ gcos T (gFn T j) x = x
    · have g := gun_ge hT hA hj (x := x) ⟨hx, c.1, c.2⟩
      rw [zif_t c, zif_t c]
      unfold zyg
      rw [h _ g.1 g.2]
    · rw [zif_f c, zif_f c])
  unfold zyR zCgr
  rw [e]
def zyE (f : Nat → Nat) (lo hi : Int) (P : Nat → Prop) : Prop := (∀ i j : Nat, lo ≤ i → i < j → (j : Int) < hi → f i < f j) ∧ ∀ x, (∃ i : Nat, lo ≤ i ∧ (i : Int) < hi ∧ f i = x) ↔ P x
section ZEN
variable {f g : Nat → Nat} {lo hi : Int} {P P' : Nat → Prop}
theorem zyE_c (h : zyE f lo hi P) (e : ∀ i : Nat, lo ≤ i → (i : Int) < hi → g i = f i) : zyE g lo hi P := by
  refine ⟨fun i j h1 h2 h3 => ?_, fun x => ?_⟩
  · rw [e i h1 (by omega), e j (by omega) h3]
    exact h.1 i j h1 h2 h3
  · rw [← h.2 x]
    constructor
    · rintro ⟨i, h1, h2, h3⟩
      exact ⟨i, h1, h2, (e i h1 h2).symm.trans h3⟩
    · rintro ⟨i, h1, h2, h3⟩
      exact ⟨i, h1, h2, (e i h1 h2).trans h3⟩
theorem zyE_p (h : zyE f lo hi P) (e : ∀ x, P x ↔ P' x) : zyE f lo hi P' := ⟨h.1, fun x => (h.2 x).trans (e x)⟩
theorem zyE_0 (hP : ∀ x, ¬ P x) : zyE f lo lo P := ⟨fun i j h1 h2 h3 => absurd h3 (by omega), fun x => ⟨fun ⟨i, h1, h2, _⟩ => absurd h2 (by omega), fun h => absurd h (hP x)⟩⟩
theorem zyE_a (h : zyE f lo hi P) (hlo : lo ≤ hi) (h0 : 0 ≤ hi) (e : ∀ i : Nat, lo ≤ i → (i : Int) < hi → g i = f i) (hv : ∀ x, P x → x < g hi.toNat) : zyE g lo (hi + 1) (fun x => P x ∨ x = g hi.toNat) := by
  have hg := zyE_c h e
  refine ⟨fun i j h1 h2 h3 => ?_, fun x => ?_⟩
  · by_cases c : (j : Int) = hi
    · rw [show j = hi.toNat by omega]
      exact hv _ ((hg.2 _).mp ⟨i, h1, by omega, rfl⟩)
    · exact hg.1 i j h1 h2 (by omega)
  · constructor
    · rintro ⟨i, h1, h2, h3⟩
      by_cases c : (i : Int) = hi
      · refine Or.inr ?_
        rw [← h3, show i = hi.toNat by omega]
      · exact Or.inl ((hg.2 x).mp ⟨i, h1, by omega, h3⟩)
    · rintro (q | q)
      · obtain ⟨i, h1, h2, h3⟩ := (hg.2 x).mpr q
        exact ⟨i, h1, by omega, h3⟩
      · exact ⟨hi.toNat, by omega, by omega, q.symm⟩
end ZEN
theorem zor_pl {y d : Nat} (h : y < 2 ^ d) : y ||| 2 ^ d = y + 2 ^ d := by
  have e := Nat.two_pow_add_eq_or_of_lt h 1
  rw [Nat.mul_one] at e
  rw [Nat.or_comm, ← e, Nat.add_comm]
def zuw (M : zMem) : Nat → Nat := fun i => (ze M 110 i).toNat
def zyL (T : zGT) (d : Nat) : Nat → Prop := fun x => x < 2 ^ d ∧ ∀ i, (gF T).length - d ≤ i → i < (gF T).length → zyR T i x
def zyO (T : zGT) (M : zMem) (d : Nat) (um : Int) : Prop := zyE (zuw M) 0 um (zyL T d)
def zyA (T : zGT) (M : zMem) (d : Nat) (um en k : Int) : Prop := zyE (zuw M) 0 um (zyL T d) ∧ zyE (zuw M) um en (fun x => ∃ i : Nat, (i : Int) < k ∧ x = zuw M i ||| 2 ^ d ∧ zyR T ((gF T).length - 1 - d) x)
def zyG (T : zGT) (g : Nat → Nat) (d : Nat) (um en : Int) : Prop := zyE g 0 um (zyL T d) ∧ zyE g um en (fun x => ∃ i : Nat, (i : Int) < um ∧ x = g i ||| 2 ^ d ∧ zyR T ((gF T).length - 1 - d) x)
def zyB (T : zGT) (g : Nat → Nat) (M : zMem) (d : Nat) (kp k : Int) : Prop := (∀ i : Nat, k ≤ i → zuw M i = g i) ∧ zyE (zuw M) 0 kp (fun x => ∃ i : Nat, (i : Int) < k ∧ g i = x ∧ zyR T ((gF T).length - 1 - d) x)
def zyD (T : zGT) (g : Nat → Nat) (M : zMem) (d : Nat) (um kp k : Int) : Prop := (∀ i : Nat, k ≤ i → zuw M i = g i) ∧ zyE (zuw M) 0 kp (fun x => (∃ i : Nat, (i : Int) < um ∧ g i = x ∧ zyR T ((gF T).length - 1 - d) x) ∨ ∃ i : Nat, um ≤ i ∧ (i : Int) < k ∧ g i = x)
section ZYO
variable {T : zGT} {M N : zMem} {d : Nat} {um en kp k v : Int} {g : Nat → Nat}
theorem zuw_s {q : Int} (h : N = zsI M 110 q.toNat (Int32.ofInt v)) (hv : zn32 v) : zuw N q.toNat = v.toNat ∧ ∀ i : Nat, (i : Int) ≠ q → 0 ≤ q → zuw N i = zuw M i := by
  unfold zuw
  exact ⟨by rw [zs_get h hv], fun i hi h0 => by rw [zs_oth h (j := i) (by omega)]⟩
theorem zyO_0 (h : ze M 110 0 = 0) : zyO T M 0 1 := by
  refine ⟨fun i j h1 h2 h3 => absurd h3 (by omega), fun x => ?_⟩
  constructor
  · rintro ⟨i, h1, h2, h3⟩
    have e : zuw M i = 0 := by
      unfold zuw
      rw [show i = 0 by omega, h]
      rfl
    rw [← h3, e]
    exact ⟨by decide, fun i h4 h5 => absurd h5 (by omega)⟩
  · rintro ⟨h1, -⟩
    refine ⟨0, by omega, by omega, ?_⟩
    unfold zuw
    rw [h]
    have : (2 : Nat) ^ 0 = 1 := rfl
    show 0 = x
    omega
theorem zyO_c (h : zyO T M d um) (e : ∀ i : Nat, ze N 110 i = ze M 110 i) : zyO T N d um := zyE_c h (fun i _ _ => by unfold zuw; rw [e i])
theorem zyA_0 (h : zyO T M d um) : zyA T M d um um 0 := ⟨h, zyE_0 (fun x ⟨i, hi, _⟩ => absurd hi (by omega))⟩
theorem zyA_n (h : zyA T M d um en k) (k0 : 0 ≤ k) (hn : ¬ zyR T ((gF T).length - 1 - d) (zuw M k.toNat ||| 2 ^ d)) : zyA T M d um en (k + 1) := by
  refine ⟨h.1, zyE_p h.2 (fun x => ?_)⟩
  constructor
  · rintro ⟨i, h1, h2⟩
    exact ⟨i, by omega, h2⟩
  · rintro ⟨i, h1, h2, h3⟩
    by_cases c : (i : Int) = k
    · rw [show i = k.toNat by omega] at h2
      rw [h2] at h3
      exact absurd h3 hn
    · exact ⟨i, by omega, h2, h3⟩
theorem zyA_s (h : zyA T M d um en k) (k0 : 0 ≤ k) (k1 : k < um) (hu : um ≤ en) (hy : zyR T ((gF T).length - 1 - d) (zuw M k.toNat ||| 2 ^ d)) (hN : N = zsI M 110 en.toNat (Int32.ofInt v)) (hv : zn32 v) (e : v.toNat = zuw M k.toNat ||| 2 ^ d) : zyA T N d um (en + 1) (k + 1) := by
  obtain ⟨w1, w2⟩ := zuw_s hN hv
  have hi : ∀ i : Nat, (i : Int) < um → zuw M i < 2 ^ d := fun i hi => ((h.1.2 _).mp ⟨i, by omega, hi, rfl⟩).1
  have ho : ∀ i : Nat, (i : Int) < en → zuw N i = zuw M i := fun i hi => w2 i (by omega) (by omega)
  refine ⟨zyE_c h.1 (fun i _ h2 => ho i (by omega)), zyE_p (zyE_a h.2 hu (by omega) (fun i _ h2 => ho i h2) (fun x hx => ?_)) (fun x => ?_)⟩
  · obtain ⟨i, h1, h2, -⟩ := hx
    have h3 := h.1.1 i k.toNat (by omega) (by omega) (by omega)
    rw [w1, e, h2, zor_pl (hi i (by omega)), zor_pl (hi k.toNat (by omega))]
    omega
  · constructor
    · rintro (⟨i, h1, h2, h3⟩ | q)
      · exact ⟨i, by omega, by rw [ho i (by omega)]; exact h2, h3⟩
      · refine ⟨k.toNat, by omega, ?_, ?_⟩
        · rw [q, w1, e, ho k.toNat (by omega)]
        · rw [q, w1, e]
          exact hy
    · rintro ⟨i, h1, h2, h3⟩
      rw [ho i (by omega)] at h2
      by_cases c : (i : Int) = k
      · refine Or.inr ?_
        rw [h2, show i = k.toNat by omega, w1, e]
      · exact Or.inl ⟨i, by omega, h2, h3⟩
theorem zyG_0 (h : zyA T M d um en um) (hg : ∀ i, zuw M i = g i) : zyG T g d um en := by
  have e : zuw M = g := funext hg
  unfold zyA at h
  rw [e] at h
  exact h
theorem zyB_0 (hg : ∀ i, zuw M i = g i) : zyB T g M d 0 0 := ⟨fun i _ => hg i, zyE_0 (fun x ⟨i, hi, _⟩ => absurd hi (by omega))⟩
theorem zyB_n (h : zyB T g M d kp k) (k0 : 0 ≤ k) (hn : ¬ zyR T ((gF T).length - 1 - d) (zuw M k.toNat)) : zyB T g M d kp (k + 1) := by
  refine ⟨fun i hi => h.1 i (by omega), zyE_p h.2 (fun x => ?_)⟩
  constructor
  · rintro ⟨i, h1, h2⟩
    exact ⟨i, by omega, h2⟩
  · rintro ⟨i, h1, h2, h3⟩
    by_cases c : (i : Int) = k
    · rw [show i = k.toNat by omega, ← h.1 k.toNat (by omega)] at h2
      rw [← h2] at h3
      exact absurd h3 hn
    · exact ⟨i, by omega, h2, h3⟩
theorem zyB_s (hG : zyG T g d um en) (h : zyB T g M d kp k) (k0 : 0 ≤ k) (k1 : k < um) (hk : 0 ≤ kp ∧ kp ≤ k) (hy : zyR T ((gF T).length - 1 - d) (zuw M k.toNat)) (hN : N = zsI M 110 kp.toNat (Int32.ofInt v)) (hv : zn32 v) (e : v.toNat = zuw M k.toNat) : zyB T g N d (kp + 1) (k + 1) := by
  obtain ⟨w1, w2⟩ := zuw_s hN hv
  have eg := h.1 k.toNat (by omega)
  refine ⟨fun i hi => by rw [w2 i (by omega) hk.1]; exact h.1 i (by omega), zyE_p (zyE_a h.2 hk.1 hk.1 (fun i _ h2 => w2 i (by omega) hk.1) (fun x hx => ?_)) (fun x => ?_)⟩
  · obtain ⟨i, h1, h2, -⟩ := hx
    rw [w1, e, eg, ← h2]
    exact hG.1.1 i k.toNat (by omega) (by omega) (by omega)
  · constructor
    · rintro (⟨i, h1, h2⟩ | q)
      · exact ⟨i, by omega, h2⟩
      · refine ⟨k.toNat, by omega, ?_, ?_⟩
        · rw [q, w1, e, eg]
        · rw [q, w1, e]
          exact hy
    · rintro ⟨i, h1, h2, h3⟩
      by_cases c : (i : Int) = k
      · refine Or.inr ?_
        rw [← h2, show i = k.toNat by omega, w1, e, eg]
      · exact Or.inl ⟨i, by omega, h2, h3⟩
theorem zyD_0 (h : zyB T g M d kp um) : zyD T g M d um kp um := ⟨h.1, zyE_p h.2 (fun x => ⟨Or.inl, fun q => by
  rcases q with q | ⟨i, h1, h2, _⟩
  · exact q
  · exact absurd h2 (by omega)⟩)⟩
theorem zyD_s (hG : zyG T g d um en) (h : zyD T g M d um kp k) (k0 : 0 ≤ um ∧ um ≤ k) (k1 : k < en) (hk : 0 ≤ kp ∧ kp ≤ k) (hN : N = zsI M 110 kp.toNat (Int32.ofInt v)) (hv : zn32 v) (e : v.toNat = zuw M k.toNat) : zyD T g N d um (kp + 1) (k + 1) := by
  obtain ⟨w1, w2⟩ := zuw_s hN hv
  have eg := h.1 k.toNat (by omega)
  have hi : ∀ i : Nat, (i : Int) < um → g i < 2 ^ d := fun i hi => ((hG.1.2 _).mp ⟨i, by omega, hi, rfl⟩).1
  refine ⟨fun i hi => by rw [w2 i (by omega) hk.1]; exact h.1 i (by omega), zyE_p (zyE_a h.2 hk.1 hk.1 (fun i _ h2 => w2 i (by omega) hk.1) (fun x hx => ?_)) (fun x => ?_)⟩
  · rw [w1, e, eg]
    rcases hx with ⟨i, h1, h2, -⟩ | ⟨i, h1, h2, h3⟩
    · obtain ⟨i', q1, q2, -⟩ := (hG.2.2 (g k.toNat)).mp ⟨k.toNat, by omega, by omega, rfl⟩
      have h4 := hi i h1
      rw [q2, zor_pl (hi i' q1), ← h2]
      omega
    · rw [← h3]
      exact hG.2.1 i k.toNat (by omega) (by omega) (by omega)
  · constructor
    · rintro ((q | ⟨i, h1, h2, h3⟩) | q)
      · exact Or.inl q
      · exact Or.inr ⟨i, h1, by omega, h3⟩
      · exact Or.inr ⟨k.toNat, by omega, by omega, by rw [q, w1, e, eg]⟩
    · rintro (q | ⟨i, h1, h2, h3⟩)
      · exact Or.inl (Or.inl q)
      · by_cases c : (i : Int) = k
        · refine Or.inr ?_
          rw [← h3, show i = k.toNat by omega, w1, e, eg]
        · exact Or.inl (Or.inr ⟨i, h1, by omega, h3⟩)
theorem zyO_s (hT : T ∈ gTabs) (hA : gGr T) (hd : d < (gF T).length) (hG : zyG T g d um en) (hu : 0 ≤ um ∧ um ≤ en) (h : zyD T g M d um kp en) : zyO T M (d + 1) kp := by
  have hj : (gF T).length - 1 - d < (gF T).length := by omega
  have hi : ∀ i : Nat, (i : Int) < um → zyL T d (g i) := fun i hi => (hG.1.2 _).mp ⟨i, by omega, hi, rfl⟩
  have hp : (2 : Nat) ^ (d + 1) = 2 ^ d + 2 ^ d := by rw [Nat.pow_succ]; omega
  have hup : ∀ (y i : Nat), y < 2 ^ d → (gF T).length - d ≤ i → i < (gF T).length → (zyR T i (y ||| 2 ^ d) ↔ zyR T i y) := fun y i _ h1 h2 => zyR_c hT hA h2 (fun s h3 h4 => by
    rw [Nat.testBit_or, Nat.testBit_two_pow, decide_eq_false (show ¬ d = (gF T).length - 1 - s by omega), Bool.or_false])
  refine zyE_p h.2 (fun x => ?_)
  constructor
  · rintro (⟨i, h1, h2, h3⟩ | ⟨i, h1, h2, h3⟩)
    · obtain ⟨h4, h5⟩ := hi i h1
      rw [h2] at h4 h5
      refine ⟨by omega, fun i' h6 h7 => ?_⟩
      by_cases c : i' = (gF T).length - 1 - d
      · rw [c]
        exact h3
      · exact h5 i' (by omega) h7
    · obtain ⟨i', q1, q2, q3⟩ := (hG.2.2 x).mp ⟨i, h1, h2, h3⟩
      obtain ⟨h4, h5⟩ := hi i' q1
      refine ⟨by rw [q2, zor_pl h4]; omega, fun t h6 h7 => ?_⟩
      by_cases c : t = (gF T).length - 1 - d
      · rw [c]
        exact q3
      · rw [q2, hup _ t h4 (by omega) h7]
        exact h5 t (by omega) h7
  · rintro ⟨h1, h2⟩
    by_cases c : x < 2 ^ d
    · obtain ⟨i, q1, q2, q3⟩ := (hG.1.2 x).mpr ⟨c, fun i h3 h4 => h2 i (by omega) h4⟩
      exact Or.inl ⟨i, q2, q3, h2 _ (by omega) hj⟩
    · have e : x = (x - 2 ^ d) ||| 2 ^ d := by rw [zor_pl (by omega)]; omega
      obtain ⟨i, q1, q2, q3⟩ := (hG.1.2 (x - 2 ^ d)).mpr ⟨by omega, fun i h3 h4 => by
        rw [← hup (x - 2 ^ d) i (by omega) h3 h4, ← e]
        exact h2 i (by omega) h4⟩
      obtain ⟨i', p1, p2, p3⟩ := (hG.2.2 x).mpr ⟨i, q2, by rw [q3]; exact e, h2 _ (by omega) hj⟩
      exact Or.inr ⟨i', p1, p2, p3⟩
end ZYO
def zyW (T : zGT) (M : zMem) : Prop := ze M 81 58 = 0 ∨ (ze M 81 58 = 1 ∧ (0 ≤ ze M 81 57 ∧ ze M 81 57 ≤ 65536) ∧ zyO T M (gF T).length (ze M 81 57))
theorem zyW.fr {T : zGT} {S C : List Nat} {M N : zMem} (hf : zFr S C M N) (h : zyW T M) (hs : 57 ∉ S ∧ 58 ∉ S) (hc : 110 ∉ C) : zyW T N := by
  unfold zyW
  rw [hf.e hs.1, hf.e hs.2]
  rcases h with h | ⟨h1, h2, h3⟩
  · exact Or.inl h
  · exact Or.inr ⟨h1, h2, zyO_c h3 (fun i => hf.ie (by decide) hc i)⟩
def zMsN (T : zGT) (j : Nat) (M : zMem) : Prop := zMss T (gFn T j) M (gN T : Int)
theorem zMsN.fr {T : zGT} {j : Nat} {S C : List Nat} {M N : zMem} (hf : zFr S C M N) (h : zMsN T j M) (hs : 55 ∉ S) (hc : 109 ∉ C) : zMsN T j N := zMss.fr hf h hs hc
