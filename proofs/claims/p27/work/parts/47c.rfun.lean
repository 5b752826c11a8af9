def zRmk (F : Nat) (K : Nat → Nat → Int) (M : zMem) : Prop := ze M 81 26 = F ∧ ∀ i j, i < F → j < F → ze M 93 (64 * i + j) = K i j
def zrw (F : Nat) (M : zMem) (q : Nat) (e : Int) : Nat → Int := fun k => if k < F then zg M q (e.toNat + k) else 0
section ZRM
variable {F : Nat} {K : Nat → Nat → Int} {S C : List Nat} {M N P : zMem}
theorem zRmk.fr (hf : zFr S C M N) (h : zRmk F K M) (hs : 26 ∉ S) (hc : 93 ∉ C) : zRmk F K N :=
  ⟨(hf.e hs).trans h.1, fun i j hi hj => (hf.ie (by decide) hc _).trans (h.2 i j hi hj)⟩
theorem zRmk.k (h : zRmk F K M) {i j v : Int} (i0 : 0 ≤ i) (i1 : i < F) (j0 : 0 ≤ j) (j1 : j < F) (hv : v = ze M 93 (64 * i + j).toNat) : v = K i.toNat j.toNat := by
  rw [hv, show (64 * i + j).toNat = 64 * i.toNat + j.toNat by omega]
  exact h.2 _ _ (by omega) (by omega)
theorem zrw_at {q : Nat} {e : Int} {k : Nat} (hk : k < F) (e0 : 0 ≤ e) {v : Int} {x : Nat} (hv : v = zg M q x) (hx : (x : Int) = e + k) : v = zrw F M q e k := by
  unfold zrw
  rw [if_pos hk, hv, show x = e.toNat + k by omega]
theorem zrw_n {q : Nat} {e : Int} {k : Nat} (hk : F ≤ k) : zrw F M q e k = 0 := if_neg (by omega)
theorem zrw_c {q r : Nat} {e e' : Int} (h : ∀ k : Nat, k < F → zg N r (e'.toNat + k) = zg M q (e.toNat + k)) : zrw F N r e' = zrw F M q e := funext fun k => by
  unfold zrw
  by_cases g : k < F
  · rw [if_pos g, if_pos g, h k g]
  · rw [if_neg g, if_neg g]
theorem zrw_v {q : Nat} {e : Int} {u : Nat → Int} (h : ∀ k : Nat, k < F → zg N q (e.toNat + k) = u k) (hu : ∀ k, F ≤ k → u k = 0) : zrw F N q e = u := funext fun k => by
  unfold zrw
  by_cases g : k < F
  · rw [if_pos g, h k g]
  · rw [if_neg g, hu k (by omega)]
def zIn (x : Int) : Prop := -zLim ≤ x ∧ x ≤ zLim
def zIsA (F : Nat) (v : Nat → Int) (s i : Int) : Prop := (s = 0 ∨ s = 1) ∧ (s = 1 ↔ ∀ k : Nat, k < F → (k : Int) < i → zIn (v k))
def zIsB (F : Nat) (K : Nat → Nat → Int) (v : Nat → Int) (s i : Int) : Prop := (s = 0 ∨ s = 1) ∧ (zbd F K v → (s = 1 ↔ (∀ k : Nat, k < F → zIn (v k)) ∧ ∀ k : Nat, k < F → (k : Int) < i → zIn (zmq F K v k)))
def zIsF (F : Nat) (K : Nat → Nat → Int) (v : Nat → Int) (s : Int) : Prop := zbd F K v → (s = 1 ↔ zfit F K v)
theorem zIsA_0 {v : Nat → Int} : zIsA F v 1 0 := ⟨Or.inr rfl, fun _ k _ h => absurd h (by omega), fun _ => rfl⟩
theorem zIsA_t {v : Nat → Int} {s i x : Int} (h : zIsA F v s i) (hs : s ≠ 0) (i0 : 0 ≤ i) (hx : x = v i.toNat) (hb : zIn x) : zIsA F v 1 (i + 1) := by
  refine ⟨Or.inr rfl, fun _ k hk hki => ?_, fun _ => rfl⟩
  have h1 : s = 1 := h.1.resolve_left hs
  by_cases g : (k : Int) = i
  · rw [show k = i.toNat by omega, ← hx]
    exact hb
  · exact h.2.mp h1 k hk (by omega)
theorem zIsA_f {v : Nat → Int} {s i : Int} (h : zIsA F v s i) (hi : i < F) (i0 : 0 ≤ i) (hb : s = 0 ∨ ¬ zIn (v i.toNat)) : zIsA F v 0 (i + 1) := by
  refine ⟨Or.inl rfl, fun z => absurd z (by decide), fun z => ?_⟩
  rcases hb with hb | hb
  · have := h.2.mpr (fun k hk hki => z k hk (by omega))
    omega
  · exact absurd (z i.toNat (by omega) (by omega)) hb
theorem zIsB_0 {v : Nat → Int} {s i : Int} (h : zIsA F v s i) (hi : (F : Int) ≤ i) : zIsB F K v s 0 :=
  ⟨h.1, fun _ => h.2.trans ⟨fun z => ⟨fun k hk => z k hk (by omega), fun k _ hk => absurd hk (by omega)⟩, fun z k hk _ => z.1 k hk⟩⟩
theorem zIsB_t {v : Nat → Int} {s i x : Int} (h : zIsB F K v s i) (hs : s ≠ 0) (i0 : 0 ≤ i) (hi : i < F) (hx : Int64.ofInt x = Int64.ofInt (zmq F K v i.toNat)) (hx2 : zn64 x) {r : Int} (hr : (r = 1 ∧ -1000000000000 ≤ x ∧ x ≤ 1000000000000) ∨ (r = 0 ∧ (x < -1000000000000 ∨ 1000000000000 < x))) : zIsB F K v r (i + 1) := by
  have h1 : s = 1 := h.1.resolve_left hs
  refine ⟨by omega, fun hb => ?_⟩
  have hbi := hb i.toNat (by omega)
  have e : x = zmq F K v i.toNat := z64q hx2 ⟨by omega, by omega⟩ hx
  have h2 := (h.2 hb).mp h1
  constructor
  · intro hr1
    refine ⟨h2.1, fun k hk hki => ?_⟩
    by_cases g : (k : Int) = i
    · rw [show k = i.toNat by omega, ← e]
      unfold zIn zLim
      omega
    · exact h2.2 k hk (by omega)
  · intro z
    have := z.2 i.toNat (by omega) (by omega)
    rw [← e] at this
    unfold zIn zLim at this
    omega
theorem zIsF_e {v : Nat → Int} {s i : Int} (h : zIsB F K v s i) (hi : (F : Int) ≤ i ∨ s = 0) : zIsF F K v s := fun hb => by
  have h2 := h.2 hb
  constructor
  · intro h1
    have h3 := h2.mp h1
    exact fun k hk => ⟨h3.1 k hk, h3.2 k hk (by omega)⟩
  · intro hf
    exact h2.mpr ⟨fun k hk => (hf k hk).1, fun k hk _ => (hf k hk).2⟩
def zLkd (F : Nat) (K : Nat → Nat → Int) (e : Int) (M N : zMem) : Prop := ((∀ x : Nat, zg N 95 x = zg M 95 x) ∧ ze N 81 39 = ze M 81 39 ∧ (zbd F K (zrw F M 95 e) → zfit F K (zrw F M 95 e))) ∨ ((∀ x : Nat, ¬ (e ≤ x ∧ (x : Int) < e + F) → zg N 95 x = zg M 95 x) ∧ ze N 81 39 = 1 ∧ (zbd F K (zrw F M 95 e) → ¬ zfit F K (zrw F M 95 e)))
def zOutR (F : Nat) (e : Int) (M N : zMem) : Prop := ∀ x : Nat, ¬ (e ≤ x ∧ (x : Int) < e + F) → zg N 95 x = zg M 95 x
theorem zOutR_s {e x : Int} {v : Int} (h : zOutR F e M N) (hP : P = zsJ N 95 x.toNat (Int64.ofInt v)) (hx : e ≤ x ∧ x < e + F) (e0 : 0 ≤ e) : zOutR F e M P := fun y hy => by
  rw [zs_othJ hP (by omega)]
  exact h y hy
theorem zOutR.tr {e : Int} (h : zOutR F e M N) (h2 : zOutR F e N P) : zOutR F e M P := fun x hx => (h2 x hx).trans (h x hx)
def zAcc (F : Nat) (lo : Int) (v : Nat → Int) (ok : Prop) (M N : zMem) : Prop := (ze N 81 39 = ze M 81 39 ∨ ze N 81 39 = 1) ∧ (∀ x : Nat, (x : Int) < lo → zg N 95 x = zg M 95 x) ∧ (ze M 81 39 = 0 → (ok ∧ ze N 81 39 = 0 ∧ zrw F N 95 lo = v) ∨ (¬ ok ∧ ze N 81 39 = 1))
theorem zAcc_l {lo : Int} {v : Nat → Int} {N' : zMem} (lo0 : 0 ≤ lo) (h39 : ze N 81 39 = ze M 81 39) (ho : ∀ x : Nat, (x : Int) < lo → zg N 95 x = zg M 95 x) (hv : ze M 81 39 = 0 → zrw F N 95 lo = v ∧ zbd F K v) (hk : zLkd F K lo N N') : zAcc F lo v (zfit F K v) M N' := by
  rcases hk with ⟨k1, k2, k3⟩ | ⟨k1, k2, k3⟩
  · refine ⟨Or.inl (k2.trans h39), fun x hx => (k1 x).trans (ho x hx), fun hM => ?_⟩
    obtain ⟨a, b⟩ := hv hM
    rw [a] at k3
    refine Or.inl ⟨k3 b, by omega, ?_⟩
    rw [← a]
    exact zrw_c (fun k _ => k1 _)
  · refine ⟨Or.inr k2, fun x hx => (k1 x (by omega)).trans (ho x hx), fun hM => ?_⟩
    obtain ⟨a, b⟩ := hv hM
    rw [a] at k3
    exact Or.inr ⟨k3 b, k2⟩
def zsvR (F : Nat) (K : Nat → Nat → Int) (M : zMem) (u : Nat → Int) : Prop := (∀ j, j < F → zg M 96 j = zmq F K u j) ∧ ∀ i, i < F → -100000000000000000 ≤ u i * K i i ∧ u i * K i i ≤ 100000000000000000
def zUpR (F : Nat) (M N : zMem) (e : Int) (u : Nat → Int) (j : Int) : Prop := ∀ x : Nat, e + j < x → (x : Int) < e + F → zg N 95 x = u ((x : Int) - e).toNat
def zXin (F : Nat) (K : Nat → Nat → Int) (u : Nat → Int) (r j i : Int) : Prop := Int64.ofInt r = Int64.ofInt (zmq F K u j.toNat - zsm (fun t => u (j.toNat + 1 + t) * K (j.toNat + 1 + t) j.toNat) (i - j - 1).toNat)
theorem zXin_0 {u : Nat → Int} {r j : Int} (j0 : 0 ≤ j) (h : zsvR F K M u) (jF : j < F) (hr : r = zg M 96 j.toNat) : zXin F K u r j (j + 1) := by
  unfold zXin
  rw [show (j + 1 - j - 1).toNat = 0 by omega, hr, h.1 _ (by omega)]
  show _ = Int64.ofInt (_ - 0)
  rw [Int.sub_zero]
theorem zXin_s {u : Nat → Int} {r v x y i j e : Int} (h : zXin F K u r j i) (hv : Int64.ofInt v = Int64.ofInt (r - x * y)) (j0 : 0 ≤ j) (ji : j < i) (iF : i < F) (e0 : 0 ≤ e) (hU : zUpR F M P e u j) (hx : x = zg P 95 (e + i).toNat) (hy : y = K i.toNat j.toNat) : zXin F K u v j (i + 1) := by
  have ex : x = u i.toNat := by
    rw [hx, hU _ (by omega) (by omega)]
    congr 1
    omega
  have ei : j.toNat + 1 + (i - j - 1).toNat = i.toNat := by omega
  unfold zXin at h ⊢
  rw [show (i + 1 - j - 1).toNat = (i - j - 1).toNat + 1 by omega]
  show _ = Int64.ofInt (_ - (zsm _ (i - j - 1).toNat + u (j.toNat + 1 + (i - j - 1).toNat) * K (j.toNat + 1 + (i - j - 1).toNat) j.toNat))
  rw [ei, hv, Int64.ofInt_sub, h, ← Int64.ofInt_sub, ex, hy]
  congr 1
  omega
theorem zXin_e (hA : zTA F K) {u : Nat → Int} {r j i q m : Int} (h : zXin F K u r j i) (hi : i = (F : Int)) (hs : zsvR F K M u) (hr : zn64 r) (j0 : 0 ≤ j) (jF : j < F) (hm : m = K j.toNat j.toNat) (hq : q = zlquo r m) : q = u j.toNat := by
  unfold zXin at h
  have h1 := zmq_tail hA (u := u) (j := j.toNat) (by omega)
  rw [hi, show ((F : Int) - j - 1).toNat = F - 1 - j.toNat by omega, h1, Int.add_sub_cancel] at h
  have h2 := hs.2 j.toNat (by omega)
  have h3 := hA.2.1 j.toNat j.toNat (by omega) (by omega)
  have h4 := hA.2.2.2.1 j.toNat (by omega)
  rw [hq, hm, z64q hr ⟨by omega, by omega⟩ h]
  exact zq_x (by omega) (by omega) (by omega) (by omega)
theorem zUpR_0 {e j : Int} {u : Nat → Int} (hj : (F : Int) - 1 ≤ j) : zUpR F M N e u j := fun x h1 h2 => absurd h2 (by omega)
theorem zUpR_s {e j v : Int} {u : Nat → Int} (h : zUpR F M N e u j) (hP : P = zsJ N 95 (e + j).toNat (Int64.ofInt v)) (hv2 : zn64 v) (e0 : 0 ≤ e) (j0 : 0 ≤ j) (jF : j < F) (hv : v = u j.toNat) : zUpR F M P e u (j - 1) := fun x g1 g2 => by
  by_cases g : (x : Int) = e + j
  · rw [show x = (e + j).toNat by omega, zs_getJ hP hv2, hv, show (((e + j).toNat : Int) - e).toNat = j.toNat by omega]
  · rw [zs_othJ hP (by omega)]
    exact h x (by omega) g2
def zNumR (F : Nat) (K : Nat → Nat → Int) (M N : zMem) (e : Int) : Prop := zOutR F e M N ∧ ∀ u, zsvR F K M u → ∀ k : Nat, k < F → zg N 95 (e.toNat + k) = u k
theorem zNumR_e {e j : Int} (e0 : 0 ≤ e) (ho : zOutR F e M N) (h : ∀ u, zsvR F K M u → zUpR F M N e u j) (hj : j < 0) : zNumR F K M N e := ⟨ho, fun u hu k hk => by
  have := h u hu (e.toNat + k) (by omega) (by omega)
  rwa [show (((e.toNat + k : Nat) : Int) - e).toNat = k by omega] at this⟩
def zMuI (F : Nat) (M N : zMem) (i : Int) : Prop := (ze N 81 39 = ze M 81 39 ∨ ze N 81 39 = 1) ∧ (∀ k : Nat, i ≤ k → zg N 96 k = zg M 96 k) ∧ (ze M 81 39 = 0 → ((∀ k : Nat, (k : Int) < i → zIn (zg M 96 k * zg M 97 k)) ∧ ze N 81 39 = 0 ∧ ∀ k : Nat, (k : Int) < i → zg N 96 k = zg M 96 k * zg M 97 k) ∨ ((∃ k : Nat, (k : Int) < i ∧ ¬ zIn (zg M 96 k * zg M 97 k)) ∧ ze N 81 39 = 1))
theorem zMuI_0 : zMuI F M M 0 := ⟨Or.inl rfl, fun _ _ => rfl, fun h => Or.inl ⟨fun k hk => absurd hk (by omega), h, fun k hk => absurd hk (by omega)⟩⟩
theorem zMuI_s {Q : zMem} {i a b x y w : Int} (h : zMuI F M N i) (i0 : 0 ≤ i) (ha : a = zg M 96 i.toNat) (hb : b = zg M 97 i.toNat) (hx : ze M 81 39 = 0 → (0 < a ∧ x = a) ∨ (a ≤ 0 ∧ x = -a)) (hy : ze M 81 39 = 0 → (0 < b ∧ y = b) ∨ (b ≤ 0 ∧ y = -b)) (hg : (ze P 81 39 = 1 ∧ 1 ≤ x ∧ zlquo 1000000000000 x < y) ∨ (ze P 81 39 = ze N 81 39 ∧ (x ≤ 0 ∨ y ≤ zlquo 1000000000000 x))) (hab : ze M 81 39 = 0 → zIn a ∧ zIn b) (hP : ∀ k : Nat, zg P 96 k = zg N 96 k) (hQ : Q = zsJ P 96 i.toNat (Int64.ofInt w)) (h39 : ze Q 81 39 = ze P 81 39) (hw : (ze P 81 39 ≠ 0 ∧ w = 0) ∨ (ze P 81 39 = 0 ∧ w = a * b)) : zMuI F M Q (i + 1) := by
  obtain ⟨h1, h2, h3⟩ := h
  have o : ∀ k : Nat, (k : Int) ≠ i → zg Q 96 k = zg N 96 k := fun k hk => by rw [zs_othJ hQ (by omega), hP]
  refine ⟨by clear h3 hx hy; omega, fun k hk => by clear h3 hx hy; rw [o k (by omega)]; exact h2 k (by omega), fun hM => ?_⟩
  have h3' := h3 hM
  have hx' := hx hM
  have hy' := hy hM
  clear h3 hx hy
  obtain ⟨za, zb⟩ := hab hM
  unfold zIn zLim at za zb
  have hm := zmo hx' hy'
  rcases h3' with ⟨a1, a2, a3⟩ | ⟨a1, a2⟩
  · have g2' : x ≤ 1000000000000 := by omega
    rcases hg with ⟨g1, g2, g3⟩ | ⟨g1, g3⟩
    · refine Or.inr ⟨⟨i.toNat, by omega, fun z => ?_⟩, by omega⟩
      rw [← ha, ← hb] at z
      have h4 := (zq_l (m := x) (o := y) g2 g2').mp g3
      have h5 := hm.mp z
      omega
    · have hin : zIn (a * b) := by
        refine hm.mpr ?_
        by_cases g : x ≤ 0
        · have : x = 0 := by omega
          rw [this, Int.mul_zero]
          omega
        · have h4 := (zq_l (m := x) (o := y) (by omega) (by omega))
          omega
      have hn : zn64 w := by
        have := hin
        unfold zIn zLim at this
        constructor <;> omega
      refine Or.inl ⟨fun k hk => ?_, by omega, fun k hk => ?_⟩
      · by_cases g : (k : Int) = i
        · rw [show k = i.toNat by omega, ← ha, ← hb]
          exact hin
        · exact a1 k (by omega)
      · by_cases g : (k : Int) = i
        · rw [show k = i.toNat by omega, zs_getJ hQ hn, ← ha, ← hb]
          omega
        · rw [o k g]
          exact a3 k (by omega)
  · obtain ⟨k, k1, k2⟩ := a1
    exact Or.inr ⟨⟨k, by omega, k2⟩, by omega⟩
end ZRM
