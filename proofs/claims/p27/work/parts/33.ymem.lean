theorem zrd_lt {M : zMem} {q m : Nat} {P : Int} (h : ∀ p : Nat, (p : Int) < P → ze M q (6 * m + p) < 6) : ∀ p, p < 6 → zrd M q m P p < 8 := by
  intro p hp
  unfold zrd
  split
  · rename_i g
    have := h p g
    omega
  · omega
theorem zrc_m (M : zMem) (q m : Nat) (P : Int) : zrc M q m P = gmkc (zrd M q m P) := rfl
theorem zrc_d {M : zMem} {q m : Nat} {P : Int} (h : ∀ p : Nat, (p : Int) < P → ze M q (6 * m + p) < 6) : ∀ p, p < 6 → gdg (zrc M q m P) p = zrd M q m P p := by
  rw [zrc_m]
  exact gmkc_d (zrd_lt h)
theorem zrc_lt {M : zMem} {q m : Nat} {P : Int} (h : ∀ p : Nat, (p : Int) < P → ze M q (6 * m + p) < 6) : zrc M q m P < 262144 := by
  rw [zrc_m]
  exact gmkc_lt (zrd_lt h)
theorem zrc_c2 {M N : zMem} {q r m n : Nat} {P : Int} (h : ∀ p : Nat, (p : Int) < P → p < 6 → ze N r (6 * n + p) = ze M q (6 * m + p)) : zrc N r n P = zrc M q m P := by
  rw [zrc_m, zrc_m]
  refine gmkc_c (fun p hp => ?_)
  unfold zrd
  split
  · rename_i g
    rw [h p g hp]
  · rfl
theorem zrc_i {M N : zMem} {q r m n : Nat} {P : Int} (hP : P ≤ 6) (h1 : ∀ p : Nat, (p : Int) < P → 0 ≤ ze M q (6 * m + p) ∧ ze M q (6 * m + p) < 6) (h2 : ∀ p : Nat, (p : Int) < P → 0 ≤ ze N r (6 * n + p) ∧ ze N r (6 * n + p) < 6) (e : zrc M q m P = zrc N r n P) : ∀ p : Nat, (p : Int) < P → ze M q (6 * m + p) = ze N r (6 * n + p) := by
  intro p hp
  have d1 := zrc_d (fun p hp => (h1 p hp).2) p (by omega)
  have d2 := zrc_d (fun p hp => (h2 p hp).2) p (by omega)
  rw [e, d2] at d1
  unfold zrd at d1
  rw [if_pos hp, if_pos hp] at d1
  have := h1 p hp
  have := h2 p hp
  omega
theorem zrc_b {M : zMem} {q a b : Nat} {P : Int} {p : Nat} (hP : P ≤ 6) (h1 : ∀ p : Nat, (p : Int) < P → 0 ≤ ze M q (6 * a + p) ∧ ze M q (6 * a + p) < 6) (h2 : ∀ p : Nat, (p : Int) < P → 0 ≤ ze M q (6 * b + p) ∧ ze M q (6 * b + p) < 6) (hp : (p : Int) < P) (he : ∀ r : Nat, r < p → ze M q (6 * a + r) = ze M q (6 * b + r)) (hl : ze M q (6 * b + p) < ze M q (6 * a + p)) : zrc M q b P < zrc M q a P := by
  have l1 := zrd_lt (M := M) (q := q) (m := a) (P := P) (fun p hp => (h1 p hp).2)
  have l2 := zrd_lt (M := M) (q := q) (m := b) (P := P) (fun p hp => (h2 p hp).2)
  have es : ∀ r, r < p → zrd M q a P r = zrd M q b P r := fun r hr => by
    unfold zrd
    rw [he r hr]
  have hlt : zrd M q b P p < zrd M q a P p := by
    unfold zrd
    rw [if_pos hp, if_pos hp]
    have := h1 p hp
    have := h2 p hp
    omega
  rw [zrc_m, zrc_m]
  unfold gmkc
  have a1 := l1 1 (by omega); have a2 := l1 2 (by omega); have a3 := l1 3 (by omega); have a4 := l1 4 (by omega); have a5 := l1 5 (by omega)
  have b1 := l2 1 (by omega); have b2 := l2 2 (by omega); have b3 := l2 3 (by omega); have b4 := l2 4 (by omega); have b5 := l2 5 (by omega)
  have hp6 : p < 6 := by omega
  match p, hp6 with
  | 0, _ => omega
  | 1, _ => have e0 := es 0 (by omega); omega
  | 2, _ => have e0 := es 0 (by omega); have e1 := es 1 (by omega); omega
  | 3, _ => have e0 := es 0 (by omega); have e1 := es 1 (by omega); have e2 := es 2 (by omega); omega
  | 4, _ => have e0 := es 0 (by omega); have e1 := es 1 (by omega); have e2 := es 2 (by omega); have e3 := es 3 (by omega); omega
  | 5, _ => have e0 := es 0 (by omega); have e1 := es 1 (by omega); have e2 := es 2 (by omega); have e3 := es 3 (by omega); have e4 := es 4 (by omega); omega
theorem zB85 {N : zMem} (h : zB 85 144 0 5 N) {i : Nat} (hi : i < 24) {P : Int} (hP : P ≤ 6) : ∀ p : Nat, (p : Int) < P → 0 ≤ ze N 85 (6 * i + p) ∧ ze N 85 (6 * i + p) < 6 := fun p hp => by
  have := h (6 * i + p) (by omega)
  omega
theorem zB83 {N : zMem} (h : zB 83 24 0 5 N) {i : Nat} (hi : i < 4) {P : Int} (hP : P ≤ 6) : ∀ p : Nat, (p : Int) < P → 0 ≤ ze N 83 (6 * i + p) ∧ ze N 83 (6 * i + p) < 6 := fun p hp => by
  have := h (6 * i + p) (by omega)
  omega
theorem zMvs_m {M : zMem} {g : Nat} : g ∈ zMvs M ↔ ∃ k : Nat, (k : Int) < ze M 81 13 ∧ zrc M 83 k (ze M 81 12) = g := by
  unfold zMvs
  rw [List.mem_map]
  constructor
  · rintro ⟨k, hk, e⟩
    rw [List.mem_range] at hk
    exact ⟨k, by omega, e⟩
  · rintro ⟨k, hk, e⟩
    exact ⟨k, by rw [List.mem_range]; omega, e⟩
def zPS (M : zMem) : Prop := (1 ≤ ze M 81 12 ∧ ze M 81 12 ≤ 6) ∧ (0 ≤ ze M 81 13 ∧ ze M 81 13 ≤ 4) ∧ zPm M ∧ zB 83 24 0 5 M
theorem zPS.fix {M : zMem} (h : zPS M) : ∀ g ∈ zMvs M, gfix (ze M 81 12).toNat g := by
  intro g hg p h1 h2
  obtain ⟨k, hk, rfl⟩ := zMvs_m.mp hg
  rw [zrc_d (fun p hp => (zB83 h.2.2.2 (i := k) (by have := h.2.1; omega) h.1.2 p hp).2) p h2]
  unfold zrd
  rw [if_neg (by have := h.1; omega)]
def zBs (M0 N : zMem) : Prop := (1 ≤ ze N 81 20 ∧ ze N 81 20 ≤ 24) ∧ (∀ i : Nat, (i : Int) < ze N 81 20 → gGen (zMvs M0) (zrc N 85 i (ze M0 81 12))) ∧ ∀ i j : Nat, i < j → (j : Int) < ze N 81 20 → zrc N 85 i (ze M0 81 12) ≠ zrc N 85 j (ze M0 81 12)
def zBc (M0 N : zMem) (m k : Int) : Prop := zrc N 85 0 (ze M0 81 12) = gid ∧ ∀ i q : Nat, (i : Int) < ze N 81 20 → (q : Int) < ze M0 81 13 → ((i : Int) < m ∨ ((i : Int) = m ∧ (q : Int) < k)) → ∃ j : Nat, (j : Int) < ze N 81 20 ∧ zrc N 85 j (ze M0 81 12) = gco (zrc N 85 i (ze M0 81 12)) (zrc M0 83 q (ze M0 81 12))
theorem zBs.w {M0 N : zMem} (hp : zPS M0) (hb : zB 85 144 0 5 N) {i : Nat} (hi : i < 24) (h : gGen (zMvs M0) (zrc N 85 i (ze M0 81 12))) : ∀ p : Nat, (p : Int) < ze M0 81 12 → 0 ≤ ze N 85 (6 * i + p) ∧ ze N 85 (6 * i + p) < ze M0 81 12 := by
  intro p hpp
  have h1 := zB85 hb hi hp.1.2
  have h2 := gfix_lt (h.pm hp.2.2.1) (h.fix hp.fix) (p := p) (by omega) (by have := hp.1; omega)
  rw [zrc_d (fun p hp => (h1 p hp).2) p (by have := hp.1; omega)] at h2
  unfold zrd at h2
  rw [if_pos hpp] at h2
  have := h1 p hpp
  omega
theorem zBs.fr {S C : List Nat} {M0 M N : zMem} (hf : zFr S C M N) (h : zBs M0 M) (hs : 20 ∉ S) (hc : 85 ∉ C) : zBs M0 N := by
  unfold zBs
  rw [hf.e hs]
  simp only [zrc_f (fun j => hf.ie (by decide) hc j)]
  exact h
theorem zBc.fr {S C : List Nat} {M0 M N : zMem} {m k : Int} (hf : zFr S C M N) (h : zBc M0 M m k) (hs : 20 ∉ S) (hc : 85 ∉ C) : zBc M0 N m k := by
  unfold zBc
  rw [hf.e hs]
  simp only [zrc_f (fun j => hf.ie (by decide) hc j)]
  exact h
theorem zBs_0 {M0 N : zMem} (h1 : ze N 81 20 = 1) (h : ∀ q : Nat, q < 6 → ze N 85 q = q) : zBs M0 N ∧ zBc M0 N 0 0 := by
  have e : zrc N 85 0 (ze M0 81 12) = gid := by
    rw [zrc_m]
    have : ∀ p, p < 6 → zrd N 85 0 (ze M0 81 12) p = p := fun p hp => by
      unfold zrd
      rw [Nat.mul_zero, Nat.zero_add, h p hp]
      split <;> omega
    rw [gmkc_c this]
    rfl
  refine ⟨⟨by omega, fun i hi => ?_, fun i j h2 h3 => by omega⟩, e, fun i q h2 h3 h4 => by omega⟩
  rw [show i = 0 by omega, e]
  exact gGen.id _
def zCg (M0 N : zMem) (a b c n : Int) : Prop := ∀ q : Nat, (q : Int) < n → (0 ≤ ze N 86 q ∧ ze N 86 q ≤ 5) ∧ ze N 86 q = (if c = 0 then ze M0 83 (6 * b + ze N 85 (6 * a.toNat + q)).toNat else ze N 85 (6 * b + ze N 85 (6 * a.toNat + q)).toNat)
theorem zCg_0 {M0 N : zMem} {a b c : Int} : zCg M0 N a b c 0 := fun q h => absurd h (by omega)
theorem zCg_s {M0 M N : zMem} {a b c n v : Int} (h : zCg M0 M a b c n) (n0 : 0 ≤ n) (hv : 0 ≤ v ∧ v ≤ 5) (e : v = (if c = 0 then ze M0 83 (6 * b + ze M 85 (6 * a + n).toNat).toNat else ze M 85 (6 * b + ze M 85 (6 * a + n).toNat).toNat)) (a0 : 0 ≤ a) (hN : N = zsI M 86 n.toNat (Int32.ofInt v)) : zCg M0 N a b c (n + 1) := by
  have hf : zFr [] [86] M N := by rw [hN]; exact zFr.sA (by decide)
  have h85 : ∀ k, ze N 85 k = ze M 85 k := fun k => hf.ie (by decide) (by decide) k
  intro q hq
  simp only [h85]
  by_cases g : (q : Int) = n
  · have e1 : ze N 86 q = v := by
      rw [show q = n.toNat by omega]
      exact zs_get hN ⟨by omega, by omega⟩
    rw [e1, show 6 * a.toNat + q = (6 * a + n).toNat by omega]
    exact ⟨hv, e⟩
  · rw [zs_oth hN (by omega)]
    exact h q (by omega)
theorem zCg_c {M0 N : zMem} (hp : zPS M0) (hb : zB 85 144 0 5 N) {a b n : Int} (ha : 0 ≤ a ∧ a < 24) (hg : gGen (zMvs M0) (zrc N 85 a.toNat (ze M0 81 12))) (hn : ze M0 81 12 ≤ n) {c : Int} (h : zCg M0 N a b c n) (hbb : (c = 0 ∧ 0 ≤ b ∧ b < ze M0 81 13) ∨ (c = 1 ∧ 0 ≤ b ∧ b < 24)) : zrc N 86 0 (ze M0 81 12) = gco (zrc N 85 a.toNat (ze M0 81 12)) (if c = 0 then zrc M0 83 b.toNat (ze M0 81 12) else zrc N 85 b.toNat (ze M0 81 12)) := by
  have hw := zBs.w hp hb (i := a.toNat) (by omega) hg
  have hP := hp.1
  have k1 : ∀ p : Nat, (p : Int) < ze M0 81 12 → ze N 86 (6 * 0 + p) < 6 := fun p hpp => by
    have := (h p (by omega)).1
    rw [Nat.mul_zero, Nat.zero_add]
    omega
  have k2 := zB85 hb (i := a.toNat) (by omega) hP.2
  refine gext (zrc_lt k1) (gco_lt _ _) (fun p hp6 => ?_)
  rw [zrc_d k1 p hp6, gco_d _ _ p hp6, zrc_d (fun p hp => (k2 p hp).2) p hp6]
  unfold zrd
  by_cases hpp : (p : Int) < ze M0 81 12
  · rw [if_pos hpp, if_pos hpp, Nat.mul_zero, Nat.zero_add, (h p (by omega)).2]
    have hv := hw p hpp
    rcases hbb with ⟨rfl, b0, b1⟩ | ⟨rfl, b0, b1⟩
    · rw [if_pos rfl, if_pos rfl]
      have k3 := zB83 hp.2.2.2 (i := b.toNat) (by have := hp.2.1; omega) hP.2
      rw [zrc_d (fun p hp => (k3 p hp).2) _ (by omega)]
      unfold zrd
      rw [if_pos (by omega)]
      congr 2
      omega
    · rw [if_neg (by decide), if_neg (by decide)]
      have k3 := zB85 hb (i := b.toNat) (by omega) hP.2
      rw [zrc_d (fun p hp => (k3 p hp).2) _ (by omega)]
      unfold zrd
      rw [if_pos (by omega)]
      congr 2
      omega
  · rw [if_neg hpp, if_neg hpp]
    rcases hbb with ⟨rfl, b0, b1⟩ | ⟨rfl, b0, b1⟩
    · rw [if_pos rfl]
      have k3 := zB83 hp.2.2.2 (i := b.toNat) (by have := hp.2.1; omega) hP.2
      rw [zrc_d (fun p hp => (k3 p hp).2) p hp6]
      unfold zrd
      rw [if_neg hpp]
    · rw [if_neg (by decide)]
      have k3 := zB85 hb (i := b.toNat) (by omega) hP.2
      rw [zrc_d (fun p hp => (k3 p hp).2) p hp6]
      unfold zrd
      rw [if_neg hpp]
def zCb (N : zMem) (P : Int) : Prop := ∀ p : Nat, (p : Int) < P → 0 ≤ ze N 86 p ∧ ze N 86 p ≤ 5
theorem zCg_b {M0 N : zMem} {a b c n P : Int} (h : zCg M0 N a b c n) (hn : P ≤ n) : zCb N P := fun p hp => (h p (by omega)).1
theorem zCb.x {N : zMem} {P : Int} (h : zCb N P) : ∀ p : Nat, (p : Int) < P → 0 ≤ ze N 86 (6 * 0 + p) ∧ ze N 86 (6 * 0 + p) < 6 := fun p hp => by
  rw [Nat.mul_zero, Nat.zero_add]
  have := h p hp
  omega
def zix (M : zMem) (m p : Int) (is : Int) : Prop := (is = 1 ∧ ∀ q : Nat, (q : Int) < p → ze M 85 (6 * m.toNat + q) = ze M 86 q) ∨ (is = 0 ∧ ∃ q : Nat, (q : Int) < ze M 81 12 ∧ ze M 85 (6 * m.toNat + q) ≠ ze M 86 q)
theorem zix_0 {M : zMem} {m : Int} : zix M m 0 1 := Or.inl ⟨rfl, fun q h => absurd h (by omega)⟩
theorem zix_s1 {M : zMem} {m p is v w : Int} (h : zix M m p is) (hi : is ≠ 0) (m0 : 0 ≤ m) (p0 : 0 ≤ p) (hv : v = ze M 85 (6 * m + p).toNat) (hw : w = ze M 86 p.toNat) (e : v = w) : zix M m (p + 1) 1 := by
  rcases h with ⟨-, h⟩ | ⟨h, -⟩
  · refine Or.inl ⟨rfl, fun q hq => ?_⟩
    by_cases g : (q : Int) = p
    · rw [show 6 * m.toNat + q = (6 * m + p).toNat by omega, ← hv, show q = p.toNat by omega, ← hw]
      exact e
    · exact h q (by omega)
  · exact absurd h hi
theorem zix_s0 {M : zMem} {m p v w : Int} (m0 : 0 ≤ m) (p0 : 0 ≤ p) (hp : p < ze M 81 12) (hv : v = ze M 85 (6 * m + p).toNat) (hw : w = ze M 86 p.toNat) (e : v ≠ w) : zix M m (p + 1) 0 := by
  refine Or.inr ⟨rfl, p.toNat, by omega, ?_⟩
  rw [show 6 * m.toNat + p.toNat = (6 * m + p).toNat by omega, ← hv, ← hw]
  exact e
theorem zix_k {M : zMem} {m p p' : Int} (h : zix M m p 0) : zix M m p' 0 := by
  rcases h with ⟨h, -⟩ | ⟨-, h⟩
  · exact absurd h (by decide)
  · exact Or.inr ⟨rfl, h⟩
theorem zix_e {M : zMem} (hb : zB 85 144 0 5 M) {m p is : Int} (hP : ze M 81 12 ≤ 6) (hC : zCb M (ze M 81 12)) (m0 : 0 ≤ m) (m1 : m < 24) (h : zix M m p is) (hp : ze M 81 12 ≤ p) : (is = 1 ∧ zrc M 85 m.toNat (ze M 81 12) = zrc M 86 0 (ze M 81 12)) ∨ (is = 0 ∧ zrc M 85 m.toNat (ze M 81 12) ≠ zrc M 86 0 (ze M 81 12)) := by
  rcases h with ⟨h1, h2⟩ | ⟨h1, q, hq, h2⟩
  · refine Or.inl ⟨h1, zrc_c2 (fun p hp _ => ?_)⟩
    rw [Nat.mul_zero, Nat.zero_add]
    exact h2 p (by omega)
  · refine Or.inr ⟨h1, fun e => h2 ?_⟩
    have := zrc_i hP (zB85 hb (i := m.toNat) (by omega) hP) hC.x e q hq
    rwa [Nat.mul_zero, Nat.zero_add] at this
def zNo2 (M : zMem) (P : Int) : Prop := ∀ i : Nat, (i : Int) < ze M 81 20 → zrc M 85 i P ≠ zrc M 86 0 P
def zNf (M0 N : zMem) (m k : Int) : Prop := zBs M0 N ∧ zBc M0 N m k ∧ zCb N (ze M0 81 12) ∧ zNo2 N (ze M0 81 12) ∧ zrc N 86 0 (ze M0 81 12) = gco (zrc N 85 m.toNat (ze M0 81 12)) (zrc M0 83 k.toNat (ze M0 81 12))
def zAp (N : zMem) (o n : Int) : Prop := ∀ q : Nat, (q : Int) < n → ze N 85 (6 * o.toNat + q) = ze N 86 q
theorem zAp_0 {N : zMem} {o : Int} : zAp N o 0 := fun q h => absurd h (by omega)
theorem zAp_s {M0 M N : zMem} {m k n v : Int} (hm : 0 ≤ m ∧ m < ze M 81 20) (h1 : zNf M0 M m k) (h : zAp M (ze M 81 20) n) (n0 : 0 ≤ n) (n6 : n < 6) (hv : v = ze M 86 n.toNat) (hN : N = zsI M 85 (6 * ze M 81 20 + n).toNat (Int32.ofInt v)) : zNf M0 N m k ∧ zAp N (ze N 81 20) (n + 1) := by
  have hf : zFr [] [85] M N := by rw [hN]; exact zFr.sA (by decide)
  have e20 : ze N 81 20 = ze M 81 20 := hf.e (by decide)
  have e86 : ∀ j, ze N 86 j = ze M 86 j := fun j => hf.ie (by decide) (by decide) j
  have er : ∀ i : Nat, (i : Int) < ze M 81 20 → zrc N 85 i (ze M0 81 12) = zrc M 85 i (ze M0 81 12) := fun i hi => zrc_c2 (fun p _ hp => zs_oth hN (by omega))
  have ec : zrc N 86 0 (ze M0 81 12) = zrc M 86 0 (ze M0 81 12) := zrc_f e86 0 _
  obtain ⟨a1, a2, a3, a4, a5⟩ := h1
  refine ⟨⟨⟨by rw [e20]; exact a1.1, fun i hi => ?_, fun i j hij hj => ?_⟩, ⟨?_, fun i q hi hq hd => ?_⟩, fun p hp => ?_, fun i hi => ?_, ?_⟩, fun q hq => ?_⟩
  · rw [e20] at hi
    rw [er i hi]
    exact a1.2.1 i hi
  · rw [e20] at hj
    rw [er i (by omega), er j hj]
    exact a1.2.2 i j hij hj
  · rw [er 0 (by have := a1.1; omega)]
    exact a2.1
  · rw [e20] at hi
    obtain ⟨j, hj, e⟩ := a2.2 i q hi hq hd
    exact ⟨j, by omega, by rw [er j hj, er i hi]; exact e⟩
  · rw [e86]
    exact a3 p hp
  · rw [e20] at hi
    rw [er i hi, ec]
    exact a4 i hi
  · rw [ec, er m.toNat (by omega)]
    exact a5
  · rw [e20, e86]
    by_cases g : (q : Int) = n
    · rw [show 6 * (ze M 81 20).toNat + q = (6 * ze M 81 20 + n).toNat by have := a1.1; omega, zs_get hN (by rw [hv]; exact z32r _), hv, show n.toNat = q by omega]
    · rw [zs_oth hN (by have := a1.1; omega)]
      exact h q (by omega)
theorem zNf_e {M0 M N : zMem} (hp : zPS M0) {m k n : Int} (hm : 0 ≤ m ∧ m < ze M 81 20) (hk : 0 ≤ k ∧ k < ze M0 81 13) (h1 : zNf M0 M m k) (h : zAp M (ze M 81 20) n) (hn : ze M0 81 12 ≤ n) (h24 : ze M 81 20 ≠ 24) (hf : zFr [20] [] M N) (he : ze N 81 20 = ze M 81 20 + 1) : zBs M0 N ∧ zBc M0 N m (k + 1) := by
  obtain ⟨a1, a2, a3, a4, a5⟩ := h1
  have er : ∀ i : Nat, zrc N 85 i (ze M0 81 12) = zrc M 85 i (ze M0 81 12) := fun i => zrc_f (fun j => hf.ie (by decide) (by decide) j) i _
  have en : zrc M 85 (ze M 81 20).toNat (ze M0 81 12) = zrc M 86 0 (ze M0 81 12) := zrc_c2 (fun p hpp _ => by
    rw [Nat.mul_zero, Nat.zero_add]
    exact h p (by omega))
  have hgk : zrc M0 83 k.toNat (ze M0 81 12) ∈ zMvs M0 := zMvs_m.mpr ⟨k.toNat, by omega, rfl⟩
  have ho := a1.1
  refine ⟨⟨by omega, fun i hi => ?_, fun i j hij hj => ?_⟩, ?_, fun i q hi hq hd => ?_⟩
  · rw [er]
    by_cases g : (i : Int) = ze M 81 20
    · rw [show i = (ze M 81 20).toNat by omega, en, a5]
      exact (a1.2.1 m.toNat (by omega)).g hgk
    · exact a1.2.1 i (by omega)
  · rw [er, er]
    by_cases g : (j : Int) = ze M 81 20
    · rw [show j = (ze M 81 20).toNat by omega, en]
      exact a4 i (by omega)
    · exact a1.2.2 i j hij (by omega)
  · rw [er]
    exact a2.1
  · simp only [er]
    by_cases g : (i : Int) = m ∧ (q : Int) = k
    · refine ⟨(ze M 81 20).toNat, by omega, ?_⟩
      rw [en, a5, show i = m.toNat by omega, show q = k.toNat by omega]
    · obtain ⟨j, hj, e⟩ := a2.2 i q (by omega) hq (by omega)
      exact ⟨j, by omega, e⟩
theorem zBc_f {M0 N : zMem} {m k v : Int} (h : zBc M0 N m k) (hm : 0 ≤ m) (hk : 0 ≤ k) (hv : 0 ≤ v ∧ v < ze N 81 20) (e : zrc N 85 v.toNat (ze M0 81 12) = zrc N 86 0 (ze M0 81 12)) (e2 : zrc N 86 0 (ze M0 81 12) = gco (zrc N 85 m.toNat (ze M0 81 12)) (zrc M0 83 k.toNat (ze M0 81 12))) : zBc M0 N m (k + 1) := by
  refine ⟨h.1, fun i q hi hq hd => ?_⟩
  by_cases g : (i : Int) = m ∧ (q : Int) = k
  · refine ⟨v.toNat, by omega, ?_⟩
    rw [e, e2, show i = m.toNat by omega, show q = k.toNat by omega]
  · exact h.2 i q hi hq (by omega)
theorem zBc_n {M0 N : zMem} {m k : Int} (h : zBc M0 N m k) (hk : ze M0 81 13 ≤ k) : zBc M0 N (m + 1) 0 := ⟨h.1, fun i q hi hq hd => h.2 i q hi hq (by omega)⟩
theorem zBs_24 {M0 N : zMem} {m k : Int} (hm : 0 ≤ m ∧ m < ze N 81 20) (hk : 0 ≤ k ∧ k < ze M0 81 13) (h : zNf M0 N m k) (h24 : ze N 81 20 = 24) : ¬ zFin M0 := by
  rintro ⟨C, c1, c2, c3⟩
  obtain ⟨a1, a2, a3, a4, a5⟩ := h
  have hin : ∀ x, gGen (zMvs M0) x → x ∈ C := fun x hx => hx (fun y => y ∈ C) c2 (fun y g hy hg => c3 y hy g hg)
  have hgk : zrc M0 83 k.toNat (ze M0 81 12) ∈ zMvs M0 := zMvs_m.mpr ⟨k.toNat, by omega, rfl⟩
  have hnew : gGen (zMvs M0) (zrc N 86 0 (ze M0 81 12)) := by
    rw [a5]
    exact (a1.2.1 m.toNat (by omega)).g hgk
  have := nodup_len (zrc N 86 0 (ze M0 81 12) :: (List.range 24).map (fun i => zrc N 85 i (ze M0 81 12))) C (by
    refine List.nodup_cons.mpr ⟨fun hx => ?_, ?_⟩
    · obtain ⟨i, hi, e⟩ := List.mem_map.mp hx
      rw [List.mem_range] at hi
      exact a4 i (by omega) e
    · rw [List.Nodup, List.pairwise_map]
      refine List.Pairwise.imp_of_mem ?_ (List.pairwise_lt_range (n := 24))
      intro i j hi hj hij
      rw [List.mem_range] at hi hj
      exact a1.2.2 i j hij (by omega)) (fun x hx => by
    rcases List.mem_cons.mp hx with rfl | hx
    · exact hin _ hnew
    · obtain ⟨i, hi, rfl⟩ := List.mem_map.mp hx
      rw [List.mem_range] at hi
      exact hin _ (a1.2.1 i (by omega)))
  rw [List.length_cons, List.length_map, List.length_range] at this
  omega
def zGr (M0 N : zMem) : Prop := (1 ≤ ze N 81 20 ∧ ze N 81 20 ≤ 24) ∧ (∀ x, gGen (zMvs M0) x ↔ ∃ i : Nat, (i : Int) < ze N 81 20 ∧ zrc N 85 i (ze M0 81 12) = x) ∧ ∀ i j : Nat, i < j → (j : Int) < ze N 81 20 → zrc N 85 i (ze M0 81 12) ≠ zrc N 85 j (ze M0 81 12)
theorem zGr_i {M0 N : zMem} {m : Int} (h1 : zBs M0 N) (h2 : zBc M0 N m 0) (hm : ze N 81 20 ≤ m) : zGr M0 N ∧ zFin M0 := by
  have hcl : ∀ x g, (∃ i : Nat, (i : Int) < ze N 81 20 ∧ zrc N 85 i (ze M0 81 12) = x) → g ∈ zMvs M0 → ∃ i : Nat, (i : Int) < ze N 81 20 ∧ zrc N 85 i (ze M0 81 12) = gco x g := by
    rintro _ g ⟨i, hi, rfl⟩ hg
    obtain ⟨q, hq, rfl⟩ := zMvs_m.mp hg
    exact h2.2 i q hi hq (by omega)
  have h0 : ∃ i : Nat, (i : Int) < ze N 81 20 ∧ zrc N 85 i (ze M0 81 12) = gid := ⟨0, by have := h1.1; omega, h2.1⟩
  refine ⟨⟨h1.1, fun x => ⟨fun hx => hx (fun x => ∃ i : Nat, (i : Int) < ze N 81 20 ∧ zrc N 85 i (ze M0 81 12) = x) h0 (fun c g hc hg => hcl c g hc hg), ?_⟩, h1.2.2⟩, (List.range (ze N 81 20).toNat).map (fun i => zrc N 85 i (ze M0 81 12)), ?_, ?_, ?_⟩
  · rintro ⟨i, hi, rfl⟩
    exact h1.2.1 i hi
  · rw [List.length_map, List.length_range]
    have := h1.1
    omega
  · obtain ⟨i, hi, e⟩ := h0
    exact List.mem_map.mpr ⟨i, List.mem_range.mpr (by omega), e⟩
  · intro c hc g hg
    obtain ⟨i, hi, e⟩ := List.mem_map.mp hc
    rw [List.mem_range] at hi
    obtain ⟨j, hj, e2⟩ := hcl c g ⟨i, by omega, e⟩ hg
    exact List.mem_map.mpr ⟨j, List.mem_range.mpr (by omega), e2⟩
theorem zGr.fr {S C : List Nat} {M0 M N : zMem} (hf : zFr S C M N) (h : zGr M0 M) (hs : 20 ∉ S) (hc : 85 ∉ C) : zGr M0 N := by
  unfold zGr
  rw [hf.e hs]
  simp only [zrc_f (fun j => hf.ie (by decide) hc j)]
  exact h
theorem zGr.g {M0 N : zMem} (h : zGr M0 N) {i : Nat} (hi : (i : Int) < ze N 81 20) : gGen (zMvs M0) (zrc N 85 i (ze M0 81 12)) := (h.2.1 _).mpr ⟨i, hi, rfl⟩
def zsw (a b i : Nat) : Nat := if i = a then b else if i = b then a else i
def zExn (M N : zMem) (a b p : Int) : Prop := ∀ i q : Nat, i < 24 → q < 6 → ze N 85 (6 * i + q) = (if (q : Int) < p then ze M 85 (6 * zsw a.toNat b.toNat i + q) else ze M 85 (6 * i + q))
theorem zsw_2 (a b i : Nat) : zsw a b (zsw a b i) = i := by
  unfold zsw
  by_cases h1 : i = a
  · rw [if_pos h1]
    by_cases h2 : b = a
    · rw [if_pos h2]; omega
    · rw [if_neg h2, if_pos rfl, h1]
  · by_cases h2 : i = b
    · rw [if_neg h1, if_pos h2, if_pos rfl, h2]
    · rw [if_neg h1, if_neg h2, if_neg h1, if_neg h2]
theorem zExn_0 {M : zMem} {a b : Int} : zExn M M a b 0 := fun i q _ _ => by rw [if_neg (by omega)]
theorem zExn_s {M N N1 N2 : zMem} {a b p v w : Int} (hab : a < b) (ha : 0 ≤ a) (hb : b < 24) (p0 : 0 ≤ p) (p6 : p < 6) (h : zExn M N a b p) (hv : v = ze N 85 (6 * a + p).toNat) (hw : w = ze N 85 (6 * b + p).toNat) (h1 : N1 = zsI N 85 (6 * a + p).toNat (Int32.ofInt w)) (h2 : N2 = zsI N1 85 (6 * b + p).toNat (Int32.ofInt v)) : zExn M N2 a b (p + 1) := by
  have hA := h a.toNat p.toNat (by omega) (by omega)
  have hB := h b.toNat p.toNat (by omega) (by omega)
  rw [if_neg (by omega)] at hA hB
  intro i q hi hq
  have h3 := h i q hi hq
  by_cases g : (q : Int) = p
  · rw [if_pos (by omega)]
    rw [if_neg (by omega)] at h3
    by_cases e1 : i = b.toNat
    · rw [show 6 * i + q = (6 * b + p).toNat by omega, zs_get h2 (by rw [hv]; exact z32r _), hv, show (6 * a + p).toNat = 6 * a.toNat + p.toNat by omega, hA]
      congr 1
      unfold zsw
      rw [if_neg (by omega), if_pos e1]
      omega
    · rw [zs_oth h2 (by omega)]
      by_cases e2 : i = a.toNat
      · rw [show 6 * i + q = (6 * a + p).toNat by omega, zs_get h1 (by rw [hw]; exact z32r _), hw, show (6 * b + p).toNat = 6 * b.toNat + p.toNat by omega, hB]
        congr 1
        unfold zsw
        rw [if_pos e2]
        omega
      · rw [zs_oth h1 (by omega), h3]
        congr 1
        unfold zsw
        rw [if_neg e2, if_neg e1]
  · rw [zs_oth h2 (by omega), zs_oth h1 (by omega), h3]
    by_cases g2 : (q : Int) < p
    · rw [if_pos g2, if_pos (by omega)]
    · rw [if_neg g2, if_neg (by omega)]
def zEx (M N : zMem) (a b : Int) : Prop := ∀ i q : Nat, i < 24 → q < 6 → ze N 85 (6 * i + q) = ze M 85 (6 * zsw a.toNat b.toNat i + q)
theorem zExn_e {M N : zMem} {a b p : Int} (h : zExn M N a b p) (hp : 6 ≤ p) : zEx M N a b := fun i q hi hq => by
  rw [h i q hi hq, if_pos (by omega)]
theorem zEx.c {M N : zMem} {a b P : Int} (h : zEx M N a b) (hP : P ≤ 6) {i : Nat} (hi : i < 24) : zrc N 85 i P = zrc M 85 (zsw a.toNat b.toNat i) P := zrc_c2 (fun p _ hp6 => h i p hi hp6)
def zSt (M0 N : zMem) (a : Int) : Prop := ∀ i j : Nat, (i : Int) < a → i < j → (j : Int) < ze N 81 20 → zrc N 85 i (ze M0 81 12) < zrc N 85 j (ze M0 81 12)
def zSu (M0 N : zMem) (a b : Int) : Prop := ∀ j : Nat, a < (j : Int) → (j : Int) < b → (j : Int) < ze N 81 20 → zrc N 85 a.toNat (ze M0 81 12) < zrc N 85 j (ze M0 81 12)
theorem zSt_0 {M0 N : zMem} : zSt M0 N 0 := fun i j h => absurd h (by omega)
theorem zSu_0 {M0 N : zMem} {a : Int} : zSu M0 N a (a + 1) := fun j h1 h2 => by omega
theorem zSt_n {M0 N : zMem} {a b : Int} (a0 : 0 ≤ a) (h : zSt M0 N a) (h2 : zSu M0 N a b) (hb : ze N 81 20 ≤ b) : zSt M0 N (a + 1) := by
  intro i j h1 h3 h4
  by_cases e : (i : Int) = a
  · rw [show i = a.toNat by omega]
    exact h2 j (by omega) (by omega) h4
  · exact h i j (by omega) h3 h4
theorem zSu_s {M0 N : zMem} {a b : Int} (a0 : 0 ≤ a) (hab : a < b) (hg : zGr M0 N) (h : zSu M0 N a b) (hb : b < ze N 81 20) (hl : zrc N 85 a.toNat (ze M0 81 12) ≤ zrc N 85 b.toNat (ze M0 81 12)) : zSu M0 N a (b + 1) := by
  intro j h1 h2 h3
  by_cases e : (j : Int) = b
  · rw [show j = b.toNat by omega]
    have := hg.2.2 a.toNat b.toNat (by omega) (by omega)
    omega
  · exact h j h1 (by omega) h3
theorem zEx_g {M0 M N : zMem} {a b : Int} (hP : ze M0 81 12 ≤ 6) (a0 : 0 ≤ a) (hab : a < b) (hb : b < ze M 81 20) (hg : zGr M0 M) (h : zEx M N a b) (he : ze N 81 20 = ze M 81 20) (h1 : zSt M0 M a) (h2 : zSu M0 M a b) (hl : zrc M 85 b.toNat (ze M0 81 12) < zrc M 85 a.toNat (ze M0 81 12)) : zGr M0 N ∧ zSt M0 N a ∧ zSu M0 N a (b + 1) := by
  obtain ⟨g1, g2, g3⟩ := hg
  have ec : ∀ i : Nat, (i : Int) < ze M 81 20 → zrc N 85 i (ze M0 81 12) = zrc M 85 (zsw a.toNat b.toNat i) (ze M0 81 12) := fun i hi => h.c hP (by omega)
  have sb : ∀ i : Nat, (i : Int) < ze M 81 20 → ((zsw a.toNat b.toNat i : Nat) : Int) < ze M 81 20 := fun i hi => by
    unfold zsw
    split
    · omega
    · split <;> omega
  have inj : ∀ i j : Nat, (i : Int) < ze M 81 20 → (j : Int) < ze M 81 20 → zrc M 85 i (ze M0 81 12) = zrc M 85 j (ze M0 81 12) → i = j := fun i j hi hj e => by
    rcases Nat.lt_trichotomy i j with k | k | k
    · exact absurd e (g3 i j k hj)
    · exact k
    · exact absurd e.symm (g3 j i k hi)
  refine ⟨⟨by rw [he]; exact g1, fun x => ?_, fun i j hij hj => ?_⟩, fun i j hi hij hj => ?_, fun j h3 h4 h5 => ?_⟩
  · rw [g2 x, he]
    constructor
    · rintro ⟨i, hi, rfl⟩
      exact ⟨zsw a.toNat b.toNat i, sb i hi, by rw [ec _ (sb i hi), zsw_2]⟩
    · rintro ⟨i, hi, rfl⟩
      exact ⟨zsw a.toNat b.toNat i, sb i hi, (ec i hi).symm⟩
  · rw [he] at hj
    rw [ec i (by omega), ec j hj]
    intro e
    have := inj _ _ (sb i (by omega)) (sb j hj) e
    have := congrArg (zsw a.toNat b.toNat) this
    rw [zsw_2, zsw_2] at this
    omega
  · rw [he] at hj
    have e1 : zsw a.toNat b.toNat i = i := by unfold zsw; rw [if_neg (by omega), if_neg (by omega)]
    rw [ec i (by omega), ec j hj, e1]
    have : i < zsw a.toNat b.toNat j := by unfold zsw; split; omega; split <;> omega
    exact h1 i _ hi this (sb j hj)
  · rw [he] at h5
    have e1 : zsw a.toNat b.toNat a.toNat = b.toNat := by unfold zsw; rw [if_pos rfl]
    rw [ec a.toNat (by omega), ec j h5, e1]
    by_cases e : (j : Int) = b
    · have e2 : zsw a.toNat b.toNat j = a.toNat := by unfold zsw; rw [if_neg (by omega), if_pos (by omega)]
      rw [e2]
      exact hl
    · have e2 : zsw a.toNat b.toNat j = j := by unfold zsw; rw [if_neg (by omega), if_neg (by omega)]
      rw [e2]
      exact Nat.lt_trans hl (h2 j h3 (by omega) h5)
theorem gsort_u {a b : Nat → Nat} {n n' : Nat} (ha : ∀ i j, i < j → j < n → a i < a j) (hb : ∀ i j, i < j → j < n' → b i < b j) (h : ∀ y, (∃ i, i < n ∧ a i = y) ↔ (∃ i, i < n' ∧ b i = y)) : ∀ i, i < n → i < n' ∧ a i = b i := by
  intro i
  induction i using Nat.strongRecOn with
  | ind i ih =>
    intro hi
    obtain ⟨p, hp, ep⟩ := (h (a i)).mp ⟨i, hi, rfl⟩
    have hpi : i ≤ p := by
      rcases Nat.lt_or_ge p i with g | g
      · have := (ih p g (by omega)).2
        have h2 := ha p i g hi
        omega
      · exact g
    obtain ⟨q, hq, eq⟩ := (h (b i)).mpr ⟨i, by omega, rfl⟩
    have hqi : i ≤ q := by
      rcases Nat.lt_or_ge q i with g | g
      · have := (ih q g (by omega)).2
        have h2 := hb q i g (by omega)
        omega
      · exact g
    refine ⟨by omega, ?_⟩
    by_cases e1 : i = p
    · rw [e1] at ep ⊢
      exact ep.symm
    · by_cases e2 : i = q
      · rw [e2] at eq ⊢
        exact eq
      · have h1 := hb i p (by omega) hp
        have h2 := ha i q (by omega) hq
        omega
def zTb (M0 N : zMem) (T : zGT) : Prop := T ∈ gTabs ∧ ze N 81 20 = (gN T : Int) ∧ (∀ a b : Nat, a < gN T → b < gN T → gm T a b < gN T ∧ zrc N 85 (gm T a b) (ze M0 81 12) = gco (zrc N 85 a (ze M0 81 12)) (zrc N 85 b (ze M0 81 12))) ∧ (∀ a : Nat, a < gN T → gi T a < gN T ∧ gm T a (gi T a) = 0) ∧ (∀ i j : Nat, i < j → j < gN T → zrc N 85 i (ze M0 81 12) < zrc N 85 j (ze M0 81 12))
theorem zTb_i {M0 N : zMem} (hp : zPm M0) (hF : zFin M0) (hg : zGr M0 N) {a : Int} (hs : zSt M0 N a) (ha : ze N 81 20 ≤ a) : ∃ T : zGT, zTb M0 N T := by
  obtain ⟨e, he, hex⟩ := gcls gGL_w (zMvs M0) hp hF
  obtain ⟨d1, d2, d3, d4, T, hT, t1, t2, t3⟩ := gGL_d e he
  have hs2 : ∀ i j, i < j → j < (ze N 81 20).toNat → zrc N 85 i (ze M0 81 12) < zrc N 85 j (ze M0 81 12) := fun i j h1 h2 => hs i j (by omega) h1 (by omega)
  have hset : ∀ y, (∃ i, i < (ze N 81 20).toNat ∧ zrc N 85 i (ze M0 81 12) = y) ↔ (∃ i, i < en e ∧ kL (eL e) i = y) := by
    intro y
    have h1 := hg.2.1 y
    have h2 := hex y
    constructor
    · rintro ⟨i, hi, e1⟩
      exact h2.mp (h1.mpr ⟨i, by omega, e1⟩)
    · intro hy
      obtain ⟨i, hi, e1⟩ := h1.mp (h2.mpr hy)
      exact ⟨i, by omega, e1⟩
  have u1 := gsort_u (a := fun i => zrc N 85 i (ze M0 81 12)) (b := fun i => kL (eL e) i) hs2 d3 hset
  have u2 := gsort_u (a := fun i => kL (eL e) i) (b := fun i => zrc N 85 i (ze M0 81 12)) d3 hs2 (fun y => (hset y).symm)
  have hl : (ze N 81 20).toNat = en e := by
    refine Nat.le_antisymm ?_ ?_
    · rcases Nat.lt_or_ge (en e) (ze N 81 20).toNat with g | g
      · have := (u1 _ g).1; omega
      · exact g
    · rcases Nat.lt_or_ge (ze N 81 20).toNat (en e) with g | g
      · have := (u2 _ g).1; omega
      · exact g
  have hn := hg.1
  refine ⟨T, hT, by omega, fun a b h1 h2 => ?_, fun a h1 => ?_, fun i j h1 h2 => hs2 i j h1 (by omega)⟩
  · obtain ⟨v1, v2⟩ := t2 a b (by omega) (by omega)
    refine ⟨by omega, ?_⟩
    rw [(u1 _ (by omega : gm T a b < (ze N 81 20).toNat)).2, (u1 a (by omega)).2, (u1 b (by omega)).2]
    exact v2
  · obtain ⟨v1, v2⟩ := t3 a (by omega)
    exact ⟨by omega, v2⟩
theorem zTb.fr {S C : List Nat} {M0 M N : zMem} {T : zGT} (hf : zFr S C M N) (h : zTb M0 M T) (hs : 20 ∉ S) (hc : 85 ∉ C) : zTb M0 N T := by
  unfold zTb
  rw [hf.e hs]
  simp only [zrc_f (fun j => hf.ie (by decide) hc j)]
  exact h
theorem zTb.p {M0 N : zMem} {T : zGT} (h : zTb M0 N T) {a b v : Int} (ha : 0 ≤ a ∧ a < ze N 81 20) (hb : 0 ≤ b ∧ b < ze N 81 20) (e2 : zrc N 86 0 (ze M0 81 12) = gco (zrc N 85 a.toNat (ze M0 81 12)) (zrc N 85 b.toNat (ze M0 81 12))) (hv : (0 ≤ v ∧ v < ze N 81 20 ∧ zrc N 85 v.toNat (ze M0 81 12) = zrc N 86 0 (ze M0 81 12)) ∨ (v = -1 ∧ ∀ i : Nat, (i : Int) < ze N 81 20 → zrc N 85 i (ze M0 81 12) ≠ zrc N 86 0 (ze M0 81 12))) : v = ((gm T a.toNat b.toNat : Nat) : Int) ∧ 0 ≤ v ∧ v < ze N 81 20 := by
  obtain ⟨-, h1, h2, -, h4⟩ := h
  obtain ⟨k1, k2⟩ := h2 a.toNat b.toNat (by omega) (by omega)
  rcases hv with ⟨v0, v1, e⟩ | ⟨-, hn⟩
  · refine ⟨?_, v0, v1⟩
    rw [e2, ← k2] at e
    rcases Nat.lt_trichotomy v.toNat (gm T a.toNat b.toNat) with g | g | g
    · have := h4 _ _ g (by omega); omega
    · omega
    · have := h4 _ _ g (by omega); omega
  · exact absurd (k2.trans e2.symm) (hn _ (by omega))
def zPq (N : zMem) (T : zGT) (a b : Int) : Prop := (∀ x y : Nat, x < gN T → y < gN T → ((x : Int) < a ∨ ((x : Int) = a ∧ (y : Int) < b)) → ze N 87 (24 * x + y) = ((gm T x y : Nat) : Int)) ∧ ∀ x : Nat, x < gN T → (x : Int) < a → ze N 88 x = ((gi T x : Nat) : Int)
def giF (T : zGT) (a : Nat) : Nat → Nat → Nat := fun b r => if gm T a b = 0 then b else r
def zPu (N : zMem) (T : zGT) (a b : Int) : Prop := (∀ y : Nat, (y : Int) < b → gm T a.toNat y ≠ 0) ∨ ze N 88 a.toNat = ((gup (giF T a.toNat) 0 b.toNat : Nat) : Int)
theorem zPq_0 {N : zMem} {T : zGT} : zPq N T 0 0 := ⟨fun x y _ _ h => absurd h (by omega), fun x _ h => absurd h (by omega)⟩
theorem zPu_0 {N : zMem} {T : zGT} {a : Int} : zPu N T a 0 := Or.inl (fun y h => absurd h (by omega))
theorem zPq.fr {S C : List Nat} {M N : zMem} {T : zGT} {a b : Int} (hf : zFr S C M N) (h : zPq M T a b) (hc : 87 ∉ C ∧ 88 ∉ C) : zPq N T a b := by
  unfold zPq
  simp only [hf.ie (q := 87) (by decide) hc.1, hf.ie (q := 88) (by decide) hc.2]
  exact h
theorem zPu.fr {S C : List Nat} {M N : zMem} {T : zGT} {a b : Int} (hf : zFr S C M N) (h : zPu M T a b) (hc : 88 ∉ C) : zPu N T a b := by
  unfold zPu
  rw [hf.ie (q := 88) (by decide) hc]
  exact h
theorem zPq_s {M N : zMem} {T : zGT} {a b v : Int} (h24 : gN T ≤ 24) (a0 : 0 ≤ a) (b0 : 0 ≤ b) (bn : b < (gN T : Int)) (an : a < (gN T : Int)) (h : zPq M T a b) (hu : zPu M T a b) (hv : v = ((gm T a.toNat b.toNat : Nat) : Int)) (v1 : v < 24) (hN : N = zsI M 87 (24 * a + b).toNat (Int32.ofInt v)) : zPq N T a (b + 1) ∧ zPu N T a b ∧ ze N 87 (24 * a + b).toNat = v := by
  have hf : zFr [] [87] M N := by rw [hN]; exact zFr.sA (by decide)
  have hr : zn32 v := ⟨by omega, by omega⟩
  refine ⟨⟨fun x y hx hy hd => ?_, fun x hx hxa => ?_⟩, hu.fr hf (by decide), zs_get hN hr⟩
  · by_cases e : (x : Int) = a ∧ (y : Int) = b
    · rw [show 24 * x + y = (24 * a + b).toNat by omega, zs_get hN hr, hv, show x = a.toNat by omega, show y = b.toNat by omega]
    · rw [zs_oth hN (by omega)]
      exact h.1 x y hx hy (by omega)
  · rw [hf.ie (q := 88) (by decide) (by decide)]
    exact h.2 x hx hxa
theorem zPu_n {N : zMem} {T : zGT} {a b : Int} (b0 : 0 ≤ b) (hu : zPu N T a b) (hz : gm T a.toNat b.toNat ≠ 0) : zPu N T a (b + 1) := by
  rcases hu with h | h
  · refine Or.inl (fun y hy => ?_)
    by_cases e : (y : Int) = b
    · rw [show y = b.toNat by omega]; exact hz
    · exact h y (by omega)
  · refine Or.inr ?_
    rw [gup_s _ _ b0, h]
    unfold giF
    rw [if_neg hz]
theorem zPu_s {M N : zMem} {T : zGT} {a b : Int} (h24 : gN T ≤ 24) (a0 : 0 ≤ a) (b0 : 0 ≤ b) (b1 : b < 24) (h : zPq M T a (b + 1)) (hz : gm T a.toNat b.toNat = 0) (hN : N = zsI M 88 a.toNat (Int32.ofInt b)) : zPq N T a (b + 1) ∧ zPu N T a (b + 1) := by
  have hf : zFr [] [88] M N := by rw [hN]; exact zFr.sA (by decide)
  refine ⟨⟨fun x y hx hy hd => ?_, fun x hx hxa => ?_⟩, Or.inr ?_⟩
  · rw [hf.ie (q := 87) (by decide) (by decide)]
    exact h.1 x y hx hy hd
  · rw [zs_oth hN (by omega)]
    exact h.2 x hx hxa
  · rw [gup_s _ _ b0, zs_get hN ⟨by omega, by omega⟩]
    unfold giF
    rw [if_pos hz]
    omega
theorem zPq_n {M0 N : zMem} {T : zGT} {a b : Int} (hT : zTb M0 N T) (a0 : 0 ≤ a) (h : zPq N T a b) (hu : zPu N T a b) (hb : b = (gN T : Int)) : zPq N T (a + 1) 0 := by
  refine ⟨fun x y hx hy hd => h.1 x y hx hy (by omega), fun x hx hxa => ?_⟩
  by_cases e : (x : Int) = a
  · rcases hu with hu | hu
    · have := hT.2.2.2.1 x hx
      exact absurd this.2 (by rw [show x = a.toNat by omega] at this ⊢; exact hu _ (by omega))
    · rw [show x = a.toNat by omega, hu, hb, Int.toNat_natCast]
      rfl
  · exact h.2 x hx (by omega)
theorem zPq_e {M0 N : zMem} {T : zGT} {a : Int} (hT : zTb M0 N T) (h : zPq N T a 0) (ha : (gN T : Int) ≤ a) : zTab T N := ⟨hT.2.1, fun x y hx hy => h.1 x y hx hy (by omega), fun x hx => h.2 x hx (by omega)⟩
theorem zid_s {M N : zMem} {u : Int} (u0 : 0 ≤ u) (u1 : u < 144) (h : ∀ q : Nat, (q : Int) < u → ze M 85 q = q) (hN : N = zsI M 85 u.toNat (Int32.ofInt u)) : ∀ q : Nat, (q : Int) < u + 1 → ze N 85 q = q := by
  intro q hq
  by_cases e : (q : Int) = u
  · rw [show q = u.toNat by omega, zs_get hN ⟨by omega, by omega⟩]
    omega
  · rw [zs_oth hN (by omega)]
    exact h q (by omega)
def zixE (M : zMem) (m is P : Int) : Prop := (is = 1 ∧ zrc M 85 m.toNat P = zrc M 86 0 P) ∨ (is = 0 ∧ zrc M 85 m.toNat P ≠ zrc M 86 0 P)
theorem zixE.t {M : zMem} {m is P : Int} (h : zixE M m is P) (hi : is ≠ 0) : zrc M 85 m.toNat P = zrc M 86 0 P := by
  rcases h with ⟨_, h⟩ | ⟨h, _⟩
  · exact h
  · exact absurd h hi
theorem zixE.f {M : zMem} {m is P : Int} (h : zixE M m is P) (hi : is = 0) : zrc M 85 m.toNat P ≠ zrc M 86 0 P := by
  rcases h with ⟨h, _⟩ | ⟨_, h⟩
  · rw [hi] at h; exact absurd h (by decide)
  · exact h
def zFnd (M : zMem) (v P : Int) : Prop := zrc M 85 v.toNat P = zrc M 86 0 P
