def zJX (T : zGT) (M : zMem) : Prop := zJ T M (ze M 81 25) ∧ zX T M (ze M 81 25) (ze M 81 25) 0
theorem zJX.fr {T : zGT} {S C : List Nat} {M N : zMem} (hf : zFr S C M N) (h : zJX T M) (hs : 25 ∉ S) (hc : 89 ∉ C) : zJX T N := by
  have e : ∀ k, ze N 89 k = ze M 89 k := fun k => hf.ie (by decide) hc k
  unfold zJX
  rw [hf.e hs]
  exact ⟨zJ.e e h.1, zX.e e h.2⟩
theorem zFirs.fr {T : zGT} {S C : List Nat} {M N : zMem} (hf : zFr S C M N) (h : zFirs T M) (hs : 26 ∉ S) (hc : 91 ∉ C) : zFirs T N := by
  unfold zFirs
  rw [hf.e hs]
  exact ⟨h.1, fun i hi => by rw [hf.ie (by decide) hc]; exact h.2 i hi⟩
theorem zFl.e {T : zGT} {S C : List Nat} {M N : zMem} {k : Int} (hf : zFr S C M N) (h : zFl T M k) (hs : 26 ∉ S) (hc : 91 ∉ C ∧ 89 ∉ C) : zFl T N k := by
  have e1 : ∀ k, ze N 91 k = ze M 91 k := fun k => hf.ie (by decide) hc.1 k
  have e2 : ∀ k, ze N 89 k = ze M 89 k := fun k => hf.ie (by decide) hc.2 k
  unfold zFl zSo
  rw [hf.e hs]
  simp only [e1, e2]
  exact h
def zSS (T : zGT) (M : zMem) (m : Int) : Prop := ∀ k : Nat, (k : Int) < m → 0 ≤ ze M 90 k ∧ ze M 90 k < ze M 81 26 ∧ ze M 91 (ze M 90 k).toNat = ((glt T (ze M 89 k).toNat : Nat) : Int)
theorem zSS.fr {T : zGT} {S C : List Nat} {M N : zMem} {m : Int} (hf : zFr S C M N) (h : zSS T M m) (hs : 26 ∉ S) (hc : 89 ∉ C ∧ 90 ∉ C ∧ 91 ∉ C) : zSS T N m := by
  intro k hk
  have := h k hk
  rw [hf.e hs, hf.ie (by decide) hc.1, hf.ie (by decide) hc.2.1, hf.ie (by decide) hc.2.2]
  exact this
theorem zSS_0 {T : zGT} {M : zMem} : zSS T M 0 := fun k hk => absurd hk (by omega)
theorem zSS_s {T : zGT} {M N : zMem} {u w v t : Int} (hu : 0 ≤ u) (h : zSS T M u) (hN : N = zsI M 90 u.toNat (Int32.ofInt w)) (w0 : 0 ≤ w) (w1 : w < ze M 81 26) (w2 : w < 64) (hv : v = ze M 89 u.toNat) (ht : t = ((glt T v.toNat : Nat) : Int)) (hw : ze M 91 w.toNat = t) : zSS T N (u + 1) := by
  have hf : zFr [] [90] M N := by rw [hN]; exact zFr.sA (by decide)
  have e1 : ∀ k, ze N 91 k = ze M 91 k := fun k => hf.ie (by decide) (by decide) k
  have e2 : ∀ k, ze N 89 k = ze M 89 k := fun k => hf.ie (by decide) (by decide) k
  have e3 : ze N 81 26 = ze M 81 26 := hf.e (by decide)
  intro k hk
  rw [e1, e2, e3]
  by_cases e : (k : Int) = u
  · rw [show k = u.toNat by omega, zs_get hN ⟨by omega, by omega⟩]
    exact ⟨w0, w1, by rw [hw, ht, hv]⟩
  · rw [zs_oth hN (by omega)]
    exact h k (by omega)
def zCs (T : zGT) (M : zMem) (i : Int) : Prop := ∀ k : Nat, (k : Int) < i → zCos T k ((gF T).getD k 0) M
def zCt (T : zGT) (M : zMem) (i x : Int) : Prop := ∀ y : Nat, (y : Int) < x → y < gN T → ze M 94 (24 * i.toNat + y) = ((gcos T ((gF T).getD i.toNat 0) y : Nat) : Int)
theorem zCs.fr {T : zGT} {S C : List Nat} {M N : zMem} {i : Int} (hf : zFr S C M N) (h : zCs T M i) (_ : True) (hc : 94 ∉ C) : zCs T N i := by
  intro k hk x hx
  rw [hf.ie (by decide) hc]
  exact h k hk x hx
theorem zCs_0 {T : zGT} {M : zMem} : zCs T M 0 := fun k hk => absurd hk (by omega)
theorem zCt_0 {T : zGT} {M : zMem} {i : Int} : zCt T M i 0 := fun k hk => absurd hk (by omega)
theorem zCt_s {T : zGT} (h24 : gN T ≤ 24) {M N : zMem} {i x v s : Int} (hi : 0 ≤ i) (hx : 0 ≤ x) (hxn : x < gN T) (h1 : zCs T M i) (h : zCt T M i x) (hs : s.toNat = (gF T).getD i.toNat 0) (hv : v = ((gcos T s.toNat x.toNat : Nat) : Int)) (hr : zn32 v) (hN : N = zsI M 94 (24 * i + x).toNat (Int32.ofInt v)) : zCs T N i ∧ zCt T N i (x + 1) := by
  refine ⟨fun k hk y hy => ?_, fun y hy hyn => ?_⟩
  · rw [zs_oth hN (by omega)]
    exact h1 k hk y hy
  · by_cases e : (y : Int) = x
    · rw [show 24 * i.toNat + y = (24 * i + x).toNat by omega, zs_get hN hr, hv, hs, show y = x.toNat by omega]
    · rw [zs_oth hN (by omega)]
      exact h y (by omega) hyn
theorem zCs_s {T : zGT} {M : zMem} {i x : Int} (hi : 0 ≤ i) (h1 : zCs T M i) (h : zCt T M i x) (hx : (gN T : Int) ≤ x) : zCs T M (i + 1) := by
  intro k hk
  by_cases e : (k : Int) = i
  · intro y hy
    have := h y (by omega) hy
    rwa [show i.toNat = k by omega] at this
  · exact h1 k (by omega)
def zMs (T : zGT) (M : zMem) (i j : Int) : Prop := ∀ k k' : Nat, ((k : Int) < i ∨ ((k : Int) = i ∧ (k' : Int) < j)) → k < (gF T).length → k' < (gF T).length → ze M 93 (64 * k + k') = ((gmk T ((gF T).getD k 0) ((gF T).getD k' 0) : Nat) : Int)
theorem zMs.fr {T : zGT} {S C : List Nat} {M N : zMem} {i j : Int} (hf : zFr S C M N) (h : zMs T M i j) (_ : True) (hc : 93 ∉ C) : zMs T N i j := by
  intro k k' h1 h2 h3
  rw [hf.ie (by decide) hc]
  exact h k k' h1 h2 h3
theorem zMs_0 {T : zGT} {M : zMem} : zMs T M 0 0 := fun k k' h => absurd h (by omega)
theorem zMs_s {T : zGT} {M N : zMem} {i j v s : Int} (hl : (gF T).length ≤ 64) (hi : 0 ≤ i) (hj : 0 ≤ j) (hj2 : j < 64) (h : zMs T M i j) (hs : s.toNat = (gF T).getD j.toNat 0) (hv : v = ((gmk T ((gF T).getD i.toNat 0) s.toNat : Nat) : Int)) (hr : zn32 v) (hN : N = zsI M 93 (64 * i + j).toNat (Int32.ofInt v)) : zMs T N i (j + 1) := by
  intro k k' h1 h2 h3
  by_cases e : (k : Int) = i ∧ (k' : Int) = j
  · obtain ⟨e1, e2⟩ := e
    rw [show 64 * k + k' = (64 * i + j).toNat by omega, zs_get hN hr, hv, hs, show i.toNat = k by omega, show j.toNat = k' by omega]
  · rw [zs_oth hN (by omega)]
    exact h k k' (by omega) h2 h3
theorem zMs_n {T : zGT} {M : zMem} {i j : Int} (h : zMs T M i j) (hj : ((gF T).length : Int) ≤ j) : zMs T M (i + 1) 0 := fun k k' h1 h2 h3 => h k k' (by omega) h2 h3
def zGB (T : zGT) (M : zMem) : Prop := zTab T M ∧ zB 85 144 0 5 M ∧ zJX T M ∧ zFirs T M ∧ zSS T M (ze M 81 25) ∧ zCs T M ((gF T).length : Int) ∧ zMs T M ((gF T).length : Int) 0
theorem zGB.fr {T : zGT} {S C : List Nat} {M N : zMem} (hf : zFr S C M N) (h : zGB T M) (hs : 20 ∉ S ∧ 25 ∉ S ∧ 26 ∉ S) (hc : 85 ∉ C ∧ 87 ∉ C ∧ 88 ∉ C ∧ 89 ∉ C ∧ 90 ∉ C ∧ 91 ∉ C ∧ 93 ∉ C ∧ 94 ∉ C) : zGB T N := by
  obtain ⟨h1, h2, h3, h4, h5, h6, h7⟩ := h
  obtain ⟨s1, s2, s3⟩ := hs
  obtain ⟨c1, c2, c3, c4, c5, c6, c7, c8⟩ := hc
  refine ⟨zTab.fr hf h1 s1 ⟨c2, c3⟩, zB.fr hf h2 (by decide) c1, zJX.fr hf h3 s2 c4, zFirs.fr hf h4 s3 c6, ?_, zCs.fr hf h6 trivial c8, zMs.fr hf h7 trivial c7⟩
  rw [hf.e s2]
  exact zSS.fr hf h5 s3 ⟨c4, c5, c6⟩
theorem gF_pos {T : zGT} (hO : gOK T) : 1 ≤ (gF T).length ∧ (gF T).length ≤ 64 := by
  refine ⟨List.length_pos_of_mem (hO.2.2.1.1 _ hO.2.1.2.1), ?_⟩
  refine Nat.le_trans (nodup_len (gF T) (gS T) ?_ (fun x hx => (hO.2.2.1.2.1 x hx).1)) hO.2.1.1
  rw [List.Nodup, List.pairwise_iff_getElem]
  intro i j hi hj hij e
  have := hO.2.2.1.2.2 i j hij hj
  rw [List.getD_eq_getElem?_getD, List.getD_eq_getElem?_getD, List.getElem?_eq_getElem hi, List.getElem?_eq_getElem hj] at this
  simp only [Option.getD_some] at this
  rw [e] at this
  omega
theorem zFirs_f {T : zGT} (hO : gOK T) {M : zMem} (h : zFirs T M) {S : Nat} (hS : S ∈ gS T) : ∃ i : Nat, (i : Int) < ze M 81 26 ∧ ze M 91 i = ((glt T S : Nat) : Int) := by
  obtain ⟨i, hi, e⟩ := List.mem_iff_getElem.mp (hO.2.2.1.1 S hS)
  refine ⟨i, by have := h.1; omega, ?_⟩
  rw [h.2 i hi, List.getD_eq_getElem?_getD, List.getElem?_eq_getElem hi]
  simp only [Option.getD_some]
  rw [e]
theorem gIn_or {T : zGT} (hG : gGd T) {x g : Int} (h0 : 0 ≤ x) (h1 : x.toNat < 2 ^ gN T) (g0 : 0 ≤ g) (g1 : g < gN T) : gIn T (zor x (zshl 1 g)) ∧ (zor x (zshl 1 g)).toNat = x.toNat ||| 2 ^ g.toNat := by
  have h2 := g24 hG.2.1 h0 h1
  have h24 := hG.2.1
  rw [zorb h0 (by omega) g0 (by omega), Int.toNat_natCast]
  refine ⟨⟨by omega, ?_⟩, rfl⟩
  rw [Int.toNat_natCast]
  exact Nat.or_lt_two_pow h1 (Nat.pow_lt_pow_right (by omega) (by omega))
