/-- of what kind the cell is that a field names -/
def zH : Nat → Nat → Nat
  | 0 => fun k => match k with
    | 0 => 4
    | 1 => 6
    | 2 => 7
    | _ => 7
  | 1 => fun k => match k with
    | 0 => 5
    | 1 => 0
    | 2 => 0
    | 3 => 0
    | 4 => 0
    | _ => 0
  | 2 => fun k => match k with
    | _ => 1
  | 3 => fun k => match k with
    | 0 => 4
    | 1 => 0
    | 2 => 0
    | _ => 0
  | 4 => fun k => match k with
    | 0 => 8
    | 1 => 9
    | 2 => 10
    | 3 => 12
    | 4 => 13
    | 5 => 5
    | 6 => 0
    | 7 => 0
    | _ => 0
  | 5 => fun k => match k with
    | 0 => 5
    | 1 => 5
    | 2 => 5
    | 3 => 5
    | 4 => 5
    | 5 => 0
    | 6 => 0
    | _ => 0
  | 6 => fun k => match k with
    | 0 => 8
    | 1 => 5
    | 2 => 5
    | 3 => 5
    | 4 => 5
    | 5 => 5
    | 6 => 0
    | _ => 0
  | 7 => fun k => match k with
    | 0 => 9
    | 1 => 11
    | _ => 11
  | 8 => fun k => match k with
    | _ => 2
  | 9 => fun k => match k with
    | 0 => 9
    | 1 => 5
    | 2 => 5
    | 3 => 0
    | _ => 0
  | 10 => fun k => match k with
    | 0 => 10
    | 1 => 5
    | 2 => 0
    | 3 => 0
    | 4 => 0
    | 5 => 0
    | _ => 0
  | 11 => fun k => match k with
    | 0 => 1
    | 1 => 0
    | 2 => 0
    | 3 => 0
    | 4 => 0
    | 5 => 0
    | 6 => 0
    | 7 => 0
    | 8 => 0
    | 9 => 0
    | 10 => 0
    | 11 => 0
    | 12 => 0
    | 13 => 0
    | 14 => 0
    | 15 => 1
    | 16 => 0
    | 17 => 0
    | 18 => 0
    | 19 => 1
    | 20 => 0
    | 21 => 1
    | 22 => 1
    | 23 => 1
    | 24 => 1
    | 25 => 0
    | 26 => 0
    | 27 => 1
    | 28 => 1
    | 29 => 1
    | 30 => 1
    | 31 => 1
    | 32 => 1
    | 33 => 2
    | 34 => 2
    | 35 => 2
    | 36 => 2
    | 37 => 2
    | 38 => 0
    | 39 => 0
    | 40 => 1
    | 41 => 0
    | 42 => 0
    | 43 => 0
    | 44 => 2
    | 45 => 2
    | 46 => 2
    | 47 => 2
    | 48 => 2
    | 49 => 1
    | 50 => 2
    | 51 => 2
    | 52 => 0
    | 53 => 0
    | 54 => 1
    | 55 => 0
    | 56 => 1
    | 57 => 0
    | 58 => 0
    | 59 => 2
    | 60 => 0
    | 61 => 1
    | 62 => 1
    | 63 => 0
    | 64 => 0
    | _ => 0
  | _ => fun _ => 0
/-! the landed part's world: cells below B, typed; what a method may change -/
def zTy (B : Nat) (M : zMem) : Prop := (∀ q ci j, q < B → (zsh M q).1 = ci + 3 → ci < 11 → j < zN ci → zG ci j = 2 → ∃ r, zf M q j = some r ∧ r < B ∧ (zsh M r).1 = zH ci j) ∧ ∀ q, q < B → (zsh M q).2 ≤ 1000000
def zMod (B : Nat) (S : List (Nat × Nat)) (M M' : zMem) : Prop := M'.1 = M.1 ∧ zsh M' = zsh M ∧ zf M' = zf M ∧ (∀ q, B ≤ q → zi M' q = zi M q ∧ zj M' q = zj M q) ∧ ∀ q ci j, (zsh M q).1 = ci + 3 → (ci, j) ∉ S → zi M' q j = zi M q j
theorem zMod.rf {B : Nat} {S : List (Nat × Nat)} {M : zMem} : zMod B S M M := ⟨rfl, rfl, rfl, fun _ _ => ⟨rfl, rfl⟩, fun _ _ _ _ _ => rfl⟩
theorem zMod.of {B : Nat} {S : List (Nat × Nat)} {M M' : zMem} (h : M' = M) : zMod B S M M' := h ▸ zMod.rf
theorem zMod.call {B : Nat} {S S' : List (Nat × Nat)} {M M1 M2 : zMem} (h : zMod B S M M1) (h2 : zMod B S' M1 M2) (hs : ∀ x ∈ S', x ∈ S) : zMod B S M M2 := by
  obtain ⟨a1, a2, a3, a4, a5⟩ := h
  obtain ⟨b1, b2, b3, b4, b5⟩ := h2
  refine ⟨b1.trans a1, b2.trans a2, b3.trans a3, fun q hq => ⟨(b4 q hq).1.trans (a4 q hq).1, (b4 q hq).2.trans (a4 q hq).2⟩, fun q ci j hk hn => ?_⟩
  rw [b5 q ci j (by rw [a2]; exact hk) (fun x => hn (hs _ x)), a5 q ci j hk hn]
theorem zMod.k {B : Nat} {S : List (Nat × Nat)} {M M' : zMem} (h : zMod B S M M') {q t : Nat} (hq : (zsh M q).1 = t) : (zsh M' q).1 = t := by rw [h.2.1]; exact hq
theorem zTy.mod {B : Nat} {S : List (Nat × Nat)} {M M' : zMem} (h : zTy B M) (m : zMod B S M M') : zTy B M' := by
  refine ⟨fun q ci j h1 h2 h3 h4 h5 => ?_, fun q h1 => by rw [m.2.1]; exact h.2 q h1⟩
  rw [m.2.1] at h2 ⊢
  rw [m.2.2.1]
  exact h.1 q ci j h1 h2 h3 h4 h5
theorem zMod.putI {B : Nat} {S : List (Nat × Nat)} {M M1 : zMem} (h : zMod B S M M1) {q ci j : Nat} {x : Int32} (hq : q < B) (hk : (zsh M q).1 = ci + 3) (hs : (ci, j) ∈ S) : zMod B S M (zsI M1 q j x) := by
  obtain ⟨a1, a2, a3, a4, a5⟩ := h
  refine ⟨a1, a2, a3, fun q2 h2 => ⟨?_, (a4 q2 h2).2⟩, fun q2 ci2 j2 hk2 hn => ?_⟩
  · show zup2 (zi M1) q j x q2 = _
    rw [zup2_q (by omega)]
    exact (a4 q2 h2).1
  · show zup2 (zi M1) q j x q2 j2 = _
    rw [zup2_n, a5 q2 ci2 j2 hk2 hn]
    rintro ⟨rfl, rfl⟩
    have e : ci2 = ci := by omega
    subst e
    exact hn hs
theorem zMod.putJ {B : Nat} {S : List (Nat × Nat)} {M M1 : zMem} (h : zMod B S M M1) {q j : Nat} {x : Int64} (hq : q < B) : zMod B S M (zsJ M1 q j x) := by
  obtain ⟨a1, a2, a3, a4, a5⟩ := h
  refine ⟨a1, a2, a3, fun q2 h2 => ⟨(a4 q2 h2).1, ?_⟩, a5⟩
  show zup2 (zj M1) q j x q2 = _
  rw [zup2_q (by omega)]
  exact (a4 q2 h2).2
theorem zMod.putA {B : Nat} {S : List (Nat × Nat)} {M M1 : zMem} (h : zMod B S M M1) {q j n : Nat} {x : Int32} (hq : q < B) (hk : zsh M q = (1, n)) : zMod B S M (zsI M1 q j x) := by
  obtain ⟨a1, a2, a3, a4, a5⟩ := h
  refine ⟨a1, a2, a3, fun q2 h2 => ⟨?_, (a4 q2 h2).2⟩, fun q2 ci2 j2 hk2 hn => ?_⟩
  · show zup2 (zi M1) q j x q2 = _
    rw [zup2_q (by omega)]
    exact (a4 q2 h2).1
  · show zup2 (zi M1) q j x q2 j2 = _
    rw [zup2_n, a5 q2 ci2 j2 hk2 hn]
    rintro ⟨rfl, -⟩
    rw [hk] at hk2
    simp only at hk2
    omega
section ZC
variable {l : Launch} {k : zMeth} {B : Nat} {Sm : List (Nat × Nat)} {M0 M : zMem} {pc : Nat} {L : List (Option Value)} {S : List Value} {Q : Option Value → zMem → Prop}
theorem zc_getI (hm : zMod B Sm M0 M) {ix ci j q : Nat} (hF : zFL (zo k) ix ci j) (hg : zG ci j = 0) (hq : (zsh M0 q).1 = ci + 3) (hd : decode (zb k) pc = .ok (.getfield ix, 3)) (kk : zW l k (zn M0 + 0, zw M0 + 0) M (pc + 3) L (.int (zi M q j) :: S) Q) : zW l k (zn M0 + 0, zw M0 + 0) M pc L (.ref q :: S) Q :=
  zw_getI hF hg (hm.k hq) hd kk
theorem zc_getIe (hm : zMod B Sm M0 M) {ix ci j q : Nat} {x : Int32} (he : zi M q j = x) (hF : zFL (zo k) ix ci j) (hg : zG ci j = 0) (hq : (zsh M0 q).1 = ci + 3) (hd : decode (zb k) pc = .ok (.getfield ix, 3)) (kk : zW l k (zn M0 + 0, zw M0 + 0) M (pc + 3) L (.int x :: S) Q) : zW l k (zn M0 + 0, zw M0 + 0) M pc L (.ref q :: S) Q :=
  zw_getI hF hg (hm.k hq) hd (by rw [he]; exact kk)
theorem zc_getI0 (hm : zMod B Sm M0 M) {ix ci j q : Nat} (hs : (ci, j) ∉ Sm) (hF : zFL (zo k) ix ci j) (hg : zG ci j = 0) (hq : (zsh M0 q).1 = ci + 3) (hd : decode (zb k) pc = .ok (.getfield ix, 3)) (kk : zW l k (zn M0 + 0, zw M0 + 0) M (pc + 3) L (.int (zi M0 q j) :: S) Q) : zW l k (zn M0 + 0, zw M0 + 0) M pc L (.ref q :: S) Q :=
  zw_getI hF hg (hm.k hq) hd (by rw [hm.2.2.2.2 q ci j hq hs]; exact kk)
theorem zc_getF (hm : zMod B Sm M0 M) {ix ci j q r : Nat} (hF : zFL (zo k) ix ci j) (hg : zG ci j = 2) (hq : (zsh M0 q).1 = ci + 3) (hr : zf M0 q j = some r) (hd : decode (zb k) pc = .ok (.getfield ix, 3)) (kk : zW l k (zn M0 + 0, zw M0 + 0) M (pc + 3) L (.ref r :: S) Q) : zW l k (zn M0 + 0, zw M0 + 0) M pc L (.ref q :: S) Q :=
  zw_getF hF hg (hm.k hq) (by rw [hm.2.2.1]; exact hr) hd kk
theorem zc_putI (hm : zMod B Sm M0 M) {ix ci j q : Nat} {x : Int32} (hF : zFL (zo k) ix ci j) (hfin : (zT ci j).2.2.2 = false) (hg : zG ci j = 0) (hq : (zsh M0 q).1 = ci + 3) (hqB : q < B) (hs : (ci, j) ∈ Sm) (hn : narrow (zY ci j) (.int x) = .int x) (hft : fits (zY ci j) (.int x) = true)
    (hd : decode (zb k) pc = .ok (.putfield ix, 3)) (kk : ∀ M1, M1 = zsI M q j x → zMod B Sm M0 M1 → zW l k (zn M0 + 0, zw M0 + 0) M1 (pc + 3) L S Q) : zW l k (zn M0 + 0, zw M0 + 0) M pc L (.int x :: .ref q :: S) Q :=
  zw_putI hF hfin hg (hm.k hq) hn hft hd (kk _ rfl (hm.putI hqB hq hs))
theorem zc_callV (hm : zMod B Sm M0 M) {k' : zMeth} {Q' : Option Value → zMem → Prop} {ix b : Nat} (vs rest : List Value) (hl' : zMLV (zo k) ix k') (hC : zC l k' 0 0 (.ref b :: vs) M Q') (hS : S = vs.reverse ++ .ref b :: rest) (hn : vs.length = zna k') (hb : (zsh M0 b).1 = zo k' + 3) (h12 : zo k' < 12) (hR : zF k' + 1 ≤ zF k ∧ 8 + (zl k' + 11) + zLo k' ≤ zLo k) (hc8 : (rest.map fun v => v.category).sum ≤ 8) (hd : decode (zb k) pc = .ok (.invokevirtual ix, 3))
    (kk : ∀ (r : Option Value) (M' : zMem), Q' r M' → zW l k (zn M0 + 0, zw M0 + 0) M' (pc + 3) L (r.toList ++ rest) Q) : zW l k (zn M0 + 0, zw M0 + 0) M pc L S Q :=
  zw_callV vs rest hl' hC hS hn (hm.k hb) h12 hR (by unfold zn zw; rw [hm.1]; exact ⟨Nat.le_refl _, Nat.le_refl _⟩) hc8 hd (fun r M' h _ _ => kk r M' h)
theorem zc_callS (hm : zMod B Sm M0 M) {k' : zMeth} {Q' : Option Value → zMem → Prop} {ix : Nat} (vs rest : List Value) (hl' : zMLS (zo k) ix k') (hC : zC l k' 0 0 vs M Q') (hS : S = vs.reverse ++ rest) (hn : vs.length = zna k') (hR : zF k' + 1 ≤ zF k ∧ 8 + (zl k' + 11) + zLo k' ≤ zLo k) (hc8 : (rest.map fun v => v.category).sum ≤ 8) (hd : decode (zb k) pc = .ok (.invokestatic ix, 3))
    (kk : ∀ (r : Option Value) (M' : zMem), Q' r M' → zW l k (zn M0 + 0, zw M0 + 0) M' (pc + 3) L (r.toList ++ rest) Q) : zW l k (zn M0 + 0, zw M0 + 0) M pc L S Q :=
  zw_callS vs rest hl' hC hS hn hR (by unfold zn zw; rw [hm.1]; exact ⟨Nat.le_refl _, Nat.le_refl _⟩) hc8 hd (fun r M' h _ _ => kk r M' h)
end ZC
/-! fewer locals known, place by place -/
def zLe : List (Option Value) → List (Option Value) → Prop
  | [], _ => True
  | none :: a, b => match b with
    | [] => zLe a []
    | _ :: b => zLe a b
  | some v :: a, b => match b with
    | [] => False
    | x :: b => x = some v ∧ zLe a b
theorem zLe_get : ∀ (A L : List (Option Value)), zLe A L → ∀ (i : Nat) (v : Value), A[i]? = some (some v) → L[i]? = some (some v)
  | [], _, _, i, v, h => by simp at h
  | none :: a, [], hl, i, v, h => by
    cases i with
    | zero => simp at h
    | succ i =>
      have := zLe_get a [] hl i v (by simpa using h)
      simp at this
  | none :: a, _ :: b, hl, i, v, h => by
    cases i with
    | zero => simp at h
    | succ i => simpa using zLe_get a b hl i v (by simpa using h)
  | some w :: a, [], hl, i, v, h => hl.elim
  | some w :: a, x :: b, hl, i, v, h => by
    cases i with
    | zero =>
      have e : w = v := by simpa using h
      subst e
      simpa using hl.1
    | succ i => simpa using zLe_get a b hl.2 i v (by simpa using h)
theorem zW_le {l : Launch} {k : zMeth} {X : Nat × Nat} {M : zMem} {pc : Nat} {L : List (Option Value)} {S : List Value} {Q : Option Value → zMem → Prop} (L2 : List (Option Value)) (hL : zLe L2 L) (h : zW l k X M pc L2 S Q) : zW l k X M pc L S Q := zW_less (zLe_get L2 L hL) h
theorem zQ0 {M : zMem} {Q : Option Value → zMem → Prop} : ∀ (r : Option Value) (M' : zMem), Q r M' → zn M ≤ zn M' ∧ zn M' ≤ zn M + 0 ∧ zw M ≤ zw M' ∧ zw M' ≤ zw M + 0 → zn M' = zn M + 0 ∧ zw M' = zw M + 0 := fun _ _ _ h => ⟨by omega, by omega⟩
/-! measures -/
def zvu (i b : Int32) : Nat := (b.toInt - i.toInt).toNat
def zvd (i : Int32) : Nat := i.toInt.toNat
theorem z_up {i b : Int32} (h : ¬ b ≤ i) : zvu (i + Int32.ofInt 1) b < zvu i b := by
  have h1 : i.toInt < b.toInt := by
    have := Int32.not_le.mp h
    exact Int32.lt_iff_toInt_lt.mp this
  have h2 := b.toInt_lt
  have h3 := i.le_toInt
  have e : (i + Int32.ofInt 1).toInt = i.toInt + 1 := by
    rw [Int32.toInt_add]
    have e1 : (Int32.ofInt 1).toInt = 1 := by decide
    rw [e1]
    simp only [Int.bmod_def]
    omega
  unfold zvu
  omega
theorem z_up2 {i b : Int32} (h : i < b) : zvu (i + Int32.ofInt 1) b < zvu i b := z_up (Int32.not_le.mpr h)
theorem z_dn {i : Int32} (h : ¬ i ≤ 0) : zvd (i + Int32.ofInt (-1)) < zvd i := by
  have h1 : 0 < i.toInt := by
    have := Int32.not_le.mp h
    exact Int32.lt_iff_toInt_lt.mp this
  have h2 := i.toInt_lt
  have e : (i + Int32.ofInt (-1)).toInt = i.toInt - 1 := by
    rw [Int32.toInt_add]
    have e1 : (Int32.ofInt (-1)).toInt = -1 := by decide
    rw [e1]
    simp only [Int.bmod_def]
    omega
  unfold zvd
  omega
def zve (i : Int32) : Nat := (i.toInt + 1).toNat
theorem z_dn0 {i : Int32} (h : ¬ i < 0) : zve (i + Int32.ofInt (-1)) < zve i := by
  have h1 : 0 ≤ i.toInt := by
    have := Int32.not_lt.mp h
    exact Int32.le_iff_toInt_le.mp this
  have h2 := i.toInt_lt
  have e : (i + Int32.ofInt (-1)).toInt = i.toInt - 1 := by
    rw [Int32.toInt_add]
    have e1 : (Int32.ofInt (-1)).toInt = -1 := by decide
    rw [e1]
    simp only [Int.bmod_def]
    omega
  unfold zve
  omega
theorem z_ne1 {x : Int32} (h : ¬ x ≤ 0) : ¬ x = 0 := fun e => h (by rw [e]; decide)
theorem z_ne2 {x : Int32} (h : ¬ x = 0) : ¬ x.toInt64 = 0 := by
  intro e
  apply h
  have h1 := congrArg Int64.toInt e
  rw [Int32.toInt_toInt64] at h1
  exact Int32.toInt_inj.mp (by simpa using h1)
theorem z_out4 {x : Int32} (h0 : ¬ x = 0) (h1 : ¬ x = 1) (h2 : ¬ x = 2) (h3 : ¬ x = 3) : x.toInt < 0 ∨ 3 < x.toInt := by
  have g0 : x.toInt ≠ 0 := fun e => h0 (Int32.toInt_inj.mp e)
  have g1 : x.toInt ≠ 1 := fun e => h1 (Int32.toInt_inj.mp e)
  have g2 : x.toInt ≠ 2 := fun e => h2 (Int32.toInt_inj.mp e)
  have g3 : x.toInt ≠ 3 := fun e => h3 (Int32.toInt_inj.mp e)
  omega
theorem z_out6 {x : Int32} (h0 : ¬ x = 0) (h1 : ¬ x = 1) (h2 : ¬ x = 2) (h3 : ¬ x = 3) (h4 : ¬ x = 4) (h5 : ¬ x = 5) : x.toInt < 0 ∨ 5 < x.toInt := by
  have g0 : x.toInt ≠ 0 := fun e => h0 (Int32.toInt_inj.mp e)
  have g1 : x.toInt ≠ 1 := fun e => h1 (Int32.toInt_inj.mp e)
  have g2 : x.toInt ≠ 2 := fun e => h2 (Int32.toInt_inj.mp e)
  have g3 : x.toInt ≠ 3 := fun e => h3 (Int32.toInt_inj.mp e)
  have g4 : x.toInt ≠ 4 := fun e => h4 (Int32.toInt_inj.mp e)
  have g5 : x.toInt ≠ 5 := fun e => h5 (Int32.toInt_inj.mp e)
  omega
theorem z_out9 {x : Int32} (h0 : ¬ x = 0) (h1 : ¬ x = 1) (h2 : ¬ x = 2) (h3 : ¬ x = 3) (h4 : ¬ x = 4) (h5 : ¬ x = 5) (h6 : ¬ x = 6) (h7 : ¬ x = 7) (h8 : ¬ x = 8) : x.toInt < 0 ∨ 8 < x.toInt := by
  have g0 : x.toInt ≠ 0 := fun e => h0 (Int32.toInt_inj.mp e)
  have g1 : x.toInt ≠ 1 := fun e => h1 (Int32.toInt_inj.mp e)
  have g2 : x.toInt ≠ 2 := fun e => h2 (Int32.toInt_inj.mp e)
  have g3 : x.toInt ≠ 3 := fun e => h3 (Int32.toInt_inj.mp e)
  have g4 : x.toInt ≠ 4 := fun e => h4 (Int32.toInt_inj.mp e)
  have g5 : x.toInt ≠ 5 := fun e => h5 (Int32.toInt_inj.mp e)
  have g6 : x.toInt ≠ 6 := fun e => h6 (Int32.toInt_inj.mp e)
  have g7 : x.toInt ≠ 7 := fun e => h7 (Int32.toInt_inj.mp e)
  have g8 : x.toInt ≠ 8 := fun e => h8 (Int32.toInt_inj.mp e)
  omega
theorem z_narZ {x : Int32} (h : x = 0 ∨ x = 1) : narrow .boolean (.int x) = .int x := by rcases h with rfl | rfl <;> rfl
theorem z_fitZ {x : Int32} (h : x = 0 ∨ x = 1) : fits .boolean (.int x) = true := by rcases h with rfl | rfl <;> rfl
abbrev zqV (B : Nat) (M : zMem) (S : List (Nat × Nat)) : Option Value → zMem → Prop := fun r M' => zMod B S M M' ∧ r = none
abbrev zqI (B : Nat) (M : zMem) (S : List (Nat × Nat)) : Option Value → zMem → Prop := fun r M' => zMod B S M M' ∧ ∃ v : Int32, r = some (.int v)
abbrev zqZ (B : Nat) (M : zMem) (S : List (Nat × Nat)) : Option Value → zMem → Prop := fun r M' => zMod B S M M' ∧ ∃ v : Int32, r = some (.int v) ∧ (v = 0 ∨ v = 1)
abbrev zqJ (B : Nat) (M : zMem) (S : List (Nat × Nat)) : Option Value → zMem → Prop := fun r M' => zMod B S M M' ∧ ∃ v : Int64, r = some (.long v)
theorem zw_mmax {l : Launch} {k : zMeth} {X : Nat × Nat} {M : zMem} {pc : Nat} {L : List (Option Value)} {S : List Value} {Q : Option Value → zMem → Prop} {x y : Int32} {ix : Nat} (hlk : Cond.methodLink (zR (zo k)) ix Lib.Math.max.name ∈ z_tbl) (hR : 1 ≤ zF k ∧ 30 ≤ zLo k) (hc8 : (S.map fun v => v.category).sum ≤ 8) (hd : decode (zb k) pc = .ok (.invokestatic ix, 3)) (kk : ∀ v : Int32, v = (if x < y then y else x) → zW l k X M (pc + 3) L (.int v :: S) Q) : zW l k X M pc L (.int y :: .int x :: S) Q := by
  intro p e R s m args below meth c D cI cJ ad adV n0 w0 H locs ls Qm C I hl hc hf
  have h8 : ((S.map (zv ad)).map fun v => v.category).sum ≤ 8 := by rw [zv_cats]; exact hc8
  have a1 := C.2.2.2.2.2.2.2.2.1
  have a2 := C.2.2.2.2.2.2.2.2.2
  exact va_mmax C.1 C.2.1 (C.2.2.1.trans hl.1.symm) C.2.2.2.1 (C.2.2.2.2.1 _ hlk) (C.2.2.2.2.1 _ x_mmax.1) (C.2.2.2.2.1 _ x_mmax.2.1) (C.2.2.2.2.1 _ x_mmax.2.2) (by omega) (by omega) (by omega) (by omega) hd (kk _ rfl p e R s m args below meth c D cI cJ ad adV n0 w0 H locs ls Qm C I hl hc hf)
theorem zw_mmin {l : Launch} {k : zMeth} {X : Nat × Nat} {M : zMem} {pc : Nat} {L : List (Option Value)} {S : List Value} {Q : Option Value → zMem → Prop} {x y : Int32} {ix : Nat} (hlk : Cond.methodLink (zR (zo k)) ix Lib.Math.min.name ∈ z_tbl) (hR : 1 ≤ zF k ∧ 30 ≤ zLo k) (hc8 : (S.map fun v => v.category).sum ≤ 8) (hd : decode (zb k) pc = .ok (.invokestatic ix, 3)) (kk : ∀ v : Int32, v = (if y < x then y else x) → zW l k X M (pc + 3) L (.int v :: S) Q) : zW l k X M pc L (.int y :: .int x :: S) Q := by
  intro p e R s m args below meth c D cI cJ ad adV n0 w0 H locs ls Qm C I hl hc hf
  have h8 : ((S.map (zv ad)).map fun v => v.category).sum ≤ 8 := by rw [zv_cats]; exact hc8
  have a1 := C.2.2.2.2.2.2.2.2.1
  have a2 := C.2.2.2.2.2.2.2.2.2
  exact va_mmin C.1 C.2.1 (C.2.2.1.trans hl.1.symm) C.2.2.2.1 (C.2.2.2.2.1 _ hlk) (C.2.2.2.2.1 _ x_mmin.1) (C.2.2.2.2.1 _ x_mmin.2.1) (C.2.2.2.2.1 _ x_mmin.2.2) (by omega) (by omega) (by omega) (by omega) hd (kk _ rfl p e R s m args below meth c D cI cJ ad adV n0 w0 H locs ls Qm C I hl hc hf)
theorem zw_mabs {l : Launch} {k : zMeth} {X : Nat × Nat} {M : zMem} {pc : Nat} {L : List (Option Value)} {S : List Value} {Q : Option Value → zMem → Prop} {x : Int32} {ix : Nat} (hlk : Cond.methodLink (zR (zo k)) ix Lib.Math.abs.name ∈ z_tbl) (hR : 1 ≤ zF k ∧ 30 ≤ zLo k) (hc8 : (S.map fun v => v.category).sum ≤ 8) (hd : decode (zb k) pc = .ok (.invokestatic ix, 3)) (kk : ∀ v : Int32, v = (if 0 ≤ x then x else 0 - x) → zW l k X M (pc + 3) L (.int v :: S) Q) : zW l k X M pc L (.int x :: S) Q := by
  intro p e R s m args below meth c D cI cJ ad adV n0 w0 H locs ls Qm C I hl hc hf
  have h8 : ((S.map (zv ad)).map fun v => v.category).sum ≤ 8 := by rw [zv_cats]; exact hc8
  have a1 := C.2.2.2.2.2.2.2.2.1
  have a2 := C.2.2.2.2.2.2.2.2.2
  exact va_mabs C.1 C.2.1 (C.2.2.1.trans hl.1.symm) C.2.2.2.1 (C.2.2.2.2.1 _ hlk) (C.2.2.2.2.1 _ x_mabs.1) (C.2.2.2.2.1 _ x_mabs.2.1) (C.2.2.2.2.1 _ x_mabs.2.2) (by omega) (by omega) (by omega) (by omega) hd (kk _ rfl p e R s m args below meth c D cI cJ ad adV n0 w0 H locs ls Qm C I hl hc hf)
theorem zw_mabsl {l : Launch} {k : zMeth} {X : Nat × Nat} {M : zMem} {pc : Nat} {L : List (Option Value)} {S : List Value} {Q : Option Value → zMem → Prop} {x : Int64} {ix : Nat} (hlk : Cond.methodLink (zR (zo k)) ix Lib.MathLoose.abs_long.x ∈ z_tbl) (hR : 1 ≤ zF k ∧ 30 ≤ zLo k) (hc8 : (S.map fun v => v.category).sum ≤ 8) (hd : decode (zb k) pc = .ok (.invokestatic ix, 3)) (kk : ∀ v : Int64, v = (if 0 < x then x else -x) → zW l k X M (pc + 3) L (.long v :: S) Q) : zW l k X M pc L (.long x :: S) Q := by
  intro p e R s m args below meth c D cI cJ ad adV n0 w0 H locs ls Qm C I hl hc hf
  have h8 : ((S.map (zv ad)).map fun v => v.category).sum ≤ 8 := by rw [zv_cats]; exact hc8
  have a1 := C.2.2.2.2.2.2.2.2.1
  have a2 := C.2.2.2.2.2.2.2.2.2
  exact va_mabs_long C.1 C.2.1 (C.2.2.1.trans hl.1.symm) C.2.2.2.1 (C.2.2.2.2.1 _ hlk) (C.2.2.2.2.1 _ x_mabsl.1) (C.2.2.2.2.1 _ x_mabsl.2.1) (C.2.2.2.2.1 _ x_mabsl.2.2) (by omega) (by omega) (by omega) (by omega) hd (kk _ rfl p e R s m args below meth c D cI cJ ad adV n0 w0 H locs ls Qm C I hl hc hf)
theorem z_vin {i : Int32} {n : Nat} (h1 : ¬ i < 0) (h2 : ¬ nI n ≤ i) (hn : n ≤ 1000000) : vp_in i n := by
  refine vp_in_iff.mpr ⟨by simpa using Int32.le_iff_toInt_le.mp (Int32.not_lt.mp h1), ?_⟩
  have := Int32.lt_iff_toInt_lt.mp (Int32.not_le.mp h2)
  rw [nI_toInt (by omega)] at this
  exact this
theorem z_vin2 {i : Int32} {n : Nat} (h1 : 0 ≤ i) (h2 : i < nI n) (hn : n ≤ 1000000) : vp_in i n := z_vin (Int32.not_lt.mpr h1) (Int32.not_le.mpr h2) hn
section ZCA
variable {l : Launch} {k : zMeth} {B : Nat} {Sm : List (Nat × Nat)} {M0 M : zMem} {pc : Nat} {L : List (Option Value)} {S : List Value} {Q : Option Value → zMem → Prop}
theorem z_pair {M : zMem} {q t : Nat} (h : (zsh M q).1 = t) : zsh M q = (t, (zsh M q).2) := Prod.ext h rfl
theorem zMod.sh {B : Nat} {S : List (Nat × Nat)} {M M' : zMem} (h : zMod B S M M') {q t : Nat} (hq : (zsh M q).1 = t) : zsh M' q = (t, (zsh M q).2) := by rw [h.2.1]; exact z_pair hq
theorem zc_alenI (hm : zMod B Sm M0 M) {q : Nat} (hq : (zsh M0 q).1 = 1) (hd : decode (zb k) pc = .ok (.arraylength, 1)) (kk : zW l k (zn M0 + 0, zw M0 + 0) M (pc + 1) L (.int (nI (zsh M0 q).2) :: S) Q) : zW l k (zn M0 + 0, zw M0 + 0) M pc L (.ref q :: S) Q :=
  zw_alen (Or.inl (hm.sh hq)) hd kk
theorem zc_alenJ (hm : zMod B Sm M0 M) {q : Nat} (hq : (zsh M0 q).1 = 2) (hd : decode (zb k) pc = .ok (.arraylength, 1)) (kk : zW l k (zn M0 + 0, zw M0 + 0) M (pc + 1) L (.int (nI (zsh M0 q).2) :: S) Q) : zW l k (zn M0 + 0, zw M0 + 0) M pc L (.ref q :: S) Q :=
  zw_alen (Or.inr (hm.sh hq)) hd kk
theorem zc_iald (hm : zMod B Sm M0 M) {q : Nat} {i : Int32} (hq : (zsh M0 q).1 = 1) (hin : vp_in i (zsh M0 q).2) (hd : decode (zb k) pc = .ok (.iaload, 1)) (kk : zW l k (zn M0 + 0, zw M0 + 0) M (pc + 1) L (.int (zi M q i.toNatClampNeg) :: S) Q) : zW l k (zn M0 + 0, zw M0 + 0) M pc L (.int i :: .ref q :: S) Q :=
  zw_iald (hm.sh hq) hin hd kk
theorem zc_lald (hm : zMod B Sm M0 M) {q : Nat} {i : Int32} (hq : (zsh M0 q).1 = 2) (hin : vp_in i (zsh M0 q).2) (hd : decode (zb k) pc = .ok (.laload, 1)) (kk : zW l k (zn M0 + 0, zw M0 + 0) M (pc + 1) L (.long (zj M q i.toNatClampNeg) :: S) Q) : zW l k (zn M0 + 0, zw M0 + 0) M pc L (.int i :: .ref q :: S) Q :=
  zw_lald (hm.sh hq) hin hd kk
theorem zc_iast (hm : zMod B Sm M0 M) {q : Nat} {i x : Int32} (hq : (zsh M0 q).1 = 1) (hqB : q < B) (hin : vp_in i (zsh M0 q).2) (hd : decode (zb k) pc = .ok (.iastore, 1)) (kk : ∀ M1, M1 = zsI M q i.toNatClampNeg x → zMod B Sm M0 M1 → zW l k (zn M0 + 0, zw M0 + 0) M1 (pc + 1) L S Q) : zW l k (zn M0 + 0, zw M0 + 0) M pc L (.int x :: .int i :: .ref q :: S) Q :=
  zw_iast (hm.sh hq) hin hd (kk _ rfl (hm.putA hqB (z_pair hq)))
theorem zc_last (hm : zMod B Sm M0 M) {q : Nat} {i : Int32} {x : Int64} (hq : (zsh M0 q).1 = 2) (hqB : q < B) (hin : vp_in i (zsh M0 q).2) (hd : decode (zb k) pc = .ok (.lastore, 1)) (kk : ∀ M1, M1 = zsJ M q i.toNatClampNeg x → zMod B Sm M0 M1 → zW l k (zn M0 + 0, zw M0 + 0) M1 (pc + 1) L S Q) : zW l k (zn M0 + 0, zw M0 + 0) M pc L (.long x :: .int i :: .ref q :: S) Q :=
  zw_last (hm.sh hq) hin hd (kk _ rfl (hm.putJ hqB))
end ZCA
def zvq (i b : Int32) : Nat := (b.toInt + 1 - i.toInt).toNat
theorem z_upq {i b : Int32} (hb : b.toInt < 2147483647) (h : ¬ b < i) : zvq (i + Int32.ofInt 1) b < zvq i b := by
  have h1 : i.toInt ≤ b.toInt := by
    have := Int32.not_lt.mp h
    exact Int32.le_iff_toInt_le.mp this
  have h3 := i.le_toInt
  have e : (i + Int32.ofInt 1).toInt = i.toInt + 1 := by
    rw [Int32.toInt_add]
    have e1 : (Int32.ofInt 1).toInt = 1 := by decide
    rw [e1]
    simp only [Int.bmod_def]
    omega
  unfold zvq
  omega
theorem z_neq {M : zMem} {q r a b : Nat} (h : (zsh M q).1 = a) (g : (zsh M r).1 = b) (n : a ≠ b) : q ≠ r := fun e => n (by rw [← h, ← g, e])
theorem z_absne {x v : Int64} (h : ¬ lg_cmp x 0 = 0) (hv : v = if 0 < x then x else -x) : ¬ v = 0 := by
  intro e
  rw [e] at hv
  have h0 : ¬ x = 0 := by
    intro z
    apply h
    rw [z]
    decide
  split at hv
  · exact h0 hv.symm
  · apply h0
    have := congrArg (fun z => -z) hv
    simpa using this.symm
theorem zw_gen {l : Launch} {k : zMeth} {X : Nat × Nat} {M : zMem} {pc : Nat} {L : List (Option Value)} {S : List Value} {Q : Option Value → zMem → Prop} {x : Int32} (kk : ∀ v : Int32, zW l k X M pc L (.int v :: S) Q) : zW l k X M pc L (.int x :: S) Q := kk x
theorem z_p4 (x : Int32) : x + 1 + 1 + 1 + 1 = x + 4 := by simp only [Int32.add_assoc]; rfl
theorem z_p20 (x : Int32) : x + 4 + 4 + 4 + 4 + 4 = x + 20 := by simp only [Int32.add_assoc]; rfl
theorem z_nn {i : Int32} {n : Nat} (h : ¬ i < 0) (h2 : ¬ nI n ≤ i) : ¬ (i + Int32.ofInt 1) < 0 := by
  have h1 : i.toInt < (nI n).toInt := Int32.lt_iff_toInt_lt.mp (Int32.not_le.mp h2)
  have h0 : 0 ≤ i.toInt := by simpa using Int32.le_iff_toInt_le.mp (Int32.not_lt.mp h)
  have h3 := (nI n).toInt_lt
  have e : (i + Int32.ofInt 1).toInt = i.toInt + 1 := by
    rw [Int32.toInt_add]
    have e1 : (Int32.ofInt 1).toInt = 1 := by decide
    rw [e1]
    simp only [Int.bmod_def]
    omega
  intro z
  have := Int32.lt_iff_toInt_lt.mp z
  rw [e] at this
  simp at this
  omega
theorem z_one {v : Int32} (h : v = 0 ∨ v = 1) (h1 : ¬ v = 0) : v = 1 := h.resolve_left h1
theorem z_and63 (x : Int32) : 0 ≤ (x &&& 63).toInt ∧ (x &&& 63).toInt ≤ 63 := by
  obtain ⟨j, hj, e⟩ := pk_andE x (m := 63) 6 (by decide)
  rw [e, nI_toInt (by omega)]
  omega
theorem z_mulup {u m p : Int32} (h0 : ¬ u ≤ 0) (h1 : ¬ m ≤ u) (hm : m.toInt ≤ 63) (hp : p = 2 ∨ p = 3 ∨ p = 5) : zvu (u * p) m < zvu u m := by
  have a0 : 0 < u.toInt := by simpa using Int32.lt_iff_toInt_lt.mp (Int32.not_le.mp h0)
  have a1 : u.toInt < m.toInt := Int32.lt_iff_toInt_lt.mp (Int32.not_le.mp h1)
  have e : (u * p).toInt = u.toInt * p.toInt := by
    rw [Int32.toInt_mul]
    have hb : 0 ≤ u.toInt * p.toInt ∧ u.toInt * p.toInt ≤ 315 := by
      rcases hp with rfl | rfl | rfl
      · have : (2 : Int32).toInt = 2 := by decide
        rw [this]; omega
      · have : (3 : Int32).toInt = 3 := by decide
        rw [this]; omega
      · have : (5 : Int32).toInt = 5 := by decide
        rw [this]; omega
    simp only [Int.bmod_def]
    omega
  have hp2 : 2 * u.toInt ≤ u.toInt * p.toInt := by
    rcases hp with rfl | rfl | rfl
    · have : (2 : Int32).toInt = 2 := by decide
      rw [this]; omega
    · have : (3 : Int32).toInt = 3 := by decide
      rw [this]; omega
    · have : (5 : Int32).toInt = 5 := by decide
      rw [this]; omega
  unfold zvu
  rw [e]
  omega
theorem zsL_le (i : Nat) : zsL.getD i 0 ≤ 1000000 := by
  unfold zsL
  rcases i with _ | _ | _ | _ | i <;> simp
theorem z_dnS {i : Int32} (h : ¬ i ≤ 0) : zvd (i - 1) < zvd i := by
  have h1 : 0 < i.toInt := by simpa using Int32.lt_iff_toInt_lt.mp (Int32.not_le.mp h)
  have h2 := i.toInt_lt
  have e : (i - 1).toInt = i.toInt - 1 := by
    rw [Int32.toInt_sub]
    have e1 : (1 : Int32).toInt = 1 := by decide
    rw [e1]
    simp only [Int.bmod_def]
    omega
  unfold zvd
  omega
abbrev zqT (B : Nat) (M : zMem) (q : Nat) : Option Value → zMem → Prop := fun r M2 => zTy B M2 ∧ M2.1 = M.1 ∧ zsh M2 = zsh M ∧ (∀ r, B ≤ r → zi M2 r = zi M r ∧ zj M2 r = zj M r ∧ zf M2 r = zf M r) ∧ (∀ t, zf M q 0 = some t → zf M2 q 0 = some t ∧ zi M2 t 1 = 0) ∧ ∃ v : Int32, r = some (.int v)
theorem zTy.putR {B : Nat} {M : zMem} (h : zTy B M) {q j ci r : Nat} (hr : r < B) (hq : (zsh M q).1 = ci + 3) (hk : (zsh M r).1 = zH ci j) : zTy B (zsF M q j (some r)) := by
  refine ⟨fun q2 c2 j2 h1 h2 h3 h4 h5 => ?_, h.2⟩
  have h2' : (zsh M q2).1 = c2 + 3 := h2
  by_cases e : q2 = q ∧ j2 = j
  · obtain ⟨rfl, rfl⟩ := e
    have e2 : c2 = ci := by omega
    subst e2
    exact ⟨r, zup2_s, hr, hk⟩
  · obtain ⟨r2, g1, g2, g3⟩ := h.1 q2 c2 j2 h1 h2' h3 h4 h5
    exact ⟨r2, (zup2_n e).trans g1, g2, g3⟩
