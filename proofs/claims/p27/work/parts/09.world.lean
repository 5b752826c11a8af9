def zH : Nat → Nat → Nat
  | 0 => fun k => match k with
    | 0 => 4
    | 1 => 6
    | 2 => 7
    | _ => 7
  | 1 => fun k => match k with
    | 0 => 5
    | 1 => 0
    | 2 => 0
    | 3 => 0
    | 4 => 0
    | _ => 0
  | 2 => fun k => match k with
    | _ => 1
  | 3 => fun k => match k with
    | 0 => 4
    | 1 => 0
    | 2 => 0
    | _ => 0
  | 4 => fun k => match k with
    | 0 => 8
    | 1 => 9
    | 2 => 10
    | 3 => 12
    | 4 => 13
    | 5 => 5
    | 6 => 0
    | 7 => 0
    | _ => 0
  | 5 => fun k => match k with
    | 0 => 5
    | 1 => 5
    | 2 => 5
    | 3 => 5
    | 4 => 5
    | 5 => 0
    | 6 => 0
    | _ => 0
  | 6 => fun k => match k with
    | 0 => 8
    | 1 => 5
    | 2 => 5
    | 3 => 5
    | 4 => 5
    | 5 => 5
    | 6 => 0
    | _ => 0
  | 7 => fun k => match k with
    | 0 => 9
    | 1 => 11
    | _ => 11
  | 8 => fun k => match k with
    | _ => 2
  | 9 => fun k => match k with
    | 0 => 9
    | 1 => 5
    | 2 => 5
    | 3 => 0
    | _ => 0
  | 10 => fun k => match k with
    | 0 => 10
    | 1 => 5
    | 2 => 0
    | 3 => 0
    | 4 => 0
    | 5 => 0
    | _ => 0
  | 11 => fun k => match k with
    | 0 => 1
    | 1 => 0
    | 2 => 0
    | 3 => 0
    | 4 => 0
    | 5 => 0
    | 6 => 0
    | 7 => 0
    | 8 => 0
    | 9 => 0
    | 10 => 0
    | 11 => 0
    | 12 => 0
    | 13 => 0
    | 14 => 0
    | 15 => 1
    | 16 => 0
    | 17 => 0
    | 18 => 0
    | 19 => 1
    | 20 => 0
    | 21 => 1
    | 22 => 1
    | 23 => 1
    | 24 => 1
    | 25 => 0
    | 26 => 0
    | 27 => 1
    | 28 => 1
    | 29 => 1
    | 30 => 1
    | 31 => 1
    | 32 => 1
    | 33 => 2
    | 34 => 2
    | 35 => 2
    | 36 => 2
    | 37 => 2
    | 38 => 0
    | 39 => 0
    | 40 => 1
    | 41 => 0
    | 42 => 0
    | 43 => 0
    | 44 => 2
    | 45 => 2
    | 46 => 2
    | 47 => 2
    | 48 => 2
    | 49 => 1
    | 50 => 2
    | 51 => 2
    | 52 => 0
    | 53 => 0
    | 54 => 1
    | 55 => 0
    | 56 => 1
    | 57 => 0
    | 58 => 0
    | 59 => 2
    | 60 => 0
    | 61 => 1
    | 62 => 1
    | 63 => 0
    | 64 => 0
    | _ => 0
  | _ => fun _ => 0
def zTy (B : Nat) (M : zMem) : Prop := (∀ q ci j, q < B → (zsh M q).1 = ci + 3 → ci < 11 → j < zN ci → zG ci j = 2 → ∃ r, zf M q j = some r ∧ r < B ∧ (zsh M r).1 = zH ci j) ∧ ∀ q, q < B → (zsh M q).2 ≤ 1000000
def zMod (B : Nat) (S : List (Nat × Nat)) (M M' : zMem) : Prop := M'.1 = M.1 ∧ zsh M' = zsh M ∧ zf M' = zf M ∧ (∀ q, B ≤ q → zi M' q = zi M q ∧ zj M' q = zj M q) ∧ ∀ q ci j, (zsh M q).1 = ci + 3 → (ci, j) ∉ S → zi M' q j = zi M q j
theorem zMod.rf {B : Nat} {S : List (Nat × Nat)} {M : zMem} : zMod B S M M := ⟨rfl, rfl, rfl, fun _ _ => ⟨rfl, rfl⟩, fun _ _ _ _ _ => rfl⟩
theorem zMod.of {B : Nat} {S : List (Nat × Nat)} {M M' : zMem} (h : M' = M) : zMod B S M M' := h ▸ zMod.rf
theorem zMod.call {B : Nat} {S S' : List (Nat × Nat)} {M M1 M2 : zMem} (h : zMod B S M M1) (h2 : zMod B S' M1 M2) (hs : ∀ x ∈ S', x ∈ S) : zMod B S M M2 := by
  obtain ⟨a1, a2, a3, a4, a5⟩ := h
  obtain ⟨b1, b2, b3, b4, b5⟩ := h2
  refine ⟨b1.trans a1, b2.trans a2, b3.trans a3, fun q hq => ⟨(b4 q hq).1.trans (a4 q hq).1, (b4 q hq).2.trans (a4 q hq).2⟩, fun q ci j hk hn => ?_⟩
  rw [b5 q ci j (by rw [a2]; exact hk) (fun x => hn (hs _ x)), a5 q ci j hk hn]
theorem zMod.k {B : Nat} {S : List (Nat × Nat)} {M M' : zMem} (h : zMod B S M M') {q t : Nat} (hq : (zsh M q).1 = t) : (zsh M' q).1 = t := by rw [h.2.1]; exact hq
theorem zTy.mod {B : Nat} {S : List (Nat × Nat)} {M M' : zMem} (h : zTy B M) (m : zMod B S M M') : zTy B M' := by
  refine ⟨fun q ci j h1 h2 h3 h4 h5 => ?_, fun q h1 => by rw [m.2.1]; exact h.2 q h1⟩
  rw [m.2.1] at h2 ⊢
  rw [m.2.2.1]
  exact h.1 q ci j h1 h2 h3 h4 h5
theorem zMod.putI {B : Nat} {S : List (Nat × Nat)} {M M1 : zMem} (h : zMod B S M M1) {q ci j : Nat} {x : Int32} (hq : q < B) (hk : (zsh M q).1 = ci + 3) (hs : (ci, j) ∈ S) : zMod B S M (zsI M1 q j x) := by
  obtain ⟨a1, a2, a3, a4, a5⟩ := h
  refine ⟨a1, a2, a3, fun q2 h2 => ⟨?_, (a4 q2 h2).2⟩, fun q2 ci2 j2 hk2 hn => ?_⟩
  · show zup2 (zi M1) q j x q2 = _
    rw [zup2_q (by omega)]
    exact (a4 q2 h2).1
  · show zup2 (zi M1) q j x q2 j2 = _
    rw [zup2_n, a5 q2 ci2 j2 hk2 hn]
    rintro ⟨rfl, rfl⟩
    have e : ci2 = ci := by omega
    subst e
    exact hn hs
section ZC
variable {l : Launch} {k : zMeth} {B : Nat} {Sm : List (Nat × Nat)} {M0 M : zMem} {pc : Nat} {L : List (Option Value)} {S : List Value} {Q : Option Value → zMem → Prop}
end ZC
def zLe : List (Option Value) → List (Option Value) → Prop
  | [], _ => True
  | none :: a, b => match b with
    | [] => zLe a []
    | _ :: b => zLe a b
  | some v :: a, b => match b with
    | [] => False
    | x :: b => x = some v ∧ zLe a b
theorem zLe_get : ∀ (A L : List (Option Value)), zLe A L → ∀ (i : Nat) (v : Value), A[i]? = some (some v) → L[i]? = some (some v)
  | [], _, _, i, v, h => by simp at h
  | none :: a, [], hl, i, v, h => by
    cases i with
    | zero => simp at h
    | succ i =>
      have := zLe_get a [] hl i v (by simpa using h)
      simp at this
  | none :: a, _ :: b, hl, i, v, h => by
    cases i with
    | zero => simp at h
    | succ i => simpa using zLe_get a b hl i v (by simpa using h)
  | some w :: a, [], hl, i, v, h => hl.elim
  | some w :: a, x :: b, hl, i, v, h => by
    cases i with
    | zero =>
      have e : w = v := by simpa using h
      subst e
      simpa using hl.1
    | succ i => simpa using zLe_get a b hl.2 i v (by simpa using h)
theorem zW_le {l : Launch} {k : zMeth} {X : Nat × Nat} {M : zMem} {pc : Nat} {L : List (Option Value)} {S : List Value} {Q : Option Value → zMem → Prop} (L2 : List (Option Value)) (hL : zLe L2 L) (h : zW l k X M pc L2 S Q) : zW l k X M pc L S Q := zW_less (zLe_get L2 L hL) h
theorem zQ0 {M : zMem} {Q : Option Value → zMem → Prop} : ∀ (r : Option Value) (M' : zMem), Q r M' → zn M ≤ zn M' ∧ zn M' ≤ zn M + 0 ∧ zw M ≤ zw M' ∧ zw M' ≤ zw M + 0 → zn M' = zn M + 0 ∧ zw M' = zw M + 0 := fun _ _ _ h => ⟨by omega, by omega⟩
theorem zw_mmax {l : Launch} {k : zMeth} {X : Nat × Nat} {M : zMem} {pc : Nat} {L : List (Option Value)} {S : List Value} {Q : Option Value → zMem → Prop} {x y : Int32} {ix : Nat} (hlk : Cond.methodLink (zR (zo k)) ix Lib.Math.max.name ∈ z_tbl) (hR : 1 ≤ zF k ∧ 30 ≤ zLo k) (hc8 : (S.map fun v => v.category).sum ≤ 8) (hd : decode (zb k) pc = .ok (.invokestatic ix, 3)) (kk : ∀ v : Int32, v = (if x < y then y else x) → zW l k X M (pc + 3) L (.int v :: S) Q) : zW l k X M pc L (.int y :: .int x :: S) Q := by
  intro p e R s m args below meth c D cI cJ ad adV n0 w0 H locs ls Qm C I hl hc hf
  have h8 : ((S.map (zv ad)).map fun v => v.category).sum ≤ 8 := by rw [zv_cats]; exact hc8
  have a1 := C.2.2.2.2.2.2.2.2.1
  have a2 := C.2.2.2.2.2.2.2.2.2
  exact va_mmax C.1 C.2.1 (C.2.2.1.trans hl.1.symm) C.2.2.2.1 (C.2.2.2.2.1 _ hlk) (C.2.2.2.2.1 _ x_mmax.1) (C.2.2.2.2.1 _ x_mmax.2.1) (C.2.2.2.2.1 _ x_mmax.2.2) (by omega) (by omega) (by omega) (by omega) hd (kk _ rfl p e R s m args below meth c D cI cJ ad adV n0 w0 H locs ls Qm C I hl hc hf)
theorem zw_mmin {l : Launch} {k : zMeth} {X : Nat × Nat} {M : zMem} {pc : Nat} {L : List (Option Value)} {S : List Value} {Q : Option Value → zMem → Prop} {x y : Int32} {ix : Nat} (hlk : Cond.methodLink (zR (zo k)) ix Lib.Math.min.name ∈ z_tbl) (hR : 1 ≤ zF k ∧ 30 ≤ zLo k) (hc8 : (S.map fun v => v.category).sum ≤ 8) (hd : decode (zb k) pc = .ok (.invokestatic ix, 3)) (kk : ∀ v : Int32, v = (if y < x then y else x) → zW l k X M (pc + 3) L (.int v :: S) Q) : zW l k X M pc L (.int y :: .int x :: S) Q := by
  intro p e R s m args below meth c D cI cJ ad adV n0 w0 H locs ls Qm C I hl hc hf
  have h8 : ((S.map (zv ad)).map fun v => v.category).sum ≤ 8 := by rw [zv_cats]; exact hc8
  have a1 := C.2.2.2.2.2.2.2.2.1
  have a2 := C.2.2.2.2.2.2.2.2.2
  exact va_mmin C.1 C.2.1 (C.2.2.1.trans hl.1.symm) C.2.2.2.1 (C.2.2.2.2.1 _ hlk) (C.2.2.2.2.1 _ x_mmin.1) (C.2.2.2.2.1 _ x_mmin.2.1) (C.2.2.2.2.1 _ x_mmin.2.2) (by omega) (by omega) (by omega) (by omega) hd (kk _ rfl p e R s m args below meth c D cI cJ ad adV n0 w0 H locs ls Qm C I hl hc hf)
theorem zw_mabs {l : Launch} {k : zMeth} {X : Nat × Nat} {M : zMem} {pc : Nat} {L : List (Option Value)} {S : List Value} {Q : Option Value → zMem → Prop} {x : Int32} {ix : Nat} (hlk : Cond.methodLink (zR (zo k)) ix Lib.Math.abs.name ∈ z_tbl) (hR : 1 ≤ zF k ∧ 30 ≤ zLo k) (hc8 : (S.map fun v => v.category).sum ≤ 8) (hd : decode (zb k) pc = .ok (.invokestatic ix, 3)) (kk : ∀ v : Int32, v = (if 0 ≤ x then x else 0 - x) → zW l k X M (pc + 3) L (.int v :: S) Q) : zW l k X M pc L (.int x :: S) Q := by
  intro p e R s m args below meth c D cI cJ ad adV n0 w0 H locs ls Qm C I hl hc hf
  have h8 : ((S.map (zv ad)).map fun v => v.category).sum ≤ 8 := by rw [zv_cats]; exact hc8
  have a1 := C.2.2.2.2.2.2.2.2.1
  have a2 := C.2.2.2.2.2.2.2.2.2
  exact va_mabs C.1 C.2.1 (C.2.2.1.trans hl.1.symm) C.2.2.2.1 (C.2.2.2.2.1 _ hlk) (C.2.2.2.2.1 _ x_mabs.1) (C.2.2.2.2.1 _ x_mabs.2.1) (C.2.2.2.2.1 _ x_mabs.2.2) (by omega) (by omega) (by omega) (by omega) hd (kk _ rfl p e R s m args below meth c D cI cJ ad adV n0 w0 H locs ls Qm C I hl hc hf)
theorem zw_mabsl {l : Launch} {k : zMeth} {X : Nat × Nat} {M : zMem} {pc : Nat} {L : List (Option Value)} {S : List Value} {Q : Option Value → zMem → Prop} {x : Int64} {ix : Nat} (hlk : Cond.methodLink (zR (zo k)) ix Lib.MathLoose.abs_long.x ∈ z_tbl) (hR : 1 ≤ zF k ∧ 30 ≤ zLo k) (hc8 : (S.map fun v => v.category).sum ≤ 8) (hd : decode (zb k) pc = .ok (.invokestatic ix, 3)) (kk : ∀ v : Int64, v = (if 0 < x then x else -x) → zW l k X M (pc + 3) L (.long v :: S) Q) : zW l k X M pc L (.long x :: S) Q := by
  intro p e R s m args below meth c D cI cJ ad adV n0 w0 H locs ls Qm C I hl hc hf
  have h8 : ((S.map (zv ad)).map fun v => v.category).sum ≤ 8 := by rw [zv_cats]; exact hc8
  have a1 := C.2.2.2.2.2.2.2.2.1
  have a2 := C.2.2.2.2.2.2.2.2.2
  exact va_mabs_long C.1 C.2.1 (C.2.2.1.trans hl.1.symm) C.2.2.2.1 (C.2.2.2.2.1 _ hlk) (C.2.2.2.2.1 _ x_mabsl.1) (C.2.2.2.2.1 _ x_mabsl.2.1) (C.2.2.2.2.1 _ x_mabsl.2.2) (by omega) (by omega) (by omega) (by omega) hd (kk _ rfl p e R s m args below meth c D cI cJ ad adV n0 w0 H locs ls Qm C I hl hc hf)
section ZCA
variable {l : Launch} {k : zMeth} {B : Nat} {Sm : List (Nat × Nat)} {M0 M : zMem} {pc : Nat} {L : List (Option Value)} {S : List Value} {Q : Option Value → zMem → Prop}
theorem z_pair {M : zMem} {q t : Nat} (h : (zsh M q).1 = t) : zsh M q = (t, (zsh M q).2) := Prod.ext h rfl
theorem zMod.sh {B : Nat} {S : List (Nat × Nat)} {M M' : zMem} (h : zMod B S M M') {q t : Nat} (hq : (zsh M q).1 = t) : zsh M' q = (t, (zsh M q).2) := by rw [h.2.1]; exact z_pair hq
end ZCA
theorem zsL_le (i : Nat) : zsL.getD i 0 ≤ 1000000 := by
  unfold zsL
  rcases i with _ | _ | _ | _ | i <;> simp
