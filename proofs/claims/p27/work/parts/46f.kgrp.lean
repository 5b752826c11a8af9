def zRw (d o : Nat) (Mz : zMem) : Nat → Int := fun j => ze Mz (d + o) j
theorem zRw_w {d o : Nat} {Mz Nz : zMem} {t v : Int} (h : Nz = zsI Mz (d + o) t.toNat (Int32.ofInt v)) (hv : zn32 v) : ∀ j, zRw d o Nz j = zst (zRw d o Mz) t.toNat v j := fun j => by
  unfold zst zRw
  by_cases g : j = t.toNat
  · rw [if_pos g, g]
    exact zs_get h hv
  · rw [if_neg g]
    exact zs_oth h g
def zGc (mv : List Nat) (P : Nat) (T : zGT) (d : Nat) (Mz : zMem) : Prop := gTb mv (zCo P d Mz) T ∧ ze Mz (d + 1) 7 = (gN T : Int) ∧ ∀ i, i < gN T → zkv P (ze Mz (d + 5) i)
def zTt (T : zGT) (d : Nat) (Mz : zMem) : Prop := ze Mz (d + 1) 7 = (gN T : Int) ∧ (∀ x y, x < gN T → y < gN T → ze Mz (d + 7) (24 * x + y) = ((gm T x y : Nat) : Int)) ∧ ∀ x, x < gN T → ze Mz (d + 9) x = ((gi T x : Nat) : Int)
def zPkK (T : zGT) (d : Nat) (Mz : zMem) (a b : Int) : Prop := (∀ x y : Nat, x < gN T → y < gN T → ((x : Int) < a ∨ ((x : Int) = a ∧ (y : Int) < b)) → ze Mz (d + 7) (24 * x + y) = ((gm T x y : Nat) : Int)) ∧ ∀ x : Nat, x < gN T → (x : Int) < a → ze Mz (d + 9) x = ((gi T x : Nat) : Int)
def zPv (T : zGT) (d : Nat) (Mz : zMem) (a b : Int) : Prop := (∀ y : Nat, (y : Int) < b → gm T a.toNat y ≠ 0) ∨ ze Mz (d + 9) a.toNat = ((gup (giF T a.toNat) 0 b.toNat : Nat) : Int)
section ZKQ
variable {d P : Nat} {T : zGT} {mv : List Nat} {FA : List (Nat × Nat)} {CA : List Nat} {FR : List (Nat × Nat)} {CR : List Nat} {Mz Nz : zMem} {a b : Int}
theorem zGc.fr (_ : zKW d Mz) (hf : zFc d FA CA FR CR Mz Nz) (h : zGc mv P T d Mz) (hd : (1 < 38 ∧ 1 ∉ CR ∧ (1, 7) ∉ FR) ∧ 5 < 38 ∧ 5 ∉ CR ∧ ∀ x ∈ FR, x.1 ≠ 5) : zGc mv P T d Nz := by
  have e : zCo P d Nz = zCo P d Mz := funext fun i => by
    unfold zCo
    rw [hf.r hd.2]
  unfold zGc
  rw [hf.e hd.1, e]
  exact ⟨h.1, h.2.1, fun i hi => by rw [hf.r hd.2]; exact h.2.2 i hi⟩
theorem zTt.fr (_ : zKW d Mz) (hf : zFc d FA CA FR CR Mz Nz) (h : zTt T d Mz) (hd : (1 < 38 ∧ 1 ∉ CR ∧ (1, 7) ∉ FR) ∧ (7 < 38 ∧ 7 ∉ CR ∧ ∀ x ∈ FR, x.1 ≠ 7) ∧ 9 < 38 ∧ 9 ∉ CR ∧ ∀ x ∈ FR, x.1 ≠ 9) : zTt T d Nz := by
  unfold zTt
  rw [hf.e hd.1]
  exact ⟨h.1, fun x y hx hy => by rw [hf.r hd.2.1]; exact h.2.1 x y hx hy, fun x hx => by rw [hf.r hd.2.2]; exact h.2.2 x hx⟩
theorem zGg.s (h : zGg mv P d Mz) : zSoK (fun x => x) (zRw d 5 Mz) (zRw d 5 Mz) (ze Mz (d + 1) 7).toNat 1 := by
  obtain ⟨h1, h2, h3, h4, h5⟩ := h
  have key : ∀ i j : Nat, i < j → (j : Int) < ze Mz (d + 1) 7 → ze Mz (d + 5) i ≠ ze Mz (d + 5) j := fun i j hij hj e => h4 i j hij hj (by unfold zCo; rw [e])
  refine zSo_0 (fun a b ha hb hab => ?_)
  rcases Nat.lt_or_ge a b with g | g
  · exact key a b g (by omega)
  · exact fun e => key b a (by omega) (by omega) e.symm
theorem zGg.t (h : zGg mv P d Mz) (hp : ∀ g ∈ mv, gpm g) {i : Nat} (hs : zSoK (fun x => x) (zRw d 5 Mz) (zRw d 5 Nz) (ze Mz (d + 1) 7).toNat i) (hi : (ze Mz (d + 1) 7).toNat ≤ i) (h7 : ze Nz (d + 1) 7 = ze Mz (d + 1) 7) : ∃ T, zGc mv P T d Nz := by
  obtain ⟨h1, h2, h3, h4, h5⟩ := h
  obtain ⟨a1, a2, a3⟩ := hs
  have hv : ∀ j : Nat, (j : Int) < ze Mz (d + 1) 7 → zkv P (ze Nz (d + 5) j) := fun j hj => by
    obtain ⟨k, hk, e⟩ := (a1 (ze Nz (d + 5) j)).mp ⟨j, by omega, rfl⟩
    have e' : ze Mz (d + 5) k = ze Nz (d + 5) j := e
    rw [← e']
    exact h1 k (by omega)
  have hset : ∀ x, gGen mv x ↔ ∃ j, j < (ze Mz (d + 1) 7).toNat ∧ zCo P d Nz j = x := fun x => by
    rw [h3 x]
    constructor
    · rintro ⟨k, hk, rfl⟩
      obtain ⟨j, hj, e⟩ := (a1 (ze Mz (d + 5) k)).mpr ⟨k, by omega, rfl⟩
      have e' : ze Nz (d + 5) j = ze Mz (d + 5) k := e
      exact ⟨j, hj, by unfold zCo; rw [e']⟩
    · rintro ⟨j, hj, rfl⟩
      obtain ⟨k, hk, e⟩ := (a1 (ze Nz (d + 5) j)).mp ⟨j, hj, rfl⟩
      have e' : ze Mz (d + 5) k = ze Nz (d + 5) j := e
      exact ⟨k, by omega, by unfold zCo; rw [e']⟩
  obtain ⟨T, hT, hn⟩ := gTb_i hp h5 hset (fun x y hxy hy => by
    have := a3 x y hxy (by omega)
    unfold zCo
    exact (zkc_l (hv x (by omega)).1 (hv y (by omega)).1).mpr this)
  exact ⟨T, hT, by omega, fun j hj => hv j (by omega)⟩
theorem zGc.v (h : zGc mv P T d Mz) (hP : P ≤ 6) (ha : 0 ≤ a ∧ a < ze Mz (d + 1) 7) (hb : 0 ≤ b ∧ b < ze Mz (d + 1) 7) {x y z v : Int} (hy : y = ze Mz (d + 5) a.toNat) (hz : z = ze Mz (d + 5) b.toNat) (hx : x = ((zbe P y z : Nat) : Int)) : (0 ≤ v → v < ze Mz (d + 1) 7 → ze Mz (d + 5) v.toNat = x → v = ((gm T a.toNat b.toNat : Nat) : Int)) ∧ ¬ ∀ i : Nat, (i : Int) < ze Mz (d + 1) 7 → ze Mz (d + 5) i ≠ x := by
  obtain ⟨⟨a1, a2, a3, a4, a5⟩, h7, hk⟩ := h
  obtain ⟨p1, p2⟩ := a4 a.toNat b.toNat (by omega) (by omega)
  have ka := hk a.toNat (by omega)
  have kb := hk b.toNat (by omega)
  rw [← hy] at ka
  rw [← hz] at kb
  have e : zkc P x = zCo P d Mz (gm T a.toNat b.toNat) := by
    rw [p2, hx, zbe_c hP ka kb, hy, hz]
    rfl
  have x0 : 0 ≤ x := by omega
  have em : ze Mz (d + 5) (gm T a.toNat b.toNat) = x := ((zkc_i (hk _ p1).1 x0).mp e.symm)
  refine ⟨fun v0 v1 hv => ?_, fun hn => hn _ (by omega) em⟩
  have e2 : zCo P d Mz v.toNat = zCo P d Mz (gm T a.toNat b.toNat) := by
    unfold zCo
    rw [hv, em]
  rcases Nat.lt_trichotomy v.toNat (gm T a.toNat b.toNat) with g | g | g
  · have := a3 _ _ g p1
    omega
  · omega
  · have := a3 _ _ g (by omega)
    omega
theorem zPkK_0 : zPkK T d Mz 0 0 := ⟨fun x y _ _ h => absurd h (by omega), fun x _ h => absurd h (by omega)⟩
theorem zPv_0 : zPv T d Mz a 0 := Or.inl (fun y h => absurd h (by omega))
theorem zPk_s {v : Int} (h24 : gN T ≤ 24) (a0 : 0 ≤ a) (b0 : 0 ≤ b) (bn : b < (gN T : Int)) (an : a < (gN T : Int)) (h : zPkK T d Mz a b) (hu : zPv T d Mz a b) (hv : v = ((gm T a.toNat b.toNat : Nat) : Int)) (v1 : v < 24) (hN : Nz = zsI Mz (d + 7) (a * 24 + b).toNat (Int32.ofInt v)) (h9 : ∀ j : Nat, ze Nz (d + 9) j = ze Mz (d + 9) j) : zPkK T d Nz a (b + 1) ∧ zPv T d Nz a b := by
  refine ⟨⟨fun x y hx hy hd => ?_, fun x hx hxa => ?_⟩, ?_⟩
  · by_cases g : (x : Int) = a ∧ (y : Int) = b
    · rw [show 24 * x + y = (a * 24 + b).toNat by omega, zs_get hN ⟨by omega, by omega⟩, hv, show a.toNat = x by omega, show b.toNat = y by omega]
    · rw [zs_oth hN (by omega)]
      exact h.1 x y hx hy (by omega)
  · rw [h9]
    exact h.2 x hx hxa
  · unfold zPv
    rw [h9]
    exact hu
theorem zPv_n (b0 : 0 ≤ b) (hu : zPv T d Mz a b) (hz : gm T a.toNat b.toNat ≠ 0) : zPv T d Mz a (b + 1) := by
  unfold zPv at hu ⊢
  rw [show (b + 1).toNat = b.toNat + 1 by omega]
  rcases hu with h | h
  · refine Or.inl (fun y hy => ?_)
    by_cases g : (y : Int) = b
    · rw [show y = b.toNat by omega]
      exact hz
    · exact h y (by omega)
  · refine Or.inr ?_
    show _ = ((giF T a.toNat b.toNat (gup (giF T a.toNat) 0 b.toNat) : Nat) : Int)
    unfold giF at h ⊢
    rw [if_neg hz]
    exact h
theorem zPv_s (h24 : gN T ≤ 24) (a0 : 0 ≤ a) (b0 : 0 ≤ b) (b1 : b < 24) (h : zPkK T d Mz a (b + 1)) (hz : gm T a.toNat b.toNat = 0) (hN : Nz = zsI Mz (d + 9) a.toNat (Int32.ofInt b)) (h7 : ∀ j : Nat, ze Nz (d + 7) j = ze Mz (d + 7) j) : zPkK T d Nz a (b + 1) ∧ zPv T d Nz a (b + 1) := by
  refine ⟨⟨fun x y hx hy hd => by rw [h7]; exact h.1 x y hx hy hd, fun x hx hxa => ?_⟩, Or.inr ?_⟩
  · rw [zs_oth hN (by omega)]
    exact h.2 x hx hxa
  · rw [zs_get hN ⟨by omega, by omega⟩, show (b + 1).toNat = b.toNat + 1 by omega]
    show _ = ((giF T a.toNat b.toNat (gup (giF T a.toNat) 0 b.toNat) : Nat) : Int)
    unfold giF
    rw [if_pos hz]
    omega
theorem zPk_n (hi : ∀ x, x < gN T → gi T x < gN T ∧ gm T x (gi T x) = 0) (a0 : 0 ≤ a) (an : a < (gN T : Int)) (h : zPkK T d Mz a b) (hu : zPv T d Mz a b) (hb : b = (gN T : Int)) : zPkK T d Mz (a + 1) 0 := by
  refine ⟨fun x y hx hy hd => h.1 x y hx hy (by omega), fun x hx hxa => ?_⟩
  by_cases g : (x : Int) = a
  · have e : a.toNat = x := by omega
    unfold zPv at hu
    rw [e] at hu
    rcases hu with hu | hu
    · have := hi x hx
      exact absurd this.2 (hu _ (by omega))
    · rw [hu, hb, Int.toNat_natCast]
      rfl
  · exact h.2 x hx (by omega)
theorem zPk_e (h7 : ze Mz (d + 1) 7 = (gN T : Int)) (h : zPkK T d Mz a 0) (ha : (gN T : Int) ≤ a) : zTt T d Mz := ⟨h7, fun x y hx hy => h.1 x y hx hy (by omega), fun x hx => h.2 x hx (by omega)⟩
end ZKQ
