def zr96 (M : zMem) : Nat → Int := fun k => zg M 96 k
theorem zr96_f {S C : List Nat} {M N : zMem} (h : zFr S C M N) (hc : 96 ∉ C) : zr96 N = zr96 M := funext fun k => h.jg (by decide) hc k
def zr95 (M : zMem) : Nat → Int := fun k => zg M 95 k
theorem zr95_f {S C : List Nat} {M N : zMem} (h : zFr S C M N) (hc : 95 ∉ C) : zr95 N = zr95 M := funext fun k => h.jg (by decide) hc k
def zr97 (M : zMem) : Nat → Int := fun k => zg M 97 k
theorem zr97_f {S C : List Nat} {M N : zMem} (h : zFr S C M N) (hc : 97 ∉ C) : zr97 N = zr97 M := funext fun k => h.jg (by decide) hc k
def zFtR (F : Nat) (K : Nat → Nat → Int) (M : zMem) : Prop := ze M 81 39 = 0 → ∀ t : Int, 0 ≤ t → t < ze M 81 38 → zfit F K (zrw F M 95 (64 * t))
section ZR3
variable {F : Nat} {K : Nat → Nat → Int} {M N N1 N2 N3 N4 N5 N6 : zMem} {v w x : Nat → Int} {e : Int}
theorem zmq_x {u : Nat → Int} {y : Int} {k : Nat} (hf : zfit F K u) (hk : k < F) (hy : zn64 y) (h : Int64.ofInt y = Int64.ofInt (zmq F K u k)) : y = zmq F K u k := by
  have h1 := hf k hk
  unfold zLim at h1
  exact z64q hy ⟨by omega, by omega⟩ h
theorem zTw (hA : zTA F K) (e0 : 0 ≤ e) (hf : ze M 81 39 = 0 → zfit F K v ∧ zfit F K w) (hm1 : ∀ k : Nat, k < F → Int64.ofInt (zg N2 96 k) = Int64.ofInt (zmq F K v k)) (hm2 : ∀ k : Nat, k < F → Int64.ofInt (zg N2 97 k) = Int64.ofInt (zmq F K w k)) (h2 : ze N2 81 39 = ze M 81 39) (hmu : zMuI F N2 N3 F) (h496 : ∀ k : Nat, zg N4 96 k = zg N3 96 k) (h495 : ∀ k : Nat, zg N4 95 k = zg M 95 k) (h439 : ze N4 81 39 = ze N3 81 39) (hnum : zNumR F K N4 N5 e) (h539 : ze N5 81 39 = ze N4 81 39) (hlk : zLkd F K e N5 N6) : zAcc F e (zprd F K v w) (zmok F K v w ∧ zfit F K (zprd F K v w)) M N6 := by
  obtain ⟨m1, m2, m3⟩ := hmu
  have hp := zprd_s hA v w
  have hlow : ∀ y : Nat, (y : Int) < e → zg N6 95 y = zg M 95 y := fun y hy => by
    have a1 : zg N6 95 y = zg N5 95 y := by
      rcases hlk with ⟨k1, -, -⟩ | ⟨k1, -, -⟩
      · exact k1 y
      · exact k1 y (by omega)
    rw [a1, hnum.1 y (by omega), h495]
  refine ⟨?_, hlow, fun hM => ?_⟩
  · rcases hlk with ⟨-, k2, -⟩ | ⟨-, k2, -⟩ <;> (clear m3; omega)
  · obtain ⟨fv, fw⟩ := hf hM
    have hx1 : ∀ k : Nat, k < F → zg N2 96 k = zmq F K v k := fun k hk => zmq_x fv hk (zg_r _ _ _) (hm1 k hk)
    have hx2 : ∀ k : Nat, k < F → zg N2 97 k = zmq F K w k := fun k hk => zmq_x fw hk (zg_r _ _ _) (hm2 k hk)
    rcases m3 (by omega) with ⟨a1, a2, a3⟩ | ⟨⟨k, a1, a2⟩, a3⟩
    · have hok : zmok F K v w := fun j hj => by
        have := a1 j (by omega)
        rw [hx1 j hj, hx2 j hj] at this
        exact this
      have hsv : zsvR F K N4 (zprd F K v w) := ⟨fun j hj => by rw [h496, a3 j (by omega), hx1 j hj, hx2 j hj, hp.2 j hj], hA.2.2.2.2.2.1 _ (fun j hj => by rw [hp.2 j hj]; exact hok j hj)⟩
      have h5 : zrw F N5 95 e = zprd F K v w := zrw_v (hnum.2 _ hsv) hp.1
      have hbd := zprd_bd hA hok
      rcases hlk with ⟨k1, k2, k3⟩ | ⟨k1, k2, k3⟩
      · rw [h5] at k3
        refine Or.inl ⟨⟨hok, k3 hbd⟩, by omega, ?_⟩
        rw [← h5]
        exact zrw_c (fun k _ => k1 _)
      · rw [h5] at k3
        exact Or.inr ⟨fun q => k3 hbd q.2, k2⟩
    · refine Or.inr ⟨fun q => a2 ?_, ?_⟩
      · rw [hx1 k (by omega), hx2 k (by omega)]
        exact q.1 k (by omega)
      · rcases hlk with ⟨-, k2, -⟩ | ⟨-, k2, -⟩ <;> omega
theorem zTad {s : Int} (hs : s = 1 ∨ s = -1) (hf : ze M 81 39 = 0 → zfit F K v ∧ zfit F K w) (h : ∀ k : Nat, k < F → Int64.ofInt (zg N 95 (e.toNat + k)) = Int64.ofInt (v k + s * w k)) (hv : ∀ k, F ≤ k → v k = 0) (hw : ∀ k, F ≤ k → w k = 0) : ze M 81 39 = 0 → zrw F N 95 e = (fun k => v k + s * w k) ∧ zbd F K (fun k => v k + s * w k) := fun hM => by
  obtain ⟨fv, fw⟩ := hf hM
  refine ⟨zrw_v (fun k hk => ?_) (fun k hk => by show v k + s * w k = 0; rw [hv k hk, hw k hk, Int.mul_zero]; rfl), zadd_bd hs fv fw⟩
  have h1 := (fv k hk).1
  have h2 := (fw k hk).1
  unfold zLim at h1 h2
  have hsw : s * w k = w k ∨ s * w k = -w k := by
    rcases hs with rfl | rfl
    · exact Or.inl (Int.one_mul _)
    · exact Or.inr (Int.neg_one_mul _)
  exact z64q (zg_r _ _ _) ⟨by omega, by omega⟩ (h k hk)
theorem zTng (hf : zfit F K v) (h : ∀ k : Nat, k < F → Int64.ofInt (zg N 95 (e.toNat + k)) = Int64.ofInt (-(v k))) (hv : ∀ k, F ≤ k → v k = 0) : zrw F N 95 e = fun k => -(v k) :=
  zrw_v (fun k hk => by
    have h1 := (hf k hk).1
    unfold zLim at h1
    exact z64q (zg_r _ _ _) ⟨by omega, by omega⟩ (h k hk)) (fun k hk => by show -(v k) = 0; rw [hv k hk]; rfl)
def zPwR (F : Nat) (K : Nat → Nat → Int) (x : Nat → Int) (e : Int) (M N : zMem) (k : Int) : Prop := (ze N 81 39 = ze M 81 39 ∨ ze N 81 39 = 1) ∧ (∀ y : Nat, (y : Int) < e → zg N 95 y = zg M 95 y) ∧ (ze M 81 39 = 0 → ((∀ j : Nat, j < F → zg N 97 j = zmq F K x j) ∧ ((∃ u, zpw F K x k.toNat = some u ∧ ze N 81 39 = 0 ∧ zfit F K u ∧ (∀ j, F ≤ j → u j = 0) ∧ (∀ j : Nat, j < F → zg N 96 j = zmq F K u j) ∧ (1 ≤ k → zrw F N 95 e = u)) ∨ (zpw F K x k.toNat = none ∧ ze N 81 39 = 1))))
theorem zPwR_0 (hA : zTA F K) (h39 : ze N 81 39 = ze M 81 39) (h95 : ∀ y : Nat, zg N 95 y = zg M 95 y) (hf : ze M 81 39 = 0 → zfit F K x) (h97 : ∀ j : Nat, j < F → Int64.ofInt (zg N 97 j) = Int64.ofInt (zmq F K x j)) (h96 : ∀ j : Nat, j < F → zg N 96 j = 1) : zPwR F K x e M N 0 := by
  have hF := hA.1
  refine ⟨Or.inl h39, fun y _ => h95 y, fun hM => ⟨fun j hj => zmq_x (hf hM) hj (zg_r _ _ _) (h97 j hj), Or.inl ⟨zone ((F : Int) - 1) 1, rfl, by omega, zone_fit hA (by omega) (by omega) (by omega) (by omega), fun j hj => ?_, fun j hj => ?_, fun h => absurd h (by omega)⟩⟩⟩
  · unfold zone
    rw [if_neg (by omega)]
  · rw [h96 j hj, zone_mq (by omega) (by omega), Int.one_mul, show ((F : Int) - 1).toNat = F - 1 by omega]
    exact (hA.2.2.2.2.2.2 j hj).symm
theorem zPwR_b {k : Int} (h : zPwR F K x e M N k) (hf : ze M 81 39 = 0 → zfit F K x) (hN : ze N 81 39 = 0) (h1 : ze N 81 39 = ze M 81 39 → ze M 81 39 = 0) : ∀ j : Nat, j < F → zIn (zg N 96 j) ∧ zIn (zg N 97 j) := by
  obtain ⟨a1, a2, a3⟩ := h
  have hM : ze M 81 39 = 0 := by omega
  obtain ⟨b1, b2⟩ := a3 hM
  rcases b2 with ⟨u, c1, c2, c3, c4, c5, c6⟩ | ⟨c1, c2⟩
  · intro j hj
    rw [b1 j hj, c5 j hj]
    exact ⟨(c3 j hj).2, (hf hM j hj).2⟩
  · omega
theorem zPwR_s (hA : zTA F K) {k : Int} (k0 : 0 ≤ k) (e0 : 0 ≤ e) (hf : ze M 81 39 = 0 → zfit F K x) (h : zPwR F K x e M N k) (hmu : zMuI F N N1 F) (h197 : ∀ j : Nat, zg N1 97 j = zg N 97 j) (h195 : ∀ j : Nat, zg N1 95 j = zg N 95 j) (hnum : zNumR F K N1 N2 e) (h239 : ze N2 81 39 = ze N1 81 39) (h296 : ∀ j : Nat, zg N2 96 j = zg N1 96 j) (h297 : ∀ j : Nat, zg N2 97 j = zg N1 97 j) (hlk : zLkd F K e N2 N3) (h396 : ∀ j : Nat, zg N3 96 j = zg N2 96 j) (h397 : ∀ j : Nat, zg N3 97 j = zg N2 97 j) : zPwR F K x e M N3 (k + 1) := by
  obtain ⟨a1, a2, a3⟩ := h
  obtain ⟨m1, m2, m3⟩ := hmu
  have hz : zpw F K x (k + 1).toNat = (match zpw F K x k.toNat with | none => none | some v => zif (zmok F K v x ∧ zfit F K (zprd F K v x)) (some (zprd F K v x)) none) := by
    rw [show (k + 1).toNat = k.toNat + 1 by omega]
    rfl
  refine ⟨?_, fun y hy => ?_, fun hM => ?_⟩
  · rcases hlk with ⟨-, k2, -⟩ | ⟨-, k2, -⟩ <;> (clear m3; omega)
  · have b1 : zg N3 95 y = zg N2 95 y := by
      rcases hlk with ⟨k1, -, -⟩ | ⟨k1, -, -⟩
      · exact k1 y
      · exact k1 y (by omega)
    rw [b1, hnum.1 y (by omega), h195, a2 y hy]
  · obtain ⟨b1, b2⟩ := a3 hM
    have hx := hf hM
    refine ⟨fun j hj => by rw [h397, h297, h197, b1 j hj], ?_⟩
    rcases b2 with ⟨u, c1, c2, c3, c4, c5, c6⟩ | ⟨c1, c2⟩
    · rw [hz, c1]
      have hp := zprd_s hA u x
      rcases m3 c2 with ⟨d1, d2, d3⟩ | ⟨⟨q, d1, d2⟩, d3⟩
      · have hok : zmok F K u x := fun j hj => by
          have := d1 j (by omega)
          rw [c5 j hj, b1 j hj] at this
          exact this
        have h96 : ∀ j : Nat, j < F → zg N1 96 j = zmq F K (zprd F K u x) j := fun j hj => by rw [d3 j (by omega), c5 j hj, b1 j hj, hp.2 j hj]
        have hsv : zsvR F K N1 (zprd F K u x) := ⟨h96, hA.2.2.2.2.2.1 _ (fun j hj => by rw [hp.2 j hj]; exact hok j hj)⟩
        have h5 : zrw F N2 95 e = zprd F K u x := zrw_v (hnum.2 _ hsv) hp.1
        have hbd := zprd_bd hA hok
        rcases hlk with ⟨k1, k2, k3⟩ | ⟨k1, k2, k3⟩
        · rw [h5] at k3
          refine Or.inl ⟨zprd F K u x, zif_t ⟨hok, k3 hbd⟩, by omega, k3 hbd, hp.1, fun j hj => by rw [h396, h296, h96 j hj], fun _ => ?_⟩
          rw [← h5]
          exact zrw_c (fun k _ => k1 _)
        · rw [h5] at k3
          exact Or.inr ⟨zif_f (fun q => k3 hbd q.2), k2⟩
      · refine Or.inr ⟨zif_f (fun z => d2 ?_), ?_⟩
        · rw [c5 q (by omega), b1 q (by omega)]
          exact z.1 q (by omega)
        · rcases hlk with ⟨-, k2, -⟩ | ⟨-, k2, -⟩ <;> omega
    · rw [hz, c1]
      refine Or.inr ⟨rfl, ?_⟩
      rcases hlk with ⟨-, k2, -⟩ | ⟨-, k2, -⟩ <;> (clear m3; omega)
def zPwE (F : Nat) (K : Nat → Nat → Int) (x : Nat → Int) (e : Int) (M N : zMem) (k : Int) : Prop := (ze N 81 39 = ze M 81 39 ∨ ze N 81 39 = 1) ∧ (∀ y : Nat, (y : Int) < e → zg N 95 y = zg M 95 y) ∧ (ze M 81 39 = 0 → ((∃ u, zpw F K x k.toNat = some u ∧ ze N 81 39 = 0 ∧ zfit F K u ∧ zrw F N 95 e = u) ∨ (zpw F K x k.toNat = none ∧ ze N 81 39 = 1)))
theorem zPwE_1 {k : Int} (h : zPwR F K x e M N k) (hk : 1 ≤ k) : zPwE F K x e M N k := by
  obtain ⟨a1, a2, a3⟩ := h
  refine ⟨a1, a2, fun hM => ?_⟩
  rcases (a3 hM).2 with ⟨u, c1, c2, c3, c4, c5, c6⟩ | c
  · exact Or.inl ⟨u, c1, c2, c3, c6 hk⟩
  · exact Or.inr c
theorem zPwE_0 (hA : zTA F K) (e0 : 0 ≤ e) (h : zPwR F K x e M N 0) (hnum : zNumR F K N N1 e) (h39 : ze N1 81 39 = ze N 81 39) : zPwE F K x e M N1 0 := by
  obtain ⟨a1, a2, a3⟩ := h
  refine ⟨by omega, fun y hy => by rw [hnum.1 y (by omega)]; exact a2 y hy, fun hM => ?_⟩
  rcases (a3 hM).2 with ⟨u, c1, c2, c3, c4, c5, c6⟩ | ⟨c1, c2⟩
  · have hsv : zsvR F K N u := ⟨c5, hA.2.2.2.2.2.1 _ (fun j hj => (c3 j hj).2)⟩
    exact Or.inl ⟨u, c1, by omega, c3, zrw_v (hnum.2 _ hsv) c4⟩
  · exact Or.inr ⟨c1, by omega⟩
end ZR3
