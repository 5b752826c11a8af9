theorem gdg_lt (c p : Nat) : gdg c p < 8 := Nat.mod_lt _ (by decide)
theorem gdg_c {d0 d1 d2 d3 d4 d5 : Nat} (h0 : d0 < 8) (h1 : d1 < 8) (h2 : d2 < 8) (h3 : d3 < 8) (h4 : d4 < 8) (h5 : d5 < 8) : gdg (d0 * 32768 + d1 * 4096 + d2 * 512 + d3 * 64 + d4 * 8 + d5) 0 = d0 ∧ gdg (d0 * 32768 + d1 * 4096 + d2 * 512 + d3 * 64 + d4 * 8 + d5) 1 = d1 ∧ gdg (d0 * 32768 + d1 * 4096 + d2 * 512 + d3 * 64 + d4 * 8 + d5) 2 = d2 ∧ gdg (d0 * 32768 + d1 * 4096 + d2 * 512 + d3 * 64 + d4 * 8 + d5) 3 = d3 ∧ gdg (d0 * 32768 + d1 * 4096 + d2 * 512 + d3 * 64 + d4 * 8 + d5) 4 = d4 ∧ gdg (d0 * 32768 + d1 * 4096 + d2 * 512 + d3 * 64 + d4 * 8 + d5) 5 = d5 := by
  unfold gdg
  simp only [Nat.shiftRight_eq_div_pow]
  refine ⟨?_, ?_, ?_, ?_, ?_, ?_⟩ <;> omega
theorem gsix {P : Nat → Prop} (h0 : P 0) (h1 : P 1) (h2 : P 2) (h3 : P 3) (h4 : P 4) (h5 : P 5) : ∀ p, p < 6 → P p := by
  intro p hp
  match p, hp with
  | 0, _ => exact h0
  | 1, _ => exact h1
  | 2, _ => exact h2
  | 3, _ => exact h3
  | 4, _ => exact h4
  | 5, _ => exact h5
def gmkc (d : Nat → Nat) : Nat := d 0 * 32768 + d 1 * 4096 + d 2 * 512 + d 3 * 64 + d 4 * 8 + d 5
theorem gmkc_d {d : Nat → Nat} (h : ∀ p, p < 6 → d p < 8) : ∀ p, p < 6 → gdg (gmkc d) p = d p := by
  obtain ⟨a0, a1, a2, a3, a4, a5⟩ := gdg_c (h 0 (by omega)) (h 1 (by omega)) (h 2 (by omega)) (h 3 (by omega)) (h 4 (by omega)) (h 5 (by omega))
  exact gsix a0 a1 a2 a3 a4 a5
theorem gmkc_lt {d : Nat → Nat} (h : ∀ p, p < 6 → d p < 8) : gmkc d < 262144 := by
  have h0 := h 0 (by omega)
  have h1 := h 1 (by omega)
  have h2 := h 2 (by omega)
  have h3 := h 3 (by omega)
  have h4 := h 4 (by omega)
  have h5 := h 5 (by omega)
  unfold gmkc
  omega
theorem gmkc_e {c : Nat} (h : c < 262144) : gmkc (gdg c) = c := by
  unfold gmkc gdg
  simp only [Nat.shiftRight_eq_div_pow]
  omega
theorem gmkc_c {d e : Nat → Nat} (h : ∀ p, p < 6 → d p = e p) : gmkc d = gmkc e := by
  unfold gmkc
  rw [h 0 (by omega), h 1 (by omega), h 2 (by omega), h 3 (by omega), h 4 (by omega), h 5 (by omega)]
theorem gext {a b : Nat} (ha : a < 262144) (hb : b < 262144) (h : ∀ p, p < 6 → gdg a p = gdg b p) : a = b := by
  rw [← gmkc_e ha, ← gmkc_e hb]
  exact gmkc_c h
theorem gco_m (a b : Nat) : gco a b = gmkc (fun p => gdg b (gdg a p)) := rfl
theorem gco_d (a b : Nat) : ∀ p, p < 6 → gdg (gco a b) p = gdg b (gdg a p) := by
  rw [gco_m]
  exact gmkc_d (fun p _ => gdg_lt _ _)
theorem gco_lt (a b : Nat) : gco a b < 262144 := gmkc_lt (d := fun p => gdg b (gdg a p)) (fun p _ => gdg_lt _ _)
theorem gpm.co {a b : Nat} (ha : gpm a) (hb : gpm b) : gpm (gco a b) := by
  refine ⟨gco_lt a b, fun p hp => ?_, fun p q hp hq h => ?_⟩
  · rw [gco_d a b p hp]; exact hb.2.1 _ (ha.2.1 p hp)
  · rw [gco_d a b p hp, gco_d a b q hq] at h
    exact ha.2.2 p q hp hq (hb.2.2 _ _ (ha.2.1 p hp) (ha.2.1 q hq) h)
theorem gco_as {a : Nat} (ha : gpm a) (b c : Nat) : gco (gco a b) c = gco a (gco b c) := by
  refine gext (gco_lt _ _) (gco_lt _ _) (fun p hp => ?_)
  rw [gco_d _ _ p hp, gco_d _ _ p hp, gco_d _ _ p hp, gco_d _ _ _ (ha.2.1 p hp)]
theorem gid_d : ∀ p, p < 6 → gdg gid p = p := gsix rfl rfl rfl rfl rfl rfl
theorem gid_pm : gpm gid := ⟨by decide, fun p hp => by rw [gid_d p hp]; exact hp, fun p q hp hq h => by rwa [gid_d p hp, gid_d q hq] at h⟩
theorem gco_1 {a : Nat} (ha : a < 262144) : gco gid a = a := gext (gco_lt _ _) ha (fun p hp => by rw [gco_d _ _ p hp, gid_d p hp])
theorem gco_2 {a : Nat} (ha : gpm a) : gco a gid = a := gext (gco_lt _ _) ha.1 (fun p hp => by rw [gco_d _ _ p hp, gid_d _ (ha.2.1 p hp)])
def gfix (P : Nat) (c : Nat) : Prop := ∀ p, P ≤ p → p < 6 → gdg c p = p
theorem gfix.co {P a b : Nat} (ha : gfix P a) (hb : gfix P b) : gfix P (gco a b) := fun p h1 h2 => by rw [gco_d _ _ p h2, ha p h1 h2, hb p h1 h2]
theorem gfix_lt {P c : Nat} (hp : gpm c) (hf : gfix P c) {p : Nat} (h : p < P) (h6 : p < 6) : gdg c p < P := by
  rcases Nat.lt_or_ge (gdg c p) P with g | g
  · exact g
  · have h1 := hp.2.1 p h6
    have h2 := hf _ g h1
    have := hp.2.2 _ _ h1 h6 h2
    omega
def gGen (gs : List Nat) (x : Nat) : Prop := ∀ C : Nat → Prop, C gid → (∀ c g, C c → g ∈ gs → C (gco c g)) → C x
theorem gGen.id (gs : List Nat) : gGen gs gid := fun _ h _ => h
theorem gGen.g {gs : List Nat} {x g : Nat} (h : gGen gs x) (hg : g ∈ gs) : gGen gs (gco x g) := fun C h0 hC => hC x g (h C h0 hC) hg
theorem gGen.pm {gs : List Nat} (hgs : ∀ g ∈ gs, gpm g) {x : Nat} (h : gGen gs x) : gpm x := h gpm gid_pm (fun _ _ hc hg => hc.co (hgs _ hg))
theorem gGen.fix {gs : List Nat} {P : Nat} (hgs : ∀ g ∈ gs, gfix P g) {x : Nat} (h : gGen gs x) : gfix P x := h (gfix P) (fun p _ h2 => gid_d p h2) (fun _ _ hc hg => hc.co (hgs _ hg))
theorem gGen.mul {gs : List Nat} (hgs : ∀ g ∈ gs, gpm g) {x y : Nat} (hx : gGen gs x) (hy : gGen gs y) : gGen gs (gco x y) := by
  have hxp := hx.pm hgs
  refine hy (fun y => gGen gs (gco x y)) ?_ (fun c g hc hg => ?_)
  · show gGen gs (gco x gid)
    rw [gco_2 hxp]
    exact hx
  · show gGen gs (gco x (gco c g))
    rw [← gco_as hxp]
    exact hc.g hg
