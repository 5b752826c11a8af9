theorem gdg_lt (c p : Nat) : gdg c p < 8 := Nat.mod_lt _ (by decide)
theorem gdg_c {d0 d1 d2 d3 d4 d5 : Nat} (h0 : d0 < 8) (h1 : d1 < 8) (h2 : d2 < 8) (h3 : d3 < 8) (h4 : d4 < 8) (h5 : d5 < 8) : gdg (d0 * 32768 + d1 * 4096 + d2 * 512 + d3 * 64 + d4 * 8 + d5) 0 = d0 ∧ gdg (d0 * 32768 + d1 * 4096 + d2 * 512 + d3 * 64 + d4 * 8 + d5) 1 = d1 ∧ gdg (d0 * 32768 + d1 * 4096 + d2 * 512 + d3 * 64 + d4 * 8 + d5) 2 = d2 ∧ gdg (d0 * 32768 + d1 * 4096 + d2 * 512 + d3 * 64 + d4 * 8 + d5) 3 = d3 ∧ gdg (d0 * 32768 + d1 * 4096 + d2 * 512 + d3 * 64 + d4 * 8 + d5) 4 = d4 ∧ gdg (d0 * 32768 + d1 * 4096 + d2 * 512 + d3 * 64 + d4 * 8 + d5) 5 = d5 := by
  unfold gdg
  simp only [Nat.shiftRight_eq_div_pow]
  refine ⟨?_, ?_, ?_, ?_, ?_, ?_⟩ <;> omega
theorem gsix {P : Nat → Prop} (h0 : P 0) (h1 : P 1) (h2 : P 2) (h3 : P 3) (h4 : P 4) (h5 : P 5) : ∀ p, p < 6 → P p := by
  intro p hp
  match p, hp with
  | 0, _ => exact h0
  | 1, _ => exact h1
  | 2, _ => exact h2
  | 3, _ => exact h3
  | 4, _ => exact h4
  | 5, _ => exact h5
def gmkc (d : Nat → Nat) : Nat := d 0 * 32768 + d 1 * 4096 + d 2 * 512 + d 3 * 64 + d 4 * 8 + d 5
theorem gmkc_d {d : Nat → Nat} (h : ∀ p, p < 6 → d p < 8) : ∀ p, p < 6 → gdg (gmkc d) p = d p := by
  obtain ⟨a0, a1, a2, a3, a4, a5⟩ := gdg_c (h 0 (by omega)) (h 1 (by omega)) (h 2 (by omega)) (h 3 (by omega)) (h 4 (by omega)) (h 5 (by omega))
  exact gsix a0 a1 a2 a3 a4 a5
theorem gmkc_lt {d : Nat → Nat} (h : ∀ p, p < 6 → d p < 8) : gmkc d < 262144 := by
  have h0 := h 0 (by omega)
  have h1 := h 1 (by omega)
  have h2 := h 2 (by omega)
  have h3 := h 3 (by omega)
  have h4 := h 4 (by omega)
  have h5 := h 5 (by omega)
  unfold gmkc
  omega
theorem gmkc_e {c : Nat} (h : c < 262144) : gmkc (gdg c) = c := by
  unfold gmkc gdg
  simp only [Nat.shiftRight_eq_div_pow]
  omega
theorem gmkc_c {d e : Nat → Nat} (h : ∀ p, p < 6 → d p = e p) : gmkc d = gmkc e := by
  unfold gmkc
  rw [h 0 (by omega), h 1 (by omega), h 2 (by omega), h 3 (by omega), h 4 (by omega), h 5 (by omega)]
theorem gext {a b : Nat} (ha : a < 262144) (hb : b < 262144) (h : ∀ p, p < 6 → gdg a p = gdg b p) : a = b := by
  rw [← gmkc_e ha, ← gmkc_e hb]
  exact gmkc_c h
theorem gco_m (a b : Nat) : gco a b = gmkc (fun p => gdg b (gdg a p)) := rfl
theorem gco_d (a b : Nat) : ∀ p, p < 6 → gdg (gco a b) p = gdg b (gdg a p) := by
  rw [gco_m]
  exact gmkc_d (fun p _ => gdg_lt _ _)
theorem gco_lt (a b : Nat) : gco a b < 262144 := gmkc_lt (d := fun p => gdg b (gdg a p)) (fun p _ => gdg_lt _ _)
theorem gpm.co {a b : Nat} (ha : gpm a) (hb : gpm b) : gpm (gco a b) := by
  refine ⟨gco_lt a b, fun p hp => ?_, fun p q hp hq h => ?_⟩
  · rw [gco_d a b p hp]; exact hb.2.1 _ (ha.2.1 p hp)
  · rw [gco_d a b p hp, gco_d a b q hq] at h
    exact ha.2.2 p q hp hq (hb.2.2 _ _ (ha.2.1 p hp) (ha.2.1 q hq) h)
theorem gco_as {a : Nat} (ha : gpm a) (b c : Nat) : gco (gco a b) c = gco a (gco b c) := by
  refine gext (gco_lt _ _) (gco_lt _ _) (fun p hp => ?_)
  rw [gco_d _ _ p hp, gco_d _ _ p hp, gco_d _ _ p hp, gco_d _ _ _ (ha.2.1 p hp)]
theorem gid_d : ∀ p, p < 6 → gdg gid p = p := gsix rfl rfl rfl rfl rfl rfl
theorem gid_pm : gpm gid := ⟨by decide, fun p hp => by rw [gid_d p hp]; exact hp, fun p q hp hq h => by rwa [gid_d p hp, gid_d q hq] at h⟩
theorem gco_1 {a : Nat} (ha : a < 262144) : gco gid a = a := gext (gco_lt _ _) ha (fun p hp => by rw [gco_d _ _ p hp, gid_d p hp])
theorem gco_2 {a : Nat} (ha : gpm a) : gco a gid = a := gext (gco_lt _ _) ha.1 (fun p hp => by rw [gco_d _ _ p hp, gid_d _ (ha.2.1 p hp)])
def gfix (P : Nat) (c : Nat) : Prop := ∀ p, P ≤ p → p < 6 → gdg c p = p
theorem gfix.co {P a b : Nat} (ha : gfix P a) (hb : gfix P b) : gfix P (gco a b) := fun p h1 h2 => by rw [gco_d _ _ p h2, ha p h1 h2, hb p h1 h2]
theorem gfix_lt {P c : Nat} (hp : gpm c) (hf : gfix P c) {p : Nat} (h : p < P) (h6 : p < 6) : gdg c p < P := by
  rcases Nat.lt_or_ge (gdg c p) P with g | g
  · exact g
  · have h1 := hp.2.1 p h6
    have h2 := hf _ g h1
    have := hp.2.2 _ _ h1 h6 h2
    omega
def gGen (gs : List Nat) (x : Nat) : Prop := ∀ C : Nat → Prop, C gid → (∀ c g, C c → g ∈ gs → C (gco c g)) → C x
theorem gGen.id (gs : List Nat) : gGen gs gid := fun _ h _ => h
theorem gGen.g {gs : List Nat} {x g : Nat} (h : gGen gs x) (hg : g ∈ gs) : gGen gs (gco x g) := fun C h0 hC => hC x g (h C h0 hC) hg
theorem gGen.pm {gs : List Nat} (hgs : ∀ g ∈ gs, gpm g) {x : Nat} (h : gGen gs x) : gpm x := h gpm gid_pm (fun _ _ hc hg => hc.co (hgs _ hg))
theorem gGen.fix {gs : List Nat} {P : Nat} (hgs : ∀ g ∈ gs, gfix P g) {x : Nat} (h : gGen gs x) : gfix P x := h (gfix P) (fun p _ h2 => gid_d p h2) (fun _ _ hc hg => hc.co (hgs _ hg))
theorem gGen.mul {gs : List Nat} (hgs : ∀ g ∈ gs, gpm g) {x y : Nat} (hx : gGen gs x) (hy : gGen gs y) : gGen gs (gco x y) := by
  have hxp := hx.pm hgs
  refine hy (fun y => gGen gs (gco x y)) ?_ (fun c g hc hg => ?_)
  · show gGen gs (gco x gid)
    rw [gco_2 hxp]
    exact hx
  · show gGen gs (gco x (gco c g))
    rw [← gco_as hxp]
    exact hc.g hg
def zJX (T : zGT) (M : zMem) : Prop := zJ T M (ze M 81 25) ∧ zX T M (ze M 81 25) (ze M 81 25) 0
theorem zJX.fr {T : zGT} {S C : List Nat} {M N : zMem} (hf : zFr S C M N) (h : zJX T M) (hs : 25 ∉ S) (hc : 89 ∉ C) : zJX T N := by
  have e : ∀ k, ze N 89 k = ze M 89 k := fun k => hf.ie (by decide) hc k
  unfold zJX
  rw [hf.e hs]
  exact ⟨zJ.e e h.1, zX.e e h.2⟩
theorem zFirs.fr {T : zGT} {S C : List Nat} {M N : zMem} (hf : zFr S C M N) (h : zFirs T M) (hs : 26 ∉ S) (hc : 91 ∉ C) : zFirs T N := by
  unfold zFirs
  rw [hf.e hs]
  exact ⟨h.1, fun i hi => by rw [hf.ie (by decide) hc]; exact h.2 i hi⟩
theorem zFl.e {T : zGT} {S C : List Nat} {M N : zMem} {k : Int} (hf : zFr S C M N) (h : zFl T M k) (hs : 26 ∉ S) (hc : 91 ∉ C ∧ 89 ∉ C) : zFl T N k := by
  have e1 : ∀ k, ze N 91 k = ze M 91 k := fun k => hf.ie (by decide) hc.1 k
  have e2 : ∀ k, ze N 89 k = ze M 89 k := fun k => hf.ie (by decide) hc.2 k
  unfold zFl zSo
  rw [hf.e hs]
  simp only [e1, e2]
  exact h
def zSS (T : zGT) (M : zMem) (m : Int) : Prop := ∀ k : Nat, (k : Int) < m → 0 ≤ ze M 90 k ∧ ze M 90 k < ze M 81 26 ∧ ze M 91 (ze M 90 k).toNat = ((glt T (ze M 89 k).toNat : Nat) : Int)
theorem zSS.fr {T : zGT} {S C : List Nat} {M N : zMem} {m : Int} (hf : zFr S C M N) (h : zSS T M m) (hs : 26 ∉ S) (hc : 89 ∉ C ∧ 90 ∉ C ∧ 91 ∉ C) : zSS T N m := by
  intro k hk
  have := h k hk
  rw [hf.e hs, hf.ie (by decide) hc.1, hf.ie (by decide) hc.2.1, hf.ie (by decide) hc.2.2]
  exact this
theorem zSS_0 {T : zGT} {M : zMem} : zSS T M 0 := fun k hk => absurd hk (by omega)
theorem zSS_s {T : zGT} {M N : zMem} {u w v t : Int} (hu : 0 ≤ u) (h : zSS T M u) (hN : N = zsI M 90 u.toNat (Int32.ofInt w)) (w0 : 0 ≤ w) (w1 : w < ze M 81 26) (w2 : w < 64) (hv : v = ze M 89 u.toNat) (ht : t = ((glt T v.toNat : Nat) : Int)) (hw : ze M 91 w.toNat = t) : zSS T N (u + 1) := by
  have hf : zFr [] [90] M N := by rw [hN]; exact zFr.sA (by decide)
  have e1 : ∀ k, ze N 91 k = ze M 91 k := fun k => hf.ie (by decide) (by decide) k
  have e2 : ∀ k, ze N 89 k = ze M 89 k := fun k => hf.ie (by decide) (by decide) k
  have e3 : ze N 81 26 = ze M 81 26 := hf.e (by decide)
  intro k hk
  rw [e1, e2, e3]
  by_cases e : (k : Int) = u
  · rw [show k = u.toNat by omega, zs_get hN ⟨by omega, by omega⟩]
    exact ⟨w0, w1, by rw [hw, ht, hv]⟩
  · rw [zs_oth hN (by omega)]
    exact h k (by omega)
def zCs (T : zGT) (M : zMem) (i : Int) : Prop := ∀ k : Nat, (k : Int) < i → zCos T k ((gF T).getD k 0) M
def zCt (T : zGT) (M : zMem) (i x : Int) : Prop := ∀ y : Nat, (y : Int) < x → y < gN T → ze M 94 (24 * i.toNat + y) = ((gcos T ((gF T).getD i.toNat 0) y : Nat) : Int)
theorem zCs.fr {T : zGT} {S C : List Nat} {M N : zMem} {i : Int} (hf : zFr S C M N) (h : zCs T M i) (_ : True) (hc : 94 ∉ C) : zCs T N i := by
  intro k hk x hx
  rw [hf.ie (by decide) hc]
  exact h k hk x hx
theorem zCs_0 {T : zGT} {M : zMem} : zCs T M 0 := fun k hk => absurd hk (by omega)
theorem zCt_0 {T : zGT} {M : zMem} {i : Int} : zCt T M i 0 := fun k hk => absurd hk (by omega)
theorem zCt_s {T : zGT} (h24 : gN T ≤ 24) {M N : zMem} {i x v s : Int} (hi : 0 ≤ i) (hx : 0 ≤ x) (hxn : x < gN T) (h1 : zCs T M i) (h : zCt T M i x) (hs : s.toNat = (gF T).getD i.toNat 0) (hv : v = ((gcos T s.toNat x.toNat : Nat) : Int)) (hr : zn32 v) (hN : N = zsI M 94 (24 * i + x).toNat (Int32.ofInt v)) : zCs T N i ∧ zCt T N i (x + 1) := by
  refine ⟨fun k hk y hy => ?_, fun y hy hyn => ?_⟩
  · rw [zs_oth hN (by omega)]
    exact h1 k hk y hy
  · by_cases e : (y : Int) = x
    · rw [show 24 * i.toNat + y = (24 * i + x).toNat by omega, zs_get hN hr, hv, hs, show y = x.toNat by omega]
    · rw [zs_oth hN (by omega)]
      exact h y (by omega) hyn
theorem zCs_s {T : zGT} {M : zMem} {i x : Int} (hi : 0 ≤ i) (h1 : zCs T M i) (h : zCt T M i x) (hx : (gN T : Int) ≤ x) : zCs T M (i + 1) := by
  intro k hk
  by_cases e : (k : Int) = i
  · intro y hy
    have := h y (by omega) hy
    rwa [show i.toNat = k by omega] at this
  · exact h1 k (by omega)
def zMs (T : zGT) (M : zMem) (i j : Int) : Prop := ∀ k k' : Nat, ((k : Int) < i ∨ ((k : Int) = i ∧ (k' : Int) < j)) → k < (gF T).length → k' < (gF T).length → ze M 93 (64 * k + k') = ((gmk T ((gF T).getD k 0) ((gF T).getD k' 0) : Nat) : Int)
theorem zMs.fr {T : zGT} {S C : List Nat} {M N : zMem} {i j : Int} (hf : zFr S C M N) (h : zMs T M i j) (_ : True) (hc : 93 ∉ C) : zMs T N i j := by
  intro k k' h1 h2 h3
  rw [hf.ie (by decide) hc]
  exact h k k' h1 h2 h3
theorem zMs_0 {T : zGT} {M : zMem} : zMs T M 0 0 := fun k k' h => absurd h (by omega)
theorem zMs_s {T : zGT} {M N : zMem} {i j v s : Int} (hl : (gF T).length ≤ 64) (hi : 0 ≤ i) (hj : 0 ≤ j) (hj2 : j < 64) (h : zMs T M i j) (hs : s.toNat = (gF T).getD j.toNat 0) (hv : v = ((gmk T ((gF T).getD i.toNat 0) s.toNat : Nat) : Int)) (hr : zn32 v) (hN : N = zsI M 93 (64 * i + j).toNat (Int32.ofInt v)) : zMs T N i (j + 1) := by
  intro k k' h1 h2 h3
  by_cases e : (k : Int) = i ∧ (k' : Int) = j
  · obtain ⟨e1, e2⟩ := e
    rw [show 64 * k + k' = (64 * i + j).toNat by omega, zs_get hN hr, hv, hs, show i.toNat = k by omega, show j.toNat = k' by omega]
  · rw [zs_oth hN (by omega)]
    exact h k k' (by omega) h2 h3
theorem zMs_n {T : zGT} {M : zMem} {i j : Int} (h : zMs T M i j) (hj : ((gF T).length : Int) ≤ j) : zMs T M (i + 1) 0 := fun k k' h1 h2 h3 => h k k' (by omega) h2 h3
def zGB (T : zGT) (M : zMem) : Prop := zTab T M ∧ zB 85 144 0 5 M ∧ zJX T M ∧ zFirs T M ∧ zSS T M (ze M 81 25) ∧ zCs T M ((gF T).length : Int) ∧ zMs T M ((gF T).length : Int) 0
theorem zGB.fr {T : zGT} {S C : List Nat} {M N : zMem} (hf : zFr S C M N) (h : zGB T M) (hs : 20 ∉ S ∧ 25 ∉ S ∧ 26 ∉ S) (hc : 85 ∉ C ∧ 87 ∉ C ∧ 88 ∉ C ∧ 89 ∉ C ∧ 90 ∉ C ∧ 91 ∉ C ∧ 93 ∉ C ∧ 94 ∉ C) : zGB T N := by
  obtain ⟨h1, h2, h3, h4, h5, h6, h7⟩ := h
  obtain ⟨s1, s2, s3⟩ := hs
  obtain ⟨c1, c2, c3, c4, c5, c6, c7, c8⟩ := hc
  refine ⟨zTab.fr hf h1 s1 ⟨c2, c3⟩, zB.fr hf h2 (by decide) c1, zJX.fr hf h3 s2 c4, zFirs.fr hf h4 s3 c6, ?_, zCs.fr hf h6 trivial c8, zMs.fr hf h7 trivial c7⟩
  rw [hf.e s2]
  exact zSS.fr hf h5 s3 ⟨c4, c5, c6⟩
theorem gF_pos {T : zGT} (hO : gOK T) : 1 ≤ (gF T).length ∧ (gF T).length ≤ 64 := by
  refine ⟨List.length_pos_of_mem (hO.2.2.1.1 _ hO.2.1.2.1), ?_⟩
  refine Nat.le_trans (nodup_len (gF T) (gS T) ?_ (fun x hx => (hO.2.2.1.2.1 x hx).1)) hO.2.1.1
  rw [List.Nodup, List.pairwise_iff_getElem]
  intro i j hi hj hij e
  have := hO.2.2.1.2.2 i j hij hj
  rw [List.getD_eq_getElem?_getD, List.getD_eq_getElem?_getD, List.getElem?_eq_getElem hi, List.getElem?_eq_getElem hj] at this
  simp only [Option.getD_some] at this
  rw [e] at this
  omega
theorem zFirs_f {T : zGT} (hO : gOK T) {M : zMem} (h : zFirs T M) {S : Nat} (hS : S ∈ gS T) : ∃ i : Nat, (i : Int) < ze M 81 26 ∧ ze M 91 i = ((glt T S : Nat) : Int) := by
  obtain ⟨i, hi, e⟩ := List.mem_iff_getElem.mp (hO.2.2.1.1 S hS)
  refine ⟨i, by have := h.1; omega, ?_⟩
  rw [h.2 i hi, List.getD_eq_getElem?_getD, List.getElem?_eq_getElem hi]
  simp only [Option.getD_some]
  rw [e]
theorem gIn_or {T : zGT} (hG : gGd T) {x g : Int} (h0 : 0 ≤ x) (h1 : x.toNat < 2 ^ gN T) (g0 : 0 ≤ g) (g1 : g < gN T) : gIn T (zor x (zshl 1 g)) ∧ (zor x (zshl 1 g)).toNat = x.toNat ||| 2 ^ g.toNat := by
  have h2 := g24 hG.2.1 h0 h1
  have h24 := hG.2.1
  rw [zorb h0 (by omega) g0 (by omega), Int.toNat_natCast]
  refine ⟨⟨by omega, ?_⟩, rfl⟩
  rw [Int.toNat_natCast]
  exact Nat.or_lt_two_pow h1 (Nat.pow_lt_pow_right (by omega) (by omega))
theorem zlquo_t {a b : Int} (a0 : -4611686018427387903 ≤ a) (a1 : a ≤ 4611686018427387903) (b0 : 1 ≤ b) (b1 : b ≤ 4611686018427387903) : zlquo a b = a.tdiv b := by
  have ha : zn64 a := ⟨by omega, by omega⟩
  have hb : zn64 b := ⟨by omega, by omega⟩
  unfold zlquo
  rw [Int64.toInt_div_of_ne_left _ _ (fun e => by
    have := congrArg Int64.toInt e
    rw [z64 ha, Int64.toInt_minValue] at this
    omega), z64 ha, z64 hb]
theorem ztd_b (a : Int) {b : Int} (b0 : 1 ≤ b) : (a.tdiv b).natAbs ≤ a.natAbs ∧ (a.tdiv b * b).natAbs ≤ a.natAbs := by
  rw [Int.natAbs_mul, Int.natAbs_tdiv]
  exact ⟨Nat.div_le_self _ _, Nat.div_mul_le_self _ _⟩
theorem zlrem_t {a b : Int} (a0 : 0 ≤ a) (a1 : a ≤ 4611686018427387903) (b0 : 1 ≤ b) (b1 : b ≤ 4611686018427387903) : zlrem a b = a.tmod b := by
  have e : Int64.ofInt a / Int64.ofInt b = Int64.ofInt (zlquo a b) := (Int64.ofInt_toInt _).symm
  have h1 := ztd_b a b0
  unfold zlrem
  rw [e, zlquo_t (by omega) a1 b0 b1, ← Int64.ofInt_mul, ← Int64.ofInt_sub, Int.tmod_def, Int.mul_comm b]
  exact z64 ⟨by omega, by omega⟩
theorem zrem_t {a b : Int} (a0 : -1000000000 ≤ a) (a1 : a ≤ 1000000000) (b0 : 1 ≤ b) (b1 : b ≤ 1000000000) : zrem a b = a.tmod b := by
  have ha : zn32 a := ⟨by omega, by omega⟩
  have hb : zn32 b := ⟨by omega, by omega⟩
  have e : Int32.ofInt a / Int32.ofInt b = Int32.ofInt (a.tdiv b) := by
    have h2 : (Int32.ofInt a / Int32.ofInt b).toInt = a.tdiv b := by
      rw [Int32.toInt_div_of_ne_left _ _ (fun e => by
        have := congrArg Int32.toInt e
        rw [z32 ha, Int32.toInt_minValue] at this
        omega), z32 ha, z32 hb]
    rw [← h2, Int32.ofInt_toInt]
  have h1 := ztd_b a b0
  unfold zrem
  rw [e, ← Int32.ofInt_mul, ← Int32.ofInt_sub, Int.tmod_def, Int.mul_comm b]
  exact z32 ⟨by omega, by omega⟩
theorem zrem_d {a b : Int} (a0 : -1000000000 ≤ a) (a1 : a ≤ 1000000000) (b0 : 1 ≤ b) (b1 : b ≤ 1000000000) : zrem a b = 0 ↔ b ∣ a := by
  rw [zrem_t a0 a1 b0 b1]
  exact (Int.dvd_iff_tmod_eq_zero).symm
theorem zgc_s {x y a b : Int} (x0 : 0 ≤ x) (x1 : x ≤ 4611686018427387903) (y0 : 1 ≤ y) (y1 : y ≤ 4611686018427387903) (h : Int.gcd x y = Int.gcd a b) : 0 ≤ zlrem x y ∧ zlrem x y < y ∧ Int.gcd y (zlrem x y) = Int.gcd a b := by
  rw [zlrem_t x0 x1 y0 y1, Int.tmod_eq_emod_of_nonneg x0]
  have h1 := Int.emod_nonneg x (b := y) (by omega)
  have h2 := Int.emod_lt_of_pos x (b := y) (by omega)
  refine ⟨h1, h2, ?_⟩
  rw [← h, Int.gcd_comm x y]
  obtain ⟨m, rfl⟩ := Int.eq_ofNat_of_zero_le x0
  obtain ⟨n, rfl⟩ := Int.eq_ofNat_of_zero_le (show 0 ≤ y by omega)
  rw [← Int.natCast_emod]
  show Nat.gcd n (m % n) = Nat.gcd n m
  rw [Nat.gcd_rec n m, Nat.gcd_comm]
theorem zgc_p {a b : Int} (b0 : 1 ≤ b) : 1 ≤ ((Int.gcd a b : Nat) : Int) ∧ ((Int.gcd a b : Nat) : Int) ≤ b := by
  have h1 : Int.gcd a b ∣ b.natAbs := Nat.gcd_dvd_right _ _
  have h2 := Nat.le_of_dvd (by omega) h1
  have h3 : 0 < Int.gcd a b := Nat.gcd_pos_of_pos_right _ (by omega)
  omega
def zSw (A B a b A' B' : Int) : Prop := A' = (A * b + a * B).tdiv ((Int.gcd (A * b + a * B) (B * b) : Nat) : Int) ∧ B' = (B * b).tdiv ((Int.gcd (A * b + a * B) (B * b) : Nat) : Int)
theorem zmb {x y p q : Int} (h1 : -p ≤ x) (h2 : x ≤ p) (h3 : -q ≤ y) (h4 : y ≤ q) : -(p * q) ≤ x * y ∧ x * y ≤ p * q := by
  have h : (x * y).natAbs ≤ p.natAbs * q.natAbs := by
    rw [Int.natAbs_mul]
    exact Nat.mul_le_mul (by omega) (by omega)
  rw [← Int.natAbs_mul] at h
  have h5 : 0 ≤ p * q := Int.mul_nonneg (by omega) (by omega)
  omega
theorem zsw_b {A B a b : Int} (h1 : -1000000000 ≤ A) (h2 : A ≤ 1000000000) (h3 : 1 ≤ B) (h4 : B ≤ 1000) (h5 : -1000000000 ≤ a) (h6 : a ≤ 1000000000) (h7 : 1 ≤ b) (h8 : b ≤ 1000) : (-1000000000000 ≤ A * b ∧ A * b ≤ 1000000000000) ∧ (-1000000000000 ≤ a * B ∧ a * B ≤ 1000000000000) ∧ 1 ≤ B * b ∧ B * b ≤ 1000000 := by
  have g1 := zmb h1 h2 (show -1000 ≤ b by omega) h8
  have g2 := zmb h5 h6 (show -1000 ≤ B by omega) h4
  have g3 := zmb (show -1000 ≤ B by omega) h4 (show -1000 ≤ b by omega) h8
  have g4 : 0 < B * b := Int.mul_pos (by omega) (by omega)
  omega
theorem zSw_i {A B a b A' B' g : Int} (h1 : -1000000000 ≤ A) (h2 : A ≤ 1000000000) (h3 : 1 ≤ B) (h4 : B ≤ 1000) (h5 : -1000000000 ≤ a) (h6 : a ≤ 1000000000) (h7 : 1 ≤ b) (h8 : b ≤ 1000) (hg : g = ((Int.gcd (A * b + a * B) (B * b) : Nat) : Int)) (hA : A' = zlquo (A * b + a * B) g) (hB : B' = zlquo (B * b) g) : zSw A B a b A' B' := by
  obtain ⟨g1, g2, g3⟩ := zsw_b h1 h2 h3 h4 h5 h6 h7 h8
  have g4 := zgc_p (a := A * b + a * B) (b := B * b) g3.1
  rw [← hg] at g4
  rw [zlquo_t (by omega) (by omega) (by omega) (by omega)] at hA hB
  unfold zSw
  rw [← hg]
  exact ⟨hA, hB⟩
def gmkI (T : zGT) (i k : Nat) : Int := ((gmk T ((gF T).getD i 0) ((gF T).getD k 0) : Nat) : Int)
def gqI (T : zGT) (i k : Nat) : Int := gmkI T i k / gmkI T i i
def gds (T : zGT) (D : Nat → Nat → Int) (j k : Nat) : Nat → Int
  | 0 => if k = j then 1 else 0
  | n + 1 => gds T D j k n - D j (k + 1 + n) * gqI T (k + 1 + n) k
def gDs (T : zGT) (D : Nat → Nat → Int) : Prop := (∀ j k, j < (gF T).length → k < (gF T).length → (-1000 ≤ D j k ∧ D j k ≤ 1000) ∧ D j k = gds T D j k ((gF T).length - 1 - k)) ∧ ∀ i k, i < (gF T).length → k < (gF T).length → gmkI T i k = gqI T i k * gmkI T i i
theorem gmk_b (T : zGT) (F H : Nat) : gmk T F H ≤ gN T := by
  rw [gmk_e]
  have : ∀ k, gup (gfxF T F H) 0 k ≤ k := by
    intro k
    induction k with
    | zero => exact Nat.le_refl _
    | succ k ih =>
      show gfxF T F H k (gup (gfxF T F H) 0 k) ≤ k + 1
      generalize gup (gfxF T F H) 0 k = r at ih ⊢
      unfold gfxF
      cases gfx T F H k <;> simp <;> omega
  exact this _
theorem gmkI_b {T : zGT} (hG : gGd T) (i k : Nat) : 0 ≤ gmkI T i k ∧ gmkI T i k ≤ 24 := by
  have := gmk_b T ((gF T).getD i 0) ((gF T).getD k 0)
  have := hG.2.1
  unfold gmkI
  omega
theorem gmkI_1 {T : zGT} (hO : gOK T) {i : Nat} (hi : i < (gF T).length) : 1 ≤ gmkI T i i := by
  have := hO.2.2.2 i hi
  unfold gmkI
  omega
theorem gqI_b {T : zGT} (hO : gOK T) {i : Nat} (hi : i < (gF T).length) (k : Nat) : 0 ≤ gqI T i k ∧ gqI T i k ≤ 24 := by
  have h1 := gmkI_b hO.1 i k
  have h2 := gmkI_1 hO hi
  unfold gqI
  refine ⟨Int.ediv_nonneg h1.1 (by omega), Int.le_trans (Int.ediv_le_self _ h1.1) h1.2⟩
theorem gds_b {T : zGT} (hO : gOK T) {D : Nat → Nat → Int} (hD : gDs T D) {j k : Nat} (hj : j < (gF T).length) : ∀ n : Nat, k + n < (gF T).length → -(1 + 24000 * (n : Int)) ≤ gds T D j k n ∧ gds T D j k n ≤ 1 + 24000 * (n : Int)
  | 0, _ => by
    unfold gds
    split <;> omega
  | n + 1, h => by
    have ih := gds_b hO hD (k := k) hj n (by omega)
    have hi : k + 1 + n < (gF T).length := by omega
    have h1 := (hD.1 j (k + 1 + n) hj hi).1
    have h2 := gqI_b hO hi k
    have h3 := zmb h1.1 h1.2 (show -24 ≤ _ by omega) h2.2
    unfold gds
    omega
def zPk (T : zGT) (D : Nat → Nat → Int) (j k : Nat) (M : zMem) : Prop := ∀ i, k ≤ i → i < (gF T).length → 1 ≤ zg M 108 i ∧ zg M 108 i ∣ gmkI T i i ∧ zg M 107 i * gmkI T i i = D j i * zg M 108 i
theorem zPk.fr {S C : List Nat} {M N : zMem} {T : zGT} {D : Nat → Nat → Int} {j k : Nat} (hf : zFr S C M N) (h : zPk T D j k M) (hc : 107 ∉ C ∧ 108 ∉ C) : zPk T D j k N := by
  intro i h1 h2
  rw [hf.jg (by decide) hc.1, hf.jg (by decide) hc.2]
  exact h i h1 h2
theorem zPk_0 {T : zGT} {D : Nat → Nat → Int} {j k : Nat} {M : zMem} (h : (gF T).length ≤ k) : zPk T D j k M := fun i h1 h2 => absurd h1 (by omega)
theorem zPk.v {T : zGT} (hO : gOK T) {D : Nat → Nat → Int} {j k : Nat} {M : zMem} (h : zPk T D j k M) {i : Nat} (h1 : k ≤ i) (h2 : i < (gF T).length) : ∃ e : Int, 1 ≤ e ∧ gmkI T i i = zg M 108 i * e ∧ zg M 107 i * e = D j i := by
  obtain ⟨a1, ⟨e, he⟩, a3⟩ := h i h1 h2
  have hm := gmkI_1 hO h2
  refine ⟨e, ?_, he, ?_⟩
  · rcases Int.lt_or_le e 1 with g | g
    · have := Int.mul_nonneg (show 0 ≤ zg M 108 i by omega) (show 0 ≤ -e by omega)
      rw [Int.mul_neg] at this
      omega
    · exact g
  · rw [he, ← Int.mul_assoc, Int.mul_right_comm] at a3
    exact Int.eq_of_mul_eq_mul_right (by omega) a3
theorem zdm {a e d : Int} (h : a * e = d) (he : 1 ≤ e) {q : Int} (h1 : -q ≤ d) (h2 : d ≤ q) : -q ≤ a ∧ a ≤ q := by
  have h3 : a.natAbs ≤ d.natAbs := by
    rw [← h, Int.natAbs_mul]
    exact Nat.le_mul_of_pos_right _ (by omega)
  omega
theorem zPk.b {T : zGT} (hO : gOK T) {D : Nat → Nat → Int} (hD : gDs T D) {j k : Nat} (hj : j < (gF T).length) {M : zMem} (h : zPk T D j k M) {i : Nat} (h1 : k ≤ i) (h2 : i < (gF T).length) : (-1000 ≤ zg M 107 i ∧ zg M 107 i ≤ 1000) ∧ 1 ≤ zg M 108 i ∧ zg M 108 i ≤ 24 := by
  obtain ⟨e, e1, e2, e3⟩ := h.v hO h1 h2
  have a1 := (h i h1 h2).1
  have hd := (hD.1 j i hj h2).1
  have hm := gmkI_b hO.1 i i
  exact ⟨zdm e3 e1 hd.1 hd.2, a1, (zdm e2.symm e1 (q := 24) (by omega) (by omega)).2⟩
theorem zpk_s1 {T : zGT} (hO : gOK T) {D : Nat → Nat → Int} (hD : gDs T D) {j k : Nat} {M : zMem} (h : zPk T D j (k + 1) M) {n : Nat} (hn : k + 1 + n < (gF T).length) {A a b A' B' : Int} (hA : A = gds T D j k n) (ha : a = -zg M 107 (k + 1 + n) * gmkI T (k + 1 + n) k) (hb : b = zg M 108 (k + 1 + n)) (hs : zSw A 1 a b A' B') : A' = gds T D j k (n + 1) ∧ B' = 1 := by
  have hi : k + 1 ≤ k + 1 + n := by omega
  obtain ⟨e, e1, e2, e3⟩ := h.v hO hi hn
  have b1 := (h _ hi hn).1
  rw [← hb] at b1 e2
  have hq := hD.2 (k + 1 + n) k hn (by omega)
  have ea : a = b * (-(D j (k + 1 + n) * gqI T (k + 1 + n) k)) := by
    rw [ha, hq, e2, ← e3, Int.neg_mul, Int.mul_neg]
    congr 1
    ac_rfl
  have eu : A * b + a * 1 = b * gds T D j k (n + 1) := by
    rw [ea, Int.mul_one, Int.mul_comm A b, ← Int.mul_add, hA]
    rfl
  obtain ⟨s1, s2⟩ := hs
  have eg : ((Int.gcd (A * b + a * 1) (1 * b) : Nat) : Int) = b := by
    rw [eu, Int.one_mul]
    show ((Nat.gcd (b * gds T D j k (n + 1)).natAbs b.natAbs : Nat) : Int) = b
    rw [Int.natAbs_mul, Nat.gcd_comm, Nat.gcd_mul_right_right]
    omega
  rw [eg] at s1 s2
  rw [eu] at s1
  rw [Int.mul_tdiv_cancel_left _ (by omega)] at s1
  rw [Int.one_mul, Int.tdiv_self (by omega)] at s2
  exact ⟨s1, s2⟩
theorem zpk_s0 {T : zGT} (hO : gOK T) {D : Nat → Nat → Int} (hD : gDs T D) {j k : Nat} {M : zMem} (h : zPk T D j (k + 1) M) {n : Nat} (hn : k + 1 + n < (gF T).length) {A : Int} (hA : A = gds T D j k n) (hz : zg M 107 (k + 1 + n) = 0 ∨ gmkI T (k + 1 + n) k = 0) : A = gds T D j k (n + 1) := by
  have hi : k + 1 ≤ k + 1 + n := by omega
  obtain ⟨e, e1, e2, e3⟩ := h.v hO hi hn
  have : D j (k + 1 + n) * gqI T (k + 1 + n) k = 0 := by
    rcases hz with hz | hz
    · rw [← e3, hz, Int.zero_mul, Int.zero_mul]
    · unfold gqI
      rw [hz, Int.zero_ediv, Int.mul_zero]
  show A = gds T D j k n - D j (k + 1 + n) * gqI T (k + 1 + n) k
  rw [this, hA, Int.sub_zero]
theorem zlow {u d m p : Int} (h : u * m = p * d) (hd : 1 ≤ d) (hm : 1 ≤ m) : 1 ≤ d.tdiv ((Int.gcd u d : Nat) : Int) ∧ d.tdiv ((Int.gcd u d : Nat) : Int) ∣ m ∧ u.tdiv ((Int.gcd u d : Nat) : Int) * m = p * d.tdiv ((Int.gcd u d : Nat) : Int) := by
  have hg := zgc_p (a := u) hd
  have g1 : ((Int.gcd u d : Nat) : Int) ∣ u := Int.gcd_dvd_left _ _
  have g2 : ((Int.gcd u d : Nat) : Int) ∣ d := Int.gcd_dvd_right _ _
  have hc : Int.gcd (u.tdiv ((Int.gcd u d : Nat) : Int)) (d.tdiv ((Int.gcd u d : Nat) : Int)) = 1 := by
    show Nat.gcd (Int.natAbs _) (Int.natAbs _) = 1
    rw [Int.natAbs_tdiv, Int.natAbs_tdiv, Int.natAbs_natCast]
    exact Nat.coprime_div_gcd_div_gcd (m := u.natAbs) (n := d.natAbs) (by show 0 < Int.gcd u d; omega)
  generalize ((Int.gcd u d : Nat) : Int) = g at hg g1 g2 hc ⊢
  obtain ⟨u', rfl⟩ := g1
  obtain ⟨d', rfl⟩ := g2
  rw [Int.mul_tdiv_cancel_left _ (by omega), Int.mul_tdiv_cancel_left _ (by omega)] at hc ⊢
  have e : u' * m = p * d' := by
    rw [Int.mul_assoc, Int.mul_left_comm p] at h
    exact Int.eq_of_mul_eq_mul_left (by omega) h
  refine ⟨?_, ?_, e⟩
  · rcases Int.lt_or_le d' 1 with k | k
    · have := Int.mul_nonneg (show 0 ≤ g by omega) (show 0 ≤ -d' by omega)
      rw [Int.mul_neg] at this
      omega
    · exact k
  · have h2 : d'.natAbs ∣ u'.natAbs * m.natAbs := by
      rw [← Int.natAbs_mul, e, Int.natAbs_mul]
      exact Nat.dvd_mul_left _ _
    have h3 : d'.natAbs ∣ m.natAbs := Nat.Coprime.dvd_of_dvd_mul_left (k := d'.natAbs) (m := u'.natAbs) (by
      show Nat.gcd _ _ = 1
      rw [Nat.gcd_comm]
      exact hc) h2
    exact Int.natAbs_dvd_natAbs.mp h3
theorem zpk_n {T : zGT} (hO : gOK T) {D : Nat → Nat → Int} (hD : gDs T D) {j k : Nat} (hj : j < (gF T).length) (hk : k < (gF T).length) {M N P : zMem} (h : zPk T D j (k + 1) M) {a m g x y : Int} (ha : a = D j k) (hm : m = gmkI T k k) (hg : g = ((Int.gcd a m : Nat) : Int)) (hx : x = zlquo a g) (hy : y = zlquo m g) (hN : N = zsJ M 107 k (Int64.ofInt x)) (hP : P = zsJ N 108 k (Int64.ofInt y)) : zPk T D j k P := by
  have d1 := (hD.1 j k hj hk).1
  have m0 := gmkI_b hO.1 k k
  have m1 := gmkI_1 hO hk
  have g1 := zgc_p (a := a) (b := m) (by omega)
  rw [← hg] at g1
  rw [zlquo_t (by omega) (by omega) (by omega) (by omega)] at hx hy
  obtain ⟨z1, z2, z3⟩ := zlow (u := a) (d := m) (m := m) (p := a) rfl (by omega) (by omega)
  rw [← hg] at z1 z2 z3
  rw [← hx] at z3
  rw [← hy] at z1 z2 z3
  have hx1 := ztd_b a (b := g) (by omega)
  have hy1 := ztd_b m (b := g) (by omega)
  rw [← hx] at hx1
  rw [← hy] at hy1
  have hf1 : zFr [] [107] M N := by rw [hN]; exact zFr.sB (by decide)
  have hf2 : zFr [] [108] N P := by rw [hP]; exact zFr.sB (by decide)
  intro i h1 h2
  by_cases e : i = k
  · subst e
    have v1 : zg P 107 i = x := by
      rw [hf2.jg (by decide) (by decide)]
      exact zs_getJ hN ⟨by omega, by omega⟩
    have v2 : zg P 108 i = y := zs_getJ hP ⟨by omega, by omega⟩
    rw [v1, v2, ← hm, ← ha]
    exact ⟨z1, z2, z3⟩
  · have v1 : zg P 107 i = zg M 107 i := by
      rw [hf2.jg (by decide) (by decide)]
      exact zs_othJ hN e
    have v2 : zg P 108 i = zg M 108 i := by
      rw [zs_othJ hP e]
      exact hf1.jg (by decide) (by decide) i
    rw [v1, v2]
    exact h i (by omega) h2
def zLc (T : zGT) (i : Nat) (n A B : Int) : Prop := ∃ p : Int, (-(1000 * n) ≤ p ∧ p ≤ 1000 * n) ∧ A * gmkI T i i = p * B ∧ 1 ≤ B ∧ B ∣ gmkI T i i
theorem zLc_0 {T : zGT} {i : Nat} : zLc T i 0 0 1 := ⟨0, ⟨by omega, by omega⟩, by rw [Int.zero_mul, Int.zero_mul], by omega, Int.one_dvd _⟩
theorem zLc_m {T : zGT} {i : Nat} {n A B : Int} (h : zLc T i n A B) : zLc T i (n + 1) A B := by
  obtain ⟨p, h1, h2⟩ := h
  exact ⟨p, by omega, h2⟩
theorem zLc_b {T : zGT} (hO : gOK T) {i : Nat} (hi : i < (gF T).length) {n A B : Int} (n0 : 0 ≤ n) (n1 : n ≤ 64) (h : zLc T i n A B) : (-2000000 ≤ A ∧ A ≤ 2000000) ∧ 1 ≤ B ∧ B ≤ 24 := by
  obtain ⟨p, h1, h2, h3, h4⟩ := h
  have m0 := gmkI_b hO.1 i i
  have m1 := gmkI_1 hO hi
  have hB : B ≤ 24 := Int.le_trans (Int.le_of_dvd (by omega) h4) m0.2
  have h5 := zmb (show -64000 ≤ p by omega) (show p ≤ 64000 by omega) (show -24 ≤ B by omega) hB
  rw [← h2] at h5
  have := zdm (a := A) rfl m1 (q := 1536000) (by omega) (by omega)
  omega
theorem zLc_s {T : zGT} (hO : gOK T) {D : Nat → Nat → Int} (hD : gDs T D) {j i : Nat} (hj : j < (gF T).length) (hi : i < (gF T).length) {M : zMem} (hP : zPk T D j 0 M) {n A B A' B' A1 B1 a b : Int} (h : zLc T i n A B) (hs : zSw A1 B1 a b A' B') (eA : A1 = A) (eB : B1 = B) (ea : a = zg M 107 i) (eb : b = zg M 108 i) : zLc T i (n + 1) A' B' := by
  subst eA eB ea eb
  obtain ⟨p, h1, h2, h3, h4⟩ := h
  obtain ⟨q1, q2, q3⟩ := hP i (Nat.zero_le _) hi
  have d1 := (hD.1 j i hj hi).1
  obtain ⟨s1, s2⟩ := hs
  have e : (A1 * zg M 108 i + zg M 107 i * B1) * gmkI T i i = (p + D j i) * (B1 * zg M 108 i) := by
    rw [Int.add_mul, Int.add_mul, Int.mul_right_comm A1, h2, Int.mul_right_comm (zg M 107 i), q3, Int.mul_assoc, Int.mul_assoc, Int.mul_comm (zg M 108 i) B1]
  obtain ⟨z1, z2, z3⟩ := zlow e (Int.mul_pos (by omega) (by omega)) (gmkI_1 hO hi)
  rw [← s1] at z3
  rw [← s2] at z1 z2 z3
  exact ⟨p + D j i, by omega, z3, z1, z2⟩
theorem zmb24 {x y : Int} (h1 : -1000 ≤ x) (h2 : x ≤ 1000) (h3 : 0 ≤ y) (h4 : y ≤ 24) : -24000 ≤ x * y ∧ x * y ≤ 24000 := by
  have := zmb h1 h2 (show -24 ≤ y by omega) h4
  omega
theorem zGB_mk {T : zGT} {M : zMem} (h : zGB T M) {i k : Int} (i0 : 0 ≤ i) (i1 : i < ze M 81 26) (k0 : 0 ≤ k) (k1 : k < ze M 81 26) : ze M 93 (64 * i + k).toNat = gmkI T i.toNat k.toNat := by
  have hl := h.2.2.2.1.1
  rw [show (64 * i + k).toNat = 64 * i.toNat + k.toNat by omega]
  exact h.2.2.2.2.2.2 i.toNat k.toNat (by omega) (by omega) (by omega)
theorem zpk_i1 {T : zGT} (hO : gOK T) {D : Nat → Nat → Int} (hD : gDs T D) {J : Nat} {M : zMem} {i k A B v m b A' B' : Int} (hs : zSw A B (-v * m) b A' B') (k0 : 0 ≤ k) (ki : k + 1 ≤ i) (il : i < ((gF T).length : Int)) (h : zPk T D J (k + 1).toNat M) (hA : A = gds T D J k.toNat (i - k - 1).toNat) (hB : B = 1) (hv : v = zg M 107 i.toNat) (hm : m = gmkI T i.toNat k.toNat) (hb : b = zg M 108 i.toNat) : B' = 1 ∧ A' = gds T D J k.toNat (i + 1 - k - 1).toNat := by
  have e1 : (k + 1).toNat = k.toNat + 1 := by omega
  have e2 : i.toNat = k.toNat + 1 + (i - k - 1).toNat := by omega
  have e3 : (i + 1 - k - 1).toNat = (i - k - 1).toNat + 1 := by omega
  rw [e1] at h
  rw [e2] at hv hm hb
  rw [hB, hv, hm] at hs
  have := zpk_s1 hO hD h (by omega) hA rfl hb hs
  rw [e3]
  exact ⟨this.2, this.1⟩
theorem zpk_i0 {T : zGT} (hO : gOK T) {D : Nat → Nat → Int} (hD : gDs T D) {J : Nat} {M : zMem} {i k A : Int} (k0 : 0 ≤ k) (ki : k + 1 ≤ i) (il : i < ((gF T).length : Int)) (h : zPk T D J (k + 1).toNat M) (hA : A = gds T D J k.toNat (i - k - 1).toNat) (hz : zg M 107 i.toNat = 0 ∨ gmkI T i.toNat k.toNat = 0) : A = gds T D J k.toNat (i + 1 - k - 1).toNat := by
  have e1 : (k + 1).toNat = k.toNat + 1 := by omega
  have e2 : i.toNat = k.toNat + 1 + (i - k - 1).toNat := by omega
  have e3 : (i + 1 - k - 1).toNat = (i - k - 1).toNat + 1 := by omega
  rw [e1] at h
  rw [e2] at hz
  rw [e3]
  exact zpk_s0 hO hD h (by omega) hA hz
theorem zpk_e {T : zGT} {D : Nat → Nat → Int} (hD : gDs T D) {J : Nat} (hJ : J < (gF T).length) {i k A : Int} (k0 : 0 ≤ k) (il : i = ((gF T).length : Int)) (kl : k < i) (hA : A = gds T D J k.toNat (i - k - 1).toNat) : A = D J k.toNat ∧ -1000 ≤ A ∧ A ≤ 1000 := by
  have h := hD.1 J k.toNat hJ (by omega)
  rw [show (i - k - 1).toNat = (gF T).length - 1 - k.toNat by omega, ← h.2] at hA
  rw [hA]
  exact ⟨rfl, h.1⟩
def gpw (T : zGT) (m : Nat) : Nat → Nat
  | 0 => m
  | k + 1 => gm T (gpw T m k) m
theorem gpw_s {T : zGT} {m : Nat} {i x v : Int} (hi : 0 ≤ i) (hx : x = ((gpw T m i.toNat : Nat) : Int)) (hv : v = ((gm T x.toNat m : Nat) : Int)) : v = ((gpw T m (i + 1).toNat : Nat) : Int) := by
  rw [show (i + 1).toNat = i.toNat + 1 by omega, hv, hx, Int.toNat_natCast]
  rfl
def gmmF (T : zGT) (F : Nat) : Nat → Nat → Nat := fun x r => if gtr T F x = F ∧ gcos T F x = x then r + 1 else r
def gmm (T : zGT) (F : Nat) : Nat := gup (gmmF T F) 0 (gN T)
def gcu (T : zGT) : Nat → Nat
  | 0 => 0
  | d + 1 => gcu T d + (if gmm T ((gF T).getD ((gF T).length - 1 - d) 0) ≤ 2 then 1 else 0)
def gEx (T : zGT) : Prop := (∀ m, m < gN T → ∃ k : Nat, k ≤ 24 ∧ gpw T m k = 0) ∧ (gF T).length ≤ 30 ∧ (∀ F ∈ gF T, gtr T F 0 = F) ∧ gcu T (gF T).length ≤ 15 ∧ (∀ F ∈ gF T, ∀ x, x < gN T → x ≠ 0 → gcos T F x = x → ∀ R, gLC T (F ||| 2 ^ x) R → glt T R ≠ F) ∧ ∃ D : Nat → Nat → Int, gDs T D
theorem gpw_n {T : zGT} {m K : Nat} (hK : gpw T m K = 0) {i x : Int} (hx : x = ((gpw T m i.toNat : Nat) : Int)) (h : x ≠ 0) (i0 : 0 ≤ i) : i ≠ K := by
  rintro rfl
  rw [Int.toNat_natCast, hK] at hx
  exact h hx
theorem kcd {a b : Bool} : cond a b false = true ↔ a = true ∧ b = true := by cases a <;> cases b <;> decide
noncomputable def kup (f : Nat → Nat → Nat) (a n : Nat) : Nat := Nat.rec a f n
theorem kup_e (f : Nat → Nat → Nat) (a : Nat) : ∀ n, kup f a n = gup f a n
  | 0 => rfl
  | n + 1 => by
    show f n (kup f a n) = f n (gup f a n)
    rw [kup_e f a n]
theorem kup_c {f g : Nat → Nat → Nat} (a : Nat) : ∀ n, (∀ k r, k < n → f k r = g k r) → kup f a n = gup g a n
  | 0, _ => rfl
  | n + 1, h => by
    show f n (kup f a n) = g n (gup g a n)
    rw [kup_c a n (fun k r hk => h k r (by omega)), h n _ (by omega)]
noncomputable def klt (n : Nat) (p : Nat → Bool) : Bool := Nat.rec true (fun k ih => cond (p k) ih false) n
theorem klt_s {p : Nat → Bool} : ∀ {n : Nat}, klt n p = true → ∀ k, k < n → p k = true
  | 0, _, k, hk => absurd hk (by omega)
  | n + 1, h, k, hk => by
    have h2 : p n = true ∧ klt n p = true := kcd.mp h
    by_cases e : k = n
    · rw [e]; exact h2.1
    · exact klt_s h2.2 k (by omega)
noncomputable def kall (l : List Nat) (p : Nat → Bool) : Bool := List.rec true (fun x _ ih => cond (p x) ih false) l
theorem kall_s {p : Nat → Bool} : ∀ {l : List Nat}, kall l p = true → ∀ x ∈ l, p x = true
  | [], _, x, hx => absurd hx List.not_mem_nil
  | y :: l, h, x, hx => by
    have h2 : p y = true ∧ kall l p = true := kcd.mp h
    rcases List.mem_cons.mp hx with rfl | hx
    · exact h2.1
    · exact kall_s h2.2 x hx
noncomputable def kmem (l : List Nat) (S : Nat) : Bool := List.rec false (fun x _ ih => cond (Nat.beq x S) true ih) l
theorem kmem_s {S : Nat} : ∀ {l : List Nat}, kmem l S = true → S ∈ l
  | [], h => by cases h
  | x :: l, h => by
    have h2 : cond (Nat.beq x S) true (kmem l S) = true := h
    cases hb : Nat.beq x S with
    | true => rw [Nat.eq_of_beq_eq_true hb]; exact List.mem_cons_self
    | false => rw [hb] at h2; exact List.mem_cons_of_mem _ (kmem_s h2)
noncomputable def klen (l : List Nat) : Nat := List.rec 0 (fun _ _ ih => Nat.succ ih) l
theorem klen_e : ∀ l : List Nat, klen l = l.length
  | [] => rfl
  | x :: l => by
    show Nat.succ (klen l) = _
    rw [klen_e l]; rfl
noncomputable def ktb (S k : Nat) : Bool := Nat.beq (Nat.mod (Nat.shiftRight S k) 2) 1
theorem kbq {a b : Nat} : Nat.beq a b = true ↔ a = b := ⟨Nat.eq_of_beq_eq_true, fun h => by rw [h]; exact Nat.beq_refl b⟩
theorem kbl {a b : Nat} : Nat.ble a b = true ↔ a ≤ b := ⟨Nat.le_of_ble_eq_true, Nat.ble_eq_true_of_le⟩
theorem ktb_e (S k : Nat) : ktb S k = S.testBit k := by
  rw [Nat.testBit_eq_decide_div_mod_eq, ← Nat.shiftRight_eq_div_pow]
  show Nat.beq ((S >>> k) % 2) 1 = _
  rcases Nat.mod_two_eq_zero_or_one (S >>> k) with h | h <;> rw [h] <;> rfl
theorem klg {S : Nat} (h : S ≠ 0) : S.testBit (Nat.log2 S) = true ∧ ∀ k, Nat.log2 S < k → S.testBit k = false := by
  have h1 := Nat.log2_self_le h
  have h2 := Nat.lt_log2_self (n := S)
  refine ⟨?_, fun k hk => Nat.testBit_lt_two_pow (Nat.lt_of_lt_of_le h2 (Nat.pow_le_pow_right (by omega) hk))⟩
  rw [Nat.testBit_eq_decide_div_mod_eq]
  have h3 : S / 2 ^ S.log2 = 1 := by
    refine Nat.div_eq_of_lt_le (by omega) ?_
    rw [Nat.pow_succ] at h2
    omega
  rw [h3]; rfl
noncomputable def kal (p : Nat → Bool) (fuel : Nat) : Nat → Bool := Nat.rec (fun S => Nat.beq S 0) (fun _ ih S => cond (Nat.beq S 0) true (cond (p (Nat.log2 S)) (ih (Nat.mod S (Nat.pow 2 (Nat.log2 S)))) false)) fuel
theorem kal_s {p : Nat → Bool} : ∀ {fuel S : Nat}, kal p fuel S = true → ∀ a, S.testBit a = true → p a = true
  | 0, S, h, a, ha => by
    have h0 : S = 0 := kbq.mp h
    rw [h0, Nat.zero_testBit] at ha
    cases ha
  | fuel + 1, S, h, a, ha => by
    have h2 : cond (Nat.beq S 0) true (cond (p (Nat.log2 S)) (kal p fuel (Nat.mod S (Nat.pow 2 (Nat.log2 S)))) false) = true := h
    cases hb : Nat.beq S 0 with
    | true =>
      rw [kbq.mp hb, Nat.zero_testBit] at ha
      cases ha
    | false =>
      rw [hb] at h2
      have h3 := kcd.mp h2
      have h0 : S ≠ 0 := fun e => by rw [kbq.mpr e] at hb; cases hb
      have hl := klg h0
      rcases Nat.lt_trichotomy a (Nat.log2 S) with g | g | g
      · refine kal_s h3.2 a ?_
        show (S % 2 ^ S.log2).testBit a = true
        rw [Nat.testBit_mod_two_pow, ha, decide_eq_true g]; rfl
      · rw [g]; exact h3.1
      · rw [hl.2 a g] at ha; cases ha
noncomputable def kfd (f : Nat → Nat → Nat) (fuel : Nat) : Nat → Nat → Nat := Nat.rec (fun _ r => r) (fun _ ih S r => cond (Nat.beq S 0) r (ih (Nat.mod S (Nat.pow 2 (Nat.log2 S))) (f (Nat.log2 S) r))) fuel
theorem kfd_i {f : Nat → Nat → Nat} {Q : Nat → Prop} : ∀ {fuel S r : Nat}, Q r → (∀ a r, S.testBit a = true → Q r → Q (f a r)) → Q (kfd f fuel S r)
  | 0, _, _, h, _ => h
  | fuel + 1, S, r, h, hf => by
    show Q (cond (Nat.beq S 0) r (kfd f fuel (Nat.mod S (Nat.pow 2 (Nat.log2 S))) (f (Nat.log2 S) r)))
    cases hb : Nat.beq S 0 with
    | true => exact h
    | false =>
      have h0 : S ≠ 0 := fun e => by rw [kbq.mpr e] at hb; cases hb
      have hl := klg h0
      refine kfd_i (hf _ _ hl.1 h) (fun a r ha hr => hf a r ?_ hr)
      have ha2 : (S % 2 ^ S.log2).testBit a = true := ha
      rw [Nat.testBit_mod_two_pow, Bool.and_eq_true] at ha2
      exact ha2.2
section KCK
variable (n P : Nat) (S F : List Nat) (Fp Ip Cp Kp Qp Dp : Nat)
noncomputable def kgm (a b : Nat) : Nat := Nat.mod (Nat.shiftRight P (Nat.mul 5 (Nat.add (Nat.mul 24 a) b))) 32
noncomputable def kI (a : Nat) : Nat := Nat.mod (Nat.shiftRight Ip (Nat.mul 5 a)) 32
noncomputable def kF (i : Nat) : Nat := Nat.mod (Nat.shiftRight Fp (Nat.mul 24 i)) 16777216
noncomputable def kC (i x : Nat) : Nat := Nat.mod (Nat.shiftRight Cp (Nat.mul 5 (Nat.add (Nat.mul 32 i) x))) 32
noncomputable def kK (i k : Nat) : Nat := Nat.mod (Nat.shiftRight Kp (Nat.mul 5 (Nat.add (Nat.mul 32 i) k))) 32
noncomputable def kQ (i k : Nat) : Nat := Nat.mod (Nat.shiftRight Qp (Nat.mul 5 (Nat.add (Nat.mul 32 i) k))) 32
noncomputable def kD (j k : Nat) : Nat := Nat.mod (Nat.shiftRight Dp (Nat.mul 11 (Nat.add (Nat.mul 32 j) k))) 2048
noncomputable def kps (X : Nat) : Nat := kfd (fun a r => kfd (fun b r => Nat.lor r (Nat.pow 2 (kgm P a b))) 24 X r) 24 X X
noncomputable def kc1 (X g : Nat) : Nat := kfd (fun a r => Nat.lor r (Nat.pow 2 (kgm P a g))) 24 X (Nat.lor X (Nat.pow 2 g))
noncomputable def kokF (s g fuel : Nat) : Nat → Bool := Nat.rec (fun X => cond (Nat.beq (Nat.mod X (Nat.pow 2 g)) (Nat.mod s (Nat.pow 2 g))) (kmem S X) true) (fun _ ih X => cond (Nat.beq (Nat.mod X (Nat.pow 2 g)) (Nat.mod s (Nat.pow 2 g))) (cond (kmem S X) true (ih (kps P X))) true) fuel
noncomputable def kok (s g : Nat) : Bool := kokF P S s g 3 (kc1 P s g)
noncomputable def kcs (X : Nat) : Bool := kal (fun a => kal (fun b => ktb X (kgm P a b)) 24 X) 24 X
noncomputable def kA : Bool := cond (Nat.ble 1 n) (cond (Nat.ble n 24) (klt n (fun a => cond (Nat.ble (Nat.succ (kI Ip a)) n) (cond (Nat.beq (kup (fun b r => cond (Nat.beq (kgm P a b) 0) b r) 0 n) (kI Ip a)) (klt n (fun b => Nat.ble (Nat.succ (kgm P a b)) n)) false) false)) false) false
noncomputable def kB : Bool := cond (Nat.ble (klen S) 64) (cond (kmem S 1) (cond (kall S (fun s => cond (Nat.ble (Nat.succ s) (Nat.pow 2 n)) (cond (ktb s 0) (kcs P s) false) false)) (kall S (fun s => klt n (fun g => cond (ktb s g) true (kok P S s g)))) false) false) false
noncomputable def ktr (X g : Nat) : Nat := kup (fun x r => cond (ktb X x) (Nat.lor r (Nat.pow 2 (kgm P (kgm P (kI Ip g) x) g))) r) 0 n
noncomputable def kle (X : Nat) : Nat := kup (fun g r => cond (Nat.ble (Nat.succ (ktr n P Ip X g)) r) (ktr n P Ip X g) r) X n
noncomputable def kcb (X : Nat) : Nat := kup (fun k r => Nat.add r (Nat.mod (Nat.shiftRight X k) 2)) 0 31
noncomputable def kky (X : Nat) : Nat := Nat.add (Nat.mul (kcb X) 16777216) X
noncomputable def kfl (l : List Nat) : Nat → Bool := List.rec (fun _ => true) (fun x _ ih i => cond (Nat.beq x (kF Fp i)) (ih (Nat.succ i)) false) l
noncomputable def kE : Bool := cond (kfl Fp F 0) (cond (kall S (fun s => cond (kmem F (kle n P Ip s)) (Nat.beq (kcb (kle n P Ip s)) (kcb s)) false)) (cond (kall F (fun f => cond (kmem S f) (Nat.beq (kle n P Ip f) f) false)) (klt (Nat.pred (klen F)) (fun i => Nat.ble (Nat.succ (kky (kF Fp i))) (kky (kF Fp (Nat.succ i))))) false) false) false
noncomputable def kcv (X x : Nat) : Nat := kup (fun h r => cond (ktb X h) (cond (Nat.ble (Nat.succ (kgm P h x)) r) (kgm P h x) r) r) x n
noncomputable def kfx (i H x : Nat) : Bool := cond (Nat.beq (kC Cp i x) x) (klt n (fun k => cond (ktb H k) (Nat.beq (kC Cp i (kgm P x k)) x) true)) false
noncomputable def kmk (i H : Nat) : Nat := kup (fun x r => cond (kfx n P Cp i H x) (Nat.succ r) r) 0 n
noncomputable def kG (m : Nat) : Bool := cond (Nat.ble m 30) (cond (klt m (fun i => klt n (fun x => Nat.beq (kcv n P (kF Fp i) x) (kC Cp i x)))) (cond (klt m (fun i => klt m (fun k => Nat.beq (kmk n P Cp i (kF Fp k)) (kK Kp i k)))) (cond (klt m (fun i => Nat.ble 1 (kK Kp i i))) (klt m (fun i => klt m (fun k => Nat.beq (Nat.mul (kQ Qp i k) (kK Kp i i)) (kK Kp i k)))) false) false) false) false
noncomputable def kds (j k c : Nat) : Nat := kup (fun i r => Nat.add r (Nat.mul (kD Dp j (Nat.add (Nat.add k 1) i)) (kQ Qp (Nat.add (Nat.add k 1) i) k))) 0 c
noncomputable def kqs (k c : Nat) : Nat := kup (fun i r => Nat.add r (kQ Qp (Nat.add (Nat.add k 1) i) k)) 0 c
noncomputable def kH (m : Nat) : Bool := klt m (fun j => klt m (fun k => cond (Nat.ble (kD Dp j k) 2000) (Nat.beq (Nat.add (kD Dp j k) (kds Qp Dp j k (Nat.sub (Nat.sub m 1) k))) (Nat.add (cond (Nat.beq k j) 1 0) (Nat.mul 1000 (Nat.succ (kqs Qp k (Nat.sub (Nat.sub m 1) k)))))) false))
noncomputable def kpw (m fuel : Nat) : Nat → Bool := Nat.rec (fun x => Nat.beq x 0) (fun _ ih x => cond (Nat.beq x 0) true (ih (kgm P x m))) fuel
noncomputable def kmm (i : Nat) : Nat := kup (fun x r => cond (Nat.beq (kC Cp i x) x) (cond (Nat.beq (ktr n P Ip (kF Fp i) x) (kF Fp i)) (Nat.succ r) r) r) 0 n
noncomputable def kJ (m : Nat) : Bool := cond (klt n (fun x => kpw P x 24 x)) (cond (klt m (fun i => Nat.beq (ktr n P Ip (kF Fp i) 0) (kF Fp i))) (cond (klt m (fun i => klt n (fun x => cond (ktb (kF Fp i) x) (cond (Nat.beq x 0) true (cond (Nat.beq (kC Cp i x) x) false true)) true))) (Nat.ble (kup (fun d r => Nat.add r (cond (Nat.ble (kmm n P Fp Ip Cp (Nat.sub (Nat.sub m 1) d)) 2) 1 0)) 0 m) 15) false) false) false
noncomputable def kchk : Bool := cond (kA n P Ip) (cond (kB n P S) (cond (kE n P S F Fp Ip) (cond (kG n P Fp Cp Kp Qp (klen F)) (cond (kH Qp Dp (klen F)) (kJ n P Fp Ip Cp (klen F)) false) false) false) false) false
end KCK
theorem kif {α : Type} (a b : Nat) (x y : α) : cond (Nat.beq a b) x y = if a = b then x else y := by
  cases h : Nat.beq a b with
  | true => rw [if_pos (kbq.mp h)]; rfl
  | false => rw [if_neg (fun e => by rw [kbq.mpr e] at h; cases h)]; rfl
theorem kil {α : Type} (a b : Nat) (x y : α) : cond (Nat.ble (Nat.succ a) b) x y = if a < b then x else y := by
  cases h : Nat.ble (Nat.succ a) b with
  | true => rw [if_pos (show a < b from kbl.mp h)]; rfl
  | false => rw [if_neg (fun e : a < b => by rw [kbl.mpr (show Nat.succ a ≤ b from e)] at h; cases h)]; rfl
theorem kib {α : Type} (a b : Nat) (x y : α) : cond (ktb a b) x y = if a.testBit b = true then x else y := by
  rw [ktb_e]
  cases a.testBit b <;> rfl
theorem klt_i {p : Nat → Bool} : ∀ {n : Nat}, (∀ k, k < n → p k = true) → klt n p = true
  | 0, _ => rfl
  | n + 1, h => kcd.mpr ⟨h n (by omega), klt_i (fun k hk => h k (by omega))⟩
theorem kfl_s {Fp : Nat} : ∀ {l : List Nat} {i0 : Nat}, kfl Fp l i0 = true → ∀ i, i < l.length → l.getD i 0 = kF Fp (i0 + i)
  | [], _, _, i, hi => absurd hi (Nat.not_lt_zero _)
  | x :: l, i0, h, i, hi => by
    have h2 : Nat.beq x (kF Fp i0) = true ∧ kfl Fp l (Nat.succ i0) = true := kcd.mp h
    match i with
    | 0 => exact kbq.mp h2.1
    | i + 1 =>
      have h3 := kfl_s h2.2 i (by simpa using hi)
      rw [show i0 + (i + 1) = Nat.succ i0 + i by omega]
      exact h3
theorem gSb_z {S C : Nat} {a : Nat} (h : gSb S C) (ha : C.testBit a = true) : gSb (Nat.lor S (Nat.pow 2 a)) C := gSb.or h (gSb.p2 ha)
theorem kc1_s {T : zGT} (hG : gGd T) {s g : Nat} (hs : s < 2 ^ gN T) (hg : g < gN T) : gSb (s ||| 2 ^ g) (kc1 T.2.1 s g) ∧ ∀ C, gCl T C → gSb (s ||| 2 ^ g) C → gSb (kc1 T.2.1 s g) C ∧ kc1 T.2.1 s g < 2 ^ gN T := by
  have h0 : s ||| 2 ^ g < 2 ^ gN T := Nat.or_lt_two_pow hs (Nat.pow_lt_pow_right (by omega) hg)
  constructor
  · exact kfd_i (Q := fun r => gSb (s ||| 2 ^ g) r) (gSb.rf _) (fun a r _ hr => hr.tr (gSb.ol _ _))
  · intro C hC hX
    refine kfd_i (Q := fun r => gSb r C ∧ r < 2 ^ gN T) ⟨hX, h0⟩ (fun a r ha hr => ?_)
    have han := gbit_lt hs ha
    have ha2 : C.testBit a = true := hX a (by rw [Nat.testBit_or, ha]; rfl)
    have hg2 : C.testBit g = true := hX g (by rw [Nat.testBit_or, Nat.testBit_two_pow_self, Bool.or_true])
    exact ⟨gSb_z hr.1 (hC.2 a g han hg ha2 hg2), Nat.or_lt_two_pow hr.2 (Nat.pow_lt_pow_right (by omega) (hG.2.2.2 a g han hg))⟩
theorem kps_s {T : zGT} (hG : gGd T) (X : Nat) : gSb X (kps T.2.1 X) ∧ ∀ C, gCl T C → gSb X C ∧ X < 2 ^ gN T → gSb (kps T.2.1 X) C ∧ kps T.2.1 X < 2 ^ gN T := by
  constructor
  · exact kfd_i (Q := fun r => gSb X r) (gSb.rf _) (fun a r _ hr => kfd_i (Q := fun r => gSb X r) hr (fun b r _ hr => hr.tr (gSb.ol _ _)))
  · intro C hC hX
    refine kfd_i (Q := fun r => gSb r C ∧ r < 2 ^ gN T) hX (fun a r ha hr => kfd_i (Q := fun r => gSb r C ∧ r < 2 ^ gN T) hr (fun b r hb hr => ?_))
    have han := gbit_lt hX.2 ha
    have hbn := gbit_lt hX.2 hb
    exact ⟨gSb_z hr.1 (hC.2 a b han hbn (hX.1 a ha) (hX.1 b hb)), Nat.or_lt_two_pow hr.2 (Nat.pow_lt_pow_right (by omega) (hG.2.2.2 a b han hbn))⟩
theorem gcb_lt {S R : Nat} (h : gSb S R) (hne : S ≠ R) (hR : R < 2147483648) : gcb S < gcb R := by
  have hb : ∀ k, (S >>> k) % 2 ≤ (R >>> k) % 2 ∧ (S.testBit k ≠ R.testBit k → (S >>> k) % 2 < (R >>> k) % 2) := by
    intro k
    have e1 := Nat.testBit_eq_decide_div_mod_eq (x := S) (i := k)
    have e2 := Nat.testBit_eq_decide_div_mod_eq (x := R) (i := k)
    rw [← Nat.shiftRight_eq_div_pow] at e1 e2
    have hk := h k
    have m1 := Nat.mod_two_eq_zero_or_one (S >>> k)
    have m2 := Nat.mod_two_eq_zero_or_one (R >>> k)
    rcases m1 with m1 | m1 <;> rcases m2 with m2 | m2 <;> rw [m1] at e1 <;> rw [m2] at e2 <;> rw [m1, m2]
    · exact ⟨by omega, fun q => absurd (by rw [e1, e2]) q⟩
    · exact ⟨by omega, fun _ => by omega⟩
    · rw [e1, e2] at hk
      exact absurd (hk rfl) (by decide)
    · exact ⟨by omega, fun q => absurd (by rw [e1, e2]) q⟩
  have key : ∀ n, gup (fun k r => r + (S >>> k) % 2) 0 n ≤ gup (fun k r => r + (R >>> k) % 2) 0 n ∧ ((∃ k, k < n ∧ S.testBit k ≠ R.testBit k) → gup (fun k r => r + (S >>> k) % 2) 0 n < gup (fun k r => r + (R >>> k) % 2) 0 n) := by
    intro n
    induction n with
    | zero => exact ⟨Nat.le_refl _, fun ⟨k, hk, _⟩ => absurd hk (Nat.not_lt_zero _)⟩
    | succ n ih =>
      have b := hb n
      have e1 : gup (fun k r => r + (S >>> k) % 2) 0 (n + 1) = gup (fun k r => r + (S >>> k) % 2) 0 n + (S >>> n) % 2 := rfl
      have e2 : gup (fun k r => r + (R >>> k) % 2) 0 (n + 1) = gup (fun k r => r + (R >>> k) % 2) 0 n + (R >>> n) % 2 := rfl
      rw [e1, e2]
      refine ⟨by omega, fun ⟨k, hk, hd⟩ => ?_⟩
      by_cases e : k = n
      · rw [e] at hd
        have := b.2 hd
        omega
      · have := ih.2 ⟨k, by omega, hd⟩
        omega
  refine (key 31).2 (Classical.byContradiction fun hx => hne (Nat.eq_of_testBit_eq fun i => ?_))
  by_cases hi : i < 31
  · exact Classical.byContradiction fun hd => hx ⟨i, hi, hd⟩
  · have h31 : (2 : Nat) ^ 31 ≤ 2 ^ i := Nat.pow_le_pow_right (by omega) (by omega)
    have h4 : (2 : Nat) ^ 31 = 2147483648 := rfl
    have h5 := h.le
    rw [Nat.testBit_lt_two_pow (show S < 2 ^ i by omega), Nat.testBit_lt_two_pow (show R < 2 ^ i by omega)]
set_option maxHeartbeats 4000000 in
theorem gmin {p : Nat → Prop} : ∀ m, p m → ∃ k, p k ∧ ∀ j, j < k → ¬ p j := by
  intro m
  induction m using Nat.strongRecOn with
  | ind m ih =>
    intro h
    by_cases g : ∃ j, j < m ∧ p j
    · obtain ⟨j, h1, h2⟩ := g
      exact ih j h1 h2
    · exact ⟨m, h, fun j hj hp => g ⟨j, hj, hp⟩⟩
theorem gcomp2 {T : zGT} {J : List Nat} (h1 : 1 ∈ J) (hJ : ∀ S ∈ J, ∀ g, g < gN T → ¬ S.testBit g = true → (∃ R ∈ J, gLC T (S ||| 2 ^ g) R) ∨ ∃ x, x < g ∧ ¬ S.testBit x = true ∧ ∀ C, gCl T C → gSb (S ||| 2 ^ g) C → C.testBit x = true) {C : Nat} (hn : C < 2 ^ gN T) (hC : gCl T C) : C ∈ J := by
  have key : ∀ (d S : Nat), S ∈ J → gSb S C → C - S = d → C ∈ J := by
    intro d
    induction d using Nat.strongRecOn with
    | ind d ih =>
      intro S hS hs hd
      by_cases he : gSb C S
      · rw [hs.an he] at hS
        exact hS
      · have : ∃ g, C.testBit g = true ∧ ¬ S.testBit g = true := by
          refine Classical.byContradiction fun hx => he fun k hk => ?_
          refine Classical.byContradiction fun hy => hx ⟨k, hk, hy⟩
        obtain ⟨g0, hg0⟩ := this
        obtain ⟨g, ⟨hg1, hg2⟩, hmin⟩ := gmin (p := fun g => C.testBit g = true ∧ ¬ S.testBit g = true) g0 hg0
        have hSg : gSb (S ||| 2 ^ g) C := hs.or (gSb.p2 hg1)
        rcases hJ S hS g (gbit_lt hn hg1) hg2 with ⟨R, hR, hLC⟩ | ⟨x, x1, x2, x3⟩
        · have hRC : gSb R C := hLC.2.2.2 C hC hSg
          have hSR : gSb S R := (gSb.ol S (2 ^ g)).tr hLC.2.1
          have hne : S ≠ R := by
            rintro rfl
            exact hg2 (hLC.2.1 g (by rw [Nat.testBit_or, Nat.testBit_two_pow_self, Bool.or_true]))
          have l1 := hSR.le
          have l2 := hRC.le
          exact ih (C - R) (by omega) R hR hRC rfl
        · exact absurd ⟨x3 C hC hSg, x2⟩ (hmin x x1)
  refine key (C - 1) 1 h1 (fun k hk => ?_) rfl
  have : k = 0 := Nat.testBit_one_eq_true_iff_self_eq_zero.mp hk
  rw [this]; exact hC.1
theorem gleast {T : zGT} (hG : gGd T) {X : Nat} (hX : X < 2 ^ gN T) : ∃ R, gLC T X R := by
  have hp := Nat.two_pow_pos (gN T)
  obtain ⟨R, ⟨r1, r2, r3⟩, hmin⟩ := gmin (p := fun C => C < 2 ^ gN T ∧ gSb X C ∧ gCl T C) (2 ^ gN T - 1) ⟨by omega, fun k hk => by
    rw [Nat.testBit_two_pow_sub_one, decide_eq_true_iff]
    exact gbit_lt hX hk, by
    rw [Nat.testBit_two_pow_sub_one, decide_eq_true_iff]
    exact hG.1, fun a b ha hb _ _ => by
    rw [Nat.testBit_two_pow_sub_one, decide_eq_true_iff]
    exact hG.2.2.2 a b ha hb⟩
  refine ⟨R, r1, r2, r3, fun C hC hXC => ?_⟩
  have hle : R &&& C ≤ R := Nat.and_le_left
  have hXR : gSb X (R &&& C) := fun k hk => by rw [Nat.testBit_and, r2 k hk, hXC k hk]; rfl
  rcases Nat.lt_or_ge (R &&& C) R with g | g
  · exact absurd ⟨Nat.lt_of_le_of_lt hle r1, hXR, r3.and hC⟩ (hmin _ g)
  · have e : R &&& C = R := by omega
    intro k hk
    rw [← e, Nat.testBit_and, Bool.and_eq_true] at hk
    exact hk.2
theorem klo_s {s g X : Nat} (hs : gSb s X) (h : Nat.beq (Nat.mod X (Nat.pow 2 g)) (Nat.mod s (Nat.pow 2 g)) = false) : ∃ x, x < g ∧ ¬ s.testBit x = true ∧ X.testBit x = true := by
  refine Classical.byContradiction fun hn => ?_
  have e : X % 2 ^ g = s % 2 ^ g := Nat.eq_of_testBit_eq fun i => by
    rw [Nat.testBit_mod_two_pow, Nat.testBit_mod_two_pow, Bool.eq_iff_iff, Bool.and_eq_true, Bool.and_eq_true, decide_eq_true_iff]
    constructor
    · rintro ⟨h1, h2⟩
      refine ⟨h1, Classical.byContradiction fun h3 => hn ⟨i, h1, h3, h2⟩⟩
    · rintro ⟨h1, h2⟩
      exact ⟨h1, hs i h2⟩
  have h2 : Nat.beq (X % 2 ^ g) (s % 2 ^ g) = false := h
  rw [e, Nat.beq_refl] at h2
  exact absurd h2 (by decide)
theorem kokF_s {T : zGT} (hG : gGd T) {P : Nat} (tP : T.2.1 = P) {S : List Nat} (hsub : ∀ R ∈ S, R < 2 ^ gN T ∧ gCl T R) {s g : Nat} : ∀ (fuel X : Nat), gSb (s ||| 2 ^ g) X → (∀ C, gCl T C → gSb (s ||| 2 ^ g) C → gSb X C ∧ X < 2 ^ gN T) → kokF P S s g fuel X = true → (∃ R ∈ S, gLC T (s ||| 2 ^ g) R) ∨ ∃ x, x < g ∧ ¬ s.testBit x = true ∧ ∀ C, gCl T C → gSb (s ||| 2 ^ g) C → C.testBit x = true := by
  have fin : ∀ X, kmem S X = true → gSb (s ||| 2 ^ g) X → (∀ C, gCl T C → gSb (s ||| 2 ^ g) C → gSb X C ∧ X < 2 ^ gN T) → ∃ R ∈ S, gLC T (s ||| 2 ^ g) R := fun X hm r1 r2 => ⟨X, kmem_s hm, (hsub X (kmem_s hm)).1, r1, (hsub X (kmem_s hm)).2, fun C hC hX => (r2 C hC hX).1⟩
  have low : ∀ X, Nat.beq (Nat.mod X (Nat.pow 2 g)) (Nat.mod s (Nat.pow 2 g)) = false → gSb (s ||| 2 ^ g) X → (∀ C, gCl T C → gSb (s ||| 2 ^ g) C → gSb X C ∧ X < 2 ^ gN T) → ∃ x, x < g ∧ ¬ s.testBit x = true ∧ ∀ C, gCl T C → gSb (s ||| 2 ^ g) C → C.testBit x = true := fun X hl r1 r2 => by
    obtain ⟨x, x1, x2, x3⟩ := klo_s ((gSb.ol s (2 ^ g)).tr r1) hl
    exact ⟨x, x1, x2, fun C hC hX => (r2 C hC hX).1 x x3⟩
  intro fuel
  induction fuel with
  | zero =>
    intro X r1 r2 h
    have h2 : cond (Nat.beq (Nat.mod X (Nat.pow 2 g)) (Nat.mod s (Nat.pow 2 g))) (kmem S X) true = true := h
    cases hl : Nat.beq (Nat.mod X (Nat.pow 2 g)) (Nat.mod s (Nat.pow 2 g)) with
    | false => exact Or.inr (low X hl r1 r2)
    | true =>
      rw [hl] at h2
      exact Or.inl (fin X h2 r1 r2)
  | succ fuel ih =>
    intro X r1 r2 h
    have h2 : cond (Nat.beq (Nat.mod X (Nat.pow 2 g)) (Nat.mod s (Nat.pow 2 g))) (cond (kmem S X) true (kokF P S s g fuel (kps P X))) true = true := h
    cases hl : Nat.beq (Nat.mod X (Nat.pow 2 g)) (Nat.mod s (Nat.pow 2 g)) with
    | false => exact Or.inr (low X hl r1 r2)
    | true =>
      rw [hl] at h2
      cases hm : kmem S X with
      | true => exact Or.inl (fin X hm r1 r2)
      | false =>
        rw [hm] at h2
        have k2 := kps_s hG X
        rw [tP] at k2
        exact ih _ (r1.tr k2.1) (fun C hC hX => k2.2 C hC (r2 C hC hX)) h2
theorem kchk_s {n P : Nat} {S F : List Nat} {Fp Ip Cp Kp Qp Dp : Nat} (h : kchk n P S F Fp Ip Cp Kp Qp Dp = true) : gOK (n, P, S, F, []) ∧ gEx (n, P, S, F, []) := by
  obtain ⟨hA, hr⟩ := kcd.mp h
  obtain ⟨hB, hr⟩ := kcd.mp hr
  obtain ⟨hE, hr⟩ := kcd.mp hr
  obtain ⟨hg, hr⟩ := kcd.mp hr
  obtain ⟨hH, hJ⟩ := kcd.mp hr
  clear h hr
  generalize eT : ((n, P, S, F, []) : zGT) = T
  have tN : gN T = n := by rw [← eT]; rfl
  have tP : T.2.1 = P := by rw [← eT]
  have tS : gS T = S := by rw [← eT]; rfl
  have tF : gF T = F := by rw [← eT]; rfl
  have hgm : ∀ a b, kgm P a b = gm T a b := fun a b => by rw [← tP]; rfl
  -- members
  obtain ⟨a1, a2⟩ := kcd.mp hA
  obtain ⟨a2, a3⟩ := kcd.mp a2
  have a1 := kbl.mp a1
  have a2 := kbl.mp a2
  have a3 := klt_s a3
  have hI : ∀ a, a < n → kI Ip a = gi T a := by
    intro a ha
    obtain ⟨-, b2⟩ := kcd.mp (a3 a ha)
    obtain ⟨b2, -⟩ := kcd.mp b2
    rw [← kbq.mp b2]
    unfold gi
    rw [tN]
    exact kup_c 0 n (fun k r _ => by rw [kif, hgm])
  have hG : gGd T := by
    refine ⟨by omega, by omega, fun a ha => ?_, fun a b ha hb => ?_⟩
    · rw [tN] at ha ⊢
      rw [← hI a ha]
      exact kbl.mp (kcd.mp (a3 a ha)).1
    · rw [tN] at ha hb ⊢
      rw [← hgm]
      exact kbl.mp (klt_s (kcd.mp (kcd.mp (a3 a ha)).2).2 b hb)
  have htr : ∀ X g, g < n → ktr n P Ip X g = gtr T X g := by
    intro X g hgn
    rw [gtr_e, tN]
    refine kup_c 0 n (fun k r _ => ?_)
    rw [kib, hgm, hgm, hI g hgn]
    rfl
  have hle : ∀ X, kle n P Ip X = glt T X := by
    intro X
    rw [glt_e, tN]
    refine kup_c X n (fun k r hk => ?_)
    rw [kil, htr X k hk]
    rfl
  have hcb : ∀ X, kcb X = gcb X := fun X => kup_e _ _ _
  have hky : ∀ X, kky X = gky X := fun X => by
    show kcb X * 16777216 + X = _
    rw [hcb]; rfl
  -- subgroups
  obtain ⟨b1, b2⟩ := kcd.mp hB
  obtain ⟨b2, b3⟩ := kcd.mp b2
  obtain ⟨b3, b4⟩ := kcd.mp b3
  have b1 := kbl.mp b1
  rw [klen_e] at b1
  have b2 := kmem_s b2
  have b3 := kall_s b3
  have b4 := kall_s b4
  have hsub : ∀ s ∈ S, gSub T s := by
    intro s hs
    obtain ⟨c1, c2⟩ := kcd.mp (b3 s hs)
    obtain ⟨c2, c3⟩ := kcd.mp c2
    have c1 : s < 2 ^ n := kbl.mp c1
    refine ⟨by rw [tS]; exact hs, by rw [tN]; exact c1, by rw [← ktb_e]; exact c2, fun a b _ _ ha hb => ?_⟩
    have := kal_s (kal_s c3 a ha) b hb
    rw [ktb_e, hgm] at this
    exact this
  have hJq : ∀ s ∈ S, ∀ g, g < gN T → ¬ s.testBit g = true → (∃ R ∈ S, gLC T (s ||| 2 ^ g) R) ∨ ∃ x, x < g ∧ ¬ s.testBit x = true ∧ ∀ C, gCl T C → gSb (s ||| 2 ^ g) C → C.testBit x = true := fun s hs g hgn ht => by
    obtain ⟨s1, s2, s3⟩ := hsub s hs
    have c := klt_s (b4 s hs) g (by omega)
    rw [ktb_e, Bool.eq_false_iff.mpr ht] at c
    have c : kokF P S s g 3 (kc1 P s g) = true := c
    have k1 := kc1_s hG s2 hgn
    rw [tP] at k1
    exact kokF_s hG tP (fun R hR => (hsub R hR).2) 3 _ k1.1 k1.2 c
  have hO2 : (gS T).length ≤ 64 ∧ 1 ∈ gS T ∧ ∀ S ∈ gS T, gSub T S ∧ ∀ g, g < gN T → ∃ R ∈ gS T, gLC T (S ||| 2 ^ g) R := by
    rw [tS]
    refine ⟨b1, b2, fun s hs => ⟨hsub s hs, fun g hgn => ?_⟩⟩
    obtain ⟨R, hR⟩ := gleast hG (X := s ||| 2 ^ g) (Nat.or_lt_two_pow (hsub s hs).2.1 (Nat.pow_lt_pow_right (by omega) hgn))
    exact ⟨R, gcomp2 b2 hJq hR.1 hR.2.2.1, hR⟩
  -- first ones
  obtain ⟨e1, e2⟩ := kcd.mp hE
  obtain ⟨e2, e3⟩ := kcd.mp e2
  obtain ⟨e3, e4⟩ := kcd.mp e3
  have hFi : ∀ i, i < F.length → F.getD i 0 = kF Fp i := fun i hi => by
    have := kfl_s e1 i hi
    rwa [Nat.zero_add] at this
  have e2 := kall_s e2
  have e3 := kall_s e3
  have e4 := klt_s e4
  rw [klen_e] at e4
  have hso : ∀ d i, i + d + 1 < F.length → gky (F.getD i 0) < gky (F.getD (i + d + 1) 0) := by
    intro d
    induction d with
    | zero =>
      intro i hi
      have := kbl.mp (e4 i (by have := Nat.pred_eq_sub_one (n := F.length); omega))
      rw [hky, hky, ← hFi i (by omega), ← hFi (Nat.succ i) (by omega)] at this
      exact this
    | succ d ih =>
      intro i hi
      have h1 := ih i (by omega)
      have := kbl.mp (e4 (i + d + 1) (by have := Nat.pred_eq_sub_one (n := F.length); omega))
      rw [hky, hky, ← hFi (i + d + 1) (by omega), ← hFi (Nat.succ (i + d + 1)) (by omega)] at this
      exact Nat.lt_trans h1 this
  -- marks
  obtain ⟨g1, g2⟩ := kcd.mp hg
  obtain ⟨g2, g3⟩ := kcd.mp g2
  obtain ⟨g3, g4⟩ := kcd.mp g3
  obtain ⟨g4, g5⟩ := kcd.mp g4
  have g1 := kbl.mp g1
  rw [klen_e] at g1 g2 g3 g4 g5
  have hC : ∀ i x, i < F.length → x < n → kC Cp i x = gcos T (F.getD i 0) x := by
    intro i x hi hx
    have := kbq.mp (klt_s (klt_s g2 i hi) x hx)
    rw [← this, gcos_e, tN, hFi i hi]
    refine kup_c x n (fun k r _ => ?_)
    rw [kib, kil, hgm]
    show _ = (if (kF Fp i).testBit k && decide (gm T k x < r) then gm T k x else r)
    cases (kF Fp i).testBit k <;> simp
  have hfx : ∀ i H x, i < F.length → x < n → kfx n P Cp i H x = gfx T (F.getD i 0) H x := by
    intro i H x hi hx
    refine Bool.eq_iff_iff.mpr ?_
    rw [gfx_t]
    unfold kfx
    rw [kcd, kbq, hC i x hi hx, tN]
    refine and_congr Iff.rfl ⟨fun h k hk hb => ?_, fun h => klt_i fun k hk => ?_⟩
    · have := klt_s h k hk
      rw [kib, if_pos hb, kbq, hgm, hC i _ hi (by have := hG.2.2.2 x k (by omega) (by omega); omega)] at this
      exact this
    · rw [kib]
      split
      · rename_i hb
        rw [kbq, hgm, hC i _ hi (by have := hG.2.2.2 x k (by omega) (by omega); omega)]
        exact h k hk hb
      · rfl
  have hmk : ∀ i k, i < F.length → k < F.length → kK Kp i k = gmk T (F.getD i 0) (F.getD k 0) := by
    intro i k hi hk
    rw [← kbq.mp (klt_s (klt_s g3 i hi) k hk), gmk_e, tN, ← hFi k hk]
    refine kup_c 0 n (fun x r hx => ?_)
    rw [hfx i _ x hi hx]
    show _ = r + (gfx T (F.getD i 0) (F.getD k 0) x).toNat
    cases gfx T (F.getD i 0) (F.getD k 0) x <;> rfl
  have hdg : ∀ i, i < F.length → 1 ≤ gmk T (F.getD i 0) (F.getD i 0) := fun i hi => by
    rw [← hmk i i hi hi]
    exact kbl.mp (klt_s g4 i hi)
  have hO : gOK T := by
    refine ⟨hG, hO2, ⟨?_, ?_, ?_⟩, ?_⟩
    · rw [tS, tF]
      intro s hs
      rw [← hle]
      exact kmem_s (kcd.mp (e2 s hs)).1
    · rw [tS, tF]
      intro f hf
      rw [← hle]
      exact ⟨kmem_s (kcd.mp (e3 f hf)).1, kbq.mp (kcd.mp (e3 f hf)).2⟩
    · rw [tF]
      intro i j hij hj
      have := hso (j - i - 1) i (by omega)
      rwa [show i + (j - i - 1) + 1 = j by omega] at this
    · rw [tF]
      exact hdg
  refine ⟨hO, ?_⟩
  obtain ⟨j1, j2⟩ := kcd.mp hJ
  obtain ⟨j2, j3⟩ := kcd.mp j2
  obtain ⟨j3, j4⟩ := kcd.mp j3
  rw [klen_e] at j2 j3 j4 hH
  have hFm : ∀ f ∈ F, ∃ i, i < F.length ∧ F.getD i 0 = f := by
    intro f hf
    obtain ⟨i, hi, e⟩ := List.mem_iff_getElem.mp hf
    exact ⟨i, hi, by rw [List.getD_eq_getElem?_getD, List.getElem?_eq_getElem hi]; exact e⟩
  refine ⟨fun m hm => ?_, by rw [tF]; exact g1, ?_, ?_, ?_, ?_⟩
  · rw [tN] at hm
    have key : ∀ fuel j, kpw P m fuel (gpw T m j) = true → ∃ k, k ≤ j + fuel ∧ gpw T m k = 0 := by
      intro fuel
      induction fuel with
      | zero => exact fun j h => ⟨j, by omega, kbq.mp h⟩
      | succ fuel ih =>
        intro j h
        have h2 : cond (Nat.beq (gpw T m j) 0) true (kpw P m fuel (kgm P (gpw T m j) m)) = true := h
        rw [kif] at h2
        split at h2
        · rename_i h0
          exact ⟨j, by omega, h0⟩
        · rw [hgm] at h2
          obtain ⟨k, hk, e⟩ := ih (j + 1) h2
          exact ⟨k, by omega, e⟩
    obtain ⟨k, hk, e⟩ := key 24 0 (klt_s j1 m hm)
    exact ⟨k, by omega, e⟩
  · rw [tF]
    intro f hf
    obtain ⟨i, hi, rfl⟩ := hFm f hf
    have := kbq.mp (klt_s j2 i hi)
    rw [htr _ 0 (by omega), ← hFi i hi] at this
    exact this
  · have hmm : ∀ i, i < F.length → kmm n P Fp Ip Cp i = gmm T (F.getD i 0) := by
      intro i hi
      unfold gmm
      rw [tN]
      refine kup_c 0 n (fun x r hx => ?_)
      rw [kif, kif, htr _ x hx, hC i x hi hx, ← hFi i hi]
      unfold gmmF
      by_cases q1 : gcos T (F.getD i 0) x = x
      · by_cases q2 : gtr T (F.getD i 0) x = F.getD i 0
        · rw [if_pos q1, if_pos q2, if_pos ⟨q2, q1⟩]
        · rw [if_pos q1, if_neg q2, if_neg (fun h => q2 h.1)]
      · rw [if_neg q1, if_neg (fun h => q1 h.2)]
    have hcu : ∀ d, d ≤ F.length → kup (fun d r => Nat.add r (cond (Nat.ble (kmm n P Fp Ip Cp (Nat.sub (Nat.sub F.length 1) d)) 2) 1 0)) 0 d = gcu T d := by
      intro d
      induction d with
      | zero => exact fun _ => rfl
      | succ d ih =>
        intro hd
        show Nat.add (kup _ 0 d) _ = gcu T d + _
        rw [ih (by omega), tF]
        show gcu T d + cond (Nat.ble (kmm n P Fp Ip Cp (F.length - 1 - d)) 2) 1 0 = _
        rw [hmm _ (by omega)]
        congr 1
        cases q : Nat.ble (gmm T (F.getD (F.length - 1 - d) 0)) 2 with
        | true => rw [if_pos (kbl.mp q)]; rfl
        | false => rw [if_neg (fun q2 => by rw [kbl.mpr q2] at q; cases q)]; rfl
    rw [tF, ← hcu F.length (Nat.le_refl _)]
    exact kbl.mp j4
  · rw [tF, tN]
    intro f hf x hx hx0 hcx R hR
    obtain ⟨i, hi, rfl⟩ := hFm f hf
    have hxf : (F.getD i 0).testBit x = false := by
      cases q : (F.getD i 0).testBit x with
      | false => rfl
      | true =>
        have := klt_s (klt_s j3 i hi) x hx
        rw [← hFi i hi, kib, if_pos q, kif, if_neg hx0, kif, hC i x hi hx, if_pos hcx] at this
        cases this
    have hRS := hO.mem hR
    have hRb := hO.sb hRS
    rw [tS] at hRS
    have hs := (gSb.ol (F.getD i 0) (2 ^ x)).tr hR.2.1
    have hne : F.getD i 0 ≠ R := by
      intro e
      have := hR.2.1 x (by rw [Nat.testBit_or, Nat.testBit_two_pow_self, Bool.or_true])
      rw [← e, hxf] at this
      cases this
    have h1 := gcb_lt hs hne (by omega)
    intro e
    have h2 := kbq.mp (kcd.mp (e2 R hRS)).2
    rw [hle, e, hcb, hcb] at h2
    omega
  · refine ⟨fun j k => (kD Dp j k : Int) - 1000, ?_, ?_⟩
    all_goals
      have hqI : ∀ i k, i < F.length → k < F.length → gqI T i k = (kQ Qp i k : Int) ∧ gmkI T i k = gqI T i k * gmkI T i i := by
        intro i k hi hk
        have h1 := kbq.mp (klt_s (klt_s g5 i hi) k hk)
        have h1 : kQ Qp i k * kK Kp i i = kK Kp i k := h1
        rw [hmk i i hi hi, hmk i k hi hk] at h1
        have h2 := hdg i hi
        have e1 : gmkI T i k = (kQ Qp i k : Int) * gmkI T i i := by
          unfold gmkI
          rw [tF, ← h1, Int.natCast_mul]
        have e3 : gmkI T i i ≠ 0 := by
          unfold gmkI
          rw [tF]
          omega
        have e2 : gqI T i k = (kQ Qp i k : Int) := by
          unfold gqI
          rw [e1, Int.mul_ediv_cancel _ e3]
        exact ⟨e2, by rw [e2, e1]⟩
    · rw [tF]
      intro j k hj hk
      have h1 := klt_s (klt_s hH j hj) k hk
      obtain ⟨h1, h2⟩ := kcd.mp h1
      have h1 := kbl.mp h1
      have h2 := kbq.mp h2
      have key : ∀ c, k + c < F.length → gds T (fun j k => (kD Dp j k : Int) - 1000) j k c + (kds Qp Dp j k c : Int) = (if k = j then 1 else 0) + 1000 * (kqs Qp k c : Int) := by
        intro c
        induction c with
        | zero =>
          intro _
          show (if k = j then 1 else 0) + ((0 : Nat) : Int) = (if k = j then 1 else 0) + 1000 * ((0 : Nat) : Int)
          omega
        | succ c ih =>
          intro hc
          have i1 := ih (by omega)
          have q1 := (hqI (k + 1 + c) k (by omega) hk).1
          have e1 : kds Qp Dp j k (c + 1) = kds Qp Dp j k c + kD Dp j (k + 1 + c) * kQ Qp (k + 1 + c) k := rfl
          have e2 : kqs Qp k (c + 1) = kqs Qp k c + kQ Qp (k + 1 + c) k := rfl
          have e3 : gds T (fun j k => (kD Dp j k : Int) - 1000) j k (c + 1) = gds T (fun j k => (kD Dp j k : Int) - 1000) j k c - ((kD Dp j (k + 1 + c) : Int) - 1000) * gqI T (k + 1 + c) k := rfl
          rw [e1, e2, e3, q1, Int.natCast_add, Int.natCast_add, Int.natCast_mul, Int.sub_mul]
          omega
      have hk2 := key (F.length - 1 - k) (by omega)
      have h2 : kD Dp j k + kds Qp Dp j k (F.length - 1 - k) = cond (Nat.beq k j) 1 0 + 1000 * (kqs Qp k (F.length - 1 - k) + 1) := h2
      rw [kif] at h2
      show (-1000 ≤ ((kD Dp j k : Int) - 1000) ∧ ((kD Dp j k : Int) - 1000) ≤ 1000) ∧ ((kD Dp j k : Int) - 1000) = _
      refine ⟨by omega, ?_⟩
      split at h2 <;> rename_i hkj
      · rw [if_pos hkj] at hk2
        omega
      · rw [if_neg hkj] at hk2
        omega
    · rw [tF]
      intro i k hi hk
      exact (hqI i k hi hk).2
noncomputable def kdg (c d : Nat) : Nat := Nat.mod (Nat.shiftRight c (Nat.mul 3 (Nat.sub 5 d))) 8
noncomputable def kco (a b : Nat) : Nat := Nat.add (Nat.add (Nat.add (Nat.add (Nat.add (Nat.mul (kdg b (Nat.mod (Nat.shiftRight a 15) 8)) 32768) (Nat.mul (kdg b (Nat.mod (Nat.shiftRight a 12) 8)) 4096)) (Nat.mul (kdg b (Nat.mod (Nat.shiftRight a 9) 8)) 512)) (Nat.mul (kdg b (Nat.mod (Nat.shiftRight a 6) 8)) 64)) (Nat.mul (kdg b (Nat.mod (Nat.shiftRight a 3) 8)) 8)) (kdg b (Nat.mod (Nat.shiftRight a 0) 8))
theorem kdg_e (c d : Nat) : kdg c d = gdg c d := rfl
noncomputable def kL (L i : Nat) : Nat := Nat.mod (Nat.shiftRight L (Nat.mul 18 i)) 262144
noncomputable def kex (n : Nat) (p : Nat → Bool) : Bool := Nat.rec false (fun k ih => cond (p k) true ih) n
theorem kex_s {p : Nat → Bool} : ∀ {n : Nat}, kex n p = true → ∃ k, k < n ∧ p k = true
  | 0, h => by cases h
  | n + 1, h => by
    have h2 : cond (p n) true (kex n p) = true := h
    cases hb : p n with
    | true => exact ⟨n, by omega, hb⟩
    | false =>
      rw [hb] at h2
      obtain ⟨k, hk, e⟩ := kex_s h2
      exact ⟨k, by omega, e⟩
noncomputable def en (e : Nat) : Nat := Nat.mod e 32
noncomputable def eL (e : Nat) : Nat := Nat.shiftRight e 5
def gMem (e x : Nat) : Prop := ∃ i, i < en e ∧ kL (eL e) i = x
noncomputable def kin (e x : Nat) : Bool := kex (en e) (fun j => Nat.beq (kL (eL e) j) x)
theorem kin_s {e x : Nat} (h : kin e x = true) : gMem e x := by
  obtain ⟨k, hk, h⟩ := kex_s h
  exact ⟨k, hk, kbq.mp h⟩
noncomputable def knth : List Nat → Nat → Nat := List.rec (fun _ => 0) (fun x _ ih i => cond (Nat.beq i 0) x (ih (Nat.pred i)))
theorem knth_m : ∀ (l : List Nat) (i : Nat), knth l i ∈ l ∨ knth l i = 0
  | [], _ => Or.inr rfl
  | x :: l, i => by
    show cond (Nat.beq i 0) x (knth l (Nat.pred i)) ∈ x :: l ∨ cond (Nat.beq i 0) x (knth l (Nat.pred i)) = 0
    cases Nat.beq i 0 with
    | true => exact Or.inl List.mem_cons_self
    | false => exact (knth_m l (Nat.pred i)).imp (List.mem_cons_of_mem _) id
noncomputable def k2 (p : Nat → Nat → Bool) : List Nat → List Nat → Bool := List.rec (fun _ => true) (fun e _ ih l' => List.rec false (fun q t _ => cond (p e q) (ih t) false) l')
theorem k2_s {p : Nat → Nat → Bool} : ∀ {l l' : List Nat}, k2 p l l' = true → ∀ e ∈ l, ∃ q, p e q = true
  | [], _, _, e, he => absurd he List.not_mem_nil
  | x :: l, [], h, _, _ => by cases h
  | x :: l, q :: t, h, e, he => by
    have h2 : p x q = true ∧ k2 p l t = true := kcd.mp h
    rcases List.mem_cons.mp he with rfl | he
    · exact ⟨q, h2.1⟩
    · exact k2_s h2.2 e he
noncomputable def kpb (c : Nat) : Bool := cond (Nat.ble (Nat.succ c) 262144) (klt 6 (fun p => cond (Nat.ble (Nat.succ (kdg c p)) 6) (klt p (fun q => cond (Nat.beq (kdg c p) (kdg c q)) false true)) false)) false
theorem kpb_s {c : Nat} (h : kpb c = true) : gpm c := by
  obtain ⟨h1, h2⟩ := kcd.mp h
  have h2 := klt_s h2
  have hd : ∀ p q, p < 6 → q < p → gdg c p ≠ gdg c q := fun p q hp hq e => by
    have := klt_s (kcd.mp (h2 p hp)).2 q hq
    rw [kdg_e, kdg_e, kif, if_pos e] at this
    cases this
  refine ⟨kbl.mp h1, fun p hp => kbl.mp (kcd.mp (h2 p hp)).1, fun p q hp hq e => ?_⟩
  rcases Nat.lt_trichotomy p q with g | g | g
  · exact absurd e.symm (hd q p hq g)
  · exact g
  · exact absurd e (hd p q hp g)
theorem kmem_i {S : Nat} : ∀ {l : List Nat}, S ∈ l → kmem l S = true
  | [], h => absurd h List.not_mem_nil
  | x :: l, h => by
    show cond (Nat.beq x S) true (kmem l S) = true
    rw [kif]
    split
    · rfl
    · rename_i hne
      rcases List.mem_cons.mp h with rfl | h
      · exact absurd rfl hne
      · exact kmem_i h
noncomputable def kst (n P Ip e : Nat) : Bool := cond (Nat.beq (en e) n) (cond (Nat.beq (kL (eL e) 0) gid) (cond (klt (Nat.pred n) (fun i => Nat.ble (Nat.succ (kL (eL e) i)) (kL (eL e) (Nat.succ i)))) (cond (klt n (fun i => kpb (kL (eL e) i))) (klt n (fun a => klt n (fun b => Nat.beq (kL (eL e) (kgm P a b)) (kco (kL (eL e) a) (kL (eL e) b))))) false) false) false) false
noncomputable def kiv (n P Ip : Nat) : Bool := klt n (fun a => Nat.beq (kgm P a (kI Ip a)) 0)
def gGdE (gT : List zGT) (e : Nat) : Prop := (1 ≤ en e ∧ en e ≤ 24) ∧ kL (eL e) 0 = gid ∧ (∀ i j, i < j → j < en e → kL (eL e) i < kL (eL e) j) ∧ (∀ i, i < en e → gpm (kL (eL e) i)) ∧ ∃ T ∈ gT, gN T = en e ∧ (∀ a b, a < en e → b < en e → gm T a b < en e ∧ kL (eL e) (gm T a b) = gco (kL (eL e) a) (kL (eL e) b)) ∧ ∀ a, a < en e → gi T a < en e ∧ gm T a (gi T a) = 0
def gcj (c ci x : Nat) : Nat := gco (gco ci x) c
noncomputable def kcj (c ci x : Nat) : Nat := kco (kco ci x) c
def gIv (c ci : Nat) : Prop := gpm c ∧ gpm ci ∧ gco c ci = gid ∧ gco ci c = gid
noncomputable def kiv2 (c ci : Nat) : Bool := cond (kpb c) (cond (kpb ci) (cond (Nat.beq (kco c ci) gid) (Nat.beq (kco ci c) gid) false) false) false
theorem kiv2_s {c ci : Nat} (h : kiv2 c ci = true) : gIv c ci := by
  obtain ⟨h1, h2⟩ := kcd.mp h
  obtain ⟨h2, h3⟩ := kcd.mp h2
  obtain ⟨h3, h4⟩ := kcd.mp h3
  exact ⟨kpb_s h1, kpb_s h2, kbq.mp h3, kbq.mp h4⟩
theorem gcj_pm {c ci x : Nat} (h : gIv c ci) (hx : gpm x) : gpm (gcj c ci x) := (h.2.1.co hx).co h.1
theorem gcj_co {c ci x y : Nat} (h : gIv c ci) (hx : gpm x) (hy : gpm y) : gcj c ci (gco x y) = gco (gcj c ci x) (gcj c ci y) := by
  obtain ⟨h1, h2, h3, h4⟩ := h
  unfold gcj
  rw [gco_as (h2.co hx) c, ← gco_as h1 (gco ci y) c, ← gco_as h1 ci y, h3, gco_1 hy.1, ← gco_as (h2.co hx) y c, gco_as h2 x y]
theorem gcj_id {c ci : Nat} (h : gIv c ci) : gcj c ci gid = gid := by
  unfold gcj
  rw [gco_2 h.2.1]
  exact h.2.2.2
theorem gIv.sym {c ci : Nat} (h : gIv c ci) : gIv ci c := ⟨h.2.1, h.1, h.2.2.2, h.2.2.1⟩
theorem gcj_b {c ci x : Nat} (h : gIv c ci) (hx : gpm x) : gcj ci c (gcj c ci x) = x := by
  obtain ⟨h1, h2, h3, h4⟩ := h
  unfold gcj
  rw [← gco_as h1 (gco ci x) c, ← gco_as h1 ci x, h3, gco_1 hx.1, gco_as hx c ci, h3, gco_2 hx]
theorem gIv.co {c ci s si : Nat} (h : gIv c ci) (h2 : gIv s si) : gIv (gco c s) (gco si ci) := by
  obtain ⟨a1, a2, a3, a4⟩ := h
  obtain ⟨b1, b2, b3, b4⟩ := h2
  refine ⟨a1.co b1, b2.co a2, ?_, ?_⟩
  · rw [gco_as a1, ← gco_as b1 si ci, b3, gco_1 a2.1, a3]
  · rw [gco_as b2, ← gco_as a2 c s, a4, gco_1 b1.1, b4]
theorem gcj_2 {c ci s si x : Nat} (h : gIv c ci) (h2 : gIv s si) (hx : gpm x) : gcj (gco c s) (gco si ci) x = gcj s si (gcj c ci x) := by
  obtain ⟨a1, a2, a3, a4⟩ := h
  obtain ⟨b1, b2, b3, b4⟩ := h2
  unfold gcj
  rw [gco_as b2 ci x, ← gco_as b2 (gco ci x) c, gco_as (b2.co (a2.co hx)) c s]
def gTn (c ci e e' : Nat) : Prop := ∀ x, gMem e' x ↔ ∃ y, gMem e y ∧ x = gcj c ci y
theorem nodup_eq {l1 l2 : List Nat} (h1 : l1.Nodup) (hs : ∀ x ∈ l1, x ∈ l2) (hl : l2.length ≤ l1.length) : ∀ x ∈ l2, x ∈ l1 := by
  intro x hx
  refine Classical.byContradiction fun hn => ?_
  have := nodup_len (x :: l1) l2 (List.nodup_cons.mpr ⟨hn, h1⟩) (fun y hy => by
    rcases List.mem_cons.mp hy with rfl | hy
    · exact hx
    · exact hs y hy)
  rw [List.length_cons] at this
  omega
noncomputable def gLs (e : Nat) : List Nat := (List.range (en e)).map (kL (eL e))
theorem gLs_m {e x : Nat} : x ∈ gLs e ↔ gMem e x := by
  unfold gLs gMem
  rw [List.mem_map]
  exact ⟨fun ⟨i, hi, h⟩ => ⟨i, List.mem_range.mp hi, h⟩, fun ⟨i, hi, h⟩ => ⟨i, List.mem_range.mpr hi, h⟩⟩
theorem gLs_l (e : Nat) : (gLs e).length = en e := by unfold gLs; rw [List.length_map, List.length_range]
theorem gGdE.nd {gT : List zGT} {e : Nat} (h : gGdE gT e) : (gLs e).Nodup := by
  unfold gLs
  rw [List.Nodup, List.pairwise_map]
  refine List.Pairwise.imp_of_mem ?_ (List.pairwise_lt_range (n := en e))
  intro i j hi hj hij e2
  rw [List.mem_range] at hi hj
  have := h.2.2.1 i j hij hj
  omega
theorem gGdE.pm {gT : List zGT} {e x : Nat} (h : gGdE gT e) (hx : gMem e x) : gpm x := by
  obtain ⟨i, hi, rfl⟩ := hx
  exact h.2.2.2.1 i hi
theorem gGdE.id {gT : List zGT} {e : Nat} (h : gGdE gT e) : gMem e gid := ⟨0, by have := h.1.1; omega, h.2.1⟩
theorem gGdE.cl {gT : List zGT} {e x y : Nat} (h : gGdE gT e) (hx : gMem e x) (hy : gMem e y) : gMem e (gco x y) := by
  obtain ⟨i, hi, rfl⟩ := hx
  obtain ⟨j, hj, rfl⟩ := hy
  obtain ⟨T, _, -, h2, -⟩ := h.2.2.2.2
  exact ⟨gm T i j, (h2 i j hi hj).1, (h2 i j hi hj).2⟩
theorem gGdE.iv {gT : List zGT} {e x : Nat} (h : gGdE gT e) (hx : gMem e x) : ∃ y, gMem e y ∧ gco x y = gid ∧ gco y x = gid := by
  have hr : ∀ x, gMem e x → ∃ y, gMem e y ∧ gco x y = gid := by
    rintro _ ⟨i, hi, rfl⟩
    obtain ⟨T, _, -, h2, h3⟩ := h.2.2.2.2
    have h4 := (h2 i (gi T i) hi (h3 i hi).1).2
    rw [(h3 i hi).2, h.2.1] at h4
    exact ⟨_, ⟨gi T i, (h3 i hi).1, rfl⟩, h4.symm⟩
  obtain ⟨y, hy, e1⟩ := hr x hx
  obtain ⟨z, hz, e2⟩ := hr y hy
  have hxp := h.pm hx
  have hyp := h.pm hy
  have hzp := h.pm hz
  have : x = z := by
    rw [← gco_2 hxp, ← e2, ← gco_as hxp, e1, gco_1 hzp.1]
  exact ⟨y, hy, e1, by rw [this]; exact e2⟩
def gOut (gl : List Nat) (e d : Nat) : Prop := ∃ G : List Nat, (∀ g ∈ G, gMem e g) ∧ ((∃ l : List Nat, l.Nodup ∧ l.length = 25 ∧ ∀ y ∈ l, gGen (d :: G) y) ∨ ∃ t ∈ gl, (∀ x, gMem e x → gMem t x) ∧ gMem t d ∧ ∀ x, gMem t x → gGen (d :: G) x)
noncomputable def qd (q : Nat) : Nat := Nat.mod q 262144
noncomputable def qo (q : Nat) : Nat := Nat.mod (Nat.shiftRight q 18) 2048
noncomputable def qm (q : Nat) : Nat := Nat.mod (Nat.shiftRight q 29) 32
noncomputable def qw (q : Nat) : Nat := Nat.shiftRight q 34
def gRp (gl : List Nat) (e : Nat) : Prop := e ∈ gl ∧ ∀ x, gpm x → ∃ a b d, gMem e a ∧ gMem e b ∧ x = gco (gco a d) b ∧ gpm d ∧ gOut gl e d
def gWh (gT : List zGT) (gl : List Nat) : Prop := (∀ e ∈ gl, gGdE gT e) ∧ (∃ e ∈ gl, ∀ x, gMem e x ↔ x = gid) ∧ (∀ c, gpm c → ∃ ci, gIv c ci ∧ ∀ e ∈ gl, ∃ e' ∈ gl, gTn c ci e e') ∧ ∀ e ∈ gl, ∃ r c ci, gRp gl r ∧ gIv c ci ∧ gTn c ci r e
def gIsL (gl : List Nat) (gs : List Nat) : Prop := ∃ e ∈ gl, ∀ x, gGen gs x ↔ gMem e x
theorem gGen.mono {gs hs : List Nat} (h : ∀ g ∈ gs, g ∈ hs) {x : Nat} (hx : gGen gs x) : gGen hs x := fun C h0 hC => hx C h0 (fun c g hc hg => hC c g hc (h g hg))
theorem gstep {gT : List zGT} {gl gs : List Nat} (hw : gWh gT gl) (hgs : ∀ g ∈ gs, gpm g) (h : gIsL gl gs) {g : Nat} (hg : gpm g) {C : List Nat} (hC : C.length ≤ 24) (hC0 : gid ∈ C) (hC1 : ∀ c ∈ C, ∀ x ∈ g :: gs, gco c x ∈ C) : gIsL gl (g :: gs) := by
  obtain ⟨e, he, hex⟩ := h
  obtain ⟨w1, -, w3, w4⟩ := hw
  obtain ⟨r, c, ci, hr, hc, hrt⟩ := w4 e he
  have hgg : ∀ x ∈ g :: gs, gpm x := fun x hx => by
    rcases List.mem_cons.mp hx with rfl | hx
    · exact hg
    · exact hgs x hx
  have gr := w1 r hr.1
  -- the move seen from the representative
  obtain ⟨a, b, d, ha, hb, hgd, hd, G, hG, ho⟩ := hr.2 (gcj ci c g) (gcj_pm hc.sym hg)
  have tn : ∀ y, gMem r y → gGen (g :: gs) (gcj c ci y) := fun y hy => ((hex _).mpr ((hrt _).mpr ⟨y, hy, rfl⟩)).mono (fun z hz => List.mem_cons_of_mem _ hz)
  have hgc : gcj c ci (gcj ci c g) = g := gcj_b hc.sym hg
  obtain ⟨ai, hai, -, a2⟩ := gr.iv ha
  obtain ⟨bi, hbi, b1, -⟩ := gr.iv hb
  have pa := gr.pm ha
  have pb := gr.pm hb
  have pai := gr.pm hai
  have pbi := gr.pm hbi
  have hde : d = gco (gco ai (gcj ci c g)) bi := by
    rw [hgd, ← gco_as pai (gco a d) b, ← gco_as pai a d, a2, gco_1 hd.1, gco_as hd b bi, b1, gco_2 hd]
  have hgen : gGen (g :: gs) (gcj c ci d) := by
    rw [hde, gcj_co hc (pai.co (gcj_pm hc.sym hg)) pbi, gcj_co hc pai (gcj_pm hc.sym hg), hgc]
    refine gGen.mul hgg (gGen.mul hgg (tn ai hai) ?_) (tn bi hbi)
    have := (gGen.id (g :: gs)).g (g := g) List.mem_cons_self
    rwa [gco_1 hg.1] at this
  have hdG : ∀ y ∈ d :: G, gpm y := fun y hy => by
    rcases List.mem_cons.mp hy with rfl | hy
    · exact hd
    · exact gr.pm (hG y hy)
  have turn : ∀ y, gGen (d :: G) y → gpm y ∧ gGen (g :: gs) (gcj c ci y) := by
    intro y hy
    refine hy (fun y => gpm y ∧ gGen (g :: gs) (gcj c ci y)) ⟨gid_pm, by rw [gcj_id hc]; exact gGen.id _⟩ (fun x z hx hz => ?_)
    refine ⟨hx.1.co (hdG z hz), ?_⟩
    rw [gcj_co hc hx.1 (hdG z hz)]
    refine gGen.mul hgg hx.2 ?_
    rcases List.mem_cons.mp hz with rfl | hz
    · exact hgen
    · exact tn z (hG z hz)
  rcases ho with ⟨l, l1, l2, l3⟩ | ⟨t, ht, t1, t2, t3⟩
  · -- more than 24
    exfalso
    have hin : ∀ x, gGen (g :: gs) x → x ∈ C := fun x hx => hx (fun y => y ∈ C) hC0 (fun y z hy hz => hC1 y hy z hz)
    have := nodup_len (l.map (gcj c ci)) C (by
      rw [List.Nodup, List.pairwise_map]
      refine List.Pairwise.imp_of_mem ?_ l1
      intro x y hx hy hxy e2
      have g1 := gcj_b hc (turn x (l3 x hx)).1
      have g2 := gcj_b hc (turn y (l3 y hy)).1
      rw [e2, g2] at g1
      exact hxy g1.symm) (by
      intro x hx
      obtain ⟨y, hy, rfl⟩ := List.mem_map.mp hx
      exact hin _ (turn y (l3 y hy)).2)
    rw [List.length_map] at this
    omega
  · obtain ⟨ci2, hc2, hall⟩ := w3 c hc.1
    have hci : ci2 = ci := by
      rw [← gco_1 hc2.2.1.1, ← hc.2.2.2, gco_as hc.2.1, hc2.2.2.1, gco_2 hc.2.1]
    rw [hci] at hc2 hall
    obtain ⟨e', he', htn⟩ := hall t ht
    have gt := w1 t ht
    refine ⟨e', he', fun x => ⟨fun hx => ?_, fun hx => ?_⟩⟩
    · refine hx (fun x => gMem e' x) ((htn _).mpr ⟨gid, gt.id, (gcj_id hc).symm⟩) (fun y z hy hz => ?_)
      obtain ⟨y', hy', rfl⟩ := (htn _).mp hy
      have hz' : ∃ z', gMem t z' ∧ z = gcj c ci z' := by
        rcases List.mem_cons.mp hz with rfl | hz
        · refine ⟨gcj ci c z, ?_, hgc.symm⟩
          rw [hgd]
          exact gt.cl (gt.cl (t1 a ha) t2) (t1 b hb)
        · have : gGen gs z := by
            have := (gGen.id gs).g hz
            rwa [gco_1 (hgs z hz).1] at this
          obtain ⟨y, hy, e2⟩ := (hrt _).mp ((hex _).mp this)
          exact ⟨y, t1 y hy, e2⟩
      obtain ⟨z', hz', rfl⟩ := hz'
      exact (htn _).mpr ⟨gco y' z', gt.cl hy' hz', (gcj_co hc (gt.pm hy') (gt.pm hz')).symm⟩
    · obtain ⟨y, hy, rfl⟩ := (htn _).mp hx
      exact (turn y (t3 y hy)).2
theorem gcls {gT : List zGT} {gl : List Nat} (hw : gWh gT gl) : ∀ (gs : List Nat), (∀ g ∈ gs, gpm g) → (∃ C : List Nat, C.length ≤ 24 ∧ gid ∈ C ∧ ∀ c ∈ C, ∀ x ∈ gs, gco c x ∈ C) → gIsL gl gs
  | [], _, _ => by
    obtain ⟨e, he, h⟩ := hw.2.1
    refine ⟨e, he, fun x => ⟨fun hx => (h x).mpr (hx (fun y => y = gid) rfl (fun _ _ _ hg => absurd hg List.not_mem_nil)), fun hx => ?_⟩⟩
    rw [(h x).mp hx]
    exact gGen.id _
  | g :: gs, hgs, ⟨C, h1, h2, h3⟩ => gstep hw (fun x hx => hgs x (List.mem_cons_of_mem _ hx)) (gcls hw gs (fun x hx => hgs x (List.mem_cons_of_mem _ hx)) ⟨C, h1, h2, fun c hc x hx => h3 c hc x (List.mem_cons_of_mem _ hx)⟩) (hgs g List.mem_cons_self) h1 h2 h3
theorem gall {gT : List zGT} {gl : List Nat} (h1 : ∀ e ∈ gl, gGdE gT e) {s : List Nat} (hs : ∀ x ∈ s, ∃ xi, gIv x xi ∧ ∀ e ∈ gl, ∃ e' ∈ gl, gTn x xi e e') (hg : ∀ c, gpm c → gGen s c) : ∀ c, gpm c → ∃ ci, gIv c ci ∧ ∀ e ∈ gl, ∃ e' ∈ gl, gTn c ci e e' := by
  intro c hc
  refine hg c hc (fun c => ∃ ci, gIv c ci ∧ ∀ e ∈ gl, ∃ e' ∈ gl, gTn c ci e e') ?_ ?_
  · refine ⟨gid, ⟨gid_pm, gid_pm, gco_2 gid_pm, gco_2 gid_pm⟩, fun e he => ⟨e, he, fun x => ?_⟩⟩
    have e1 : ∀ y, gMem e y → gcj gid gid y = y := fun y hy => by
      have hp := (h1 e he).pm hy
      unfold gcj
      rw [gco_1 hp.1, gco_2 hp]
    exact ⟨fun hx => ⟨x, hx, (e1 x hx).symm⟩, fun ⟨y, hy, e2⟩ => by rw [e2, e1 y hy]; exact hy⟩
  · rintro c g ⟨ci, hci, hc2⟩ hgm
    obtain ⟨gi', hgi, hg2⟩ := hs g hgm
    refine ⟨gco gi' ci, hci.co hgi, fun e he => ?_⟩
    obtain ⟨e1, he1, t1⟩ := hc2 e he
    obtain ⟨e2, he2, t2⟩ := hg2 e1 he1
    refine ⟨e2, he2, fun x => ?_⟩
    rw [t2 x]
    constructor
    · rintro ⟨y, hy, rfl⟩
      obtain ⟨z, hz, rfl⟩ := (t1 y).mp hy
      exact ⟨z, hz, (gcj_2 hci hgi ((h1 e he).pm hz)).symm⟩
    · rintro ⟨z, hz, rfl⟩
      exact ⟨gcj c ci z, (t1 _).mpr ⟨z, hz, rfl⟩, gcj_2 hci hgi ((h1 e he).pm hz)⟩
noncomputable def keql : List Nat → List Nat → Bool := List.rec (fun l' => List.rec true (fun _ _ _ => false) l') (fun x _ ih l' => List.rec false (fun y t _ => cond (Nat.beq x y) (ih t) false) l')
theorem keql_s : ∀ {l l' : List Nat}, keql l l' = true → l = l'
  | [], [], _ => rfl
  | [], _ :: _, h => by cases h
  | _ :: _, [], h => by cases h
  | x :: l, y :: t, h => by
    have h2 : Nat.beq x y = true ∧ keql l t = true := kcd.mp h
    rw [kbq.mp h2.1, keql_s h2.2]
noncomputable def kwd (P n : Nat) (B : List Nat) (W : List Nat) : Nat → Bool := List.rec (fun X => Nat.beq (Nat.succ X) (Nat.pow 2 n)) (fun w _ ih X => cond (kmem B (Nat.shiftRight w 5)) (cond (ktb X (Nat.mod w 32)) (ih (Nat.lor X (Nat.pow 2 (kgm P (Nat.mod w 32) (Nat.shiftRight w 5))))) false) false) W
theorem kwd_s {P n : Nat} {B : List Nat} {Q : Nat → Prop} (hQ : ∀ a g, Q a → g ∈ B → Q (kgm P a g)) : ∀ {W : List Nat} {X : Nat}, (∀ k, X.testBit k = true → Q k) → kwd P n B W X = true → ∀ k, k < n → Q k
  | [], X, hX, h, k, hk => by
    have h2 : X + 1 = 2 ^ n := kbq.mp h
    refine hX k ?_
    rw [show X = 2 ^ n - 1 by omega, Nat.testBit_two_pow_sub_one, decide_eq_true_iff]
    exact hk
  | w :: W, X, hX, h, k, hk => by
    have h2 : cond (kmem B (w >>> 5)) (cond (ktb X (w % 32)) (kwd P n B W (X ||| 2 ^ kgm P (w % 32) (w >>> 5))) false) false = true := h
    obtain ⟨h3, h4⟩ := kcd.mp h2
    obtain ⟨h4, h5⟩ := kcd.mp h4
    refine kwd_s hQ (W := W) (fun j hj => ?_) h5 k hk
    rw [Nat.testBit_or, Bool.or_eq_true, Nat.testBit_two_pow, decide_eq_true_iff] at hj
    rcases hj with hj | hj
    · exact hX j hj
    · rw [← hj]
      exact hQ _ _ (hX _ (by rw [← ktb_e]; exact h4)) (kmem_s h3)
noncomputable def eB (e : Nat) : Nat := Nat.shiftRight e (Nat.add 5 (Nat.mul 18 (en e)))
def gGn (e : Nat) : Prop := ∀ Q : Nat → Prop, Q gid → (∀ x b, gMem e x → Q x → b < en e → (eB e).testBit b = true → Q (gco x (kL (eL e) b))) → ∀ x, gMem e x → Q x
noncomputable def kst2 (n P : Nat) (B : List Nat) (e : Nat) : Bool := cond (Nat.beq (en e) n) (cond (Nat.beq (kL (eL e) 0) gid) (cond (klt (Nat.pred n) (fun i => Nat.ble (Nat.succ (kL (eL e) i)) (kL (eL e) (Nat.succ i)))) (kall B (fun b => cond (cond (Nat.ble (Nat.succ b) n) (ktb (eB e) b) false) (cond (kpb (kL (eL e) b)) (klt n (fun a => Nat.beq (kL (eL e) (kgm P a b)) (kco (kL (eL e) a) (kL (eL e) b)))) false) false)) false) false) false
section KST
variable {gT : List zGT} {n P Ip e : Nat} {S F B W : List Nat}
theorem kso_s (h : klt (Nat.pred n) (fun i => Nat.ble (Nat.succ (kL (eL e) i)) (kL (eL e) (Nat.succ i))) = true) : ∀ i j, i < j → j < n → kL (eL e) i < kL (eL e) j := by
  have h3 := klt_s h
  have hp := Nat.pred_eq_sub_one (n := n)
  have key : ∀ d i, i + d + 1 < n → kL (eL e) i < kL (eL e) (i + d + 1) := by
    intro d
    induction d with
    | zero => exact fun i hi => kbl.mp (h3 i (by omega))
    | succ d ih =>
      intro i hi
      exact Nat.lt_trans (ih i (by omega)) (kbl.mp (h3 (i + d + 1) (by omega)))
  intro i j hij hj
  have := key (j - i - 1) i (by omega)
  rwa [show i + (j - i - 1) + 1 = j by omega] at this
def kAs (P n : Nat) : Prop := (∀ a b c, a < n → b < n → c < n → kgm P (kgm P a b) c = kgm P a (kgm P b c)) ∧ ∀ a, a < n → kgm P a 0 = a
theorem kA_m (hA : kA n P Ip = true) : (1 ≤ n ∧ n ≤ 24) ∧ ∀ a b, a < n → b < n → kgm P a b < n := by
  obtain ⟨a1, a2⟩ := kcd.mp hA
  obtain ⟨a2, a3⟩ := kcd.mp a2
  exact ⟨⟨kbl.mp a1, kbl.mp a2⟩, fun a b ha hb => kbl.mp (klt_s (kcd.mp (kcd.mp (klt_s a3 a ha)).2).2 b hb)⟩
theorem kst_as (hA : kA n P Ip = true) (h : kst n P Ip e = true) : kAs P n := by
  have hm := kA_m hA
  obtain ⟨h1, h2⟩ := kcd.mp h
  obtain ⟨h2, h3⟩ := kcd.mp h2
  obtain ⟨h3, h4⟩ := kcd.mp h3
  obtain ⟨h4, h5⟩ := kcd.mp h4
  have hs := kso_s h3
  have hpm : ∀ i, i < n → gpm (kL (eL e) i) := fun i hi => kpb_s (klt_s h4 i hi)
  have hc : ∀ a b, a < n → b < n → kL (eL e) (kgm P a b) = gco (kL (eL e) a) (kL (eL e) b) := fun a b ha hb => kbq.mp (klt_s (klt_s h5 a ha) b hb)
  have inj : ∀ i j, i < n → j < n → kL (eL e) i = kL (eL e) j → i = j := fun i j hi hj eq => by
    rcases Nat.lt_trichotomy i j with g | g | g
    · have := hs i j g hj; omega
    · exact g
    · have := hs j i g hi; omega
  refine ⟨fun a b c ha hb hd => ?_, fun a ha => ?_⟩
  · have m1 := hm.2 a b ha hb
    have m2 := hm.2 b c hb hd
    refine inj _ _ (hm.2 _ _ m1 hd) (hm.2 _ _ ha m2) ?_
    rw [hc _ _ m1 hd, hc _ _ ha m2, hc _ _ ha hb, hc _ _ hb hd, gco_as (hpm a ha)]
  · refine inj _ _ (hm.2 _ _ ha (by omega)) ha ?_
    rw [hc _ _ ha (by omega), kbq.mp h2, gco_2 (hpm a ha)]
theorem kst2_s (hT : (n, P, S, F, []) ∈ gT) (hA : kA n P Ip = true) (hi : kiv n P Ip = true) (hAs : kAs P n) (hw : kwd P n B W 1 = true) (h : kst2 n P B e = true) : gGdE gT e ∧ gGn e := by
  have hm := kA_m hA
  obtain ⟨h1, h2⟩ := kcd.mp h
  obtain ⟨h2, h3⟩ := kcd.mp h2
  obtain ⟨h3, h4⟩ := kcd.mp h3
  have h1 := kbq.mp h1
  have h2 := kbq.mp h2
  have hs := kso_s h3
  have h4 := kall_s h4
  have hg : ∀ g ∈ B, g < n ∧ (eB e).testBit g = true ∧ gpm (kL (eL e) g) ∧ ∀ a, a < n → kL (eL e) (kgm P a g) = gco (kL (eL e) a) (kL (eL e) g) := fun g hg => by
    obtain ⟨g1, g2⟩ := kcd.mp (h4 g hg)
    obtain ⟨g0, g1⟩ := kcd.mp g1
    obtain ⟨g2, g3⟩ := kcd.mp g2
    exact ⟨kbl.mp g0, by rw [← ktb_e]; exact g1, kpb_s g2, fun a ha => kbq.mp (klt_s g3 a ha)⟩
  have h00 : ∀ k, Nat.testBit 1 k = true → k = 0 := fun k hk => Nat.testBit_one_eq_true_iff_self_eq_zero.mp hk
  have n0 : 0 < n := by have := hm.1.1; omega
  have q1 : ∀ k, k < n → k < n ∧ gpm (kL (eL e) k) := kwd_s (P := P) (B := B) (W := W) (X := 1) (Q := fun k => k < n ∧ gpm (kL (eL e) k)) (fun a g ha hgB => by
    obtain ⟨g1, g2, g3, g4⟩ := hg g hgB
    refine ⟨hm.2 a g ha.1 g1, ?_⟩
    rw [g4 a ha.1]
    exact ha.2.co g3) (fun k hk => by
    rw [h00 k hk, h2]
    exact ⟨n0, gid_pm⟩) hw
  have q2 : ∀ k, k < n → k < n ∧ ∀ x, x < n → kL (eL e) (kgm P x k) = gco (kL (eL e) x) (kL (eL e) k) := kwd_s (P := P) (B := B) (W := W) (X := 1) (Q := fun k => k < n ∧ ∀ x, x < n → kL (eL e) (kgm P x k) = gco (kL (eL e) x) (kL (eL e) k)) (fun a g ha hgB => by
    obtain ⟨g1, g2, g3, g4⟩ := hg g hgB
    refine ⟨hm.2 a g ha.1 g1, fun x hx => ?_⟩
    rw [← hAs.1 x a g hx ha.1 g1, g4 _ (hm.2 x a hx ha.1), ha.2 x hx, gco_as (q1 x hx).2, g4 a ha.1]) (fun k hk => by
    rw [h00 k hk]
    exact ⟨n0, fun x hx => by rw [hAs.2 x hx, h2, gco_2 (q1 x hx).2]⟩) hw
  refine ⟨⟨by omega, h2, fun i j hij hj => hs i j hij (by omega), fun i hi => (q1 i (by omega)).2, (n, P, S, F, []), hT, h1.symm, fun a b ha hb => ⟨?_, (q2 b (by omega)).2 a (by omega)⟩, fun a ha => ?_⟩, ?_⟩
  · have := hm.2 a b (by omega) (by omega)
    show kgm P a b < en e
    omega
  · obtain ⟨-, a2⟩ := kcd.mp hA
    obtain ⟨-, a3⟩ := kcd.mp a2
    have a3 := klt_s a3
    have b1 := kbl.mp (kcd.mp (a3 a (by omega))).1
    have b2 := kbq.mp (kcd.mp (kcd.mp (a3 a (by omega))).2).1
    have b3 := kbq.mp (klt_s hi a (by omega))
    have e1 : kI Ip a = gi (n, P, S, F, []) a := by
      rw [← b2]
      unfold gi
      exact kup_c 0 n (fun k r _ => by rw [kif]; rfl)
    rw [e1] at b1 b3
    have b1 : gi (n, P, S, F, []) a < n := b1
    exact ⟨by omega, b3⟩
  · rintro Q hQ0 hQs x ⟨i, hi2, rfl⟩
    have q3 : ∀ k, k < n → k < n ∧ Q (kL (eL e) k) := kwd_s (P := P) (B := B) (W := W) (X := 1) (Q := fun k => k < n ∧ Q (kL (eL e) k)) (fun a g ha hgB => by
      obtain ⟨g1, g2, g3, g4⟩ := hg g hgB
      refine ⟨hm.2 a g ha.1 g1, ?_⟩
      rw [g4 a ha.1]
      exact hQs _ g ⟨a, by have := ha.1; omega, rfl⟩ ha.2 (by omega) g2) (fun k hk => by
      rw [h00 k hk, h2]
      exact ⟨n0, hQ0⟩) hw
    exact (q3 i (by omega)).2
end KST
noncomputable def kall4 (n P : Nat) (S F : List Nat) (Fp Ip Cp Kp Qp Dp : Nat) (B W E : List Nat) : Bool := cond (kchk n P S F Fp Ip Cp Kp Qp Dp) (cond (kiv n P Ip) (cond (kwd P n B W 1) (cond (List.rec false (fun e _ _ => kst n P Ip e) E) (kall E (fun e => kst2 n P B e)) false) false) false) false
def kTab (T : zGT) (E : List Nat) : Prop := (gOK T ∧ gEx T) ∧ ∀ gT : List zGT, T ∈ gT → ∀ e ∈ E, gGdE gT e ∧ gGn e
theorem kall4_s {n P : Nat} {S F : List Nat} {Fp Ip Cp Kp Qp Dp : Nat} {B W E : List Nat} (h : kall4 n P S F Fp Ip Cp Kp Qp Dp B W E = true) : kTab (n, P, S, F, []) E := by
  obtain ⟨h1, h2⟩ := kcd.mp h
  obtain ⟨h2, h3⟩ := kcd.mp h2
  obtain ⟨h3, h4⟩ := kcd.mp h3
  obtain ⟨h4, h5⟩ := kcd.mp h4
  have hA := (kcd.mp h1).1
  have hAs : kAs P n := by
    cases E with
    | nil => cases h4
    | cons e E' => exact kst_as hA h4
  exact ⟨kchk_s h1, fun gT hT e he => kst2_s hT hA h2 hAs h3 (kall_s h5 e he)⟩
noncomputable def kfla (L : List (List Nat)) : List Nat := List.rec [] (fun l _ ih => List.append l ih) L
noncomputable def knl (L : List (List Nat)) : Nat → List Nat := List.rec (fun _ => []) (fun x _ ih i => cond (Nat.beq i 0) x (ih (Nat.pred i))) L
theorem knl_m {y : Nat} : ∀ (L : List (List Nat)) (i : Nat), y ∈ knl L i → y ∈ kfla L
  | [], _, h => absurd h List.not_mem_nil
  | x :: L, i, h => by
    have h2 : y ∈ cond (Nat.beq i 0) x (knl L (Nat.pred i)) := h
    show y ∈ x ++ kfla L
    cases hb : Nat.beq i 0 with
    | true =>
      rw [hb] at h2
      exact List.mem_append_left _ h2
    | false =>
      rw [hb] at h2
      exact List.mem_append_right _ (knl_m L _ h2)
noncomputable def kat (L : List (List Nat)) (j : Nat) : Nat := knth (knl L (Nat.shiftRight j 5)) (Nat.mod j 32)
theorem kat_m (L : List (List Nat)) (j : Nat) : kat L j ∈ kfla L ∨ kat L j = 0 := (knth_m (knl L (j >>> 5)) (j % 32)).imp (knl_m L _) id
noncomputable def ktn2 (c ci e e' : Nat) : Bool := cond (Nat.beq (en e) (en e')) (kal (fun b => kin e' (kcj c ci (kL (eL e) b))) 24 (eB e)) false
theorem ktn2_s {gT : List zGT} {c ci e e' : Nat} (hc : gIv c ci) (he : gGdE gT e) (hn : gGn e) (he' : gGdE gT e') (h : ktn2 c ci e e' = true) : gTn c ci e e' := by
  obtain ⟨h1, h2⟩ := kcd.mp h
  have h1 := kbq.mp h1
  have hin : ∀ y, gMem e y → gMem e' (gcj c ci y) := hn (fun y => gMem e' (gcj c ci y)) (by rw [gcj_id hc]; exact he'.id) (fun x b hx hq hb hb2 => by
    have hxp := he.pm hx
    have hbp := he.pm ⟨b, hb, rfl⟩
    rw [gcj_co hc hxp hbp]
    exact he'.cl hq (kin_s (kal_s h2 b hb2)))
  intro x
  constructor
  · intro hx
    have hnd : ((gLs e).map (gcj c ci)).Nodup := by
      rw [List.Nodup, List.pairwise_map]
      refine List.Pairwise.imp_of_mem ?_ he.nd
      intro a b ha hb hab e2
      have g1 := gcj_b hc (he.pm (gLs_m.mp ha))
      have g2 := gcj_b hc (he.pm (gLs_m.mp hb))
      rw [e2, g2] at g1
      exact hab g1.symm
    have := nodup_eq hnd (l2 := gLs e') (fun z hz => by
      obtain ⟨y, hy, rfl⟩ := List.mem_map.mp hz
      exact gLs_m.mpr (hin y (gLs_m.mp hy))) (by rw [List.length_map, gLs_l, gLs_l]; omega) x (gLs_m.mpr hx)
    obtain ⟨y, hy, rfl⟩ := List.mem_map.mp this
    exact ⟨y, gLs_m.mp hy, rfl⟩
  · rintro ⟨y, hy, rfl⟩
    exact hin y hy
noncomputable def kce2 (gl2 : List (List Nat)) (rl : List Nat) (s1 s1i s2 s2i : Nat) (e q : Nat) : Bool := cond (ktn2 s1 s1i e (kat gl2 (Nat.mod q 2048))) (cond (ktn2 s2 s2i e (kat gl2 (Nat.mod (Nat.shiftRight q 11) 2048))) (cond (kmem rl (knth rl (Nat.mod (Nat.shiftRight q 22) 64))) (cond (kiv2 (Nat.mod (Nat.shiftRight q 28) 262144) (Nat.mod (Nat.shiftRight q 46) 262144)) (ktn2 (Nat.mod (Nat.shiftRight q 28) 262144) (Nat.mod (Nat.shiftRight q 46) 262144) (knth rl (Nat.mod (Nat.shiftRight q 22) 64)) e) false) false) false) false
theorem kat_e {gT : List zGT} {L : List (List Nat)} {e c ci j : Nat} (he : gGdE gT e) (h : ktn2 c ci e (kat L j) = true) : kat L j ∈ kfla L := by
  rcases kat_m L j with g | g
  · exact g
  · have h1 := kbq.mp (kcd.mp h).1
    rw [g] at h1
    have h2 : en 0 = 0 := by decide +kernel
    have := he.1
    omega
theorem kce2_s {gT : List zGT} {gl rl : List Nat} {L : List (List Nat)} {s1 s1i s2 s2i e q : Nat} (hL : kfla L = gl) (h1 : ∀ e ∈ gl, gGdE gT e ∧ gGn e) (hr : ∀ r ∈ rl, gRp gl r) (i1 : gIv s1 s1i) (i2 : gIv s2 s2i) (he : e ∈ gl) (h : kce2 L rl s1 s1i s2 s2i e q = true) : (∃ e' ∈ gl, gTn s1 s1i e e') ∧ (∃ e' ∈ gl, gTn s2 s2i e e') ∧ ∃ r c ci, gRp gl r ∧ gIv c ci ∧ gTn c ci r e := by
  obtain ⟨a1, a2⟩ := kcd.mp h
  obtain ⟨a2, a3⟩ := kcd.mp a2
  obtain ⟨a3, a4⟩ := kcd.mp a3
  obtain ⟨a4, a5⟩ := kcd.mp a4
  have hE := h1 e he
  have b1 := kat_e hE.1 a1
  have c1 := kat_e hE.1 a2
  rw [hL] at b1 c1
  have hrr := hr _ (kmem_s a3)
  have hR := h1 _ hrr.1
  have hiv := kiv2_s a4
  exact ⟨⟨_, b1, ktn2_s i1 hE.1 hE.2 (h1 _ b1).1 a1⟩, ⟨_, c1, ktn2_s i2 hE.1 hE.2 (h1 _ c1).1 a2⟩, _, _, _, hrr, hiv, ktn2_s hiv hR.1 hR.2 hE.1 a5⟩
noncomputable def kw3 (G : List Nat) (fin : Nat → Nat → Bool) (w : Nat) (fuel : Nat) : Nat → Nat → Nat → Bool := Nat.rec (fun k L _ => fin k L) (fun _ ih k L M => cond (kmem G (knth G (Nat.mod (Nat.shiftRight w (Nat.add (Nat.mul 12 k) 10)) 4))) ((fun y => cond (Nat.ble (Nat.succ y) 262144) (cond (ktb M (Nat.mod y 5350)) false (ih (Nat.succ k) (Nat.add L (Nat.mul y (Nat.pow 2 (Nat.mul 18 (Nat.succ k))))) (Nat.lor M (Nat.pow 2 (Nat.mod y 5350))))) false) (kco (kL L (Nat.sub k (Nat.mod (Nat.shiftRight w (Nat.mul 12 k)) 1024))) (knth G (Nat.mod (Nat.shiftRight w (Nat.add (Nat.mul 12 k) 10)) 4)))) false) fuel
theorem kL_lo {L y k i : Nat} (hi : i ≤ k) : kL (L + y * 2 ^ (18 * (k + 1))) i = kL L i := by
  show ((L + y * 2 ^ (18 * (k + 1))) >>> (18 * i)) % 262144 = (L >>> (18 * i)) % 262144
  have e : y * 2 ^ (18 * (k + 1)) = (y * 2 ^ (18 * (k - i)) * 262144) * 2 ^ (18 * i) := by
    rw [show 18 * (k + 1) = 18 * (k - i) + 18 + 18 * i by omega, Nat.pow_add, Nat.pow_add, show (2 : Nat) ^ 18 = 262144 from by decide, Nat.mul_assoc, Nat.mul_assoc, Nat.mul_assoc]
  rw [Nat.shiftRight_eq_div_pow, Nat.shiftRight_eq_div_pow, e, Nat.add_mul_div_right _ _ (Nat.two_pow_pos _), Nat.add_mul_mod_self_right]
theorem kL_hi {L y k : Nat} (hL : L < 2 ^ (18 * (k + 1))) (hy : y < 262144) : kL (L + y * 2 ^ (18 * (k + 1))) (k + 1) = y := by
  show ((L + y * 2 ^ (18 * (k + 1))) >>> (18 * (k + 1))) % 262144 = y
  rw [Nat.shiftRight_eq_div_pow, Nat.add_mul_div_right _ _ (Nat.two_pow_pos _), Nat.div_eq_of_lt hL, Nat.zero_add, Nat.mod_eq_of_lt hy]
theorem kL_bd {L y k : Nat} (hL : L < 2 ^ (18 * (k + 1))) (hy : y < 262144) : L + y * 2 ^ (18 * (k + 1)) < 2 ^ (18 * (k + 1 + 1)) := by
  rw [show 18 * (k + 1 + 1) = 18 + 18 * (k + 1) by omega, Nat.pow_add, show (2 : Nat) ^ 18 = 262144 from by decide]
  have h1 : (y + 1) * 2 ^ (18 * (k + 1)) ≤ 262144 * 2 ^ (18 * (k + 1)) := Nat.mul_le_mul_right _ hy
  rw [Nat.add_mul, Nat.one_mul] at h1
  omega
def K3 (G : List Nat) (k L M : Nat) : Prop := L < 2 ^ (18 * (k + 1)) ∧ ∃ l : List Nat, l.Nodup ∧ l.length = k + 1 ∧ (∀ x ∈ l, gGen G x) ∧ (∀ i, i ≤ k → kL L i ∈ l) ∧ ∀ x ∈ l, M.testBit (x % 5350) = true
theorem kw3_s {G : List Nat} {fin : Nat → Nat → Bool} {w : Nat} : ∀ {fuel k L M : Nat}, kw3 G fin w fuel k L M = true → K3 G k L M → ∃ L' M' : Nat, fin (k + fuel) L' = true ∧ K3 G (k + fuel) L' M'
  | 0, k, L, M, h, h1 => ⟨L, M, h, h1⟩
  | fuel + 1, k, L, M, h, h1 => by
    have h3 : cond (kmem G (knth G (Nat.mod (Nat.shiftRight w (Nat.add (Nat.mul 12 k) 10)) 4))) ((fun y => cond (Nat.ble (Nat.succ y) 262144) (cond (ktb M (Nat.mod y 5350)) false (kw3 G fin w fuel (Nat.succ k) (Nat.add L (Nat.mul y (Nat.pow 2 (Nat.mul 18 (Nat.succ k))))) (Nat.lor M (Nat.pow 2 (Nat.mod y 5350))))) false) (kco (kL L (Nat.sub k (Nat.mod (Nat.shiftRight w (Nat.mul 12 k)) 1024))) (knth G (Nat.mod (Nat.shiftRight w (Nat.add (Nat.mul 12 k) 10)) 4)))) false = true := h
    have hik : Nat.sub k (Nat.mod (Nat.shiftRight w (Nat.mul 12 k)) 1024) ≤ k := Nat.sub_le _ _
    generalize Nat.sub k (Nat.mod (Nat.shiftRight w (Nat.mul 12 k)) 1024) = i at h3 hik
    generalize knth G (Nat.mod (Nat.shiftRight w (Nat.add (Nat.mul 12 k) 10)) 4) = g at h3
    obtain ⟨h4, h5⟩ := kcd.mp h3
    have h6 : cond (Nat.ble (Nat.succ (kco (kL L i) g)) 262144) (cond (ktb M (Nat.mod (kco (kL L i) g) 5350)) false (kw3 G fin w fuel (Nat.succ k) (Nat.add L (Nat.mul (kco (kL L i) g) (Nat.pow 2 (Nat.mul 18 (Nat.succ k))))) (Nat.lor M (Nat.pow 2 (Nat.mod (kco (kL L i) g) 5350))))) false = true := h5
    have hg : ∀ x, gGen G x → gGen G (kco x g) := fun x hx => hx.g (kmem_s h4)
    obtain ⟨hL, l, l1, l2, l3, l4, l5⟩ := h1
    have hy : gGen G (kco (kL L i) g) := hg _ (l3 _ (l4 i hik))
    generalize kco (kL L i) g = y at h6 hy
    obtain ⟨h7, h8⟩ := kcd.mp h6
    have h7 : y < 262144 := kbl.mp h7
    cases hb : ktb M (Nat.mod y 5350) with
    | true => rw [hb] at h8; cases h8
    | false =>
      rw [hb] at h8
      have h9 : kw3 G fin w fuel (k + 1) (L + y * 2 ^ (18 * (k + 1))) (M ||| 2 ^ (y % 5350)) = true := h8
      have hn : M.testBit (y % 5350) = false := by
        rw [ktb_e] at hb
        exact hb
      have hK : K3 G (k + 1) (L + y * 2 ^ (18 * (k + 1))) (M ||| 2 ^ (y % 5350)) := by
        refine ⟨kL_bd hL h7, y :: l, List.nodup_cons.mpr ⟨fun hm => (by rw [l5 y hm] at hn; cases hn), l1⟩, by rw [List.length_cons, l2], fun x hx => ?_, fun j hj => ?_, fun x hx => ?_⟩
        · rcases List.mem_cons.mp hx with rfl | hx
          · exact hy
          · exact l3 x hx
        · by_cases e : j = k + 1
          · rw [e, kL_hi hL h7]
            exact List.mem_cons_self
          · rw [kL_lo (show j ≤ k by omega)]
            exact List.mem_cons_of_mem _ (l4 j (by omega))
        · rw [Nat.testBit_or]
          rcases List.mem_cons.mp hx with rfl | hx
          · rw [Nat.testBit_two_pow_self, Bool.or_true]
          · rw [l5 x hx]
            rfl
      obtain ⟨L', M', f1, f2⟩ := kw3_s h9 hK
      rw [show k + 1 + fuel = k + (fuel + 1) by omega] at f1 f2
      exact ⟨L', M', f1, f2⟩
theorem k2p3 (n : Nat) : (Nat.pow 2 n).testBit n = true := Nat.testBit_two_pow_self
theorem kw3_0 {G : List Nat} {fin : Nat → Nat → Bool} {w m : Nat} (h : kw3 G fin w m 0 gid (Nat.pow 2 (Nat.mod gid 5350)) = true) : ∃ L' : Nat, fin m L' = true ∧ ∃ l : List Nat, l.Nodup ∧ l.length = m + 1 ∧ (∀ x ∈ l, gGen G x) ∧ ∀ i, i ≤ m → kL L' i ∈ l := by
  obtain ⟨L', M', f1, f2⟩ := kw3_s h ⟨by decide +kernel, [gid], List.nodup_cons.mpr ⟨List.not_mem_nil, List.nodup_nil⟩, rfl, fun x hx => (by rw [List.mem_singleton.mp hx]; exact gGen.id G), fun i hi => (by
    have e : i = 0 := by omega
    rw [e, show kL gid 0 = gid from by decide +kernel]
    exact List.mem_cons_self), fun x hx => (by
    rw [List.mem_singleton.mp hx]
    exact k2p3 (Nat.mod gid 5350))⟩
  rw [Nat.zero_add] at f1 f2
  obtain ⟨-, l, l1, l2, l3, l4, -⟩ := f2
  exact ⟨L', f1, l, l1, l2, l3, l4⟩
noncomputable def kp3 (q i : Nat) : Nat := Nat.mod (Nat.shiftRight q (Nat.add (Nat.add 34 (Nat.mul 12 (qm q))) (Nat.mul 5 i))) 32
noncomputable def kw3f (t e d q k L : Nat) : Bool := cond (Nat.ble 1 (en t)) (cond (klt (en t) (fun i => cond (Nat.ble (kp3 q i) k) (Nat.beq (kL L (kp3 q i)) (kL (eL t) i)) false)) (cond (klt (en e) (fun i => kin t (kL (eL e) i))) (kin t d) false) false) false
noncomputable def ko3 (L2 : List (List Nat)) (G : List Nat) (e q : Nat) : Bool := cond (Nat.beq (qo q) 2047) (cond (Nat.beq (qm q) 24) (kw3 (qd q :: G) (fun _ _ => true) (qw q) 24 0 gid (Nat.pow 2 (Nat.mod gid 5350))) false) (kw3 (qd q :: G) (kw3f (kat L2 (qo q)) e (qd q) q) (qw q) (qm q) 0 gid (Nat.pow 2 (Nat.mod gid 5350)))
theorem ko3_s {gl : List Nat} {L2 : List (List Nat)} (hL : kfla L2 = gl) {G : List Nat} {e q : Nat} (hG : ∀ g ∈ G, gMem e g) (h : ko3 L2 G e q = true) : gOut gl e (qd q) := by
  refine ⟨G, hG, ?_⟩
  unfold ko3 at h
  cases hb : Nat.beq (qo q) 2047 with
  | true =>
    rw [hb] at h
    obtain ⟨-, h2⟩ := kcd.mp h
    obtain ⟨L', -, l, l2, l3, l4, -⟩ := kw3_0 h2
    exact Or.inl ⟨l, l2, l3, l4⟩
  | false =>
    rw [hb] at h
    obtain ⟨L', l1, l, -, -, l4, l5⟩ := kw3_0 h
    obtain ⟨f1, f2⟩ := kcd.mp l1
    obtain ⟨f2, f3⟩ := kcd.mp f2
    obtain ⟨f3, f4⟩ := kcd.mp f3
    have f1 := kbl.mp f1
    have hm : kat L2 (qo q) ∈ gl := by
      rcases kat_m L2 (qo q) with hm | hm
      · rw [hL] at hm
        exact hm
      · rw [hm] at f1
        exact absurd f1 (by decide)
    refine Or.inr ⟨_, hm, ?_, kin_s f4, ?_⟩
    · rintro _ ⟨i, hi, rfl⟩
      exact kin_s (klt_s f3 i hi)
    · rintro _ ⟨i, hi, rfl⟩
      obtain ⟨g1, g2⟩ := kcd.mp (klt_s f2 i hi)
      rw [← kbq.mp g2]
      exact l4 _ (l5 _ (kbl.mp g1))
noncomputable def kd3 (n : Nat) (p : Nat → Nat → Bool) : List Nat → Nat → Bool := List.rec (fun i => Nat.beq i n) (fun q _ ih i => cond (p i q) (ih (Nat.succ i)) false)
theorem kd3_s {n : Nat} {p : Nat → Nat → Bool} : ∀ {l : List Nat} {i : Nat}, kd3 n p l i = true → ∀ j, i ≤ j → j < n → ∃ q, p j q = true
  | [], i, h, j, h1, h2 => by
    have h3 : i = n := kbq.mp h
    omega
  | q :: l, i, h, j, h1, h2 => by
    have h3 : p i q = true ∧ kd3 n p l (i + 1) = true := kcd.mp h
    by_cases e : j = i
    · rw [e]
      exact ⟨q, h3.1⟩
    · exact kd3_s h3.2 j (by omega) h2
noncomputable def kr3 (L2 : List (List Nat)) (l720 G D : List Nat) (n Dp e : Nat) (Q : List Nat) : Bool := cond (kall G (fun g => kin e g)) (cond (kd3 n (fun i q => cond (Nat.beq (qd q) (kL Dp i)) (cond (kpb (qd q)) (ko3 L2 G e q) false) false) D 0) (k2 (fun x q => cond (Nat.ble (Nat.succ (Nat.mod q 32)) (en e)) (cond (Nat.ble (Nat.succ (Nat.mod (Nat.shiftRight q 5) 32)) (en e)) (cond (Nat.ble (Nat.succ (Nat.shiftRight q 10)) n) (Nat.beq (kco (kco (kL (eL e) (Nat.mod q 32)) (kL Dp (Nat.shiftRight q 10))) (kL (eL e) (Nat.mod (Nat.shiftRight q 5) 32))) x) false) false) false) l720 Q) false) false
theorem kr3_s {gl l720 G D : List Nat} {L2 : List (List Nat)} {n Dp e : Nat} {Q : List Nat} (hL : kfla L2 = gl) (hl : ∀ x, gpm x → x ∈ l720) (he : e ∈ gl) (h : kr3 L2 l720 G D n Dp e Q = true) : gRp gl e := by
  obtain ⟨h1, h2⟩ := kcd.mp h
  obtain ⟨h2, h3⟩ := kcd.mp h2
  have h1 := kall_s h1
  refine ⟨he, fun x hx => ?_⟩
  obtain ⟨q, hq⟩ := k2_s h3 x (hl x hx)
  obtain ⟨q1, q2⟩ := kcd.mp hq
  obtain ⟨q2, q3⟩ := kcd.mp q2
  obtain ⟨q3, q4⟩ := kcd.mp q3
  obtain ⟨r, hr⟩ := kd3_s h2 (Nat.shiftRight q 10) (Nat.zero_le _) (show Nat.shiftRight q 10 < n from kbl.mp q3)
  obtain ⟨d1, d2⟩ := kcd.mp hr
  obtain ⟨d2, d3⟩ := kcd.mp d2
  have d1 := kbq.mp d1
  have q4 := kbq.mp q4
  rw [← d1] at q4
  exact ⟨_, _, _, ⟨_, kbl.mp q1, rfl⟩, ⟨_, kbl.mp q2, rfl⟩, q4.symm, kpb_s d2, ko3_s hL (fun g hg => kin_s (h1 g hg)) d3⟩
noncomputable def kmk3 (l : List Nat) : Nat := List.rec 0 (fun x _ ih => Nat.lor (Nat.pow 2 x) ih) l
theorem kmk3_s {c : Nat} : ∀ {l : List Nat}, (kmk3 l).testBit c = true → c ∈ l
  | [], h => by
    have h2 : (0 : Nat).testBit c = true := h
    rw [Nat.zero_testBit] at h2
    cases h2
  | x :: l, h => by
    have h2 : (2 ^ x ||| kmk3 l).testBit c = true := h
    rw [Nat.testBit_or, Nat.testBit_two_pow, Bool.or_eq_true, decide_eq_true_iff] at h2
    rcases h2 with h2 | h2
    · rw [h2]
      exact List.mem_cons_self
    · exact List.mem_cons_of_mem _ (kmk3_s h2)
theorem kmkb {l : List Nat} {c : Nat} (h : ktb (kmk3 l) c = true) : kmem l c = true := by
  rw [ktb_e] at h
  exact kmem_i (kmk3_s h)
noncomputable def kpl3 (l : List Nat) : Bool := klt 6 (fun a => klt 6 (fun b => cond (Nat.beq a b) true (klt 6 (fun c => cond (Nat.beq a c) true (cond (Nat.beq b c) true (klt 6 (fun d => cond (Nat.beq a d) true (cond (Nat.beq b d) true (cond (Nat.beq c d) true (klt 6 (fun e => cond (Nat.beq a e) true (cond (Nat.beq b e) true (cond (Nat.beq c e) true (cond (Nat.beq d e) true (klt 6 (fun f => cond (Nat.beq a f) true (cond (Nat.beq b f) true (cond (Nat.beq c f) true (cond (Nat.beq d f) true (cond (Nat.beq e f) true (ktb (kmk3 l) (Nat.add (Nat.add (Nat.add (Nat.add (Nat.add (Nat.mul a 32768) (Nat.mul b 4096)) (Nat.mul c 512)) (Nat.mul d 64)) (Nat.mul e 8)) f))))))))))))))))))))))
theorem kpl3_s {l : List Nat} (h : kpl3 l = true) {c : Nat} (hc : gpm c) : c ∈ l := by
  obtain ⟨h1, h2, h3⟩ := hc
  have ne : ∀ p q, p < 6 → q < 6 → p ≠ q → gdg c p ≠ gdg c q := fun p q hp hq hn e => hn (h3 p q hp hq e)
  have a0 := klt_s (klt_s h (gdg c 0) (h2 0 (by omega))) (gdg c 1) (h2 1 (by omega))
  rw [kif, if_neg (ne 0 1 (by omega) (by omega) (by omega))] at a0
  have a1 := klt_s a0 (gdg c 2) (h2 2 (by omega))
  rw [kif, if_neg (ne 0 2 (by omega) (by omega) (by omega)), kif, if_neg (ne 1 2 (by omega) (by omega) (by omega))] at a1
  have a2 := klt_s a1 (gdg c 3) (h2 3 (by omega))
  rw [kif, if_neg (ne 0 3 (by omega) (by omega) (by omega)), kif, if_neg (ne 1 3 (by omega) (by omega) (by omega)), kif, if_neg (ne 2 3 (by omega) (by omega) (by omega))] at a2
  have a3 := klt_s a2 (gdg c 4) (h2 4 (by omega))
  rw [kif, if_neg (ne 0 4 (by omega) (by omega) (by omega)), kif, if_neg (ne 1 4 (by omega) (by omega) (by omega)), kif, if_neg (ne 2 4 (by omega) (by omega) (by omega)), kif, if_neg (ne 3 4 (by omega) (by omega) (by omega))] at a3
  have a4 := klt_s a3 (gdg c 5) (h2 5 (by omega))
  rw [kif, if_neg (ne 0 5 (by omega) (by omega) (by omega)), kif, if_neg (ne 1 5 (by omega) (by omega) (by omega)), kif, if_neg (ne 2 5 (by omega) (by omega) (by omega)), kif, if_neg (ne 3 5 (by omega) (by omega) (by omega)), kif, if_neg (ne 4 5 (by omega) (by omega) (by omega))] at a4
  have a5 := kmem_s (kmkb a4)
  have e : gmkc (gdg c) = c := gmkc_e h1
  unfold gmkc at e
  have a6 : gdg c 0 * 32768 + gdg c 1 * 4096 + gdg c 2 * 512 + gdg c 3 * 64 + gdg c 4 * 8 + gdg c 5 ∈ l := a5
  rw [e] at a6
  exact a6
def zvdg (w : Nat) (d : Nat → Nat) : Nat → Nat
  | 0 => 0
  | n + 1 => zvdg w d n + d n * 2 ^ (w * n)
theorem zvdg_lt {w : Nat} {d : Nat → Nat} : ∀ {n : Nat}, (∀ k, k < n → d k < 2 ^ w) → zvdg w d n < 2 ^ (w * n)
  | 0, _ => Nat.two_pow_pos _
  | n + 1, hd => by
    have ih := zvdg_lt (n := n) (fun k hk => hd k (by omega))
    have h1 : (d n + 1) * 2 ^ (w * n) ≤ 2 ^ w * 2 ^ (w * n) := Nat.mul_le_mul_right _ (hd n (by omega))
    have e : 2 ^ (w * (n + 1)) = 2 ^ w * 2 ^ (w * n) := by rw [Nat.mul_add, Nat.mul_one, Nat.pow_add, Nat.mul_comm (2 ^ (w * n))]
    show zvdg w d n + d n * 2 ^ (w * n) < 2 ^ (w * (n + 1))
    rw [e]
    rw [Nat.add_mul, Nat.one_mul] at h1
    exact Nat.lt_of_lt_of_le (by rw [Nat.add_comm]; exact Nat.add_lt_add_left ih _) h1
theorem zvdg_t {w : Nat} {d : Nat → Nat} : ∀ {n : Nat} (m : Nat), (∀ k, k < n → d k < 2 ^ w) → (zvdg w d n).testBit m = (decide (m < w * n) && (d (m / w)).testBit (m % w))
  | 0, m, _ => by
    show (0 : Nat).testBit m = _
    rw [Nat.zero_testBit, Nat.mul_zero, decide_eq_false (Nat.not_lt_zero m), Bool.false_and]
  | n + 1, m, hd => by
    have hn : ∀ k, k < n → d k < 2 ^ w := fun k hk => hd k (by omega)
    have h1 : zvdg w d (n + 1) = 2 ^ (w * n) * d n + zvdg w d n := by
      show zvdg w d n + d n * 2 ^ (w * n) = _
      rw [Nat.mul_comm (d n), Nat.add_comm (zvdg w d n)]
    have hs : w * (n + 1) = w * n + w := by rw [Nat.mul_add, Nat.mul_one]
    rw [h1, Nat.testBit_two_pow_mul_add (d n) (zvdg_lt hn) m, zvdg_t m hn]
    by_cases h : m < w * n
    · have h2 : m < w * (n + 1) := by omega
      rw [if_pos h, decide_eq_true h, decide_eq_true h2]
    · rw [if_neg h]
      by_cases h2 : m < w * (n + 1)
      · have h3 : m / w = n := Nat.div_eq_of_lt_le (by rw [Nat.mul_comm]; omega) (by rw [Nat.mul_comm]; exact h2)
        have h4 : m % w = m - w * n := by
          have h5 := Nat.div_add_mod m w
          rw [h3] at h5
          omega
        rw [decide_eq_true h2, h3, h4, Bool.true_and]
      · have h3 : d n < 2 ^ (m - w * n) := Nat.lt_of_lt_of_le (hd n (by omega)) (Nat.pow_le_pow_right (by omega) (by omega))
        rw [decide_eq_false h2, Bool.false_and]
        exact Nat.testBit_lt_two_pow h3
theorem zvdg_c {w : Nat} {d e : Nat → Nat} : ∀ {n : Nat}, (∀ k, k < n → d k = e k) → zvdg w d n = zvdg w e n
  | 0, _ => rfl
  | n + 1, h => by
    show zvdg w d n + d n * 2 ^ (w * n) = zvdg w e n + e n * 2 ^ (w * n)
    rw [zvdg_c (n := n) (fun k hk => h k (by omega)), h n (by omega)]
theorem zvdg_mul (w : Nat) (d : Nat → Nat) (c : Nat) : ∀ n, zvdg w d n * c = zvdg w (fun k => d k * c) n
  | 0 => Nat.zero_mul c
  | n + 1 => by
    show (zvdg w d n + d n * 2 ^ (w * n)) * c = zvdg w (fun k => d k * c) n + d n * c * 2 ^ (w * n)
    rw [Nat.add_mul, zvdg_mul w d c n, Nat.mul_right_comm (d n)]
theorem zvdg_z {w : Nat} {d : Nat → Nat} : ∀ {n : Nat}, (∀ k, k < n → d k = 0) → zvdg w d n = 0
  | 0, _ => rfl
  | n + 1, h => by
    show zvdg w d n + d n * 2 ^ (w * n) = 0
    rw [zvdg_z (n := n) (fun k hk => h k (by omega)), h n (by omega), Nat.zero_mul]
def zvsm (d : Nat → Nat) : Nat → Nat
  | 0 => 0
  | n + 1 => zvsm d n + d n
theorem zvdg_mod (d : Nat → Nat) : ∀ n, zvdg 25 d n % 33554431 = zvsm d n % 33554431
  | 0 => rfl
  | n + 1 => by
    have h1 : ∀ n : Nat, 2 ^ (25 * n) % 33554431 = 1 := by
      intro n
      induction n with
      | zero => decide
      | succ n ih =>
        rw [Nat.mul_add, Nat.pow_add, Nat.mul_mod, ih]
    show (zvdg 25 d n + d n * 2 ^ (25 * n)) % 33554431 = (zvsm d n + d n) % 33554431
    rw [Nat.add_mod, zvdg_mod d n, Nat.mul_mod, h1, Nat.mul_one, Nat.mod_mod, ← Nat.add_mod]
theorem zvdg_p {d e : Nat → Nat} {p : Nat} (hp : d p = 0) (he : e p = 1) (ho : ∀ k, k ≠ p → e k = d k) : ∀ m, zvdg 1 e m = zvdg 1 d m + if p < m then 2 ^ p else 0
  | 0 => by rw [if_neg (Nat.not_lt_zero p)]; rfl
  | m + 1 => by
    show zvdg 1 e m + e m * 2 ^ (1 * m) = zvdg 1 d m + d m * 2 ^ (1 * m) + _
    rw [zvdg_p hp he ho m, Nat.one_mul]
    by_cases h : m = p
    · rw [h, hp, he, if_neg (Nat.lt_irrefl p), if_pos (Nat.lt_succ_self p), Nat.one_mul, Nat.zero_mul, Nat.add_zero]
    · rw [ho m h]
      by_cases h2 : p < m
      · rw [if_pos h2, if_pos (by omega), Nat.add_right_comm]
      · rw [if_neg h2, if_neg (by omega), Nat.add_zero, Nat.add_zero]
def zvim (g : Nat → Nat) (X : Nat) : Nat → Nat → Bool
  | 0, _ => false
  | n + 1, j => zvim g X n j || (X.testBit n && decide (g n = j))
theorem zvim_t {g : Nat → Nat} {X : Nat} : ∀ {n j : Nat}, zvim g X n j = true ↔ ∃ k, k < n ∧ X.testBit k = true ∧ g k = j
  | 0, j => ⟨fun h => absurd (show false = true from h) (by decide), fun ⟨k, h, _⟩ => absurd h (Nat.not_lt_zero k)⟩
  | n + 1, j => by
    show (zvim g X n j || (X.testBit n && decide (g n = j))) = true ↔ _
    rw [Bool.or_eq_true, zvim_t (n := n), Bool.and_eq_true, decide_eq_true_iff]
    constructor
    · rintro (⟨k, h1, h2, h3⟩ | ⟨h2, h3⟩)
      · exact ⟨k, by omega, h2, h3⟩
      · exact ⟨n, by omega, h2, h3⟩
    · rintro ⟨k, h1, h2, h3⟩
      by_cases e : k = n
      · rw [e] at h2 h3
        exact Or.inr ⟨h2, h3⟩
      · exact Or.inl ⟨k, by omega, h2, h3⟩
theorem zvsm_i {g : Nat → Nat} {X n : Nat} (hb : ∀ k, k < n → g k < 24) (hi : ∀ a b, a < n → b < n → g a = g b → a = b) : ∀ m, m ≤ n → zvsm (fun k => (X.testBit k).toNat * 2 ^ g k) m = zvdg 1 (fun j => (zvim g X m j).toNat) 24
  | 0, _ => (zvdg_z (fun k _ => rfl)).symm
  | m + 1, hm => by
    show zvsm (fun k => (X.testBit k).toNat * 2 ^ g k) m + (X.testBit m).toNat * 2 ^ g m = _
    rw [zvsm_i hb hi m (by omega)]
    cases hx : X.testBit m with
    | false =>
      show _ + 0 * 2 ^ g m = _
      rw [Nat.zero_mul, Nat.add_zero]
      refine zvdg_c (fun j _ => ?_)
      show _ = (zvim g X m j || (X.testBit m && decide (g m = j))).toNat
      rw [hx, Bool.false_and, Bool.or_false]
    | true =>
      have hp : (zvim g X m (g m)).toNat = 0 := by
        cases q : zvim g X m (g m) with
        | false => rfl
        | true =>
          obtain ⟨k, h1, -, h3⟩ := zvim_t.mp q
          have := hi k m (by omega) (by omega) h3
          omega
      have he : (zvim g X (m + 1) (g m)).toNat = 1 := by
        rw [zvim_t.mpr ⟨m, Nat.lt_succ_self m, hx, rfl⟩]; rfl
      have ho : ∀ j, j ≠ g m → (zvim g X (m + 1) j).toNat = (zvim g X m j).toNat := fun j hj => by
        show (zvim g X m j || (X.testBit m && decide (g m = j))).toNat = _
        rw [decide_eq_false (fun e => hj e.symm), Bool.and_false, Bool.or_false]
      have h := zvdg_p (d := fun j => (zvim g X m j).toNat) (e := fun j => (zvim g X (m + 1) j).toNat) hp he ho 24
      rw [h, if_pos (hb m (by omega))]
      show _ + 1 * 2 ^ g m = _
      rw [Nat.one_mul]
noncomputable def kvx (W X : Nat) : Nat := Nat.mod (Nat.land W (Nat.mul (Nat.land (Nat.mul X 14742041600653298778164464186675034565339440968075561999656263336489234065757151420561541415618923938782311094303562262231923774852187994847031891473161258761755557889) 123665204422062557356803572788677631011309541569709136179232403901906511584503046599112559797157752258954946564622144514457573459535397137501359353526631510665794982588186625) 33554431)) 33554431
theorem zvone (i : Nat) : (1 : Nat).testBit i = decide (i = 0) := by
  rw [Bool.eq_iff_iff, Nat.testBit_one_eq_true_iff_self_eq_zero, decide_eq_true_iff]
theorem zvsp_e {X : Nat} (hX : X < 2 ^ 24) : X * 14742041600653298778164464186675034565339440968075561999656263336489234065757151420561541415618923938782311094303562262231923774852187994847031891473161258761755557889 &&& 123665204422062557356803572788677631011309541569709136179232403901906511584503046599112559797157752258954946564622144514457573459535397137501359353526631510665794982588186625 = zvdg 25 (fun k => (X.testBit k).toNat) 24 := by
  have hM : 14742041600653298778164464186675034565339440968075561999656263336489234065757151420561541415618923938782311094303562262231923774852187994847031891473161258761755557889 = zvdg 24 (fun _ => 1) 24 := by decide +kernel
  have hK : 123665204422062557356803572788677631011309541569709136179232403901906511584503046599112559797157752258954946564622144514457573459535397137501359353526631510665794982588186625 = zvdg 25 (fun _ => 1) 24 := by decide +kernel
  rw [hM, hK, Nat.mul_comm, zvdg_mul]
  refine Nat.eq_of_testBit_eq fun m => ?_
  rw [Nat.testBit_and, zvdg_t m (fun k _ => by show 1 * X < 2 ^ 24; rw [Nat.one_mul]; exact hX), zvdg_t m (fun k _ => by show 1 < 2 ^ 25; decide), zvdg_t m (fun k _ => by show (X.testBit k).toNat < 2 ^ 25; cases X.testBit k <;> decide), Nat.one_mul, zvone, Nat.testBit_bool_toNat]
  by_cases h1 : m < 25 * 24
  · by_cases h2 : m % 25 = 0
    · rw [decide_eq_true h1, decide_eq_true h2, decide_eq_true (show m < 24 * 24 by omega), show m % 24 = m / 25 by omega]
      cases X.testBit (m / 25) <;> rfl
    · rw [decide_eq_false h2]
      cases decide (m < 25 * 24) <;> cases decide (m < 24 * 24) <;> cases X.testBit (m % 24) <;> rfl
  · rw [decide_eq_false h1]
    cases decide (m < 24 * 24) <;> cases X.testBit (m % 24) <;> rfl
theorem kvx_t {g : Nat → Nat} {n X : Nat} (hn : n ≤ 24) (hX : X < 2 ^ 24) (hb : ∀ k, k < n → g k < 24) (hi : ∀ a b, a < n → b < n → g a = g b → a = b) (j : Nat) : (kvx (zvdg 25 (fun k => 2 ^ g k) n) X).testBit j = true ↔ ∃ k, k < n ∧ X.testBit k = true ∧ g k = j := by
  have hp : ∀ k, k < n → 2 ^ g k < 2 ^ 25 := fun k hk => Nat.pow_lt_pow_right (by omega) (by have := hb k hk; omega)
  have hq : ∀ k, k < n → (X.testBit k).toNat * 2 ^ g k < 2 ^ 25 := fun k hk => by
    cases X.testBit k with
    | false => show 0 * _ < _; rw [Nat.zero_mul]; decide
    | true => show 1 * _ < _; rw [Nat.one_mul]; exact hp k hk
  have e1 : (zvdg 25 (fun k => 2 ^ g k) n) &&& (zvdg 25 (fun k => (X.testBit k).toNat * 33554431) 24) = zvdg 25 (fun k => (X.testBit k).toNat * 2 ^ g k) n := by
    refine Nat.eq_of_testBit_eq fun m => ?_
    rw [Nat.testBit_and, zvdg_t m hp, zvdg_t m (fun k _ => by show (X.testBit k).toNat * 33554431 < 2 ^ 25; cases X.testBit k <;> decide), zvdg_t m hq]
    by_cases h1 : m < 25 * n
    · rw [decide_eq_true h1, decide_eq_true (show m < 25 * 24 by omega)]
      cases X.testBit (m / 25) with
      | false =>
        show (true && (2 ^ g (m / 25)).testBit (m % 25) && (true && (0 * 33554431).testBit (m % 25))) = (true && (0 * 2 ^ g (m / 25)).testBit (m % 25))
        rw [Nat.zero_mul, Nat.zero_mul, Nat.zero_testBit]
        cases (2 ^ g (m / 25)).testBit (m % 25) <;> rfl
      | true =>
        show (true && (2 ^ g (m / 25)).testBit (m % 25) && (true && (1 * (2 ^ 25 - 1)).testBit (m % 25))) = (true && (1 * 2 ^ g (m / 25)).testBit (m % 25))
        rw [Nat.one_mul, Nat.one_mul, Nat.testBit_two_pow_sub_one, decide_eq_true (show m % 25 < 25 by omega)]
        cases (2 ^ g (m / 25)).testBit (m % 25) <;> rfl
    · rw [decide_eq_false h1] <;> rfl
  have e2 : kvx (zvdg 25 (fun k => 2 ^ g k) n) X = zvdg 1 (fun j => (zvim g X n j).toNat) 24 := by
    show (zvdg 25 (fun k => 2 ^ g k) n &&& (X * 14742041600653298778164464186675034565339440968075561999656263336489234065757151420561541415618923938782311094303562262231923774852187994847031891473161258761755557889 &&& 123665204422062557356803572788677631011309541569709136179232403901906511584503046599112559797157752258954946564622144514457573459535397137501359353526631510665794982588186625) * 33554431) % 33554431 = _
    rw [zvsp_e hX, zvdg_mul, e1, zvdg_mod, zvsm_i hb hi n (Nat.le_refl n)]
    refine Nat.mod_eq_of_lt (Nat.lt_trans (zvdg_lt (fun k _ => ?_)) (by decide))
    show (zvim g X n k).toNat < 2 ^ 1
    cases zvim g X n k <;> decide
  rw [e2, zvdg_t j (fun k _ => by show (zvim g X n k).toNat < 2 ^ 1; cases zvim g X n k <;> decide), Nat.div_one, Nat.mod_one, Bool.and_eq_true, decide_eq_true_iff, Nat.testBit_bool_toNat, Bool.and_eq_true, zvim_t]
  refine ⟨fun h => h.2.2, fun h => ⟨?_, rfl, h⟩⟩
  obtain ⟨k, h1, -, h3⟩ := h
  have := hb k h1
  omega
noncomputable def kvW (g : Nat → Nat) (n : Nat) : Nat := kup (fun x r => Nat.add r (Nat.pow 2 (Nat.add (Nat.mul 25 x) (g x)))) 0 n
theorem kvW_e (g : Nat → Nat) : ∀ n, kvW g n = zvdg 25 (fun k => 2 ^ g k) n
  | 0 => rfl
  | n + 1 => by
    show kvW g n + 2 ^ (25 * n + g n) = zvdg 25 (fun k => 2 ^ g k) n + 2 ^ g n * 2 ^ (25 * n)
    rw [kvW_e g n, Nat.pow_add, Nat.mul_comm (2 ^ (25 * n))]
noncomputable def kfw (R g : Nat) : Nat := Nat.mod (Nat.shiftRight R (Nat.mul 600 g)) 4149515568880992958512407863691161151012446232242436899995657329690652811412908146399707048947103794288197886611300789182395151075411775307886874834113963687061181803401509523685376
def kDo (M : Nat → Nat → Nat) (n : Nat) (f : Nat → Nat → Nat) : Prop := ∀ X g, X < 2 ^ n → g < n → M X g < 2 ^ n ∧ ∀ j, ((M X g).testBit j = true ↔ ∃ k, k < n ∧ X.testBit k = true ∧ f g k = j)
theorem kvW_do {n X : Nat} {f : Nat → Nat} (hn : n ≤ 24) (hX : X < 2 ^ n) (hb : ∀ k, k < n → f k < n) (hi : ∀ a b, a < n → b < n → f a = f b → a = b) : kvx (kvW f n) X < 2 ^ n ∧ ∀ j, ((kvx (kvW f n) X).testBit j = true ↔ ∃ k, k < n ∧ X.testBit k = true ∧ f k = j) := by
  have ht : ∀ j, ((kvx (kvW f n) X).testBit j = true ↔ ∃ k, k < n ∧ X.testBit k = true ∧ f k = j) := fun j => by
    rw [kvW_e]
    exact kvx_t hn (Nat.lt_of_lt_of_le hX (Nat.pow_le_pow_right (by omega) hn)) (fun k hk => by have := hb k hk; omega) hi j
  refine ⟨Nat.lt_pow_two_of_testBit _ (fun j hj => ?_), ht⟩
  rw [Bool.eq_false_iff]
  intro hq
  obtain ⟨k, h1, -, h3⟩ := (ht j).mp hq
  have := hb k h1
  omega
noncomputable def kPk (n P : Nat) : Nat := kup (fun g r => Nat.add r (Nat.mul (kvW (fun x => kgm P x g) n) (Nat.pow 2 (Nat.mul 600 g)))) 0 n
theorem kPk_m {n P m : Nat} : kup (fun g r => Nat.add r (Nat.mul (kvW (fun x => kgm P x g) n) (Nat.pow 2 (Nat.mul 600 g)))) 0 m = zvdg 600 (fun g => kvW (fun x => kgm P x g) n) m := by
  induction m with
  | zero => rfl
  | succ m ih =>
    show kup (fun g r => Nat.add r (Nat.mul (kvW (fun x => kgm P x g) n) (Nat.pow 2 (Nat.mul 600 g)))) 0 m + kvW (fun x => kgm P x m) n * 2 ^ (600 * m) = zvdg 600 (fun g => kvW (fun x => kgm P x g) n) m + kvW (fun x => kgm P x m) n * 2 ^ (600 * m)
    rw [ih]
theorem kPk_f {n P g : Nat} (hn : n ≤ 24) (hm : ∀ a b, a < n → b < n → kgm P a b < n) (hg : g < n) : kfw (kPk n P) g = kvW (fun x => kgm P x g) n := by
  have hd : ∀ k, k < n → kvW (fun x => kgm P x k) n < 2 ^ 600 := fun k hk => by
    rw [kvW_e]
    refine Nat.lt_of_lt_of_le (zvdg_lt (fun i hi => ?_)) (Nat.pow_le_pow_right (by omega) (show 25 * n ≤ 600 by omega))
    have := hm i k hi hk
    exact Nat.pow_lt_pow_right (by omega) (by omega)
  have hB : 4149515568880992958512407863691161151012446232242436899995657329690652811412908146399707048947103794288197886611300789182395151075411775307886874834113963687061181803401509523685376 = 2 ^ 600 := by decide +kernel
  have e : kfw (kPk n P) g = ((kup (fun g r => Nat.add r (Nat.mul (kvW (fun x => kgm P x g) n) (Nat.pow 2 (Nat.mul 600 g)))) 0 n) >>> (600 * g)) % 2 ^ 600 := by
    show ((kup (fun g r => Nat.add r (Nat.mul (kvW (fun x => kgm P x g) n) (Nat.pow 2 (Nat.mul 600 g)))) 0 n) >>> (600 * g)) % 4149515568880992958512407863691161151012446232242436899995657329690652811412908146399707048947103794288197886611300789182395151075411775307886874834113963687061181803401509523685376 = _
    rw [hB]
  refine Nat.eq_of_testBit_eq fun j => ?_
  rw [e, kPk_m, Nat.testBit_mod_two_pow, Nat.testBit_shiftRight, zvdg_t _ hd]
  by_cases h : j < 600
  · rw [decide_eq_true h, decide_eq_true (show 600 * g + j < 600 * n by omega), show (600 * g + j) / 600 = g by omega, show (600 * g + j) % 600 = j by omega] <;> rfl
  · rw [decide_eq_false h, Nat.testBit_lt_two_pow (Nat.lt_of_lt_of_le (hd g hg) (Nat.pow_le_pow_right (by omega) (by omega)))] <;> rfl
noncomputable def kr5 (n P X g : Nat) : Nat := kvx (kfw (kPk n P) g) X
noncomputable def kl5 (n P X g : Nat) : Nat := kvx (kvW (fun x => kgm P g x) n) X
noncomputable def kt5 (n P Ip X g : Nat) : Nat := kvx (kvW (fun x => kgm P (kgm P (kI Ip g) x) g) n) X
theorem kfd_g {F : Nat → Nat → Nat} {Q : Nat → Nat → Prop} {n : Nat} (hF : ∀ a r j, a < n → ((F a r).testBit j = true ↔ r.testBit j = true ∨ Q a j)) : ∀ {fuel S r : Nat}, S < 2 ^ fuel → S < 2 ^ n → ∀ j, ((kfd F fuel S r).testBit j = true ↔ r.testBit j = true ∨ ∃ a, S.testBit a = true ∧ Q a j)
  | 0, S, r, hS, _, j => by
    have h0 : S = 0 := by rw [Nat.pow_zero] at hS; omega
    show r.testBit j = true ↔ _
    rw [h0]
    refine ⟨Or.inl, fun h => h.elim id fun ⟨a, ha, _⟩ => ?_⟩
    rw [Nat.zero_testBit] at ha
    cases ha
  | fuel + 1, S, r, hS, hn, j => by
    show (cond (Nat.beq S 0) r (kfd F fuel (Nat.mod S (Nat.pow 2 (Nat.log2 S))) (F (Nat.log2 S) r))).testBit j = true ↔ _
    cases hb : Nat.beq S 0 with
    | true =>
      rw [kbq.mp hb]
      refine ⟨Or.inl, fun h => h.elim id fun ⟨a, ha, _⟩ => ?_⟩
      rw [Nat.zero_testBit] at ha
      cases ha
    | false =>
      have h0 : S ≠ 0 := fun e => by rw [kbq.mpr e] at hb; cases hb
      have hl := klg h0
      have hlt : S % 2 ^ S.log2 < 2 ^ S.log2 := Nat.mod_lt _ (Nat.two_pow_pos _)
      have hfu : S.log2 ≤ fuel := Nat.lt_succ_iff.mp ((Nat.log2_lt h0).mpr hS)
      have hln : S.log2 < n := (Nat.log2_lt h0).mpr hn
      have ht : ∀ a, (S % 2 ^ S.log2).testBit a = true ↔ a < S.log2 ∧ S.testBit a = true := fun a => by
        rw [Nat.testBit_mod_two_pow, Bool.and_eq_true, decide_eq_true_iff]
      show (kfd F fuel (S % 2 ^ S.log2) (F S.log2 r)).testBit j = true ↔ _
      rw [kfd_g hF (fuel := fuel) (Nat.lt_of_lt_of_le hlt (Nat.pow_le_pow_right (by omega) hfu)) (Nat.lt_of_lt_of_le hlt (Nat.pow_le_pow_right (by omega) (by omega))) j, hF _ _ _ hln]
      constructor
      · rintro ((h | h) | ⟨a, h1, h2⟩)
        · exact Or.inl h
        · exact Or.inr ⟨_, hl.1, h⟩
        · exact Or.inr ⟨a, ((ht a).mp h1).2, h2⟩
      · rintro (h | ⟨a, h1, h2⟩)
        · exact Or.inl (Or.inl h)
        · rcases Nat.lt_trichotomy a S.log2 with g | g | g
          · exact Or.inr ⟨a, (ht a).mpr ⟨g, h1⟩, h2⟩
          · rw [g] at h2
            exact Or.inl (Or.inr h2)
          · rw [hl.2 a g] at h1
            cases h1
theorem kal_i {p : Nat → Bool} : ∀ {fuel S : Nat}, S < 2 ^ fuel → (∀ a, S.testBit a = true → p a = true) → kal p fuel S = true
  | 0, S, hS, _ => by
    have h0 : S = 0 := by rw [Nat.pow_zero] at hS; omega
    rw [h0]; rfl
  | fuel + 1, S, hS, h => by
    show cond (Nat.beq S 0) true (cond (p (Nat.log2 S)) (kal p fuel (Nat.mod S (Nat.pow 2 (Nat.log2 S)))) false) = true
    cases hb : Nat.beq S 0 with
    | true => rfl
    | false =>
      have h0 : S ≠ 0 := fun e => by rw [kbq.mpr e] at hb; cases hb
      have hl := klg h0
      have hlt : S % 2 ^ S.log2 < 2 ^ S.log2 := Nat.mod_lt _ (Nat.two_pow_pos _)
      have hfu : S.log2 ≤ fuel := Nat.lt_succ_iff.mp ((Nat.log2_lt h0).mpr hS)
      show cond (p S.log2) (kal p fuel (S % 2 ^ S.log2)) false = true
      refine kcd.mpr ⟨h _ hl.1, kal_i (Nat.lt_of_lt_of_le hlt (Nat.pow_le_pow_right (by omega) hfu)) (fun a ha => h a ?_)⟩
      rw [Nat.testBit_mod_two_pow, Bool.and_eq_true] at ha
      exact ha.2
theorem kall5_i {p : Nat → Bool} : ∀ {l : List Nat}, (∀ x ∈ l, p x = true) → kall l p = true
  | [], _ => rfl
  | x :: l, h => kcd.mpr ⟨h x List.mem_cons_self, kall5_i fun y hy => h y (List.mem_cons_of_mem _ hy)⟩
theorem kup_q {f g : Nat → Nat → Nat} (a n : Nat) (h : ∀ k r, k < n → f k r = g k r) : kup f a n = kup g a n := by
  rw [kup_c a n h, kup_e]
theorem kup_b {X : Nat} {f : Nat → Nat} : ∀ {n : Nat} (j : Nat), (kup (fun x r => cond (ktb X x) (Nat.lor r (Nat.pow 2 (f x))) r) 0 n).testBit j = true ↔ ∃ k, k < n ∧ X.testBit k = true ∧ f k = j
  | 0, j => by
    show (0 : Nat).testBit j = true ↔ _
    rw [Nat.zero_testBit]
    exact ⟨fun h => (by cases h), fun ⟨k, h, _⟩ => absurd h (Nat.not_lt_zero k)⟩
  | n + 1, j => by
    have ih := kup_b (X := X) (f := f) (n := n) j
    show (cond (ktb X n) (Nat.lor (kup (fun x r => cond (ktb X x) (Nat.lor r (Nat.pow 2 (f x))) r) 0 n) (Nat.pow 2 (f n))) (kup (fun x r => cond (ktb X x) (Nat.lor r (Nat.pow 2 (f x))) r) 0 n)).testBit j = true ↔ _
    rw [ktb_e]
    cases hx : X.testBit n with
    | false =>
      show (kup (fun x r => cond (ktb X x) (Nat.lor r (Nat.pow 2 (f x))) r) 0 n).testBit j = true ↔ _
      rw [ih]
      constructor
      · rintro ⟨k, h1, h2, h3⟩
        exact ⟨k, by omega, h2, h3⟩
      · rintro ⟨k, h1, h2, h3⟩
        refine ⟨k, ?_, h2, h3⟩
        rcases Nat.lt_or_ge k n with g | g
        · exact g
        · rw [show k = n by omega, hx] at h2
          cases h2
    | true =>
      show ((kup (fun x r => cond (ktb X x) (Nat.lor r (Nat.pow 2 (f x))) r) 0 n) ||| 2 ^ f n).testBit j = true ↔ _
      rw [Nat.testBit_or, Bool.or_eq_true, ih, Nat.testBit_two_pow, decide_eq_true_iff]
      constructor
      · rintro (⟨k, h1, h2, h3⟩ | h)
        · exact ⟨k, by omega, h2, h3⟩
        · exact ⟨n, by omega, hx, h⟩
      · rintro ⟨k, h1, h2, h3⟩
        by_cases e : k = n
        · rw [e] at h3
          exact Or.inr h3
        · exact Or.inl ⟨k, by omega, h2, h3⟩
noncomputable def kps5 (n P X : Nat) : Nat := kfd (fun b r => Nat.lor r (kr5 n P X b)) 24 X X
noncomputable def kc15 (n P X g : Nat) : Nat := Nat.lor (Nat.lor X (Nat.pow 2 g)) (kr5 n P X g)
noncomputable def kokF5 (n P : Nat) (S : List Nat) (s g fuel : Nat) : Nat → Bool := Nat.rec (fun X => cond (Nat.beq (Nat.mod X (Nat.pow 2 g)) (Nat.mod s (Nat.pow 2 g))) (kmem S X) true) (fun _ ih X => cond (Nat.beq (Nat.mod X (Nat.pow 2 g)) (Nat.mod s (Nat.pow 2 g))) (cond (kmem S X) true (ih (kps5 n P X))) true) fuel
noncomputable def kok5 (n P : Nat) (S : List Nat) (s g : Nat) : Bool := kokF5 n P S s g 3 (kc15 n P s g)
noncomputable def kcs5 (n P X : Nat) : Bool := kal (fun b => Nat.beq (Nat.lor X (kr5 n P X b)) X) 24 X
noncomputable def kB5 (n P : Nat) (S : List Nat) : Bool := cond (Nat.ble (klen S) 64) (cond (kmem S 1) (cond (kall S (fun s => cond (Nat.ble (Nat.succ s) (Nat.pow 2 n)) (cond (ktb s 0) (kcs5 n P s) false) false)) (kall S (fun s => klt n (fun g => cond (ktb s g) true (kok5 n P S s g)))) false) false) false
noncomputable def kle5 (n P Ip X : Nat) : Nat := kup (fun g r => cond (Nat.ble (Nat.succ (kt5 n P Ip X g)) r) (kt5 n P Ip X g) r) X n
noncomputable def kE5 (n P : Nat) (S F : List Nat) (Fp Ip : Nat) : Bool := cond (kfl Fp F 0) (cond (kall S (fun s => cond (kmem F (kle5 n P Ip s)) (Nat.beq (kcb (kle5 n P Ip s)) (kcb s)) false)) (cond (kall F (fun f => cond (kmem S f) (Nat.beq (kle5 n P Ip f) f) false)) (klt (Nat.pred (klen F)) (fun i => Nat.ble (Nat.succ (kky (kF Fp i))) (kky (kF Fp (Nat.succ i))))) false) false) false
noncomputable def kv15 (n P Fp Cp i x : Nat) : Bool := cond (ktb (Nat.lor (kr5 n P (kF Fp i) x) (Nat.pow 2 x)) (kC Cp i x)) (cond (Nat.beq (Nat.mod (Nat.lor (kr5 n P (kF Fp i) x) (Nat.pow 2 x)) (Nat.pow 2 (kC Cp i x))) 0) (cond (ktb (kr5 n P (kF Fp i) (kC Cp i x)) x) (cond (Nat.beq (kC Cp i x) x) (kal (fun y => Nat.beq (kC Cp i y) x) 24 (kr5 n P (kF Fp i) x)) true) false) false) false
noncomputable def kfx5 (n P Fp Cp i H x : Nat) : Bool := cond (Nat.beq (kC Cp i x) x) (Nat.beq (Nat.land (kl5 n P H x) (kr5 n P (kF Fp i) x)) (kl5 n P H x)) false
noncomputable def kmk5 (n P Fp Cp i H : Nat) : Nat := kup (fun x r => cond (kfx5 n P Fp Cp i H x) (Nat.succ r) r) 0 n
noncomputable def kG5 (n P Fp Cp Kp Qp m : Nat) : Bool := cond (Nat.ble m 30) (cond (klt m (fun i => klt n (fun x => kv15 n P Fp Cp i x))) (cond (klt m (fun i => klt m (fun k => Nat.beq (kmk5 n P Fp Cp i (kF Fp k)) (kK Kp i k)))) (cond (klt m (fun i => Nat.ble 1 (kK Kp i i))) (klt m (fun i => klt m (fun k => Nat.beq (Nat.mul (kQ Qp i k) (kK Kp i i)) (kK Kp i k)))) false) false) false) false
noncomputable def kmm5 (n P Fp Ip Cp i : Nat) : Nat := kup (fun x r => cond (Nat.beq (kC Cp i x) x) (cond (Nat.beq (kt5 n P Ip (kF Fp i) x) (kF Fp i)) (Nat.succ r) r) r) 0 n
noncomputable def kJ5 (n P Fp Ip Cp m : Nat) : Bool := cond (klt n (fun x => kpw P x 24 x)) (cond (klt m (fun i => Nat.beq (kt5 n P Ip (kF Fp i) 0) (kF Fp i))) (cond (klt m (fun i => klt n (fun x => cond (ktb (kF Fp i) x) (cond (Nat.beq x 0) true (cond (Nat.beq (kC Cp i x) x) false true)) true))) (Nat.ble (kup (fun d r => Nat.add r (cond (Nat.ble (kmm5 n P Fp Ip Cp (Nat.sub (Nat.sub m 1) d)) 2) 1 0)) 0 m) 15) false) false) false
noncomputable def kall5 (n P : Nat) (S F : List Nat) (Fp Ip Cp Kp Qp Dp : Nat) (B W E : List Nat) : Bool := cond (kA n P Ip) (cond (kiv n P Ip) (cond (List.rec false (fun e _ _ => kst n P Ip e) E) (cond (kB5 n P S) (cond (kE5 n P S F Fp Ip) (cond (kG5 n P Fp Cp Kp Qp (klen F)) (cond (kH Qp Dp (klen F)) (cond (kJ5 n P Fp Ip Cp (klen F)) (cond (kwd P n B W 1) (kall E (fun e => kst2 n P B e)) false) false) false) false) false) false) false) false) false
theorem k5w {n P Ip : Nat} (hA : kA n P Ip = true) (hiv : kiv n P Ip = true) (hAs : kAs P n) : kDo (kr5 n P) n (fun g k => kgm P k g) ∧ kDo (kl5 n P) n (fun g k => kgm P g k) ∧ ∀ X g, X < 2 ^ n → g < n → kt5 n P Ip X g = ktr n P Ip X g := by
  obtain ⟨⟨n1, n2⟩, hm⟩ := kA_m hA
  have hI : ∀ a, a < n → kI Ip a < n := fun a ha => kbl.mp (kcd.mp (klt_s (kcd.mp (kcd.mp hA).2).2 a ha)).1
  have hv : ∀ a, a < n → kgm P a (kI Ip a) = 0 := fun a ha => kbq.mp (klt_s hiv a ha)
  obtain ⟨as, r0⟩ := hAs
  have lv : ∀ a, a < n → kgm P (kI Ip a) a = 0 := by
    intro a ha
    have hb := hI a ha
    have hc := hI _ hb
    have h1 : kgm P a (kgm P (kI Ip a) (kI Ip (kI Ip a))) = kgm P (kgm P a (kI Ip a)) (kI Ip (kI Ip a)) := (as _ _ _ ha hb hc).symm
    rw [hv a ha, hv _ hb, r0 a ha] at h1
    have h2 := as (kI Ip a) 0 (kI Ip (kI Ip a)) hb (by omega) hc
    rw [r0 _ hb, hv _ hb, ← h1] at h2
    exact h2.symm
  have l0 : ∀ a, a < n → kgm P 0 a = a := by
    intro a ha
    have h := as a (kI Ip a) a ha (hI a ha) ha
    rw [hv a ha, lv a ha, r0 a ha] at h
    exact h
  have rc : ∀ g x y, g < n → x < n → y < n → kgm P x g = kgm P y g → x = y := by
    intro g x y hg hx hy h
    have h1 := as x g (kI Ip g) hx hg (hI g hg)
    have h2 := as y g (kI Ip g) hy hg (hI g hg)
    rw [hv g hg, r0 x hx] at h1
    rw [hv g hg, r0 y hy] at h2
    rw [← h1, ← h2, h]
  have lc : ∀ g x y, g < n → x < n → y < n → kgm P g x = kgm P g y → x = y := by
    intro g x y hg hx hy h
    have h1 := as (kI Ip g) g x (hI g hg) hg hx
    have h2 := as (kI Ip g) g y (hI g hg) hg hy
    rw [lv g hg, l0 x hx] at h1
    rw [lv g hg, l0 y hy] at h2
    rw [h1, h2, h]
  refine ⟨fun X g hX hg => ?_, fun X g hX hg => ?_, fun X g hX hg => ?_⟩
  · have h := kvW_do (f := fun x => kgm P x g) n2 hX (fun k hk => hm k g hk hg) (fun a b ha hb e => rc g a b hg ha hb e)
    show kvx (kfw (kPk n P) g) X < 2 ^ n ∧ ∀ j, ((kvx (kfw (kPk n P) g) X).testBit j = true ↔ ∃ k, k < n ∧ X.testBit k = true ∧ kgm P k g = j)
    rw [kPk_f n2 hm hg]
    exact h
  · exact kvW_do (f := fun x => kgm P g x) n2 hX (fun k hk => hm g k hg hk) (fun a b ha hb e => lc g a b hg ha hb e)
  · have h := kvW_do (f := fun x => kgm P (kgm P (kI Ip g) x) g) n2 hX (fun k hk => hm _ g (hm _ k (hI g hg) hk) hg) (fun a b ha hb e => lc _ a b (hI g hg) ha hb (rc g _ _ hg (hm _ a (hI g hg) ha) (hm _ b (hI g hg) hb) e))
    refine Nat.eq_of_testBit_eq fun j => Bool.eq_iff_iff.mpr ?_
    exact (h.2 j).trans (kup_b (X := X) (f := fun x => kgm P (kgm P (kI Ip g) x) g) (n := n) j).symm
theorem kps5_e {n P X : Nat} (n2 : n ≤ 24) (hm : ∀ a b, a < n → b < n → kgm P a b < n) (hR : kDo (kr5 n P) n (fun g k => kgm P k g)) (hX : X < 2 ^ n) : kps5 n P X = kps P X ∧ kps P X < 2 ^ n := by
  have hX24 : X < 2 ^ 24 := Nat.lt_of_lt_of_le hX (Nat.pow_le_pow_right (by omega) n2)
  have h1 : ∀ j, ((kps5 n P X).testBit j = true ↔ X.testBit j = true ∨ ∃ b, X.testBit b = true ∧ (kr5 n P X b).testBit j = true) := fun j => kfd_g (F := fun b r => Nat.lor r (kr5 n P X b)) (n := n) (Q := fun b j => (kr5 n P X b).testBit j = true) (fun a r j _ => by
    show (r ||| kr5 n P X a).testBit j = true ↔ _
    rw [Nat.testBit_or, Bool.or_eq_true]) hX24 hX j
  have h2 : ∀ j, ((kps P X).testBit j = true ↔ X.testBit j = true ∨ ∃ a, X.testBit a = true ∧ ∃ b, X.testBit b = true ∧ kgm P a b = j) := fun j => kfd_g (F := fun a r => kfd (fun b r => Nat.lor r (Nat.pow 2 (kgm P a b))) 24 X r) (n := n) (Q := fun a j => ∃ b, X.testBit b = true ∧ kgm P a b = j) (fun a r j _ => kfd_g (F := fun b r => Nat.lor r (Nat.pow 2 (kgm P a b))) (n := n) (Q := fun b j => kgm P a b = j) (fun b r j _ => by
    show (r ||| 2 ^ kgm P a b).testBit j = true ↔ _
    rw [Nat.testBit_or, Bool.or_eq_true, Nat.testBit_two_pow, decide_eq_true_iff]) hX24 hX j) hX24 hX j
  have e : kps5 n P X = kps P X := by
    refine Nat.eq_of_testBit_eq fun j => Bool.eq_iff_iff.mpr ?_
    rw [h1, h2]
    refine or_congr Iff.rfl ⟨?_, ?_⟩
    · rintro ⟨b, hb, hj⟩
      obtain ⟨k, -, q2, q3⟩ := ((hR X b hX (gbit_lt hX hb)).2 j).mp hj
      exact ⟨k, q2, b, hb, q3⟩
    · rintro ⟨a, ha, b, hb, q⟩
      exact ⟨b, hb, ((hR X b hX (gbit_lt hX hb)).2 j).mpr ⟨a, gbit_lt hX ha, ha, q⟩⟩
  refine ⟨e, Nat.lt_pow_two_of_testBit _ (fun j hj => ?_)⟩
  rw [Bool.eq_false_iff]
  intro hq
  rcases (h2 j).mp hq with h | ⟨a, ha, b, hb, h⟩
  · have := gbit_lt hX h
    omega
  · have := hm a b (gbit_lt hX ha) (gbit_lt hX hb)
    omega
theorem kc15_e {n P X g : Nat} (n2 : n ≤ 24) (hm : ∀ a b, a < n → b < n → kgm P a b < n) (hR : kDo (kr5 n P) n (fun g k => kgm P k g)) (hX : X < 2 ^ n) (hg : g < n) : kc15 n P X g = kc1 P X g ∧ kc1 P X g < 2 ^ n := by
  have hX24 : X < 2 ^ 24 := Nat.lt_of_lt_of_le hX (Nat.pow_le_pow_right (by omega) n2)
  have h2 : ∀ j, ((kc1 P X g).testBit j = true ↔ (X ||| 2 ^ g).testBit j = true ∨ ∃ a, X.testBit a = true ∧ kgm P a g = j) := fun j => kfd_g (F := fun a r => Nat.lor r (Nat.pow 2 (kgm P a g))) (n := n) (Q := fun a j => kgm P a g = j) (fun a r j _ => by
    show (r ||| 2 ^ kgm P a g).testBit j = true ↔ _
    rw [Nat.testBit_or, Bool.or_eq_true, Nat.testBit_two_pow, decide_eq_true_iff]) hX24 hX j
  have e : kc15 n P X g = kc1 P X g := by
    refine Nat.eq_of_testBit_eq fun j => Bool.eq_iff_iff.mpr ?_
    show ((X ||| 2 ^ g) ||| kr5 n P X g).testBit j = true ↔ _
    rw [Nat.testBit_or, Bool.or_eq_true, h2, (hR X g hX hg).2 j]
    refine or_congr Iff.rfl ⟨?_, ?_⟩
    · rintro ⟨k, -, q2, q3⟩
      exact ⟨k, q2, q3⟩
    · rintro ⟨a, ha, q⟩
      exact ⟨a, gbit_lt hX ha, ha, q⟩
  refine ⟨e, ?_⟩
  rw [← e]
  exact Nat.or_lt_two_pow (Nat.or_lt_two_pow hX (Nat.pow_lt_pow_right (by omega) hg)) (hR X g hX hg).1
theorem kokF5_e {n P : Nat} {S : List Nat} {s g : Nat} (n2 : n ≤ 24) (hm : ∀ a b, a < n → b < n → kgm P a b < n) (hR : kDo (kr5 n P) n (fun g k => kgm P k g)) : ∀ (fuel X : Nat), X < 2 ^ n → kokF5 n P S s g fuel X = kokF P S s g fuel X
  | 0, _, _ => rfl
  | fuel + 1, X, hX => by
    show cond (Nat.beq (Nat.mod X (Nat.pow 2 g)) (Nat.mod s (Nat.pow 2 g))) (cond (kmem S X) true (kokF5 n P S s g fuel (kps5 n P X))) true = cond (Nat.beq (Nat.mod X (Nat.pow 2 g)) (Nat.mod s (Nat.pow 2 g))) (cond (kmem S X) true (kokF P S s g fuel (kps P X))) true
    have h := kps5_e n2 hm hR hX
    rw [h.1, kokF5_e n2 hm hR fuel _ h.2]
theorem kB5_4 {n P : Nat} {S : List Nat} (n2 : n ≤ 24) (hm : ∀ a b, a < n → b < n → kgm P a b < n) (hR : kDo (kr5 n P) n (fun g k => kgm P k g)) (h : kB5 n P S = true) : kB n P S = true ∧ ∀ s ∈ S, s < 2 ^ n := by
  obtain ⟨b1, b2⟩ := kcd.mp h
  obtain ⟨b2, b3⟩ := kcd.mp b2
  obtain ⟨b3, b4⟩ := kcd.mp b3
  have b3' := kall_s b3
  have b4' := kall_s b4
  have hS : ∀ s ∈ S, s < 2 ^ n := fun s hs => kbl.mp (kcd.mp (b3' s hs)).1
  refine ⟨kcd.mpr ⟨b1, kcd.mpr ⟨b2, kcd.mpr ⟨kall5_i fun s hs => ?_, kall5_i fun s hs => klt_i fun g hg => ?_⟩⟩⟩, hS⟩
  · obtain ⟨c1, c2⟩ := kcd.mp (b3' s hs)
    obtain ⟨c2, c3⟩ := kcd.mp c2
    have hs24 : s < 2 ^ 24 := Nat.lt_of_lt_of_le (hS s hs) (Nat.pow_le_pow_right (by omega) n2)
    refine kcd.mpr ⟨c1, kcd.mpr ⟨c2, kal_i hs24 fun a ha => kal_i hs24 fun b hb => ?_⟩⟩
    have h3 : s ||| kr5 n P s b = s := kbq.mp (kal_s c3 b hb)
    rw [ktb_e, ← h3, Nat.testBit_or, ((hR s b (hS s hs) (gbit_lt (hS s hs) hb)).2 (kgm P a b)).mpr ⟨a, gbit_lt (hS s hs) ha, ha, rfl⟩, Bool.or_true]
  · have h4 := klt_s (b4' s hs) g hg
    show cond (ktb s g) true (kokF P S s g 3 (kc1 P s g)) = true
    have h4 : cond (ktb s g) true (kokF5 n P S s g 3 (kc15 n P s g)) = true := h4
    have h5 := kc15_e n2 hm hR (hS s hs) hg
    rw [h5.1, kokF5_e n2 hm hR 3 _ h5.2] at h4
    exact h4
theorem kle5_e {n P Ip X : Nat} (hC : ∀ X g, X < 2 ^ n → g < n → kt5 n P Ip X g = ktr n P Ip X g) (hX : X < 2 ^ n) : kle5 n P Ip X = kle n P Ip X := kup_q X n (fun k r hk => by
  show cond (Nat.ble (Nat.succ (kt5 n P Ip X k)) r) (kt5 n P Ip X k) r = cond (Nat.ble (Nat.succ (ktr n P Ip X k)) r) (ktr n P Ip X k) r
  rw [hC X k hX hk])
theorem kE5_4 {n P Ip Fp : Nat} {S F : List Nat} (hC : ∀ X g, X < 2 ^ n → g < n → kt5 n P Ip X g = ktr n P Ip X g) (hS : ∀ s ∈ S, s < 2 ^ n) (h : kE5 n P S F Fp Ip = true) : kE n P S F Fp Ip = true ∧ (∀ f ∈ F, f < 2 ^ n) ∧ ∀ i, i < F.length → kF Fp i < 2 ^ n := by
  obtain ⟨e1, e2⟩ := kcd.mp h
  obtain ⟨e2, e3⟩ := kcd.mp e2
  obtain ⟨e3, e4⟩ := kcd.mp e3
  have hF : ∀ f ∈ F, f < 2 ^ n := fun f hf => hS f (kmem_s (kcd.mp (kall_s e3 f hf)).1)
  refine ⟨kcd.mpr ⟨e1, kcd.mpr ⟨kall5_i fun s hs => ?_, kcd.mpr ⟨kall5_i fun f hf => ?_, e4⟩⟩⟩, hF, fun i hi => ?_⟩
  · have h2 := kall_s e2 s hs
    have h2 : cond (kmem F (kle5 n P Ip s)) (Nat.beq (kcb (kle5 n P Ip s)) (kcb s)) false = true := h2
    rw [kle5_e hC (hS s hs)] at h2
    exact h2
  · have h3 := kall_s e3 f hf
    have h3 : cond (kmem S f) (Nat.beq (kle5 n P Ip f) f) false = true := h3
    rw [kle5_e hC (hF f hf)] at h3
    exact h3
  · have h4 := kfl_s e1 i hi
    rw [Nat.zero_add] at h4
    rw [← h4, List.getD_eq_getElem?_getD, List.getElem?_eq_getElem hi]
    exact hF _ (List.getElem_mem hi)
theorem kcv_m {P X x : Nat} : ∀ n, (kcv n P X x = x ∨ ∃ h, h < n ∧ X.testBit h = true ∧ kgm P h x = kcv n P X x) ∧ kcv n P X x ≤ x ∧ ∀ h, h < n → X.testBit h = true → kcv n P X x ≤ kgm P h x
  | 0 => ⟨Or.inl rfl, Nat.le_refl _, fun h hh => absurd hh (Nat.not_lt_zero h)⟩
  | n + 1 => by
    obtain ⟨i1, i2, i3⟩ := kcv_m (P := P) (X := X) (x := x) n
    have e : kcv (n + 1) P X x = if X.testBit n = true then (if kgm P n x < kcv n P X x then kgm P n x else kcv n P X x) else kcv n P X x := by
      show cond (ktb X n) (cond (Nat.ble (Nat.succ (kgm P n x)) (kcv n P X x)) (kgm P n x) (kcv n P X x)) (kcv n P X x) = _
      rw [kib, kil]
    rw [e]
    by_cases hx : X.testBit n = true
    · rw [if_pos hx]
      by_cases hl : kgm P n x < kcv n P X x
      · rw [if_pos hl]
        refine ⟨Or.inr ⟨n, by omega, hx, rfl⟩, by omega, fun h hh hb => ?_⟩
        by_cases q : h = n
        · rw [q]; exact Nat.le_refl _
        · have := i3 h (by omega) hb
          omega
      · rw [if_neg hl]
        refine ⟨i1.imp id (fun ⟨h, h1, h2, h3⟩ => ⟨h, by omega, h2, h3⟩), i2, fun h hh hb => ?_⟩
        by_cases q : h = n
        · rw [q]; omega
        · exact i3 h (by omega) hb
    · rw [if_neg hx]
      refine ⟨i1.imp id (fun ⟨h, h1, h2, h3⟩ => ⟨h, by omega, h2, h3⟩), i2, fun h hh hb => ?_⟩
      by_cases q : h = n
      · rw [q] at hb; exact absurd hb hx
      · exact i3 h (by omega) hb
theorem kG5_4 {n P Fp Cp Kp Qp m : Nat} (hm : ∀ a b, a < n → b < n → kgm P a b < n) (hR : kDo (kr5 n P) n (fun g k => kgm P k g)) (hL : kDo (kl5 n P) n (fun g k => kgm P g k)) (hF : ∀ i, i < m → kF Fp i < 2 ^ n) (h : kG5 n P Fp Cp Kp Qp m = true) : kG n P Fp Cp Kp Qp m = true := by
  obtain ⟨g1, g2⟩ := kcd.mp h
  obtain ⟨g2, g3⟩ := kcd.mp g2
  obtain ⟨g3, g4⟩ := kcd.mp g3
  have hc : ∀ i x, i < m → x < n → (kcv n P (kF Fp i) x = kC Cp i x ∧ kC Cp i x < n) ∧ (kr5 n P (kF Fp i) (kC Cp i x)).testBit x = true ∧ (kC Cp i x = x → ∀ y, (kr5 n P (kF Fp i) x).testBit y = true → kC Cp i y = x) := by
    intro i x hi hx
    obtain ⟨a1, a2⟩ := kcd.mp (klt_s (klt_s g2 i hi) x hx)
    obtain ⟨a2, a3⟩ := kcd.mp a2
    obtain ⟨a3, a4⟩ := kcd.mp a3
    rw [ktb_e] at a1 a3
    have a1 : (kr5 n P (kF Fp i) x ||| 2 ^ x).testBit (kC Cp i x) = true := a1
    have a2 : (kr5 n P (kF Fp i) x ||| 2 ^ x) % 2 ^ kC Cp i x = 0 := kbq.mp a2
    have hY : ∀ j, ((kr5 n P (kF Fp i) x ||| 2 ^ x).testBit j = true ↔ (∃ k, k < n ∧ (kF Fp i).testBit k = true ∧ kgm P k x = j) ∨ x = j) := fun j => by
      rw [Nat.testBit_or, Bool.or_eq_true, (hR _ x (hF i hi) hx).2 j, Nat.testBit_two_pow, decide_eq_true_iff]
    obtain ⟨v1, v2, v3⟩ := kcv_m (P := P) (X := kF Fp i) (x := x) n
    have hle : kcv n P (kF Fp i) x ≤ kC Cp i x := by
      rcases (hY _).mp a1 with ⟨k, k1, k2, k3⟩ | k3
      · rw [← k3]; exact v3 k k1 k2
      · rw [← k3]; exact v2
    have hve : (kr5 n P (kF Fp i) x ||| 2 ^ x).testBit (kcv n P (kF Fp i) x) = true := by
      refine (hY _).mpr ?_
      rcases v1 with v1 | ⟨k, k1, k2, k3⟩
      · exact Or.inr v1.symm
      · exact Or.inl ⟨k, k1, k2, k3⟩
    have hge : ¬ kcv n P (kF Fp i) x < kC Cp i x := fun hlt => by
      have h3 : ((kr5 n P (kF Fp i) x ||| 2 ^ x) % 2 ^ kC Cp i x).testBit (kcv n P (kF Fp i) x) = true := by
        rw [Nat.testBit_mod_two_pow, hve, decide_eq_true hlt]; rfl
      rw [a2, Nat.zero_testBit] at h3
      cases h3
    refine ⟨⟨by omega, ?_⟩, a3, fun hxx y hy => ?_⟩
    · rcases (hY _).mp a1 with ⟨k, k1, k2, k3⟩ | k3
      · rw [← k3]; exact hm k x k1 hx
      · rw [← k3]; exact hx
    · rw [kif, if_pos hxx] at a4
      exact kbq.mp (kal_s a4 y hy)
  have hfx : ∀ i H x, i < m → x < n → H < 2 ^ n → kfx5 n P Fp Cp i H x = kfx n P Cp i H x := by
    intro i H x hi hx hH
    refine Bool.eq_iff_iff.mpr ?_
    show cond (Nat.beq (kC Cp i x) x) (Nat.beq (Nat.land (kl5 n P H x) (kr5 n P (kF Fp i) x)) (kl5 n P H x)) false = true ↔ cond (Nat.beq (kC Cp i x) x) (klt n (fun k => cond (ktb H k) (Nat.beq (kC Cp i (kgm P x k)) x) true)) false = true
    rw [kcd, kcd]
    refine and_congr_right fun h0 => ?_
    have h0 := kbq.mp h0
    constructor
    · intro h1
      have h1 : kl5 n P H x &&& kr5 n P (kF Fp i) x = kl5 n P H x := kbq.mp h1
      refine klt_i fun k hk => ?_
      rw [kib]
      split
      · rename_i hb
        refine kbq.mpr ((hc i x hi hx).2.2 h0 _ ?_)
        have h2 := ((hL H x hH hx).2 (kgm P x k)).mpr ⟨k, hk, hb, rfl⟩
        rw [← h1, Nat.testBit_and, Bool.and_eq_true] at h2
        exact h2.2
      · rfl
    · intro h1
      refine kbq.mpr (Nat.eq_of_testBit_eq fun j => ?_)
      show (kl5 n P H x &&& kr5 n P (kF Fp i) x).testBit j = _
      rw [Nat.testBit_and]
      cases hj : (kl5 n P H x).testBit j with
      | false => rfl
      | true =>
        obtain ⟨k, k1, k2, k3⟩ := ((hL H x hH hx).2 j).mp hj
        have k3 : kgm P x k = j := k3
        have h2 := klt_s h1 k k1
        rw [kib, if_pos k2, kbq, k3] at h2
        have h3 := (hc i j hi (by rw [← k3]; exact hm x k hx k1)).2.1
        rw [h2] at h3
        rw [h3] <;> rfl
  refine kcd.mpr ⟨g1, kcd.mpr ⟨klt_i fun i hi => klt_i fun x hx => kbq.mpr (hc i x hi hx).1.1, kcd.mpr ⟨klt_i fun i hi => klt_i fun k hk => ?_, g4⟩⟩⟩
  have h3 := kbq.mp (klt_s (klt_s g3 i hi) k hk)
  refine kbq.mpr ?_
  rw [← h3]
  exact kup_q 0 n (fun x r hx => by
    show cond (kfx n P Cp i (kF Fp k) x) (Nat.succ r) r = cond (kfx5 n P Fp Cp i (kF Fp k) x) (Nat.succ r) r
    rw [hfx i _ x hi hx (hF k hk)])
theorem kJ5_4 {n P Fp Ip Cp m : Nat} (n1 : 1 ≤ n) (hC : ∀ X g, X < 2 ^ n → g < n → kt5 n P Ip X g = ktr n P Ip X g) (hF : ∀ i, i < m → kF Fp i < 2 ^ n) (h : kJ5 n P Fp Ip Cp m = true) : kJ n P Fp Ip Cp m = true := by
  obtain ⟨j1, j2⟩ := kcd.mp h
  obtain ⟨j2, j3⟩ := kcd.mp j2
  obtain ⟨j3, j4⟩ := kcd.mp j3
  refine kcd.mpr ⟨j1, kcd.mpr ⟨klt_i fun i hi => ?_, kcd.mpr ⟨j3, ?_⟩⟩⟩
  · have h2 := klt_s j2 i hi
    have h2 : Nat.beq (kt5 n P Ip (kF Fp i) 0) (kF Fp i) = true := h2
    rw [hC _ 0 (hF i hi) (by omega)] at h2
    exact h2
  · have e : kup (fun d r => Nat.add r (cond (Nat.ble (kmm n P Fp Ip Cp (Nat.sub (Nat.sub m 1) d)) 2) 1 0)) 0 m = kup (fun d r => Nat.add r (cond (Nat.ble (kmm5 n P Fp Ip Cp (Nat.sub (Nat.sub m 1) d)) 2) 1 0)) 0 m := kup_q 0 m (fun d r hd => by
      have e2 : kmm n P Fp Ip Cp (Nat.sub (Nat.sub m 1) d) = kmm5 n P Fp Ip Cp (Nat.sub (Nat.sub m 1) d) := by
        have hi : Nat.sub (Nat.sub m 1) d < m := by show m - 1 - d < m; omega
        refine kup_q 0 n (fun x r hx => ?_)
        show cond (Nat.beq (kC Cp (Nat.sub (Nat.sub m 1) d) x) x) (cond (Nat.beq (ktr n P Ip (kF Fp (Nat.sub (Nat.sub m 1) d)) x) (kF Fp (Nat.sub (Nat.sub m 1) d))) (Nat.succ r) r) r = cond (Nat.beq (kC Cp (Nat.sub (Nat.sub m 1) d) x) x) (cond (Nat.beq (kt5 n P Ip (kF Fp (Nat.sub (Nat.sub m 1) d)) x) (kF Fp (Nat.sub (Nat.sub m 1) d))) (Nat.succ r) r) r
        rw [hC _ x (hF _ hi) hx]
      show Nat.add r (cond (Nat.ble (kmm n P Fp Ip Cp (Nat.sub (Nat.sub m 1) d)) 2) 1 0) = Nat.add r (cond (Nat.ble (kmm5 n P Fp Ip Cp (Nat.sub (Nat.sub m 1) d)) 2) 1 0)
      rw [e2])
    show Nat.ble (kup (fun d r => Nat.add r (cond (Nat.ble (kmm n P Fp Ip Cp (Nat.sub (Nat.sub m 1) d)) 2) 1 0)) 0 m) 15 = true
    rw [e]
    exact j4
theorem k5_4 {n P : Nat} {S F : List Nat} {Fp Ip Cp Kp Qp Dp : Nat} {B W E : List Nat} (h : kall5 n P S F Fp Ip Cp Kp Qp Dp B W E = true) : kall4 n P S F Fp Ip Cp Kp Qp Dp B W E = true ∧ (∀ X g, X < 2 ^ n → g < n → kt5 n P Ip X g = ktr n P Ip X g) ∧ (∀ s ∈ S, s < 2 ^ n) ∧ (∀ f ∈ F, f < 2 ^ n) ∧ ∀ i, i < F.length → kF Fp i < 2 ^ n := by
  obtain ⟨hA, h⟩ := kcd.mp h
  obtain ⟨hiv, h⟩ := kcd.mp h
  obtain ⟨hst, h⟩ := kcd.mp h
  obtain ⟨hB, h⟩ := kcd.mp h
  obtain ⟨hE, h⟩ := kcd.mp h
  obtain ⟨hG, h⟩ := kcd.mp h
  obtain ⟨hH, h⟩ := kcd.mp h
  obtain ⟨hJ, h⟩ := kcd.mp h
  obtain ⟨hwd, h2⟩ := kcd.mp h
  have hAs : kAs P n := by
    cases E with
    | nil => cases hst
    | cons e E' => exact kst_as hA hst
  obtain ⟨⟨n1, n2⟩, hm⟩ := kA_m hA
  obtain ⟨hR, hL, hC⟩ := k5w hA hiv hAs
  obtain ⟨hB4, hS⟩ := kB5_4 n2 hm hR hB
  obtain ⟨hE4, hF, hFi⟩ := kE5_4 hC hS hE
  have hFk : ∀ i, i < klen F → kF Fp i < 2 ^ n := fun i hi => hFi i (by rw [klen_e] at hi; exact hi)
  exact ⟨kcd.mpr ⟨kcd.mpr ⟨hA, kcd.mpr ⟨hB4, kcd.mpr ⟨hE4, kcd.mpr ⟨kG5_4 hm hR hL hFk hG, kcd.mpr ⟨hH, kJ5_4 n1 hC hFk hJ⟩⟩⟩⟩⟩, kcd.mpr ⟨hiv, kcd.mpr ⟨hwd, kcd.mpr ⟨hst, h2⟩⟩⟩⟩, hC, hS, hF, hFi⟩
def gT_0 : zGT := (1, 0, [1], [1], [])
def gE_0 : List Nat := [171169]
theorem kt_0 : kall5 1 0 [1] [1] 1 0 0 1 1 1001 [] [] gE_0 = true := by decide +kernel
theorem kq_0 : kTab gT_0 gE_0 := kall4_s (k5_4 kt_0).1
def gT_1 : zGT := (2, 1329227995784915872903807060280344608, [1, 3], [1, 3], [])
def gE_1 : List Nat := [4442976066722, 4443387108514, 4443974311074, 4446675442850, 4446734163106, 4451373063330, 4452430027938, 4455777082530, 4456246844578, 4472982117538, 4473040837794, 4473451879586, 4474039082146, 4510563081378, 4510621801634, 4519018798242, 4523422817442, 4545795234978, 4546852199586, 4549553331362, 4558654971042, 4580322745506, 4580792507554, 4584080841890, 4588778462370, 4683435515042, 4683494235298, 4683905277090, 4684492479650, 4687193611426, 4687252331682, 4691891231906, 4692948196514, 4696295251106, 4696765013154, 4984083225762, 4984141946018, 4984552987810, 4985140190370, 5051728960674, 5051787680930, 5086961114274, 5088018078882, 5121488624802, 5121958386850, 5265940454562, 5265999174818, 5274396171426, 5278800190626, 5296005225634, 5296063945890, 5368818343074, 5381678079138, 5403345853602, 5411801570466, 5542160538786, 5543217503394, 5545918635170, 5555020274850, 5572225309858, 5573282274466, 5609806273698, 5622666009762, 5679565937826, 5683324034210, 5817264938146, 5817734700194, 5821023034530, 5825720655010, 5847329709218, 5847799471266, 5884910673058, 5893366389922, 5920142826658, 5923900923042]
theorem kt_1 : kall5 2 1329227995784915872903807060280344608 [1, 3] [1, 3] 50331649 32 32 48229554031919796300721599479637339648645773918210 48229554031919796300721599479637339648645773918209 18816293823322352814699357459386638054639888925354541975994441505032120016930634000550349373203455836123209614313 [1] [32] gE_1 = true := by decide +kernel
theorem kq_1 : kTab gT_1 gE_1 := kall4_s (k5_4 kt_1).1
def gT_2 : zGT := (3, 1812785088462622322152463235762234397325398297920404582771515421444450289696, [1, 7], [1, 7], [])
def gE_2 : List Nat := [1164945809226243235, 1166777599708535971, 1167916694400834723, 1168024449828691107, 1181431923566877859, 1190544681105267875, 1199580472125070499, 1191406724528118947, 1200427118627036323, 1200658049421974691, 1298666514433612963, 1298928198788226211, 1298820447059745955, 1371568574740733091, 1374908899697794211, 1373831382412991651, 1443854902899154083, 1447087472428358819, 1445255693044194467, 1515956511988423843, 1518049986825329827, 1517187972997487779, 1378464922123541667, 1450628074914880675, 1522714260776590499, 1486371068670287011, 1549436860433079459, 1414438846673886371, 1540816722154658979, 1405495453210025123, 1468915288656485539, 1452475521274387619, 1524546310215212195, 1550406866448850083, 1487371868527828131, 1535752631375535267, 1464851757275454627, 1524900626830630051, 1541648425525877923, 1534752314903141539]
theorem kt_2 : kall5 3 1812785088462622322152463235762234397325398297920404582771515421444450289696 [1, 7] [1, 7] 117440513 1088 2080 48229554031919796300721599479637339648645773918211 48229554031919796300721599479637339648645773918209 18816293823322352814699357459386638054639888925354541975994441505032120016930634000550349373203455836123209614313 [1] [32, 33] gE_2 = true := by decide +kernel
theorem kq_2 : kTab gT_2 gE_2 := kall4_s (k5_4 kt_2).1
def gT_3 : zGT := (4, 2562259957806252051627423331097166754936065291865356355026310109358400078783127129340281408919790665465243732000, [1, 3, 5, 9, 15], [1, 3, 5, 9, 15], [])
def gE_3 : List Nat := [910040155665123692944548, 911847943480484158413988, 914430497502427680513188, 926310246003367882169508, 926568501405562234379428, 946970678178916058963108, 951619275418414398741668, 966339833343492474707108, 968405876561047292386468, 910693864544176418495652, 911876190057347437206692, 919252609982523622202532, 926338492580231160962212, 927222210284614959930532, 946998924755779337755812, 956441387898510340431012, 1004254954470399080045732, 1006320997687953897725092, 910431573747391738846372, 911916542310009264053412, 916920240727524838120612, 926378844832892987808932, 926959919487830280281252, 947039277008441164602532, 954109018643511556349092, 985390204234302467775652, 987456247451857285455012, 917105861089769241615524, 919478582597429852544164, 926564465195137391303844, 926568500435796678057124, 985575824596546871270564, 995018287739277873945764, 1004480927085305310387364, 1011550668720375702133924, 910693863666769486584996, 926568500420403573988516, 926564465210530612812964, 927222209407208028019876, 915007534715491804421284, 919801400618724467317924, 926887283216432006077604, 926959917548299167636644, 966916870556556598615204, 976359333699287601290404, 1004803745106599925161124, 1009452342346098264939684, 926959917271223294401700, 926887283493509993241764, 927222207914076933364900, 915310176610455505771684, 917731321006027557739684, 927189925111395707428004, 927222207036670001454244, 967219512451520299965604, 974289254086590691712164, 986201284512805187394724, 990849881752303527173284, 927222206913525168905380, 927189925234541479500964, 926959918271782692494500, 968401833454511826574500, 968405868695171113327780, 987383605515796714003620, 987456239847663875562660, 1006288708004555153120420, 1006320989929829447146660, 919801394938669066001572, 968405868679778009259172, 968401833469905048083620, 976359328019232199974052, 917105854070513786330276, 1006320989806684614597796, 1006288708127700925193380, 1011550661701120246848676, 919478567681482473774244, 987456239570588002327716, 987383605792874701167780, 995018272823330495175844, 951615222460292329020580, 951619257700951615773860, 989966149686153632193700, 990849867390537431162020, 1008871252174912071310500, 1009452326829849363782820, 919252601208488067243172, 951619257685558511705252, 951615222475685550529700, 956441379124474785471652, 1009452324613242377903268, 1008871254391535968623780, 1011550649756071489608868, 990849864019447640136868, 989966153057269142690980, 995018259877729973476516, 954036357620001939823780, 954108991951869101382820, 973405512784578355567780, 974289230488962154536100, 1011292387334621682113700, 1011550642736816034323620, 954108991674793228147876, 954036357897079926987940, 956441369626929575140516, 1011550641751657373932708, 1011292388319787858697380, 1009452332617717562645668, 974289227117872363510948, 973405516155693866065060, 976359305576086467943588, 956409070076517358410916, 956441352001791652437156, 975778225241093774154916, 976359299896031066627236, 994759997302378661584036, 995018252704573013793956, 956441351878646819888292, 956409070199663130483876, 954109009423143864016036, 995018251719414353403044, 994759998287544838167716, 990849872177884576259236, 976359297679424080747684, 975778227457717671468196, 974289235014594997689508, 1011292351237792641227940, 1011550606639986993437860, 989966104245710421662884, 990849821950094220631204, 1008871143668681502006436, 1009452218323618794478756, 968401777300468184292516, 968405812541127471045796, 968405812525734366977188, 968401777315861405801636, 1011550605654828333046948, 1011292352222958817811620, 987383486188217683844260, 987456120520084845403300, 987456120243008972168356, 987383486465295671008420, 1009452216107011808599204, 1008871145885305399319716, 1006288525611192581004452, 1006320807536466875030692, 1006320807413322042481828, 1006288525734338353077412, 990849818579004429606052, 989966107616825932160164, 1004803676361267678977188, 1009452273600766018755748, 985575754404262431595684, 995018217546993434270884, 1004480785930541001252004, 1011550527565611392998564, 1009452255867910131719332, 1004803694094258857483428, 1011550500596893064797348, 1004480812899465085230244, 995018181527129913728164, 985575790424400762936484, 1004254882631330956483748, 1006320925848885774163108, 1006320917967616491035812, 1004254890512660369153188]
theorem kt_3 : kall5 4 2562259957806252051627423331097166754936065291865356355026310109358400078783127129340281408919790665465243732000 [1, 3, 5, 9, 15] [1, 3, 5, 9, 15] 1188422480215264817104900063233 100384 3296566469133687796338966674661583618870519638724269910085475600066949268156033804206011953168444506525697575743598078618932369629682012279946709024 4938390286954881726852422787181601030355755429474553110575339170065553627381085796364732684507808101749860645591453756590310032125914775021673524833169154596489117662925428060937124530573889587118084 4938390286954881726852422787181601030355755429474450813997093865316123483821462704098059608695271111120831430058110958328903398402518135243210101849148899478033632475223826601585888819567902880432129 124795655780023007542431026854856558298920748963171638283407625352445204200281380672454552137179833785286296511827593182909030461942338369790103976294734817821905230758166682365657364690767936787031665586325586016234155519101893603850734414097126113507439573486306224382531835880758152769765112729470431032902071659428959575626425946579230106466678115138436782861343700556891399394521741337708246814092405880215793441877591361688495122760681 [1, 2] [32, 64, 65] gE_3 = true := by decide +kernel
theorem kq_3 : kTab gT_3 gE_3 := kall4_s (k5_4 kt_3).1
def gT_4 : zGT := (4, 77114395705378814037751095395577881295862938900086030172466358846093638005593608736232294207033621120678065440800, [1, 3, 15], [1, 3, 15], [])
def gE_4 : List Nat := [608458373553239231732900, 624986719293677773167780, 624918119232706338528420, 624631618331174330604708, 617565904825138811149476, 674123837905701945121956, 614842117487872803249316, 709286925118479263767716, 617210795888968529517732, 692750501030816550919332, 617013075885084851215524, 654201853801071569444004, 708738124630707786652836, 692197664332620348169380, 654100964056702329724068, 706446117418451723263140, 673244139710250676821156, 651748427803551812721828, 687585403546749221641380, 670895639667524885453988, 709056861124262386375844, 709315116526456738585764, 687702367663069438581924, 688586085367453237550244, 706603371876167557749924, 707184446531104850222244, 665912068964941375380644, 665916104205600662133924, 684861496173707185527972, 684934130505574347087012, 703762500386809121512612, 703794782312083415538852, 702564151037864462949540, 707212748277362802728100, 683279736142637759110308, 692722199285368761785508, 702176697249170406415524, 709246438884240798162084, 702011322098054779280548, 704077365315609596959908]
theorem kt_4 : kall5 4 77114395705378814037751095395577881295862938900086030172466358846093638005593608736232294207033621120678065440800 [1, 3, 15] [1, 3, 15] 4222124700991489 68640 98774126657371742823877835734297271600426544984590368 2257738296968401957091537943421216585135058680131078436942086819060687693349096336053568217439797252 2257738296968401957091537943421216585135058680131030207388054899264386971749616698713919571665879041 353527022514628854245715547220417921323953447806989733798059430200652139082676205791650269787628417086750289521683812529085301685138622975009230828326906017375410245916558962722272604706221699983650271390903114940609938409 [2] [64, 66, 65] gE_4 = true := by decide +kernel
theorem kq_4 : kTab gT_4 gE_4 := kall4_s (k5_4 kt_4).1
def gT_5 : zGT := (4, 156326039937174661148007496964088640611276753133990874929974064597515189284059555799765570200409311339697370400800, [1, 15, 5], [1, 5, 15], [])
def gE_5 : List Nat := [306158319804665724837028, 312061871824885803818148, 314426514985322360773796, 314454770798086190177444, 314680740318989718297764, 359290287986646435667108, 359294323211912618351780, 378207433270138891312292, 378280067324930179636388, 397104402242581657984164, 397136684044711119461540, 378433479772249526541476, 397326413519422411152548, 397907485957752717745316, 379317194105543534484644, 397387014307885382540452, 397645268724921074359460, 380241235939477751504036, 399134161789958125427876, 399162480776262040329380, 403811060282904493071524, 406203876456310188973220, 389683663062345233636516, 399646704714438020340900, 401712740050723554892964]
theorem kt_5 : kall5 4 156326039937174661148007496964088640611276753133990874929974064597515189284059555799765570200409311339697370400800 [1, 15, 5] [1, 5, 15] 4222124734545921 34912 47937253704453615717080862513094083044714587409713184 2257738296968401957091537943421216585135058680131078436942086819060687693349096336053568217439797252 2257738296968401957091537943421216585135058680131030207388054899264386971749616698713919571665879041 353527022514628854245715547220417921323953447806989733798059430200652139082676205791650269787628417086750289521683812529085301685138622975009230828326906017375410245916558962722272604706221699983650271390903114940609938409 [1] [32, 33, 34] gE_5 = true := by decide +kernel
theorem kq_5 : kTab gT_5 gE_5 := kall4_s (k5_4 kt_5).1
def gT_6 : zGT := (4, 2562259957806252051627423331097166760194202156645828119866203471569325577929936690986213790527960909117774727200, [1, 15, 9], [1, 9, 15], [])
def gE_6 : List Nat := [306230953490020401585316, 312642941307723217804452, 315015653933533244857508, 315338480698140506889380, 314789690908594149694628, 363938843849345747557540, 363938843864738969066660, 382920544855825963981988, 382920545132903951146148, 385503158972684060236964, 385503162343799570734244, 401825576397531578014884, 401825576520677350087844, 404408189529227197062308, 406829396482614173539492, 406829397467780350123172, 404408191745851094375588, 381112840656313202678948, 400017871197433111944356, 400340761012435626925220, 400340778745426805431460, 400017898166357195922596, 381112876676451534019748, 399791972208292206386340, 399791980089621619055780]
theorem kt_6 : kall5 4 2562259957806252051627423331097166760194202156645828119866203471569325577929936690986213790527960909117774727200 [1, 15, 9] [1, 9, 15] 4222124801654785 99392 1543345729021433481623091183348394868756664765483040 2257738296968401957091537943421216585135058680131078436942086819060687693349096336053568217439797252 2257738296968401957091537943421216585135058680131030207388054899264386971749616698713919571665879041 353527022514628854245715547220417921323953447806989733798059430200652139082676205791650269787628417086750289521683812529085301685138622975009230828326906017375410245916558962722272604706221699983650271390903114940609938409 [1] [32, 33, 35] gE_6 = true := by decide +kernel
theorem kq_6 : kTab gT_6 gE_6 := kall4_s (k5_4 kt_6).1
def gT_7 : zGT := (5, 10027967894191659316929253728486749783628291301877531749034879062820628759995506116758953651997374702081218464466336935282403028827477687532985700681760, [1, 31], [1, 31], [])
def gE_7 : List Nat := [82423968886766594853280324773, 99136365726801288808930385061, 104089034946985921976310340773, 104096458567058270344406277285, 104155696412480155238319430821, 104629586779066758303525805221]
theorem kt_7 : kall5 5 10027967894191659316929253728486749783628291301877531749034879062820628759995506116758953651997374702081218464466336935282403028827477687532985700681760 [1, 31] [1, 31] 520093697 1117312 4294688 48229554031919796300721599479637339648645773918213 48229554031919796300721599479637339648645773918209 18816293823322352814699357459386638054639888925354541975994441505032120016930634000550349373203455836123209614313 [1] [32, 33, 34, 35] gE_7 = true := by decide +kernel
theorem kq_7 : kTab gT_7 gE_7 := kall4_s (k5_4 kt_7).1
def gT_8 : zGT := (5, 3478289695744682336112152212602303421096247934926173333046935504171331053531669877881985968135789832850804369225645941495046223634549267310226100553760, [1, 31], [1, 31], [])
def gE_8 : List Nat := [82646107876258709005297425573, 100913477642738202025067191461, 105868260158825304202192002213, 106494502553677677916535823525, 106621439986744550170959191205, 104919425356202890050496797861]
theorem kt_8 : kall5 5 3478289695744682336112152212602303421096247934926173333046935504171331053531669877881985968135789832850804369225645941495046223634549267310226100553760 [1, 31] [1, 31] 520093697 2134112 4294688 48229554031919796300721599479637339648645773918213 48229554031919796300721599479637339648645773918209 18816293823322352814699357459386638054639888925354541975994441505032120016930634000550349373203455836123209614313 [1] [32, 33, 34, 36] gE_8 = true := by decide +kernel
theorem kq_8 : kTab gT_8 gE_8 := kall4_s (k5_4 kt_8).1
def gT_9 : zGT := (5, 3283192898344134085619727912129149694573319297598802510698166471429835144980437131080989911012688590202191106708601581596549678319756386810734707836960, [1, 31], [1, 31], [])
def gE_9 : List Nat := [82595334162045865493247728805, 100507287929035453928669617317, 105462072777474832442910219429, 105563641463458739813525658789, 106037540610789250729234308261, 104877114417297669668366097573]
theorem kt_9 : kall5 5 3283192898344134085619727912129149694573319297598802510698166471429835144980437131080989911012688590202191106708601581596549678319756386810734707836960 [1, 31] [1, 31] 520093697 3277888 4294688 48229554031919796300721599479637339648645773918213 48229554031919796300721599479637339648645773918209 18816293823322352814699357459386638054639888925354541975994441505032120016930634000550349373203455836123209614313 [1] [32, 33, 35, 36] gE_9 = true := by decide +kernel
theorem kq_9 : kTab gT_9 gE_9 := kall4_s (k5_4 kt_9).1
def gT_10 : zGT := (5, 6658677170829810165568021364759904560267147756948845471337616960494412154226167351743442648729214294730023079854226060176104551284852534344904947632160, [1, 31], [1, 31], [])
def gE_10 : List Nat := [82441951081296857496713075877, 99280223283043389956392393893, 104233947993073508419801095333, 104182136959720015832107097253, 104327054101474830145930042533, 104647568973597020946958556325]
theorem kt_10 : kall5 5 6658677170829810165568021364759904560267147756948845471337616960494412154226167351743442648729214294730023079854226060176104551284852534344904947632160 [1, 31] [1, 31] 520093697 1117312 4294688 48229554031919796300721599479637339648645773918213 48229554031919796300721599479637339648645773918209 18816293823322352814699357459386638054639888925354541975994441505032120016930634000550349373203455836123209614313 [1] [32, 33, 35, 34] gE_10 = true := by decide +kernel
theorem kq_10 : kTab gT_10 gE_10 := kall4_s (k5_4 kt_10).1
def gT_11 : zGT := (5, 6550290061162838915294452308941485823447679542522905441479334836534913518491482752686108840910159428820679102377395098036361009545460195451100175894560, [1, 31], [1, 31], [])
def gE_11 : List Nat := [82653513232887695232597138597, 100972720495770091843464895653, 105926445468081016959379086501, 106569612953534711415986887845, 106627794058200114175380987045, 104935293488139499407715507365]
theorem kt_11 : kall5 5 6550290061162838915294452308941485823447679542522905441479334836534913518491482752686108840910159428820679102377395098036361009545460195451100175894560 [1, 31] [1, 31] 520093697 3277888 4294688 48229554031919796300721599479637339648645773918213 48229554031919796300721599479637339648645773918209 18816293823322352814699357459386638054639888925354541975994441505032120016930634000550349373203455836123209614313 [1] [32, 33, 36, 35] gE_11 = true := by decide +kernel
theorem kq_11 : kTab gT_11 gE_11 := kall4_s (k5_4 kt_11).1
def gT_12 : zGT := (5, 9922677559086601530949215217120285868091653256767852188751009369831061442582265428130715657186310268198876488748560557965444001000949366137025122633760, [1, 31], [1, 31], [])
def gE_12 : List Nat := [82567830030317938829053566117, 100287254875212040615116315813, 106000505599833286334514109605, 105239922033395593057600183461, 105255808101922825976764603557, 104841147510262119874252938405]
theorem kt_12 : kall5 5 9922677559086601530949215217120285868091653256767852188751009369831061442582265428130715657186310268198876488748560557965444001000949366137025122633760 [1, 31] [1, 31] 520093697 2134112 4294688 48229554031919796300721599479637339648645773918213 48229554031919796300721599479637339648645773918209 18816293823322352814699357459386638054639888925354541975994441505032120016930634000550349373203455836123209614313 [1] [32, 33, 36, 34] gE_12 = true := by decide +kernel
theorem kq_12 : kTab gT_12 gE_12 := kall4_s (k5_4 kt_12).1
def gT_13 : zGT := (6, 291527324278895252164015140257112431664976603365501263511889451493833017037564078890828498996227519021771653370268034610287192184610921310999837920237100531397259474757204495079700258981920, [1, 3, 21, 63], [1, 3, 21, 63], [])
def gE_13 : List Nat := [83590625557845837052651974569401510, 85702539514125807025587907006209190, 87015830545753689977985929383681190, 87140060778489440050790126506384550, 83919502907601337003989584169835686, 85704480604107434748435812111785126, 89618842133342110574168000023403686, 89740576669434238404437686125501606, 83759501012468989748618068337269926, 85707253589795474352504247976893606, 88322743667986452180421883935759526, 88444755503707256071253502787230886, 83954442601320901549986921222151334, 88335499402151434359136688915258534, 89634370853195132356951240868011174, 89795481936302780890711111342660774, 83972466992423776105674264291744934, 87055484241092656316164562254732454, 89656554738699449189498727788879014, 89811287930376246961902992417266854, 83830766803890554549494153866288294, 87076281633752953346677831243046054, 88378480680316048222197444824439974, 88533768471248390327910214486105254, 88615016951907950727115385333783718, 89913333803696104391621432253258918, 89919711695126955152977038099520678, 88759212080730947172614129890532518, 90057806232145969109866749093911718, 90097182779161489813356933466463398, 87625610572465174723173246486879398, 90224185373428345353972901000420518, 90257184029013015296107479526710438, 87788662130921903442397275355258022, 89088642780470052135944310665419942, 89121918735681590350825461475613862, 90237493207255318176355271758224550]
theorem kt_13 : kall5 6 291527324278895252164015140257112431664976603365501263511889451493833017037564078890828498996227519021771653370268034610287192184610921310999837920237100531397259474757204495079700258981920 [1, 3, 21, 63] [1, 3, 21, 63] 297509094331762209718273 102928416 71741892124467940588540709690152578209251624620044471513174868896624034370190330371738106931816339441696 105593144714438437226482526297753850291946332175647027951234622024997108860076219682404289480393447207348199476237003472041176529391492268700806938630 105593144714438437226482526297753850291946332175644838564522803092162653962827395891486821708258031541799895694749393095379052413553039435270149111809 6642186131486404134411314212500193052718786505426470067463051267287995075632321530951410942246997430581437547919319366441367564531532082998480442979592094408714524643371447515113313745078019737842654372251722614608356419448076820671640047508895060216846855012826604876660382882033847419989117742537834271533150957617409930337141737 [3] [96, 99, 100, 97, 98] gE_13 = true := by decide +kernel
theorem kq_13 : kTab gT_13 gE_13 := kall4_s (k5_4 kt_13).1
def gT_14 : zGT := (6, 426542602052917448650908462362749956630584968260951149561386293400257474040608519073862145227644538143325077126559007901979790782262173036864636781837620068595874435609713325513547748313120, [1, 3, 63, 25], [1, 3, 25, 63], [])
def gE_14 : List Nat := [48681094000762353966680931226000550]
theorem kt_14 : kall5 6 426542602052917448650908462362749956630584968260951149561386293400257474040608519073862145227644538143325077126559007901979790782262173036864636781837620068595874435609713325513547748313120 [1, 3, 63, 25] [1, 3, 25, 63] 297509095457662116560897 70390816 71674087351999667218885162121111931946925676367686781927645670007825325827215149718118178023328624773152 105593144714438437226482526297753850291946332175647027951234622024997108860076219682404289480393447207348199476237003472041176529391492268700806938630 105593144714438437226482526297753850291946332175644838564522803092162653962827395891486821708258031541799895694749393095379052413553039435270149111809 6642186131486404134411314212500193052718786505426470067463051267287995075632321530951410942246997430581437547919319366441367564531532082998480442979592094408714524643371447515113313745078019737842654372251722614608356419448076820671640047508895060216846855012826604876660382882033847419989117742537834271533150957617409930337141737 [2] [64, 66, 68, 65, 67] gE_14 = true := by decide +kernel
theorem kq_14 : kTab gT_14 gE_14 := kall4_s (k5_4 kt_14).1
def gT_15 : zGT := (6, 426410879830698890410433444487524944411106325953736076501825808676446328152705876347336858859491117837041769397955321708363334512280912796921612367857281202919256373524060919641274146981920, [1, 3, 63, 41], [1, 3, 41, 63], [])
def gE_15 : List Nat := [48698841041465449061660654733270182]
theorem kt_15 : kall5 6 426410879830698890410433444487524944411106325953736076501825808676446328152705876347336858859491117837041769397955321708363334512280912796921612367857281202919256373524060919641274146981920 [1, 3, 63, 41] [1, 3, 41, 63] 297509099961261743931393 102928416 2242000344487736691604451423490159325154665953412646345746007877947777820630160411310975731908804184096 105593144714438437226482526297753850291946332175647027951234622024997108860076219682404289480393447207348199476237003472041176529391492268700806938630 105593144714438437226482526297753850291946332175644838564522803092162653962827395891486821708258031541799895694749393095379052413553039435270149111809 6642186131486404134411314212500193052718786505426470067463051267287995075632321530951410942246997430581437547919319366441367564531532082998480442979592094408714524643371447515113313745078019737842654372251722614608356419448076820671640047508895060216846855012826604876660382882033847419989117742537834271533150957617409930337141737 [2] [64, 66, 69, 65, 67] gE_15 = true := by decide +kernel
theorem kq_15 : kTab gT_15 gE_15 := kall4_s (k5_4 kt_15).1
def gT_16 : zGT := (6, 291659046501113810404490158132337443884455245672716336571449936217644162925615825888848930488353186672183922527953574551120089802227061648416332810071060360287661562439084561862399503730720, [1, 3, 37, 63], [1, 3, 37, 63], [])
def gE_16 : List Nat := [90219746166551706574511809220484262]
theorem kt_16 : kall5 6 291659046501113810404490158132337443884455245672716336571449936217644162925615825888848930488353186672183922527953574551120089802227061648416332810071060360287661562439084561862399503730720 [1, 3, 37, 63] [1, 3, 37, 63] 297509098835361837088769 70390816 2309805116956010061259998992530805587480614205770335931275206766746486363605341064930904640396518852640 105593144714438437226482526297753850291946332175647027951234622024997108860076219682404289480393447207348199476237003472041176529391492268700806938630 105593144714438437226482526297753850291946332175644838564522803092162653962827395891486821708258031541799895694749393095379052413553039435270149111809 6642186131486404134411314212500193052718786505426470067463051267287995075632321530951410942246997430581437547919319366441367564531532082998480442979592094408714524643371447515113313745078019737842654372251722614608356419448076820671640047508895060216846855012826604876660382882033847419989117742537834271533150957617409930337141737 [3] [96, 99, 101, 97, 98] gE_16 = true := by decide +kernel
theorem kq_16 : kTab gT_16 gE_16 := kall4_s (k5_4 kt_16).1
def gT_17 : zGT := (6, 8855551717313598049641624332836989876700095623658537527866079348861564338229417312374518368427296712651381638147525660883502097573934686579367782466480778498718683638662000007046429247520, [1, 3, 5, 25, 33, 63], [1, 3, 25, 63], [])
def gE_17 : List Nat := [62524450223604651725829821304052902, 62580187447496007947841914169105574, 63168339954484537345310105987620006, 69009656588035216611200480349166758, 62559389969153125732712483207158950, 63005287760283975508809226127580326, 67710507816192210688554760675695782, 62580187440091111328855955507158182, 63168339938615093945681042982739110, 69009656563686764128405429277596838, 62838907933540917787773778432007334, 66406090262587715996547721795378342, 62839185232109717712970749057342630, 66406367561156515921744692420713638, 67054971385688812188439815322246310, 66891919212649137110015992924380326, 69329105690192693245556246320422054, 63005287701044802556921556832001190, 67710507689236663491522256636648614, 63010279075283201210467028088036518, 67715499063475062145067727892683942, 68359388796468316283785287158635686, 68029956897181936619194394779753638, 69495485433348125531908973648845990, 63168339880433989340373209965567142, 69009656437789285277952761516956838, 63170558268984388741948974968249510, 69011874826339684679528526519639206, 69495485366689819633343975183785126, 69329105633038472648614164375444646, 68359388865242758875509958180510886, 65075051648643254228264140230794406, 65075328947212054153461110856129702, 65080043040864464800675949074095270, 65077270047771823150451365836397734, 69329105216295579730644722748923046, 65080043033459822402005456518290598, 65077270037193653629839905233476774, 65075328965194866072743065247980710, 68359387317672497571386945777605798, 65077270055176465548752423894555814, 65075328957790223674026393379970214, 65080043022881652881809611486829734, 69495484426316759321711558835477670, 66406089788674332381446367430745254, 66406367087243132306643338056080550, 66466818404786899175870269139098790, 66446020938080480802779042788056230, 66466818330740475188041646984043686, 66446020782581521609810137479027878, 66406367316788515487440890711153830, 68359387596916247699165493118278822, 66446021012126904785050754374343846, 66406367242742091500658999632764070, 66466818175241515999582934379175078, 69495484774318427730714997943344294, 67710507223787826649059592499272870, 67715498598026225302605063755308198, 67771235832495496824497535545679014, 67728254428452587648172384120380582, 67771235706616576048222858694007974, 67728254332191021861665712520731814, 67715498820166711865386420310023334, 67054970771103493080779001430187174, 67728254554331508420644964267105446, 67715498694287791087433895114874022, 67771235610355010267196159447702694, 69009655973400324562989183500721318, 69011874361950723964564948503403686, 69049587111170009142283654247128230, 69027403166428875940486988345547942, 69049587051932869952919713800690854, 69027403081803519775595303522180262, 69011874505813219318820583638211750, 69027403225666015126895452810812582, 69011874446576080129087208694127782, 69049586967307513791352953549003942, 69513228210019247492033608163695782]
theorem kt_17 : kall5 6 8855551717313598049641624332836989876700095623658537527866079348861564338229417312374518368427296712651381638147525660883502097573934686579367782466480778498718683638662000007046429247520 [1, 3, 5, 25, 33, 63] [1, 3, 25, 63] 297509095457662116560897 171051040 71674087351999667218885162121111931946925676367686781927645670007825325827215149718118178023328624773152 105593144714438437226482526297753850291946332175647027951234622024997108860076219682404289480393447113812094687059216707005347235549379010721124188166 105593144714438437226482526297753850291946332175644838564522803092162653962827395891486821708258031544722898969411198931786422078985605474582014197761 6642186131487948341055809685357496636601834885759794932039498884768135009088951706271601336434100399817440943949708672150171251145846275264848437619765945524131552982833129014016790966462941512956653496521904192425727579917636735068907688862298222411858275289013037609253387026488407260838164437948103644712791294469806357917680617 [1, 2] [32, 64, 65, 34, 35] gE_17 = true := by decide +kernel
theorem kq_17 : kTab gT_17 gE_17 := kall4_s (k5_4 kt_17).1
def gT_18 : zGT := (6, 283364662820788971199578876301762455676883873526842232392695585557612164757614697433235478872980843802539037340512011127937576773835566404985875376203095997840827003672975039619590558681120, [1, 3, 37, 9, 17, 63], [1, 3, 37, 63], [])
def gE_18 : List Nat := [69186019023626605002893756435963046, 69204043430582039512523161754311846, 67926801266851675064749326818516134, 69310248308550050188409686242532518, 68332488763067608579176333995842726, 69468031278805454354819986575498406, 68314464143456415772337989981740198, 69450561325089517390897160334253222, 67018642937532920305511093208521894, 69450558903776585867419589007285414]
theorem kt_18 : kall5 6 283364662820788971199578876301762455676883873526842232392695585557612164757614697433235478872980843802539037340512011127937576773835566404985875376203095997840827003672975039619590558681120 [1, 3, 37, 9, 17, 63] [1, 3, 37, 63] 297509098835361837088769 71406624 2309805116956010061259998992530805587480614205770335931275206766746486363605341064930904640396518852640 105593144714438437226482526297753850291946332175647027951234622024997108860076219682404289480393447113812094687059216707005347235549379010721124188166 105593144714438437226482526297753850291946332175644838564522803092162653962827395891486821708258031544722898969411198931786422078985605474582014197761 6642186131487948341055809685357496636601834885759794932039498884768135009088951706271601336434100399817440943949708672150171251145846275264848437619765945524131552982833129014016790966462941512956653496521904192425727579917636735068907688862298222411858275289013037609253387026488407260838164437948103644712791294469806357917680617 [1, 2] [32, 64, 65, 34, 66] gE_18 = true := by decide +kernel
theorem kq_18 : kTab gT_18 gE_18 := kall4_s (k5_4 kt_18).1
def gT_19 : zGT := (6, 422072279136375128364787543222301104418960156308564788283853445498667368468630004547787800945844410658978744942932590991073626029377388136566271843403762379376207581900487347259925422245920, [1, 3, 5, 41, 17, 63], [1, 3, 41, 63], [])
def gE_19 : List Nat := [69310248782446925609191007878028454, 69186018549727445626725054944550054, 69468031668075617775512818888645798, 69204043041307816626858570111163558, 69450562535223411369012128735468710, 69295274126562967576843786362461350, 68332489072999896594579164118555814, 67926800956913152589305403712642214, 67018644789756809844300043488763046, 66857532469060926429572893635681446, 68314465343009573827880695892188326, 68000007566438390122263752529321126, 69468028713612030306455614333820070]
theorem kt_19 : kall5 6 422072279136375128364787543222301104418960156308564788283853445498667368468630004547787800945844410658978744942932590991073626029377388136566271843403762379376207581900487347259925422245920 [1, 3, 5, 41, 17, 63] [1, 3, 41, 63] 297509099961261743931393 105023520 2242000344487736691604451423490159325154665953412646345746007877947777820630160411310975731908804184096 105593144714438437226482526297753850291946332175647027951234622024997108860076219682404289480393447113812094687059216707005347235549379010721124188166 105593144714438437226482526297753850291946332175644838564522803092162653962827395891486821708258031544722898969411198931786422078985605474582014197761 6642186131487948341055809685357496636601834885759794932039498884768135009088951706271601336434100399817440943949708672150171251145846275264848437619765945524131552982833129014016790966462941512956653496521904192425727579917636735068907688862298222411858275289013037609253387026488407260838164437948103644712791294469806357917680617 [1, 2] [32, 64, 65, 34, 35] gE_19 = true := by decide +kernel
theorem kq_19 : kTab gT_19 gE_19 := kall4_s (k5_4 kt_19).1
def gT_20 : zGT := (6, 13601668036626024651757112149538211410582700543351485564298613933382346035573928837653990348861373674247428425548282662817510215534215033528278794589865388188258235298526348151858697177120, [1, 3, 21, 9, 33, 63], [1, 3, 21, 63], [])
def gE_20 : List Nat := [63186087062887974670508603679612070, 69027403696438649901189105079983270, 63208270932522718976711092837981350, 69049587557594352842546622482259110, 63066016146851945992871020505242790, 67771236202760148890937571363953830, 69151633455262824163455031836843174, 67852484683419709290142742211632294, 69151633430914210272265062318251174, 69329104539297358823834927203785894, 68029955640497663739762655478586534, 69329104389049974815032942348377254, 69495483656231121176751109591702694, 66891917355131479869042076816678054, 69495483530332351059139094254886054, 68359386467193348913852818353462438, 67054968913588208588266105685056678, 68359386340236768703092836253473958, 69513228141260288128662611209395366]
theorem kt_20 : kall5 6 13601668036626024651757112149538211410582700543351485564298613933382346035573928837653990348861373674247428425548282662817510215534215033528278794589865388188258235298526348151858697177120 [1, 3, 21, 9, 33, 63] [1, 3, 21, 63] 297509094331762209718273 169971744 71741892124467940588540709690152578209251624620044471513174868896624034370190330371738106931816339441696 105593144714438437226482526297753850291946332175647027951234622024997108860076219682404289480393447113812094687059216707005347235549379010721124188166 105593144714438437226482526297753850291946332175644838564522803092162653962827395891486821708258031544722898969411198931786422078985605474582014197761 6642186131487948341055809685357496636601834885759794932039498884768135009088951706271601336434100399817440943949708672150171251145846275264848437619765945524131552982833129014016790966462941512956653496521904192425727579917636735068907688862298222411858275289013037609253387026488407260838164437948103644712791294469806357917680617 [1, 2] [32, 64, 65, 34, 66] gE_20 = true := by decide +kernel
theorem kq_20 : kTab gT_20 gE_20 := kall4_s (k5_4 kt_20).1
def gT_21 : zGT := (6, 4636324286875404409426208017035817323086652753189703559447038885596108686499705167464846528273246447956851829450088584605167646394576139251563571332241712142977318326685518296452941580320, [1, 3, 5, 25, 33, 63], [1, 3, 25, 63], [])
def gE_21 : List Nat := [69369031406673025107498101008145574]
theorem kt_21 : kall5 6 4636324286875404409426208017035817323086652753189703559447038885596108686499705167464846528273246447956851829450088584605167646394576139251563571332241712142977318326685518296452941580320 [1, 3, 5, 25, 33, 63] [1, 3, 25, 63] 297509095457662116560897 171051040 71674087351999667218885162121111931946925676367634724969741881845667965726636637653037128978771950536736 105593144714438437226482526297753850291946332175647027951234622024997108860076219682404289480393447113812094687059216707005347235549379010721124188166 105593144714438437226482526297753850291946332175644838564522803092162653962827395891486821708258031544722898969411198931786422078985605474582014197761 6642186131487948341055809685357496636601834885759794932039498884768135009088951706271601336434100399817440943949708672150171251145846275264848437619765945524131552982833129014016790966462941512956653496521904192425727579917636735068907688862298222411858275289013037609253387026488407260838164437948103644712791294469806357917680617 [1, 2] [32, 64, 65, 34, 36] gE_21 = true := by decide +kernel
theorem kq_21 : kTab gT_21 gE_21 := kall4_s (k5_4 kt_21).1
def gT_22 : zGT := (6, 291659046501113810404490158132337443668622445805595529169545110094200960479258328282044727768493573288583673411493973187704221081550937081497411962090366715497817394855994734913465127897120, [1, 3, 37, 9, 17, 63], [1, 3, 37, 63], [])
def gE_22 : List Nat := [69295269722920468490267749439937702]
theorem kt_22 : kall5 6 291659046501113810404490158132337443668622445805595529169545110094200960479258328282044727768493573288583673411493973187704221081550937081497411962090366715497817394855994734913465127897120 [1, 3, 37, 9, 17, 63] [1, 3, 37, 63] 297509098835361837088769 71406624 2309805116956010061259998992530805587480614205718278973371418604589126263026828999849855595839844616224 105593144714438437226482526297753850291946332175647027951234622024997108860076219682404289480393447113812094687059216707005347235549379010721124188166 105593144714438437226482526297753850291946332175644838564522803092162653962827395891486821708258031544722898969411198931786422078985605474582014197761 6642186131487948341055809685357496636601834885759794932039498884768135009088951706271601336434100399817440943949708672150171251145846275264848437619765945524131552982833129014016790966462941512956653496521904192425727579917636735068907688862298222411858275289013037609253387026488407260838164437948103644712791294469806357917680617 [1, 2] [32, 64, 65, 34, 66] gE_22 = true := by decide +kernel
theorem kq_22 : kTab gT_22 gE_22 := kall4_s (k5_4 kt_22).1
def gT_23 : zGT := (6, 279017829487576549263903286419337052125996769773098085792432783235763124016820744646267964792072948064048456698005753451989668639887631881316364369676412879119588271998579609709840051570720, [1, 3, 13, 63], [1, 3, 13, 63], [])
def gE_23 : List Nat := [173161172664542319854813253516565670]
theorem kt_23 : kall5 6 279017829487576549263903286419337052125996769773098085792432783235763124016820744646267964792072948064048456698005753451989668639887631881316364369676412879119588271998579609709840051570720 [1, 3, 13, 63] [1, 3, 13, 63] 297509092079962396033025 139529248 73911644843452688417518231899453258603681968695438481292205445176025347644817599222494782958866534598688 105593144714438437226482526297753850291946332175647027951234622024997108860076219682404289480393447207348199476237003472041176529391492268700806938630 105593144714438437226482526297753850291946332175644838564522803092162653962827395891486821708258031541799895694749393095379052413553039435270149111809 6642186131486404134411314212500193052718786505426470067463051267287995075632321530951410942246997430581437547919319366441367564531532082998480442979592094408714524643371447515113313745078019737842654372251722614608356419448076820671640047508895060216846855012826604876660382882033847419989117742537834271533150957617409930337141737 [4] [128, 132, 131, 129, 130] gE_23 = true := by decide +kernel
theorem kq_23 : kTab gT_23 gE_23 := kall4_s (k5_4 kt_23).1
def gT_24 : zGT := (6, 561561996146383975082816628776988263224893330675349773064593245113307111957911147924688931525643013213982968845499412807840202471286891048683135569840635779586881563713415239728868083468320, [1, 3, 63, 25], [1, 3, 25, 63], [])
def gE_24 : List Nat := [48521091178994535844686660142013606]
theorem kt_24 : kall5 6 561561996146383975082816628776988263224893330675349773064593245113307111957911147924688931525643013213982968845499412807840202471286891048683135569840635779586881563713415239728868083468320 [1, 3, 63, 25] [1, 3, 25, 63] 297509095457662116560897 70390816 71674087351999667218885162121111931946925676367634724969741881845667965726636637653037128978771950536736 105593144714438437226482526297753850291946332175647027951234622024997108860076219682404289480393447207348199476237003472041176529391492268700806938630 105593144714438437226482526297753850291946332175644838564522803092162653962827395891486821708258031541799895694749393095379052413553039435270149111809 6642186131486404134411314212500193052718786505426470067463051267287995075632321530951410942246997430581437547919319366441367564531532082998480442979592094408714524643371447515113313745078019737842654372251722614608356419448076820671640047508895060216846855012826604876660382882033847419989117742537834271533150957617409930337141737 [2] [64, 66, 67, 65, 68] gE_24 = true := by decide +kernel
theorem kq_24 : kTab gT_24 gE_24 := kall4_s (k5_4 kt_24).1
def gT_25 : zGT := (6, 557215162813171553147141038894562859880722122478453194986081346048346280728883489203432244381902110177112319737887654294438389233604965028221119359271888148240140251731310131842168322623520, [1, 3, 63, 49], [1, 3, 49, 63], [])
def gE_25 : List Nat := [48541056533143477481641078006389926]
theorem kt_25 : kall5 6 557215162813171553147141038894562859880722122478453194986081346048346280728883489203432244381902110177112319737887654294438389233604965028221119359271888148240140251731310131842168322623520 [1, 3, 63, 49] [1, 3, 49, 63] 297509102213061557616641 139529248 72247625502988862626929214189478930724321877914522650907855274231744344845867430392201615745260554272 105593144714438437226482526297753850291946332175647027951234622024997108860076219682404289480393447207348199476237003472041176529391492268700806938630 105593144714438437226482526297753850291946332175644838564522803092162653962827395891486821708258031541799895694749393095379052413553039435270149111809 6642186131486404134411314212500193052718786505426470067463051267287995075632321530951410942246997430581437547919319366441367564531532082998480442979592094408714524643371447515113313745078019737842654372251722614608356419448076820671640047508895060216846855012826604876660382882033847419989117742537834271533150957617409930337141737 [2] [64, 66, 69, 65, 68] gE_25 = true := by decide +kernel
theorem kq_25 : kTab gT_25 gE_25 := kall4_s (k5_4 kt_25).1
def gT_26 : zGT := (6, 283364662820788971199578876301762455483248753719517137046817702065781119045526625293704555371913097466397015461190547719333645228180456613275073557277077868416425291983024647487293631858720, [1, 3, 37, 63], [1, 3, 37, 63], [])
def gE_26 : List Nat := [90064457269186829622917573241904294]
theorem kt_26 : kall5 6 283364662820788971199578876301762455483248753719517137046817702065781119045526625293704555371913097466397015461190547719333645228180456613275073557277077868416425291983024647487293631858720 [1, 3, 37, 63] [1, 3, 37, 63] 297509098835361837088769 70390816 2309805116956010061259998992530805587480614205718278973371418604589126263026828999849855595839844616224 105593144714438437226482526297753850291946332175647027951234622024997108860076219682404289480393447207348199476237003472041176529391492268700806938630 105593144714438437226482526297753850291946332175644838564522803092162653962827395891486821708258031541799895694749393095379052413553039435270149111809 6642186131486404134411314212500193052718786505426470067463051267287995075632321530951410942246997430581437547919319366441367564531532082998480442979592094408714524643371447515113313745078019737842654372251722614608356419448076820671640047508895060216846855012826604876660382882033847419989117742537834271533150957617409930337141737 [3] [96, 99, 98, 97, 101] gE_26 = true := by decide +kernel
theorem kq_26 : kTab gT_26 gE_26 := kall4_s (k5_4 kt_26).1
def gT_27 : zGT := (6, 557087556910397324851680865327938629293102187743338592959632126472154233223565421553449215178181681312546860672356465475286766071987537276980040244360805873218763886624067137351909099276320, [1, 3, 5, 9, 49, 63], [1, 3, 49, 63], [])
def gE_27 : List Nat := [69310243967283825043699862580927654]
theorem kt_27 : kall5 6 557087556910397324851680865327938629293102187743338592959632126472154233223565421553449215178181681312546860672356465475286766071987537276980040244360805873218763886624067137351909099276320 [1, 3, 5, 9, 49, 63] [1, 3, 49, 63] 297509102213061557616641 139560992 72247625502988862626929214189478930724321877914522650907855274231744344845867430392201615745260554272 105593144714438437226482526297753850291946332175647027951234622024997108860076219682404289480393447113812094687059216707005347235549379010721124188166 105593144714438437226482526297753850291946332175644838564522803092162653962827395891486821708258031544722898969411198931786422078985605474582014197761 6642186131487948341055809685357496636601834885759794932039498884768135009088951706271601336434100399817440943949708672150171251145846275264848437619765945524131552982833129014016790966462941512956653496521904192425727579917636735068907688862298222411858275289013037609253387026488407260838164437948103644712791294469806357917680617 [1, 2] [32, 64, 65, 34, 36] gE_27 = true := by decide +kernel
theorem kq_27 : kTab gT_27 gE_27 := kall4_s (k5_4 kt_27).1
def gT_28 : zGT := (6, 13601668036626024651757112149538211508391228306826341811167329903923411650719921490671520873774952864237007984475595524780493595797626336651544232518128729437768259595306901880882579212320, [1, 3, 13, 17, 33, 63], [1, 3, 13, 63], [])
def gE_28 : List Nat := [69369031142220138899264010373471398]
theorem kt_28 : kall5 6 13601668036626024651757112149538211508391228306826341811167329903923411650719921490671520873774952864237007984475595524780493595797626336651544232518128729437768259595306901880882579212320 [1, 3, 13, 17, 33, 63] [1, 3, 13, 63] 297509092079962396033025 172035104 73911644843452688417518231899453258603681968695438481292205445176025347644817599222494782958866534598688 105593144714438437226482526297753850291946332175647027951234622024997108860076219682404289480393447113812094687059216707005347235549379010721124188166 105593144714438437226482526297753850291946332175644838564522803092162653962827395891486821708258031544722898969411198931786422078985605474582014197761 6642186131487948341055809685357496636601834885759794932039498884768135009088951706271601336434100399817440943949708672150171251145846275264848437619765945524131552982833129014016790966462941512956653496521904192425727579917636735068907688862298222411858275289013037609253387026488407260838164437948103644712791294469806357917680617 [1, 2] [32, 64, 65, 34, 66] gE_28 = true := by decide +kernel
theorem kq_28 : kTab gT_28 gE_28 := kall4_s (k5_4 kt_28).1
def gT_29 : zGT := (6, 426410879830698890410433444487524944296649538145414436212936885732196144905521434493262703793622712139110060033848294503949325235195951662209770015006684057014220018024597633632778307340320, [1, 3, 5, 41, 17, 63], [1, 3, 41, 63], [])
def gE_29 : List Nat := [69204039383400517882269150637890726]
theorem kt_29 : kall5 6 426410879830698890410433444487524944296649538145414436212936885732196144905521434493262703793622712139110060033848294503949325235195951662209770015006684057014220018024597633632778307340320 [1, 3, 5, 41, 17, 63] [1, 3, 41, 63] 297509099961261743931393 105023520 2242000344487736691604451423490159325154665953313082026075377161181308962209988761537745774564438280224 105593144714438437226482526297753850291946332175647027951234622024997108860076219682404289480393447113812094687059216707005347235549379010721124188166 105593144714438437226482526297753850291946332175644838564522803092162653962827395891486821708258031544722898969411198931786422078985605474582014197761 6642186131487948341055809685357496636601834885759794932039498884768135009088951706271601336434100399817440943949708672150171251145846275264848437619765945524131552982833129014016790966462941512956653496521904192425727579917636735068907688862298222411858275289013037609253387026488407260838164437948103644712791294469806357917680617 [1, 2] [32, 64, 65, 34, 37] gE_29 = true := by decide +kernel
theorem kq_29 : kTab gT_29 gE_29 := kall4_s (k5_4 kt_29).1
def gT_30 : zGT := (6, 4636324286875404409426208017035817424660858383951332387248896909714236924833008405152388384232227256313088168840437288422924665143494890863361054270757723778813308909466502469782429861920, [1, 3, 21, 9, 33, 63], [1, 3, 21, 63], [])
def gE_30 : List Nat := [69153847996544823956616343078476966]
theorem kt_30 : kall5 6 4636324286875404409426208017035817424660858383951332387248896909714236924833008405152388384232227256313088168840437288422924665143494890863361054270757723778813308909466502469782429861920 [1, 3, 21, 9, 33, 63] [1, 3, 21, 63] 297509094331762209718273 169971744 71741892124467940588540709690152578209251624619944907193504238179857565511770158721964876974471973537824 105593144714438437226482526297753850291946332175647027951234622024997108860076219682404289480393447113812094687059216707005347235549379010721124188166 105593144714438437226482526297753850291946332175644838564522803092162653962827395891486821708258031544722898969411198931786422078985605474582014197761 6642186131487948341055809685357496636601834885759794932039498884768135009088951706271601336434100399817440943949708672150171251145846275264848437619765945524131552982833129014016790966462941512956653496521904192425727579917636735068907688862298222411858275289013037609253387026488407260838164437948103644712791294469806357917680617 [1, 2] [32, 64, 65, 34, 66] gE_30 = true := by decide +kernel
theorem kq_30 : kTab gT_30 gE_30 := kall4_s (k5_4 kt_30).1
def gT_31 : zGT := (6, 557215162813171553147141038894562859880722122478453194986081346048346280652243893654927650660166975294826145247303791280120694511526095687030080227849164263684011800852953754484393153497120, [1, 3, 5, 9, 49, 63], [1, 3, 49, 63], [])
def gE_31 : List Nat := [69186014682358309789623544833023142]
theorem kt_31 : kall5 6 557215162813171553147141038894562859880722122478453194986081346048346280652243893654927650660166975294826145247303791280120694511526095687030080227849164263684011800852953754484393153497120 [1, 3, 5, 9, 49, 63] [1, 3, 49, 63] 297509102213061557616641 139560992 72247625502988862626929214189478930724321877867015289141012719622635587004207845700020702957568886816 105593144714438437226482526297753850291946332175647027951234622024997108860076219682404289480393447113812094687059216707005347235549379010721124188166 105593144714438437226482526297753850291946332175644838564522803092162653962827395891486821708258031544722898969411198931786422078985605474582014197761 6642186131487948341055809685357496636601834885759794932039498884768135009088951706271601336434100399817440943949708672150171251145846275264848437619765945524131552982833129014016790966462941512956653496521904192425727579917636735068907688862298222411858275289013037609253387026488407260838164437948103644712791294469806357917680617 [1, 2] [32, 64, 65, 34, 37] gE_31 = true := by decide +kernel
theorem kq_31 : kTab gT_31 gE_31 := kall4_s (k5_4 kt_31).1
def gT_32 : zGT := (6, 8855551717313598049641624332836990076875603305744869461680472723221192341704417361246489138666191914185071301028555367060176327000934220967642616536015251282760938482980778332654493861920, [1, 3, 13, 17, 33, 63], [1, 3, 13, 63], [])
def gE_32 : List Nat := [69153848342447340010338994681453734]
theorem kt_32 : kall5 6 8855551717313598049641624332836990076875603305744869461680472723221192341704417361246489138666191914185071301028555367060176327000934220967642616536015251282760938482980778332654493861920 [1, 3, 13, 17, 33, 63] [1, 3, 13, 63] 297509092079962396033025 172035104 73911644843452688417518231899453258603681968695390973930438602621416238886975939637802602046078842931232 105593144714438437226482526297753850291946332175647027951234622024997108860076219682404289480393447113812094687059216707005347235549379010721124188166 105593144714438437226482526297753850291946332175644838564522803092162653962827395891486821708258031544722898969411198931786422078985605474582014197761 6642186131487948341055809685357496636601834885759794932039498884768135009088951706271601336434100399817440943949708672150171251145846275264848437619765945524131552982833129014016790966462941512956653496521904192425727579917636735068907688862298222411858275289013037609253387026488407260838164437948103644712791294469806357917680617 [1, 2] [32, 64, 65, 34, 66] gE_32 = true := by decide +kernel
theorem kq_32 : kTab gT_32 gE_32 := kall4_s (k5_4 kt_32).1
def gT_33 : zGT := (6, 417857168025381264669586971215100713189918674780647190430096805304448035550939820809453981726755572430401799153230198562190609552173685862228018527844582051176465355923421041035502352959520, [1, 3, 13, 63], [1, 3, 13, 63], [])
def gE_33 : List Nat := [173052194673963315030915720327371942]
theorem kt_33 : kall5 6 417857168025381264669586971215100713189918674780647190430096805304448035550939820809453981726755572430401799153230198562190609552173685862228018527844582051176465355923421041035502352959520 [1, 3, 13, 63] [1, 3, 13, 63] 297509092079962396033025 139529248 73911644843452688417518231899453258603681968695390973930438602621416238886975939637802602046078842931232 105593144714438437226482526297753850291946332175647027951234622024997108860076219682404289480393447207348199476237003472041176529391492268700806938630 105593144714438437226482526297753850291946332175644838564522803092162653962827395891486821708258031541799895694749393095379052413553039435270149111809 6642186131486404134411314212500193052718786505426470067463051267287995075632321530951410942246997430581437547919319366441367564531532082998480442979592094408714524643371447515113313745078019737842654372251722614608356419448076820671640047508895060216846855012826604876660382882033847419989117742537834271533150957617409930337141737 [4] [128, 132, 130, 129, 131] gE_33 = true := by decide +kernel
theorem kq_33 : kTab gT_33 gE_33 := kall4_s (k5_4 kt_33).1
def gT_34 : zGT := (6, 422072279136375128364787543222301104330664919999288094346710562084531512820802006546073452752174497692002854889971635294543943453514224424847815444616999949371362642405703921032937221490720, [1, 3, 63, 41], [1, 3, 41, 63], [])
def gE_34 : List Nat := [48434851577969865021913497319152806]
theorem kt_34 : kall5 6 422072279136375128364787543222301104330664919999288094346710562084531512820802006546073452752174497692002854889971635294543943453514224424847815444616999949371362642405703921032937221490720 [1, 3, 63, 41] [1, 3, 41, 63] 297509099961261743931393 102928416 2242000344487736691604451423490159325154665953313082026075377161181308962209988761537745774564438280224 105593144714438437226482526297753850291946332175647027951234622024997108860076219682404289480393447207348199476237003472041176529391492268700806938630 105593144714438437226482526297753850291946332175644838564522803092162653962827395891486821708258031541799895694749393095379052413553039435270149111809 6642186131486404134411314212500193052718786505426470067463051267287995075632321530951410942246997430581437547919319366441367564531532082998480442979592094408714524643371447515113313745078019737842654372251722614608356419448076820671640047508895060216846855012826604876660382882033847419989117742537834271533150957617409930337141737 [2] [64, 66, 67, 65, 69] gE_34 = true := by decide +kernel
theorem kq_34 : kTab gT_34 gE_34 := kall4_s (k5_4 kt_34).1
def gT_35 : zGT := (6, 557087556910397324851680865327938629293102187743338592959632126472154233147596795226672774514321659478841012612640944323443057414265628374419618254279376323124663550928735234091049325529120, [1, 3, 63, 49], [1, 3, 49, 63], [])
def gE_35 : List Nat := [48416827248217712042551533136682150]
theorem kt_35 : kall5 6 557087556910397324851680865327938629293102187743338592959632126472154233147596795226672774514321659478841012612640944323443057414265628374419618254279376323124663550928735234091049325529120 [1, 3, 63, 49] [1, 3, 49, 63] 297509102213061557616641 139529248 72247625502988862626929214189478930724321877867015289141012719622635587004207845700020702957568886816 105593144714438437226482526297753850291946332175647027951234622024997108860076219682404289480393447207348199476237003472041176529391492268700806938630 105593144714438437226482526297753850291946332175644838564522803092162653962827395891486821708258031541799895694749393095379052413553039435270149111809 6642186131486404134411314212500193052718786505426470067463051267287995075632321530951410942246997430581437547919319366441367564531532082998480442979592094408714524643371447515113313745078019737842654372251722614608356419448076820671640047508895060216846855012826604876660382882033847419989117742537834271533150957617409930337141737 [2] [64, 66, 68, 65, 69] gE_35 = true := by decide +kernel
theorem kq_35 : kTab gT_35 gE_35 := kall4_s (k5_4 kt_35).1
def gT_36 : zGT := (6, 561302668021391188546881437335139020414821850053583172256794218139427290359513759134200863352204698699763587860406834237386159451302439986861027431862072351006324446645470027102794952050720, [1, 3, 21, 63], [1, 3, 21, 63], [])
def gE_36 : List Nat := [89952983676113436879526844050873510]
theorem kt_36 : kall5 6 561302668021391188546881437335139020414821850053583172256794218139427290359513759134200863352204698699763587860406834237386159451302439986861027431862072351006324446645470027102794952050720 [1, 3, 21, 63] [1, 3, 21, 63] 297509094331762209718273 102928416 71741892124467940588540709690152578209251624619944907193504238179857565511770158721964876974471973537824 105593144714438437226482526297753850291946332175647027951234622024997108860076219682404289480393447207348199476237003472041176529391492268700806938630 105593144714438437226482526297753850291946332175644838564522803092162653962827395891486821708258031541799895694749393095379052413553039435270149111809 6642186131486404134411314212500193052718786505426470067463051267287995075632321530951410942246997430581437547919319366441367564531532082998480442979592094408714524643371447515113313745078019737842654372251722614608356419448076820671640047508895060216846855012826604876660382882033847419989117742537834271533150957617409930337141737 [3] [96, 99, 98, 97, 100] gE_36 = true := by decide +kernel
theorem kq_36 : kTab gT_36 gE_36 := kall4_s (k5_4 kt_36).1
def gT_37 : zGT := (6, 139523996158123372600859356556049111589891585817145879051867523757294580712849945633957262163905858144086214903822187096179114735412969698733823189570172584426723423593166961365834621093920, [1, 7, 9, 63], [1, 9, 7, 63], [])
def gE_37 : List Nat := [166512087497154088289662201040641190, 167505929358938852699266496520690854, 168925703447202801855844061492190374, 167051989818338473936807073272732838, 167538927962672750249102035009051814, 172893306452963491316359105718951078, 166909457743616516504222996927519910, 167559448068399855727468663391034534, 171614677808003760505943333340880038, 166745019116867049599932190347664550, 167561389217618820364964290206276774, 170312201513630221855833322338557094, 171858146532147835426261012865784998, 173157295282834671715043413625838758, 170717889934372175965588402104081574, 173321456128651515541976440681700518, 170880664274651299060582969287810214, 172185081718243802348188607105375398, 169402380920376440731261949465238694, 173336985322403232641941455203638438, 169564877894386918002640308540710054, 172200333545726873624537413519056038, 169569037973755049229065600222010534, 170900076181502501563357067382791334, 173216911377828772592874777504554150]
theorem kt_37 : kall5 6 139523996158123372600859356556049111589891585817145879051867523757294580712849945633957262163905858144086214903822187096179114735412969698733823189570172584426723423593166961365834621093920 [1, 7, 9, 63] [1, 9, 7, 63] 297509090391112636432385 139560000 221944705545181785989926545990079275185116808491695667599075483397702113155188295828140228026165113227296 105593144714438437226482526297753850291946332175647027951234622024997108860076219682404289480393447207348199476237003472041176529391492268700806938630 105593144714438437226482526297753850291946332175644838564522803092162653962827395891486821708258031541799895694749393095379052413553039435270149111809 6642186131486404134411314212500193052718786505426470067463051267287995075632321530951410942246997430581437547919319366441367564531532082998480442979592094408714524643371447515113313745078019737842654372251722614608356419448076820671640047508895060216846855012826604876660382882033847419989117742537834271533150957617409930337141737 [4] [128, 132, 130, 131, 129] gE_37 = true := by decide +kernel
theorem kq_37 : kTab gT_37 gE_37 := kall4_s (k5_4 kt_37).1
def gT_38 : zGT := (6, 282837773931914738237678804800862406588775730908105551231067941985934107733682130269088905703151940924425741054608618700787126689255014227675461191091365339604916598228393576615476709132320, [1, 7, 63, 17], [1, 17, 7, 63], [])
def gE_38 : List Nat := [90135447573006642805692285306707110]
theorem kt_38 : kall5 6 282837773931914738237678804800862406588775730908105551231067941985934107733682130269088905703151940924425741054608618700787126689255014227675461191091365339604916598228393576615476709132320 [1, 7, 63, 17] [1, 17, 7, 63] 297509090391112770650113 105022528 221944705545181785989926545990079275185116808491645191027198213183429935099981532519404785806328190830624 105593144714438437226482526297753850291946332175647027951234622024997108860076219682404289480393447207348199476237003472041176529391492268700806938630 105593144714438437226482526297753850291946332175644838564522803092162653962827395891486821708258031541799895694749393095379052413553039435270149111809 6642186131486404134411314212500193052718786505426470067463051267287995075632321530951410942246997430581437547919319366441367564531532082998480442979592094408714524643371447515113313745078019737842654372251722614608356419448076820671640047508895060216846855012826604876660382882033847419989117742537834271533150957617409930337141737 [3] [96, 99, 97, 100, 98] gE_38 = true := by decide +kernel
theorem kq_38 : kTab gT_38 gE_38 := kall4_s (k5_4 kt_38).1
def gT_39 : zGT := (6, 8855551717313598049641624332836989974895720207372576811426113375896982565151475427654748528496658329617145131739749266383796197631096544971680310588144144721471779649053399577536376178720, [1, 7, 63, 33], [1, 33, 7, 63], [])
def gE_39 : List Nat := [90138220540711898737317313238965414]
theorem kt_39 : kall5 6 8855551717313598049641624332836989974895720207372576811426113375896982565151475427654748528496658329617145131739749266383796197631096544971680310588144144721471779649053399577536376178720 [1, 7, 63, 33] [1, 33, 7, 63] 297509090391113039085569 171050048 221944705545181785989926545990079275185116808491599168270486584458652360990822424796734235547065114527776 105593144714438437226482526297753850291946332175647027951234622024997108860076219682404289480393447207348199476237003472041176529391492268700806938630 105593144714438437226482526297753850291946332175644838564522803092162653962827395891486821708258031541799895694749393095379052413553039435270149111809 6642186131486404134411314212500193052718786505426470067463051267287995075632321530951410942246997430581437547919319366441367564531532082998480442979592094408714524643371447515113313745078019737842654372251722614608356419448076820671640047508895060216846855012826604876660382882033847419989117742537834271533150957617409930337141737 [3] [96, 99, 98, 101, 97] gE_39 = true := by decide +kernel
theorem kq_39 : kTab gT_39 gE_39 := kall4_s (k5_4 kt_39).1
def gT_40 : zGT := (6, 4636324286875404409426208017035817313381361276152906463522312573169699754516570594608887013628457893524423354773886564084695722520498189446100977053914774294143636392348540957008683173920, [1, 7, 9, 17, 33, 63], [1, 9, 7, 63], [])
def gE_40 : List Nat := [110907407992833912219269631693724838]
theorem kt_40 : kall5 6 4636324286875404409426208017035817313381361276152906463522312573169699754516570594608887013628457893524423354773886564084695722520498189446100977053914774294143636392348540957008683173920 [1, 7, 9, 17, 33, 63] [1, 9, 7, 63] 297509090391112636432385 172065856 221944705545181785989926545990079275185116808491648160237308640843093004397346636243448047113377421559840 105593144714438437226482526297753850291946332175647027951234622024997108860076219682404289480393447113812094687059216707005347235549379010721124188166 105593144714438437226482526297753850291946332175644838564522803092162653962827395891486821708258031544722898969411198931786422078985605474582014197761 6642186131487948341055809685357496636601834885759794932039498884768135009088951706271601336434100399817440943949708672150171251145846275264848437619765945524131552982833129014016790966462941512956653496521904192425727579917636735068907688862298222411858275289013037609253387026488407260838164437948103644712791294469806357917680617 [1, 3] [32, 96, 33, 97, 35] gE_40 = true := by decide +kernel
theorem kq_40 : kTab gT_40 gE_40 := kall4_s (k5_4 kt_40).1
def gT_41 : zGT := (6, 8855551717313598049641624332836989867078417059793403967866677736637935570128551729470249465793304099105755638573551750195383732217452197286276773540945971316973058054362168489982700914720, [1, 7, 9, 17, 33, 63], [1, 9, 7, 63], [])
def gE_41 : List Nat := [104204802491189340523377487562054822, 105198644352974104932981783042104486, 106618418441238054089559348013604006, 104746645887546012603091057098529958, 105233584031880288915386018834848934, 110587962522171029982643089544748198, 104604391099756984434150413590240422, 105254381424540323657396080053755046, 109309611164144228435870750003600550, 104438011408413291666666253745036454, 105254381509165062431698353603648678, 108005193805176463922567385735928998, 109568331202733665553094575126650022, 110867479953420501841876975886703782, 108430292900421440201569427060333734, 111033859094700779777957465637952678, 108593344458876098859267690827259046, 109897761902468602146873328644824230, 107099255369671898061696148298701990, 111033859771698689972375654037101734, 107262306928126294429736717087055014, 109897762579466250051633822065400998, 107262307562812281128818440495340710, 108593345770559733463109907656121510, 111051602155894118180186209718017190]
theorem kt_41 : kall5 6 8855551717313598049641624332836989867078417059793403967866677736637935570128551729470249465793304099105755638573551750195383732217452197286276773540945971316973058054362168489982700914720 [1, 7, 9, 17, 33, 63] [1, 9, 7, 63] 297509090391112636432385 172065856 221944705545181785989926545990079275185116808491695667599075483397702113155188295828140228026165113227296 105593144714438437226482526297753850291946332175647027951234622024997108860076219682404289480393447113812094687059216707005347235549379010721124188166 105593144714438437226482526297753850291946332175644838564522803092162653962827395891486821708258031544722898969411198931786422078985605474582014197761 6642186131487948341055809685357496636601834885759794932039498884768135009088951706271601336434100399817440943949708672150171251145846275264848437619765945524131552982833129014016790966462941512956653496521904192425727579917636735068907688862298222411858275289013037609253387026488407260838164437948103644712791294469806357917680617 [1, 3] [32, 96, 33, 97, 35] gE_41 = true := by decide +kernel
theorem kq_41 : kTab gT_41 gE_41 := kall4_s (k5_4 kt_41).1
def gT_42 : zGT := (6, 278618546501476544597463388485061233828957360283504870349330538100352987956996912652404236219348329278160870028964331891504729680882634999553672190104798730929707928759771530400239961868320, [1, 7, 9, 63], [1, 9, 7, 63], [])
def gE_42 : List Nat := [173356391483202151392256645180595366]
theorem kt_42 : kall5 6 278618546501476544597463388485061233828957360283504870349330538100352987956996912652404236219348329278160870028964331891504729680882634999553672190104798730929707928759771530400239961868320 [1, 7, 9, 63] [1, 9, 7, 63] 297509090391112636432385 139560000 221944705545181785989926545990079275185116808491648160237308640843093004397346636243448047113377421559840 105593144714438437226482526297753850291946332175647027951234622024997108860076219682404289480393447207348199476237003472041176529391492268700806938630 105593144714438437226482526297753850291946332175644838564522803092162653962827395891486821708258031541799895694749393095379052413553039435270149111809 6642186131486404134411314212500193052718786505426470067463051267287995075632321530951410942246997430581437547919319366441367564531532082998480442979592094408714524643371447515113313745078019737842654372251722614608356419448076820671640047508895060216846855012826604876660382882033847419989117742537834271533150957617409930337141737 [4] [128, 132, 129, 131, 130] gE_42 = true := by decide +kernel
theorem kq_42 : kTab gT_42 gE_42 := kall4_s (k5_4 kt_42).1
def gT_43 : zGT := (6, 4636324286875404409426208017035817215077349582771895929688709490315862788466257810970079044693046683352274106095462457101399189258717316849891309601577536046263110180431353362299628914720, [1, 7, 63, 33], [1, 33, 7, 63], [])
def gE_43 : List Nat := [90282414714350165267393731845332134]
theorem kt_43 : kall5 6 4636324286875404409426208017035817215077349582771895929688709490315862788466257810970079044693046683352274106095462457101399189258717316849891309601577536046263110180431353362299628914720 [1, 7, 63, 33] [1, 33, 7, 63] 297509090391113039085569 171050048 221944705545181785989926545990079275185116808491597683665431370628820826342139872934712604893540499163168 105593144714438437226482526297753850291946332175647027951234622024997108860076219682404289480393447207348199476237003472041176529391492268700806938630 105593144714438437226482526297753850291946332175644838564522803092162653962827395891486821708258031541799895694749393095379052413553039435270149111809 6642186131486404134411314212500193052718786505426470067463051267287995075632321530951410942246997430581437547919319366441367564531532082998480442979592094408714524643371447515113313745078019737842654372251722614608356419448076820671640047508895060216846855012826604876660382882033847419989117742537834271533150957617409930337141737 [3] [96, 99, 97, 101, 98] gE_43 = true := by decide +kernel
theorem kq_43 : kTab gT_43 gE_43 := kall4_s (k5_4 kt_43).1
def gT_44 : zGT := (6, 147950102060666770046245656261849112213961494673731568108889127718955389809298442446101722583939129463691800256881894061709411143100761845791529311122770291224456284815657968611941716953120, [1, 7, 63, 17], [1, 17, 7, 63], [])
def gE_44 : List Nat := [90277700646085277536699180915006630]
theorem kt_44 : kall5 6 147950102060666770046245656261849112213961494673731568108889127718955389809298442446101722583939129463691800256881894061709411143100761845791529311122770291224456284815657968611941716953120 [1, 7, 63, 17] [1, 17, 7, 63] 297509090391112770650113 105022528 221944705545181785989926545990079275185116808491694182994020269567870578506505743966118597372640497862688 105593144714438437226482526297753850291946332175647027951234622024997108860076219682404289480393447207348199476237003472041176529391492268700806938630 105593144714438437226482526297753850291946332175644838564522803092162653962827395891486821708258031541799895694749393095379052413553039435270149111809 6642186131486404134411314212500193052718786505426470067463051267287995075632321530951410942246997430581437547919319366441367564531532082998480442979592094408714524643371447515113313745078019737842654372251722614608356419448076820671640047508895060216846855012826604876660382882033847419989117742537834271533150957617409930337141737 [3] [96, 99, 98, 100, 97] gE_44 = true := by decide +kernel
theorem kq_44 : kTab gT_44 gE_44 := kall4_s (k5_4 kt_44).1
def gT_45 : zGT := (6, 570268011771141808789212341467641414818919741955529889775034535777266605006279821946992123528114398238069382350357235759134467176603277258919109863281690398084308271996362367981534929061920, [1, 63, 21, 9], [1, 9, 21, 63], [])
def gE_45 : List Nat := [27286043628088536307818438458514598]
theorem kt_45 : kall5 6 570268011771141808789212341467641414818919741955529889775034535777266605006279821946992123528114398238069382350357235759134467176603277258919109863281690398084308271996362367981534929061920 [1, 63, 21, 9] [1, 9, 21, 63] 297509094331762310381569 35754144 71741892124467940588540709690152578209251624619941698577733602619649271105199977409032731868424742996000 105593144714438437226482526297753850291946332175647027951234622024997108860076219682404289480393447207348199476237003472041176529391492268700806938630 105593144714438437226482526297753850291946332175644838564522803092162653962827395891486821708258031541799895694749393095379052413553039435270149111809 6642186131486404134411314212500193052718786505426470067463051267287995075632321530951410942246997430581437547919319366441367564531532082998480442979592094408714524643371447515113313745078019737842654372251722614608356419448076820671640047508895060216846855012826604876660382882033847419989117742537834271533150957617409930337141737 [1] [32, 33, 34, 35, 36] gE_45 = true := by decide +kernel
theorem kq_45 : kTab gT_45 gE_45 := kall4_s (k5_4 kt_45).1
def gT_46 : zGT := (6, 291659046501113810404490158132337443894479504929630220489608308608621918427211063397028581364228973923542070743389042858470622115583094993663682887893289159102540364859738513257180415756320, [1, 63, 37, 9], [1, 9, 37, 63], [])
def gE_46 : List Nat := [27912180792260175697028794563075238]
theorem kt_46 : kall5 6 291659046501113810404490158132337443894479504929630220489608308608621918427211063397028581364228973923542070743389042858470622115583094993663682887893289159102540364859738513257180415756320 [1, 63, 37, 9] [1, 9, 37, 63] 297509098835361937752065 68260992 2309805116956010061259998992530805587480614205620055634067097935162614340773328517533348664217230739488 105593144714438437226482526297753850291946332175647027951234622024997108860076219682404289480393447207348199476237003472041176529391492268700806938630 105593144714438437226482526297753850291946332175644838564522803092162653962827395891486821708258031541799895694749393095379052413553039435270149111809 6642186131486404134411314212500193052718786505426470067463051267287995075632321530951410942246997430581437547919319366441367564531532082998480442979592094408714524643371447515113313745078019737842654372251722614608356419448076820671640047508895060216846855012826604876660382882033847419989117742537834271533150957617409930337141737 [1] [32, 33, 34, 35, 37] gE_46 = true := by decide +kernel
theorem kq_46 : kTab gT_46 gE_46 := kall4_s (k5_4 kt_46).1
def gT_47 : zGT := (6, 283364662820788971199578876301762455467086687280890766898881790571028908380578053194581683800922694011699723295979120198985269675591431973212574245744331210833119064188723196670162224908320, [1, 63, 37, 17], [1, 17, 37, 63], [])
def gE_47 : List Nat := [27756896836965455012012321797217446]
theorem kt_47 : kall5 6 283364662820788971199578876301762455467086687280890766898881790571028908380578053194581683800922694011699723295979120198985269675591431973212574245744331210833119064188723196670162224908320 [1, 63, 37, 17] [1, 17, 37, 63] 297509098835362071969793 71341152 2309805116956010061259998992530805587480614205617086423956670275499545043408224793490087357168000010272 105593144714438437226482526297753850291946332175647027951234622024997108860076219682404289480393447207348199476237003472041176529391492268700806938630 105593144714438437226482526297753850291946332175644838564522803092162653962827395891486821708258031541799895694749393095379052413553039435270149111809 6642186131486404134411314212500193052718786505426470067463051267287995075632321530951410942246997430581437547919319366441367564531532082998480442979592094408714524643371447515113313745078019737842654372251722614608356419448076820671640047508895060216846855012826604876660382882033847419989117742537834271533150957617409930337141737 [1] [32, 33, 34, 36, 37] gE_47 = true := by decide +kernel
theorem kq_47 : kTab gT_47 gE_47 := kall4_s (k5_4 kt_47).1
def gT_48 : zGT := (6, 426954233997350443152392893222828119807060111450152802205941136294936378101611251236506881288683632567755481786734694282295678661386313501711354307014699517031626385710136198955776434341920, [1, 63, 13, 17], [1, 17, 13, 63], [])
def gE_48 : List Nat := [27290756850106351051404143371656358]
theorem kt_48 : kall5 6 426954233997350443152392893222828119807060111450152802205941136294936378101611251236506881288683632567755481786734694282295678661386313501711354307014699517031626385710136198955776434341920 [1, 63, 13, 17] [1, 17, 13, 63] 297509092079962630914049 37817504 73911644843452688417518231899453258603681968695386280709612753231376409831723206462848826286506997024800 105593144714438437226482526297753850291946332175647027951234622024997108860076219682404289480393447207348199476237003472041176529391492268700806938630 105593144714438437226482526297753850291946332175644838564522803092162653962827395891486821708258031541799895694749393095379052413553039435270149111809 6642186131486404134411314212500193052718786505426470067463051267287995075632321530951410942246997430581437547919319366441367564531532082998480442979592094408714524643371447515113313745078019737842654372251722614608356419448076820671640047508895060216846855012826604876660382882033847419989117742537834271533150957617409930337141737 [1] [32, 33, 34, 36, 35] gE_48 = true := by decide +kernel
theorem kq_48 : kTab gT_48 gE_48 := kall4_s (k5_4 kt_48).1
def gTc_A : List zGT := [gT_0, gT_1, gT_2, gT_3, gT_4, gT_5, gT_6, gT_7, gT_8, gT_9, gT_10, gT_11, gT_12, gT_13, gT_14, gT_15, gT_16, gT_17, gT_18, gT_19, gT_20, gT_21, gT_22, gT_23, gT_24, gT_25, gT_26, gT_27, gT_28, gT_29, gT_30, gT_31, gT_32, gT_33, gT_34, gT_35, gT_36, gT_37, gT_38, gT_39, gT_40, gT_41, gT_42, gT_43, gT_44, gT_45, gT_46, gT_47, gT_48]
def gEc_A : List Nat := gE_0 ++ (gE_1 ++ (gE_2 ++ (gE_3 ++ (gE_4 ++ (gE_5 ++ (gE_6 ++ (gE_7 ++ (gE_8 ++ (gE_9 ++ (gE_10 ++ (gE_11 ++ (gE_12 ++ (gE_13 ++ (gE_14 ++ (gE_15 ++ (gE_16 ++ (gE_17 ++ (gE_18 ++ (gE_19 ++ (gE_20 ++ (gE_21 ++ (gE_22 ++ (gE_23 ++ (gE_24 ++ (gE_25 ++ (gE_26 ++ (gE_27 ++ (gE_28 ++ (gE_29 ++ (gE_30 ++ (gE_31 ++ (gE_32 ++ (gE_33 ++ (gE_34 ++ (gE_35 ++ (gE_36 ++ (gE_37 ++ (gE_38 ++ (gE_39 ++ (gE_40 ++ (gE_41 ++ (gE_42 ++ (gE_43 ++ (gE_44 ++ (gE_45 ++ (gE_46 ++ (gE_47 ++ (gE_48))))))))))))))))))))))))))))))))))))))))))))))))
theorem kqT_A : ∀ T ∈ gTc_A, gOK T ∧ gEx T := List.forall_mem_cons.mpr ⟨kq_0.1, List.forall_mem_cons.mpr ⟨kq_1.1, List.forall_mem_cons.mpr ⟨kq_2.1, List.forall_mem_cons.mpr ⟨kq_3.1, List.forall_mem_cons.mpr ⟨kq_4.1, List.forall_mem_cons.mpr ⟨kq_5.1, List.forall_mem_cons.mpr ⟨kq_6.1, List.forall_mem_cons.mpr ⟨kq_7.1, List.forall_mem_cons.mpr ⟨kq_8.1, List.forall_mem_cons.mpr ⟨kq_9.1, List.forall_mem_cons.mpr ⟨kq_10.1, List.forall_mem_cons.mpr ⟨kq_11.1, List.forall_mem_cons.mpr ⟨kq_12.1, List.forall_mem_cons.mpr ⟨kq_13.1, List.forall_mem_cons.mpr ⟨kq_14.1, List.forall_mem_cons.mpr ⟨kq_15.1, List.forall_mem_cons.mpr ⟨kq_16.1, List.forall_mem_cons.mpr ⟨kq_17.1, List.forall_mem_cons.mpr ⟨kq_18.1, List.forall_mem_cons.mpr ⟨kq_19.1, List.forall_mem_cons.mpr ⟨kq_20.1, List.forall_mem_cons.mpr ⟨kq_21.1, List.forall_mem_cons.mpr ⟨kq_22.1, List.forall_mem_cons.mpr ⟨kq_23.1, List.forall_mem_cons.mpr ⟨kq_24.1, List.forall_mem_cons.mpr ⟨kq_25.1, List.forall_mem_cons.mpr ⟨kq_26.1, List.forall_mem_cons.mpr ⟨kq_27.1, List.forall_mem_cons.mpr ⟨kq_28.1, List.forall_mem_cons.mpr ⟨kq_29.1, List.forall_mem_cons.mpr ⟨kq_30.1, List.forall_mem_cons.mpr ⟨kq_31.1, List.forall_mem_cons.mpr ⟨kq_32.1, List.forall_mem_cons.mpr ⟨kq_33.1, List.forall_mem_cons.mpr ⟨kq_34.1, List.forall_mem_cons.mpr ⟨kq_35.1, List.forall_mem_cons.mpr ⟨kq_36.1, List.forall_mem_cons.mpr ⟨kq_37.1, List.forall_mem_cons.mpr ⟨kq_38.1, List.forall_mem_cons.mpr ⟨kq_39.1, List.forall_mem_cons.mpr ⟨kq_40.1, List.forall_mem_cons.mpr ⟨kq_41.1, List.forall_mem_cons.mpr ⟨kq_42.1, List.forall_mem_cons.mpr ⟨kq_43.1, List.forall_mem_cons.mpr ⟨kq_44.1, List.forall_mem_cons.mpr ⟨kq_45.1, List.forall_mem_cons.mpr ⟨kq_46.1, List.forall_mem_cons.mpr ⟨kq_47.1, List.forall_mem_cons.mpr ⟨kq_48.1, fun _ h => absurd h List.not_mem_nil⟩⟩⟩⟩⟩⟩⟩⟩⟩⟩⟩⟩⟩⟩⟩⟩⟩⟩⟩⟩⟩⟩⟩⟩⟩⟩⟩⟩⟩⟩⟩⟩⟩⟩⟩⟩⟩⟩⟩⟩⟩⟩⟩⟩⟩⟩⟩⟩⟩
theorem kqE_A (gT : List zGT) (h : ∀ T ∈ gTc_A, T ∈ gT) : ∀ e ∈ gEc_A, gGdE gT e ∧ gGn e := (List.forall_mem_append.mpr ⟨kq_0.2 gT (h _ (List.mem_of_getElem? (i := 0) rfl)), (List.forall_mem_append.mpr ⟨kq_1.2 gT (h _ (List.mem_of_getElem? (i := 1) rfl)), (List.forall_mem_append.mpr ⟨kq_2.2 gT (h _ (List.mem_of_getElem? (i := 2) rfl)), (List.forall_mem_append.mpr ⟨kq_3.2 gT (h _ (List.mem_of_getElem? (i := 3) rfl)), (List.forall_mem_append.mpr ⟨kq_4.2 gT (h _ (List.mem_of_getElem? (i := 4) rfl)), (List.forall_mem_append.mpr ⟨kq_5.2 gT (h _ (List.mem_of_getElem? (i := 5) rfl)), (List.forall_mem_append.mpr ⟨kq_6.2 gT (h _ (List.mem_of_getElem? (i := 6) rfl)), (List.forall_mem_append.mpr ⟨kq_7.2 gT (h _ (List.mem_of_getElem? (i := 7) rfl)), (List.forall_mem_append.mpr ⟨kq_8.2 gT (h _ (List.mem_of_getElem? (i := 8) rfl)), (List.forall_mem_append.mpr ⟨kq_9.2 gT (h _ (List.mem_of_getElem? (i := 9) rfl)), (List.forall_mem_append.mpr ⟨kq_10.2 gT (h _ (List.mem_of_getElem? (i := 10) rfl)), (List.forall_mem_append.mpr ⟨kq_11.2 gT (h _ (List.mem_of_getElem? (i := 11) rfl)), (List.forall_mem_append.mpr ⟨kq_12.2 gT (h _ (List.mem_of_getElem? (i := 12) rfl)), (List.forall_mem_append.mpr ⟨kq_13.2 gT (h _ (List.mem_of_getElem? (i := 13) rfl)), (List.forall_mem_append.mpr ⟨kq_14.2 gT (h _ (List.mem_of_getElem? (i := 14) rfl)), (List.forall_mem_append.mpr ⟨kq_15.2 gT (h _ (List.mem_of_getElem? (i := 15) rfl)), (List.forall_mem_append.mpr ⟨kq_16.2 gT (h _ (List.mem_of_getElem? (i := 16) rfl)), (List.forall_mem_append.mpr ⟨kq_17.2 gT (h _ (List.mem_of_getElem? (i := 17) rfl)), (List.forall_mem_append.mpr ⟨kq_18.2 gT (h _ (List.mem_of_getElem? (i := 18) rfl)), (List.forall_mem_append.mpr ⟨kq_19.2 gT (h _ (List.mem_of_getElem? (i := 19) rfl)), (List.forall_mem_append.mpr ⟨kq_20.2 gT (h _ (List.mem_of_getElem? (i := 20) rfl)), (List.forall_mem_append.mpr ⟨kq_21.2 gT (h _ (List.mem_of_getElem? (i := 21) rfl)), (List.forall_mem_append.mpr ⟨kq_22.2 gT (h _ (List.mem_of_getElem? (i := 22) rfl)), (List.forall_mem_append.mpr ⟨kq_23.2 gT (h _ (List.mem_of_getElem? (i := 23) rfl)), (List.forall_mem_append.mpr ⟨kq_24.2 gT (h _ (List.mem_of_getElem? (i := 24) rfl)), (List.forall_mem_append.mpr ⟨kq_25.2 gT (h _ (List.mem_of_getElem? (i := 25) rfl)), (List.forall_mem_append.mpr ⟨kq_26.2 gT (h _ (List.mem_of_getElem? (i := 26) rfl)), (List.forall_mem_append.mpr ⟨kq_27.2 gT (h _ (List.mem_of_getElem? (i := 27) rfl)), (List.forall_mem_append.mpr ⟨kq_28.2 gT (h _ (List.mem_of_getElem? (i := 28) rfl)), (List.forall_mem_append.mpr ⟨kq_29.2 gT (h _ (List.mem_of_getElem? (i := 29) rfl)), (List.forall_mem_append.mpr ⟨kq_30.2 gT (h _ (List.mem_of_getElem? (i := 30) rfl)), (List.forall_mem_append.mpr ⟨kq_31.2 gT (h _ (List.mem_of_getElem? (i := 31) rfl)), (List.forall_mem_append.mpr ⟨kq_32.2 gT (h _ (List.mem_of_getElem? (i := 32) rfl)), (List.forall_mem_append.mpr ⟨kq_33.2 gT (h _ (List.mem_of_getElem? (i := 33) rfl)), (List.forall_mem_append.mpr ⟨kq_34.2 gT (h _ (List.mem_of_getElem? (i := 34) rfl)), (List.forall_mem_append.mpr ⟨kq_35.2 gT (h _ (List.mem_of_getElem? (i := 35) rfl)), (List.forall_mem_append.mpr ⟨kq_36.2 gT (h _ (List.mem_of_getElem? (i := 36) rfl)), (List.forall_mem_append.mpr ⟨kq_37.2 gT (h _ (List.mem_of_getElem? (i := 37) rfl)), (List.forall_mem_append.mpr ⟨kq_38.2 gT (h _ (List.mem_of_getElem? (i := 38) rfl)), (List.forall_mem_append.mpr ⟨kq_39.2 gT (h _ (List.mem_of_getElem? (i := 39) rfl)), (List.forall_mem_append.mpr ⟨kq_40.2 gT (h _ (List.mem_of_getElem? (i := 40) rfl)), (List.forall_mem_append.mpr ⟨kq_41.2 gT (h _ (List.mem_of_getElem? (i := 41) rfl)), (List.forall_mem_append.mpr ⟨kq_42.2 gT (h _ (List.mem_of_getElem? (i := 42) rfl)), (List.forall_mem_append.mpr ⟨kq_43.2 gT (h _ (List.mem_of_getElem? (i := 43) rfl)), (List.forall_mem_append.mpr ⟨kq_44.2 gT (h _ (List.mem_of_getElem? (i := 44) rfl)), (List.forall_mem_append.mpr ⟨kq_45.2 gT (h _ (List.mem_of_getElem? (i := 45) rfl)), (List.forall_mem_append.mpr ⟨kq_46.2 gT (h _ (List.mem_of_getElem? (i := 46) rfl)), (List.forall_mem_append.mpr ⟨kq_47.2 gT (h _ (List.mem_of_getElem? (i := 47) rfl)), (kq_48.2 gT (h _ (List.mem_of_getElem? (i := 48) rfl)))⟩)⟩)⟩)⟩)⟩)⟩)⟩)⟩)⟩)⟩)⟩)⟩)⟩)⟩)⟩)⟩)⟩)⟩)⟩)⟩)⟩)⟩)⟩)⟩)⟩)⟩)⟩)⟩)⟩)⟩)⟩)⟩)⟩)⟩)⟩)⟩)⟩)⟩)⟩)⟩)⟩)⟩)⟩)⟩)⟩)⟩)⟩)⟩)
