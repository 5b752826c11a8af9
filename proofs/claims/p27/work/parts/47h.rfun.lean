section ZRJ
variable {F n : Nat} {K : Nat → Nat → Int} {Mz Nz Pz : zMem}
theorem zrG_1 (h : ze Mz 81 39 ≠ 0) : zrG Mz = true := decide_eq_true h
theorem zrG_0 (h : ze Mz 81 39 = 0) : zrG Mz = false := by
  unfold zrG
  rw [h]
  rfl
theorem zrW_t (h : ze Mz 81 39 ≠ 0) : zrW F Mz = [] := by
  unfold zrW
  rw [zrG_1 h, if_pos rfl]
theorem zrW_c (h : ze Mz 81 39 = 0) (h1 : 1 ≤ ze Mz 81 38) : zrW F Mz = zrw F Mz 95 (64 * (ze Mz 81 38 - 1)) :: zlst (fun i => zrw F Mz 95 (64 * (i : Int))) (ze Mz 81 38 - 1).toNat := by
  unfold zrW
  rw [zrG_0 h, if_neg (by decide)]
  unfold zrV
  rw [zlst_p h1, Int.toNat_of_nonneg (by omega)]
theorem zRI_pw (hF : F ≤ 27) (hI : zRI F K 1 Mz) {k : Int} (h : zPwE F K (zrw F Mz 95 (64 * (ze Mz 81 38 - 1))) (64 * (ze Mz 81 38 - 1)) Mz Nz k) (h41 : ze Nz 81 41 = ze Mz 81 41) (hc : ∀ i : Nat, ze Nz 100 i = ze Mz 100 i) (h42 : ze Nz 81 42 = ze Mz 81 42) (h38 : ze Nz 81 38 = ze Mz 81 38) : zRI F K 1 Nz ∧ zrS Nz = zrS Mz ∧ zrW F Nz = (zpo F K k.toNat (zrW F Mz) (zrG Mz)).1 ∧ zrG Nz = (zpo F K k.toNat (zrW F Mz) (zrG Mz)).2 := by
  obtain ⟨p1, p2, p3⟩ := h
  have hS : zrS Nz = zrS Mz := zrS_e h41 hc
  have hb := hI.bd
  have a3 := hI.2.2.1
  have a4 := hI.2.2.2.1
  have hRI : zRI F K 1 Nz := zRI_tv hF hI (Or.inl hS) (by rw [hS]; omega) hc (by rw [hS]; omega) h38 p1 p2 (fun h0 => by
    rcases p3 (by omega) with ⟨u, c1, c2, c3, c4⟩ | ⟨c1, c2⟩
    · rw [c4]; exact c3
    · omega)
  have hlow : zlst (fun i => zrw F Nz 95 (64 * (i : Int))) (ze Mz 81 38 - 1).toNat = zlst (fun i => zrw F Mz 95 (64 * (i : Int))) (ze Mz 81 38 - 1).toNat := zlst_c _ (fun i hi => zrw_lo p2 hF (by omega) (by omega))
  refine ⟨hRI, hS, ?_, ?_⟩
  all_goals
    by_cases hM : ze Mz 81 39 = 0
    · rw [zrW_c hM (by omega), zrG_0 hM]
      rcases p3 hM with ⟨u, c1, c2, c3, c4⟩ | ⟨c1, c2⟩
      · rw [zpo_v c1]
        first
        | exact zrG_0 c2
        | (rw [zrW_c c2 (by omega), h38, c4, hlow])
      · rw [zpo_n c1]
        first
        | exact zrG_1 (by omega)
        | exact zrW_t (by omega)
    · rw [zrW_t hM, zrG_1 hM]
      first
      | exact zrG_1 (by omega)
      | exact zrW_t (by omega)
theorem zRI_ng (hF : F ≤ 27) (hI : zRI F K 1 Mz) (h1 : 1 ≤ ze Mz 81 41) (hx : ze Mz 100 (ze Mz 81 41 - 1).toNat = 1) (h41 : ze Nz 81 41 = ze Mz 81 41 - 1) (hc : ∀ i : Nat, ze Nz 100 i = ze Mz 100 i) (h42 : ze Nz 81 42 = ze Mz 81 42 - 1) (h38 : ze Nz 81 38 = ze Mz 81 38) (h39 : ze Nz 81 39 = ze Mz 81 39) (hlo : ∀ x : Nat, (x : Int) < 64 * (ze Mz 81 38 - 1) → zg Nz 95 x = zg Mz 95 x) (hv : zfit F K (zrw F Mz 95 (64 * (ze Mz 81 38 - 1))) → zrw F Nz 95 (64 * (ze Mz 81 38 - 1)) = fun k => -(zrw F Mz 95 (64 * (ze Mz 81 38 - 1)) k)) : zRI F K 1 Nz ∧ zng (zrS Mz) (zrW F Mz) = zng (zrS Nz) (zrW F Nz) ∧ zrG Nz = zrG Mz := by
  have hb := hI.bd
  have a3 := hI.2.2.1
  have a4 := hI.2.2.2.1
  have a8 := hI.2.2.2.2.2.2.2
  have hS : zrS Mz = 1 :: zrS Nz := by
    have := zlst_d (f := fun i => (ze Mz 100 i).toNat) (f' := fun i => (ze Nz 100 i).toNat) h1 h41 (fun i _ => by rw [hc])
    unfold zrS
    rw [this, hx]
    rfl
  have hl : (zrS Mz).length = (zrS Nz).length + 1 := by rw [hS, List.length_cons]
  have hd : zdp (zrS Mz) = zdp (zrS Nz) + 1 := by
    rw [hS, zdp_c]
    rfl
  have hRI : zRI F K 1 Nz := zRI_tv hF hI (Or.inr (Or.inl ⟨by rw [hS]; rfl, by rw [hS]; rfl⟩)) (by omega) hc (by omega) h38 (Or.inl h39) hlo (fun h0 => by
    have hf := a8 (by omega) (ze Mz 81 38 - 1) (by omega) (by omega)
    rw [hv hf]
    exact zneg_fit hf)
  refine ⟨hRI, ?_, zrG_e h39⟩
  rw [hS]
  by_cases hM : ze Mz 81 39 = 0
  · have hf := a8 hM (ze Mz 81 38 - 1) (by omega) (by omega)
    rw [zrW_c hM (by omega), zrW_c (Mz := Nz) (by omega) (by omega), h38, hv hf, zng_s]
    congr 2
    exact (zlst_c _ (fun i hi => zrw_lo hlo hF (by omega) (by omega))).symm
  · rw [zrW_t hM, zrW_t (by omega : ze Nz 81 39 ≠ 0), zng_s0]
theorem zRI_cl (hF : F ≤ 27) (hI : zRI F K 1 Mz) (hh : (zrS Mz).head? = some 0) (h41 : ze Nz 81 41 = ze Mz 81 41 - 1) (hc : ∀ i : Nat, ze Nz 100 i = ze Mz 100 i) (h42 : ze Nz 81 42 = ze Mz 81 42 - 1) (h38 : ze Nz 81 38 = ze Mz 81 38) (h39 : ze Nz 81 39 = ze Mz 81 39) (h95 : ∀ x : Nat, zg Nz 95 x = zg Mz 95 x) : zRI F K 1 Nz ∧ zrS Nz = (zrS Mz).tail ∧ zrW F Nz = zrW F Mz ∧ zrG Nz = zrG Mz := by
  have hb := hI.bd
  have a3 := hI.2.2.1
  have a8 := hI.2.2.2.2.2.2.2
  have h1 : 1 ≤ ze Mz 81 41 := by
    cases hs : zrS Mz with
    | nil => rw [hs] at hh; cases hh
    | cons y r => rw [hs, List.length_cons] at hb; omega
  have hS : zrS Nz = (zrS Mz).tail := by
    have := zlst_d (f := fun i => (ze Mz 100 i).toNat) (f' := fun i => (ze Nz 100 i).toNat) h1 h41 (fun i _ => by rw [hc])
    unfold zrS
    rw [this]
    rfl
  have hv : ∀ t : Int, zrw F Nz 95 t = zrw F Mz 95 t := fun t => zrw_c (fun k _ => h95 _)
  have hl : (zrS Mz).length = (zrS Nz).length + 1 ∧ zdp (zrS Mz) = zdp (zrS Nz) + 1 := by
    rw [hS]
    cases hs : zrS Mz with
    | nil => rw [hs] at hh; cases hh
    | cons y r =>
      rw [hs] at hh
      injection hh with hh
      rw [List.length_cons, zdp_c, hh]
      exact ⟨rfl, rfl⟩
  refine ⟨zRI_tv hF hI (Or.inr (Or.inr ⟨hh, hS⟩)) (by omega) hc (by omega) h38 (Or.inl h39) (fun x _ => h95 x) (fun h0 => ?_), hS, zrW_e h39 (zrV_e h38 (fun i _ => hv _)), zrG_e h39⟩
  rw [hv]
  exact a8 (by omega) _ (by have := hI.2.2.2.1; omega) (by omega)
theorem zRI_wk (hF : F ≤ 27) (hI : zRI F K 1 Mz) {x : Int} (h1 : 1 ≤ ze Mz 81 41) (hx : x = ze Mz 100 (ze Mz 81 41 - 1).toNat) (hx2 : 2 ≤ x) (h41 : ze Nz 81 41 = ze Mz 81 41 - 1) (hc : ∀ i : Nat, ze Nz 100 i = ze Mz 100 i) (h42 : ze Nz 81 42 = ze Mz 81 42) (h38 : ze Nz 81 38 = ze Mz 81 38 - 1) {r : Nat → Int} {ok : Prop} (hr : r = zop F K x.toNat (zrw F Mz 95 (64 * (ze Mz 81 38 - 2))) (zrw F Mz 95 (64 * (ze Mz 81 38 - 1)))) (hok : ok ↔ ((x.toNat = 4 → zmok F K (zrw F Mz 95 (64 * (ze Mz 81 38 - 2))) (zrw F Mz 95 (64 * (ze Mz 81 38 - 1)))) ∧ zfit F K r)) (ha : zAcc F (64 * (ze Mz 81 38 - 2)) r ok Mz Nz) : zRI F K 1 Nz ∧ zrS Mz = x.toNat :: zrS Nz ∧ (zrS Nz, zrW F Nz, zrG Nz) = zwk1 F K (zrS Mz, zrW F Mz, zrG Mz) ∧ (zrS Nz).head? ≠ some 1 ∧ 2 ≤ ze Mz 81 38 := by
  have hb := hI.bd
  obtain ⟨a1, a2, a3, a4, a5, a6, a7, a8⟩ := id hI
  obtain ⟨q1, q2, q3⟩ := ha
  have hxr := a2 (ze Mz 81 41 - 1).toNat (by omega)
  rw [← hx] at hxr
  have hS : zrS Mz = x.toNat :: zrS Nz := by
    have := zlst_d (f := fun i => (ze Mz 100 i).toNat) (f' := fun i => (ze Nz 100 i).toNat) h1 h41 (fun i _ => by rw [hc])
    unfold zrS
    rw [this, hx]
  rw [hS] at a3 a4 a6 a7
  rw [zdp_c, if_neg (by omega : ¬ x.toNat ≤ 1)] at a3 a7
  rw [zbn_c, if_pos (by omega : 2 ≤ x.toNat)] at a4
  have hlen : (zrS Mz).length = (zrS Nz).length + 1 := by rw [hS, List.length_cons]
  have hv : ∀ t : Int, 0 ≤ t → t < ze Mz 81 38 - 2 → zrw F Nz 95 (64 * t) = zrw F Mz 95 (64 * t) := fun t t0 t1 => zrw_lo q2 hF t0 (by omega)
  have h2 : 2 ≤ ze Mz 81 38 := by omega
  have hlow : zlst (fun i => zrw F Nz 95 (64 * (i : Int))) (ze Mz 81 38 - 2).toNat = zlst (fun i => zrw F Mz 95 (64 * (i : Int))) (ze Mz 81 38 - 2).toNat := zlst_c _ (fun i hi => hv i (by omega) (by omega))
  refine ⟨?_, hS, ?_, ?_, h2⟩
  · unfold zRI zFtR
    rw [h42, h38, h41]
    refine ⟨by omega, fun i hi => by rw [hc]; exact a2 i (by omega), by omega, by omega, by omega, a6.2.2, by omega, fun h0 t t0 t1 => ?_⟩
    have hM : ze Mz 81 39 = 0 := by omega
    by_cases g : t = ze Mz 81 38 - 2
    · rcases q3 hM with ⟨c1, c2, c3⟩ | ⟨c1, c2⟩
      · rw [g, c3]
        exact (hok.mp c1).2
      · omega
    · rw [hv t t0 (by omega)]
      exact a8 hM t t0 (by omega)
  · rw [hS]
    by_cases hM : ze Mz 81 39 = 0
    · have hW : zrW F Mz = zrw F Mz 95 (64 * (ze Mz 81 38 - 1)) :: zrw F Mz 95 (64 * (ze Mz 81 38 - 2)) :: zlst (fun i => zrw F Mz 95 (64 * (i : Int))) (ze Mz 81 38 - 2).toNat := by
        rw [zrW_c hM (by omega), zlst_p (c := ze Mz 81 38 - 1) (by omega), show ze Mz 81 38 - 1 - 1 = ze Mz 81 38 - 2 by omega, Int.toNat_of_nonneg (by omega)]
      rw [hW, zrG_0 hM]
      have hw1 : zwk1 F K (x.toNat :: zrS Nz, zrw F Mz 95 (64 * (ze Mz 81 38 - 1)) :: zrw F Mz 95 (64 * (ze Mz 81 38 - 2)) :: zlst (fun i => zrw F Mz 95 (64 * (i : Int))) (ze Mz 81 38 - 2).toNat, false) = zif ((x.toNat = 4 → zmok F K (zrw F Mz 95 (64 * (ze Mz 81 38 - 2))) (zrw F Mz 95 (64 * (ze Mz 81 38 - 1)))) ∧ zfit F K r) (zrS Nz, r :: zlst (fun i => zrw F Mz 95 (64 * (i : Int))) (ze Mz 81 38 - 2).toNat, false) (zrS Nz, [], true) := by
        rw [hr]
        rfl
      rw [hw1]
      rcases q3 hM with ⟨c1, c2, c3⟩ | ⟨c1, c2⟩
      · rw [zif_t (hok.mp c1), zrW_c c2 (by omega), zrG_0 c2, h38, show ze Mz 81 38 - 1 - 1 = ze Mz 81 38 - 2 by omega, c3, hlow]
      · rw [zif_f (fun q => c1 (hok.mpr q)), zrW_t (by omega), zrG_1 (by omega)]
    · rw [zrW_t hM, zrG_1 hM, zrW_t (by omega : ze Nz 81 39 ≠ 0), zrG_1 (by omega : ze Nz 81 39 ≠ 0)]
      rfl
  · intro hh
    have hw := a6.2.1 1 hh
    unfold zwp at hw
    have h4' := hw.1
    have h5' := hw.2
    have : x.toNat = 2 ∨ x.toNat = 3 ∨ x.toNat = 4 := by omega
    rcases this with g | g | g
    · exact absurd (h5' (Or.inl g)) (by decide)
    · exact absurd (h5' (Or.inr g)) (by decide)
    · exact (h4' g).1 rfl
theorem zrS_h (h1 : 1 ≤ ze Mz 81 41) : (zrS Mz).head? = some (ze Mz 100 (ze Mz 81 41 - 1).toNat).toNat := by
  unfold zrS
  rw [zlst_p h1]
  rfl
theorem zrS_z (h1 : ze Mz 81 41 ≤ 0) : zrS Mz = [] := by
  unfold zrS
  rw [show (ze Mz 81 41).toNat = 0 by omega]
  rfl
theorem zrS_m {x : Nat} : x ∈ zrS Mz ↔ ∃ i : Nat, (i : Int) < ze Mz 81 41 ∧ (ze Mz 100 i).toNat = x := by
  unfold zrS
  rw [zlst_m]
  constructor
  · rintro ⟨i, hi, h⟩
    exact ⟨i, by omega, h⟩
  · rintro ⟨i, hi, h⟩
    exact ⟨i, by omega, h⟩
end ZRJ
def zWrd (w g : Int) : Prop := ∃ b : Nat → Int, ∃ n p : Nat, zkd b n p = 1 ∧ w = zke8 b n p ∧ g = zkey b n p
theorem zWrd.k {b : Nat → Int} {n p : Nat} (h : zkd b n p = 1) : zWrd (zke8 b n p) (zkey b n p) := ⟨b, n, p, h, rfl, rfl⟩
theorem zWrd.i {w g w' g' : Int} (h : zWrd w g) (h' : zWrd w' g') : w = w' ↔ g = g' := by
  obtain ⟨b, n, p, h1, rfl, rfl⟩ := h
  obtain ⟨c, m, q, h2, rfl, rfl⟩ := h'
  obtain ⟨k1, k2, k3, k4, k5⟩ := zkd_1 h1
  obtain ⟨g1, g2, g3, g4, g5⟩ := zkd_1 h2
  unfold zke8 zkey
  exact (zw28 (fun j hj => k5 (p + j) (by omega) (by omega)) (fun j hj => g5 (q + j) (by omega) (by omega))).symm
def zRNm (nm : List (Int × (Nat → Int))) (F : Nat) (K : Nat → Nat → Int) (_ : Nat → Int) (_ : Nat) (M : zMem) : Prop := (0 ≤ ze M 81 14 ∧ ze M 81 14 ≤ 8) ∧ ∃ gk : Nat → Int, nm = zup (fun k => (gk k, zrw F M 102 (64 * (k : Int)))) (ze M 81 14).toNat 0 ∧ ∀ k : Nat, (k : Int) < ze M 81 14 → zWrd (zg M 101 k) (gk k) ∧ zfit F K (zrw F M 102 (64 * (k : Int)))
section ZRN
variable {F n : Nat} {K : Nat → Nat → Int} {b : Nat → Int} {nm : List (Int × (Nat → Int))} {S C : List Nat} {M N : zMem}
theorem zRNm.fr (hf : zFr S C M N) (h : zRNm nm F K b n M) (hs : 14 ∉ S) (hc : 101 ∉ C ∧ 102 ∉ C) : zRNm nm F K b n N := by
  obtain ⟨a1, gk, a2, a3⟩ := h
  have hv : ∀ t : Int, zrw F N 102 t = zrw F M 102 t := fun t => zrw_c (fun k _ => hf.jg (by decide) hc.2 _)
  unfold zRNm
  rw [hf.e hs]
  refine ⟨a1, gk, ?_, fun k hk => ?_⟩
  · rw [a2]
    exact zup_c _ _ (fun j _ _ => by rw [hv])
  · rw [hf.jg (by decide) hc.1, hv]
    exact a3 k hk
theorem zRNm.t {b' : Nat → Int} {n' : Nat} (h : zRNm nm F K b n M) : zRNm nm F K b' n' M := h
theorem zRNm.len (h : zRNm nm F K b n M) : (nm.length : Int) = ze M 81 14 := by
  obtain ⟨a1, gk, a2, -⟩ := h
  rw [a2, zup_l]
  omega
def zRsr (nm : List (Int × (Nat → Int))) (F : Nat) (_ : Nat → Int) (_ : Nat) (M : zMem) (x k : Int) : Prop := ∃ gk : Nat → Int, (∀ j : Nat, (j : Int) < ze M 81 14 → zWrd (zg M 101 j) (gk j)) ∧ zfd nm x = zfd (zup (fun j => (gk j, zrw F M 102 (64 * (j : Int)))) ((ze M 81 14).toNat - k.toNat) k.toNat) x
theorem zRsr_0 (h : zRNm nm F K b n M) {x : Int} : zRsr nm F b n M x 0 := by
  obtain ⟨a1, gk, a2, a3⟩ := h
  exact ⟨gk, fun j hj => (a3 j hj).1, by rw [a2]; rfl⟩
theorem zRsr_s {q : Nat} {k v : Int} (h : zRsr nm F b n M (zkey b n q) k) (hq : zkd b n q = 1) (k0 : 0 ≤ k) (k1 : k < ze M 81 14) (hv : v = zg M 101 k.toNat) (hne : v ≠ zke8 b n q) : zRsr nm F b n M (zkey b n q) (k + 1) := by
  obtain ⟨gk, a1, a2⟩ := h
  refine ⟨gk, a1, ?_⟩
  have hw := a1 k.toNat (by omega)
  rw [a2, show (ze M 81 14).toNat - k.toNat = (ze M 81 14).toNat - (k + 1).toNat + 1 by omega, show (k + 1).toNat = k.toNat + 1 by omega]
  show (if gk k.toNat = zkey b n q then _ else _) = _
  rw [if_neg (fun e => hne (by rw [hv]; exact (hw.i (zWrd.k hq)).mpr e))]
theorem zRsr_f {q : Nat} {k v : Int} (h : zRsr nm F b n M (zkey b n q) k) (hq : zkd b n q = 1) (k0 : 0 ≤ k) (k1 : k < ze M 81 14) (hv : v = zg M 101 k.toNat) (he : v = zke8 b n q) : zfd nm (zkey b n q) = some (zrw F M 102 (64 * k)) := by
  obtain ⟨gk, a1, a2⟩ := h
  have hw := a1 k.toNat (by omega)
  rw [a2, show (ze M 81 14).toNat - k.toNat = (ze M 81 14).toNat - k.toNat - 1 + 1 by omega]
  show (if gk k.toNat = zkey b n q then some (zrw F M 102 (64 * (k.toNat : Int))) else _) = _
  rw [if_pos ((hw.i (zWrd.k hq)).mp (by rw [← hv, he])), Int.toNat_of_nonneg k0]
theorem zRsr_n {x k : Int} (h : zRsr nm F b n M x k) (k1 : ze M 81 14 ≤ k) : zfd nm x = none := by
  obtain ⟨gk, a1, a2⟩ := h
  rw [a2, show (ze M 81 14).toNat - k.toNat = 0 by omega]
  rfl
end ZRN
