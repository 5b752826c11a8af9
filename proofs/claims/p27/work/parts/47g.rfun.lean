def zrS (M : zMem) : List Nat := zlst (fun i => (ze M 100 i).toNat) (ze M 81 41).toNat
def zrV (F : Nat) (M : zMem) : List (Nat → Int) := zlst (fun i => zrw F M 95 (64 * (i : Int))) (ze M 81 38).toNat
def zrG (M : zMem) : Bool := decide (ze M 81 39 ≠ 0)
def zrW (F : Nat) (M : zMem) : List (Nat → Int) := if zrG M = true then [] else zrV F M
def zRst (ph F : Nat) (M : zMem) : zFst := (ph, (ze M 81 4).toNat, zrS M, zrW F M, (ze M 81 43).toNat, zrG M)
def zRI (F : Nat) (K : Nat → Nat → Int) (e : Int) (M : zMem) : Prop := 0 ≤ ze M 81 41 ∧ (∀ i : Nat, (i : Int) < ze M 81 41 → 0 ≤ ze M 100 i ∧ ze M 100 i ≤ 4) ∧ ze M 81 42 = (zdp (zrS M) : Nat) ∧ ze M 81 38 = (zbn (zrS M) : Nat) + e ∧ (ze M 81 39 = 0 ∨ ze M 81 39 = 1) ∧ zwf (zrS M) ∧ zdp (zrS M) ≤ 7 ∧ zFtR F K M
theorem zlst_u {α : Type} {f f' : Nat → α} {c c' : Int} {x : α} (c0 : 0 ≤ c) (hc : c' = c + 1) (h : ∀ i : Nat, (i : Int) < c → f' i = f i) (hx : f' c.toNat = x) : zlst f' c'.toNat = x :: zlst f c.toNat := by
  rw [zlst_p (c := c') (by omega), show (c' - 1).toNat = c.toNat by omega, hx]
  congr 1
  exact zlst_c _ (fun i hi => h i (by omega))
theorem zlst_d {α : Type} {f f' : Nat → α} {c c' : Int} (c1 : 1 ≤ c) (hc : c' = c - 1) (h : ∀ i : Nat, (i : Int) < c' → f' i = f i) : zlst f c.toNat = f (c - 1).toNat :: zlst f' c'.toNat := by
  rw [zlst_p c1, hc]
  congr 1
  exact (zlst_c _ (fun i hi => h i (by omega))).symm
section ZRI
variable {F n : Nat} {K : Nat → Nat → Int} {b : Nat → Int} {nm : List (Int × (Nat → Int))} {Mz Nz Pz Rz : zMem} {S C : List Nat} {e : Int} {u : Nat → Int}
theorem zrS_e (h : ze Nz 81 41 = ze Mz 81 41) (h2 : ∀ i : Nat, ze Nz 100 i = ze Mz 100 i) : zrS Nz = zrS Mz := by
  unfold zrS
  rw [h]
  exact zlst_c _ (fun i _ => by rw [h2])
theorem zrV_e (h : ze Nz 81 38 = ze Mz 81 38) (h2 : ∀ i : Nat, (i : Int) < ze Mz 81 38 → zrw F Nz 95 (64 * (i : Int)) = zrw F Mz 95 (64 * (i : Int))) : zrV F Nz = zrV F Mz := by
  unfold zrV
  rw [h]
  exact zlst_c _ (fun i hi => h2 i (by omega))
theorem zrG_e (h : ze Nz 81 39 = ze Mz 81 39) : zrG Nz = zrG Mz := by
  unfold zrG
  rw [h]
theorem zrW_e (h : ze Nz 81 39 = ze Mz 81 39) (h2 : zrV F Nz = zrV F Mz) : zrW F Nz = zrW F Mz := by
  unfold zrW
  rw [zrG_e h, h2]
theorem zrS_q (hf : zFr S C Mz Nz) (hd : 41 ∉ S ∧ 100 ∉ C) : zrS Nz = zrS Mz := zrS_e (hf.e hd.1) (fun i => hf.ie (by decide) hd.2 i)
theorem zrG_q (hf : zFr S C Mz Nz) (hd : 39 ∉ S) : zrG Nz = zrG Mz := zrG_e (hf.e hd)
theorem zrW_q (hf : zFr S C Mz Nz) (hd : 38 ∉ S ∧ 39 ∉ S ∧ 95 ∉ C) : zrW F Nz = zrW F Mz := zrW_e (hf.e hd.2.1) (zrV_e (hf.e hd.1) (fun i _ => zrw_c (fun k _ => hf.jg (by decide) hd.2.2 _)))
theorem zrw_lo {lo t : Int} (h : ∀ x : Nat, (x : Int) < lo → zg Nz 95 x = zg Mz 95 x) (hF : F ≤ 27) (t0 : 0 ≤ t) (ht : 64 * t + 64 ≤ lo) : zrw F Nz 95 (64 * t) = zrw F Mz 95 (64 * t) := zrw_c (fun k hk => h _ (by omega))
theorem zRI.fr (hf : zFr S C Mz Nz) (h : zRI F K e Mz) (hs : 38 ∉ S ∧ 39 ∉ S ∧ 41 ∉ S ∧ 42 ∉ S) (hc : 95 ∉ C ∧ 100 ∉ C) : zRI F K e Nz := by
  obtain ⟨a1, a2, a3, a4, a5, a6, a7, a8⟩ := h
  unfold zRI zFtR
  rw [zrS_q hf ⟨hs.2.2.1, hc.2⟩, hf.e hs.1, hf.e hs.2.1, hf.e hs.2.2.1, hf.e hs.2.2.2]
  refine ⟨a1, fun i hi => by rw [hf.ie (by decide) hc.2]; exact a2 i hi, a3, a4, a5, a6, a7, fun h0 t t0 t1 => ?_⟩
  rw [show zrw F Nz 95 (64 * t) = zrw F Mz 95 (64 * t) from zrw_c (fun k _ => hf.jg (by decide) hc.1 _)]
  exact a8 h0 t t0 t1
theorem zRI.bd (h : zRI F K e Mz) : ze Mz 81 41 = ((zrS Mz).length : Int) ∧ (zrS Mz).length ≤ 3 * zdp (zrS Mz) + 2 ∧ zbn (zrS Mz) + zdp (zrS Mz) = (zrS Mz).length ∧ (zrS Mz).length ≤ 23 := by
  have h1 := zwf_b h.2.2.2.2.2.1
  have h2 := zbd_l (zrS Mz)
  have h3 := h.2.2.2.2.2.2.1
  have h4 : (zrS Mz).length = (ze Mz 81 41).toNat := zlst_l _ _
  have h5 := h.1
  omega
theorem zRI_0 (h1 : ze Mz 81 41 = 0) (h2 : ze Mz 81 42 = 0) (h3 : ze Mz 81 38 = 0) (h4 : ze Mz 81 39 = 0) : zRI F K 0 Mz ∧ zrS Mz = [] ∧ zrW F Mz = [] ∧ zrG Mz = false := by
  have hS : zrS Mz = [] := by
    unfold zrS
    rw [h1]
    rfl
  have hG : zrG Mz = false := by
    unfold zrG
    rw [h4]
    rfl
  refine ⟨?_, hS, ?_, hG⟩
  · unfold zRI
    rw [hS, h1, h2, h3, h4]
    exact ⟨by omega, fun i hi => absurd hi (by omega), rfl, rfl, Or.inl rfl, trivial, by decide, fun _ t t0 t1 => absurd t1 (by omega)⟩
  · unfold zrW zrV
    rw [hG, h3]
    rfl
theorem zRI_ps {x e' : Int} (hI : zRI F K e Mz) (hx : 0 ≤ x ∧ x ≤ 4) (he : e' = (if 2 ≤ x then e - 1 else e)) (hw : ∀ y, (zrS Mz).head? = some y → zwp x.toNat y) (hd : x ≤ 1 → zdp (zrS Mz) ≤ 6) (h41 : ze Nz 81 41 = ze Mz 81 41 + 1) (hn : ze Nz 100 (ze Mz 81 41).toNat = x) (hc : ∀ i : Nat, (i : Int) < ze Mz 81 41 → ze Nz 100 i = ze Mz 100 i) (h42 : ze Nz 81 42 = ze Mz 81 42 + (if x ≤ 1 then 1 else 0)) (h38 : ze Nz 81 38 = ze Mz 81 38) (h39 : ze Nz 81 39 = ze Mz 81 39) (h95 : ∀ k : Nat, zg Nz 95 k = zg Mz 95 k) : zRI F K e' Nz ∧ zrS Nz = x.toNat :: zrS Mz ∧ zrW F Nz = zrW F Mz ∧ zrG Nz = zrG Mz := by
  have hb := hI.bd
  obtain ⟨a1, a2, a3, a4, a5, a6, a7, a8⟩ := hI
  have hS : zrS Nz = x.toNat :: zrS Mz := zlst_u (f := fun i => (ze Mz 100 i).toNat) (f' := fun i => (ze Nz 100 i).toNat) a1 h41 (fun i hi => by rw [hc i hi]) (by rw [hn])
  have hv : ∀ t : Int, zrw F Nz 95 t = zrw F Mz 95 t := fun t => zrw_c (fun k _ => h95 _)
  refine ⟨?_, hS, zrW_e h39 (zrV_e h38 (fun i _ => hv _)), zrG_e h39⟩
  unfold zRI zFtR
  rw [hS, zdp_c, zbn_c, h41, h42, h38, h39]
  refine ⟨by omega, fun i hi => ?_, ?_, ?_, a5, ⟨by omega, hw, a6⟩, ?_, fun h0 t t0 t1 => by rw [hv]; exact a8 h0 t t0 t1⟩
  · by_cases g : (i : Int) = ze Mz 81 41
    · rw [show i = (ze Mz 81 41).toNat by omega, hn]
      exact hx
    · rw [hc i (by omega)]
      exact a2 i (by omega)
  · by_cases g : x ≤ 1
    · rw [if_pos g, if_pos (by omega)]; omega
    · rw [if_neg g, if_neg (by omega)]; omega
  · by_cases g : 2 ≤ x
    · rw [he, if_pos g, if_pos (by omega)]; omega
    · rw [he, if_neg g, if_neg (by omega)]; omega
  · by_cases g : x ≤ 1
    · have := hd g
      rw [if_pos (by omega)]; omega
    · rw [if_neg (by omega)]; omega
theorem zRI_pv (hF : F ≤ 27) (hI : zRI F K 0 Mz) (h41 : ze Nz 81 41 = ze Mz 81 41) (hc : ∀ i : Nat, ze Nz 100 i = ze Mz 100 i) (h42 : ze Nz 81 42 = ze Mz 81 42) (h38 : ze Nz 81 38 = ze Mz 81 38 + 1) (h39 : ze Nz 81 39 = ze Mz 81 39) (hlo : ∀ x : Nat, (x : Int) < 64 * ze Mz 81 38 → zg Nz 95 x = zg Mz 95 x) (hu : ze Mz 81 39 = 0 → zrw F Nz 95 (64 * ze Mz 81 38) = u ∧ zfit F K u) : zRI F K 1 Nz ∧ zrS Nz = zrS Mz ∧ zrW F Nz = zpu (zrG Mz) u (zrW F Mz) ∧ zrG Nz = zrG Mz := by
  obtain ⟨a1, a2, a3, a4, a5, a6, a7, a8⟩ := hI
  have hS : zrS Nz = zrS Mz := zrS_e h41 hc
  have hv : ∀ t : Int, 0 ≤ t → t < ze Mz 81 38 → zrw F Nz 95 (64 * t) = zrw F Mz 95 (64 * t) := fun t t0 t1 => zrw_lo hlo hF t0 (by omega)
  have h0 : 0 ≤ ze Mz 81 38 := by omega
  refine ⟨?_, hS, ?_, zrG_e h39⟩
  · unfold zRI zFtR
    rw [hS, h41, h42, h38, h39]
    refine ⟨a1, fun i hi => by rw [hc]; exact a2 i hi, a3, by omega, a5, a6, a7, fun hM t t0 t1 => ?_⟩
    by_cases g : t = ze Mz 81 38
    · rw [g, (hu hM).1]
      exact (hu hM).2
    · rw [hv t t0 (by omega)]
      exact a8 hM t t0 (by omega)
  · unfold zrW zpu
    rw [zrG_e h39]
    cases hG : zrG Mz with
    | true => rfl
    | false =>
      have hM : ze Mz 81 39 = 0 := by
        unfold zrG at hG
        have := of_decide_eq_false hG
        omega
      show zrV F Nz = u :: zrV F Mz
      exact zlst_u (f := fun i => zrw F Mz 95 (64 * (i : Int))) (f' := fun i => zrw F Nz 95 (64 * (i : Int))) h0 h38 (fun i hi => hv i (by omega) hi) (by rw [Int.toNat_of_nonneg h0]; exact (hu hM).1)
theorem zRI_tv (hF : F ≤ 27) (hI : zRI F K 1 Mz) (hS : zrS Nz = zrS Mz ∨ (zrS Mz).head? = some 1 ∧ zrS Nz = (zrS Mz).tail ∨ (zrS Mz).head? = some 0 ∧ zrS Nz = (zrS Mz).tail) (h41 : ze Nz 81 41 = ((zrS Nz).length : Int)) (hc : ∀ i : Nat, ze Nz 100 i = ze Mz 100 i) (h42 : ze Nz 81 42 = (zdp (zrS Nz) : Nat)) (h38 : ze Nz 81 38 = ze Mz 81 38) (h39 : ze Nz 81 39 = ze Mz 81 39 ∨ ze Nz 81 39 = 1) (hlo : ∀ x : Nat, (x : Int) < 64 * (ze Mz 81 38 - 1) → zg Nz 95 x = zg Mz 95 x) (hu : ze Nz 81 39 = 0 → zfit F K (zrw F Nz 95 (64 * (ze Mz 81 38 - 1)))) : zRI F K 1 Nz := by
  have hb := hI.bd
  obtain ⟨a1, a2, a3, a4, a5, a6, a7, a8⟩ := hI
  have key : zwf (zrS Nz) ∧ zdp (zrS Nz) ≤ 7 ∧ zbn (zrS Nz) = zbn (zrS Mz) ∧ (zrS Nz).length ≤ (zrS Mz).length := by
    rcases hS with h | ⟨h, h2⟩ | ⟨h, h2⟩
    · rw [h]
      exact ⟨a6, a7, rfl, Nat.le_refl _⟩
    all_goals
      rw [h2]
      cases hs : zrS Mz with
      | nil => rw [hs] at h; cases h
      | cons y r =>
        rw [hs] at h a6 a7
        injection h with h
        subst h
        rw [zdp_c] at a7
        rw [zbn_c]
        exact ⟨a6.2.2, by show zdp r ≤ 7; omega, by show zbn r = _; simp, by show r.length ≤ _; rw [List.length_cons]; omega⟩
  unfold zRI zFtR
  rw [h38, key.2.2.1]
  refine ⟨by omega, fun i hi => by rw [hc]; exact a2 i (by omega), h42, a4, by omega, key.1, key.2.1, fun hM t t0 t1 => ?_⟩
  by_cases g : t = ze Mz 81 38 - 1
  · rw [g]
    exact hu hM
  · rw [zrw_lo hlo hF t0 (by omega)]
    exact a8 (by omega) t t0 t1
theorem zr0_o {c : Int} (h : zisg b n (ze Mz 81 4).toNat 45 ∨ zisg b n (ze Mz 81 4).toNat 40) (hz : zuo (zrS Mz) (ze Mz 81 43).toNat) (hc : (c = 1 ∧ b (ze Mz 81 4).toNat = 40) ∨ (c = 0 ∧ b (ze Mz 81 4).toNat ≠ 40)) (hS : zrS Nz = (if c = 0 then 1 else 0) :: zrS Mz) (hW : zrW F Nz = zrW F Mz) (hG : zrG Nz = zrG Mz) (hu : ze Nz 81 43 = ze Mz 81 43 + 1) (u0 : 0 ≤ ze Mz 81 43) (hp : (ze Nz 81 4).toNat = znx b n (ze Mz 81 4).toNat) : zfs b n F K nm (zRst 0 F Mz) = zRst 0 F Nz := by
  unfold zRst
  rw [zfs_0, zif_t h, zif_t hz, hS, hW, hG, hp, show (ze Nz 81 43).toNat = (ze Mz 81 43).toNat + 1 by omega]
  rcases hc with ⟨rfl, e⟩ | ⟨rfl, e⟩
  · rw [if_pos e]; rfl
  · rw [if_neg e]; rfl
theorem zr0_of (h : zisg b n (ze Mz 81 4).toNat 45 ∨ zisg b n (ze Mz 81 4).toNat 40) (hz : ¬ zuo (zrS Mz) (ze Mz 81 43).toNat) : zfs b n F K nm (zRst 0 F Mz) = zFt := by
  unfold zRst
  rw [zfs_0, zif_t h, zif_f hz]
theorem zr0_n (h : ¬ (zisg b n (ze Mz 81 4).toNat 45 ∨ zisg b n (ze Mz 81 4).toNat 40)) (h2 : zkd b n (ze Mz 81 4).toNat = 2) (hz : zuo (zrS Mz) (ze Mz 81 43).toNat) (hS : zrS Nz = zrS Mz) (hW : zrW F Nz = zpu (zrG Mz) (zone ((F : Int) - 1) (znu b n (ze Mz 81 4).toNat)) (zrW F Mz)) (hG : zrG Nz = zrG Mz) (hu : ze Nz 81 43 = ze Mz 81 43 + 1) (u0 : 0 ≤ ze Mz 81 43) (hp : (ze Nz 81 4).toNat = znx b n (ze Mz 81 4).toNat) : zfs b n F K nm (zRst 0 F Mz) = zRst 1 F Nz := by
  unfold zRst
  rw [zfs_0, zif_f h, zif_t h2, zif_t hz, hS, hW, hG, hp, show (ze Nz 81 43).toNat = (ze Mz 81 43).toNat + 1 by omega]
theorem zr0_nf (h : ¬ (zisg b n (ze Mz 81 4).toNat 45 ∨ zisg b n (ze Mz 81 4).toNat 40)) (h2 : zkd b n (ze Mz 81 4).toNat = 2) (hz : ¬ zuo (zrS Mz) (ze Mz 81 43).toNat) : zfs b n F K nm (zRst 0 F Mz) = zFt := by
  unfold zRst
  rw [zfs_0, zif_f h, zif_t h2, zif_f hz]
theorem zr0_s (h : ¬ (zisg b n (ze Mz 81 4).toNat 45 ∨ zisg b n (ze Mz 81 4).toNat 40)) (h2 : zkd b n (ze Mz 81 4).toNat ≠ 2) (h3 : zkd b n (ze Mz 81 4).toNat = 1 ∧ zkey b n (ze Mz 81 4).toNat = zkw 3) (hz : zuo (zrS Mz) (ze Mz 81 43).toNat) (h4 : zkd b n (znx b n (ze Mz 81 4).toNat) = 2 ∧ znu b n (znx b n (ze Mz 81 4).toNat) < F) (hS : zrS Nz = zrS Mz) (hW : zrW F Nz = zpu (zrG Mz) (zone (znu b n (znx b n (ze Mz 81 4).toNat)) 1) (zrW F Mz)) (hG : zrG Nz = zrG Mz) (hu : ze Nz 81 43 = ze Mz 81 43 + 1) (u0 : 0 ≤ ze Mz 81 43) (hp : (ze Nz 81 4).toNat = znx b n (znx b n (ze Mz 81 4).toNat)) : zfs b n F K nm (zRst 0 F Mz) = zRst 1 F Nz := by
  unfold zRst
  rw [zfs_0, zif_f h, zif_f h2, zif_t h3, zif_t ⟨hz, h4.1, h4.2⟩, hS, hW, hG, hp, show (ze Nz 81 43).toNat = (ze Mz 81 43).toNat + 1 by omega]
theorem zr0_sf (h : ¬ (zisg b n (ze Mz 81 4).toNat 45 ∨ zisg b n (ze Mz 81 4).toNat 40)) (h2 : zkd b n (ze Mz 81 4).toNat ≠ 2) (h3 : zkd b n (ze Mz 81 4).toNat = 1 ∧ zkey b n (ze Mz 81 4).toNat = zkw 3) (hz : ¬ (zuo (zrS Mz) (ze Mz 81 43).toNat ∧ zkd b n (znx b n (ze Mz 81 4).toNat) = 2 ∧ znu b n (znx b n (ze Mz 81 4).toNat) < F)) : zfs b n F K nm (zRst 0 F Mz) = zFt := by
  unfold zRst
  rw [zfs_0, zif_f h, zif_f h2, zif_t h3, zif_f hz]
theorem zr0_w (h : ¬ (zisg b n (ze Mz 81 4).toNat 45 ∨ zisg b n (ze Mz 81 4).toNat 40)) (h2 : zkd b n (ze Mz 81 4).toNat ≠ 2) (h3 : ¬ (zkd b n (ze Mz 81 4).toNat = 1 ∧ zkey b n (ze Mz 81 4).toNat = zkw 3)) (hz : zuo (zrS Mz) (ze Mz 81 43).toNat) (h4 : zisn b n (ze Mz 81 4).toNat) {v : Nat → Int} (h5 : zfd nm (zkey b n (ze Mz 81 4).toNat) = some v) (hS : zrS Nz = zrS Mz) (hW : zrW F Nz = zpu (zrG Mz) v (zrW F Mz)) (hG : zrG Nz = zrG Mz) (hu : ze Nz 81 43 = ze Mz 81 43 + 1) (u0 : 0 ≤ ze Mz 81 43) (hp : (ze Nz 81 4).toNat = znx b n (ze Mz 81 4).toNat) : zfs b n F K nm (zRst 0 F Mz) = zRst 1 F Nz := by
  unfold zRst
  rw [zfs_0, zif_f h, zif_f h2, zif_f h3, zif_t ⟨hz, h4⟩, h5, hS, hW, hG, hp, show (ze Nz 81 43).toNat = (ze Mz 81 43).toNat + 1 by omega]
theorem zr0_wf (h : ¬ (zisg b n (ze Mz 81 4).toNat 45 ∨ zisg b n (ze Mz 81 4).toNat 40)) (h2 : zkd b n (ze Mz 81 4).toNat ≠ 2) (h3 : ¬ (zkd b n (ze Mz 81 4).toNat = 1 ∧ zkey b n (ze Mz 81 4).toNat = zkw 3)) (hz : ¬ (zuo (zrS Mz) (ze Mz 81 43).toNat ∧ zisn b n (ze Mz 81 4).toNat)) : zfs b n F K nm (zRst 0 F Mz) = zFt := by
  unfold zRst
  rw [zfs_0, zif_f h, zif_f h2, zif_f h3, zif_f hz]
theorem zr0_wn (h : ¬ (zisg b n (ze Mz 81 4).toNat 45 ∨ zisg b n (ze Mz 81 4).toNat 40)) (h2 : zkd b n (ze Mz 81 4).toNat ≠ 2) (h3 : ¬ (zkd b n (ze Mz 81 4).toNat = 1 ∧ zkey b n (ze Mz 81 4).toNat = zkw 3)) (h5 : zfd nm (zkey b n (ze Mz 81 4).toNat) = none) : zfs b n F K nm (zRst 0 F Mz) = zFt := by
  unfold zRst
  rw [zfs_0, zif_f h, zif_f h2, zif_f h3]
  by_cases hz : zuo (zrS Mz) (ze Mz 81 43).toNat ∧ zisn b n (ze Mz 81 4).toNat
  · rw [zif_t hz, h5]
  · rw [zif_f hz]
theorem zr1_f (h : zisg b n (ze Mz 81 4).toNat 94) (h2 : ¬ (zkd b n (znx b n (ze Mz 81 4).toNat) = 2 ∧ znu b n (znx b n (ze Mz 81 4).toNat) ≤ 9)) : zfs b n F K nm (zRst 1 F Mz) = zFt := by
  unfold zRst
  rw [zfs_1, zif_t h, zif_f h2]
theorem zr2_c {c : Nat × Nat} (h : zisg b n (ze Mz 81 4).toNat 41) (h0 : 0 ∈ zrS Mz) (hR : (zrS Rz, zrW F Rz, zrG Rz) = zrk F K 2 (zrS Mz).length (zrS Mz, zrW F Mz, zrG Mz)) (hS : zrS Nz = (zrS Rz).tail) (hW : zrW F Nz = zrW F Rz) (hG : zrG Nz = zrG Rz) (hu : ze Nz 81 43 = ze Mz 81 43) (hp : (ze Nz 81 4).toNat = znx b n (ze Mz 81 4).toNat) : zfs b n F K nm (zRst 2 F Mz) = zRst 1 F Nz := by
  unfold zRst
  rw [zfs_2, zif_f (fun q => by have := q.2; have := h.2; omega), zif_f (fun q => by have := h.2; rcases q with q | q <;> (have := q.2; omega)), zif_t ⟨h, h0⟩, hS, hW, hG, hp, hu, ← hR]
theorem zr2_f (h4 : ¬ (zisg b n (ze Mz 81 4).toNat 42 ∨ zisg b n (ze Mz 81 4).toNat 43 ∨ zisg b n (ze Mz 81 4).toNat 45)) (h : ¬ (zisg b n (ze Mz 81 4).toNat 41 ∧ 0 ∈ zrS Mz)) (h0 : 0 ∈ zrS Mz) : zfs b n F K nm (zRst 2 F Mz) = zFt := by
  unfold zRst
  rw [zfs_2, zif_f (fun q => h4 (Or.inl q)), zif_f (fun q => h4 (Or.inr q)), zif_f h, zif_t h0]
theorem zr2_e (h4 : ¬ (zisg b n (ze Mz 81 4).toNat 42 ∨ zisg b n (ze Mz 81 4).toNat 43 ∨ zisg b n (ze Mz 81 4).toNat 45)) (h0 : ¬ 0 ∈ zrS Mz) (hR : (zrS Nz, zrW F Nz, zrG Nz) = zrk F K 2 (zrS Mz).length (zrS Mz, zrW F Mz, zrG Mz)) (hu : ze Nz 81 43 = ze Mz 81 43) (hp : ze Nz 81 4 = ze Mz 81 4) : zfs b n F K nm (zRst 2 F Mz) = zRst 3 F Nz := by
  unfold zRst
  rw [zfs_2, zif_f (fun q => h4 (Or.inl q)), zif_f (fun q => h4 (Or.inr q)), zif_f (fun q => h0 q.2), zif_f h0, hu, hp, ← hR]
theorem zr2_s {w : Nat} (hk : zkd b n (ze Mz 81 4).toNat = 3) (hw : (b (ze Mz 81 4).toNat = 42 ∧ w = 4) ∨ (b (ze Mz 81 4).toNat = 43 ∧ w = 2) ∨ (b (ze Mz 81 4).toNat = 45 ∧ w = 3)) (hS : zrS Nz = w :: (zrk F K (if w = 4 then 4 else 2 : Nat) (zrS Mz).length (zrS Mz, zrW F Mz, zrG Mz)).1) (hW : zrW F Nz = (zrk F K (if w = 4 then 4 else 2 : Nat) (zrS Mz).length (zrS Mz, zrW F Mz, zrG Mz)).2.1) (hG : zrG Nz = (zrk F K (if w = 4 then 4 else 2 : Nat) (zrS Mz).length (zrS Mz, zrW F Mz, zrG Mz)).2.2) (hu : ze Nz 81 43 = ze Mz 81 43) (hp : (ze Nz 81 4).toNat = znx b n (ze Mz 81 4).toNat) : zfs b n F K nm (zRst 2 F Mz) = zRst 0 F Nz := by
  unfold zRst
  rw [zfs_2, hS, hW, hG, hp, hu]
  rcases hw with ⟨hc, rfl⟩ | ⟨hc, rfl⟩ | ⟨hc, rfl⟩
  · rw [zif_t ⟨hk, hc⟩]
    rfl
  · rw [zif_f (fun q => by have := q.2; omega), zif_t (Or.inl ⟨hk, hc⟩), if_pos hc]
    rfl
  · rw [zif_f (fun q => by have := q.2; omega), zif_t (Or.inr ⟨hk, hc⟩), if_neg (by omega)]
    rfl
end ZRI
