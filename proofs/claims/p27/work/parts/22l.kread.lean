def zKst (ph F d : Nat) (Mz : zMem) : zFst := (ph, (ze Mz 1 2).toNat, zkS d Mz, zkW F d Mz, (ze Mz 4 1).toNat, zkG d Mz)
section ZKX
variable {d F n : Nat} {b : Nat → Int} {K : Nat → Nat → Int} {nm : List (Int × (Nat → Int))} {Mz Nz Pz Rz : zMem} {FA : List (Nat × Nat)} {CA : List Nat} {FR : List (Nat × Nat)} {CR : List Nat}
theorem zkS_q (hf : zFc d FA CA FR CR Mz Nz) (hd : (33 < 38 ∧ 33 ∉ CR ∧ (33, 2) ∉ FR) ∧ 35 < 38 ∧ 35 ∉ CR ∧ ∀ x ∈ FR, x.1 ≠ 35) : zkS d Nz = zkS d Mz := zkS_f (hf.e hd.1) (fun i _ => hf.r hd.2 i)
theorem zkG_q (hf : zFc d FA CA FR CR Mz Nz) (hd : 33 < 38 ∧ 33 ∉ CR ∧ (33, 6) ∉ FR) : zkG d Nz = zkG d Mz := zkG_f (hf.e hd)
theorem zkW_q (hf : zFc d FA CA FR CR Mz Nz) (hd : (33 < 38 ∧ 33 ∉ CR ∧ (33, 6) ∉ FR) ∧ (33 < 38 ∧ 33 ∉ CR ∧ (33, 3) ∉ FR) ∧ 25 < 38 ∧ 25 ∉ CR ∧ ∀ x ∈ FR, x.1 ≠ 25) : zkW F d Nz = zkW F d Mz := zkW_f (hf.e hd.1) (zkV_f (hf.e hd.2.1) (fun t _ _ => zvc_f hf hd.2.2 t))
theorem zfs_0 {p un : Nat} {sg : List Nat} {vs : List (Nat → Int)} {g : Bool} : zfs b n F K nm (0, p, sg, vs, un, g) = zif (zisg b n p 45 ∨ zisg b n p 40) (zif (zuo sg un) (0, znx b n p, (if b p = 40 then 0 else 1) :: sg, vs, un + 1, g) zFt)
    (zif (zkd b n p = 2) (zif (zuo sg un) (1, znx b n p, sg, zpu g (zone ((F : Int) - 1) (znu b n p)) vs, un + 1, g) zFt)
    (zif (zkd b n p = 1 ∧ zkey b n p = zkw 3) (zif (zuo sg un ∧ zkd b n (znx b n p) = 2 ∧ znu b n (znx b n p) < F) (1, znx b n (znx b n p), sg, zpu g (zone (znu b n (znx b n p)) 1) vs, un + 1, g) zFt)
    (zif (zuo sg un ∧ zisn b n p) (match zfd nm (zkey b n p) with | none => zFt | some v => (1, znx b n p, sg, zpu g v vs, un + 1, g)) zFt))) := rfl
theorem zfs_1 {p un : Nat} {sg : List Nat} {vs : List (Nat → Int)} {g : Bool} : zfs b n F K nm (1, p, sg, vs, un, g) = zif (zisg b n p 94) (zif (zkd b n (znx b n p) = 2 ∧ znu b n (znx b n p) ≤ 9) (2, znx b n (znx b n p), (zng sg (zpo F K (znu b n (znx b n p)).toNat vs g).1).1, (zng sg (zpo F K (znu b n (znx b n p)).toNat vs g).1).2, un, (zpo F K (znu b n (znx b n p)).toNat vs g).2) zFt)
    (2, p, (zng sg vs).1, (zng sg vs).2, un, g) := rfl
theorem zfs_2 {p un : Nat} {sg : List Nat} {vs : List (Nat → Int)} {g : Bool} : zfs b n F K nm (2, p, sg, vs, un, g) = zif (zisg b n p 42) (0, znx b n p, 4 :: (zrk F K 4 sg.length (sg, vs, g)).1, (zrk F K 4 sg.length (sg, vs, g)).2.1, un, (zrk F K 4 sg.length (sg, vs, g)).2.2)
    (zif (zisg b n p 43 ∨ zisg b n p 45) (0, znx b n p, (if b p = 43 then 2 else 3) :: (zrk F K 2 sg.length (sg, vs, g)).1, (zrk F K 2 sg.length (sg, vs, g)).2.1, un, (zrk F K 2 sg.length (sg, vs, g)).2.2)
    (zif (zisg b n p 41 ∧ 0 ∈ sg) (1, znx b n p, (zrk F K 2 sg.length (sg, vs, g)).1.tail, (zrk F K 2 sg.length (sg, vs, g)).2.1, un, (zrk F K 2 sg.length (sg, vs, g)).2.2)
    (zif (0 ∈ sg) zFt (3, p, (zrk F K 2 sg.length (sg, vs, g)).1, (zrk F K 2 sg.length (sg, vs, g)).2.1, un, (zrk F K 2 sg.length (sg, vs, g)).2.2)))) := rfl
theorem zs0_o {c : Int} (h : zisg b n (ze Mz 1 2).toNat 45 ∨ zisg b n (ze Mz 1 2).toNat 40) (hz : zuo (zkS d Mz) (ze Mz 4 1).toNat) (hc : (c = 1 ∧ b (ze Mz 1 2).toNat = 40) ∨ (c = 0 ∧ b (ze Mz 1 2).toNat ≠ 40)) (hS : zkS d Nz = (if c = 0 then 1 else 0) :: zkS d Mz) (hW : zkW F d Nz = zkW F d Mz) (hG : zkG d Nz = zkG d Mz) (hu : ze Nz 4 1 = ze Mz 4 1 + 1) (u0 : 0 ≤ ze Mz 4 1) (hp : (ze Nz 1 2).toNat = znx b n (ze Mz 1 2).toNat) : zfs b n F K nm (zKst 0 F d Mz) = zKst 0 F d Nz := by
  unfold zKst
  rw [zfs_0, zif_t h, zif_t hz, hS, hW, hG, hp, show (ze Nz 4 1).toNat = (ze Mz 4 1).toNat + 1 by omega]
  rcases hc with ⟨rfl, e⟩ | ⟨rfl, e⟩
  · rw [if_pos e]; rfl
  · rw [if_neg e]; rfl
theorem zs0_of (h : zisg b n (ze Mz 1 2).toNat 45 ∨ zisg b n (ze Mz 1 2).toNat 40) (hz : ¬ zuo (zkS d Mz) (ze Mz 4 1).toNat) : zfs b n F K nm (zKst 0 F d Mz) = zFt := by
  unfold zKst
  rw [zfs_0, zif_t h, zif_f hz]
theorem zs0_n (h : ¬ (zisg b n (ze Mz 1 2).toNat 45 ∨ zisg b n (ze Mz 1 2).toNat 40)) (h2 : zkd b n (ze Mz 1 2).toNat = 2) (hz : zuo (zkS d Mz) (ze Mz 4 1).toNat) (hS : zkS d Nz = zkS d Mz) (hW : zkW F d Nz = zpu (zkG d Mz) (zone ((F : Int) - 1) (znu b n (ze Mz 1 2).toNat)) (zkW F d Mz)) (hG : zkG d Nz = zkG d Mz) (hu : ze Nz 4 1 = ze Mz 4 1 + 1) (u0 : 0 ≤ ze Mz 4 1) (hp : (ze Nz 1 2).toNat = znx b n (ze Mz 1 2).toNat) : zfs b n F K nm (zKst 0 F d Mz) = zKst 1 F d Nz := by
  unfold zKst
  rw [zfs_0, zif_f h, zif_t h2, zif_t hz, hS, hW, hG, hp, show (ze Nz 4 1).toNat = (ze Mz 4 1).toNat + 1 by omega]
theorem zs0_nf (h : ¬ (zisg b n (ze Mz 1 2).toNat 45 ∨ zisg b n (ze Mz 1 2).toNat 40)) (h2 : zkd b n (ze Mz 1 2).toNat = 2) (hz : ¬ zuo (zkS d Mz) (ze Mz 4 1).toNat) : zfs b n F K nm (zKst 0 F d Mz) = zFt := by
  unfold zKst
  rw [zfs_0, zif_f h, zif_t h2, zif_f hz]
theorem zs0_s (h : ¬ (zisg b n (ze Mz 1 2).toNat 45 ∨ zisg b n (ze Mz 1 2).toNat 40)) (h2 : zkd b n (ze Mz 1 2).toNat ≠ 2) (h3 : zkd b n (ze Mz 1 2).toNat = 1 ∧ zkey b n (ze Mz 1 2).toNat = zkw 3) (hz : zuo (zkS d Mz) (ze Mz 4 1).toNat) (h4 : zkd b n (znx b n (ze Mz 1 2).toNat) = 2 ∧ znu b n (znx b n (ze Mz 1 2).toNat) < F) (hS : zkS d Nz = zkS d Mz) (hW : zkW F d Nz = zpu (zkG d Mz) (zone (znu b n (znx b n (ze Mz 1 2).toNat)) 1) (zkW F d Mz)) (hG : zkG d Nz = zkG d Mz) (hu : ze Nz 4 1 = ze Mz 4 1 + 1) (u0 : 0 ≤ ze Mz 4 1) (hp : (ze Nz 1 2).toNat = znx b n (znx b n (ze Mz 1 2).toNat)) : zfs b n F K nm (zKst 0 F d Mz) = zKst 1 F d Nz := by
  unfold zKst
  rw [zfs_0, zif_f h, zif_f h2, zif_t h3, zif_t ⟨hz, h4.1, h4.2⟩, hS, hW, hG, hp, show (ze Nz 4 1).toNat = (ze Mz 4 1).toNat + 1 by omega]
theorem zs0_sf (h : ¬ (zisg b n (ze Mz 1 2).toNat 45 ∨ zisg b n (ze Mz 1 2).toNat 40)) (h2 : zkd b n (ze Mz 1 2).toNat ≠ 2) (h3 : zkd b n (ze Mz 1 2).toNat = 1 ∧ zkey b n (ze Mz 1 2).toNat = zkw 3) (hz : ¬ (zuo (zkS d Mz) (ze Mz 4 1).toNat ∧ zkd b n (znx b n (ze Mz 1 2).toNat) = 2 ∧ znu b n (znx b n (ze Mz 1 2).toNat) < F)) : zfs b n F K nm (zKst 0 F d Mz) = zFt := by
  unfold zKst
  rw [zfs_0, zif_f h, zif_f h2, zif_t h3, zif_f hz]
theorem zs0_w (h : ¬ (zisg b n (ze Mz 1 2).toNat 45 ∨ zisg b n (ze Mz 1 2).toNat 40)) (h2 : zkd b n (ze Mz 1 2).toNat ≠ 2) (h3 : ¬ (zkd b n (ze Mz 1 2).toNat = 1 ∧ zkey b n (ze Mz 1 2).toNat = zkw 3)) (hz : zuo (zkS d Mz) (ze Mz 4 1).toNat) (h4 : zisn b n (ze Mz 1 2).toNat) {v : Nat → Int} (h5 : zfd nm (zkey b n (ze Mz 1 2).toNat) = some v) (hS : zkS d Nz = zkS d Mz) (hW : zkW F d Nz = zpu (zkG d Mz) v (zkW F d Mz)) (hG : zkG d Nz = zkG d Mz) (hu : ze Nz 4 1 = ze Mz 4 1 + 1) (u0 : 0 ≤ ze Mz 4 1) (hp : (ze Nz 1 2).toNat = znx b n (ze Mz 1 2).toNat) : zfs b n F K nm (zKst 0 F d Mz) = zKst 1 F d Nz := by
  unfold zKst
  rw [zfs_0, zif_f h, zif_f h2, zif_f h3, zif_t ⟨hz, h4⟩, h5, hS, hW, hG, hp, show (ze Nz 4 1).toNat = (ze Mz 4 1).toNat + 1 by omega]
theorem zs0_wf (h : ¬ (zisg b n (ze Mz 1 2).toNat 45 ∨ zisg b n (ze Mz 1 2).toNat 40)) (h2 : zkd b n (ze Mz 1 2).toNat ≠ 2) (h3 : ¬ (zkd b n (ze Mz 1 2).toNat = 1 ∧ zkey b n (ze Mz 1 2).toNat = zkw 3)) (hz : ¬ (zuo (zkS d Mz) (ze Mz 4 1).toNat ∧ zisn b n (ze Mz 1 2).toNat)) : zfs b n F K nm (zKst 0 F d Mz) = zFt := by
  unfold zKst
  rw [zfs_0, zif_f h, zif_f h2, zif_f h3, zif_f hz]
theorem zs0_wn (h : ¬ (zisg b n (ze Mz 1 2).toNat 45 ∨ zisg b n (ze Mz 1 2).toNat 40)) (h2 : zkd b n (ze Mz 1 2).toNat ≠ 2) (h3 : ¬ (zkd b n (ze Mz 1 2).toNat = 1 ∧ zkey b n (ze Mz 1 2).toNat = zkw 3)) (h5 : zfd nm (zkey b n (ze Mz 1 2).toNat) = none) : zfs b n F K nm (zKst 0 F d Mz) = zFt := by
  unfold zKst
  rw [zfs_0, zif_f h, zif_f h2, zif_f h3]
  by_cases hz : zuo (zkS d Mz) (ze Mz 4 1).toNat ∧ zisn b n (ze Mz 1 2).toNat
  · rw [zif_t hz, h5]
  · rw [zif_f hz]
theorem zs1_p {x : Int} (h : zisg b n (ze Mz 1 2).toNat 94) (h2 : zkd b n (znx b n (ze Mz 1 2).toNat) = 2 ∧ znu b n (znx b n (ze Mz 1 2).toNat) ≤ 9) (hx : x = znu b n (znx b n (ze Mz 1 2).toNat)) (hS : zkS d Nz = (zng (zkS d Mz) (zpo F K x.toNat (zkW F d Mz) (zkG d Mz)).1).1) (hW : zkW F d Nz = (zng (zkS d Mz) (zpo F K x.toNat (zkW F d Mz) (zkG d Mz)).1).2) (hG : zkG d Nz = (zpo F K x.toNat (zkW F d Mz) (zkG d Mz)).2) (hu : ze Nz 4 1 = ze Mz 4 1) (hp : (ze Nz 1 2).toNat = znx b n (znx b n (ze Mz 1 2).toNat)) : zfs b n F K nm (zKst 1 F d Mz) = zKst 2 F d Nz := by
  subst hx
  unfold zKst
  rw [zfs_1, zif_t h, zif_t h2, hS, hW, hG, hp, hu]
theorem zs1_f (h : zisg b n (ze Mz 1 2).toNat 94) (h2 : ¬ (zkd b n (znx b n (ze Mz 1 2).toNat) = 2 ∧ znu b n (znx b n (ze Mz 1 2).toNat) ≤ 9)) : zfs b n F K nm (zKst 1 F d Mz) = zFt := by
  unfold zKst
  rw [zfs_1, zif_t h, zif_f h2]
theorem zs1_n (h : ¬ zisg b n (ze Mz 1 2).toNat 94) (hS : zkS d Nz = (zng (zkS d Mz) (zkW F d Mz)).1) (hW : zkW F d Nz = (zng (zkS d Mz) (zkW F d Mz)).2) (hG : zkG d Nz = zkG d Mz) (hu : ze Nz 4 1 = ze Mz 4 1) (hp : ze Nz 1 2 = ze Mz 1 2) : zfs b n F K nm (zKst 1 F d Mz) = zKst 2 F d Nz := by
  unfold zKst
  rw [zfs_1, zif_f h, hS, hW, hG, hp, hu]
theorem zs2_s {c : Int} (hk : zkd b n (ze Mz 1 2).toNat = 3) (hc : b (ze Mz 1 2).toNat = c) (hcc : c = 42 ∨ c = 43 ∨ c = 45) (hS : zkS d Nz = zsgn c :: (zrk F K (if c = 42 then 4 else 2 : Nat) (zkS d Mz).length (zkS d Mz, zkW F d Mz, zkG d Mz)).1) (hW : zkW F d Nz = (zrk F K (if c = 42 then 4 else 2 : Nat) (zkS d Mz).length (zkS d Mz, zkW F d Mz, zkG d Mz)).2.1) (hG : zkG d Nz = (zrk F K (if c = 42 then 4 else 2 : Nat) (zkS d Mz).length (zkS d Mz, zkW F d Mz, zkG d Mz)).2.2) (hu : ze Nz 4 1 = ze Mz 4 1) (hp : (ze Nz 1 2).toNat = znx b n (ze Mz 1 2).toNat) : zfs b n F K nm (zKst 2 F d Mz) = zKst 0 F d Nz := by
  unfold zKst
  rw [zfs_2, hS, hW, hG, hp, hu]
  rcases hcc with rfl | rfl | rfl
  · rw [zif_t ⟨hk, hc⟩]
    rfl
  · rw [zif_f (fun q => by have := q.2; omega), zif_t (Or.inl ⟨hk, hc⟩), if_pos hc]
    rfl
  · rw [zif_f (fun q => by have := q.2; omega), zif_t (Or.inr ⟨hk, hc⟩), if_neg (by omega)]
    rfl
theorem zs2_c {c : Nat × Nat} (h : zisg b n (ze Mz 1 2).toNat 41) (h0 : 0 ∈ zkS d Mz) (hR : (zkS d Rz, zkW F d Rz, zkG d Rz) = zrk F K 2 (zkS d Mz).length (zkS d Mz, zkW F d Mz, zkG d Mz)) (hS : zkS d Nz = (zkS d Rz).tail) (hW : zkW F d Nz = zkW F d Rz) (hG : zkG d Nz = zkG d Rz) (hu : ze Nz 4 1 = ze Mz 4 1) (hp : (ze Nz 1 2).toNat = znx b n (ze Mz 1 2).toNat) : zfs b n F K nm (zKst 2 F d Mz) = zKst 1 F d Nz := by
  unfold zKst
  rw [zfs_2, zif_f (fun q => by have := q.2; have := h.2; omega), zif_f (fun q => by have := h.2; rcases q with q | q <;> (have := q.2; omega)), zif_t ⟨h, h0⟩, hS, hW, hG, hp, hu, ← hR]
theorem zs2_f (h4 : ¬ (zisg b n (ze Mz 1 2).toNat 42 ∨ zisg b n (ze Mz 1 2).toNat 43 ∨ zisg b n (ze Mz 1 2).toNat 45)) (h : ¬ (zisg b n (ze Mz 1 2).toNat 41 ∧ 0 ∈ zkS d Mz)) (h0 : 0 ∈ zkS d Mz) : zfs b n F K nm (zKst 2 F d Mz) = zFt := by
  unfold zKst
  rw [zfs_2, zif_f (fun q => h4 (Or.inl q)), zif_f (fun q => h4 (Or.inr q)), zif_f h, zif_t h0]
theorem zs2_e (h4 : ¬ (zisg b n (ze Mz 1 2).toNat 42 ∨ zisg b n (ze Mz 1 2).toNat 43 ∨ zisg b n (ze Mz 1 2).toNat 45)) (h0 : ¬ 0 ∈ zkS d Mz) (hR : (zkS d Nz, zkW F d Nz, zkG d Nz) = zrk F K 2 (zkS d Mz).length (zkS d Mz, zkW F d Mz, zkG d Mz)) (hu : ze Nz 4 1 = ze Mz 4 1) (hp : ze Nz 1 2 = ze Mz 1 2) : zfs b n F K nm (zKst 2 F d Mz) = zKst 3 F d Nz := by
  unfold zKst
  rw [zfs_2, zif_f (fun q => h4 (Or.inl q)), zif_f (fun q => h4 (Or.inr q)), zif_f (fun q => h0 q.2), zif_f h0, hu, hp, ← hR]
theorem zCI.m {e : Int} (h : zCI F K d e Mz) : 0 < ze Mz (d + 33) 5 ↔ 0 ∈ zkS d Mz := by
  have h5 := h.2.2.2.1
  rw [zop0_m, h5]
  omega
theorem zCI.h {e : Int} (h : zCI F K d e Mz) (h0 : 0 < ze Mz (d + 33) 5) (h1 : (zkS d Mz).head? ≠ some 1) (h2 : ∀ y, (zkS d Mz).head? = some y → y < 2) : (zkS d Mz).head? = some 0 := by
  have hm := h.m.mp h0
  cases hs : zkS d Mz with
  | nil => rw [hs] at hm; exact absurd hm List.not_mem_nil
  | cons y r =>
    rw [hs] at h1 h2
    have := h2 y rfl
    have h3 : y ≠ 1 := fun g => h1 (by rw [g]; rfl)
    rw [show y = 0 by omega]
    rfl
theorem zCI.z {e : Int} (h : zCI F K d e Mz) (h0 : ze Mz (d + 33) 5 ≤ 0) (h1 : (zkS d Mz).head? ≠ some 1) (h2 : ∀ y, (zkS d Mz).head? = some y → y < 2) : zkS d Mz = [] := by
  cases hs : zkS d Mz with
  | nil => rfl
  | cons y r =>
    have hm : ¬ 0 ∈ zkS d Mz := fun g => by
      have := h.m.mpr g
      omega
    rw [hs] at h1 h2 hm
    have := h2 y rfl
    have h3 : y ≠ 1 := fun g => h1 (by rw [g]; rfl)
    exact absurd (show 0 ∈ y :: r by rw [show y = 0 by omega]; exact List.mem_cons_self) hm
theorem zop0_t {l : List Nat} (h : l.head? = some 0) : zop0 l = zop0 l.tail + 1 := by
  cases l with
  | nil => cases h
  | cons x r =>
    injection h with h
    rw [zop0_c, if_pos h]
    rfl
end ZKX
