section ZRK
variable {F n : Nat} {K : Nat → Nat → Int} {b : Nat → Int} {nm : List (Int × (Nat → Int))} {M N P Mz Nz : zMem} {S C : List Nat}
theorem zFtR.fr (hf : zFr S C M N) (h : zFtR F K M) (hs : 38 ∉ S ∧ 39 ∉ S) (hc : 95 ∉ C) : zFtR F K N := by
  unfold zFtR
  rw [hf.e hs.1, hf.e hs.2]
  intro h0 t t0 t1
  rw [show zrw F N 95 (64 * t) = zrw F M 95 (64 * t) from zrw_c (fun k _ => hf.jg (by decide) hc _)]
  exact h h0 t t0 t1
theorem zAcc.m {lo : Int} {v : Nat → Int} {ok : Prop} (h : zAcc F lo v ok N P) (h39 : ze N 81 39 = ze M 81 39) (h95 : ∀ x : Nat, zg N 95 x = zg M 95 x) : zAcc F lo v ok M P := by
  obtain ⟨a1, a2, a3⟩ := h
  rw [h39] at a1 a3
  exact ⟨a1, fun x hx => (a2 x hx).trans (h95 x), a3⟩
theorem zRI.two (hI : zRI F K 1 M) (h1 : 1 ≤ ze M 81 41) (hx : 2 ≤ ze M 100 (ze M 81 41 - 1).toNat) : 2 ≤ ze M 81 38 ∧ ze M 81 38 ≤ 40 := by
  have hb := hI.bd
  have h4 := hI.2.2.2.1
  have hh := zrS_h h1
  cases hs : zrS M with
  | nil => rw [hs] at hh; cases hh
  | cons y r =>
    rw [hs] at hh h4 hb
    injection hh with hh
    have h5 : zbn (y :: r) = zbn r + 1 := by rw [zbn_c, if_pos (by omega)]
    omega
theorem zRI.one (hI : zRI F K 1 M) : 1 ≤ ze M 81 38 ∧ ze M 81 38 ≤ 40 := by
  have hb := hI.bd
  have h4 := hI.2.2.2.1
  omega
theorem zRI.ft {e : Int} (hI : zRI F K e M) : zFtR F K M := hI.2.2.2.2.2.2.2
theorem zop_2 {v w : Nat → Int} : (fun k => v k + 1 * w k) = zop F K 2 v w := funext fun k => by
  show v k + 1 * w k = v k + w k
  rw [Int.one_mul]
theorem zop_3 {v w : Nat → Int} : (fun k => v k + -1 * w k) = zop F K 3 v w := funext fun k => by
  show v k + -1 * w k = v k - w k
  rw [Int.neg_one_mul]
  omega
theorem zRI_wkB (hF : F ≤ 27) (hI : zRI F K 1 Mz) {x : Int} (h1 : 1 ≤ ze Mz 81 41) (hx : x = ze Mz 100 (ze Mz 81 41 - 1).toNat) (hx4 : x = 4) (h41 : ze Nz 81 41 = ze Mz 81 41 - 1) (hc : ∀ i : Nat, ze Nz 100 i = ze Mz 100 i) (h42 : ze Nz 81 42 = ze Mz 81 42) (h38 : ze Nz 81 38 = ze Mz 81 38 - 1) (ha : zAcc F (64 * (ze Mz 81 38 - 2)) (zprd F K (zrw F Mz 95 (64 * (ze Mz 81 38 - 2))) (zrw F Mz 95 (64 * (ze Mz 81 38 - 1)))) (zmok F K (zrw F Mz 95 (64 * (ze Mz 81 38 - 2))) (zrw F Mz 95 (64 * (ze Mz 81 38 - 1))) ∧ zfit F K (zprd F K (zrw F Mz 95 (64 * (ze Mz 81 38 - 2))) (zrw F Mz 95 (64 * (ze Mz 81 38 - 1))))) Mz Nz) : zRI F K 1 Nz ∧ zrS Mz = x.toNat :: zrS Nz ∧ (zrS Nz, zrW F Nz, zrG Nz) = zwk1 F K (zrS Mz, zrW F Mz, zrG Mz) ∧ (zrS Nz).head? ≠ some 1 ∧ 2 ≤ ze Mz 81 38 := by
  subst hx4
  exact zRI_wk hF hI h1 hx (by omega) h41 hc h42 h38 rfl ⟨fun h => ⟨fun _ => h.1, h.2⟩, fun h => ⟨h.1 rfl, h.2⟩⟩ ha
theorem zRI_wkA (hF : F ≤ 27) (hI : zRI F K 1 Mz) {x s : Int} (h1 : 1 ≤ ze Mz 81 41) (hx : x = ze Mz 100 (ze Mz 81 41 - 1).toNat) (hs : (x = 2 ∧ s = 1) ∨ (x = 3 ∧ s = -1)) (h41 : ze Nz 81 41 = ze Mz 81 41 - 1) (hc : ∀ i : Nat, ze Nz 100 i = ze Mz 100 i) (h42 : ze Nz 81 42 = ze Mz 81 42) (h38 : ze Nz 81 38 = ze Mz 81 38 - 1) (ha : zAcc F (64 * (ze Mz 81 38 - 2)) (fun k => zrw F Mz 95 (64 * (ze Mz 81 38 - 2)) k + s * zrw F Mz 95 (64 * (ze Mz 81 38 - 1)) k) (zfit F K (fun k => zrw F Mz 95 (64 * (ze Mz 81 38 - 2)) k + s * zrw F Mz 95 (64 * (ze Mz 81 38 - 1)) k)) Mz Nz) : zRI F K 1 Nz ∧ zrS Mz = x.toNat :: zrS Nz ∧ (zrS Nz, zrW F Nz, zrG Nz) = zwk1 F K (zrS Mz, zrW F Mz, zrG Mz) ∧ (zrS Nz).head? ≠ some 1 ∧ 2 ≤ ze Mz 81 38 := by
  rcases hs with ⟨rfl, rfl⟩ | ⟨rfl, rfl⟩
  · exact zRI_wk hF hI h1 hx (by omega) h41 hc h42 h38 zop_2 ⟨fun h => ⟨fun q => absurd q (by decide), h⟩, fun h => h.2⟩ ha
  · exact zRI_wk hF hI h1 hx (by omega) h41 hc h42 h38 zop_3 ⟨fun h => ⟨fun q => absurd q (by decide), h⟩, fun h => h.2⟩ ha
def zWkI (F : Nat) (K : Nat → Nat → Int) (x : Nat) (M N : zMem) : Prop := zrk F K x (zrS M).length (zrS M, zrW F M, zrG M) = zrk F K x (zrS N).length (zrS N, zrW F N, zrG N)
theorem zWkI_s {x y : Nat} (h : zWkI F K x M N) (hS : zrS N = y :: zrS P) (hw : (zrS P, zrW F P, zrG P) = zwk1 F K (zrS N, zrW F N, zrG N)) (hy : x ≤ y) : zWkI F K x M P := by
  unfold zWkI at h ⊢
  rw [h, hw, hS, List.length_cons, zrk_s hy]
theorem zWkI_e {x : Nat} (h : zWkI F K x M N) (he : ∀ y, (zrS N).head? = some y → y < x) : (zrS N, zrW F N, zrG N) = zrk F K x (zrS M).length (zrS M, zrW F M, zrG M) := (h.trans (zrk_e (t := (zrS N, zrW F N, zrG N)) he _)).symm
theorem zwk1_t : ∀ t : zTr, (zwk1 F K t).1 = t.1.tail
  | ([], _, _) => rfl
  | (_ :: _, [], _) => rfl
  | (_ :: _, [_], _) => rfl
  | (_ :: _, _ :: _ :: _, true) => rfl
  | (x :: sg, w :: v :: vs, false) => by
    show (zif ((x = 4 → zmok F K v w) ∧ zfit F K (zop F K x v w)) (sg, zop F K x v w :: vs, false) (sg, [], true) : zTr).1 = sg
    by_cases h : (x = 4 → zmok F K v w) ∧ zfit F K (zop F K x v w)
    · rw [zif_t h]
    · rw [zif_f h]
theorem zrk_m {x : Nat} (hx : 1 ≤ x) : ∀ (k : Nat) (t : zTr), 0 ∈ (zrk F K x k t).1 ↔ 0 ∈ t.1
  | 0, _ => Iff.rfl
  | k + 1, ([], vs, g) => Iff.rfl
  | k + 1, (y :: r, vs, g) => by
    show 0 ∈ (if x ≤ y then zrk F K x k (zwk1 F K (y :: r, vs, g)) else (y :: r, vs, g)).1 ↔ _
    by_cases h : x ≤ y
    · rw [if_pos h, zrk_m hx k, zwk1_t]
      show 0 ∈ r ↔ 0 ∈ y :: r
      rw [List.mem_cons]
      exact ⟨Or.inr, fun q => q.elim (fun e => absurd e (by omega)) id⟩
    · rw [if_neg h]
theorem zhd_0 {l : List Nat} (hm : 0 ∈ l) (h1 : l.head? ≠ some 1) (h2 : ∀ y, l.head? = some y → y < 2) : l.head? = some 0 := by
  cases l with
  | nil => exact absurd hm List.not_mem_nil
  | cons y r =>
    have h3 := h2 y rfl
    have h4 : y ≠ 1 := fun e => h1 (by rw [e]; rfl)
    rw [show y = 0 by omega]
    rfl
theorem zhd_n {l : List Nat} (hm : ¬ 0 ∈ l) (h1 : l.head? ≠ some 1) (h2 : ∀ y, l.head? = some y → y < 2) : l = [] := by
  cases l with
  | nil => rfl
  | cons y r =>
    have h3 := h2 y rfl
    have h4 : y ≠ 1 := fun e => h1 (by rw [e]; rfl)
    exact absurd (by rw [show y = 0 by omega]; exact List.mem_cons_self) hm
theorem zRI_pz (hF : F ≤ 27) (hI : zRI F K 0 Mz) {u : Nat → Int} (hu : zfit F K u) (h41 : ze Nz 81 41 = ze Mz 81 41) (hc : ∀ i : Nat, ze Nz 100 i = ze Mz 100 i) (h42 : ze Nz 81 42 = ze Mz 81 42) (h38 : ze Nz 81 38 = ze Mz 81 38 + 1) (ha : zAcc F (64 * ze Mz 81 38) u (zfit F K u) Mz Nz) : zRI F K 1 Nz ∧ zrS Nz = zrS Mz ∧ zrW F Nz = zpu (zrG Mz) u (zrW F Mz) ∧ zrG Nz = zrG Mz := by
  obtain ⟨q1, q2, q3⟩ := ha
  have h5 := hI.2.2.2.2.1
  have h39 : ze Nz 81 39 = ze Mz 81 39 := by
    by_cases g : ze Mz 81 39 = 0
    · rcases q3 g with ⟨a, c, e⟩ | ⟨a, c⟩
      · omega
      · exact absurd hu a
    · omega
  refine zRI_pv hF hI h41 hc h42 h38 h39 q2 (fun g => ?_)
  rcases q3 g with ⟨a, c, e⟩ | ⟨a, c⟩
  · exact ⟨e, hu⟩
  · exact absurd hu a
theorem zr0_x {x : Int} (h : zisg b n (ze Mz 81 4).toNat 45 ∨ zisg b n (ze Mz 81 4).toNat 40) (hz : zuo (zrS Mz) (ze Mz 81 43).toNat) (hx : (x = 0 ∧ b (ze Mz 81 4).toNat = 40) ∨ (x = 1 ∧ b (ze Mz 81 4).toNat ≠ 40)) (hS : zrS Nz = x.toNat :: zrS Mz) (hW : zrW F Nz = zrW F Mz) (hG : zrG Nz = zrG Mz) (hu : ze Nz 81 43 = ze Mz 81 43 + 1) (u0 : 0 ≤ ze Mz 81 43) (hp : (ze Nz 81 4).toNat = znx b n (ze Mz 81 4).toNat) : zfs b n F K nm (zRst 0 F Mz) = zRst 0 F Nz := by
  rcases hx with ⟨rfl, e⟩ | ⟨rfl, e⟩
  · exact zr0_o (c := 1) h hz (Or.inl ⟨rfl, e⟩) hS hW hG hu u0 hp
  · exact zr0_o (c := 0) h hz (Or.inr ⟨rfl, e⟩) hS hW hG hu u0 hp
theorem zr2_x {x : Int} (hk : zkd b n (ze Mz 81 4).toNat = 3) (hw : (b (ze Mz 81 4).toNat = 42 ∧ x = 4) ∨ (b (ze Mz 81 4).toNat = 43 ∧ x = 2) ∨ (b (ze Mz 81 4).toNat = 45 ∧ x = 3)) (hS : zrS Nz = x.toNat :: (zrk F K (if x = 4 then 4 else 2 : Nat) (zrS Mz).length (zrS Mz, zrW F Mz, zrG Mz)).1) (hW : zrW F Nz = (zrk F K (if x = 4 then 4 else 2 : Nat) (zrS Mz).length (zrS Mz, zrW F Mz, zrG Mz)).2.1) (hG : zrG Nz = (zrk F K (if x = 4 then 4 else 2 : Nat) (zrS Mz).length (zrS Mz, zrW F Mz, zrG Mz)).2.2) (hu : ze Nz 81 43 = ze Mz 81 43) (hp : (ze Nz 81 4).toNat = znx b n (ze Mz 81 4).toNat) : zfs b n F K nm (zRst 2 F Mz) = zRst 0 F Nz := by
  rcases hw with ⟨hc, rfl⟩ | ⟨hc, rfl⟩ | ⟨hc, rfl⟩
  · exact zr2_s (w := 4) hk (Or.inl ⟨hc, rfl⟩) hS hW hG hu hp
  · exact zr2_s (w := 2) hk (Or.inr (Or.inl ⟨hc, rfl⟩)) hS hW hG hu hp
  · exact zr2_s (w := 3) hk (Or.inr (Or.inr ⟨hc, rfl⟩)) hS hW hG hu hp
def zClI (b : Nat → Int) (n F : Nat) (K : Nat → Nat → Int) (nm : List (Int × (Nat → Int))) (M N : zMem) : Prop := zfs b n F K nm (zRst 1 F M) = (2, (ze N 81 4).toNat, (zng (zrS N) (zrW F N)).1, (zng (zrS N) (zrW F N)).2, (ze N 81 43).toNat, zrG N)
theorem zClI_a (h : ¬ zisg b n (ze M 81 4).toNat 94) : zClI b n F K nm M M := by
  unfold zClI zRst
  rw [zfs_1, zif_f h]
theorem zClI_c {x : Int} (h : zisg b n (ze M 81 4).toNat 94) (h2 : zkd b n (znx b n (ze M 81 4).toNat) = 2 ∧ znu b n (znx b n (ze M 81 4).toNat) ≤ 9) (hx : x = znu b n (znx b n (ze M 81 4).toNat)) (hS : zrS N = zrS M) (hW : zrW F N = (zpo F K x.toNat (zrW F M) (zrG M)).1) (hG : zrG N = (zpo F K x.toNat (zrW F M) (zrG M)).2) (hu : ze N 81 43 = ze M 81 43) (hp : (ze N 81 4).toNat = znx b n (znx b n (ze M 81 4).toNat)) : zClI b n F K nm M N := by
  subst hx
  unfold zClI zRst
  rw [zfs_1, zif_t h, zif_t h2, hS, hW, hG, hp, hu]
theorem zClI_s (h : zClI b n F K nm M N) (hz : zng (zrS N) (zrW F N) = zng (zrS P) (zrW F P)) (hG : zrG P = zrG N) (hu : ze P 81 43 = ze N 81 43) (hp : ze P 81 4 = ze N 81 4) : zClI b n F K nm M P := by
  unfold zClI at h ⊢
  rw [h, hz, hG, hu, hp]
theorem zClI_e (h : zClI b n F K nm M N) (hh : (zrS N).head? ≠ some 1) : zfs b n F K nm (zRst 1 F M) = zRst 2 F N := by
  unfold zClI at h
  rw [h, zng_e hh]
  rfl
def zmF (n : Nat) (M : zMem) : Nat := if ze M 81 7 = 0 then (n - ze M 81 4).toNat + 1 else 0
theorem zmF_c (n : Nat) (M : zMem) : (ze M 81 7 = 0 ∧ zmF n M = (n - ze M 81 4).toNat + 1) ∨ (ze M 81 7 ≠ 0 ∧ zmF n M = 0) := by
  unfold zmF
  by_cases h : ze M 81 7 = 0
  · exact Or.inl ⟨h, if_pos h⟩
  · exact Or.inr ⟨h, if_neg h⟩
theorem zkd_n0 {s : Nat} (h : zkd b n s ≠ 0) : s < n := by
  by_cases g : s < n
  · exact g
  · exact absurd (zkd_0 (by omega)).1 h
theorem znx_g {s : Nat} (h : zkd b n s ≠ 0) : s < znx b n s := znx_gt (zkd_n0 h)
theorem znx_ge {s : Nat} : s ≤ znx b n s := Nat.le_trans zen_ge zru_ge
end ZRK
