def zrg {α : Type} (stp : α → α) : Nat → α → α
  | 0, s => s
  | n + 1, s => zrg stp n (stp s)
def zRg {α : Type} (stp : α → α) (s t : α) : Prop := ∃ n, zrg stp n s = t
theorem zrg_add {α : Type} {stp : α → α} : ∀ (n m : Nat) (s : α), zrg stp (n + m) s = zrg stp m (zrg stp n s)
  | 0, m, s => by rw [Nat.zero_add]; rfl
  | n + 1, m, s => by
    rw [show n + 1 + m = (n + m) + 1 by omega]
    exact zrg_add n m (stp s)
theorem zRg.rf {α : Type} {stp : α → α} {s : α} : zRg stp s s := ⟨0, rfl⟩
theorem zRg.tr {α : Type} {stp : α → α} {s t u : α} (h : zRg stp s t) (h2 : zRg stp t u) : zRg stp s u := by
  obtain ⟨n, rfl⟩ := h
  obtain ⟨m, rfl⟩ := h2
  exact ⟨n + m, zrg_add n m s⟩
theorem zRg.st {α : Type} {stp : α → α} {s t : α} (h : stp s = t) : zRg stp s t := ⟨1, h⟩
theorem zrg_fix {α : Type} {stp : α → α} {t : α} (h : stp t = t) : ∀ n, zrg stp n t = t
  | 0 => rfl
  | n + 1 => by
    show zrg stp n (stp t) = t
    rw [h]
    exact zrg_fix h n
theorem zRg.end {α : Type} {stp : α → α} {s t u : α} (h : zRg stp s t) (h2 : zRg stp s u) (ht : stp t = t) (hu : stp u = u) : t = u := by
  obtain ⟨n, rfl⟩ := h
  obtain ⟨m, rfl⟩ := h2
  rcases Nat.le_total n m with e | e
  · obtain ⟨k, rfl⟩ := Nat.exists_eq_add_of_le e
    rw [zrg_add, zrg_fix ht]
  · obtain ⟨k, rfl⟩ := Nat.exists_eq_add_of_le e
    rw [zrg_add, zrg_fix hu]
noncomputable def zfe (stp : zFst → zFst) (s : zFst) : zFst := @dite _ (∃ t, zRea stp s t ∧ stp t = t) (Classical.propDecidable _) (fun h => Classical.choose h) (fun _ => zFt)
theorem zfe_s {stp : zFst → zFst} {s t : zFst} (h : zRea stp s t) (ht : stp t = t) : zfe stp s = t := by
  have hx : ∃ t, zRea stp s t ∧ stp t = t := ⟨t, h, ht⟩
  unfold zfe
  rw [dif_pos hx]
  have hc := Classical.choose_spec hx
  exact zRea.end hc.1 h hc.2 ht
abbrev zLst : Type := Nat × Nat × List (Int × (Nat → Int))
def zLf : zLst := (2, 0, [])
noncomputable def zle (b : Nat → Int) (n : Nat) (w : Int) (nm : List (Int × (Nat → Int))) : zFst → zLst
  | (3, q, _, v :: _, _, false) => zif (zisg b n q 59) (0, znx b n q, nm ++ [(w, v)]) zLf
  | _ => zLf
noncomputable def zls (b : Nat → Int) (n F : Nat) (K : Nat → Nat → Int) : zLst → zLst
  | (0, p, nm) =>
    zif (zkd b n p = 1 ∧ zkey b n p = zkw 2)
      (zif (nm.length < 8 ∧ zisn b n (znx b n p) ∧ zfd nm (zkey b n (znx b n p)) = none ∧ zisg b n (znx b n (znx b n p)) 61)
        (zle b n (zkey b n (znx b n p)) nm (zfe (zfs b n F K nm) (0, znx b n (znx b n (znx b n p)), [], [], 0, false)))
        zLf)
      (zif (zkd b n p = 0) (1, p, nm) zLf)
  | s => s
section ZLS
variable {b : Nat → Int} {n F p : Nat} {K : Nat → Nat → Int} {nm : List (Int × (Nat → Int))}
theorem zls_0 : zls b n F K (0, p, nm) = zif (zkd b n p = 1 ∧ zkey b n p = zkw 2)
      (zif (nm.length < 8 ∧ zisn b n (znx b n p) ∧ zfd nm (zkey b n (znx b n p)) = none ∧ zisg b n (znx b n (znx b n p)) 61)
        (zle b n (zkey b n (znx b n p)) nm (zfe (zfs b n F K nm) (0, znx b n (znx b n (znx b n p)), [], [], 0, false)))
        zLf)
      (zif (zkd b n p = 0) (1, p, nm) zLf) := rfl
theorem zls_1 : zls b n F K (1, p, nm) = (1, p, nm) := rfl
theorem zls_2 : zls b n F K zLf = zLf := rfl
theorem zfs_F : zfs b n F K nm zFt = zFt := rfl
theorem zls_f (h : zkd b n p = 1 ∧ zkey b n p = zkw 2) (h2 : ¬ (nm.length < 8 ∧ zisn b n (znx b n p) ∧ zfd nm (zkey b n (znx b n p)) = none ∧ zisg b n (znx b n (znx b n p)) 61)) : zls b n F K (0, p, nm) = zLf := by
  rw [zls_0, zif_t h, zif_f h2]
theorem zls_e (h : ¬ (zkd b n p = 1 ∧ zkey b n p = zkw 2)) (h0 : zkd b n p = 0) : zls b n F K (0, p, nm) = (1, p, nm) := by
  rw [zls_0, zif_f h, zif_t h0]
theorem zls_ef (h : ¬ (zkd b n p = 1 ∧ zkey b n p = zkw 2)) (h0 : zkd b n p ≠ 0) : zls b n F K (0, p, nm) = zLf := by
  rw [zls_0, zif_f h, zif_f h0]
theorem zls_g (h : zkd b n p = 1 ∧ zkey b n p = zkw 2) (h2 : nm.length < 8 ∧ zisn b n (znx b n p) ∧ zfd nm (zkey b n (znx b n p)) = none ∧ zisg b n (znx b n (znx b n p)) 61) {t : zFst} (h3 : zRea (zfs b n F K nm) (0, znx b n (znx b n (znx b n p)), [], [], 0, false) t) (ht : zfs b n F K nm t = t) : zls b n F K (0, p, nm) = zle b n (zkey b n (znx b n p)) nm t := by
  rw [zls_0, zif_t h, zif_t h2, zfe_s h3 ht]
theorem zle_f {w : Int} : zle b n w nm zFt = zLf := rfl
theorem zle_b {w : Int} {q un : Nat} {sg : List Nat} {vs : List (Nat → Int)} : zle b n w nm (3, q, sg, vs, un, true) = zLf := by
  cases vs <;> rfl
theorem zle_n {w : Int} {q un : Nat} {sg : List Nat} {vs : List (Nat → Int)} {g : Bool} (h : ¬ zisg b n q 59) : zle b n w nm (3, q, sg, vs, un, g) = zLf := by
  cases g with
  | true => exact zle_b
  | false =>
    cases vs with
    | nil => rfl
    | cons v r =>
      show zif (zisg b n q 59) (0, znx b n q, nm ++ [(w, v)]) zLf = zLf
      rw [zif_f h]
theorem zle_t {w : Int} {q un : Nat} {sg : List Nat} {v : Nat → Int} {vs : List (Nat → Int)} (h : zisg b n q 59) : zle b n w nm (3, q, sg, v :: vs, un, false) = (0, znx b n q, nm ++ [(w, v)]) := by
  show zif (zisg b n q 59) (0, znx b n q, nm ++ [(w, v)]) zLf = _
  rw [zif_t h]
end ZLS
section ZLK
variable {d F n : Nat} {b : Nat → Int} {K : Nat → Nat → Int} {nm : List (Int × (Nat → Int))} {Mz Nz : zMem} {FA : List (Nat × Nat)} {CA : List Nat} {FR : List (Nat × Nat)} {CR : List Nat}
theorem zNm.len (h : zNm nm F K d Mz) : (nm.length : Int) = ze Mz (d + 0) 6 := by
  rw [← h.2.1]
  unfold zNl
  rw [zup_l]
  have := h.1
  omega
theorem zNm.u {w : Int} (h : zNm nm F K d Mz) (h6 : ze Nz (d + 0) 6 = ze Mz (d + 0) 6 + 1) (h8 : ze Mz (d + 0) 6 ≤ 7) (hw : ze Nz (d + 37) (ze Mz (d + 0) 6).toNat = w) (ho : ∀ k : Nat, (k : Int) < ze Mz (d + 0) 6 → ze Nz (d + 37) k = ze Mz (d + 37) k) (hv : zvc F d Nz (1 + ze Mz (d + 0) 6) = zvc F d Mz 21) (hvo : ∀ k : Nat, (k : Int) < ze Mz (d + 0) 6 → zvc F d Nz (1 + k) = zvc F d Mz (1 + k)) (hf : zfit F K (zvc F d Mz 21)) : zNm (nm ++ [(w, zvc F d Mz 21)]) F K d Nz := by
  obtain ⟨a1, a2, a3⟩ := h
  refine ⟨by omega, ?_, fun k hk => ?_⟩
  · rw [← a2]
    unfold zNl
    rw [h6, show (ze Mz (d + 0) 6 + 1).toNat = (ze Mz (d + 0) 6).toNat + 1 by omega, zup_s, Nat.zero_add]
    congr 1
    · exact zup_c _ _ (fun j _ hj => by
        unfold zNe
        rw [ho j (by omega), hvo j (by omega)])
    · unfold zNe
      rw [hw, show (1 : Int) + ((ze Mz (d + 0) 6).toNat : Int) = 1 + ze Mz (d + 0) 6 by omega, hv]
  · by_cases g : (k : Int) = ze Mz (d + 0) 6
    · rw [g, hv]
      exact hf
    · rw [hvo k (by omega)]
      exact a3 k (by omega)
theorem zKst_3 (hS : zkS d Mz = []) (hI : zCI F K d 1 Mz) : ze Mz (d + 33) 3 = 1 ∧ zfit F K (zvc F d Mz 21) ∧ ((ze Mz (d + 33) 6 = 0 ∧ zKst 3 F d Mz = (3, (ze Mz 1 2).toNat, [], [zvc F d Mz 21], (ze Mz 4 1).toNat, false)) ∨ (ze Mz (d + 33) 6 = 1 ∧ zKst 3 F d Mz = (3, (ze Mz 1 2).toNat, [], [], (ze Mz 4 1).toNat, true))) := by
  obtain ⟨a1, a2, a3, a4, a5, a6, a7, a8, a9⟩ := hI
  have h3 : ze Mz (d + 33) 3 = 1 := by
    rw [hS] at a5
    exact a5
  refine ⟨h3, a9 21 (by omega) (by omega), ?_⟩
  rcases a6 with h | h
  · have hG : zkG d Mz = false := by
      unfold zkG
      rw [h]
      rfl
    refine Or.inl ⟨h, ?_⟩
    unfold zKst zkW
    rw [hS, hG]
    unfold zkV
    rw [h3]
    rfl
  · have hG : zkG d Mz = true := by
      unfold zkG
      rw [h]
      rfl
    refine Or.inr ⟨h, ?_⟩
    unfold zKst zkW
    rw [hS, hG]
    rfl
end ZLK
