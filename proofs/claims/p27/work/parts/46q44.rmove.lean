def zRow (M : zMem) (m p met : Int) : Prop := (0 ≤ met ∧ met < 64) ∧ ∀ q : Nat, (q : Int) < p → (0 ≤ ze M 83 (6 * m.toNat + q) ∧ ze M 83 (6 * m.toNat + q) < ze M 81 12) ∧ zbt met (ze M 83 (6 * m.toNat + q)) ∧ ∀ r : Nat, r < q → ze M 83 (6 * m.toNat + r) ≠ ze M 83 (6 * m.toNat + q)
theorem zRow.fr {S C : List Nat} {M N : zMem} {m p met : Int} (hf : zFr S C M N) (h : zRow M m p met) (hs : 12 ∉ S) (hc : 83 ∉ C) : zRow N m p met := by
  unfold zRow
  simp only [hf.e hs, hf.ie (by decide) hc]
  exact h
def zKp (M N : zMem) (n : Int) : Prop := ∀ j : Nat, (j : Int) < n → ze N 83 j = ze M 83 j
theorem zKp_0 {M N : zMem} {S C : List Nat} {n : Int} (hf : zFr S C M N) (hc : 83 ∉ C) : zKp M N n := fun j _ => hf.ie (by decide) hc j
theorem zKp.fr {S C : List Nat} {M N P : zMem} {n : Int} (hf : zFr S C N P) (h : zKp M N n) (hc : 83 ∉ C) : zKp M P n := fun j hj => by rw [hf.ie (by decide) hc]; exact h j hj
theorem zKp_s {M N P : zMem} {n i : Int} {v : Int32} (h : zKp M N n) (hi : n ≤ i) (i0 : 0 ≤ i) (hP : P = zsI N 83 i.toNat v) : zKp M P n := fun j hj => by
  rw [zs_oth hP (by omega)]
  exact h j hj
theorem zrc_c {M N : zMem} {q r m : Nat} {P : Int} (hP : P ≤ 6) (h : ∀ p : Nat, p < 6 → ze N r (6 * m + p) = ze M q (6 * m + p)) : zrc N r m P = zrc M q m P := by
  rw [zrc_m, zrc_m]
  refine gmkc_c (fun p hp => ?_)
  unfold zrd
  rw [h p hp]
theorem zPm_0 {M : zMem} (h : ze M 81 13 = 0) : zPm M := fun g hg => by
  obtain ⟨k, hk, -⟩ := zMvs_m.mp hg
  omega
theorem zFin_0 {M : zMem} (h : ze M 81 13 = 0) : zFin M := ⟨[gid], by decide, List.mem_singleton.mpr rfl, fun c _ g hg => by
  obtain ⟨k, hk, -⟩ := zMvs_m.mp hg
  omega⟩
def zMvF (M : zMem) : List Nat := (List.range (ze M 81 17).toNat).map (fun k => zrc M 84 k (ze M 81 16))
def zIF (M : zMem) : Prop := ((1 ≤ ze M 81 16 ∧ ze M 81 16 ≤ 6) ∧ 0 ≤ ze M 81 17 ∧ ze M 81 17 ≤ 4) ∧ zB 84 24 0 5 M ∧ (∀ g ∈ zMvF M, gpm g) ∧ ∃ C : List Nat, C.length ≤ 24 ∧ gid ∈ C ∧ ∀ c ∈ C, ∀ g ∈ zMvF M, gco c g ∈ C
theorem zMvF_f {S C : List Nat} {M N : zMem} (h : zFr S C M N) (hs : 16 ∉ S ∧ 17 ∉ S) (hc : 84 ∉ C) : zMvF N = zMvF M := by
  unfold zMvF
  rw [h.e hs.1, h.e hs.2]
  apply List.map_congr_left
  intro k _
  exact zrc_f (fun j => h.ie (by decide) hc j) k _
theorem zIF.fr {S C : List Nat} {M N : zMem} (h : zFr S C M N) (hp : zIF M) (hs : 16 ∉ S ∧ 17 ∉ S) (hc : 84 ∉ C) : zIF N := by
  unfold zIF
  rw [zMvF_f h hs hc, h.e hs.1, h.e hs.2]
  exact ⟨hp.1, zB.fr h hp.2.1 (by decide) hc, hp.2.2⟩
def zCp (q r : Nat) (M0 M : zMem) (n : Int) : Prop := ∀ j : Nat, (j : Int) < n → ze M r j = ze M0 q j
theorem zCp_0 {q r : Nat} {M0 M : zMem} : zCp q r M0 M 0 := fun j h => absurd h (by omega)
theorem zCp_s {q r : Nat} {M0 M N : zMem} {i v : Int} (i0 : 0 ≤ i) (h : zCp q r M0 M i) (hv : v = ze M0 q i.toNat) (hN : N = zsI M r i.toNat (Int32.ofInt v)) : zCp q r M0 N (i + 1) := by
  intro j hj
  by_cases e : (j : Int) = i
  · rw [show j = i.toNat by omega, ← hv]
    exact zs_get hN (by rw [hv]; exact z32r _)
  · rw [zs_oth hN (by omega)]
    exact h j (by omega)
theorem zIF_i {M0 N : zMem} {i : Int} (hi : 24 ≤ i) (hq : zCp 83 84 M0 N i) (hk : ∀ j, ze N 83 j = ze M0 83 j) (h16 : ze N 81 16 = ze N 81 12) (h17 : ze N 81 17 = ze N 81 13) (p0 : 1 ≤ ze N 81 12) (p1 : ze N 81 12 ≤ 6) (p2 : 0 ≤ ze N 81 13) (p3 : ze N 81 13 ≤ 4) (hP : zPm N) (hF : zFin N) (hB : zB 83 24 0 5 N) : zIF N := by
  have h : ∀ j : Nat, (j : Int) < i → ze N 84 j = ze N 83 j := fun j hj => by rw [hq j hj, hk]
  have e : zMvF N = zMvs N := by
    unfold zMvF zMvs
    rw [h16, h17]
    apply List.map_congr_left
    intro k hk
    rw [List.mem_range] at hk
    exact zrc_c p1 (fun p hp => h _ (by omega))
  unfold zIF
  rw [e, h16, h17]
  refine ⟨⟨⟨p0, p1⟩, p2, p3⟩, fun k hk => ?_, hP, hF⟩
  rw [h k (by omega)]
  exact hB k hk
theorem zIF_b {M0 N : zMem} {i : Int} (hi : 24 ≤ i) (hq : zCp 84 83 M0 N i) (hk : ∀ j, ze N 84 j = ze M0 84 j) (hI : zIF N) (h16 : ze N 81 12 = ze N 81 16) (h17 : ze N 81 13 = ze N 81 17) : zPm N ∧ zFin N ∧ zB 83 24 0 5 N := by
  have h : ∀ j : Nat, (j : Int) < i → ze N 83 j = ze N 84 j := fun j hj => by rw [hq j hj, hk]
  obtain ⟨h1, h2, h3, h4⟩ := hI
  have e : zMvs N = zMvF N := by
    unfold zMvF zMvs
    rw [h16, h17]
    apply List.map_congr_left
    intro k hk
    rw [List.mem_range] at hk
    exact zrc_c h1.1.2 (fun p hp => h _ (by omega))
  unfold zPm zFin
  rw [e]
  exact ⟨h3, h4, fun k hk => by rw [h k (by omega)]; exact h2 k hk⟩
