def zlst {α : Type} (f : Nat → α) : Nat → List α
  | 0 => []
  | k + 1 => f k :: zlst f k
theorem zlst_c {α : Type} {f g : Nat → α} : ∀ k : Nat, (∀ i, i < k → f i = g i) → zlst f k = zlst g k
  | 0, _ => rfl
  | k + 1, h => by
    show f k :: zlst f k = g k :: zlst g k
    rw [h k (by omega), zlst_c k (fun i hi => h i (by omega))]
theorem zlst_p {α : Type} {f : Nat → α} {c : Int} (h : 1 ≤ c) : zlst f c.toNat = f (c - 1).toNat :: zlst f (c - 1).toNat := by
  rw [show c.toNat = (c - 1).toNat + 1 by omega]
  rfl
theorem zlst_l {α : Type} (f : Nat → α) : ∀ k, (zlst f k).length = k
  | 0 => rfl
  | k + 1 => by
    show (zlst f k).length + 1 = k + 1
    rw [zlst_l f k]
theorem zlst_m {α : Type} {f : Nat → α} {x : α} : ∀ k, x ∈ zlst f k ↔ ∃ i, i < k ∧ f i = x
  | 0 => ⟨fun h => absurd h List.not_mem_nil, fun ⟨i, h, _⟩ => absurd h (by omega)⟩
  | k + 1 => by
    show x ∈ f k :: zlst f k ↔ _
    rw [List.mem_cons, zlst_m k]
    constructor
    · rintro (h | ⟨i, hi, h⟩)
      · exact ⟨k, by omega, h.symm⟩
      · exact ⟨i, by omega, h⟩
    · rintro ⟨i, hi, h⟩
      by_cases e : i = k
      · subst e
        exact Or.inl h.symm
      · exact Or.inr ⟨i, by omega, h⟩
def zwp (x y : Nat) : Prop := (x = 4 → y ≠ 1 ∧ y ≠ 4) ∧ ((x = 2 ∨ x = 3) → y = 0)
def zwf : List Nat → Prop
  | [] => True
  | x :: r => x ≤ 4 ∧ (∀ y, r.head? = some y → zwp x y) ∧ zwf r
theorem zdp_c (x : Nat) (r : List Nat) : zdp (x :: r) = zdp r + if x ≤ 1 then 1 else 0 := by
  unfold zdp
  rw [List.countP_cons]
  by_cases h : x ≤ 1 <;> simp [h]
theorem zop0_c (x : Nat) (r : List Nat) : zop0 (x :: r) = zop0 r + if x = 0 then 1 else 0 := by
  unfold zop0
  rw [List.countP_cons]
  by_cases h : x = 0 <;> simp [h]
theorem zbn_c (x : Nat) (r : List Nat) : zbn (x :: r) = zbn r + if 2 ≤ x then 1 else 0 := by
  unfold zbn
  rw [List.countP_cons]
  by_cases h : 2 ≤ x <;> simp [h]
theorem zbd_l : ∀ r : List Nat, zbn r + zdp r = r.length
  | [] => rfl
  | x :: r => by
    rw [zbn_c, zdp_c, List.length_cons, ← zbd_l r]
    split <;> split <;> omega
theorem zwf_l : ∀ r : List Nat, zwf r → r.length ≤ 3 * zdp r + (match r.head? with | none => 0 | some x => if x ≤ 1 then 0 else if x = 4 then 2 else 1)
  | [], _ => Nat.le_refl _
  | x :: r, h => by
    obtain ⟨h1, h2, h3⟩ := h
    have ih := zwf_l r h3
    rw [zdp_c, List.length_cons, List.head?_cons]
    have hb : r.length ≤ 3 * zdp r + 2 := by
      refine Nat.le_trans ih ?_
      cases r.head? with
      | none => simp
      | some y =>
        simp only
        split
        · omega
        · split <;> omega
    simp only
    by_cases g : x ≤ 1
    · rw [if_pos g, if_pos g]
      omega
    · rw [if_neg g, if_neg g]
      cases hr : r.head? with
      | none =>
        rw [hr] at ih
        simp only at ih
        split <;> omega
      | some y =>
        rw [hr] at ih
        simp only at ih
        have hw := h2 y hr
        unfold zwp at hw
        by_cases g4 : x = 4
        · rw [if_pos g4]
          have := hw.1 g4
          split at ih
          · omega
          · rw [if_neg this.2] at ih
            omega
        · rw [if_neg g4]
          have := hw.2 (by omega)
          rw [if_pos (by omega)] at ih
          omega
theorem zwf_b {r : List Nat} (h : zwf r) : r.length ≤ 3 * zdp r + 2 := by
  have h1 := zwf_l r h
  refine Nat.le_trans h1 ?_
  cases r.head? with
  | none => simp
  | some y =>
    simp only
    split
    · omega
    · split <;> omega
theorem zop0_le : ∀ r : List Nat, zop0 r ≤ zdp r
  | [] => Nat.le_refl _
  | x :: r => by
    have := zop0_le r
    rw [zop0_c, zdp_c]
    split <;> split <;> omega
theorem zop0_m (r : List Nat) : 0 ∈ r ↔ 0 < zop0 r := by
  unfold zop0
  rw [List.countP_pos_iff]
  constructor
  · intro h
    exact ⟨0, h, rfl⟩
  · rintro ⟨x, h1, h2⟩
    have e : x = 0 := by simpa using h2
    rw [← e]; exact h1
def zcd (c : Int) : Prop := c = 40 ∨ c = 126 ∨ c = 43 ∨ c = 45 ∨ c = 42
def zsgn (c : Int) : Nat := if c = 40 then 0 else if c = 126 then 1 else if c = 43 then 2 else if c = 45 then 3 else 4
def zkS (d : Nat) (Mz : zMem) : List Nat := zlst (fun i => zsgn (ze Mz (d + 35) i)) (ze Mz (d + 33) 2).toNat
def zkV (F d : Nat) (Mz : zMem) : List (Nat → Int) := zlst (fun i => zvc F d Mz (21 + i)) (ze Mz (d + 33) 3).toNat
def zkG (d : Nat) (Mz : zMem) : Bool := decide (ze Mz (d + 33) 6 ≠ 0)
def zkW (F d : Nat) (Mz : zMem) : List (Nat → Int) := if zkG d Mz = true then [] else zkV F d Mz
def zCI (F : Nat) (K : Nat → Nat → Int) (d : Nat) (e : Int) (Mz : zMem) : Prop := (0 ≤ ze Mz (d + 33) 2 ∧ ze Mz (d + 33) 2 ≤ 24) ∧ (∀ i : Nat, (i : Int) < ze Mz (d + 33) 2 → zcd (ze Mz (d + 35) i)) ∧ ze Mz (d + 33) 4 = (zdp (zkS d Mz) : Nat) ∧ ze Mz (d + 33) 5 = (zop0 (zkS d Mz) : Nat) ∧ ze Mz (d + 33) 3 = (zbn (zkS d Mz) : Nat) + e ∧ (ze Mz (d + 33) 6 = 0 ∨ ze Mz (d + 33) 6 = 1) ∧ zwf (zkS d Mz) ∧ zdp (zkS d Mz) ≤ 7 ∧ ∀ t : Int, 21 ≤ t → t < 21 + ze Mz (d + 33) 3 → zfit F K (zvc F d Mz t)
section ZKI
variable {d F : Nat} {K : Nat → Nat → Int} {FA FA' : List (Nat × Nat)} {CA CA' : List Nat} {FR FR' : List (Nat × Nat)} {CR CR' : List Nat} {Mz Nz Pz : zMem} {e : Int}
theorem zkS_f (h2 : ze Nz (d + 33) 2 = ze Mz (d + 33) 2) (h : ∀ i : Nat, (i : Int) < ze Mz (d + 33) 2 → ze Nz (d + 35) i = ze Mz (d + 35) i) : zkS d Nz = zkS d Mz := by
  unfold zkS
  rw [h2]
  exact zlst_c _ (fun i hi => by rw [h i (by omega)])
theorem zkV_f (h3 : ze Nz (d + 33) 3 = ze Mz (d + 33) 3) (h : ∀ t : Int, 21 ≤ t → t < 21 + ze Mz (d + 33) 3 → zvc F d Nz t = zvc F d Mz t) : zkV F d Nz = zkV F d Mz := by
  unfold zkV
  rw [h3]
  exact zlst_c _ (fun i hi => h _ (by omega) (by omega))
theorem zCI.fr (_ : zKW d Mz) (hf : zFc d FA CA FR CR Mz Nz) (h : zCI F K d e Mz) (hd : ((33 < 38 ∧ 33 ∉ CR ∧ (33, 2) ∉ FR) ∧ (33 < 38 ∧ 33 ∉ CR ∧ (33, 3) ∉ FR) ∧ (33 < 38 ∧ 33 ∉ CR ∧ (33, 4) ∉ FR) ∧ (33 < 38 ∧ 33 ∉ CR ∧ (33, 5) ∉ FR) ∧ 33 < 38 ∧ 33 ∉ CR ∧ (33, 6) ∉ FR) ∧ (35 < 38 ∧ 35 ∉ CR ∧ ∀ x ∈ FR, x.1 ≠ 35) ∧ 25 < 38 ∧ 25 ∉ CR ∧ ∀ x ∈ FR, x.1 ≠ 25) : zCI F K d e Nz := by
  have e2 := hf.e hd.1.1
  have e3 := hf.e hd.1.2.1
  have hS : zkS d Nz = zkS d Mz := zkS_f e2 (fun i _ => hf.r hd.2.1 i)
  unfold zCI
  rw [hS, e2, e3, hf.e hd.1.2.2.1, hf.e hd.1.2.2.2.1, hf.e hd.1.2.2.2.2]
  refine ⟨h.1, fun i hi => by rw [hf.r hd.2.1]; exact h.2.1 i hi, h.2.2.1, h.2.2.2.1, h.2.2.2.2.1, h.2.2.2.2.2.1, h.2.2.2.2.2.2.1, h.2.2.2.2.2.2.2.1, fun t h1 h2 => ?_⟩
  rw [zvc_f hf hd.2.2]
  exact h.2.2.2.2.2.2.2.2 t h1 h2
theorem zCI.b (h : zCI F K d e Mz) : ze Mz (d + 33) 2 = ((zkS d Mz).length : Int) ∧ (zkS d Mz).length ≤ 3 * zdp (zkS d Mz) + 2 ∧ zbn (zkS d Mz) + zdp (zkS d Mz) = (zkS d Mz).length ∧ (zkS d Mz).length ≤ 23 := by
  have h1 := zwf_b h.2.2.2.2.2.2.1
  have h2 := zbd_l (zkS d Mz)
  have h3 := h.2.2.2.2.2.2.2.1
  have h4 : (zkS d Mz).length = (ze Mz (d + 33) 2).toNat := zlst_l _ _
  have h5 := h.1
  omega
theorem zkS_p {c : Int} (h1 : 1 ≤ ze Mz (d + 33) 2) (hc : c = ze Mz (d + 35) (ze Mz (d + 33) 2 - 1).toNat) (h2 : ze Nz (d + 33) 2 = ze Mz (d + 33) 2 - 1) (h : ∀ i : Nat, (i : Int) < ze Mz (d + 33) 2 - 1 → ze Nz (d + 35) i = ze Mz (d + 35) i) : zkS d Mz = zsgn c :: zkS d Nz := by
  unfold zkS
  rw [zlst_p h1, hc, h2]
  congr 1
  exact (zlst_c _ (fun i hi => by rw [h i (by omega)])).symm
theorem zkS_0 (h : ze Mz (d + 33) 2 ≤ 0) : zkS d Mz = [] := by
  unfold zkS
  rw [show (ze Mz (d + 33) 2).toNat = 0 by omega]
  rfl
theorem zkS_h {c : Int} (h1 : 1 ≤ ze Mz (d + 33) 2) (hc : c = ze Mz (d + 35) (ze Mz (d + 33) 2 - 1).toNat) : (zkS d Mz).head? = some (zsgn c) := by
  unfold zkS
  rw [zlst_p h1, hc]
  rfl
theorem zkS_u {c : Int} (h0 : 0 ≤ ze Mz (d + 33) 2) (h2 : ze Nz (d + 33) 2 = ze Mz (d + 33) 2 + 1) (hc : ze Nz (d + 35) (ze Mz (d + 33) 2).toNat = c) (h : ∀ i : Nat, (i : Int) < ze Mz (d + 33) 2 → ze Nz (d + 35) i = ze Mz (d + 35) i) : zkS d Nz = zsgn c :: zkS d Mz := by
  unfold zkS
  rw [zlst_p (c := ze Nz (d + 33) 2) (by omega), show (ze Nz (d + 33) 2 - 1).toNat = (ze Mz (d + 33) 2).toNat by omega, hc]
  congr 1
  exact zlst_c _ (fun i hi => by rw [h i (by omega)])
theorem zcd_u {c : Int} (h0 : 0 ≤ ze Mz (d + 33) 2) (h2 : ze Nz (d + 33) 2 = ze Mz (d + 33) 2 + 1) (hc : ze Nz (d + 35) (ze Mz (d + 33) 2).toNat = c) (h : ∀ i : Nat, (i : Int) < ze Mz (d + 33) 2 → ze Nz (d + 35) i = ze Mz (d + 35) i) (hcd : zcd c) (hM : ∀ i : Nat, (i : Int) < ze Mz (d + 33) 2 → zcd (ze Mz (d + 35) i)) : ∀ i : Nat, (i : Int) < ze Nz (d + 33) 2 → zcd (ze Nz (d + 35) i) := by
  intro i hi
  by_cases g : (i : Int) = ze Mz (d + 33) 2
  · rw [show i = (ze Mz (d + 33) 2).toNat by omega, hc]
    exact hcd
  · rw [h i (by omega)]
    exact hM i (by omega)
theorem zkV_u {u : Nat → Int} (h0 : 0 ≤ ze Mz (d + 33) 3) (h3 : ze Nz (d + 33) 3 = ze Mz (d + 33) 3 + 1) (hu : zvc F d Nz (21 + ze Mz (d + 33) 3) = u) (h : ∀ t : Int, 21 ≤ t → t < 21 + ze Mz (d + 33) 3 → zvc F d Nz t = zvc F d Mz t) : zkV F d Nz = u :: zkV F d Mz := by
  unfold zkV
  rw [zlst_p (c := ze Nz (d + 33) 3) (by omega), show (ze Nz (d + 33) 3 - 1).toNat = (ze Mz (d + 33) 3).toNat by omega, ← hu, show (21 : Int) + ((ze Mz (d + 33) 3).toNat : Int) = 21 + ze Mz (d + 33) 3 by omega]
  congr 1
  exact zlst_c _ (fun i hi => h _ (by omega) (by omega))
theorem zkV_p (h1 : 1 ≤ ze Mz (d + 33) 3) : zkV F d Mz = zvc F d Mz (20 + ze Mz (d + 33) 3) :: zlst (fun i => zvc F d Mz (21 + i)) (ze Mz (d + 33) 3 - 1).toNat := by
  unfold zkV
  rw [zlst_p h1, show (21 : Int) + ((ze Mz (d + 33) 3 - 1).toNat : Int) = 20 + ze Mz (d + 33) 3 by omega]
theorem zkV_t {u : Nat → Int} (h1 : 1 ≤ ze Mz (d + 33) 3) (h3 : ze Nz (d + 33) 3 = ze Mz (d + 33) 3) (hu : zvc F d Nz (20 + ze Mz (d + 33) 3) = u) (h : ∀ t : Int, 21 ≤ t → t < 20 + ze Mz (d + 33) 3 → zvc F d Nz t = zvc F d Mz t) : ∃ vs, zkV F d Mz = zvc F d Mz (20 + ze Mz (d + 33) 3) :: vs ∧ zkV F d Nz = u :: vs := by
  refine ⟨_, zkV_p h1, ?_⟩
  rw [zkV_p (Mz := Nz) (by omega), h3, hu]
  congr 1
  exact zlst_c _ (fun i hi => h _ (by omega) (by omega))
theorem zkV_2 {u : Nat → Int} (h1 : 2 ≤ ze Mz (d + 33) 3) (h3 : ze Nz (d + 33) 3 = ze Mz (d + 33) 3 - 1) (hu : zvc F d Nz (19 + ze Mz (d + 33) 3) = u) (h : ∀ t : Int, 21 ≤ t → t < 19 + ze Mz (d + 33) 3 → zvc F d Nz t = zvc F d Mz t) : ∃ vs, zkV F d Mz = zvc F d Mz (20 + ze Mz (d + 33) 3) :: zvc F d Mz (19 + ze Mz (d + 33) 3) :: vs ∧ zkV F d Nz = u :: vs := by
  refine ⟨zlst (fun i => zvc F d Mz (21 + i)) (ze Mz (d + 33) 3 - 1 - 1).toNat, ?_, ?_⟩
  · rw [zkV_p (by omega), zlst_p (c := ze Mz (d + 33) 3 - 1) (by omega), show (21 : Int) + ((ze Mz (d + 33) 3 - 1 - 1).toNat : Int) = 19 + ze Mz (d + 33) 3 by omega]
  · rw [zkV_p (Mz := Nz) (by omega), h3, show (20 : Int) + (ze Mz (d + 33) 3 - 1) = 19 + ze Mz (d + 33) 3 by omega, hu]
    congr 1
    exact zlst_c _ (fun i hi => h _ (by omega) (by omega))
def zLow (d : Nat) (Mz Nz : zMem) : Prop := ∀ x : Nat, x < 567 → zg Nz (d + 25) x = zg Mz (d + 25) x
theorem zLow.rf : zLow d Mz Mz := fun _ _ => rfl
theorem zLow.tr (h : zLow d Mz Nz) (h2 : zLow d Nz Pz) : zLow d Mz Pz := fun x hx => (h2 x hx).trans (h x hx)
theorem zLow.sh {s m : Int} {f : Nat → Int} (h : zSh m d Mz Nz s f) (hs : 21 ≤ s) : zLow d Mz Nz := fun x hx => by rw [h x, if_neg (by omega)]
theorem zLow.f (hf : zFc d FA CA FR CR Mz Nz) (hd : 25 < 38 ∧ 25 ∉ CR ∧ ∀ x ∈ FR, x.1 ≠ 25) : zLow d Mz Nz := fun x _ => hf.rg hd x
theorem zLow.v (h : zLow d Mz Nz) (hF : F ≤ 27) {s : Int} (s0 : 0 ≤ s) (s1 : s ≤ 20) : zvc F d Nz s = zvc F d Mz s := by
  funext k
  unfold zvc
  by_cases g : k < F
  · rw [if_pos g, if_pos g, h _ (by omega)]
  · rw [if_neg g, if_neg g]
end ZKI
