section ZKJ
variable {d F : Nat} {K : Nat → Nat → Int} {FA FA' : List (Nat × Nat)} {CA CA' : List Nat} {FR FR' : List (Nat × Nat)} {CR CR' : List Nat} {Mz Nz Pz : zMem} {e : Int}
theorem zone_n {i x : Int} (h0 : 0 ≤ i) (h1 : i < F) : (fun k : Nat => if k < F then zone i x k else 0) = zone i x := by
  funext k
  by_cases g : k < F
  · rw [if_pos g]
  · rw [if_neg g]
    unfold zone
    rw [if_neg (by omega)]
theorem zone_mq {i x : Int} (h0 : 0 ≤ i) (h1 : i < F) (j : Nat) : zmq F K (zone i x) j = x * K i.toNat j := by
  unfold zmq
  rw [zsm_1 (a := i.toNat) (by omega) (fun k hk hne => ?_)]
  · unfold zone
    rw [if_pos (by omega)]
  · unfold zone
    rw [if_neg (by omega), Int.zero_mul]
theorem zone_fit (hA : zTA F K) {i x : Int} (h0 : 0 ≤ i) (h1 : i < F) (x0 : 0 ≤ x) (x1 : x ≤ 999) : zfit F K (zone i x) := fun j hj => by
  have hk := hA.2.1 i.toNat j (by omega) hj
  have h2 : 0 ≤ x * K i.toNat j := Int.mul_nonneg x0 hk.1
  have h3 : x * K i.toNat j ≤ 999 * 24 := Int.mul_le_mul x1 hk.2 hk.1 (by omega)
  rw [zone_mq h0 h1]
  unfold zone zLim
  refine ⟨?_, by omega, by omega⟩
  split <;> omega
theorem zero_fit : zfit F K (fun _ => 0) := fun j _ => by
  have e0 : zmq F K (fun _ => 0) j = 0 := zsm_z (fun i _ => Int.zero_mul _)
  rw [e0]
  show (-zLim ≤ (0 : Int) ∧ (0 : Int) ≤ zLim) ∧ -zLim ≤ (0 : Int) ∧ (0 : Int) ≤ zLim
  unfold zLim
  refine ⟨⟨?_, ?_⟩, ?_, ?_⟩ <;> omega
theorem zone_z (x : Int) : (fun k : Nat => if k < F then zone (-1) 0 k else 0) = fun _ => 0 := by
  funext k
  unfold zone
  split
  · split <;> rfl
  · rfl
theorem zneg_fit {v : Nat → Int} (h : zfit F K v) : zfit F K (fun k => -v k) := fun j hj => by
  have h1 := h j hj
  rw [zmq_neg]
  show (-zLim ≤ -v j ∧ -v j ≤ zLim) ∧ _
  refine ⟨⟨?_, ?_⟩, ?_, ?_⟩ <;> omega
theorem zprd_bd (hA : zTA F K) {v w : Nat → Int} (h : zmok F K v w) : zbd F K (zprd F K v w) := fun j hj => by
  have hp := zprd_s hA v w
  have h1 := h j hj
  have h2 := hA.2.2.2.2.2.1 (zprd F K v w) (fun j hj => by rw [hp.2 j hj]; exact h j hj) j hj
  have h3 := hA.2.2.2.1 j hj
  rw [hp.2 j hj]
  unfold zLim at h1
  have h4 : (zprd F K v w j).natAbs ≤ (zprd F K v w j * K j j).natAbs := by
    rw [Int.natAbs_mul]
    exact Nat.le_mul_of_pos_right _ (by omega)
  refine ⟨⟨?_, ?_⟩, ?_, ?_⟩ <;> omega
theorem zprd_n (hA : zTA F K) (v w : Nat → Int) : (fun k : Nat => if k < F then zprd F K v w k else 0) = zprd F K v w := by
  funext k
  by_cases g : k < F
  · rw [if_pos g]
  · rw [if_neg g, (zprd_s hA v w).1 k (by omega)]
theorem zvc_n (s : Int) (k : Nat) (hk : F ≤ k) : zvc F d Mz s k = 0 := by
  unfold zvc
  rw [if_neg (by omega)]
theorem zadd_bd {v w : Nat → Int} {c : Int} (hc : c = 1 ∨ c = -1) (hv : zfit F K v) (hw : zfit F K w) : zbd F K (fun k => v k + c * w k) := fun j hj => by
  have h1 := hv j hj
  have h2 := hw j hj
  have e : zmq F K (fun k => v k + c * w k) j = zmq F K v j + c * zmq F K w j := by
    rw [zmq_add, zmq_mul]
  have e0 : (fun k => v k + c * w k) j = v j + c * w j := rfl
  rw [e, e0]
  unfold zLim at h1 h2
  rcases hc with rfl | rfl
  · refine ⟨⟨?_, ?_⟩, ?_, ?_⟩ <;> omega
  · refine ⟨⟨?_, ?_⟩, ?_, ?_⟩ <;> omega
theorem zCI_0 (h2 : ze Mz (d + 33) 2 = 0) (h3 : ze Mz (d + 33) 3 = 0) (h4 : ze Mz (d + 33) 4 = 0) (h5 : ze Mz (d + 33) 5 = 0) (h6 : ze Mz (d + 33) 6 = 0) : zCI F K d 0 Mz ∧ zkS d Mz = [] ∧ zkW F d Mz = [] ∧ zkG d Mz = false := by
  have hS : zkS d Mz = [] := zkS_0 (by omega)
  have hG : zkG d Mz = false := by
    unfold zkG
    rw [h6]
    rfl
  refine ⟨?_, hS, ?_, hG⟩
  · unfold zCI
    rw [hS, h2, h3, h4, h5, h6]
    exact ⟨⟨by omega, by omega⟩, fun i hi => absurd hi (by omega), rfl, rfl, rfl, Or.inl rfl, trivial, by decide, fun t h1 h2 => absurd h2 (by omega)⟩
  · unfold zkW zkV
    rw [hG, h3]
    rfl
theorem zkG_f (h : ze Nz (d + 33) 6 = ze Mz (d + 33) 6) : zkG d Nz = zkG d Mz := by
  unfold zkG
  rw [h]
theorem zkW_f (h6 : ze Nz (d + 33) 6 = ze Mz (d + 33) 6) (hV : zkV F d Nz = zkV F d Mz) : zkW F d Nz = zkW F d Mz := by
  unfold zkW
  rw [zkG_f h6, hV]
theorem zCI_op {c : Int} (hI : zCI F K d 0 Mz) (hd : zdp (zkS d Mz) ≤ 6) (hcc : c = 40 ∨ c = 126) (h2 : ze Nz (d + 33) 2 = ze Mz (d + 33) 2 + 1) (hc : ze Nz (d + 35) (ze Mz (d + 33) 2).toNat = c) (h : ∀ i : Nat, (i : Int) < ze Mz (d + 33) 2 → ze Nz (d + 35) i = ze Mz (d + 35) i) (h3 : ze Nz (d + 33) 3 = ze Mz (d + 33) 3) (h4 : ze Nz (d + 33) 4 = ze Mz (d + 33) 4 + 1) (h5 : ze Nz (d + 33) 5 = ze Mz (d + 33) 5 + if c = 40 then 1 else 0) (h6 : ze Nz (d + 33) 6 = ze Mz (d + 33) 6) (hv : ∀ t : Int, zvc F d Nz t = zvc F d Mz t) : zCI F K d 0 Nz ∧ zkS d Nz = zsgn c :: zkS d Mz ∧ zkW F d Nz = zkW F d Mz ∧ zkG d Nz = zkG d Mz := by
  have hb := hI.b
  obtain ⟨a1, a2, a3, a4, a5, a6, a7, a8, a9⟩ := hI
  have hS := zkS_u a1.1 h2 hc h
  have hcd : zcd c := by
    unfold zcd
    omega
  have hx : zsgn c ≤ 1 := by rcases hcc with rfl | rfl <;> decide
  refine ⟨?_, hS, zkW_f h6 (zkV_f h3 (fun t _ _ => hv t)), zkG_f h6⟩
  unfold zCI
  rw [hS, zdp_c, zop0_c, zbn_c, if_pos hx, if_neg (by omega : ¬ 2 ≤ zsgn c), h3, h4, h5, h6]
  refine ⟨by omega, zcd_u a1.1 h2 hc h hcd a2, by omega, ?_, by omega, a6, ⟨by omega, fun y _ => ⟨fun g => absurd g (by omega), fun g => absurd g (by omega)⟩, a7⟩, by omega, fun t t0 t1 => by rw [hv]; exact a9 t t0 t1⟩
  rcases hcc with rfl | rfl
  · rw [if_pos rfl, if_pos (by decide)]; omega
  · rw [if_neg (by decide), if_neg (by decide)]; omega
theorem zCI_pv {u : Nat → Int} (hI : zCI F K d 0 Mz) (h2 : ze Nz (d + 33) 2 = ze Mz (d + 33) 2) (h : ∀ i : Nat, ze Nz (d + 35) i = ze Mz (d + 35) i) (h3 : ze Nz (d + 33) 3 = ze Mz (d + 33) 3 + 1) (h4 : ze Nz (d + 33) 4 = ze Mz (d + 33) 4) (h5 : ze Nz (d + 33) 5 = ze Mz (d + 33) 5) (h6 : ze Nz (d + 33) 6 = ze Mz (d + 33) 6) (hu : zvc F d Nz (21 + ze Mz (d + 33) 3) = u) (hv : ∀ t : Int, 21 ≤ t → t < 21 + ze Mz (d + 33) 3 → zvc F d Nz t = zvc F d Mz t) (hf : zfit F K u) : zCI F K d 1 Nz ∧ zkS d Nz = zkS d Mz ∧ zkW F d Nz = zpu (zkG d Mz) u (zkW F d Mz) ∧ zkG d Nz = zkG d Mz := by
  obtain ⟨a1, a2, a3, a4, a5, a6, a7, a8, a9⟩ := hI
  have hS : zkS d Nz = zkS d Mz := zkS_f h2 (fun i _ => h i)
  have hV := zkV_u (F := F) (by omega) h3 hu hv
  refine ⟨?_, hS, ?_, zkG_f h6⟩
  · unfold zCI
    rw [hS, h2, h4, h5, h6]
    refine ⟨a1, fun i hi => by rw [h i]; exact a2 i hi, a3, a4, by omega, a6, a7, a8, fun t t0 t1 => ?_⟩
    by_cases g : t = 21 + ze Mz (d + 33) 3
    · rw [g, hu]; exact hf
    · rw [hv t t0 (by omega)]; exact a9 t t0 (by omega)
  · unfold zkW zpu
    rw [zkG_f h6, hV]
    cases zkG d Mz with
    | true => rfl
    | false => rfl
theorem zCI_tv {u : Nat → Int} (hI : zCI F K d 1 Mz) (h2 : ze Nz (d + 33) 2 = ze Mz (d + 33) 2) (h : ∀ i : Nat, ze Nz (d + 35) i = ze Mz (d + 35) i) (h3 : ze Nz (d + 33) 3 = ze Mz (d + 33) 3) (h4 : ze Nz (d + 33) 4 = ze Mz (d + 33) 4) (h5 : ze Nz (d + 33) 5 = ze Mz (d + 33) 5) (h6 : ze Nz (d + 33) 6 = 0 ∨ ze Nz (d + 33) 6 = 1) (hu : zvc F d Nz (20 + ze Mz (d + 33) 3) = u) (hv : ∀ t : Int, 21 ≤ t → t < 20 + ze Mz (d + 33) 3 → zvc F d Nz t = zvc F d Mz t) (hf : zfit F K u) : zCI F K d 1 Nz ∧ zkS d Nz = zkS d Mz := by
  obtain ⟨a1, a2, a3, a4, a5, a6, a7, a8, a9⟩ := hI
  have hS : zkS d Nz = zkS d Mz := zkS_f h2 (fun i _ => h i)
  refine ⟨?_, hS⟩
  unfold zCI
  rw [hS, h2, h3, h4, h5]
  refine ⟨a1, fun i hi => by rw [h i]; exact a2 i hi, a3, a4, by omega, h6, a7, a8, fun t t0 t1 => ?_⟩
  by_cases g : t = 20 + ze Mz (d + 33) 3
  · rw [g, hu]; exact hf
  · rw [hv t t0 (by omega)]; exact a9 t t0 (by omega)
theorem zCI_pop {c : Int} (hI : zCI F K d 1 Mz) (h1 : 1 ≤ ze Mz (d + 33) 2) (hc : c = ze Mz (d + 35) (ze Mz (d + 33) 2 - 1).toNat) (hcc : c = 40 ∨ c = 126) (h2 : ze Nz (d + 33) 2 = ze Mz (d + 33) 2 - 1) (h : ∀ i : Nat, ze Nz (d + 35) i = ze Mz (d + 35) i) (h3 : ze Nz (d + 33) 3 = ze Mz (d + 33) 3) (h4 : ze Nz (d + 33) 4 = ze Mz (d + 33) 4 - 1) (h5 : ze Nz (d + 33) 5 = ze Mz (d + 33) 5 - if c = 40 then 1 else 0) (h6 : ze Nz (d + 33) 6 = ze Mz (d + 33) 6) (hv : ∀ t : Int, 21 ≤ t → t < 21 + ze Mz (d + 33) 3 → zfit F K (zvc F d Nz t)) : zCI F K d 1 Nz ∧ zkS d Mz = zsgn c :: zkS d Nz ∧ zkG d Nz = zkG d Mz := by
  obtain ⟨a1, a2, a3, a4, a5, a6, a7, a8, a9⟩ := hI
  have hS := zkS_p h1 hc h2 (fun i _ => h i)
  have hx : zsgn c ≤ 1 := by rcases hcc with rfl | rfl <;> decide
  refine ⟨?_, hS, zkG_f h6⟩
  rw [hS, zdp_c, if_pos hx] at a3 a8
  rw [hS, zop0_c] at a4
  rw [hS, zbn_c, if_neg (by omega : ¬ 2 ≤ zsgn c)] at a5
  rw [hS] at a7
  unfold zCI
  rw [h2, h3, h4, h5, h6]
  refine ⟨by omega, fun i hi => by rw [h i]; exact a2 i (by omega), by omega, ?_, by omega, a6, a7.2.2, by omega, hv⟩
  rcases hcc with rfl | rfl
  · rw [if_pos (by decide)] at a4
    rw [if_pos rfl]; omega
  · rw [if_neg (by decide)] at a4
    rw [if_neg (by decide)]; omega
theorem zCI_bs {c : Int} (hI : zCI F K d 1 Mz) (hcc : c = 42 ∨ c = 43 ∨ c = 45) (hh : ∀ y, (zkS d Mz).head? = some y → zwp (zsgn c) y) (h2 : ze Nz (d + 33) 2 = ze Mz (d + 33) 2 + 1) (hc : ze Nz (d + 35) (ze Mz (d + 33) 2).toNat = c) (h : ∀ i : Nat, (i : Int) < ze Mz (d + 33) 2 → ze Nz (d + 35) i = ze Mz (d + 35) i) (h3 : ze Nz (d + 33) 3 = ze Mz (d + 33) 3) (h4 : ze Nz (d + 33) 4 = ze Mz (d + 33) 4) (h5 : ze Nz (d + 33) 5 = ze Mz (d + 33) 5) (h6 : ze Nz (d + 33) 6 = ze Mz (d + 33) 6) (hv : ∀ t : Int, zvc F d Nz t = zvc F d Mz t) : zCI F K d 0 Nz ∧ zkS d Nz = zsgn c :: zkS d Mz ∧ zkW F d Nz = zkW F d Mz ∧ zkG d Nz = zkG d Mz := by
  have hb := hI.b
  obtain ⟨a1, a2, a3, a4, a5, a6, a7, a8, a9⟩ := hI
  have hS := zkS_u a1.1 h2 hc h
  have hcd : zcd c := by
    unfold zcd
    omega
  have hx : 2 ≤ zsgn c ∧ zsgn c ≤ 4 := by rcases hcc with rfl | rfl | rfl <;> decide
  refine ⟨?_, hS, zkW_f h6 (zkV_f h3 (fun t _ _ => hv t)), zkG_f h6⟩
  unfold zCI
  rw [hS, zdp_c, zop0_c, zbn_c, if_neg (by omega : ¬ zsgn c ≤ 1), if_pos hx.1, if_neg (by omega : ¬ zsgn c = 0), h3, h4, h5, h6]
  exact ⟨by omega, zcd_u a1.1 h2 hc h hcd a2, by omega, by omega, by omega, a6, ⟨by omega, hh, a7⟩, by omega, fun t t0 t1 => by rw [hv]; exact a9 t t0 t1⟩
theorem zng_s (sg : List Nat) (v : Nat → Int) (vs : List (Nat → Int)) : zng (1 :: sg) (v :: vs) = zng sg ((fun k => -v k) :: vs) := by rw [zng]
theorem zng_s0 (sg : List Nat) : zng (1 :: sg) [] = zng sg [] := by rw [zng]
theorem zng_e {sg : List Nat} (h : sg.head? ≠ some 1) (vs : List (Nat → Int)) : zng sg vs = (sg, vs) := by
  cases sg with
  | nil => rw [zng] <;> intros <;> contradiction
  | cons x r =>
    have hx : x ≠ 1 := fun g => h (by rw [g]; rfl)
    rw [zng]
    · intro a b c g
      injection g with g1 g2
      exact absurd g1 hx
    · intro a g
      injection g with g1 g2
      exact absurd g1 hx
end ZKJ
