noncomputable def zif {α : Type} (P : Prop) (a b : α) : α := @ite α P (Classical.propDecidable P) a b
theorem zif_t {α : Type} {P : Prop} {a b : α} (h : P) : zif P a b = a := by
  unfold zif
  rw [if_pos h]
theorem zif_f {α : Type} {P : Prop} {a b : α} (h : ¬ P) : zif P a b = b := by
  unfold zif
  rw [if_neg h]
def zsm (f : Nat → Int) : Nat → Int
  | 0 => 0
  | k + 1 => zsm f k + f k
theorem zsm_c {f g : Nat → Int} : ∀ k : Nat, (∀ i, i < k → f i = g i) → zsm f k = zsm g k
  | 0, _ => rfl
  | k + 1, h => by
    show zsm f k + f k = zsm g k + g k
    rw [zsm_c k (fun i hi => h i (by omega)), h k (by omega)]
theorem zsm_add (f g : Nat → Int) : ∀ k, zsm (fun i => f i + g i) k = zsm f k + zsm g k
  | 0 => rfl
  | k + 1 => by
    show zsm (fun i => f i + g i) k + (f k + g k) = (zsm f k + f k) + (zsm g k + g k)
    rw [zsm_add f g k]
    omega
theorem zsm_mul (f : Nat → Int) (c : Int) : ∀ k, zsm (fun i => c * f i) k = c * zsm f k
  | 0 => (Int.mul_zero c).symm
  | k + 1 => by
    show zsm (fun i => c * f i) k + c * f k = c * (zsm f k + f k)
    rw [zsm_mul f c k, Int.mul_add]
theorem zsm_0 : ∀ k, zsm (fun _ => 0) k = 0
  | 0 => rfl
  | k + 1 => by
    show zsm (fun _ => 0) k + 0 = 0
    rw [zsm_0 k]
    rfl
theorem zsm_z {f : Nat → Int} {k : Nat} (h : ∀ i, i < k → f i = 0) : zsm f k = 0 := (zsm_c k h).trans (zsm_0 k)
theorem zsm_sw (f : Nat → Nat → Int) (m : Nat) : ∀ k, zsm (fun i => zsm (fun j => f i j) m) k = zsm (fun j => zsm (fun i => f i j) k) m
  | 0 => (zsm_z (fun _ _ => rfl)).symm
  | k + 1 => by
    show zsm (fun i => zsm (fun j => f i j) m) k + zsm (fun j => f k j) m = zsm (fun j => zsm (fun i => f i j) k + f k j) m
    rw [zsm_sw f m k, zsm_add]
theorem zsm_1 {f : Nat → Int} {a : Nat} : ∀ {k : Nat}, a < k → (∀ i, i < k → i ≠ a → f i = 0) → zsm f k = f a
  | 0, h, _ => absurd h (by omega)
  | k + 1, h, h0 => by
    show zsm f k + f k = f a
    by_cases e : a = k
    · rw [e, zsm_z (fun i hi => h0 i (by omega) (by omega))]
      omega
    · rw [zsm_1 (by omega) (fun i hi => h0 i (by omega)), h0 k (by omega) (by omega)]
      omega
def zLim : Int := 1000000000000
def zmq (F : Nat) (K : Nat → Nat → Int) (v : Nat → Int) (j : Nat) : Int := zsm (fun i => v i * K i j) F
theorem zmq_c {F : Nat} {K : Nat → Nat → Int} {v w : Nat → Int} (h : ∀ i, i < F → v i = w i) (j : Nat) : zmq F K v j = zmq F K w j := zsm_c F (fun i hi => by rw [h i hi])
theorem zmq_add (F : Nat) (K : Nat → Nat → Int) (v w : Nat → Int) (j : Nat) : zmq F K (fun k => v k + w k) j = zmq F K v j + zmq F K w j := by
  unfold zmq
  rw [← zsm_add]
  exact zsm_c F (fun i _ => Int.add_mul _ _ _)
theorem zmq_mul (F : Nat) (K : Nat → Nat → Int) (c : Int) (v : Nat → Int) (j : Nat) : zmq F K (fun k => c * v k) j = c * zmq F K v j := by
  unfold zmq
  rw [← zsm_mul]
  exact zsm_c F (fun i _ => Int.mul_assoc _ _ _)
theorem zmq_neg (F : Nat) (K : Nat → Nat → Int) (v : Nat → Int) (j : Nat) : zmq F K (fun k => -v k) j = -zmq F K v j := by
  have h := zmq_mul F K (-1) v j
  rw [Int.neg_one_mul] at h
  rw [← h]
  exact zmq_c (fun i _ => (Int.neg_one_mul _).symm) j
def zTA (F : Nat) (K : Nat → Nat → Int) : Prop := (1 ≤ F ∧ F ≤ 27) ∧ (∀ i j, i < F → j < F → 0 ≤ K i j ∧ K i j ≤ 24) ∧ (∀ i j, i < j → j < F → K i j = 0) ∧ (∀ j, j < F → 1 ≤ K j j) ∧ (∀ i j, i < F → j < F → ∃ c : Nat → Int, ∀ k, k < F → zmq F K c k = K i k * K j k) ∧ (∀ u : Nat → Int, (∀ j, j < F → -zLim ≤ zmq F K u j ∧ zmq F K u j ≤ zLim) → ∀ i, i < F → -100000000000000000 ≤ u i * K i i ∧ u i * K i i ≤ 100000000000000000) ∧ (∀ i, i < F → K (F - 1) i = 1)
section ZTA
variable {F : Nat} {K : Nat → Nat → Int}
theorem zsm_tail {f : Nat → Int} {j : Nat} (h : ∀ i, i < j → f i = 0) : ∀ m, zsm f (j + 1 + m) = f j + zsm (fun i => f (j + 1 + i)) m
  | 0 => by
    show zsm f j + f j = f j + 0
    rw [zsm_z h]
    omega
  | m + 1 => by
    show zsm f (j + 1 + m) + f (j + 1 + m) = f j + (zsm (fun i => f (j + 1 + i)) m + f (j + 1 + m))
    rw [zsm_tail h m]
    omega
theorem zmq_tail (hA : zTA F K) {u : Nat → Int} {j : Nat} (hj : j < F) : zmq F K u j = u j * K j j + zsm (fun i => u (j + 1 + i) * K (j + 1 + i) j) (F - 1 - j) := by
  have h := zsm_tail (f := fun i => u i * K i j) (j := j) (fun i hi => by
    show u i * K i j = 0
    rw [hA.2.2.1 i j hi hj, Int.mul_zero]) (F - 1 - j)
  rw [show j + 1 + (F - 1 - j) = F by omega] at h
  exact h
def zPx (F : Nat) (K : Nat → Nat → Int) (v w u : Nat → Int) : Prop := (∀ k, F ≤ k → u k = 0) ∧ ∀ j, j < F → zmq F K u j = zmq F K v j * zmq F K w j
noncomputable def zprd (F : Nat) (K : Nat → Nat → Int) (v w : Nat → Int) : Nat → Int := @dite _ (∃ u, zPx F K v w u) (Classical.propDecidable _) (fun h => Classical.choose h) (fun _ _ => 0)
theorem zPx_ex (hA : zTA F K) (v w : Nat → Int) : ∃ u, zPx F K v w u := by
  have hc : ∀ i j, ∃ c : Nat → Int, i < F → j < F → ∀ k, k < F → zmq F K c k = K i k * K j k := fun i j => by
    by_cases h : i < F ∧ j < F
    · obtain ⟨c, hc⟩ := hA.2.2.2.2.1 i j h.1 h.2
      exact ⟨c, fun _ _ => hc⟩
    · exact ⟨fun _ => 0, fun h1 h2 => absurd ⟨h1, h2⟩ h⟩
  let c : Nat → Nat → Nat → Int := fun i j => Classical.choose (hc i j)
  have c1 : ∀ i j, i < F → j < F → ∀ k, k < F → zmq F K (c i j) k = K i k * K j k := fun i j => Classical.choose_spec (hc i j)
  refine ⟨fun l => if l < F then zsm (fun i => zsm (fun j => v i * w j * c i j l) F) F else 0, fun k hk => if_neg (by omega), fun k hk => ?_⟩
  rw [zmq_c (w := fun l => zsm (fun i => zsm (fun j => v i * w j * c i j l) F) F) (fun i hi => if_pos hi)]
  have e1 : zmq F K (fun l => zsm (fun i => zsm (fun j => v i * w j * c i j l) F) F) k = zsm (fun i => zsm (fun j => v i * w j * zmq F K (c i j) k) F) F := by
    unfold zmq
    rw [zsm_c (g := fun l => zsm (fun i => zsm (fun j => v i * w j * (c i j l * K l k)) F) F) F (fun l _ => ?_), zsm_sw]
    · refine zsm_c F (fun i _ => ?_)
      rw [zsm_sw]
      exact zsm_c F (fun j _ => zsm_mul _ _ F)
    · rw [Int.mul_comm, ← zsm_mul]
      refine zsm_c F (fun i _ => ?_)
      rw [← zsm_mul]
      refine zsm_c F (fun j _ => ?_)
      rw [Int.mul_comm, Int.mul_assoc]
  rw [e1]
  have e2 : zsm (fun i => zsm (fun j => v i * w j * zmq F K (c i j) k) F) F = zsm (fun i => (v i * K i k) * zmq F K w k) F := by
    refine zsm_c F (fun i hi => ?_)
    unfold zmq
    rw [← zsm_mul]
    refine zsm_c F (fun j hj => ?_)
    rw [show zsm (fun l => c i j l * K l k) F = K i k * K j k from c1 i j hi hj k hk, Int.mul_assoc, Int.mul_assoc]
    congr 1
    rw [← Int.mul_assoc, ← Int.mul_assoc, Int.mul_comm (w j)]
  rw [e2]
  unfold zmq
  rw [Int.mul_comm, ← zsm_mul]
  exact zsm_c F (fun i _ => Int.mul_comm _ _)
theorem zprd_s (hA : zTA F K) (v w : Nat → Int) : zPx F K v w (zprd F K v w) := by
  have h := zPx_ex hA v w
  unfold zprd
  rw [dif_pos h]
  exact Classical.choose_spec h
end ZTA
def zfit (F : Nat) (K : Nat → Nat → Int) (v : Nat → Int) : Prop := ∀ i, i < F → (-zLim ≤ v i ∧ v i ≤ zLim) ∧ -zLim ≤ zmq F K v i ∧ zmq F K v i ≤ zLim
def zmok (F : Nat) (K : Nat → Nat → Int) (v w : Nat → Int) : Prop := ∀ j, j < F → -zLim ≤ zmq F K v j * zmq F K w j ∧ zmq F K v j * zmq F K w j ≤ zLim
def zone (i x : Int) : Nat → Int := fun k => if (k : Int) = i then x else 0
noncomputable def zop (F : Nat) (K : Nat → Nat → Int) (x : Nat) (v w : Nat → Int) : Nat → Int := if x = 4 then zprd F K v w else if x = 2 then (fun k => v k + w k) else fun k => v k - w k
abbrev zTr : Type := List Nat × List (Nat → Int) × Bool
noncomputable def zwk1 (F : Nat) (K : Nat → Nat → Int) : zTr → zTr
  | ([], vs, g) => ([], vs, g)
  | (x :: sg, w :: v :: vs, false) => zif ((x = 4 → zmok F K v w) ∧ zfit F K (zop F K x v w)) (sg, zop F K x v w :: vs, false) (sg, [], true)
  | (_ :: sg, _, g) => (sg, [], g)
noncomputable def zrk (F : Nat) (K : Nat → Nat → Int) (x : Nat) : Nat → zTr → zTr
  | 0, t => t
  | k + 1, t => match t.1 with
    | [] => t
    | y :: _ => if x ≤ y then zrk F K x k (zwk1 F K t) else t
def zng : List Nat → List (Nat → Int) → List Nat × List (Nat → Int)
  | 1 :: sg, v :: vs => zng sg ((fun k => -v k) :: vs)
  | 1 :: sg, [] => zng sg []
  | sg, vs => (sg, vs)
noncomputable def zpw (F : Nat) (K : Nat → Nat → Int) (x : Nat → Int) : Nat → Option (Nat → Int)
  | 0 => some (zone ((F : Int) - 1) 1)
  | k + 1 => match zpw F K x k with
    | none => none
    | some v => zif (zmok F K v x ∧ zfit F K (zprd F K v x)) (some (zprd F K v x)) none
noncomputable def zpo (F : Nat) (K : Nat → Nat → Int) (k : Nat) : List (Nat → Int) → Bool → List (Nat → Int) × Bool
  | v :: vs, false => match zpw F K v k with
    | none => ([], true)
    | some u => (u :: vs, false)
  | vs, g => (vs, g)
def zdp (sg : List Nat) : Nat := sg.countP (fun x => x ≤ 1)
def zop0 (sg : List Nat) : Nat := sg.countP (fun x => x == 0)
def zbn (sg : List Nat) : Nat := sg.countP (fun x => 2 ≤ x)
def zpu (g : Bool) (v : Nat → Int) (vs : List (Nat → Int)) : List (Nat → Int) := if g = true then [] else v :: vs
def zfd : List (Int × (Nat → Int)) → Int → Option (Nat → Int)
  | [], _ => none
  | e :: l, x => if e.1 = x then some e.2 else zfd l x
def zkey (b : Nat → Int) (n p : Nat) : Int := zw2 b p (zen b n p - p)
def znu (b : Nat → Int) (n p : Nat) : Int := zvl b p (zen b n p - p)
def zkw : Nat → Int := fun i => [235981828, 267413, 8903, 385418].getD i 0
def zisn (b : Nat → Int) (n p : Nat) : Prop := zkd b n p = 1 ∧ zkey b n p ≠ zkw 0 ∧ zkey b n p ≠ zkw 1 ∧ zkey b n p ≠ zkw 2 ∧ zkey b n p ≠ zkw 3
def zisg (b : Nat → Int) (n p : Nat) (c : Int) : Prop := zkd b n p = 3 ∧ b p = c
abbrev zFst : Type := Nat × Nat × List Nat × List (Nat → Int) × Nat × Bool
def zFt : zFst := (4, 0, [], [], 0, false)
def zuo (sg : List Nat) (un : Nat) : Prop := un < 30 ∧ zdp sg ≤ 6
noncomputable def zfs (b : Nat → Int) (n F : Nat) (K : Nat → Nat → Int) (nm : List (Int × (Nat → Int))) : zFst → zFst
  | (0, p, sg, vs, un, g) =>
    zif (zisg b n p 45 ∨ zisg b n p 40) (zif (zuo sg un) (0, znx b n p, (if b p = 40 then 0 else 1) :: sg, vs, un + 1, g) zFt)
    (zif (zkd b n p = 2) (zif (zuo sg un) (1, znx b n p, sg, zpu g (zone ((F : Int) - 1) (znu b n p)) vs, un + 1, g) zFt)
    (zif (zkd b n p = 1 ∧ zkey b n p = zkw 3) (zif (zuo sg un ∧ zkd b n (znx b n p) = 2 ∧ znu b n (znx b n p) < F) (1, znx b n (znx b n p), sg, zpu g (zone (znu b n (znx b n p)) 1) vs, un + 1, g) zFt)
    (zif (zuo sg un ∧ zisn b n p) (match zfd nm (zkey b n p) with | none => zFt | some v => (1, znx b n p, sg, zpu g v vs, un + 1, g)) zFt)))
  | (1, p, sg, vs, un, g) =>
    zif (zisg b n p 94) (zif (zkd b n (znx b n p) = 2 ∧ znu b n (znx b n p) ≤ 9) (2, znx b n (znx b n p), (zng sg (zpo F K (znu b n (znx b n p)).toNat vs g).1).1, (zng sg (zpo F K (znu b n (znx b n p)).toNat vs g).1).2, un, (zpo F K (znu b n (znx b n p)).toNat vs g).2) zFt)
    (2, p, (zng sg vs).1, (zng sg vs).2, un, g)
  | (2, p, sg, vs, un, g) =>
    zif (zisg b n p 42) (0, znx b n p, 4 :: (zrk F K 4 sg.length (sg, vs, g)).1, (zrk F K 4 sg.length (sg, vs, g)).2.1, un, (zrk F K 4 sg.length (sg, vs, g)).2.2)
    (zif (zisg b n p 43 ∨ zisg b n p 45) (0, znx b n p, (if b p = 43 then 2 else 3) :: (zrk F K 2 sg.length (sg, vs, g)).1, (zrk F K 2 sg.length (sg, vs, g)).2.1, un, (zrk F K 2 sg.length (sg, vs, g)).2.2)
    (zif (zisg b n p 41 ∧ 0 ∈ sg) (1, znx b n p, (zrk F K 2 sg.length (sg, vs, g)).1.tail, (zrk F K 2 sg.length (sg, vs, g)).2.1, un, (zrk F K 2 sg.length (sg, vs, g)).2.2)
    (zif (0 ∈ sg) zFt (3, p, (zrk F K 2 sg.length (sg, vs, g)).1, (zrk F K 2 sg.length (sg, vs, g)).2.1, un, (zrk F K 2 sg.length (sg, vs, g)).2.2))))
  | s => s
def zrea (stp : zFst → zFst) : Nat → zFst → zFst
  | 0, s => s
  | n + 1, s => zrea stp n (stp s)
def zRea (stp : zFst → zFst) (s t : zFst) : Prop := ∃ n, zrea stp n s = t
theorem zrea_add {stp : zFst → zFst} : ∀ (n m : Nat) (s : zFst), zrea stp (n + m) s = zrea stp m (zrea stp n s)
  | 0, m, s => by rw [Nat.zero_add]; rfl
  | n + 1, m, s => by
    rw [show n + 1 + m = (n + m) + 1 by omega]
    exact zrea_add n m (stp s)
theorem zRea.rf {stp : zFst → zFst} {s : zFst} : zRea stp s s := ⟨0, rfl⟩
theorem zRea.tr {stp : zFst → zFst} {s t u : zFst} (h : zRea stp s t) (h2 : zRea stp t u) : zRea stp s u := by
  obtain ⟨n, rfl⟩ := h
  obtain ⟨m, rfl⟩ := h2
  exact ⟨n + m, zrea_add n m s⟩
theorem zRea.st {stp : zFst → zFst} {s t : zFst} (h : stp s = t) : zRea stp s t := ⟨1, h⟩
theorem zrea_fix {stp : zFst → zFst} {t : zFst} (h : stp t = t) : ∀ n, zrea stp n t = t
  | 0 => rfl
  | n + 1 => by
    show zrea stp n (stp t) = t
    rw [h]
    exact zrea_fix h n
theorem zRea.end {stp : zFst → zFst} {s t u : zFst} (h : zRea stp s t) (h2 : zRea stp s u) (ht : stp t = t) (hu : stp u = u) : t = u := by
  obtain ⟨n, rfl⟩ := h
  obtain ⟨m, rfl⟩ := h2
  rcases Nat.le_total n m with e | e
  · obtain ⟨k, rfl⟩ := Nat.exists_eq_add_of_le e
    rw [zrea_add, zrea_fix ht]
  · obtain ⟨k, rfl⟩ := Nat.exists_eq_add_of_le e
    rw [zrea_add, zrea_fix hu]
