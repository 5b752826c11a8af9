noncomputable def kxp (s : Nat) : Nat := Nat.add (Nat.add (Nat.add (Nat.add (Nat.add (Nat.mod s 2) (Nat.mod (Nat.div s 2) 2)) (Nat.mod (Nat.div s 4) 2)) (Nat.mod (Nat.div s 8) 2)) (Nat.mod (Nat.div s 16) 2)) (Nat.mod (Nat.div s 32) 2)
noncomputable def kxd (R : Nat → Nat) (P : Nat) : Nat := kup (fun p r => cond (Nat.beq (Nat.mod (R p) (Nat.pow 2 p)) 0) (Nat.add r (Nat.pow 8 (Nat.pred (kxp (R p))))) r) 0 P
noncomputable def kxg (c i : Nat) : Nat := Nat.mod (Nat.shiftRight c (Nat.mul 3 i)) 8
noncomputable def kxl (c : Nat) : Nat := kup (fun i r => Nat.add r (kxg c i)) 0 6
noncomputable def kxo (c : Nat) : Nat := kup (fun i X => kup (fun _ Y => Nat.add Y (Nat.mul Y (Nat.pow 2 (Nat.mul 8 (Nat.succ i))))) X (kxg c i)) 1 6
noncomputable def kxs (c n : Nat) : Nat := Nat.mod (Nat.shiftRight (kxo c) (Nat.mul 8 n)) 256
noncomputable def kxu (w c : Nat) : Nat := cond (Nat.beq w 0) (kxg c 0) (cond (Nat.ble w 7) (kxs c (Nat.pred w)) (Nat.pow (Nat.sub w 8) (kxl c)))
noncomputable def kxr (r : List Nat) : Nat := kxd (fun p => r.getD p 0) r.length
noncomputable def kxchk (r : List Nat) : Bool := tk0 r == kxg (kxr r) 0 && (tkp r == kxl (kxr r) && (List.range 7).all (fun n => tks r n == kxs (kxr r) n))
theorem kxchk_1 : (List.range 6).all (fun P => (tkall P).all kxchk) = true := by decide +kernel
theorem kxchk_6 : (tkall 6).all kxchk = true := by decide +kernel
theorem kxchk_s {P : Nat} {r : List Nat} (hP : P ≤ 6) (h : r ∈ tkall P) : tk0 r = kxg (kxr r) 0 ∧ tkp r = kxl (kxr r) ∧ ∀ n, n ≤ 6 → tks r n = kxs (kxr r) n := by
  have hc : kxchk r = true := by
    by_cases g : P = 6
    · rw [g] at h
      exact List.all_eq_true.mp kxchk_6 r h
    · exact List.all_eq_true.mp (List.all_eq_true.mp kxchk_1 P (List.mem_range.mpr (by omega))) r h
  unfold kxchk at hc
  rw [Bool.and_eq_true, Bool.and_eq_true] at hc
  obtain ⟨h1, h2, h3⟩ := hc
  refine ⟨eq_of_beq h1, eq_of_beq h2, fun n hn => ?_⟩
  exact eq_of_beq (List.all_eq_true.mp h3 n (List.mem_range.mpr (by omega)))
theorem kxu_v {P : Nat} {what n : Int} (hP : P ≤ 6) (hw : what = 0 ∨ ((what = 1 ∨ what = 2) ∧ 0 ≤ n ∧ n ≤ 6)) : ∃ w, w < 15 ∧ ∀ r ∈ tkall P, tkv r what n = ((kxu w (kxr r) : Nat) : Int) := by
  unfold tkv
  rcases hw with hw | ⟨hw | hw, n0, n6⟩
  · refine ⟨0, by decide, fun r h => ?_⟩
    obtain ⟨h1, h2, h3⟩ := kxchk_s hP h
    rw [if_pos hw, h1]
    rfl
  · refine ⟨n.toNat + 1, by omega, fun r h => ?_⟩
    obtain ⟨h1, h2, h3⟩ := kxchk_s hP h
    rw [if_neg (by omega), if_pos hw, h3 _ (by omega)]
    have e1 : kxu (n.toNat + 1) (kxr r) = cond (Nat.ble (n.toNat + 1) 7) (kxs (kxr r) n.toNat) (Nat.pow (Nat.sub (n.toNat + 1) 8) (kxl (kxr r))) := rfl
    rw [e1, kbl.mpr (show n.toNat + 1 ≤ 7 by omega)]
    rfl
  · refine ⟨n.toNat + 8, by omega, fun r h => ?_⟩
    obtain ⟨h1, h2, h3⟩ := kxchk_s hP h
    rw [if_neg (by omega), if_neg (by omega), h2]
    have e1 : kxu (n.toNat + 8) (kxr r) = cond (Nat.ble (n.toNat + 8) 7) (kxs (kxr r) (Nat.pred (n.toNat + 8))) (Nat.pow (Nat.sub (n.toNat + 8) 8) (kxl (kxr r))) := rfl
    have e2 : Nat.ble (n.toNat + 8) 7 = false := by
      cases hb : Nat.ble (n.toNat + 8) 7 with
      | false => rfl
      | true =>
        have := kbl.mp hb
        omega
    rw [e1, e2, show Nat.sub (n.toNat + 8) 8 = n.toNat from Nat.add_sub_cancel n.toNat 8]
    show n ^ kxl (kxr r) = ((n.toNat ^ kxl (kxr r) : Nat) : Int)
    rw [Int.natCast_pow, Int.toNat_of_nonneg n0]
noncomputable def kxX (X i : Nat) : Nat := Nat.mod (Nat.shiftRight X (Nat.mul 20 i)) 1048576
noncomputable def kxt (Kp X j c : Nat) : Nat := kup (fun i r => Nat.add r (Nat.mul (kxX X i) (kK Kp i j))) 0 c
noncomputable def kxv (m Kp w cs : Nat) : Nat := kup (fun k X => Nat.add X (Nat.mul (Nat.div (Nat.sub (kxu w (kL cs (Nat.pred (Nat.sub m k)))) (kxt Kp X (Nat.pred (Nat.sub m k)) m)) (kK Kp (Nat.pred (Nat.sub m k)) (Nat.pred (Nat.sub m k)))) (Nat.pow 2 (Nat.mul 20 (Nat.pred (Nat.sub m k)))))) 0 m
noncomputable def kxe (m Kp w cs X : Nat) : Bool := klt m (fun j => Nat.beq (kxt Kp X j m) (kxu w (kL cs j)))
noncomputable def kxa (m Kp cs : Nat) : Bool := klt 15 (fun w => kxe m Kp w cs (kxv m Kp w cs))
theorem kxt_z {F : Nat} {K : Nat → Nat → Int} {Kp X j : Nat} (hK : ∀ i, i < F → K i j = ((kK Kp i j : Nat) : Int)) : ∀ c, c ≤ F → zsm (fun i => ((kxX X i : Nat) : Int) * K i j) c = ((kxt Kp X j c : Nat) : Int)
  | 0, _ => rfl
  | c + 1, hc => by
    show zsm (fun i => ((kxX X i : Nat) : Int) * K i j) c + ((kxX X c : Nat) : Int) * K c j = ((kxt Kp X j c + kxX X c * kK Kp c j : Nat) : Int)
    rw [kxt_z hK c (by omega), hK c (by omega), Int.natCast_add, Int.natCast_mul]
theorem kxa_s {F : Nat} {K : Nat → Nat → Int} {Kp cs : Nat} (hK : ∀ i j, i < F → j < F → K i j = ((kK Kp i j : Nat) : Int)) (h : kxa F Kp cs = true) {w : Nat} (hw : w < 15) : ∃ x : Nat → Int, ∀ j, j < F → zmq F K x j = ((kxu w (kL cs j) : Nat) : Int) := by
  have h1 : kxe F Kp w cs (kxv F Kp w cs) = true := klt_s h w hw
  refine ⟨fun i => ((kxX (kxv F Kp w cs) i : Nat) : Int), fun j hj => ?_⟩
  have h2 := kbq.mp (klt_s h1 j hj)
  rw [← h2]
  exact kxt_z (fun i hi => hK i j hi hj) F (Nat.le_refl F)
noncomputable def kxm (n L f p : Nat) : Nat := kup (fun a r => cond (ktb f a) (Nat.lor r (Nat.pow 2 (kdg (kL L a) p))) r) 0 n
theorem kxm_t (L f p y : Nat) : ∀ n, (kxm n L f p).testBit y = true ↔ ∃ x, x < n ∧ f.testBit x = true ∧ gdg (kL L x) p = y
  | 0 => by
    show (Nat.testBit 0 y = true) ↔ _
    rw [Nat.zero_testBit]
    constructor
    · intro h
      exact absurd h (by decide)
    · rintro ⟨x, hx, -⟩
      omega
  | n + 1 => by
    have ih := kxm_t L f p y n
    show ((cond (ktb f n) (Nat.lor (kxm n L f p) (Nat.pow 2 (kdg (kL L n) p))) (kxm n L f p)).testBit y = true) ↔ _
    rw [kib]
    by_cases h : f.testBit n = true
    · rw [if_pos h]
      show ((kxm n L f p ||| 2 ^ gdg (kL L n) p).testBit y = true) ↔ _
      rw [Nat.testBit_or, Bool.or_eq_true, ih, Nat.testBit_two_pow, decide_eq_true_iff]
      constructor
      · rintro (⟨x, h1, h2, h3⟩ | h1)
        · exact ⟨x, by omega, h2, h3⟩
        · exact ⟨n, by omega, h, h1⟩
      · rintro ⟨x, h1, h2, h3⟩
        by_cases e : x = n
        · rw [e] at h3
          exact Or.inr h3
        · exact Or.inl ⟨x, by omega, h2, h3⟩
    · rw [if_neg h, ih]
      constructor
      · rintro ⟨x, h1, h2⟩
        exact ⟨x, by omega, h2⟩
      · rintro ⟨x, h1, h2, h3⟩
        by_cases e : x = n
        · rw [e] at h2
          exact absurd h2 h
        · exact ⟨x, by omega, h2, h3⟩
theorem kxm_z {n L f p : Nat} : kxm n L f p = zrch n (kL L) f p := Nat.eq_of_testBit_eq fun q => by
  rw [Bool.eq_iff_iff, kxm_t, zrch_t]
theorem kxd_c {R R' : Nat → Nat} {P : Nat} (h : ∀ p, p < P → R p = R' p) : kxd R P = kxd R' P := by
  have h2 : ∀ n, n ≤ P → kxd R n = kxd R' n := by
    intro n
    induction n with
    | zero => exact fun _ => rfl
    | succ n ih =>
      intro hn
      show cond (Nat.beq (Nat.mod (R n) (Nat.pow 2 n)) 0) (Nat.add (kxd R n) (Nat.pow 8 (Nat.pred (kxp (R n))))) (kxd R n) = cond (Nat.beq (Nat.mod (R' n) (Nat.pow 2 n)) 0) (Nat.add (kxd R' n) (Nat.pow 8 (Nat.pred (kxp (R' n))))) (kxd R' n)
      rw [ih (by omega), h n (by omega)]
  exact h2 P (Nat.le_refl P)
theorem kxr_z {P : Nat} {T : zGT} {c : Nat → Nat} {B : Nat} : kxr (zrr P T c B) = kxd (zrch (gN T) c B) P := by
  unfold kxr
  rw [zrr_l]
  exact kxd_c (fun p hp => zrr_g hp)
noncomputable def kxf (n L P cs : Nat) (F : List Nat) : Nat → Bool := List.rec (fun _ => true) (fun f _ ih j => cond (Nat.beq (kxd (kxm n L f) P) (kL cs j)) (ih (Nat.succ j)) false) F
theorem kxf_s {n L P cs : Nat} : ∀ {F : List Nat} {j0 : Nat}, kxf n L P cs F j0 = true → ∀ j, j < F.length → kxd (kxm n L (F.getD j 0)) P = kL cs (j0 + j)
  | [], _, _, j, hj => absurd hj (Nat.not_lt_zero _)
  | f :: F, j0, h, j, hj => by
    have h2 : Nat.beq (kxd (kxm n L f) P) (kL cs j0) = true ∧ kxf n L P cs F (Nat.succ j0) = true := kcd.mp h
    match j with
    | 0 => exact kbq.mp h2.1
    | j + 1 =>
      have h3 := kxf_s h2.2 j (by simpa using hj)
      rw [show j0 + (j + 1) = Nat.succ j0 + j by omega]
      exact h3
noncomputable def kxX3 (q i : Nat) : Nat := Nat.mod (Nat.shiftRight q (Nat.mul 6 i)) 64
noncomputable def kxq (n : Nat) (F PS : List Nat) (e q i : Nat) : Bool := cond (Nat.beq (kxX3 q i) 63) (kex n (fun a => kex i (fun p => Nat.ble i (kdg (kL (eL e) a) p)))) (cond (kmem PS (knth PS (kxX3 q i))) (kxf n (eL e) i (knth PS (kxX3 q i)) F 0) false)
noncomputable def kx43 (m Kp n : Nat) (F PS E Q : List Nat) : Bool := cond (kall PS (fun cs => kxa m Kp cs)) (k2 (fun e q => klt 7 (fun i => kxq n F PS e q i)) E Q) false
def gX43 (T : zGT) (e : Nat) : Prop := ∀ P, P ≤ 6 → (∀ a, a < gN T → ∀ p, p < P → gdg (kL (eL e) a) p < P) → ∃ cs : Nat, (∀ j, j < (gF T).length → kxd (zrch (gN T) (kL (eL e)) (gFn T j)) P = kL cs j) ∧ ∀ w, w < 15 → ∃ x : Nat → Int, ∀ j, j < (gF T).length → zmq (gF T).length (gmkI T) x j = ((kxu w (kL cs j) : Nat) : Int)
theorem kx43_s {T : zGT} {l : List Nat} {Kp : Nat} {KL PS E Q : List Nat} (ol : gOL T l Kp KL) (h : kx43 (gF T).length Kp (gN T) (gF T) PS E Q = true) : ∀ e ∈ E, gX43 T e := by
  obtain ⟨h1, h2⟩ := kcd.mp h
  have hK : ∀ i j, i < (gF T).length → j < (gF T).length → gmkI T i j = ((kK Kp i j : Nat) : Int) := fun i j hi hj => by
    unfold gmkI
    rw [ol.2.2.2.2.2.2.1 i j hi hj]
  intro e he P p6 hl
  obtain ⟨q, hq⟩ := k2_s h2 e he
  have h3 : kxq (gN T) (gF T) PS e q P = true := klt_s hq P (by omega)
  unfold kxq at h3
  cases hb : Nat.beq (kxX3 q P) 63 with
  | true =>
    rw [hb] at h3
    have h4 : kex (gN T) (fun a => kex P (fun p => Nat.ble P (kdg (kL (eL e) a) p))) = true := h3
    obtain ⟨a, ha, h5⟩ := kex_s h4
    obtain ⟨p, hp, h6⟩ := kex_s h5
    have h7 : P ≤ gdg (kL (eL e) a) p := kbl.mp h6
    have := hl a ha p hp
    omega
  | false =>
    rw [hb] at h3
    obtain ⟨h4, h5⟩ := kcd.mp (show cond (kmem PS (knth PS (kxX3 q P))) (kxf (gN T) (eL e) P (knth PS (kxX3 q P)) (gF T) 0) false = true from h3)
    refine ⟨_, fun j hj => ?_, fun w hw => kxa_s hK (kall_s h1 _ (kmem_s h4)) hw⟩
    have h6 := kxf_s h5 j hj
    rw [Nat.zero_add] at h6
    rw [← h6]
    exact kxd_c (fun p _ => kxm_z.symm)
theorem zsq_x {F : Nat} {K : Nat → Nat → Int} {m x : Nat → Int} (hA : zTA F K) (hx : ∀ j, j < F → zmq F K x j = m j) : ∀ d j, F - j ≤ d → j < F → zsq F K m j = x j
  | 0, j, hd, hj => absurd hd (by omega)
  | d + 1, j, hd, hj => by
    have h5 := hA.2.2.2.1 j hj
    have e1 : zsm (fun t => zsq F K m (j + 1 + t) * K (j + 1 + t) j) (F - 1 - j) = zsm (fun t => x (j + 1 + t) * K (j + 1 + t) j) (F - 1 - j) := zsm_c _ (fun t ht => by rw [zsq_x hA hx d (j + 1 + t) (by omega) (by omega)])
    rw [zsq_e hj, e1, ← hx j hj, zmq_tail hA hj, Int.add_sub_cancel, Int.mul_tdiv_cancel _ (by omega)]
theorem zsq_m {F : Nat} {K : Nat → Nat → Int} {m x : Nat → Int} (hA : zTA F K) (hx : ∀ j, j < F → zmq F K x j = m j) {k : Nat} (hk : k < F) : zmq F K (zsq F K m) k = m k := by
  rw [zmq_c (fun i hi => zsq_x hA hx F i (by omega) hi) k]
  exact hx k hk
theorem gXE {T : zGT} {E : List Nat} (h : kTab T E) (hT : T ∈ gTabs) (h2 : ∀ e ∈ E, gX43 T e) : ∀ e ∈ E, ∃ U ∈ gTabs, gGdE [U] e ∧ gX43 U e := fun e he => ⟨T, hT, (h.2 [T] List.mem_cons_self e he).1, h2 e he⟩
