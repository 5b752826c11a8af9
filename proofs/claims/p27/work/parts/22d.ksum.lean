theorem z64q {v a : Int} (hv : zn64 v) (ha : zn64 a) (h : Int64.ofInt v = Int64.ofInt a) : v = a := by
  have := congrArg Int64.toInt h
  rwa [z64 hv, z64 ha] at this
theorem zq_t {a b : Int} (a0 : -4611686018427387903 ≤ a) (a1 : a ≤ 4611686018427387903) (b0 : 1 ≤ b) (b1 : b ≤ 4611686018427387903) : zlquo a b = a.tdiv b := by
  have ha : zn64 a := ⟨by omega, by omega⟩
  have hb : zn64 b := ⟨by omega, by omega⟩
  unfold zlquo
  rw [Int64.toInt_div_of_ne_left _ _ (fun e => by
    have := congrArg Int64.toInt e
    rw [z64 ha, Int64.toInt_minValue] at this
    omega), z64 ha, z64 hb]
theorem zq_x {u m : Int} (h0 : -4611686018427387903 ≤ u * m) (h1 : u * m ≤ 4611686018427387903) (m0 : 1 ≤ m) (m1 : m ≤ 4611686018427387903) : zlquo (u * m) m = u := by
  rw [zq_t h0 h1 m0 m1]
  exact Int.mul_tdiv_cancel _ (by omega)
theorem zq_l {m o : Int} (m0 : 1 ≤ m) (m1 : m ≤ 1000000000000) : zlquo 1000000000000 m < o ↔ 1000000000000 < o * m := by
  rw [zq_t (by decide) (by decide) m0 (by omega), Int.tdiv_eq_ediv_of_nonneg (by decide)]
  exact Int.ediv_lt_iff_lt_mul (by omega)
theorem zmo {m o x y : Int} (hx : (0 < m ∧ x = m) ∨ (m ≤ 0 ∧ x = -m)) (hy : (0 < o ∧ y = o) ∨ (o ≤ 0 ∧ y = -o)) : (-1000000000000 ≤ m * o ∧ m * o ≤ 1000000000000) ↔ y * x ≤ 1000000000000 := by
  have e : ((m * o).natAbs : Int) = y * x := by
    rw [show x = (m.natAbs : Int) by omega, show y = (o.natAbs : Int) by omega, Int.natAbs_mul, Int.mul_comm]
    rfl
  rw [← e]
  omega
section ZKS
variable {l : Launch} {k : zMeth} {X : Nat × Nat} {Mz : zMem} {pc : Nat} {L : List (Option Value)} {S : List Value} {Q : Option Value → zMem → Prop} {a b : Int} {d : Nat}
theorem zk_absJ {ix : Nat} (hlk : Cond.methodLink (zR (zo k)) ix Lib.MathLoose.abs_long.x ∈ z_tbl) (hR : 1 ≤ zF k ∧ 30 ≤ zLo k) (hc8 : (S.map fun v => v.category).sum ≤ 8) (hd : decode (zb k) pc = .ok (.invokestatic ix, 3)) (ha : zn64 a) (kk : ∀ v : Int, ((0 < a ∧ v = a) ∨ (a ≤ 0 ∧ v = -a)) → zW l k X Mz (pc + 3) L (.long (Int64.ofInt v) :: S) Q) : zW l k X Mz pc L (.long (Int64.ofInt a) :: S) Q := by
  refine zw_mabsl hlk hR hc8 hd (fun v hv => ?_)
  have e : v = Int64.ofInt (if 0 < a then a else -a) := by
    rw [hv]
    have h0 : (0 : Int64) = Int64.ofInt 0 := by decide
    have hlt : (0 : Int64) < Int64.ofInt a ↔ 0 < a := by
      rw [h0, Int64.lt_iff_toInt_lt, z64 ha, z64 ⟨by decide, by decide⟩]
    by_cases h : 0 < a
    · rw [if_pos (hlt.mpr h), if_pos h]
    · rw [if_neg (fun z => h (hlt.mp z)), if_neg h, Int64.ofInt_neg]
  rw [e]
  exact kk _ (by split <;> omega)
end ZKS
def zKm (F : Nat) (K : Nat → Nat → Int) (d : Nat) (Mz : zMem) : Prop := ze Mz (d + 12) 7 = F ∧ ∀ i j, i < F → j < F → ze Mz (d + 22) (27 * i + j) = K i j
section ZKF
variable {d : Nat} {FA : List (Nat × Nat)} {CA : List Nat} {FR : List (Nat × Nat)} {CR : List Nat} {Mz Nz : zMem} {F : Nat} {K : Nat → Nat → Int}
theorem zKm.fr (_ : zKW d Mz) (hf : zFc d FA CA FR CR Mz Nz) (h : zKm F K d Mz) (hd : (12 < 38 ∧ 12 ∉ CR ∧ (12, 7) ∉ FR) ∧ 22 < 38 ∧ 22 ∉ CR ∧ ∀ x ∈ FR, x.1 ≠ 22) : zKm F K d Nz :=
  ⟨(hf.e hd.1).trans h.1, fun i j hi hj => (hf.r hd.2 _).trans (h.2 i j hi hj)⟩
theorem zKm.k (h : zKm F K d Mz) {i j v : Int} (i0 : 0 ≤ i) (i1 : i < F) (j0 : 0 ≤ j) (j1 : j < F) (hv : v = ze Mz (d + 22) (i * 27 + j).toNat) : v = K i.toNat j.toNat := by
  rw [hv, show (i * 27 + j).toNat = 27 * i.toNat + j.toNat by omega]
  exact h.2 _ _ (by omega) (by omega)
def zSh (m : Int) (d : Nat) (Mz Nz : zMem) (s : Int) (f : Nat → Int) : Prop := ∀ x : Nat, zg Nz (d + 25) x = if 27 * s ≤ x ∧ (x : Int) < 27 * s + m then f ((x : Int) - 27 * s).toNat else zg Mz (d + 25) x
def zS1 (d : Nat) (Mz Nz : zMem) (e v : Int) : Prop := ∀ x : Nat, zg Nz (d + 25) x = if (x : Int) = e then v else zg Mz (d + 25) x
def zvc (F d : Nat) (Mz : zMem) (s : Int) : Nat → Int := fun k => if k < F then zg Mz (d + 25) (27 * s.toNat + k) else 0
theorem zSh_0 {s : Int} {f : Nat → Int} : zSh 0 d Mz Mz s f := fun x => by rw [if_neg (by omega)]
theorem zS1_i {e v : Int} (h : Nz = zsJ Mz (d + 25) e.toNat (Int64.ofInt v)) (hv : zn64 v) (e0 : 0 ≤ e) : zS1 d Mz Nz e v := fun x => by
  by_cases g : (x : Int) = e
  · rw [if_pos g, show x = e.toNat by omega]
    exact zs_getJ h hv
  · rw [if_neg g]
    exact zs_othJ h (by omega)
theorem zSh_s {Pz : zMem} {m s v e : Int} {f : Nat → Int} (h : zSh m d Mz Nz s f) (h1 : zS1 d Nz Pz e v) (he : e = s * 27 + m) (m0 : 0 ≤ m) (hv : v = f m.toNat) : zSh (m + 1) d Mz Pz s f := fun x => by
  rw [h1 x]
  by_cases g : (x : Int) = e
  · rw [if_pos g, if_pos (by omega), hv, show ((x : Int) - 27 * s).toNat = m.toNat by omega]
  · rw [if_neg g, h x]
    by_cases g2 : 27 * s ≤ x ∧ (x : Int) < 27 * s + m
    · rw [if_pos g2, if_pos (by omega)]
    · rw [if_neg g2, if_neg (by omega)]
theorem zSh_p {Pz : zMem} {m s : Int} {f : Nat → Int} (h : ∀ x : Nat, zg Nz (d + 25) x = zg Mz (d + 25) x) (h2 : zSh m d Nz Pz s f) : zSh m d Mz Pz s f := fun x => by rw [h2 x, h x]
theorem zSh_a {m s v : Int} {f : Nat → Int} (h : zSh m d Mz Nz s f) {x : Nat} (hv : v = zg Nz (d + 25) x) (hx : ¬ (27 * s ≤ x ∧ (x : Int) < 27 * s + m)) : v = zg Mz (d + 25) x := by
  rw [hv, h x, if_neg hx]
theorem zvc_at {s : Int} {k : Nat} (hk : k < F) (s0 : 0 ≤ s) {v : Int} {x : Nat} (hv : v = zg Mz (d + 25) x) (hx : (x : Int) = s * 27 + k) : v = zvc F d Mz s k := by
  unfold zvc
  rw [if_pos hk, hv, show x = 27 * s.toNat + k by omega]
theorem zSh_n {s : Int} {f : Nat → Int} (s0 : 0 ≤ s) (h : zSh F d Mz Nz s f) : zvc F d Nz s = fun k => if k < F then f k else 0 := by
  funext k
  unfold zvc
  by_cases g : k < F
  · rw [if_pos g, if_pos g, h, if_pos (by omega), show (((27 * s.toNat + k : Nat) : Int) - 27 * s).toNat = k by omega]
  · rw [if_neg g, if_neg g]
theorem zSh_o {s t : Int} {f : Nat → Int} (hF : F ≤ 27) (s0 : 0 ≤ s) (t0 : 0 ≤ t) (hst : s ≠ t) (h : zSh F d Mz Nz s f) : zvc F d Nz t = zvc F d Mz t := by
  funext k
  unfold zvc
  by_cases g : k < F
  · rw [if_pos g, if_pos g, h, if_neg (by omega)]
  · rw [if_neg g, if_neg g]
theorem zvc_f (hf : zFc d FA CA FR CR Mz Nz) (hd : 25 < 38 ∧ 25 ∉ CR ∧ ∀ x ∈ FR, x.1 ≠ 25) (s : Int) : zvc F d Nz s = zvc F d Mz s := by
  funext k
  unfold zvc
  rw [hf.rg hd]
theorem zvc_r (h : ∀ x : Nat, zg Nz (d + 25) x = zg Mz (d + 25) x) (s : Int) : zvc F d Nz s = zvc F d Mz s := by
  funext k
  unfold zvc
  rw [h]
theorem zmq_s {f : Nat → Int} {u w x y v : Int} (hi : Int64.ofInt u = Int64.ofInt (zsm f w.toNat)) (hv : Int64.ofInt v = Int64.ofInt (u + x * y)) (w0 : 0 ≤ w) (hf : f w.toNat = x * y) : Int64.ofInt v = Int64.ofInt (zsm f (w + 1).toNat) := by
  rw [show (w + 1).toNat = w.toNat + 1 by omega]
  show _ = Int64.ofInt (zsm f w.toNat + f w.toNat)
  rw [hv, Int64.ofInt_add, hi, hf, ← Int64.ofInt_add]
def zbd (F : Nat) (K : Nat → Nat → Int) (v : Nat → Int) : Prop := ∀ i, i < F → (-9000000000000000000 ≤ v i ∧ v i ≤ 9000000000000000000) ∧ -9000000000000000000 ≤ zmq F K v i ∧ zmq F K v i ≤ 9000000000000000000
theorem zfit.b {v : Nat → Int} (h : zfit F K v) : zbd F K v := fun i hi => by
  have := h i hi
  unfold zLim at this
  omega
def zft (F : Nat) (K : Nat → Nat → Int) (v : Nat → Int) (m : Int) : Prop := ∀ i : Nat, i < F → (i : Int) < m → (-zLim ≤ v i ∧ v i ≤ zLim) ∧ -zLim ≤ zmq F K v i ∧ zmq F K v i ≤ zLim
theorem zft_0 {v : Nat → Int} : zft F K v 0 := fun i _ h => absurd h (by omega)
theorem zft_s {v : Nat → Int} {m : Int} (h : zft F K v m) (m0 : 0 ≤ m) (h1 : (-zLim ≤ v m.toNat ∧ v m.toNat ≤ zLim) ∧ -zLim ≤ zmq F K v m.toNat ∧ zmq F K v m.toNat ≤ zLim) : zft F K v (m + 1) := fun i hi him => by
  by_cases g : (i : Int) = m
  · rw [show i = m.toNat by omega]
    exact h1
  · exact h i hi (by omega)
theorem zft_e {v : Nat → Int} {m : Int} (h : zft F K v m) (hm : (F : Int) ≤ m) : zfit F K v := fun i hi => h i hi (by omega)
def zsv (F : Nat) (K : Nat → Nat → Int) (d : Nat) (Mz : zMem) (u : Nat → Int) : Prop := (∀ j, j < F → zg Mz (d + 27) j = zmq F K u j) ∧ ∀ i, i < F → -100000000000000000 ≤ u i * K i i ∧ u i * K i i ≤ 100000000000000000
def zUp (F d : Nat) (Mz Nz : zMem) (s : Int) (u : Nat → Int) (j : Int) : Prop := ∀ x : Nat, (¬ (27 * s ≤ x ∧ (x : Int) < 27 * s + F) → zg Nz (d + 25) x = zg Mz (d + 25) x) ∧ (27 * s + j < x → (x : Int) < 27 * s + F → zg Nz (d + 25) x = u ((x : Int) - 27 * s).toNat)
def zOu (F d : Nat) (Mz Nz : zMem) (s : Int) : Prop := ∀ x : Nat, ¬ (27 * s ≤ x ∧ (x : Int) < 27 * s + F) → zg Nz (d + 25) x = zg Mz (d + 25) x
theorem zin_0 {u : Nat → Int} {r j : Int} (j0 : 0 ≤ j) (h : zsv F K d Mz u) (jF : j < F) (hr : r = zg Mz (d + 27) j.toNat) : Int64.ofInt r = Int64.ofInt (zmq F K u j.toNat - zsm (fun t => u (j.toNat + 1 + t) * K (j.toNat + 1 + t) j.toNat) (j + 1 - j - 1).toNat) := by
  rw [show (j + 1 - j - 1).toNat = 0 by omega, hr, h.1 _ (by omega)]
  show _ = Int64.ofInt (_ - 0)
  rw [Int.sub_zero]
theorem zin_s {Pz : zMem} {u : Nat → Int} {r v x y i j s : Int} (h : Int64.ofInt r = Int64.ofInt (zmq F K u j.toNat - zsm (fun t => u (j.toNat + 1 + t) * K (j.toNat + 1 + t) j.toNat) (i - j - 1).toNat)) (hv : Int64.ofInt v = Int64.ofInt (r - x * y)) (j0 : 0 ≤ j) (ji : j < i) (iF : i < F) (s0 : 0 ≤ s) (hU : zUp F d Mz Pz s u j) (hx : x = zg Pz (d + 25) (s * 27 + i).toNat) (hy : y = K i.toNat j.toNat) : Int64.ofInt v = Int64.ofInt (zmq F K u j.toNat - zsm (fun t => u (j.toNat + 1 + t) * K (j.toNat + 1 + t) j.toNat) (i + 1 - j - 1).toNat) := by
  have ex : x = u i.toNat := by
    rw [hx, (hU _).2 (by omega) (by omega)]
    congr 1
    omega
  have ei : j.toNat + 1 + (i - j - 1).toNat = i.toNat := by omega
  rw [show (i + 1 - j - 1).toNat = (i - j - 1).toNat + 1 by omega]
  show _ = Int64.ofInt (_ - (zsm _ (i - j - 1).toNat + u (j.toNat + 1 + (i - j - 1).toNat) * K (j.toNat + 1 + (i - j - 1).toNat) j.toNat))
  rw [ei, hv, Int64.ofInt_sub, h, ← Int64.ofInt_sub, ex, hy]
  congr 1
  omega
theorem zin_e (hA : zTA F K) {u : Nat → Int} {r j q m : Int} (h : Int64.ofInt r = Int64.ofInt (zmq F K u j.toNat - zsm (fun t => u (j.toNat + 1 + t) * K (j.toNat + 1 + t) j.toNat) (F - j - 1).toNat)) (hs : zsv F K d Mz u) (hr : zn64 r) (j0 : 0 ≤ j) (jF : j < F) (hm : m = K j.toNat j.toNat) (hq : q = zlquo r m) : q = u j.toNat := by
  have h1 := zmq_tail hA (u := u) (j := j.toNat) (by omega)
  rw [show ((F : Int) - j - 1).toNat = F - 1 - j.toNat by omega, h1, Int.add_sub_cancel] at h
  have h2 := hs.2 j.toNat (by omega)
  have h3 := hA.2.1 j.toNat j.toNat (by omega) (by omega)
  have h4 := hA.2.2.2.1 j.toNat (by omega)
  rw [hq, hm, z64q hr ⟨by omega, by omega⟩ h]
  exact zq_x (by omega) (by omega) (by omega) (by omega)
theorem zUp_0 {s j : Int} {u : Nat → Int} (hj : (F : Int) - 1 ≤ j) : zUp F d Mz Mz s u j := fun x => ⟨fun _ => rfl, fun h1 h2 => absurd h2 (by omega)⟩
theorem zUp_s {Pz : zMem} {s j e v : Int} {u : Nat → Int} (h : zUp F d Mz Nz s u j) (h1 : zS1 d Nz Pz e v) (he : e = s * 27 + j) (j0 : 0 ≤ j) (jF : j < F) (hv : v = u j.toNat) : zUp F d Mz Pz s u (j - 1) := fun x => by
  refine ⟨fun g => ?_, fun g1 g2 => ?_⟩
  · rw [h1 x, if_neg (by omega)]
    exact (h x).1 g
  · rw [h1 x]
    by_cases g : (x : Int) = e
    · rw [if_pos g, hv, show ((x : Int) - 27 * s).toNat = j.toNat by omega]
    · rw [if_neg g]
      exact (h x).2 (by omega) g2
theorem zOu_s {Pz : zMem} {s j e v : Int} (h : zOu F d Mz Nz s) (h1 : zS1 d Nz Pz e v) (he : e = s * 27 + j) (j0 : 0 ≤ j) (jF : j < F) : zOu F d Mz Pz s := fun x g => by
  rw [h1 x, if_neg (by omega)]
  exact h x g
theorem zUp_e {s j : Int} {u : Nat → Int} (h : zUp F d Mz Nz s u j) (hj : j < 0) : zSh F d Mz Nz s u := fun x => by
  by_cases g : 27 * s ≤ x ∧ (x : Int) < 27 * s + F
  · rw [if_pos g]
    exact (h x).2 (by omega) g.2
  · rw [if_neg g]
    exact (h x).1 g
def zmp (F : Nat) (K : Nat → Nat → Int) (d : Nat) (Nz : zMem) (v w : Nat → Int) (m : Int) : Prop := ∀ j : Nat, j < F → (j : Int) < m → (-zLim ≤ zmq F K v j * zmq F K w j ∧ zmq F K v j * zmq F K w j ≤ zLim) ∧ zg Nz (d + 27) j = zmq F K v j * zmq F K w j
theorem zmp_0 {v w : Nat → Int} : zmp F K d Nz v w 0 := fun j _ h => absurd h (by omega)
theorem zmp_s {Pz : zMem} {v w : Nat → Int} {m x y p : Int} (h : zmp F K d Nz v w m) (hP : Pz = zsJ Nz (d + 27) m.toNat (Int64.ofInt p)) (hp : p = x * y) (hx : x = zmq F K v m.toNat) (hy : y = zmq F K w m.toNat) (hb : -1000000000000 ≤ x * y ∧ x * y ≤ 1000000000000) (m0 : 0 ≤ m) : zmp F K d Pz v w (m + 1) := fun j hj hm => by
  by_cases g : (j : Int) = m
  · rw [show j = m.toNat by omega, zs_getJ hP ⟨by omega, by omega⟩, ← hx, ← hy]
    exact ⟨hb, hp⟩
  · rw [zs_othJ hP (by omega)]
    exact h j hj (by omega)
theorem zmp_e (hA : zTA F K) {v w : Nat → Int} {m : Int} (h : zmp F K d Nz v w m) (hm : (F : Int) ≤ m) : zmok F K v w ∧ zsv F K d Nz (zprd F K v w) := by
  have hp := zprd_s hA v w
  have h1 : zmok F K v w := fun j hj => (h j hj (by omega)).1
  refine ⟨h1, fun j hj => ?_, hA.2.2.2.2.2.1 _ (fun j hj => ?_)⟩
  · rw [hp.2 j hj]
    exact (h j hj (by omega)).2
  · rw [hp.2 j hj]
    exact h1 j hj
end ZKF
set_option maxHeartbeats 4000000 in
theorem u_Sums_numberAt (l : Launch) (d_ : Nat) (Mz : zMem) (hW : zKW d_ Mz) (a0_ : Int) (ha0_a : -2147483648 ≤ a0_) (ha0_b : a0_ < 2147483648) (a1_ : Int) (ha1_a : -2147483648 ≤ a1_) (ha1_b : a1_ < 2147483648) (p0_ : 0 ≤ a0_) (p1_ : a0_ ≤ 39) (p2_ : 0 ≤ a1_) (p3_ : a1_ ≤ 26) : zC l m_Sums_numberAt 0 0 [.ref (d_ + 23), .int (Int32.ofInt a0_), .int (Int32.ofInt a1_)] Mz (zqcJ d_ [] [] [] [] Mz (fun v N => v = zg Mz (d_ + 25) (a0_ * 27 + a1_).toNat)) := by
  refine zC_of (L0 := [some (.ref (d_ + 23)), some (.int (Int32.ofInt a0_)), some (.int (Int32.ofInt a1_))]) md_Sums_numberAt (Nat.le_of_ble_eq_true rfl) rfl ?_ zQ0
  have hf : zFc d_ [] [] [] [] Mz Mz := zFc.rf
  refine zw_aload_n (pc := 0) (n := 0) (x := (d_ + 23)) rfl (zdal_p dlA_Sums_numberAt_146 (i := 0) rfl) ?_
  refine zw_getF (pc := 1) f_Sums_16 rfl ((hf.w hW).kr (o := 23) (by decide)) ((hf.w hW).lr (o := 23) (s := 1) (r := 24) (by decide)) (zdal_p dlA_Sums_numberAt_146 (i := 1) rfl) ?_
  refine zw_iload_n (pc := 4) (n := 1) (x := Int32.ofInt a0_) rfl (zdal_p dlA_Sums_numberAt_146 (i := 2) rfl) ?_
  refine zw_bipush (pc := 5) (v := Int32.ofInt 27) (by decide) (zdal_p dlA_Sums_numberAt_146 (i := 3) rfl) ?_
  refine zr_imul (pc := 7) (zdal_p dlA_Sums_numberAt_146 (i := 4) rfl) ?_
  refine zw_iload_n (pc := 8) (n := 2) (x := Int32.ofInt a1_) rfl (zdal_p dlA_Sums_numberAt_146 (i := 5) rfl) ?_
  refine zr_iadd (pc := 9) (zdal_p dlA_Sums_numberAt_146 (i := 6) rfl) ?_
  refine zk_atJ hf.x (pc := 10) l_Sums_27 ((hf.w hW).kr (o := 24) (by decide)) ((hf.w hW).lr (o := 24) (s := 0) (r := 25) (by decide)) ((hf.w hW).rr (o := 25) (t := 2) (n := 1080) (by decide)) (by decide) (by omega) (by omega) (by decide) (Nat.le_of_ble_eq_true rfl) (zdal_p dlA_Sums_numberAt_146 (i := 7) rfl) (fun v1_ hv1_ hv1_a hv1_b => ?_)
  exact zk_lret (pc := 13) rfl ⟨by omega, by omega⟩ hf (show v1_ = zg Mz (d_ + 25) (a0_ * 27 + a1_).toNat by first | assumption | omega) (zdal_p dlA_Sums_numberAt_146 (i := 8) rfl)
set_option maxHeartbeats 4000000 in
theorem u_Sums_putNumber (l : Launch) (d_ : Nat) (Mz : zMem) (hW : zKW d_ Mz) (a0_ : Int) (ha0_a : -2147483648 ≤ a0_) (ha0_b : a0_ < 2147483648) (a1_ : Int) (ha1_a : -2147483648 ≤ a1_) (ha1_b : a1_ < 2147483648) (a2_ : Int) (ha2_a : -9223372036854775808 ≤ a2_) (ha2_b : a2_ < 9223372036854775808) (p0_ : 0 ≤ a0_) (p1_ : a0_ ≤ 39) (p2_ : 0 ≤ a1_) (p3_ : a1_ ≤ 26) : zC l m_Sums_putNumber 0 0 [.ref (d_ + 23), .int (Int32.ofInt a0_), .int (Int32.ofInt a1_), .long (Int64.ofInt a2_)] Mz (zqcV d_ [] [] [] [25] Mz (fun N => zS1 d_ Mz N (a0_ * 27 + a1_) a2_)) := by
  refine zC_of (L0 := [some (.ref (d_ + 23)), some (.int (Int32.ofInt a0_)), some (.int (Int32.ofInt a1_)), some (.long (Int64.ofInt a2_)), none]) md_Sums_putNumber (Nat.le_of_ble_eq_true rfl) rfl ?_ zQ0
  have hf : zFc d_ [] [] [] [25] Mz Mz := zFc.rf
  refine zw_aload_n (pc := 0) (n := 0) (x := (d_ + 23)) rfl (zdal_p dlA_Sums_putNumber_152 (i := 0) rfl) ?_
  refine zw_getF (pc := 1) f_Sums_16 rfl ((hf.w hW).kr (o := 23) (by decide)) ((hf.w hW).lr (o := 23) (s := 1) (r := 24) (by decide)) (zdal_p dlA_Sums_putNumber_152 (i := 1) rfl) ?_
  refine zw_iload_n (pc := 4) (n := 1) (x := Int32.ofInt a0_) rfl (zdal_p dlA_Sums_putNumber_152 (i := 2) rfl) ?_
  refine zw_bipush (pc := 5) (v := Int32.ofInt 27) (by decide) (zdal_p dlA_Sums_putNumber_152 (i := 3) rfl) ?_
  refine zr_imul (pc := 7) (zdal_p dlA_Sums_putNumber_152 (i := 4) rfl) ?_
  refine zw_iload_n (pc := 8) (n := 2) (x := Int32.ofInt a1_) rfl (zdal_p dlA_Sums_putNumber_152 (i := 5) rfl) ?_
  refine zr_iadd (pc := 9) (zdal_p dlA_Sums_putNumber_152 (i := 6) rfl) ?_
  refine zw_lload_n (pc := 10) (n := 3) (x := Int64.ofInt a2_) rfl (zdal_p dlA_Sums_putNumber_152 (i := 7) rfl) ?_
  refine zk_stJ hf.x (pc := 11) (o := 25) (by decide) l_Sums_31 ((hf.w hW).kr (o := 24) (by decide)) ((hf.w hW).lr (o := 24) (s := 0) (r := 25) (by decide)) ((hf.w hW).rr (o := 25) (t := 2) (n := 1080) (by decide)) (by decide) (by omega) (by omega) (by decide) (Nat.le_of_ble_eq_true rfl) (zdal_p dlA_Sums_putNumber_152 (i := 8) rfl) (fun N1_ hN1_ hsN1_ => ?_)
  have hf_N1_ : zFc d_ [] [] [] [25] Mz N1_ := hf.tr hsN1_ (by decide) (by decide) (by decide) (by decide)
  exact zk_vret (pc := 14) rfl hf_N1_ (show zS1 d_ Mz N1_ (a0_ * 27 + a1_) a2_ by exact zS1_i hN1_ ⟨by omega, by omega⟩ (by omega)) (zdal_p dlA_Sums_putNumber_152 (i := 9) rfl)
set_option maxHeartbeats 4000000 in
theorem u_Sums_putSingle (l : Launch) (d_ : Nat) (Mz : zMem) (hW : zKW d_ Mz) (a0_ : Int) (ha0_a : -2147483648 ≤ a0_) (ha0_b : a0_ < 2147483648) (a1_ : Int) (ha1_a : -2147483648 ≤ a1_) (ha1_b : a1_ < 2147483648) (a2_ : Int) (ha2_a : -9223372036854775808 ≤ a2_) (ha2_b : a2_ < 9223372036854775808) (F_ : Nat) (K_ : Nat → Nat → Int) (hA_ : zTA F_ K_) (p0_ : zKm F_ K_ d_ Mz) (p1_ : 0 ≤ a0_) (p2_ : a0_ ≤ 39) : zC l m_Sums_putSingle 0 0 [.ref (d_ + 23), .int (Int32.ofInt a0_), .int (Int32.ofInt a1_), .long (Int64.ofInt a2_)] Mz (zqcV d_ [] [] [] [25] Mz (fun N => zSh F_ d_ Mz N a0_ (zone a1_ a2_))) := by
  refine zC_of (L0 := [some (.ref (d_ + 23)), some (.int (Int32.ofInt a0_)), some (.int (Int32.ofInt a1_)), some (.long (Int64.ofInt a2_)), none, none]) md_Sums_putSingle (Nat.le_of_ble_eq_true rfl) rfl ?_ zQ0
  have hf : zFc d_ [] [] [] [25] Mz Mz := zFc.rf
  have r_D12_7 := ze_r Mz (d_ + 12) 7
  obtain ⟨⟨hF1_, hF27_⟩, hAr_⟩ := id hA_
  obtain ⟨hFc_, hKt_⟩ := id p0_
  refine zw_iconst (pc := 0) (v := Int32.ofInt 0) (by decide) (zdal_p dlA_Sums_putSingle_61 (i := 0) rfl) ?_
  refine zw_istore (pc := 1) (i := 5) (L2 := [some (.ref (d_ + 23)), some (.int (Int32.ofInt a0_)), some (.int (Int32.ofInt a1_)), some (.long (Int64.ofInt a2_)), none, some (.int (Int32.ofInt 0))]) (by decide) rfl (zdal_p dlA_Sums_putSingle_61 (i := 1) rfl) ?_
  have lp_3 : ∀ (n : Nat) (u1_ : Int) (hu1_a : -2147483648 ≤ u1_) (hu1_b : u1_ < 2147483648) (N2_ : zMem) (hs3_ : zFc d_ [] [] [] [25] Mz N2_) (i4_ : 0 ≤ u1_) (i5_ : u1_ ≤ F_) (i6_ : zSh u1_ d_ Mz N2_ a0_ (zone a1_ a2_)), (ze Mz (d_ + 12) 7 - u1_).toNat < n → zW l m_Sums_putSingle (zn Mz + 0, zw Mz + 0) N2_ 3 [some (.ref (d_ + 23)), some (.int (Int32.ofInt a0_)), some (.int (Int32.ofInt a1_)), some (.long (Int64.ofInt a2_)), none, some (.int (Int32.ofInt u1_))] [] (zqcV d_ [] [] [] [25] Mz (fun N => zSh F_ d_ Mz N a0_ (zone a1_ a2_))) := by
    intro n
    induction n with
    | zero =>
      intro u1_ hu1_a hu1_b N2_ hs3_ i4_ i5_ i6_ h0
      exact absurd h0 (Nat.not_lt_zero _)
    | succ n ih_3 =>
      intro u1_ hu1_a hu1_b N2_ hs3_ i4_ i5_ i6_ hlt_3
      have hf_N2_ : zFc d_ [] [] [] [25] Mz N2_ := hf.tr hs3_ (by decide) (by decide) (by decide) (by decide)
      have eD12_7_N2_ : ze N2_ (d_ + 12) 7 = ze Mz (d_ + 12) 7 := hs3_.e (by decide)
      have c7_ : zKm F_ K_ d_ N2_ := zKm.fr (hf.w hW) hs3_ p0_ (by decide)
      refine zw_iload (pc := 3) (i := 5) (x := Int32.ofInt u1_) rfl (zdal_p dlA_Sums_putSingle_61 (i := 2) rfl) ?_
      refine zw_aload_n (pc := 5) (n := 0) (x := (d_ + 23)) rfl (zdal_p dlA_Sums_putSingle_61 (i := 3) rfl) ?_
      refine zw_getF (pc := 6) f_Sums_23 rfl ((hf_N2_.w hW).kr (o := 23) (by decide)) ((hf_N2_.w hW).lr (o := 23) (s := 0) (r := 12) (by decide)) (zdal_p dlA_Sums_putSingle_61 (i := 4) rfl) ?_
      refine zk_getI (pc := 9) f_Sums_35 rfl ((hf_N2_.w hW).kr (o := 12) (by decide)) (zdal_p dlA_Sums_putSingle_61 (i := 5) rfl) ?_
      rw [hf_N2_.e (by decide)]
      refine zr_icmp_ge (pc := 12) (tgt := 46) ⟨hu1_a, hu1_b⟩ ⟨(ze_r Mz (d_ + 12) 7).1, (ze_r Mz (d_ + 12) 7).2⟩ (by decide) (zdal_p dlA_Sums_putSingle_61 (i := 6) rfl) (fun hc_12 => ?_) (fun hc_12 => ?_)
      · skip
        exact zk_vret (pc := 46) rfl hf_N2_ (show zSh F_ d_ Mz N2_ a0_ (zone a1_ a2_) by rw [show (F_ : Int) = u1_ by omega]; assumption) (zdal_p dlA_Sums_putSingle_61 (i := 23) rfl)
      · skip
        refine zw_aload_n (pc := 15) (n := 0) (x := (d_ + 23)) rfl (zdal_p dlA_Sums_putSingle_61 (i := 7) rfl) ?_
        refine zw_getF (pc := 16) f_Sums_16 rfl ((hf_N2_.w hW).kr (o := 23) (by decide)) ((hf_N2_.w hW).lr (o := 23) (s := 1) (r := 24) (by decide)) (zdal_p dlA_Sums_putSingle_61 (i := 8) rfl) ?_
        refine zw_iload_n (pc := 19) (n := 1) (x := Int32.ofInt a0_) rfl (zdal_p dlA_Sums_putSingle_61 (i := 9) rfl) ?_
        refine zw_bipush (pc := 20) (v := Int32.ofInt 27) (by decide) (zdal_p dlA_Sums_putSingle_61 (i := 10) rfl) ?_
        refine zr_imul (pc := 22) (zdal_p dlA_Sums_putSingle_61 (i := 11) rfl) ?_
        refine zw_iload (pc := 23) (i := 5) (x := Int32.ofInt u1_) rfl (zdal_p dlA_Sums_putSingle_61 (i := 12) rfl) ?_
        refine zr_iadd (pc := 25) (zdal_p dlA_Sums_putSingle_61 (i := 13) rfl) ?_
        refine zw_iload (pc := 26) (i := 5) (x := Int32.ofInt u1_) rfl (zdal_p dlA_Sums_putSingle_61 (i := 14) rfl) ?_
        refine zw_iload_n (pc := 28) (n := 2) (x := Int32.ofInt a1_) rfl (zdal_p dlA_Sums_putSingle_61 (i := 15) rfl) ?_
        refine zr_icmp_ne (pc := 29) (tgt := 36) ⟨hu1_a, hu1_b⟩ ⟨ha1_a, ha1_b⟩ (by decide) (zdal_p dlA_Sums_putSingle_61 (i := 16) rfl) (fun hc_29 => ?_) (fun hc_29 => ?_)
        · skip
          refine zw_lconst (pc := 36) (v := Int64.ofInt 0) (by decide) (zdal_p dlA_Sums_putSingle_61 (i := 19) rfl) ?_
          refine zk_stJ hf_N2_.x (pc := 37) (o := 25) (by decide) l_Sums_31 ((hf_N2_.w hW).kr (o := 24) (by decide)) ((hf_N2_.w hW).lr (o := 24) (s := 0) (r := 25) (by decide)) ((hf_N2_.w hW).rr (o := 25) (t := 2) (n := 1080) (by decide)) (by decide) (by omega) (by omega) (by decide) (Nat.le_of_ble_eq_true rfl) (zdal_p dlA_Sums_putSingle_61 (i := 20) rfl) (fun N8_ hN8_ hsN8_ => ?_)
          have hf_N8_ : zFc d_ [] [] [] [25] Mz N8_ := hf_N2_.tr hsN8_ (by decide) (by decide) (by decide) (by decide)
          have hb0_N8_ : zFc d_ [] [] [] [25] Mz N8_ := hs3_.tr hsN8_ (by decide) (by decide) (by decide) (by decide)
          have eD12_7_N8_ : ze N8_ (d_ + 12) 7 = ze N2_ (d_ + 12) 7 := hsN8_.e (by decide)
          have c9_ : zKm F_ K_ d_ N8_ := zKm.fr (hf_N2_.w hW) hsN8_ c7_ (by decide)
          have hs1_ := zSh_s (show zSh u1_ d_ Mz N2_ a0_ (zone a1_ a2_) by assumption) (zS1_i hN8_ ⟨by omega, by omega⟩ (by omega)) rfl (by omega) (by unfold zone; split <;> omega)
          refine zr_iinc (pc := 40) (i := 5) (a := u1_) (n := 1) (L2 := [some (.ref (d_ + 23)), some (.int (Int32.ofInt a0_)), some (.int (Int32.ofInt a1_)), some (.long (Int64.ofInt a2_)), none, some (.int (Int32.ofInt (u1_ + 1)))]) rfl (by decide) rfl (zdal_p dlA_Sums_putSingle_61 (i := 21) rfl) ?_
          refine zw_goto (pc := 43) (tgt := 3) (by decide) (zdal_p dlA_Sums_putSingle_61 (i := 22) rfl) ?_
          exact ih_3 (u1_ + 1) (by omega) (by omega) N8_ hb0_N8_ (show 0 ≤ (u1_ + 1) by first | assumption | omega) (show (u1_ + 1) ≤ F_ by first | assumption | omega) (show zSh (u1_ + 1) d_ Mz N8_ a0_ (zone a1_ a2_) by exact hs1_) (by omega)
        · skip
          refine zw_lload_n (pc := 32) (n := 3) (x := Int64.ofInt a2_) rfl (zdal_p dlA_Sums_putSingle_61 (i := 17) rfl) ?_
          refine zw_goto (pc := 33) (tgt := 37) (by decide) (zdal_p dlA_Sums_putSingle_61 (i := 18) rfl) ?_
          refine zk_stJ hf_N2_.x (pc := 37) (o := 25) (by decide) l_Sums_31 ((hf_N2_.w hW).kr (o := 24) (by decide)) ((hf_N2_.w hW).lr (o := 24) (s := 0) (r := 25) (by decide)) ((hf_N2_.w hW).rr (o := 25) (t := 2) (n := 1080) (by decide)) (by decide) (by omega) (by omega) (by decide) (Nat.le_of_ble_eq_true rfl) (zdal_p dlA_Sums_putSingle_61 (i := 20) rfl) (fun N10_ hN10_ hsN10_ => ?_)
          have hf_N10_ : zFc d_ [] [] [] [25] Mz N10_ := hf_N2_.tr hsN10_ (by decide) (by decide) (by decide) (by decide)
          have hb0_N10_ : zFc d_ [] [] [] [25] Mz N10_ := hs3_.tr hsN10_ (by decide) (by decide) (by decide) (by decide)
          have eD12_7_N10_ : ze N10_ (d_ + 12) 7 = ze N2_ (d_ + 12) 7 := hsN10_.e (by decide)
          have c11_ : zKm F_ K_ d_ N10_ := zKm.fr (hf_N2_.w hW) hsN10_ c7_ (by decide)
          have hs1_ := zSh_s (show zSh u1_ d_ Mz N2_ a0_ (zone a1_ a2_) by assumption) (zS1_i hN10_ ⟨by omega, by omega⟩ (by omega)) rfl (by omega) (by unfold zone; split <;> omega)
          refine zr_iinc (pc := 40) (i := 5) (a := u1_) (n := 1) (L2 := [some (.ref (d_ + 23)), some (.int (Int32.ofInt a0_)), some (.int (Int32.ofInt a1_)), some (.long (Int64.ofInt a2_)), none, some (.int (Int32.ofInt (u1_ + 1)))]) rfl (by decide) rfl (zdal_p dlA_Sums_putSingle_61 (i := 21) rfl) ?_
          refine zw_goto (pc := 43) (tgt := 3) (by decide) (zdal_p dlA_Sums_putSingle_61 (i := 22) rfl) ?_
          exact ih_3 (u1_ + 1) (by omega) (by omega) N10_ hb0_N10_ (show 0 ≤ (u1_ + 1) by first | assumption | omega) (show (u1_ + 1) ≤ F_ by first | assumption | omega) (show zSh (u1_ + 1) d_ Mz N10_ a0_ (zone a1_ a2_) by exact hs1_) (by omega)
  exact lp_3 _ 0 (by decide) (by decide) Mz zFc.rf (show 0 ≤ (0 : Int) by first | assumption | omega) (show (0 : Int) ≤ F_ by first | assumption | omega) (show zSh (0 : Int) d_ Mz Mz a0_ (zone a1_ a2_) by exact zSh_0) (Nat.lt_succ_self _)
set_option maxHeartbeats 4000000 in
theorem u_Sums_copy (l : Launch) (d_ : Nat) (Mz : zMem) (hW : zKW d_ Mz) (a0_ : Int) (ha0_a : -2147483648 ≤ a0_) (ha0_b : a0_ < 2147483648) (a1_ : Int) (ha1_a : -2147483648 ≤ a1_) (ha1_b : a1_ < 2147483648) (F_ : Nat) (K_ : Nat → Nat → Int) (hA_ : zTA F_ K_) (p0_ : zKm F_ K_ d_ Mz) (p1_ : 0 ≤ a0_) (p2_ : a0_ ≤ 39) (p3_ : 0 ≤ a1_) (p4_ : a1_ ≤ 39) : zC l m_Sums_copy 0 0 [.ref (d_ + 23), .int (Int32.ofInt a0_), .int (Int32.ofInt a1_)] Mz (zqcV d_ [] [] [] [25] Mz (fun N => zSh F_ d_ Mz N a1_ (zvc F_ d_ Mz a0_))) := by
  refine zC_of (L0 := [some (.ref (d_ + 23)), some (.int (Int32.ofInt a0_)), some (.int (Int32.ofInt a1_)), none]) md_Sums_copy (Nat.le_of_ble_eq_true rfl) rfl ?_ zQ0
  have hf : zFc d_ [] [] [] [25] Mz Mz := zFc.rf
  have r_D12_7 := ze_r Mz (d_ + 12) 7
  obtain ⟨⟨hF1_, hF27_⟩, hAr_⟩ := id hA_
  obtain ⟨hFc_, hKt_⟩ := id p0_
  refine zw_iconst (pc := 0) (v := Int32.ofInt 0) (by decide) (zdal_p dlA_Sums_copy_127 (i := 0) rfl) ?_
  refine zw_istore_n (pc := 1) (i := 3) (L2 := [some (.ref (d_ + 23)), some (.int (Int32.ofInt a0_)), some (.int (Int32.ofInt a1_)), some (.int (Int32.ofInt 0))]) rfl (by decide) rfl (zdal_p dlA_Sums_copy_127 (i := 1) rfl) ?_
  have lp_2 : ∀ (n : Nat) (u1_ : Int) (hu1_a : -2147483648 ≤ u1_) (hu1_b : u1_ < 2147483648) (N2_ : zMem) (hs3_ : zFc d_ [] [] [] [25] Mz N2_) (i4_ : 0 ≤ u1_) (i5_ : u1_ ≤ F_) (i6_ : zSh u1_ d_ Mz N2_ a1_ (zvc F_ d_ Mz a0_)), (ze Mz (d_ + 12) 7 - u1_).toNat < n → zW l m_Sums_copy (zn Mz + 0, zw Mz + 0) N2_ 2 [some (.ref (d_ + 23)), some (.int (Int32.ofInt a0_)), some (.int (Int32.ofInt a1_)), some (.int (Int32.ofInt u1_))] [] (zqcV d_ [] [] [] [25] Mz (fun N => zSh F_ d_ Mz N a1_ (zvc F_ d_ Mz a0_))) := by
    intro n
    induction n with
    | zero =>
      intro u1_ hu1_a hu1_b N2_ hs3_ i4_ i5_ i6_ h0
      exact absurd h0 (Nat.not_lt_zero _)
    | succ n ih_2 =>
      intro u1_ hu1_a hu1_b N2_ hs3_ i4_ i5_ i6_ hlt_2
      have hf_N2_ : zFc d_ [] [] [] [25] Mz N2_ := hf.tr hs3_ (by decide) (by decide) (by decide) (by decide)
      have eD12_7_N2_ : ze N2_ (d_ + 12) 7 = ze Mz (d_ + 12) 7 := hs3_.e (by decide)
      have c7_ : zKm F_ K_ d_ N2_ := zKm.fr (hf.w hW) hs3_ p0_ (by decide)
      refine zw_iload_n (pc := 2) (n := 3) (x := Int32.ofInt u1_) rfl (zdal_p dlA_Sums_copy_127 (i := 2) rfl) ?_
      refine zw_aload_n (pc := 3) (n := 0) (x := (d_ + 23)) rfl (zdal_p dlA_Sums_copy_127 (i := 3) rfl) ?_
      refine zw_getF (pc := 4) f_Sums_23 rfl ((hf_N2_.w hW).kr (o := 23) (by decide)) ((hf_N2_.w hW).lr (o := 23) (s := 0) (r := 12) (by decide)) (zdal_p dlA_Sums_copy_127 (i := 4) rfl) ?_
      refine zk_getI (pc := 7) f_Sums_35 rfl ((hf_N2_.w hW).kr (o := 12) (by decide)) (zdal_p dlA_Sums_copy_127 (i := 5) rfl) ?_
      rw [hf_N2_.e (by decide)]
      refine zr_icmp_ge (pc := 10) (tgt := 45) ⟨hu1_a, hu1_b⟩ ⟨(ze_r Mz (d_ + 12) 7).1, (ze_r Mz (d_ + 12) 7).2⟩ (by decide) (zdal_p dlA_Sums_copy_127 (i := 6) rfl) (fun hc_10 => ?_) (fun hc_10 => ?_)
      · skip
        exact zk_vret (pc := 45) rfl hf_N2_ (show zSh F_ d_ Mz N2_ a1_ (zvc F_ d_ Mz a0_) by rw [show (F_ : Int) = u1_ by omega]; assumption) (zdal_p dlA_Sums_copy_128 (i := 1) rfl)
      · skip
        refine zw_aload_n (pc := 13) (n := 0) (x := (d_ + 23)) rfl (zdal_p dlA_Sums_copy_127 (i := 7) rfl) ?_
        refine zw_getF (pc := 14) f_Sums_16 rfl ((hf_N2_.w hW).kr (o := 23) (by decide)) ((hf_N2_.w hW).lr (o := 23) (s := 1) (r := 24) (by decide)) (zdal_p dlA_Sums_copy_127 (i := 8) rfl) ?_
        refine zw_iload_n (pc := 17) (n := 2) (x := Int32.ofInt a1_) rfl (zdal_p dlA_Sums_copy_127 (i := 9) rfl) ?_
        refine zw_bipush (pc := 18) (v := Int32.ofInt 27) (by decide) (zdal_p dlA_Sums_copy_127 (i := 10) rfl) ?_
        refine zr_imul (pc := 20) (zdal_p dlA_Sums_copy_127 (i := 11) rfl) ?_
        refine zw_iload_n (pc := 21) (n := 3) (x := Int32.ofInt u1_) rfl (zdal_p dlA_Sums_copy_127 (i := 12) rfl) ?_
        refine zr_iadd (pc := 22) (zdal_p dlA_Sums_copy_127 (i := 13) rfl) ?_
        refine zw_aload_n (pc := 23) (n := 0) (x := (d_ + 23)) rfl (zdal_p dlA_Sums_copy_127 (i := 14) rfl) ?_
        refine zw_getF (pc := 24) f_Sums_16 rfl ((hf_N2_.w hW).kr (o := 23) (by decide)) ((hf_N2_.w hW).lr (o := 23) (s := 1) (r := 24) (by decide)) (zdal_p dlA_Sums_copy_127 (i := 15) rfl) ?_
        refine zw_iload_n (pc := 27) (n := 1) (x := Int32.ofInt a0_) rfl (zdal_p dlA_Sums_copy_127 (i := 16) rfl) ?_
        refine zw_bipush (pc := 28) (v := Int32.ofInt 27) (by decide) (zdal_p dlA_Sums_copy_127 (i := 17) rfl) ?_
        refine zr_imul (pc := 30) (zdal_p dlA_Sums_copy_127 (i := 18) rfl) ?_
        refine zw_iload_n (pc := 31) (n := 3) (x := Int32.ofInt u1_) rfl (zdal_p dlA_Sums_copy_127 (i := 19) rfl) ?_
        refine zr_iadd (pc := 32) (zdal_p dlA_Sums_copy_127 (i := 20) rfl) ?_
        refine zk_atJ hf_N2_.x (pc := 33) l_Sums_27 ((hf_N2_.w hW).kr (o := 24) (by decide)) ((hf_N2_.w hW).lr (o := 24) (s := 0) (r := 25) (by decide)) ((hf_N2_.w hW).rr (o := 25) (t := 2) (n := 1080) (by decide)) (by decide) (by omega) (by omega) (by decide) (Nat.le_of_ble_eq_true rfl) (zdal_p dlA_Sums_copy_127 (i := 21) rfl) (fun v8_ hv8_ hv8_a hv8_b => ?_)
        have hx_ := zvc_at (F := F_) (k := (u1_).toNat) (s := a0_) (by omega) (by omega) (zSh_a (show zSh u1_ d_ Mz N2_ a1_ (zvc F_ d_ Mz a0_) by assumption) hv8_ (by omega)) (by omega)
        refine zk_stJ hf_N2_.x (pc := 36) (o := 25) (by decide) l_Sums_31 ((hf_N2_.w hW).kr (o := 24) (by decide)) ((hf_N2_.w hW).lr (o := 24) (s := 0) (r := 25) (by decide)) ((hf_N2_.w hW).rr (o := 25) (t := 2) (n := 1080) (by decide)) (by decide) (by omega) (by omega) (by decide) (Nat.le_of_ble_eq_true rfl) (zdal_p dlA_Sums_copy_127 (i := 22) rfl) (fun N9_ hN9_ hsN9_ => ?_)
        have hf_N9_ : zFc d_ [] [] [] [25] Mz N9_ := hf_N2_.tr hsN9_ (by decide) (by decide) (by decide) (by decide)
        have hb0_N9_ : zFc d_ [] [] [] [25] Mz N9_ := hs3_.tr hsN9_ (by decide) (by decide) (by decide) (by decide)
        have eD12_7_N9_ : ze N9_ (d_ + 12) 7 = ze N2_ (d_ + 12) 7 := hsN9_.e (by decide)
        have c10_ : zKm F_ K_ d_ N9_ := zKm.fr (hf_N2_.w hW) hsN9_ c7_ (by decide)
        have hs1_ := zSh_s (show zSh u1_ d_ Mz N2_ a1_ (zvc F_ d_ Mz a0_) by assumption) (zS1_i hN9_ ⟨by omega, by omega⟩ (by omega)) rfl (by omega) hx_
        refine zr_iinc (pc := 39) (i := 3) (a := u1_) (n := 1) (L2 := [some (.ref (d_ + 23)), some (.int (Int32.ofInt a0_)), some (.int (Int32.ofInt a1_)), some (.int (Int32.ofInt (u1_ + 1)))]) rfl (by decide) rfl (zdal_p dlA_Sums_copy_127 (i := 23) rfl) ?_
        refine zw_goto (pc := 42) (tgt := 2) (by decide) (zdal_p dlA_Sums_copy_128 (i := 0) rfl) ?_
        exact ih_2 (u1_ + 1) (by omega) (by omega) N9_ hb0_N9_ (show 0 ≤ (u1_ + 1) by first | assumption | omega) (show (u1_ + 1) ≤ F_ by first | assumption | omega) (show zSh (u1_ + 1) d_ Mz N9_ a1_ (zvc F_ d_ Mz a0_) by exact hs1_) (by omega)
  exact lp_2 _ 0 (by decide) (by decide) Mz zFc.rf (show 0 ≤ (0 : Int) by first | assumption | omega) (show (0 : Int) ≤ F_ by first | assumption | omega) (show zSh (0 : Int) d_ Mz Mz a1_ (zvc F_ d_ Mz a0_) by exact zSh_0) (Nat.lt_succ_self _)
set_option maxHeartbeats 4000000 in
theorem u_Sums_markOf (l : Launch) (d_ : Nat) (Mz : zMem) (hW : zKW d_ Mz) (a0_ : Int) (ha0_a : -2147483648 ≤ a0_) (ha0_b : a0_ < 2147483648) (a1_ : Int) (ha1_a : -2147483648 ≤ a1_) (ha1_b : a1_ < 2147483648) (F_ : Nat) (K_ : Nat → Nat → Int) (hA_ : zTA F_ K_) (p0_ : zKm F_ K_ d_ Mz) (p1_ : 0 ≤ a0_) (p2_ : a0_ ≤ 39) (p3_ : 0 ≤ a1_) (p4_ : a1_ < F_) : zC l m_Sums_markOf 0 0 [.ref (d_ + 23), .int (Int32.ofInt a0_), .int (Int32.ofInt a1_)] Mz (zqcJ d_ [] [] [] [] Mz (fun v N => Int64.ofInt v = Int64.ofInt (zmq F_ K_ (zvc F_ d_ Mz a0_) (a1_).toNat))) := by
  refine zC_of (L0 := [some (.ref (d_ + 23)), some (.int (Int32.ofInt a0_)), some (.int (Int32.ofInt a1_)), none, none, none]) md_Sums_markOf (Nat.le_of_ble_eq_true rfl) rfl ?_ zQ0
  have hf : zFc d_ [] [] [] [] Mz Mz := zFc.rf
  have r_D12_7 := ze_r Mz (d_ + 12) 7
  obtain ⟨⟨hF1_, hF27_⟩, hAr_⟩ := id hA_
  obtain ⟨hFc_, hKt_⟩ := id p0_
  refine zw_lconst (pc := 0) (v := Int64.ofInt 0) (by decide) (zdal_p dlA_Sums_markOf_138 (i := 0) rfl) ?_
  refine zw_lstore_n (pc := 1) (i := 3) (L2 := [some (.ref (d_ + 23)), some (.int (Int32.ofInt a0_)), some (.int (Int32.ofInt a1_)), some (.long (Int64.ofInt 0)), none, none]) rfl (by decide) rfl (zdal_p dlA_Sums_markOf_138 (i := 1) rfl) ?_
  refine zw_iconst (pc := 2) (v := Int32.ofInt 0) (by decide) (zdal_p dlA_Sums_markOf_138 (i := 2) rfl) ?_
  refine zw_istore (pc := 3) (i := 5) (L2 := [some (.ref (d_ + 23)), some (.int (Int32.ofInt a0_)), some (.int (Int32.ofInt a1_)), some (.long (Int64.ofInt 0)), none, some (.int (Int32.ofInt 0))]) (by decide) rfl (zdal_p dlA_Sums_markOf_138 (i := 3) rfl) ?_
  have lp_5 : ∀ (n : Nat) (u1_ : Int) (hu1_a : -9223372036854775808 ≤ u1_) (hu1_b : u1_ < 9223372036854775808) (u2_ : Int) (hu2_a : -2147483648 ≤ u2_) (hu2_b : u2_ < 2147483648) (i3_ : 0 ≤ u2_) (i4_ : u2_ ≤ F_) (i5_ : Int64.ofInt u1_ = Int64.ofInt (zsm (fun i => (zvc F_ d_ Mz a0_) i * K_ i (a1_).toNat) (u2_).toNat)), (ze Mz (d_ + 12) 7 - u2_).toNat < n → zW l m_Sums_markOf (zn Mz + 0, zw Mz + 0) Mz 5 [some (.ref (d_ + 23)), some (.int (Int32.ofInt a0_)), some (.int (Int32.ofInt a1_)), some (.long (Int64.ofInt u1_)), none, some (.int (Int32.ofInt u2_))] [] (zqcJ d_ [] [] [] [] Mz (fun v N => Int64.ofInt v = Int64.ofInt (zmq F_ K_ (zvc F_ d_ Mz a0_) (a1_).toNat))) := by
    intro n
    induction n with
    | zero =>
      intro u1_ hu1_a hu1_b u2_ hu2_a hu2_b i3_ i4_ i5_ h0
      exact absurd h0 (Nat.not_lt_zero _)
    | succ n ih_5 =>
      intro u1_ hu1_a hu1_b u2_ hu2_a hu2_b i3_ i4_ i5_ hlt_5
      refine zw_iload (pc := 5) (i := 5) (x := Int32.ofInt u2_) rfl (zdal_p dlA_Sums_markOf_138 (i := 4) rfl) ?_
      refine zw_aload_n (pc := 7) (n := 0) (x := (d_ + 23)) rfl (zdal_p dlA_Sums_markOf_138 (i := 5) rfl) ?_
      refine zw_getF (pc := 8) f_Sums_23 rfl ((hf.w hW).kr (o := 23) (by decide)) ((hf.w hW).lr (o := 23) (s := 0) (r := 12) (by decide)) (zdal_p dlA_Sums_markOf_138 (i := 6) rfl) ?_
      refine zk_getI (pc := 11) f_Sums_35 rfl ((hf.w hW).kr (o := 12) (by decide)) (zdal_p dlA_Sums_markOf_138 (i := 7) rfl) ?_
      refine zr_icmp_ge (pc := 14) (tgt := 59) ⟨hu2_a, hu2_b⟩ ⟨(ze_r Mz (d_ + 12) 7).1, (ze_r Mz (d_ + 12) 7).2⟩ (by decide) (zdal_p dlA_Sums_markOf_138 (i := 8) rfl) (fun hc_14 => ?_) (fun hc_14 => ?_)
      · skip
        refine zw_lload_n (pc := 59) (n := 3) (x := Int64.ofInt u1_) rfl (zdal_p dlA_Sums_markOf_139 (i := 9) rfl) ?_
        exact zk_lret (pc := 60) rfl ⟨by omega, by omega⟩ hf (show Int64.ofInt u1_ = Int64.ofInt (zmq F_ K_ (zvc F_ d_ Mz a0_) (a1_).toNat) by have e_ : (u2_).toNat = F_ := (by omega); have h_ := (show Int64.ofInt u1_ = Int64.ofInt (zsm (fun i => (zvc F_ d_ Mz a0_) i * K_ i (a1_).toNat) (u2_).toNat) by assumption); rw [e_] at h_; exact h_) (zdal_p dlA_Sums_markOf_139 (i := 10) rfl)
      · skip
        refine zw_lload_n (pc := 17) (n := 3) (x := Int64.ofInt u1_) rfl (zdal_p dlA_Sums_markOf_138 (i := 9) rfl) ?_
        refine zw_aload_n (pc := 18) (n := 0) (x := (d_ + 23)) rfl (zdal_p dlA_Sums_markOf_138 (i := 10) rfl) ?_
        refine zw_getF (pc := 19) f_Sums_16 rfl ((hf.w hW).kr (o := 23) (by decide)) ((hf.w hW).lr (o := 23) (s := 1) (r := 24) (by decide)) (zdal_p dlA_Sums_markOf_138 (i := 11) rfl) ?_
        refine zw_iload_n (pc := 22) (n := 1) (x := Int32.ofInt a0_) rfl (zdal_p dlA_Sums_markOf_138 (i := 12) rfl) ?_
        refine zw_bipush (pc := 23) (v := Int32.ofInt 27) (by decide) (zdal_p dlA_Sums_markOf_138 (i := 13) rfl) ?_
        refine zr_imul (pc := 25) (zdal_p dlA_Sums_markOf_138 (i := 14) rfl) ?_
        refine zw_iload (pc := 26) (i := 5) (x := Int32.ofInt u2_) rfl (zdal_p dlA_Sums_markOf_138 (i := 15) rfl) ?_
        refine zr_iadd (pc := 28) (zdal_p dlA_Sums_markOf_138 (i := 16) rfl) ?_
        refine zk_atJ hf.x (pc := 29) l_Sums_27 ((hf.w hW).kr (o := 24) (by decide)) ((hf.w hW).lr (o := 24) (s := 0) (r := 25) (by decide)) ((hf.w hW).rr (o := 25) (t := 2) (n := 1080) (by decide)) (by decide) (by omega) (by omega) (by decide) (Nat.le_of_ble_eq_true rfl) (zdal_p dlA_Sums_markOf_138 (i := 17) rfl) (fun v6_ hv6_ hv6_a hv6_b => ?_)
        have hx_ := zvc_at (F := F_) (k := (u2_).toNat) (s := a0_) (by omega) (by omega) hv6_ (by omega)
        refine zw_aload_n (pc := 32) (n := 0) (x := (d_ + 23)) rfl (zdal_p dlA_Sums_markOf_138 (i := 18) rfl) ?_
        refine zw_getF (pc := 33) f_Sums_23 rfl ((hf.w hW).kr (o := 23) (by decide)) ((hf.w hW).lr (o := 23) (s := 0) (r := 12) (by decide)) (zdal_p dlA_Sums_markOf_138 (i := 19) rfl) ?_
        refine zw_getF (pc := 36) f_Sums_41 rfl ((hf.w hW).kr (o := 12) (by decide)) ((hf.w hW).lr (o := 12) (s := 5) (r := 21) (by decide)) (zdal_p dlA_Sums_markOf_138 (i := 20) rfl) ?_
        refine zw_iload (pc := 39) (i := 5) (x := Int32.ofInt u2_) rfl (zdal_p dlA_Sums_markOf_138 (i := 21) rfl) ?_
        refine zw_bipush (pc := 41) (v := Int32.ofInt 27) (by decide) (zdal_p dlA_Sums_markOf_138 (i := 22) rfl) ?_
        refine zr_imul (pc := 43) (zdal_p dlA_Sums_markOf_138 (i := 23) rfl) ?_
        refine zw_iload_n (pc := 44) (n := 2) (x := Int32.ofInt a1_) rfl (zdal_p dlA_Sums_markOf_139 (i := 0) rfl) ?_
        refine zr_iadd (pc := 45) (zdal_p dlA_Sums_markOf_139 (i := 1) rfl) ?_
        refine zk_at hf.x (pc := 46) l_Sums_45 ((hf.w hW).kr (o := 21) (by decide)) ((hf.w hW).lr (o := 21) (s := 0) (r := 22) (by decide)) ((hf.w hW).rr (o := 22) (t := 1) (n := 729) (by decide)) (by decide) (by omega) (by omega) (by decide) (Nat.le_of_ble_eq_true rfl) (zdal_p dlA_Sums_markOf_139 (i := 2) rfl) (fun v7_ hv7_ hv7_a hv7_b => ?_)
        have hy_ := p0_.k (by omega) (by omega) (by omega) (by omega) hv7_
        refine zr_i2l (pc := 49) ⟨hv7_a, hv7_b⟩ (zdal_p dlA_Sums_markOf_139 (i := 3) rfl) ?_
        refine zr_lmul (pc := 50) (zdal_p dlA_Sums_markOf_139 (i := 4) rfl) ?_
        refine zr_ladd (pc := 51) (zdal_p dlA_Sums_markOf_139 (i := 5) rfl) ?_
        refine zk_nmJ (fun v8_ hv8_ hv8_e => ?_)
        obtain ⟨hv8_a, hv8_b⟩ := hv8_
        have hz_ := zmq_s (show Int64.ofInt u1_ = Int64.ofInt (zsm (fun i => (zvc F_ d_ Mz a0_) i * K_ i (a1_).toNat) (u2_).toNat) by assumption) hv8_e (by omega) (by show _ * _ = _; rw [← hx_, ← hy_])
        refine zw_lstore_n (pc := 52) (i := 3) (L2 := [some (.ref (d_ + 23)), some (.int (Int32.ofInt a0_)), some (.int (Int32.ofInt a1_)), some (.long (Int64.ofInt v8_)), none, some (.int (Int32.ofInt u2_))]) rfl (by decide) rfl (zdal_p dlA_Sums_markOf_139 (i := 6) rfl) ?_
        refine zr_iinc (pc := 53) (i := 5) (a := u2_) (n := 1) (L2 := [some (.ref (d_ + 23)), some (.int (Int32.ofInt a0_)), some (.int (Int32.ofInt a1_)), some (.long (Int64.ofInt v8_)), none, some (.int (Int32.ofInt (u2_ + 1)))]) rfl (by decide) rfl (zdal_p dlA_Sums_markOf_139 (i := 7) rfl) ?_
        refine zw_goto (pc := 56) (tgt := 5) (by decide) (zdal_p dlA_Sums_markOf_139 (i := 8) rfl) ?_
        exact ih_5 v8_ hv8_a hv8_b (u2_ + 1) (by omega) (by omega) (show 0 ≤ (u2_ + 1) by first | assumption | omega) (show (u2_ + 1) ≤ F_ by first | assumption | omega) (show Int64.ofInt v8_ = Int64.ofInt (zsm (fun i => (zvc F_ d_ Mz a0_) i * K_ i (a1_).toNat) ((u2_ + 1)).toNat) by exact hz_) (by omega)
  exact lp_5 _ 0 (by decide) (by decide) 0 (by decide) (by decide) (show 0 ≤ (0 : Int) by first | assumption | omega) (show (0 : Int) ≤ F_ by first | assumption | omega) (show Int64.ofInt (0 : Int) = Int64.ofInt (zsm (fun i => (zvc F_ d_ Mz a0_) i * K_ i (a1_).toNat) ((0 : Int)).toNat) by rfl) (Nat.lt_succ_self _)
set_option maxHeartbeats 4000000 in
theorem u_Sums_solve (l : Launch) (d_ : Nat) (Mz : zMem) (hW : zKW d_ Mz) (a0_ : Int) (ha0_a : -2147483648 ≤ a0_) (ha0_b : a0_ < 2147483648) (F_ : Nat) (K_ : Nat → Nat → Int) (hA_ : zTA F_ K_) (p0_ : zKm F_ K_ d_ Mz) (p1_ : 0 ≤ a0_) (p2_ : a0_ ≤ 39) : zC l m_Sums_solve 0 0 [.ref (d_ + 23), .int (Int32.ofInt a0_)] Mz (zqcV d_ [] [] [] [25] Mz (fun N => (∀ u : Nat → Int, zsv F_ K_ d_ Mz u → zSh F_ d_ Mz N a0_ u) ∧ zOu F_ d_ Mz N a0_)) := by
  refine zC_of (L0 := [some (.ref (d_ + 23)), some (.int (Int32.ofInt a0_)), none, none, none, none]) md_Sums_solve (Nat.le_of_ble_eq_true rfl) rfl ?_ zQ0
  have hf : zFc d_ [] [] [] [25] Mz Mz := zFc.rf
  have r_D12_7 := ze_r Mz (d_ + 12) 7
  obtain ⟨⟨hF1_, hF27_⟩, hAr_⟩ := id hA_
  obtain ⟨hFc_, hKt_⟩ := id p0_
  refine zw_aload_n (pc := 0) (n := 0) (x := (d_ + 23)) rfl (zdal_p dlA_Sums_solve_140 (i := 0) rfl) ?_
  refine zw_getF (pc := 1) f_Sums_23 rfl ((hf.w hW).kr (o := 23) (by decide)) ((hf.w hW).lr (o := 23) (s := 0) (r := 12) (by decide)) (zdal_p dlA_Sums_solve_140 (i := 1) rfl) ?_
  refine zk_getI (pc := 4) f_Sums_35 rfl ((hf.w hW).kr (o := 12) (by decide)) (zdal_p dlA_Sums_solve_140 (i := 2) rfl) ?_
  refine zw_iconst (pc := 7) (v := Int32.ofInt 1) (by decide) (zdal_p dlA_Sums_solve_140 (i := 3) rfl) ?_
  refine zr_isub (pc := 8) (zdal_p dlA_Sums_solve_140 (i := 4) rfl) ?_
  refine zw_istore_n (pc := 9) (i := 2) (L2 := [some (.ref (d_ + 23)), some (.int (Int32.ofInt a0_)), some (.int (Int32.ofInt ((ze Mz (d_ + 12) 7) - 1))), none, none, none]) rfl (by decide) rfl (zdal_p dlA_Sums_solve_140 (i := 5) rfl) ?_
  have lp_10 : ∀ (n : Nat) (u1_ : Int) (hu1_a : -2147483648 ≤ u1_) (hu1_b : u1_ < 2147483648) (N2_ : zMem) (hs3_ : zFc d_ [] [] [] [25] Mz N2_) (i4_ : u1_ < F_) (i5_ : -1 ≤ u1_) (i6_ : ∀ u : Nat → Int, zsv F_ K_ d_ Mz u → zUp F_ d_ Mz N2_ a0_ u u1_) (i7_ : zOu F_ d_ Mz N2_ a0_), (u1_ + 1).toNat < n → zW l m_Sums_solve (zn Mz + 0, zw Mz + 0) N2_ 10 [some (.ref (d_ + 23)), some (.int (Int32.ofInt a0_)), some (.int (Int32.ofInt u1_)), none, none, none] [] (zqcV d_ [] [] [] [25] Mz (fun N => (∀ u : Nat → Int, zsv F_ K_ d_ Mz u → zSh F_ d_ Mz N a0_ u) ∧ zOu F_ d_ Mz N a0_)) := by
    intro n
    induction n with
    | zero =>
      intro u1_ hu1_a hu1_b N2_ hs3_ i4_ i5_ i6_ i7_ h0
      exact absurd h0 (Nat.not_lt_zero _)
    | succ n ih_10 =>
      intro u1_ hu1_a hu1_b N2_ hs3_ i4_ i5_ i6_ i7_ hlt_10
      have hf_N2_ : zFc d_ [] [] [] [25] Mz N2_ := hf.tr hs3_ (by decide) (by decide) (by decide) (by decide)
      have eD12_7_N2_ : ze N2_ (d_ + 12) 7 = ze Mz (d_ + 12) 7 := hs3_.e (by decide)
      have c8_ : zKm F_ K_ d_ N2_ := zKm.fr (hf.w hW) hs3_ p0_ (by decide)
      refine zw_iload_n (pc := 10) (n := 2) (x := Int32.ofInt u1_) rfl (zdal_p dlA_Sums_solve_140 (i := 6) rfl) ?_
      refine zr_if_lt (pc := 11) (tgt := 133) ⟨hu1_a, hu1_b⟩ (by decide) (zdal_p dlA_Sums_solve_140 (i := 7) rfl) (fun hc_11 => ?_) (fun hc_11 => ?_)
      · skip
        exact zk_vret (pc := 133) rfl hf_N2_ ⟨(show (∀ u : Nat → Int, zsv F_ K_ d_ Mz u → zSh F_ d_ Mz N2_ a0_ u) by exact fun u hu => zUp_e ((show ∀ u : Nat → Int, zsv F_ K_ d_ Mz u → zUp F_ d_ Mz N2_ a0_ u u1_ by assumption) u hu) (by omega)), (show zOu F_ d_ Mz N2_ a0_ by assumption)⟩ (zdal_p dlA_Sums_solve_143 (i := 2) rfl)
      · skip
        refine zw_aload_n (pc := 14) (n := 0) (x := (d_ + 23)) rfl (zdal_p dlA_Sums_solve_140 (i := 8) rfl) ?_
        refine zw_getF (pc := 15) f_Sums_20 rfl ((hf_N2_.w hW).kr (o := 23) (by decide)) ((hf_N2_.w hW).lr (o := 23) (s := 2) (r := 26) (by decide)) (zdal_p dlA_Sums_solve_140 (i := 9) rfl) ?_
        refine zw_iload_n (pc := 18) (n := 2) (x := Int32.ofInt u1_) rfl (zdal_p dlA_Sums_solve_140 (i := 10) rfl) ?_
        refine zk_atJ hf_N2_.x (pc := 19) l_Sums_27 ((hf_N2_.w hW).kr (o := 26) (by decide)) ((hf_N2_.w hW).lr (o := 26) (s := 0) (r := 27) (by decide)) ((hf_N2_.w hW).rr (o := 27) (t := 2) (n := 27) (by decide)) (by decide) (by omega) (by omega) (by decide) (Nat.le_of_ble_eq_true rfl) (zdal_p dlA_Sums_solve_140 (i := 11) rfl) (fun v9_ hv9_ hv9_a hv9_b => ?_)
        rw [hf_N2_.rg (by decide)] at hv9_
        refine zw_lstore_n (pc := 22) (i := 3) (L2 := [some (.ref (d_ + 23)), some (.int (Int32.ofInt a0_)), some (.int (Int32.ofInt u1_)), some (.long (Int64.ofInt v9_)), none, none]) rfl (by decide) rfl (zdal_p dlA_Sums_solve_140 (i := 12) rfl) ?_
        refine zw_iload_n (pc := 23) (n := 2) (x := Int32.ofInt u1_) rfl (zdal_p dlA_Sums_solve_140 (i := 13) rfl) ?_
        refine zw_iconst (pc := 24) (v := Int32.ofInt 1) (by decide) (zdal_p dlA_Sums_solve_140 (i := 14) rfl) ?_
        refine zr_iadd (pc := 25) (zdal_p dlA_Sums_solve_140 (i := 15) rfl) ?_
        refine zw_istore (pc := 26) (i := 5) (L2 := [some (.ref (d_ + 23)), some (.int (Int32.ofInt a0_)), some (.int (Int32.ofInt u1_)), some (.long (Int64.ofInt v9_)), none, some (.int (Int32.ofInt (u1_ + 1)))]) (by decide) rfl (zdal_p dlA_Sums_solve_140 (i := 16) rfl) ?_
        have hup_ := (show ∀ u : Nat → Int, zsv F_ K_ d_ Mz u → zUp F_ d_ Mz N2_ a0_ u u1_ by assumption)
        have lp_28 : ∀ (n : Nat) (u10_ : Int) (hu10_a : -9223372036854775808 ≤ u10_) (hu10_b : u10_ < 9223372036854775808) (u11_ : Int) (hu11_a : -2147483648 ≤ u11_) (hu11_b : u11_ < 2147483648) (i12_ : u1_ < u11_) (i13_ : u11_ ≤ F_) (i14_ : ∀ u : Nat → Int, zsv F_ K_ d_ Mz u → Int64.ofInt u10_ = Int64.ofInt (zmq F_ K_ u (u1_).toNat - zsm (fun t => u ((u1_).toNat + 1 + t) * K_ ((u1_).toNat + 1 + t) (u1_).toNat) (u11_ - u1_ - 1).toNat)), (F_ - u11_).toNat < n → zW l m_Sums_solve (zn Mz + 0, zw Mz + 0) N2_ 28 [some (.ref (d_ + 23)), some (.int (Int32.ofInt a0_)), some (.int (Int32.ofInt u1_)), some (.long (Int64.ofInt u10_)), none, some (.int (Int32.ofInt u11_))] [] (zqcV d_ [] [] [] [25] Mz (fun N => (∀ u : Nat → Int, zsv F_ K_ d_ Mz u → zSh F_ d_ Mz N a0_ u) ∧ zOu F_ d_ Mz N a0_)) := by
          intro n
          induction n with
          | zero =>
            intro u10_ hu10_a hu10_b u11_ hu11_a hu11_b i12_ i13_ i14_ h0
            exact absurd h0 (Nat.not_lt_zero _)
          | succ n ih_28 =>
            intro u10_ hu10_a hu10_b u11_ hu11_a hu11_b i12_ i13_ i14_ hlt_28
            refine zw_iload (pc := 28) (i := 5) (x := Int32.ofInt u11_) rfl (zdal_p dlA_Sums_solve_140 (i := 17) rfl) ?_
            refine zw_aload_n (pc := 30) (n := 0) (x := (d_ + 23)) rfl (zdal_p dlA_Sums_solve_140 (i := 18) rfl) ?_
            refine zw_getF (pc := 31) f_Sums_23 rfl ((hf_N2_.w hW).kr (o := 23) (by decide)) ((hf_N2_.w hW).lr (o := 23) (s := 0) (r := 12) (by decide)) (zdal_p dlA_Sums_solve_140 (i := 19) rfl) ?_
            refine zk_getI (pc := 34) f_Sums_35 rfl ((hf_N2_.w hW).kr (o := 12) (by decide)) (zdal_p dlA_Sums_solve_140 (i := 20) rfl) ?_
            rw [hf_N2_.e (by decide)]
            refine zr_icmp_ge (pc := 37) (tgt := 82) ⟨hu11_a, hu11_b⟩ ⟨(ze_r Mz (d_ + 12) 7).1, (ze_r Mz (d_ + 12) 7).2⟩ (by decide) (zdal_p dlA_Sums_solve_140 (i := 21) rfl) (fun hc_37 => ?_) (fun hc_37 => ?_)
            · skip
              refine zw_aload_n (pc := 82) (n := 0) (x := (d_ + 23)) rfl (zdal_p dlA_Sums_solve_141 (i := 22) rfl) ?_
              refine zw_getF (pc := 83) f_Sums_23 rfl ((hf_N2_.w hW).kr (o := 23) (by decide)) ((hf_N2_.w hW).lr (o := 23) (s := 0) (r := 12) (by decide)) (zdal_p dlA_Sums_solve_141 (i := 23) rfl) ?_
              refine zw_getF (pc := 86) f_Sums_41 rfl ((hf_N2_.w hW).kr (o := 12) (by decide)) ((hf_N2_.w hW).lr (o := 12) (s := 5) (r := 21) (by decide)) (zdal_p dlA_Sums_solve_142 (i := 0) rfl) ?_
              refine zw_iload_n (pc := 89) (n := 2) (x := Int32.ofInt u1_) rfl (zdal_p dlA_Sums_solve_142 (i := 1) rfl) ?_
              refine zw_bipush (pc := 90) (v := Int32.ofInt 27) (by decide) (zdal_p dlA_Sums_solve_142 (i := 2) rfl) ?_
              refine zr_imul (pc := 92) (zdal_p dlA_Sums_solve_142 (i := 3) rfl) ?_
              refine zw_iload_n (pc := 93) (n := 2) (x := Int32.ofInt u1_) rfl (zdal_p dlA_Sums_solve_142 (i := 4) rfl) ?_
              refine zr_iadd (pc := 94) (zdal_p dlA_Sums_solve_142 (i := 5) rfl) ?_
              refine zk_at hf_N2_.x (pc := 95) l_Sums_45 ((hf_N2_.w hW).kr (o := 21) (by decide)) ((hf_N2_.w hW).lr (o := 21) (s := 0) (r := 22) (by decide)) ((hf_N2_.w hW).rr (o := 22) (t := 1) (n := 729) (by decide)) (by decide) (by omega) (by omega) (by decide) (Nat.le_of_ble_eq_true rfl) (zdal_p dlA_Sums_solve_142 (i := 6) rfl) (fun v15_ hv15_ hv15_a hv15_b => ?_)
              rw [hf_N2_.r (by decide)] at hv15_
              have hm_ := p0_.k (by omega) (by omega) (by omega) (by omega) hv15_
              have hm1_ := hAr_.2.2.1 (u1_).toNat (by omega)
              have hL5_ : u11_ = (F_ : Int) := by omega
              have hin_ := (show ∀ u : Nat → Int, zsv F_ K_ d_ Mz u → Int64.ofInt u10_ = Int64.ofInt (zmq F_ K_ u (u1_).toNat - zsm (fun t => u ((u1_).toNat + 1 + t) * K_ ((u1_).toNat + 1 + t) (u1_).toNat) (u11_ - u1_ - 1).toNat) by assumption)
              rw [hL5_] at hin_
              refine zw_istore (pc := 98) (i := 5) (L2 := [some (.ref (d_ + 23)), some (.int (Int32.ofInt a0_)), some (.int (Int32.ofInt u1_)), some (.long (Int64.ofInt u10_)), none, some (.int (Int32.ofInt v15_))]) (by decide) rfl (zdal_p dlA_Sums_solve_142 (i := 7) rfl) ?_
              refine zw_aload_n (pc := 100) (n := 0) (x := (d_ + 23)) rfl (zdal_p dlA_Sums_solve_142 (i := 8) rfl) ?_
              refine zw_getF (pc := 101) f_Sums_16 rfl ((hf_N2_.w hW).kr (o := 23) (by decide)) ((hf_N2_.w hW).lr (o := 23) (s := 1) (r := 24) (by decide)) (zdal_p dlA_Sums_solve_142 (i := 9) rfl) ?_
              refine zw_iload_n (pc := 104) (n := 1) (x := Int32.ofInt a0_) rfl (zdal_p dlA_Sums_solve_142 (i := 10) rfl) ?_
              refine zw_bipush (pc := 105) (v := Int32.ofInt 27) (by decide) (zdal_p dlA_Sums_solve_142 (i := 11) rfl) ?_
              refine zr_imul (pc := 107) (zdal_p dlA_Sums_solve_142 (i := 12) rfl) ?_
              refine zw_iload_n (pc := 108) (n := 2) (x := Int32.ofInt u1_) rfl (zdal_p dlA_Sums_solve_142 (i := 13) rfl) ?_
              refine zr_iadd (pc := 109) (zdal_p dlA_Sums_solve_142 (i := 14) rfl) ?_
              refine zw_iload (pc := 110) (i := 5) (x := Int32.ofInt v15_) rfl (zdal_p dlA_Sums_solve_142 (i := 15) rfl) ?_
              refine zr_if_eq (pc := 112) (tgt := 123) ⟨hv15_a, hv15_b⟩ (by decide) (zdal_p dlA_Sums_solve_142 (i := 16) rfl) (fun hc_112 => ?_) (fun hc_112 => ?_)
              · skip
                refine zw_lconst (pc := 123) (v := Int64.ofInt 0) (by decide) (zdal_p dlA_Sums_solve_142 (i := 22) rfl) ?_
                refine zk_stJ hf_N2_.x (pc := 124) (o := 25) (by decide) l_Sums_31 ((hf_N2_.w hW).kr (o := 24) (by decide)) ((hf_N2_.w hW).lr (o := 24) (s := 0) (r := 25) (by decide)) ((hf_N2_.w hW).rr (o := 25) (t := 2) (n := 1080) (by decide)) (by decide) (by omega) (by omega) (by decide) (Nat.le_of_ble_eq_true rfl) (zdal_p dlA_Sums_solve_142 (i := 23) rfl) (fun N16_ hN16_ hsN16_ => ?_)
                have hf_N16_ : zFc d_ [] [] [] [25] Mz N16_ := hf_N2_.tr hsN16_ (by decide) (by decide) (by decide) (by decide)
                have hb0_N16_ : zFc d_ [] [] [] [25] Mz N16_ := hs3_.tr hsN16_ (by decide) (by decide) (by decide) (by decide)
                have eD12_7_N16_ : ze N16_ (d_ + 12) 7 = ze N2_ (d_ + 12) 7 := hsN16_.e (by decide)
                have c17_ : zKm F_ K_ d_ N16_ := zKm.fr (hf_N2_.w hW) hsN16_ c8_ (by decide)
                have h1_ := zS1_i hN16_ ⟨by omega, by omega⟩ (by omega)
                have hu1_ := fun u hu => zUp_s (hup_ u hu) h1_ rfl (by omega) (by omega) (by first | (exfalso; omega) | (rw [← hq_]; exact hqu_ u hu))
                have ho1_ := zOu_s (show zOu F_ d_ Mz N2_ a0_ by assumption) h1_ rfl (by omega) (by omega)
                refine zr_iinc (pc := 127) (i := 2) (a := u1_) (n := -1) (L2 := [some (.ref (d_ + 23)), some (.int (Int32.ofInt a0_)), some (.int (Int32.ofInt (u1_ + (-1)))), some (.long (Int64.ofInt u10_)), none, some (.int (Int32.ofInt v15_))]) rfl (by decide) rfl (zdal_p dlA_Sums_solve_143 (i := 0) rfl) ?_
                refine zw_goto (pc := 130) (tgt := 10) (by decide) (zdal_p dlA_Sums_solve_143 (i := 1) rfl) ?_
                refine zW_le [some (.ref (d_ + 23)), some (.int (Int32.ofInt a0_)), some (.int (Int32.ofInt (u1_ + (-1)))), none, none, none] (⟨rfl, rfl, rfl, trivial⟩) ?_
                exact ih_10 (u1_ + (-1)) (by omega) (by omega) N16_ hb0_N16_ (show (u1_ + (-1)) < F_ by first | assumption | omega) (show -1 ≤ (u1_ + (-1)) by first | assumption | omega) (show ∀ u : Nat → Int, zsv F_ K_ d_ Mz u → zUp F_ d_ Mz N16_ a0_ u (u1_ + (-1)) by exact hu1_) (show zOu F_ d_ Mz N16_ a0_ by exact ho1_) (by omega)
              · skip
                refine zw_lload_n (pc := 115) (n := 3) (x := Int64.ofInt u10_) rfl (zdal_p dlA_Sums_solve_142 (i := 17) rfl) ?_
                refine zw_iload (pc := 116) (i := 5) (x := Int32.ofInt v15_) rfl (zdal_p dlA_Sums_solve_142 (i := 18) rfl) ?_
                refine zr_i2l (pc := 118) ⟨hv15_a, hv15_b⟩ (zdal_p dlA_Sums_solve_142 (i := 19) rfl) ?_
                refine zr_ldiv (pc := 119) ⟨by omega, by omega⟩ (by omega) (zdal_p dlA_Sums_solve_142 (i := 20) rfl) ?_
                have hr18_ := zlquo_r u10_ v15_
                obtain ⟨q_, hq_⟩ : ∃ q, q = (zlquo u10_ v15_) := ⟨_, rfl⟩
                have hqu_ := fun u hu => zin_e hA_ (hin_ u hu) hu ⟨by omega, by omega⟩ (by omega) (by omega) hm_ hq_
                refine zw_goto (pc := 120) (tgt := 124) (by decide) (zdal_p dlA_Sums_solve_142 (i := 21) rfl) ?_
                refine zk_stJ hf_N2_.x (pc := 124) (o := 25) (by decide) l_Sums_31 ((hf_N2_.w hW).kr (o := 24) (by decide)) ((hf_N2_.w hW).lr (o := 24) (s := 0) (r := 25) (by decide)) ((hf_N2_.w hW).rr (o := 25) (t := 2) (n := 1080) (by decide)) (by decide) (by omega) (by omega) (by decide) (Nat.le_of_ble_eq_true rfl) (zdal_p dlA_Sums_solve_142 (i := 23) rfl) (fun N19_ hN19_ hsN19_ => ?_)
                have hf_N19_ : zFc d_ [] [] [] [25] Mz N19_ := hf_N2_.tr hsN19_ (by decide) (by decide) (by decide) (by decide)
                have hb0_N19_ : zFc d_ [] [] [] [25] Mz N19_ := hs3_.tr hsN19_ (by decide) (by decide) (by decide) (by decide)
                have eD12_7_N19_ : ze N19_ (d_ + 12) 7 = ze N2_ (d_ + 12) 7 := hsN19_.e (by decide)
                have c20_ : zKm F_ K_ d_ N19_ := zKm.fr (hf_N2_.w hW) hsN19_ c8_ (by decide)
                have h1_ := zS1_i hN19_ ⟨by omega, by omega⟩ (by omega)
                have hu1_ := fun u hu => zUp_s (hup_ u hu) h1_ rfl (by omega) (by omega) (by first | (exfalso; omega) | (rw [← hq_]; exact hqu_ u hu))
                have ho1_ := zOu_s (show zOu F_ d_ Mz N2_ a0_ by assumption) h1_ rfl (by omega) (by omega)
                refine zr_iinc (pc := 127) (i := 2) (a := u1_) (n := -1) (L2 := [some (.ref (d_ + 23)), some (.int (Int32.ofInt a0_)), some (.int (Int32.ofInt (u1_ + (-1)))), some (.long (Int64.ofInt u10_)), none, some (.int (Int32.ofInt v15_))]) rfl (by decide) rfl (zdal_p dlA_Sums_solve_143 (i := 0) rfl) ?_
                refine zw_goto (pc := 130) (tgt := 10) (by decide) (zdal_p dlA_Sums_solve_143 (i := 1) rfl) ?_
                refine zW_le [some (.ref (d_ + 23)), some (.int (Int32.ofInt a0_)), some (.int (Int32.ofInt (u1_ + (-1)))), none, none, none] (⟨rfl, rfl, rfl, trivial⟩) ?_
                exact ih_10 (u1_ + (-1)) (by omega) (by omega) N19_ hb0_N19_ (show (u1_ + (-1)) < F_ by first | assumption | omega) (show -1 ≤ (u1_ + (-1)) by first | assumption | omega) (show ∀ u : Nat → Int, zsv F_ K_ d_ Mz u → zUp F_ d_ Mz N19_ a0_ u (u1_ + (-1)) by exact hu1_) (show zOu F_ d_ Mz N19_ a0_ by exact ho1_) (by omega)
            · skip
              refine zw_lload_n (pc := 40) (n := 3) (x := Int64.ofInt u10_) rfl (zdal_p dlA_Sums_solve_140 (i := 22) rfl) ?_
              refine zw_aload_n (pc := 41) (n := 0) (x := (d_ + 23)) rfl (zdal_p dlA_Sums_solve_140 (i := 23) rfl) ?_
              refine zw_getF (pc := 42) f_Sums_16 rfl ((hf_N2_.w hW).kr (o := 23) (by decide)) ((hf_N2_.w hW).lr (o := 23) (s := 1) (r := 24) (by decide)) (zdal_p dlA_Sums_solve_141 (i := 0) rfl) ?_
              refine zw_iload_n (pc := 45) (n := 1) (x := Int32.ofInt a0_) rfl (zdal_p dlA_Sums_solve_141 (i := 1) rfl) ?_
              refine zw_bipush (pc := 46) (v := Int32.ofInt 27) (by decide) (zdal_p dlA_Sums_solve_141 (i := 2) rfl) ?_
              refine zr_imul (pc := 48) (zdal_p dlA_Sums_solve_141 (i := 3) rfl) ?_
              refine zw_iload (pc := 49) (i := 5) (x := Int32.ofInt u11_) rfl (zdal_p dlA_Sums_solve_141 (i := 4) rfl) ?_
              refine zr_iadd (pc := 51) (zdal_p dlA_Sums_solve_141 (i := 5) rfl) ?_
              refine zk_atJ hf_N2_.x (pc := 52) l_Sums_27 ((hf_N2_.w hW).kr (o := 24) (by decide)) ((hf_N2_.w hW).lr (o := 24) (s := 0) (r := 25) (by decide)) ((hf_N2_.w hW).rr (o := 25) (t := 2) (n := 1080) (by decide)) (by decide) (by omega) (by omega) (by decide) (Nat.le_of_ble_eq_true rfl) (zdal_p dlA_Sums_solve_141 (i := 6) rfl) (fun v21_ hv21_ hv21_a hv21_b => ?_)
              have hx_ := hv21_
              refine zw_aload_n (pc := 55) (n := 0) (x := (d_ + 23)) rfl (zdal_p dlA_Sums_solve_141 (i := 7) rfl) ?_
              refine zw_getF (pc := 56) f_Sums_23 rfl ((hf_N2_.w hW).kr (o := 23) (by decide)) ((hf_N2_.w hW).lr (o := 23) (s := 0) (r := 12) (by decide)) (zdal_p dlA_Sums_solve_141 (i := 8) rfl) ?_
              refine zw_getF (pc := 59) f_Sums_41 rfl ((hf_N2_.w hW).kr (o := 12) (by decide)) ((hf_N2_.w hW).lr (o := 12) (s := 5) (r := 21) (by decide)) (zdal_p dlA_Sums_solve_141 (i := 9) rfl) ?_
              refine zw_iload (pc := 62) (i := 5) (x := Int32.ofInt u11_) rfl (zdal_p dlA_Sums_solve_141 (i := 10) rfl) ?_
              refine zw_bipush (pc := 64) (v := Int32.ofInt 27) (by decide) (zdal_p dlA_Sums_solve_141 (i := 11) rfl) ?_
              refine zr_imul (pc := 66) (zdal_p dlA_Sums_solve_141 (i := 12) rfl) ?_
              refine zw_iload_n (pc := 67) (n := 2) (x := Int32.ofInt u1_) rfl (zdal_p dlA_Sums_solve_141 (i := 13) rfl) ?_
              refine zr_iadd (pc := 68) (zdal_p dlA_Sums_solve_141 (i := 14) rfl) ?_
              refine zk_at hf_N2_.x (pc := 69) l_Sums_45 ((hf_N2_.w hW).kr (o := 21) (by decide)) ((hf_N2_.w hW).lr (o := 21) (s := 0) (r := 22) (by decide)) ((hf_N2_.w hW).rr (o := 22) (t := 1) (n := 729) (by decide)) (by decide) (by omega) (by omega) (by decide) (Nat.le_of_ble_eq_true rfl) (zdal_p dlA_Sums_solve_141 (i := 15) rfl) (fun v22_ hv22_ hv22_a hv22_b => ?_)
              rw [hf_N2_.r (by decide)] at hv22_
              have hy_ := p0_.k (by omega) (by omega) (by omega) (by omega) hv22_
              refine zr_i2l (pc := 72) ⟨hv22_a, hv22_b⟩ (zdal_p dlA_Sums_solve_141 (i := 16) rfl) ?_
              refine zr_lmul (pc := 73) (zdal_p dlA_Sums_solve_141 (i := 17) rfl) ?_
              refine zr_lsub (pc := 74) (zdal_p dlA_Sums_solve_141 (i := 18) rfl) ?_
              refine zk_nmJ (fun v23_ hv23_ hv23_e => ?_)
              obtain ⟨hv23_a, hv23_b⟩ := hv23_
              have hz_ := fun u hu => zin_s ((show ∀ u : Nat → Int, zsv F_ K_ d_ Mz u → Int64.ofInt u10_ = Int64.ofInt (zmq F_ K_ u (u1_).toNat - zsm (fun t => u ((u1_).toNat + 1 + t) * K_ ((u1_).toNat + 1 + t) (u1_).toNat) (u11_ - u1_ - 1).toNat) by assumption) u hu) hv23_e (by omega) (by omega) (by omega) (by omega) (hup_ u hu) hx_ hy_
              refine zw_lstore_n (pc := 75) (i := 3) (L2 := [some (.ref (d_ + 23)), some (.int (Int32.ofInt a0_)), some (.int (Int32.ofInt u1_)), some (.long (Int64.ofInt v23_)), none, some (.int (Int32.ofInt u11_))]) rfl (by decide) rfl (zdal_p dlA_Sums_solve_141 (i := 19) rfl) ?_
              refine zr_iinc (pc := 76) (i := 5) (a := u11_) (n := 1) (L2 := [some (.ref (d_ + 23)), some (.int (Int32.ofInt a0_)), some (.int (Int32.ofInt u1_)), some (.long (Int64.ofInt v23_)), none, some (.int (Int32.ofInt (u11_ + 1)))]) rfl (by decide) rfl (zdal_p dlA_Sums_solve_141 (i := 20) rfl) ?_
              refine zw_goto (pc := 79) (tgt := 28) (by decide) (zdal_p dlA_Sums_solve_141 (i := 21) rfl) ?_
              exact ih_28 v23_ hv23_a hv23_b (u11_ + 1) (by omega) (by omega) (show u1_ < (u11_ + 1) by first | assumption | omega) (show (u11_ + 1) ≤ F_ by first | assumption | omega) (show ∀ u : Nat → Int, zsv F_ K_ d_ Mz u → Int64.ofInt v23_ = Int64.ofInt (zmq F_ K_ u (u1_).toNat - zsm (fun t => u ((u1_).toNat + 1 + t) * K_ ((u1_).toNat + 1 + t) (u1_).toNat) ((u11_ + 1) - u1_ - 1).toNat) by exact hz_) (by omega)
        exact lp_28 _ v9_ hv9_a hv9_b (u1_ + 1) (by omega) (by omega) (show u1_ < (u1_ + 1) by first | assumption | omega) (show (u1_ + 1) ≤ F_ by first | assumption | omega) (show ∀ u : Nat → Int, zsv F_ K_ d_ Mz u → Int64.ofInt v9_ = Int64.ofInt (zmq F_ K_ u (u1_).toNat - zsm (fun t => u ((u1_).toNat + 1 + t) * K_ ((u1_).toNat + 1 + t) (u1_).toNat) ((u1_ + 1) - u1_ - 1).toNat) by exact fun u hu => zin_0 (by omega) hu (by omega) (by assumption)) (Nat.lt_succ_self _)
  exact lp_10 _ ((ze Mz (d_ + 12) 7) - 1) (by omega) (by omega) Mz zFc.rf (show ((ze Mz (d_ + 12) 7) - 1) < F_ by first | assumption | omega) (show -1 ≤ ((ze Mz (d_ + 12) 7) - 1) by first | assumption | omega) (show ∀ u : Nat → Int, zsv F_ K_ d_ Mz u → zUp F_ d_ Mz Mz a0_ u ((ze Mz (d_ + 12) 7) - 1) by exact fun u hu => zUp_0 (by omega)) (show zOu F_ d_ Mz Mz a0_ by exact fun x _ => rfl) (Nat.lt_succ_self _)
set_option maxHeartbeats 4000000 in
theorem u_Sums_isInBounds (l : Launch) (d_ : Nat) (Mz : zMem) (hW : zKW d_ Mz) (a0_ : Int) (ha0_a : -2147483648 ≤ a0_) (ha0_b : a0_ < 2147483648) (F_ : Nat) (K_ : Nat → Nat → Int) (hA_ : zTA F_ K_) (p0_ : zKm F_ K_ d_ Mz) (p1_ : 0 ≤ a0_) (p2_ : a0_ ≤ 39) (p3_ : zbd F_ K_ (zvc F_ d_ Mz a0_)) : zC l m_Sums_isInBounds 0 0 [.ref (d_ + 23), .int (Int32.ofInt a0_)] Mz (zqcI d_ [] [] [] [] Mz (fun v N => (((v = 1 ∧ zfit F_ K_ (zvc F_ d_ Mz a0_)) ∨ (v = 0 ∧ ¬ zfit F_ K_ (zvc F_ d_ Mz a0_)))))) := by
  refine zC_of (L0 := [some (.ref (d_ + 23)), some (.int (Int32.ofInt a0_)), none]) md_Sums_isInBounds (Nat.le_of_ble_eq_true rfl) rfl ?_ zQ0
  have hf : zFc d_ [] [] [] [] Mz Mz := zFc.rf
  have r_D12_7 := ze_r Mz (d_ + 12) 7
  obtain ⟨⟨hF1_, hF27_⟩, hAr_⟩ := id hA_
  obtain ⟨hFc_, hKt_⟩ := id p0_
  refine zw_iconst (pc := 0) (v := Int32.ofInt 0) (by decide) (zdal_p dlA_Sums_isInBounds_144 (i := 0) rfl) ?_
  refine zw_istore_n (pc := 1) (i := 2) (L2 := [some (.ref (d_ + 23)), some (.int (Int32.ofInt a0_)), some (.int (Int32.ofInt 0))]) rfl (by decide) rfl (zdal_p dlA_Sums_isInBounds_144 (i := 1) rfl) ?_
  have lp_2 : ∀ (n : Nat) (u1_ : Int) (hu1_a : -2147483648 ≤ u1_) (hu1_b : u1_ < 2147483648) (i2_ : 0 ≤ u1_) (i3_ : u1_ ≤ F_) (i4_ : zft F_ K_ (zvc F_ d_ Mz a0_) u1_), (ze Mz (d_ + 12) 7 - u1_).toNat < n → zW l m_Sums_isInBounds (zn Mz + 0, zw Mz + 0) Mz 2 [some (.ref (d_ + 23)), some (.int (Int32.ofInt a0_)), some (.int (Int32.ofInt u1_))] [] (zqcI d_ [] [] [] [] Mz (fun v N => (((v = 1 ∧ zfit F_ K_ (zvc F_ d_ Mz a0_)) ∨ (v = 0 ∧ ¬ zfit F_ K_ (zvc F_ d_ Mz a0_)))))) := by
    intro n
    induction n with
    | zero =>
      intro u1_ hu1_a hu1_b i2_ i3_ i4_ h0
      exact absurd h0 (Nat.not_lt_zero _)
    | succ n ih_2 =>
      intro u1_ hu1_a hu1_b i2_ i3_ i4_ hlt_2
      refine zw_iload_n (pc := 2) (n := 2) (x := Int32.ofInt u1_) rfl (zdal_p dlA_Sums_isInBounds_144 (i := 2) rfl) ?_
      refine zw_aload_n (pc := 3) (n := 0) (x := (d_ + 23)) rfl (zdal_p dlA_Sums_isInBounds_144 (i := 3) rfl) ?_
      refine zw_getF (pc := 4) f_Sums_23 rfl ((hf.w hW).kr (o := 23) (by decide)) ((hf.w hW).lr (o := 23) (s := 0) (r := 12) (by decide)) (zdal_p dlA_Sums_isInBounds_144 (i := 4) rfl) ?_
      refine zk_getI (pc := 7) f_Sums_35 rfl ((hf.w hW).kr (o := 12) (by decide)) (zdal_p dlA_Sums_isInBounds_144 (i := 5) rfl) ?_
      refine zr_icmp_ge (pc := 10) (tgt := 53) ⟨hu1_a, hu1_b⟩ ⟨(ze_r Mz (d_ + 12) 7).1, (ze_r Mz (d_ + 12) 7).2⟩ (by decide) (zdal_p dlA_Sums_isInBounds_144 (i := 6) rfl) (fun hc_10 => ?_) (fun hc_10 => ?_)
      · skip
        refine zw_iconst (pc := 53) (v := Int32.ofInt 1) (by decide) (zdal_p dlA_Sums_isInBounds_145 (i := 3) rfl) ?_
        exact zk_iret (pc := 54) (ty := .boolean) rfl (z_narB (by omega)) ⟨by omega, by omega⟩ hf (show ((1 = 1 ∧ zfit F_ K_ (zvc F_ d_ Mz a0_)) ∨ (1 = 0 ∧ ¬ zfit F_ K_ (zvc F_ d_ Mz a0_))) from Or.inl (⟨(show 1 = 1 by first | rfl | exact zft_e (show zft F_ K_ (zvc F_ d_ Mz a0_) u1_ by assumption) (by omega)), (show zfit F_ K_ (zvc F_ d_ Mz a0_) by first | rfl | exact zft_e (show zft F_ K_ (zvc F_ d_ Mz a0_) u1_ by assumption) (by omega))⟩)) (zdal_p dlA_Sums_isInBounds_145 (i := 4) rfl)
      · skip
        refine zw_aload_n (pc := 13) (n := 0) (x := (d_ + 23)) rfl (zdal_p dlA_Sums_isInBounds_144 (i := 7) rfl) ?_
        refine zw_iload_n (pc := 14) (n := 1) (x := Int32.ofInt a0_) rfl (zdal_p dlA_Sums_isInBounds_144 (i := 8) rfl) ?_
        refine zw_iload_n (pc := 15) (n := 2) (x := Int32.ofInt u1_) rfl (zdal_p dlA_Sums_isInBounds_144 (i := 9) rfl) ?_
        refine zk_callV hf.x (pc := 16) [.int (Int32.ofInt a0_), .int (Int32.ofInt u1_)] [] l_Sums_67 (u_Sums_numberAt l d_ Mz (hf.w hW) a0_ ha0_a ha0_b u1_ hu1_a hu1_b (show 0 ≤ a0_ by first | assumption | omega) (show a0_ ≤ 39 by first | assumption | omega) (show 0 ≤ u1_ by first | assumption | omega) (show u1_ ≤ 26 by first | assumption | omega)) rfl rfl ((hf.w hW).kr (o := 23) (by decide)) (by decide) (by decide) (Nat.le_of_ble_eq_true rfl) (zdal_p dlA_Sums_isInBounds_144 (i := 10) rfl) ?_
        rintro _ N5_ ⟨v6_, rfl, ⟨hv6_a, hv6_b⟩, hsN5_, hp0_N5_⟩
        obtain rfl := hsN5_.eq.symm
        replace hp0_N5_ : v6_ = zg Mz (d_ + 25) (a0_ * 27 + u1_).toNat := hp0_N5_
        show zW l m_Sums_isInBounds (zn Mz + 0, zw Mz + 0) Mz 19 [some (.ref (d_ + 23)), some (.int (Int32.ofInt a0_)), some (.int (Int32.ofInt u1_))] [.long (Int64.ofInt v6_)] _
        have hb_ := p3_ (u1_).toNat (by omega)
        have hx_ := zvc_at (F := F_) (k := (u1_).toNat) (s := a0_) (by omega) (by omega) hp0_N5_ (by omega)
        refine zk_absJ (pc := 19) x_Sums_74 (by decide) (Nat.le_of_ble_eq_true rfl) (zdal_p dlA_Sums_isInBounds_144 (i := 11) rfl) ⟨hv6_a, hv6_b⟩ (fun v7_ hv7_ => ?_)
        refine zr_ldc2 (pc := 22) (n := 1000000000000) (by decide) k_Sums_80 (zdal_p dlA_Sums_isInBounds_144 (i := 12) rfl) ?_
        refine zr_lcmp (pc := 25) ⟨(by omega), (by omega)⟩ ⟨(by decide), (by decide)⟩ (zdal_p dlA_Sums_isInBounds_144 (i := 13) rfl) ?_
        have hr8_ := zcmp_s v7_ 1000000000000
        refine zr_if_gt (pc := 26) (tgt := 45) ⟨(by omega), (by omega)⟩ (by decide) (zdal_p dlA_Sums_isInBounds_144 (i := 14) rfl) (fun hc_26 => ?_) (fun hc_26 => ?_)
        · skip
          refine zw_iconst (pc := 45) (v := Int32.ofInt 0) (by decide) (zdal_p dlA_Sums_isInBounds_144 (i := 23) rfl) ?_
          exact zk_iret (pc := 46) (ty := .boolean) rfl (z_narB (by omega)) ⟨by omega, by omega⟩ hf (show ((0 = 1 ∧ zfit F_ K_ (zvc F_ d_ Mz a0_)) ∨ (0 = 0 ∧ ¬ zfit F_ K_ (zvc F_ d_ Mz a0_))) from Or.inr (⟨(show 0 = 0 by first | rfl | (intro hq; have hq1 := hq (u1_).toNat (by omega); unfold zLim at hq1; omega)), (show ¬ zfit F_ K_ (zvc F_ d_ Mz a0_) by first | rfl | (intro hq; have hq1 := hq (u1_).toNat (by omega); unfold zLim at hq1; omega))⟩)) (zdal_p dlA_Sums_isInBounds_145 (i := 0) rfl)
        · skip
          refine zw_aload_n (pc := 29) (n := 0) (x := (d_ + 23)) rfl (zdal_p dlA_Sums_isInBounds_144 (i := 15) rfl) ?_
          refine zw_iload_n (pc := 30) (n := 1) (x := Int32.ofInt a0_) rfl (zdal_p dlA_Sums_isInBounds_144 (i := 16) rfl) ?_
          refine zw_iload_n (pc := 31) (n := 2) (x := Int32.ofInt u1_) rfl (zdal_p dlA_Sums_isInBounds_144 (i := 17) rfl) ?_
          refine zk_callV hf.x (pc := 32) [.int (Int32.ofInt a0_), .int (Int32.ofInt u1_)] [] l_Sums_50 (u_Sums_markOf l d_ Mz (hf.w hW) a0_ ha0_a ha0_b u1_ hu1_a hu1_b F_ K_ hA_ p0_ (show 0 ≤ a0_ by first | assumption | omega) (show a0_ ≤ 39 by first | assumption | omega) (show 0 ≤ u1_ by first | assumption | omega) (show u1_ < F_ by first | assumption | omega)) rfl rfl ((hf.w hW).kr (o := 23) (by decide)) (by decide) (by decide) (Nat.le_of_ble_eq_true rfl) (zdal_p dlA_Sums_isInBounds_144 (i := 18) rfl) ?_
          rintro _ N9_ ⟨v10_, rfl, ⟨hv10_a, hv10_b⟩, hsN9_, hp0_N9_⟩
          obtain rfl := hsN9_.eq.symm
          replace hp0_N9_ : Int64.ofInt v10_ = Int64.ofInt (zmq F_ K_ (zvc F_ d_ Mz a0_) (u1_).toNat) := hp0_N9_
          show zW l m_Sums_isInBounds (zn Mz + 0, zw Mz + 0) Mz 35 [some (.ref (d_ + 23)), some (.int (Int32.ofInt a0_)), some (.int (Int32.ofInt u1_))] [.long (Int64.ofInt v10_)] _
          have hy_ := z64q ⟨by omega, by omega⟩ ⟨by omega, by omega⟩ hp0_N9_
          refine zk_absJ (pc := 35) x_Sums_74 (by decide) (Nat.le_of_ble_eq_true rfl) (zdal_p dlA_Sums_isInBounds_144 (i := 19) rfl) ⟨hv10_a, hv10_b⟩ (fun v11_ hv11_ => ?_)
          refine zr_ldc2 (pc := 38) (n := 1000000000000) (by decide) k_Sums_80 (zdal_p dlA_Sums_isInBounds_144 (i := 20) rfl) ?_
          refine zr_lcmp (pc := 41) ⟨(by omega), (by omega)⟩ ⟨(by decide), (by decide)⟩ (zdal_p dlA_Sums_isInBounds_144 (i := 21) rfl) ?_
          have hr12_ := zcmp_s v11_ 1000000000000
          refine zr_if_le (pc := 42) (tgt := 47) ⟨(by omega), (by omega)⟩ (by decide) (zdal_p dlA_Sums_isInBounds_144 (i := 22) rfl) (fun hc_42 => ?_) (fun hc_42 => ?_)
          · skip
            have hn_ := zft_s (show zft F_ K_ (zvc F_ d_ Mz a0_) u1_ by assumption) (by omega) (by unfold zLim; omega)
            refine zr_iinc (pc := 47) (i := 2) (a := u1_) (n := 1) (L2 := [some (.ref (d_ + 23)), some (.int (Int32.ofInt a0_)), some (.int (Int32.ofInt (u1_ + 1)))]) rfl (by decide) rfl (zdal_p dlA_Sums_isInBounds_145 (i := 1) rfl) ?_
            refine zw_goto (pc := 50) (tgt := 2) (by decide) (zdal_p dlA_Sums_isInBounds_145 (i := 2) rfl) ?_
            exact ih_2 (u1_ + 1) (by omega) (by omega) (show 0 ≤ (u1_ + 1) by first | assumption | omega) (show (u1_ + 1) ≤ F_ by first | assumption | omega) (show zft F_ K_ (zvc F_ d_ Mz a0_) (u1_ + 1) by exact hn_) (by omega)
          · skip
            refine zw_iconst (pc := 45) (v := Int32.ofInt 0) (by decide) (zdal_p dlA_Sums_isInBounds_144 (i := 23) rfl) ?_
            exact zk_iret (pc := 46) (ty := .boolean) rfl (z_narB (by omega)) ⟨by omega, by omega⟩ hf (show ((0 = 1 ∧ zfit F_ K_ (zvc F_ d_ Mz a0_)) ∨ (0 = 0 ∧ ¬ zfit F_ K_ (zvc F_ d_ Mz a0_))) from Or.inr (⟨(show 0 = 0 by first | rfl | (intro hq; have hq1 := hq (u1_).toNat (by omega); unfold zLim at hq1; omega)), (show ¬ zfit F_ K_ (zvc F_ d_ Mz a0_) by first | rfl | (intro hq; have hq1 := hq (u1_).toNat (by omega); unfold zLim at hq1; omega))⟩)) (zdal_p dlA_Sums_isInBounds_145 (i := 0) rfl)
  exact lp_2 _ 0 (by decide) (by decide) (show 0 ≤ (0 : Int) by first | assumption | omega) (show (0 : Int) ≤ F_ by first | assumption | omega) (show zft F_ K_ (zvc F_ d_ Mz a0_) (0 : Int) by exact zft_0) (Nat.lt_succ_self _)
set_option maxHeartbeats 4000000 in
theorem u_Sums_putNegative (l : Launch) (d_ : Nat) (Mz : zMem) (hW : zKW d_ Mz) (a0_ : Int) (ha0_a : -2147483648 ≤ a0_) (ha0_b : a0_ < 2147483648) (F_ : Nat) (K_ : Nat → Nat → Int) (hA_ : zTA F_ K_) (p0_ : zKm F_ K_ d_ Mz) (p1_ : 0 ≤ a0_) (p2_ : a0_ ≤ 39) (p3_ : zfit F_ K_ (zvc F_ d_ Mz a0_)) : zC l m_Sums_putNegative 0 0 [.ref (d_ + 23), .int (Int32.ofInt a0_)] Mz (zqcV d_ [] [] [] [25] Mz (fun N => zSh F_ d_ Mz N a0_ (fun k => -(zvc F_ d_ Mz a0_) k))) := by
  refine zC_of (L0 := [some (.ref (d_ + 23)), some (.int (Int32.ofInt a0_)), none]) md_Sums_putNegative (Nat.le_of_ble_eq_true rfl) rfl ?_ zQ0
  have hf : zFc d_ [] [] [] [25] Mz Mz := zFc.rf
  have r_D12_7 := ze_r Mz (d_ + 12) 7
  obtain ⟨⟨hF1_, hF27_⟩, hAr_⟩ := id hA_
  obtain ⟨hFc_, hKt_⟩ := id p0_
  refine zw_iconst (pc := 0) (v := Int32.ofInt 0) (by decide) (zdal_p dlA_Sums_putNegative_151 (i := 0) rfl) ?_
  refine zw_istore_n (pc := 1) (i := 2) (L2 := [some (.ref (d_ + 23)), some (.int (Int32.ofInt a0_)), some (.int (Int32.ofInt 0))]) rfl (by decide) rfl (zdal_p dlA_Sums_putNegative_151 (i := 1) rfl) ?_
  have lp_2 : ∀ (n : Nat) (u1_ : Int) (hu1_a : -2147483648 ≤ u1_) (hu1_b : u1_ < 2147483648) (N2_ : zMem) (hs3_ : zFc d_ [] [] [] [25] Mz N2_) (i4_ : 0 ≤ u1_) (i5_ : u1_ ≤ F_) (i6_ : zSh u1_ d_ Mz N2_ a0_ (fun k => -(zvc F_ d_ Mz a0_) k)), (ze Mz (d_ + 12) 7 - u1_).toNat < n → zW l m_Sums_putNegative (zn Mz + 0, zw Mz + 0) N2_ 2 [some (.ref (d_ + 23)), some (.int (Int32.ofInt a0_)), some (.int (Int32.ofInt u1_))] [] (zqcV d_ [] [] [] [25] Mz (fun N => zSh F_ d_ Mz N a0_ (fun k => -(zvc F_ d_ Mz a0_) k))) := by
    intro n
    induction n with
    | zero =>
      intro u1_ hu1_a hu1_b N2_ hs3_ i4_ i5_ i6_ h0
      exact absurd h0 (Nat.not_lt_zero _)
    | succ n ih_2 =>
      intro u1_ hu1_a hu1_b N2_ hs3_ i4_ i5_ i6_ hlt_2
      have hf_N2_ : zFc d_ [] [] [] [25] Mz N2_ := hf.tr hs3_ (by decide) (by decide) (by decide) (by decide)
      have eD12_7_N2_ : ze N2_ (d_ + 12) 7 = ze Mz (d_ + 12) 7 := hs3_.e (by decide)
      have c7_ : zKm F_ K_ d_ N2_ := zKm.fr (hf.w hW) hs3_ p0_ (by decide)
      refine zw_iload_n (pc := 2) (n := 2) (x := Int32.ofInt u1_) rfl (zdal_p dlA_Sums_putNegative_151 (i := 2) rfl) ?_
      refine zw_aload_n (pc := 3) (n := 0) (x := (d_ + 23)) rfl (zdal_p dlA_Sums_putNegative_151 (i := 3) rfl) ?_
      refine zw_getF (pc := 4) f_Sums_23 rfl ((hf_N2_.w hW).kr (o := 23) (by decide)) ((hf_N2_.w hW).lr (o := 23) (s := 0) (r := 12) (by decide)) (zdal_p dlA_Sums_putNegative_151 (i := 4) rfl) ?_
      refine zk_getI (pc := 7) f_Sums_35 rfl ((hf_N2_.w hW).kr (o := 12) (by decide)) (zdal_p dlA_Sums_putNegative_151 (i := 5) rfl) ?_
      rw [hf_N2_.e (by decide)]
      refine zr_icmp_ge (pc := 10) (tgt := 32) ⟨hu1_a, hu1_b⟩ ⟨(ze_r Mz (d_ + 12) 7).1, (ze_r Mz (d_ + 12) 7).2⟩ (by decide) (zdal_p dlA_Sums_putNegative_151 (i := 6) rfl) (fun hc_10 => ?_) (fun hc_10 => ?_)
      · skip
        exact zk_vret (pc := 32) rfl hf_N2_ (show zSh F_ d_ Mz N2_ a0_ (fun k => -(zvc F_ d_ Mz a0_) k) by rw [show (F_ : Int) = u1_ by omega]; assumption) (zdal_p dlA_Sums_putNegative_151 (i := 18) rfl)
      · skip
        refine zw_aload_n (pc := 13) (n := 0) (x := (d_ + 23)) rfl (zdal_p dlA_Sums_putNegative_151 (i := 7) rfl) ?_
        refine zw_iload_n (pc := 14) (n := 1) (x := Int32.ofInt a0_) rfl (zdal_p dlA_Sums_putNegative_151 (i := 8) rfl) ?_
        refine zw_iload_n (pc := 15) (n := 2) (x := Int32.ofInt u1_) rfl (zdal_p dlA_Sums_putNegative_151 (i := 9) rfl) ?_
        refine zw_aload_n (pc := 16) (n := 0) (x := (d_ + 23)) rfl (zdal_p dlA_Sums_putNegative_151 (i := 10) rfl) ?_
        refine zw_iload_n (pc := 17) (n := 1) (x := Int32.ofInt a0_) rfl (zdal_p dlA_Sums_putNegative_151 (i := 11) rfl) ?_
        refine zw_iload_n (pc := 18) (n := 2) (x := Int32.ofInt u1_) rfl (zdal_p dlA_Sums_putNegative_151 (i := 12) rfl) ?_
        refine zk_callV hf_N2_.x (pc := 19) [.int (Int32.ofInt a0_), .int (Int32.ofInt u1_)] [.int (Int32.ofInt u1_), .int (Int32.ofInt a0_), .ref (d_ + 23)] l_Sums_67 (u_Sums_numberAt l d_ N2_ (hf_N2_.w hW) a0_ ha0_a ha0_b u1_ hu1_a hu1_b (show 0 ≤ a0_ by first | assumption | omega) (show a0_ ≤ 39 by first | assumption | omega) (show 0 ≤ u1_ by first | assumption | omega) (show u1_ ≤ 26 by first | assumption | omega)) rfl rfl ((hf_N2_.w hW).kr (o := 23) (by decide)) (by decide) (by decide) (Nat.le_of_ble_eq_true rfl) (zdal_p dlA_Sums_putNegative_151 (i := 13) rfl) ?_
        rintro _ N8_ ⟨v9_, rfl, ⟨hv9_a, hv9_b⟩, hsN8_, hp0_N8_⟩
        obtain rfl := hsN8_.eq.symm
        replace hp0_N8_ : v9_ = zg N2_ (d_ + 25) (a0_ * 27 + u1_).toNat := hp0_N8_
        show zW l m_Sums_putNegative (zn Mz + 0, zw Mz + 0) N2_ 22 [some (.ref (d_ + 23)), some (.int (Int32.ofInt a0_)), some (.int (Int32.ofInt u1_))] [.long (Int64.ofInt v9_), .int (Int32.ofInt u1_), .int (Int32.ofInt a0_), .ref (d_ + 23)] _
        have hb_ := (p3_ (u1_).toNat (by omega)).1
        unfold zLim at hb_
        have hx_ := zvc_at (F := F_) (k := (u1_).toNat) (s := a0_) (by omega) (by omega) (zSh_a (show zSh u1_ d_ Mz N2_ a0_ (fun k => -(zvc F_ d_ Mz a0_) k) by assumption) hp0_N8_ (by omega)) (by omega)
        refine zr_lneg (pc := 22) (zdal_p dlA_Sums_putNegative_151 (i := 14) rfl) ?_
        refine zk_callV hf_N2_.x (pc := 23) [.int (Int32.ofInt a0_), .int (Int32.ofInt u1_), .long (Int64.ofInt (-v9_))] [] l_Sums_70 (u_Sums_putNumber l d_ N2_ (hf_N2_.w hW) a0_ ha0_a ha0_b u1_ hu1_a hu1_b (-v9_) (by omega) (by omega) (show 0 ≤ a0_ by first | assumption | omega) (show a0_ ≤ 39 by first | assumption | omega) (show 0 ≤ u1_ by first | assumption | omega) (show u1_ ≤ 26 by first | assumption | omega)) rfl rfl ((hf_N2_.w hW).kr (o := 23) (by decide)) (by decide) (by decide) (Nat.le_of_ble_eq_true rfl) (zdal_p dlA_Sums_putNegative_151 (i := 15) rfl) ?_
        rintro _ N10_ ⟨rfl, hsN10_, hp0_N10_⟩
        replace hp0_N10_ : zS1 d_ N2_ N10_ (a0_ * 27 + u1_) (-v9_) := hp0_N10_
        have hf_N10_ : zFc d_ [] [] [] [25] Mz N10_ := hf_N2_.tr hsN10_ (by decide) (by decide) (by decide) (by decide)
        have hb0_N10_ : zFc d_ [] [] [] [25] Mz N10_ := hs3_.tr hsN10_ (by decide) (by decide) (by decide) (by decide)
        have eD12_7_N10_ : ze N10_ (d_ + 12) 7 = ze N2_ (d_ + 12) 7 := hsN10_.e (by decide)
        have c12_ : zKm F_ K_ d_ N10_ := zKm.fr (hf_N2_.w hW) hsN10_ c7_ (by decide)
        show zW l m_Sums_putNegative (zn Mz + 0, zw Mz + 0) N10_ 26 [some (.ref (d_ + 23)), some (.int (Int32.ofInt a0_)), some (.int (Int32.ofInt u1_))] [] _
        have hs1_ := zSh_s (show zSh u1_ d_ Mz N2_ a0_ (fun k => -(zvc F_ d_ Mz a0_) k) by assumption) hp0_N10_ rfl (by omega) (by show _ = -_; rw [hx_])
        refine zr_iinc (pc := 26) (i := 2) (a := u1_) (n := 1) (L2 := [some (.ref (d_ + 23)), some (.int (Int32.ofInt a0_)), some (.int (Int32.ofInt (u1_ + 1)))]) rfl (by decide) rfl (zdal_p dlA_Sums_putNegative_151 (i := 16) rfl) ?_
        refine zw_goto (pc := 29) (tgt := 2) (by decide) (zdal_p dlA_Sums_putNegative_151 (i := 17) rfl) ?_
        exact ih_2 (u1_ + 1) (by omega) (by omega) N10_ hb0_N10_ (show 0 ≤ (u1_ + 1) by first | assumption | omega) (show (u1_ + 1) ≤ F_ by first | assumption | omega) (show zSh (u1_ + 1) d_ Mz N10_ a0_ (fun k => -(zvc F_ d_ Mz a0_) k) by exact hs1_) (by omega)
  exact lp_2 _ 0 (by decide) (by decide) Mz zFc.rf (show 0 ≤ (0 : Int) by first | assumption | omega) (show (0 : Int) ≤ F_ by first | assumption | omega) (show zSh (0 : Int) d_ Mz Mz a0_ (fun k => -(zvc F_ d_ Mz a0_) k) by exact zSh_0) (Nat.lt_succ_self _)
set_option maxHeartbeats 4000000 in
theorem u_Sums_add (l : Launch) (d_ : Nat) (Mz : zMem) (hW : zKW d_ Mz) (a0_ : Int) (ha0_a : -2147483648 ≤ a0_) (ha0_b : a0_ < 2147483648) (a1_ : Int) (ha1_a : -2147483648 ≤ a1_) (ha1_b : a1_ < 2147483648) (a2_ : Int) (ha2_a : -2147483648 ≤ a2_) (ha2_b : a2_ < 2147483648) (F_ : Nat) (K_ : Nat → Nat → Int) (hA_ : zTA F_ K_) (p0_ : zKm F_ K_ d_ Mz) (p1_ : 0 ≤ a0_) (p2_ : a0_ ≤ 39) (p3_ : 0 ≤ a1_) (p4_ : a1_ ≤ 39) (p5_ : a0_ ≠ a1_) (p6_ : (a2_ = 1 ∨ a2_ = -1)) (p7_ : zfit F_ K_ (zvc F_ d_ Mz a0_)) (p8_ : zfit F_ K_ (zvc F_ d_ Mz a1_)) : zC l m_Sums_add 0 0 [.ref (d_ + 23), .int (Int32.ofInt a0_), .int (Int32.ofInt a1_), .int (Int32.ofInt a2_)] Mz (zqcV d_ [] [] [] [25] Mz (fun N => zSh F_ d_ Mz N a0_ (fun k => (zvc F_ d_ Mz a0_) k + a2_ * (zvc F_ d_ Mz a1_) k))) := by
  refine zC_of (L0 := [some (.ref (d_ + 23)), some (.int (Int32.ofInt a0_)), some (.int (Int32.ofInt a1_)), some (.int (Int32.ofInt a2_)), none]) md_Sums_add (Nat.le_of_ble_eq_true rfl) rfl ?_ zQ0
  have hf : zFc d_ [] [] [] [25] Mz Mz := zFc.rf
  have r_D12_7 := ze_r Mz (d_ + 12) 7
  obtain ⟨⟨hF1_, hF27_⟩, hAr_⟩ := id hA_
  obtain ⟨hFc_, hKt_⟩ := id p0_
  refine zw_iconst (pc := 0) (v := Int32.ofInt 0) (by decide) (zdal_p dlA_Sums_add_157 (i := 0) rfl) ?_
  refine zw_istore (pc := 1) (i := 4) (L2 := [some (.ref (d_ + 23)), some (.int (Int32.ofInt a0_)), some (.int (Int32.ofInt a1_)), some (.int (Int32.ofInt a2_)), some (.int (Int32.ofInt 0))]) (by decide) rfl (zdal_p dlA_Sums_add_157 (i := 1) rfl) ?_
  have lp_3 : ∀ (n : Nat) (u1_ : Int) (hu1_a : -2147483648 ≤ u1_) (hu1_b : u1_ < 2147483648) (N2_ : zMem) (hs3_ : zFc d_ [] [] [] [25] Mz N2_) (i4_ : 0 ≤ u1_) (i5_ : u1_ ≤ F_) (i6_ : zSh u1_ d_ Mz N2_ a0_ (fun k => (zvc F_ d_ Mz a0_) k + a2_ * (zvc F_ d_ Mz a1_) k)), (ze Mz (d_ + 12) 7 - u1_).toNat < n → zW l m_Sums_add (zn Mz + 0, zw Mz + 0) N2_ 3 [some (.ref (d_ + 23)), some (.int (Int32.ofInt a0_)), some (.int (Int32.ofInt a1_)), some (.int (Int32.ofInt a2_)), some (.int (Int32.ofInt u1_))] [] (zqcV d_ [] [] [] [25] Mz (fun N => zSh F_ d_ Mz N a0_ (fun k => (zvc F_ d_ Mz a0_) k + a2_ * (zvc F_ d_ Mz a1_) k))) := by
    intro n
    induction n with
    | zero =>
      intro u1_ hu1_a hu1_b N2_ hs3_ i4_ i5_ i6_ h0
      exact absurd h0 (Nat.not_lt_zero _)
    | succ n ih_3 =>
      intro u1_ hu1_a hu1_b N2_ hs3_ i4_ i5_ i6_ hlt_3
      have hf_N2_ : zFc d_ [] [] [] [25] Mz N2_ := hf.tr hs3_ (by decide) (by decide) (by decide) (by decide)
      have eD12_7_N2_ : ze N2_ (d_ + 12) 7 = ze Mz (d_ + 12) 7 := hs3_.e (by decide)
      have c7_ : zKm F_ K_ d_ N2_ := zKm.fr (hf.w hW) hs3_ p0_ (by decide)
      refine zw_iload (pc := 3) (i := 4) (x := Int32.ofInt u1_) rfl (zdal_p dlA_Sums_add_157 (i := 2) rfl) ?_
      refine zw_aload_n (pc := 5) (n := 0) (x := (d_ + 23)) rfl (zdal_p dlA_Sums_add_157 (i := 3) rfl) ?_
      refine zw_getF (pc := 6) f_Sums_23 rfl ((hf_N2_.w hW).kr (o := 23) (by decide)) ((hf_N2_.w hW).lr (o := 23) (s := 0) (r := 12) (by decide)) (zdal_p dlA_Sums_add_157 (i := 4) rfl) ?_
      refine zk_getI (pc := 9) f_Sums_35 rfl ((hf_N2_.w hW).kr (o := 12) (by decide)) (zdal_p dlA_Sums_add_157 (i := 5) rfl) ?_
      rw [hf_N2_.e (by decide)]
      refine zr_icmp_ge (pc := 12) (tgt := 46) ⟨hu1_a, hu1_b⟩ ⟨(ze_r Mz (d_ + 12) 7).1, (ze_r Mz (d_ + 12) 7).2⟩ (by decide) (zdal_p dlA_Sums_add_157 (i := 6) rfl) (fun hc_12 => ?_) (fun hc_12 => ?_)
      · skip
        exact zk_vret (pc := 46) rfl hf_N2_ (show zSh F_ d_ Mz N2_ a0_ (fun k => (zvc F_ d_ Mz a0_) k + a2_ * (zvc F_ d_ Mz a1_) k) by rw [show (F_ : Int) = u1_ by omega]; assumption) (zdal_p dlA_Sums_add_158 (i := 1) rfl)
      · skip
        refine zw_aload_n (pc := 15) (n := 0) (x := (d_ + 23)) rfl (zdal_p dlA_Sums_add_157 (i := 7) rfl) ?_
        refine zw_iload_n (pc := 16) (n := 1) (x := Int32.ofInt a0_) rfl (zdal_p dlA_Sums_add_157 (i := 8) rfl) ?_
        refine zw_iload (pc := 17) (i := 4) (x := Int32.ofInt u1_) rfl (zdal_p dlA_Sums_add_157 (i := 9) rfl) ?_
        refine zw_aload_n (pc := 19) (n := 0) (x := (d_ + 23)) rfl (zdal_p dlA_Sums_add_157 (i := 10) rfl) ?_
        refine zw_iload_n (pc := 20) (n := 1) (x := Int32.ofInt a0_) rfl (zdal_p dlA_Sums_add_157 (i := 11) rfl) ?_
        refine zw_iload (pc := 21) (i := 4) (x := Int32.ofInt u1_) rfl (zdal_p dlA_Sums_add_157 (i := 12) rfl) ?_
        refine zk_callV hf_N2_.x (pc := 23) [.int (Int32.ofInt a0_), .int (Int32.ofInt u1_)] [.int (Int32.ofInt u1_), .int (Int32.ofInt a0_), .ref (d_ + 23)] l_Sums_67 (u_Sums_numberAt l d_ N2_ (hf_N2_.w hW) a0_ ha0_a ha0_b u1_ hu1_a hu1_b (show 0 ≤ a0_ by first | assumption | omega) (show a0_ ≤ 39 by first | assumption | omega) (show 0 ≤ u1_ by first | assumption | omega) (show u1_ ≤ 26 by first | assumption | omega)) rfl rfl ((hf_N2_.w hW).kr (o := 23) (by decide)) (by decide) (by decide) (Nat.le_of_ble_eq_true rfl) (zdal_p dlA_Sums_add_157 (i := 13) rfl) ?_
        rintro _ N8_ ⟨v9_, rfl, ⟨hv9_a, hv9_b⟩, hsN8_, hp0_N8_⟩
        obtain rfl := hsN8_.eq.symm
        replace hp0_N8_ : v9_ = zg N2_ (d_ + 25) (a0_ * 27 + u1_).toNat := hp0_N8_
        show zW l m_Sums_add (zn Mz + 0, zw Mz + 0) N2_ 26 [some (.ref (d_ + 23)), some (.int (Int32.ofInt a0_)), some (.int (Int32.ofInt a1_)), some (.int (Int32.ofInt a2_)), some (.int (Int32.ofInt u1_))] [.long (Int64.ofInt v9_), .int (Int32.ofInt u1_), .int (Int32.ofInt a0_), .ref (d_ + 23)] _
        have hb_ := (p7_ (u1_).toNat (by omega)).1
        have hc_ := (p8_ (u1_).toNat (by omega)).1
        unfold zLim at hb_ hc_
        have hx_ := zvc_at (F := F_) (k := (u1_).toNat) (s := a0_) (by omega) (by omega) (zSh_a (show zSh u1_ d_ Mz N2_ a0_ (fun k => (zvc F_ d_ Mz a0_) k + a2_ * (zvc F_ d_ Mz a1_) k) by assumption) hp0_N8_ (by omega)) (by omega)
        refine zw_iload_n (pc := 26) (n := 3) (x := Int32.ofInt a2_) rfl (zdal_p dlA_Sums_add_157 (i := 14) rfl) ?_
        refine zr_i2l (pc := 27) ⟨ha2_a, ha2_b⟩ (zdal_p dlA_Sums_add_157 (i := 15) rfl) ?_
        refine zw_aload_n (pc := 28) (n := 0) (x := (d_ + 23)) rfl (zdal_p dlA_Sums_add_157 (i := 16) rfl) ?_
        refine zw_iload_n (pc := 29) (n := 2) (x := Int32.ofInt a1_) rfl (zdal_p dlA_Sums_add_157 (i := 17) rfl) ?_
        refine zw_iload (pc := 30) (i := 4) (x := Int32.ofInt u1_) rfl (zdal_p dlA_Sums_add_157 (i := 18) rfl) ?_
        refine zk_callV hf_N2_.x (pc := 32) [.int (Int32.ofInt a1_), .int (Int32.ofInt u1_)] [.long (Int64.ofInt a2_), .long (Int64.ofInt v9_), .int (Int32.ofInt u1_), .int (Int32.ofInt a0_), .ref (d_ + 23)] l_Sums_67 (u_Sums_numberAt l d_ N2_ (hf_N2_.w hW) a1_ ha1_a ha1_b u1_ hu1_a hu1_b (show 0 ≤ a1_ by first | assumption | omega) (show a1_ ≤ 39 by first | assumption | omega) (show 0 ≤ u1_ by first | assumption | omega) (show u1_ ≤ 26 by first | assumption | omega)) rfl rfl ((hf_N2_.w hW).kr (o := 23) (by decide)) (by decide) (by decide) (Nat.le_of_ble_eq_true rfl) (zdal_p dlA_Sums_add_157 (i := 19) rfl) ?_
        rintro _ N10_ ⟨v11_, rfl, ⟨hv11_a, hv11_b⟩, hsN10_, hp0_N10_⟩
        obtain rfl := hsN10_.eq.symm
        replace hp0_N10_ : v11_ = zg N2_ (d_ + 25) (a1_ * 27 + u1_).toNat := hp0_N10_
        show zW l m_Sums_add (zn Mz + 0, zw Mz + 0) N2_ 35 [some (.ref (d_ + 23)), some (.int (Int32.ofInt a0_)), some (.int (Int32.ofInt a1_)), some (.int (Int32.ofInt a2_)), some (.int (Int32.ofInt u1_))] [.long (Int64.ofInt v11_), .long (Int64.ofInt a2_), .long (Int64.ofInt v9_), .int (Int32.ofInt u1_), .int (Int32.ofInt a0_), .ref (d_ + 23)] _
        have hy_ := zvc_at (F := F_) (k := (u1_).toNat) (s := a1_) (by omega) (by omega) (zSh_a (show zSh u1_ d_ Mz N2_ a0_ (fun k => (zvc F_ d_ Mz a0_) k + a2_ * (zvc F_ d_ Mz a1_) k) by assumption) hp0_N10_ (by omega)) (by omega)
        refine zr_lmul (pc := 35) (zdal_p dlA_Sums_add_157 (i := 20) rfl) ?_
        have hmu_ : (a2_ * v11_) = zvc F_ d_ Mz a1_ (u1_).toNat ∨ (a2_ * v11_) = -zvc F_ d_ Mz a1_ (u1_).toNat := by rw [hy_]; rcases p6_ with h_ | h_ <;> rw [h_] <;> omega
        refine zr_ladd (pc := 36) (zdal_p dlA_Sums_add_157 (i := 21) rfl) ?_
        refine zk_callV hf_N2_.x (pc := 37) [.int (Int32.ofInt a0_), .int (Int32.ofInt u1_), .long (Int64.ofInt (v9_ + (a2_ * v11_)))] [] l_Sums_70 (u_Sums_putNumber l d_ N2_ (hf_N2_.w hW) a0_ ha0_a ha0_b u1_ hu1_a hu1_b (v9_ + (a2_ * v11_)) (by omega) (by omega) (show 0 ≤ a0_ by first | assumption | omega) (show a0_ ≤ 39 by first | assumption | omega) (show 0 ≤ u1_ by first | assumption | omega) (show u1_ ≤ 26 by first | assumption | omega)) rfl rfl ((hf_N2_.w hW).kr (o := 23) (by decide)) (by decide) (by decide) (Nat.le_of_ble_eq_true rfl) (zdal_p dlA_Sums_add_157 (i := 22) rfl) ?_
        rintro _ N12_ ⟨rfl, hsN12_, hp0_N12_⟩
        replace hp0_N12_ : zS1 d_ N2_ N12_ (a0_ * 27 + u1_) (v9_ + (a2_ * v11_)) := hp0_N12_
        have hf_N12_ : zFc d_ [] [] [] [25] Mz N12_ := hf_N2_.tr hsN12_ (by decide) (by decide) (by decide) (by decide)
        have hb0_N12_ : zFc d_ [] [] [] [25] Mz N12_ := hs3_.tr hsN12_ (by decide) (by decide) (by decide) (by decide)
        have eD12_7_N12_ : ze N12_ (d_ + 12) 7 = ze N2_ (d_ + 12) 7 := hsN12_.e (by decide)
        have c14_ : zKm F_ K_ d_ N12_ := zKm.fr (hf_N2_.w hW) hsN12_ c7_ (by decide)
        show zW l m_Sums_add (zn Mz + 0, zw Mz + 0) N12_ 40 [some (.ref (d_ + 23)), some (.int (Int32.ofInt a0_)), some (.int (Int32.ofInt a1_)), some (.int (Int32.ofInt a2_)), some (.int (Int32.ofInt u1_))] [] _
        have hs1_ := zSh_s (show zSh u1_ d_ Mz N2_ a0_ (fun k => (zvc F_ d_ Mz a0_) k + a2_ * (zvc F_ d_ Mz a1_) k) by assumption) hp0_N12_ rfl (by omega) (by show _ = _ + _ * _; rw [hx_, hy_])
        refine zr_iinc (pc := 40) (i := 4) (a := u1_) (n := 1) (L2 := [some (.ref (d_ + 23)), some (.int (Int32.ofInt a0_)), some (.int (Int32.ofInt a1_)), some (.int (Int32.ofInt a2_)), some (.int (Int32.ofInt (u1_ + 1)))]) rfl (by decide) rfl (zdal_p dlA_Sums_add_157 (i := 23) rfl) ?_
        refine zw_goto (pc := 43) (tgt := 3) (by decide) (zdal_p dlA_Sums_add_158 (i := 0) rfl) ?_
        exact ih_3 (u1_ + 1) (by omega) (by omega) N12_ hb0_N12_ (show 0 ≤ (u1_ + 1) by first | assumption | omega) (show (u1_ + 1) ≤ F_ by first | assumption | omega) (show zSh (u1_ + 1) d_ Mz N12_ a0_ (fun k => (zvc F_ d_ Mz a0_) k + a2_ * (zvc F_ d_ Mz a1_) k) by exact hs1_) (by omega)
  exact lp_3 _ 0 (by decide) (by decide) Mz zFc.rf (show 0 ≤ (0 : Int) by first | assumption | omega) (show (0 : Int) ≤ F_ by first | assumption | omega) (show zSh (0 : Int) d_ Mz Mz a0_ (fun k => (zvc F_ d_ Mz a0_) k + a2_ * (zvc F_ d_ Mz a1_) k) by exact zSh_0) (Nat.lt_succ_self _)
set_option maxHeartbeats 4000000 in
theorem u_Sums_multiply (l : Launch) (d_ : Nat) (Mz : zMem) (hW : zKW d_ Mz) (a0_ : Int) (ha0_a : -2147483648 ≤ a0_) (ha0_b : a0_ < 2147483648) (a1_ : Int) (ha1_a : -2147483648 ≤ a1_) (ha1_b : a1_ < 2147483648) (F_ : Nat) (K_ : Nat → Nat → Int) (hA_ : zTA F_ K_) (p0_ : zKm F_ K_ d_ Mz) (p1_ : 0 ≤ a0_) (p2_ : a0_ ≤ 39) (p3_ : 0 ≤ a1_) (p4_ : a1_ ≤ 39) (p5_ : zfit F_ K_ (zvc F_ d_ Mz a0_)) (p6_ : zfit F_ K_ (zvc F_ d_ Mz a1_)) : zC l m_Sums_multiply 0 0 [.ref (d_ + 23), .int (Int32.ofInt a0_), .int (Int32.ofInt a1_)] Mz (zqcI d_ [] [] [] [25, 27] Mz (fun v N => (((v = 1 ∧ zmok F_ K_ (zvc F_ d_ Mz a0_) (zvc F_ d_ Mz a1_) ∧ zSh F_ d_ Mz N a0_ (zprd F_ K_ (zvc F_ d_ Mz a0_) (zvc F_ d_ Mz a1_))) ∨ (v = 0 ∧ ¬ zmok F_ K_ (zvc F_ d_ Mz a0_) (zvc F_ d_ Mz a1_) ∧ (∀ x : Nat, zg N (d_ + 25) x = zg Mz (d_ + 25) x)))))) := by
  refine zC_of (L0 := [some (.ref (d_ + 23)), some (.int (Int32.ofInt a0_)), some (.int (Int32.ofInt a1_)), none, none, none, none, none]) md_Sums_multiply (Nat.le_of_ble_eq_true rfl) rfl ?_ zQ0
  have hf : zFc d_ [] [] [] [25, 27] Mz Mz := zFc.rf
  have r_D12_7 := ze_r Mz (d_ + 12) 7
  obtain ⟨⟨hF1_, hF27_⟩, hAr_⟩ := id hA_
  obtain ⟨hFc_, hKt_⟩ := id p0_
  refine zw_iconst (pc := 0) (v := Int32.ofInt 0) (by decide) (zdal_p dlA_Sums_multiply_136 (i := 0) rfl) ?_
  refine zw_istore_n (pc := 1) (i := 3) (L2 := [some (.ref (d_ + 23)), some (.int (Int32.ofInt a0_)), some (.int (Int32.ofInt a1_)), some (.int (Int32.ofInt 0)), none, none, none, none]) rfl (by decide) rfl (zdal_p dlA_Sums_multiply_136 (i := 1) rfl) ?_
  have lp_2 : ∀ (n : Nat) (u1_ : Int) (hu1_a : -2147483648 ≤ u1_) (hu1_b : u1_ < 2147483648) (N2_ : zMem) (hs3_ : zFc d_ [] [] [] [27] Mz N2_) (i4_ : 0 ≤ u1_) (i5_ : u1_ ≤ F_) (i6_ : zmp F_ K_ d_ N2_ (zvc F_ d_ Mz a0_) (zvc F_ d_ Mz a1_) u1_) (i7_ : (∀ x : Nat, zg N2_ (d_ + 25) x = zg Mz (d_ + 25) x)), (ze Mz (d_ + 12) 7 - u1_).toNat < n → zW l m_Sums_multiply (zn Mz + 0, zw Mz + 0) N2_ 2 [some (.ref (d_ + 23)), some (.int (Int32.ofInt a0_)), some (.int (Int32.ofInt a1_)), some (.int (Int32.ofInt u1_)), none, none, none, none] [] (zqcI d_ [] [] [] [25, 27] Mz (fun v N => (((v = 1 ∧ zmok F_ K_ (zvc F_ d_ Mz a0_) (zvc F_ d_ Mz a1_) ∧ zSh F_ d_ Mz N a0_ (zprd F_ K_ (zvc F_ d_ Mz a0_) (zvc F_ d_ Mz a1_))) ∨ (v = 0 ∧ ¬ zmok F_ K_ (zvc F_ d_ Mz a0_) (zvc F_ d_ Mz a1_) ∧ (∀ x : Nat, zg N (d_ + 25) x = zg Mz (d_ + 25) x)))))) := by
    intro n
    induction n with
    | zero =>
      intro u1_ hu1_a hu1_b N2_ hs3_ i4_ i5_ i6_ i7_ h0
      exact absurd h0 (Nat.not_lt_zero _)
    | succ n ih_2 =>
      intro u1_ hu1_a hu1_b N2_ hs3_ i4_ i5_ i6_ i7_ hlt_2
      have hf_N2_ : zFc d_ [] [] [] [25, 27] Mz N2_ := hf.tr hs3_ (by decide) (by decide) (by decide) (by decide)
      have eD12_7_N2_ : ze N2_ (d_ + 12) 7 = ze Mz (d_ + 12) 7 := hs3_.e (by decide)
      have c8_ : zKm F_ K_ d_ N2_ := zKm.fr (hf.w hW) hs3_ p0_ (by decide)
      refine zw_iload_n (pc := 2) (n := 3) (x := Int32.ofInt u1_) rfl (zdal_p dlA_Sums_multiply_136 (i := 2) rfl) ?_
      refine zw_aload_n (pc := 3) (n := 0) (x := (d_ + 23)) rfl (zdal_p dlA_Sums_multiply_136 (i := 3) rfl) ?_
      refine zw_getF (pc := 4) f_Sums_23 rfl ((hf_N2_.w hW).kr (o := 23) (by decide)) ((hf_N2_.w hW).lr (o := 23) (s := 0) (r := 12) (by decide)) (zdal_p dlA_Sums_multiply_136 (i := 4) rfl) ?_
      refine zk_getI (pc := 7) f_Sums_35 rfl ((hf_N2_.w hW).kr (o := 12) (by decide)) (zdal_p dlA_Sums_multiply_136 (i := 5) rfl) ?_
      rw [hf_N2_.e (by decide)]
      refine zr_icmp_ge (pc := 10) (tgt := 75) ⟨hu1_a, hu1_b⟩ ⟨(ze_r Mz (d_ + 12) 7).1, (ze_r Mz (d_ + 12) 7).2⟩ (by decide) (zdal_p dlA_Sums_multiply_136 (i := 6) rfl) (fun hc_10 => ?_) (fun hc_10 => ?_)
      · skip
        refine zw_aload_n (pc := 75) (n := 0) (x := (d_ + 23)) rfl (zdal_p dlA_Sums_multiply_137 (i := 16) rfl) ?_
        refine zw_iload_n (pc := 76) (n := 1) (x := Int32.ofInt a0_) rfl (zdal_p dlA_Sums_multiply_137 (i := 17) rfl) ?_
        refine zk_callV hf_N2_.x (pc := 77) [.int (Int32.ofInt a0_)] [] l_Sums_58 (u_Sums_solve l d_ N2_ (hf_N2_.w hW) a0_ ha0_a ha0_b F_ K_ hA_ c8_ (show 0 ≤ a0_ by first | assumption | omega) (show a0_ ≤ 39 by first | assumption | omega)) rfl rfl ((hf_N2_.w hW).kr (o := 23) (by decide)) (by decide) (by decide) (Nat.le_of_ble_eq_true rfl) (zdal_p dlA_Sums_multiply_137 (i := 18) rfl) ?_
        rintro _ N9_ ⟨rfl, hsN9_, ⟨hp0_N9_, hp1_N9_⟩⟩
        have hf_N9_ : zFc d_ [] [] [] [25, 27] Mz N9_ := hf_N2_.tr hsN9_ (by decide) (by decide) (by decide) (by decide)
        have eD12_7_N9_ : ze N9_ (d_ + 12) 7 = ze N2_ (d_ + 12) 7 := hsN9_.e (by decide)
        have c11_ : zKm F_ K_ d_ N9_ := zKm.fr (hf_N2_.w hW) hsN9_ c8_ (by decide)
        show zW l m_Sums_multiply (zn Mz + 0, zw Mz + 0) N9_ 80 [some (.ref (d_ + 23)), some (.int (Int32.ofInt a0_)), some (.int (Int32.ofInt a1_)), some (.int (Int32.ofInt u1_)), none, none, none, none] [] _
        have he_ := zmp_e hA_ (show zmp F_ K_ d_ N2_ (zvc F_ d_ Mz a0_) (zvc F_ d_ Mz a1_) u1_ by assumption) (by omega)
        have hsh_ := zSh_p (show (∀ x : Nat, zg N2_ (d_ + 25) x = zg Mz (d_ + 25) x) by assumption) (hp0_N9_ _ he_.2)
        refine zw_iconst (pc := 80) (v := Int32.ofInt 1) (by decide) (zdal_p dlA_Sums_multiply_137 (i := 19) rfl) ?_
        exact zk_iret (pc := 81) (ty := .boolean) rfl (z_narB (by omega)) ⟨by omega, by omega⟩ hf_N9_ (show ((1 = 1 ∧ zmok F_ K_ (zvc F_ d_ Mz a0_) (zvc F_ d_ Mz a1_) ∧ zSh F_ d_ Mz N9_ a0_ (zprd F_ K_ (zvc F_ d_ Mz a0_) (zvc F_ d_ Mz a1_))) ∨ (1 = 0 ∧ ¬ zmok F_ K_ (zvc F_ d_ Mz a0_) (zvc F_ d_ Mz a1_) ∧ (∀ x : Nat, zg N9_ (d_ + 25) x = zg Mz (d_ + 25) x))) from Or.inl (⟨(show 1 = 1 by first | rfl | exact he_.1 | exact hsh_), (show zmok F_ K_ (zvc F_ d_ Mz a0_) (zvc F_ d_ Mz a1_) by first | rfl | exact he_.1 | exact hsh_), (show zSh F_ d_ Mz N9_ a0_ (zprd F_ K_ (zvc F_ d_ Mz a0_) (zvc F_ d_ Mz a1_)) by first | rfl | exact he_.1 | exact hsh_)⟩)) (zdal_p dlA_Sums_multiply_137 (i := 20) rfl)
      · skip
        refine zw_aload_n (pc := 13) (n := 0) (x := (d_ + 23)) rfl (zdal_p dlA_Sums_multiply_136 (i := 7) rfl) ?_
        refine zw_iload_n (pc := 14) (n := 1) (x := Int32.ofInt a0_) rfl (zdal_p dlA_Sums_multiply_136 (i := 8) rfl) ?_
        refine zw_iload_n (pc := 15) (n := 3) (x := Int32.ofInt u1_) rfl (zdal_p dlA_Sums_multiply_136 (i := 9) rfl) ?_
        refine zk_callV hf_N2_.x (pc := 16) [.int (Int32.ofInt a0_), .int (Int32.ofInt u1_)] [] l_Sums_50 (u_Sums_markOf l d_ N2_ (hf_N2_.w hW) a0_ ha0_a ha0_b u1_ hu1_a hu1_b F_ K_ hA_ c8_ (show 0 ≤ a0_ by first | assumption | omega) (show a0_ ≤ 39 by first | assumption | omega) (show 0 ≤ u1_ by first | assumption | omega) (show u1_ < F_ by first | assumption | omega)) rfl rfl ((hf_N2_.w hW).kr (o := 23) (by decide)) (by decide) (by decide) (Nat.le_of_ble_eq_true rfl) (zdal_p dlA_Sums_multiply_136 (i := 10) rfl) ?_
        rintro _ N12_ ⟨v13_, rfl, ⟨hv13_a, hv13_b⟩, hsN12_, hp0_N12_⟩
        obtain rfl := hsN12_.eq.symm
        replace hp0_N12_ : Int64.ofInt v13_ = Int64.ofInt (zmq F_ K_ (zvc F_ d_ N2_ a0_) (u1_).toNat) := hp0_N12_
        show zW l m_Sums_multiply (zn Mz + 0, zw Mz + 0) N2_ 19 [some (.ref (d_ + 23)), some (.int (Int32.ofInt a0_)), some (.int (Int32.ofInt a1_)), some (.int (Int32.ofInt u1_)), none, none, none, none] [.long (Int64.ofInt v13_)] _
        have hv1_ := zvc_r (F := F_) (show (∀ x : Nat, zg N2_ (d_ + 25) x = zg Mz (d_ + 25) x) by assumption)
        have hb_ := (p5_ (u1_).toNat (by omega)).2
        have hc_ := (p6_ (u1_).toNat (by omega)).2
        unfold zLim at hb_ hc_
        have hx_ := hp0_N12_
        rw [hv1_] at hx_
        have hx2_ := z64q ⟨by omega, by omega⟩ ⟨by omega, by omega⟩ hx_
        refine zw_lstore (pc := 19) (i := 4) (L2 := [some (.ref (d_ + 23)), some (.int (Int32.ofInt a0_)), some (.int (Int32.ofInt a1_)), some (.int (Int32.ofInt u1_)), some (.long (Int64.ofInt v13_)), none, none, none]) (by decide) rfl (zdal_p dlA_Sums_multiply_136 (i := 11) rfl) ?_
        refine zw_aload_n (pc := 21) (n := 0) (x := (d_ + 23)) rfl (zdal_p dlA_Sums_multiply_136 (i := 12) rfl) ?_
        refine zw_iload_n (pc := 22) (n := 2) (x := Int32.ofInt a1_) rfl (zdal_p dlA_Sums_multiply_136 (i := 13) rfl) ?_
        refine zw_iload_n (pc := 23) (n := 3) (x := Int32.ofInt u1_) rfl (zdal_p dlA_Sums_multiply_136 (i := 14) rfl) ?_
        refine zk_callV hf_N2_.x (pc := 24) [.int (Int32.ofInt a1_), .int (Int32.ofInt u1_)] [] l_Sums_50 (u_Sums_markOf l d_ N2_ (hf_N2_.w hW) a1_ ha1_a ha1_b u1_ hu1_a hu1_b F_ K_ hA_ c8_ (show 0 ≤ a1_ by first | assumption | omega) (show a1_ ≤ 39 by first | assumption | omega) (show 0 ≤ u1_ by first | assumption | omega) (show u1_ < F_ by first | assumption | omega)) rfl rfl ((hf_N2_.w hW).kr (o := 23) (by decide)) (by decide) (by decide) (Nat.le_of_ble_eq_true rfl) (zdal_p dlA_Sums_multiply_136 (i := 15) rfl) ?_
        rintro _ N14_ ⟨v15_, rfl, ⟨hv15_a, hv15_b⟩, hsN14_, hp0_N14_⟩
        obtain rfl := hsN14_.eq.symm
        replace hp0_N14_ : Int64.ofInt v15_ = Int64.ofInt (zmq F_ K_ (zvc F_ d_ N2_ a1_) (u1_).toNat) := hp0_N14_
        show zW l m_Sums_multiply (zn Mz + 0, zw Mz + 0) N2_ 27 [some (.ref (d_ + 23)), some (.int (Int32.ofInt a0_)), some (.int (Int32.ofInt a1_)), some (.int (Int32.ofInt u1_)), some (.long (Int64.ofInt v13_)), none, none, none] [.long (Int64.ofInt v15_)] _
        have hy_ := hp0_N14_
        rw [hv1_] at hy_
        have hy2_ := z64q ⟨by omega, by omega⟩ ⟨by omega, by omega⟩ hy_
        refine zw_lstore (pc := 27) (i := 6) (L2 := [some (.ref (d_ + 23)), some (.int (Int32.ofInt a0_)), some (.int (Int32.ofInt a1_)), some (.int (Int32.ofInt u1_)), some (.long (Int64.ofInt v13_)), none, some (.long (Int64.ofInt v15_)), none]) (by decide) rfl (zdal_p dlA_Sums_multiply_136 (i := 16) rfl) ?_
        refine zw_lload (pc := 29) (i := 4) (x := Int64.ofInt v13_) rfl (zdal_p dlA_Sums_multiply_136 (i := 17) rfl) ?_
        refine zw_lconst (pc := 31) (v := Int64.ofInt 0) (by decide) (zdal_p dlA_Sums_multiply_136 (i := 18) rfl) ?_
        refine zr_lcmp (pc := 32) ⟨hv13_a, hv13_b⟩ ⟨(by decide), (by decide)⟩ (zdal_p dlA_Sums_multiply_136 (i := 19) rfl) ?_
        have hr16_ := zcmp_s v13_ 0
        refine zr_if_eq (pc := 33) (tgt := 56) ⟨(by omega), (by omega)⟩ (by decide) (zdal_p dlA_Sums_multiply_136 (i := 20) rfl) (fun hc_33 => ?_) (fun hc_33 => ?_)
        · skip
          have hbd_ : -1000000000000 ≤ v13_ * v15_ ∧ v13_ * v15_ ≤ 1000000000000 := by first | (rw [show v13_ = 0 by omega, Int.zero_mul]; omega) | exact (zmo ha46_ ha38_).mpr (by omega)
          refine zw_aload_n (pc := 56) (n := 0) (x := (d_ + 23)) rfl (zdal_p dlA_Sums_multiply_137 (i := 7) rfl) ?_
          refine zw_getF (pc := 57) f_Sums_20 rfl ((hf_N2_.w hW).kr (o := 23) (by decide)) ((hf_N2_.w hW).lr (o := 23) (s := 2) (r := 26) (by decide)) (zdal_p dlA_Sums_multiply_137 (i := 8) rfl) ?_
          refine zw_iload_n (pc := 60) (n := 3) (x := Int32.ofInt u1_) rfl (zdal_p dlA_Sums_multiply_137 (i := 9) rfl) ?_
          refine zw_lload (pc := 61) (i := 4) (x := Int64.ofInt v13_) rfl (zdal_p dlA_Sums_multiply_137 (i := 10) rfl) ?_
          refine zw_lload (pc := 63) (i := 6) (x := Int64.ofInt v15_) rfl (zdal_p dlA_Sums_multiply_137 (i := 11) rfl) ?_
          refine zr_lmul (pc := 65) (zdal_p dlA_Sums_multiply_137 (i := 12) rfl) ?_
          refine zk_stJ hf_N2_.x (pc := 66) (o := 27) (by decide) l_Sums_31 ((hf_N2_.w hW).kr (o := 26) (by decide)) ((hf_N2_.w hW).lr (o := 26) (s := 0) (r := 27) (by decide)) ((hf_N2_.w hW).rr (o := 27) (t := 2) (n := 27) (by decide)) (by decide) (by omega) (by omega) (by decide) (Nat.le_of_ble_eq_true rfl) (zdal_p dlA_Sums_multiply_137 (i := 13) rfl) (fun N17_ hN17_ hsN17_ => ?_)
          have hf_N17_ : zFc d_ [] [] [] [25, 27] Mz N17_ := hf_N2_.tr hsN17_ (by decide) (by decide) (by decide) (by decide)
          have hb0_N17_ : zFc d_ [] [] [] [27] Mz N17_ := hs3_.tr hsN17_ (by decide) (by decide) (by decide) (by decide)
          have eD12_7_N17_ : ze N17_ (d_ + 12) 7 = ze N2_ (d_ + 12) 7 := hsN17_.e (by decide)
          have c18_ : zKm F_ K_ d_ N17_ := zKm.fr (hf_N2_.w hW) hsN17_ c8_ (by decide)
          have hs1_ := zmp_s (show zmp F_ K_ d_ N2_ (zvc F_ d_ Mz a0_) (zvc F_ d_ Mz a1_) u1_ by assumption) hN17_ rfl hx2_ hy2_ hbd_ (by omega)
          have hr1_ : (∀ x : Nat, zg N17_ (d_ + 25) x = zg Mz (d_ + 25) x) := fun x => (hsN17_.rg (by decide) x).trans ((show (∀ x : Nat, zg N2_ (d_ + 25) x = zg Mz (d_ + 25) x) by assumption) x)
          refine zr_iinc (pc := 69) (i := 3) (a := u1_) (n := 1) (L2 := [some (.ref (d_ + 23)), some (.int (Int32.ofInt a0_)), some (.int (Int32.ofInt a1_)), some (.int (Int32.ofInt (u1_ + 1))), some (.long (Int64.ofInt v13_)), none, some (.long (Int64.ofInt v15_)), none]) rfl (by decide) rfl (zdal_p dlA_Sums_multiply_137 (i := 14) rfl) ?_
          refine zw_goto (pc := 72) (tgt := 2) (by decide) (zdal_p dlA_Sums_multiply_137 (i := 15) rfl) ?_
          refine zW_le [some (.ref (d_ + 23)), some (.int (Int32.ofInt a0_)), some (.int (Int32.ofInt a1_)), some (.int (Int32.ofInt (u1_ + 1))), none, none, none, none] (⟨rfl, rfl, rfl, rfl, trivial⟩) ?_
          exact ih_2 (u1_ + 1) (by omega) (by omega) N17_ hb0_N17_ (show 0 ≤ (u1_ + 1) by first | assumption | omega) (show (u1_ + 1) ≤ F_ by first | assumption | omega) (show zmp F_ K_ d_ N17_ (zvc F_ d_ Mz a0_) (zvc F_ d_ Mz a1_) (u1_ + 1) by exact hs1_) (show (∀ x : Nat, zg N17_ (d_ + 25) x = zg Mz (d_ + 25) x) by exact hr1_) (by omega)
        · skip
          refine zw_lload (pc := 36) (i := 6) (x := Int64.ofInt v15_) rfl (zdal_p dlA_Sums_multiply_136 (i := 21) rfl) ?_
          refine zk_absJ (pc := 38) x_Sums_74 (by decide) (Nat.le_of_ble_eq_true rfl) (zdal_p dlA_Sums_multiply_136 (i := 22) rfl) ⟨hv15_a, hv15_b⟩ (fun v19_ hv19_ => ?_)
          have ha38_ := hv19_
          refine zr_ldc2 (pc := 41) (n := 1000000000000) (by decide) k_Sums_80 (zdal_p dlA_Sums_multiply_136 (i := 23) rfl) ?_
          refine zw_lload (pc := 44) (i := 4) (x := Int64.ofInt v13_) rfl (zdal_p dlA_Sums_multiply_137 (i := 0) rfl) ?_
          refine zk_absJ (pc := 46) x_Sums_74 (by decide) (Nat.le_of_ble_eq_true rfl) (zdal_p dlA_Sums_multiply_137 (i := 1) rfl) ⟨hv13_a, hv13_b⟩ (fun v20_ hv20_ => ?_)
          have ha46_ := hv20_
          have hq46_ := zq_l (m := v20_) (o := v19_) (by omega) (by omega)
          refine zr_ldiv (pc := 49) ⟨by omega, by omega⟩ (by omega) (zdal_p dlA_Sums_multiply_137 (i := 2) rfl) ?_
          have hr21_ := zlquo_r 1000000000000 v20_
          refine zr_lcmp (pc := 50) ⟨(by omega), (by omega)⟩ ⟨(by omega), (by omega)⟩ (zdal_p dlA_Sums_multiply_137 (i := 3) rfl) ?_
          have hr22_ := zcmp_s v19_ (zlquo 1000000000000 v20_)
          refine zr_if_le (pc := 51) (tgt := 56) ⟨(by omega), (by omega)⟩ (by decide) (zdal_p dlA_Sums_multiply_137 (i := 4) rfl) (fun hc_51 => ?_) (fun hc_51 => ?_)
          · skip
            have hbd_ : -1000000000000 ≤ v13_ * v15_ ∧ v13_ * v15_ ≤ 1000000000000 := by first | (rw [show v13_ = 0 by omega, Int.zero_mul]; omega) | exact (zmo ha46_ ha38_).mpr (by omega)
            refine zw_aload_n (pc := 56) (n := 0) (x := (d_ + 23)) rfl (zdal_p dlA_Sums_multiply_137 (i := 7) rfl) ?_
            refine zw_getF (pc := 57) f_Sums_20 rfl ((hf_N2_.w hW).kr (o := 23) (by decide)) ((hf_N2_.w hW).lr (o := 23) (s := 2) (r := 26) (by decide)) (zdal_p dlA_Sums_multiply_137 (i := 8) rfl) ?_
            refine zw_iload_n (pc := 60) (n := 3) (x := Int32.ofInt u1_) rfl (zdal_p dlA_Sums_multiply_137 (i := 9) rfl) ?_
            refine zw_lload (pc := 61) (i := 4) (x := Int64.ofInt v13_) rfl (zdal_p dlA_Sums_multiply_137 (i := 10) rfl) ?_
            refine zw_lload (pc := 63) (i := 6) (x := Int64.ofInt v15_) rfl (zdal_p dlA_Sums_multiply_137 (i := 11) rfl) ?_
            refine zr_lmul (pc := 65) (zdal_p dlA_Sums_multiply_137 (i := 12) rfl) ?_
            refine zk_stJ hf_N2_.x (pc := 66) (o := 27) (by decide) l_Sums_31 ((hf_N2_.w hW).kr (o := 26) (by decide)) ((hf_N2_.w hW).lr (o := 26) (s := 0) (r := 27) (by decide)) ((hf_N2_.w hW).rr (o := 27) (t := 2) (n := 27) (by decide)) (by decide) (by omega) (by omega) (by decide) (Nat.le_of_ble_eq_true rfl) (zdal_p dlA_Sums_multiply_137 (i := 13) rfl) (fun N23_ hN23_ hsN23_ => ?_)
            have hf_N23_ : zFc d_ [] [] [] [25, 27] Mz N23_ := hf_N2_.tr hsN23_ (by decide) (by decide) (by decide) (by decide)
            have hb0_N23_ : zFc d_ [] [] [] [27] Mz N23_ := hs3_.tr hsN23_ (by decide) (by decide) (by decide) (by decide)
            have eD12_7_N23_ : ze N23_ (d_ + 12) 7 = ze N2_ (d_ + 12) 7 := hsN23_.e (by decide)
            have c24_ : zKm F_ K_ d_ N23_ := zKm.fr (hf_N2_.w hW) hsN23_ c8_ (by decide)
            have hs1_ := zmp_s (show zmp F_ K_ d_ N2_ (zvc F_ d_ Mz a0_) (zvc F_ d_ Mz a1_) u1_ by assumption) hN23_ rfl hx2_ hy2_ hbd_ (by omega)
            have hr1_ : (∀ x : Nat, zg N23_ (d_ + 25) x = zg Mz (d_ + 25) x) := fun x => (hsN23_.rg (by decide) x).trans ((show (∀ x : Nat, zg N2_ (d_ + 25) x = zg Mz (d_ + 25) x) by assumption) x)
            refine zr_iinc (pc := 69) (i := 3) (a := u1_) (n := 1) (L2 := [some (.ref (d_ + 23)), some (.int (Int32.ofInt a0_)), some (.int (Int32.ofInt a1_)), some (.int (Int32.ofInt (u1_ + 1))), some (.long (Int64.ofInt v13_)), none, some (.long (Int64.ofInt v15_)), none]) rfl (by decide) rfl (zdal_p dlA_Sums_multiply_137 (i := 14) rfl) ?_
            refine zw_goto (pc := 72) (tgt := 2) (by decide) (zdal_p dlA_Sums_multiply_137 (i := 15) rfl) ?_
            refine zW_le [some (.ref (d_ + 23)), some (.int (Int32.ofInt a0_)), some (.int (Int32.ofInt a1_)), some (.int (Int32.ofInt (u1_ + 1))), none, none, none, none] (⟨rfl, rfl, rfl, rfl, trivial⟩) ?_
            exact ih_2 (u1_ + 1) (by omega) (by omega) N23_ hb0_N23_ (show 0 ≤ (u1_ + 1) by first | assumption | omega) (show (u1_ + 1) ≤ F_ by first | assumption | omega) (show zmp F_ K_ d_ N23_ (zvc F_ d_ Mz a0_) (zvc F_ d_ Mz a1_) (u1_ + 1) by exact hs1_) (show (∀ x : Nat, zg N23_ (d_ + 25) x = zg Mz (d_ + 25) x) by exact hr1_) (by omega)
          · skip
            refine zw_iconst (pc := 54) (v := Int32.ofInt 0) (by decide) (zdal_p dlA_Sums_multiply_137 (i := 5) rfl) ?_
            exact zk_iret (pc := 55) (ty := .boolean) rfl (z_narB (by omega)) ⟨by omega, by omega⟩ hf_N2_ (show ((0 = 1 ∧ zmok F_ K_ (zvc F_ d_ Mz a0_) (zvc F_ d_ Mz a1_) ∧ zSh F_ d_ Mz N2_ a0_ (zprd F_ K_ (zvc F_ d_ Mz a0_) (zvc F_ d_ Mz a1_))) ∨ (0 = 0 ∧ ¬ zmok F_ K_ (zvc F_ d_ Mz a0_) (zvc F_ d_ Mz a1_) ∧ (∀ x : Nat, zg N2_ (d_ + 25) x = zg Mz (d_ + 25) x))) from Or.inr (⟨(show 0 = 0 by first | rfl | (intro hq_; have q1_ := hq_ (u1_).toNat (by omega); rw [← hx2_, ← hy2_] at q1_; unfold zLim at q1_; have q2_ := (zmo ha46_ ha38_).mp q1_; omega) | assumption), (show ¬ zmok F_ K_ (zvc F_ d_ Mz a0_) (zvc F_ d_ Mz a1_) by first | rfl | (intro hq_; have q1_ := hq_ (u1_).toNat (by omega); rw [← hx2_, ← hy2_] at q1_; unfold zLim at q1_; have q2_ := (zmo ha46_ ha38_).mp q1_; omega) | assumption), (show (∀ x : Nat, zg N2_ (d_ + 25) x = zg Mz (d_ + 25) x) by first | rfl | (intro hq_; have q1_ := hq_ (u1_).toNat (by omega); rw [← hx2_, ← hy2_] at q1_; unfold zLim at q1_; have q2_ := (zmo ha46_ ha38_).mp q1_; omega) | assumption)⟩)) (zdal_p dlA_Sums_multiply_137 (i := 6) rfl)
  exact lp_2 _ 0 (by decide) (by decide) Mz zFc.rf (show 0 ≤ (0 : Int) by first | assumption | omega) (show (0 : Int) ≤ F_ by first | assumption | omega) (show zmp F_ K_ d_ Mz (zvc F_ d_ Mz a0_) (zvc F_ d_ Mz a1_) (0 : Int) by exact zmp_0) (show (∀ x : Nat, zg Mz (d_ + 25) x = zg Mz (d_ + 25) x) by exact fun x => rfl) (Nat.lt_succ_self _)
