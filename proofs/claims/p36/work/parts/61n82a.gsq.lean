def zsqA (F : Nat) (K : Nat → Nat → Int) (m : Nat → Int) : Nat → Nat → Int
  | 0 => fun _ => 0
  | k + 1 => fun i => if i = F - 1 - k then (m (F - 1 - k) - zsm (fun t => zsqA F K m k (F - 1 - k + 1 + t) * K (F - 1 - k + 1 + t) (F - 1 - k)) k).tdiv (K (F - 1 - k) (F - 1 - k)) else zsqA F K m k i
def zsq (F : Nat) (K : Nat → Nat → Int) (m : Nat → Int) : Nat → Int := zsqA F K m F
section ZSQ
variable {F : Nat} {K : Nat → Nat → Int} {m m' : Nat → Int}
theorem zsqA_st {k : Nat} : ∀ d, k + d ≤ F → ∀ i, F - k ≤ i → i < F → zsqA F K m (k + d) i = zsqA F K m k i
  | 0, _, _, _, _ => rfl
  | d + 1, h, i, h1, h2 => by
    have e : zsqA F K m (k + d + 1) i = zsqA F K m (k + d) i := by
      show (if i = F - 1 - (k + d) then _ else zsqA F K m (k + d) i) = _
      rw [if_neg (by omega)]
    rw [show k + (d + 1) = k + d + 1 by omega, e]
    exact zsqA_st d (by omega) i h1 h2
theorem zsq_e {j : Nat} (hj : j < F) : zsq F K m j = (m j - zsm (fun t => zsq F K m (j + 1 + t) * K (j + 1 + t) j) (F - 1 - j)).tdiv (K j j) := by
  have e1 : zsq F K m j = zsqA F K m (F - 1 - j + 1) j := by
    have h := zsqA_st (F := F) (K := K) (m := m) (k := F - 1 - j + 1) j (by omega) j (by omega) hj
    rw [show F - 1 - j + 1 + j = F by omega] at h
    exact h
  have e2 : zsqA F K m (F - 1 - j + 1) j = (m (F - 1 - (F - 1 - j)) - zsm (fun t => zsqA F K m (F - 1 - j) (F - 1 - (F - 1 - j) + 1 + t) * K (F - 1 - (F - 1 - j) + 1 + t) (F - 1 - (F - 1 - j))) (F - 1 - j)).tdiv (K (F - 1 - (F - 1 - j)) (F - 1 - (F - 1 - j))) := by
    show (if j = F - 1 - (F - 1 - j) then _ else _) = _
    rw [if_pos (by omega)]
  rw [e1, e2, show F - 1 - (F - 1 - j) = j by omega]
  congr 2
  refine zsm_c _ (fun t ht => ?_)
  congr 1
  have h := zsqA_st (F := F) (K := K) (m := m) (k := F - 1 - j) (j + 1) (by omega) (j + 1 + t) (by omega) (by omega)
  rw [show F - 1 - j + (j + 1) = F by omega] at h
  exact h.symm
theorem zsq_b (hA : zTA F K) (hm : ∀ j, j < F → -1000000 ≤ m j ∧ m j ≤ 1000000) : ∀ i, i < F → -200000000000 ≤ zsq F K m i ∧ zsq F K m i ≤ 200000000000 := fun i hi => by
  have hq : ∀ j, j < F → (zmq F K (zsq F K m) j).natAbs ≤ 1000024 := fun j hj => by
    have h1 := zmq_tail hA (u := zsq F K m) hj
    have h2 := zsq_e (K := K) (m := m) hj
    have h3 := hm j hj
    have h4 := hA.2.1 j j hj hj
    have h5 := hA.2.2.2.1 j hj
    generalize hr : m j - zsm (fun t => zsq F K m (j + 1 + t) * K (j + 1 + t) j) (F - 1 - j) = r at h2
    have h6 := Int.tmod_def r (K j j)
    have h7 : (r.tmod (K j j)).natAbs ≤ 24 := by
      rw [Int.natAbs_tmod]
      have h8 : r.natAbs % (K j j).natAbs < (K j j).natAbs := Nat.mod_lt _ (by omega)
      exact Nat.le_trans (Nat.le_of_lt h8) (by omega)
    have h9 : zsq F K m j * K j j = r - r.tmod (K j j) := by
      rw [h2, Int.mul_comm]
      omega
    rw [h1, h9]
    omega
  have hw := hA.2.2.2.2.2.1 (fun k => 500000 * zsq F K m k) (fun j hj => by
    rw [zmq_mul]
    have h1 := hq j hj
    unfold zLim
    omega) i hi
  have h5 := hA.2.2.2.1 i hi
  have h1 : (500000 * zsq F K m i * K i i).natAbs = (500000 * zsq F K m i).natAbs * (K i i).natAbs := Int.natAbs_mul _ _
  have h2 : (500000 * zsq F K m i).natAbs * 1 ≤ (500000 * zsq F K m i).natAbs * (K i i).natAbs := Nat.mul_le_mul_left _ (by omega)
  have hw2 : -100000000000000000 ≤ 500000 * zsq F K m i * K i i ∧ 500000 * zsq F K m i * K i i ≤ 100000000000000000 := hw
  omega
theorem zsq_lm (hA : zTA F K) (hm : ∀ j, j < F → -1000000 ≤ m j ∧ m j ≤ 1000000) : zlm F (zsq F K m) := fun k hk => by
  have h := zsq_b hA hm k hk
  unfold zLim
  omega
theorem zsq_c (h : ∀ j, j < F → m j = m' j) : ∀ d j, F - j ≤ d → j < F → zsq F K m j = zsq F K m' j
  | 0, _, h1, h2 => absurd h1 (by omega)
  | d + 1, j, h1, h2 => by
    rw [zsq_e h2, zsq_e h2, h j h2]
    congr 2
    refine zsm_c _ (fun t ht => ?_)
    rw [zsq_c h d (j + 1 + t) (by omega) (by omega)]
theorem zsq_cc (h : ∀ j, j < F → m j = m' j) : ∀ j, j < F → zsq F K m j = zsq F K m' j := fun j hj => zsq_c h F j (by omega) hj
def zrX (F : Nat) (K : Nat → Nat → Int) (m : Nat → Int) (r j i : Int) : Prop := Int64.ofInt r = Int64.ofInt (m j.toNat - zsm (fun t => zsq F K m (j.toNat + 1 + t) * K (j.toNat + 1 + t) j.toNat) (i - j - 1).toNat)
theorem zrX_0 {r j : Int} (hr : r = m j.toNat) : zrX F K m r j (j + 1) := by
  unfold zrX
  rw [show (j + 1 - j - 1).toNat = 0 by omega, hr]
  show _ = Int64.ofInt (_ - 0)
  rw [Int.sub_zero]
theorem zrX_s {r v x y i j : Int} (h : zrX F K m r j i) (hv : Int64.ofInt v = Int64.ofInt (r - x * y)) (j0 : 0 ≤ j) (ji : j < i) (iF : i < F) (hx : x = zsq F K m i.toNat) (hy : y = K i.toNat j.toNat) : zrX F K m v j (i + 1) := by
  have ei : j.toNat + 1 + (i - j - 1).toNat = i.toNat := by omega
  unfold zrX at h ⊢
  rw [show (i + 1 - j - 1).toNat = (i - j - 1).toNat + 1 by omega]
  show _ = Int64.ofInt (_ - (zsm _ (i - j - 1).toNat + zsq F K m (j.toNat + 1 + (i - j - 1).toNat) * K (j.toNat + 1 + (i - j - 1).toNat) j.toNat))
  rw [ei, hv, Int64.ofInt_sub, h, ← Int64.ofInt_sub, hx, hy]
  congr 1
  omega
theorem zrX_e (hA : zTA F K) (hm : ∀ j, j < F → -1000000 ≤ m j ∧ m j ≤ 1000000) {r j i q o : Int} (h : zrX F K m r j i) (hi : i = (F : Int)) (hr : zn64 r) (j0 : 0 ≤ j) (jF : j < F) (ho : o = K j.toNat j.toNat) (hq : q = zlquo r o) : q = zsq F K m j.toNat := by
  have hjn : j.toNat < F := by omega
  unfold zrX at h
  rw [hi, show ((F : Int) - j - 1).toNat = F - 1 - j.toNat by omega] at h
  have h2 := zsq_e (K := K) (m := m) hjn
  have hb : (zsm (fun t => zsq F K m (j.toNat + 1 + t) * K (j.toNat + 1 + t) j.toNat) (F - 1 - j.toNat)).natAbs ≤ (F - 1 - j.toNat) * (200000000000 * 24) := zsm_b _ (fun t ht => by
    rw [Int.natAbs_mul]
    have h3 := zsq_b hA hm (j.toNat + 1 + t) (by omega)
    have h4 := hA.2.1 (j.toNat + 1 + t) j.toNat (by omega) hjn
    exact Nat.mul_le_mul (by omega) (by omega))
  have hF := hA.1.2
  have hb2 : (F - 1 - j.toNat) * (200000000000 * 24) ≤ 27 * (200000000000 * 24) := Nat.mul_le_mul_right _ (by omega)
  have hmj := hm j.toNat hjn
  have e := z64q hr ⟨by omega, by omega⟩ h
  have h4 := hA.2.1 j.toNat j.toNat hjn hjn
  have h5 := hA.2.2.2.1 j.toNat hjn
  rw [hq, ho, zq_t (by omega) (by omega) (by omega) (by omega), h2, e]
end ZSQ
def tkf : Nat → List (List Nat)
  | 0 => [[]]
  | k + 1 => (tkf k).flatMap (fun l => ((List.range (k + 1)).filter (fun v => v == k || l.getD v 0 == v)).map (fun v => l ++ [v]))
def tkb (l : List Nat) (v : Nat) : Nat → Nat
  | 0 => 0
  | q + 1 => if l.getD q 0 = v then tkb l v q ||| 2 ^ q else tkb l v q
def tkrow (l : List Nat) : List Nat := (List.range l.length).map (fun p => tkb l (l.getD p 0) l.length)
def tkall (P : Nat) : List (List Nat) := (tkf P).map tkrow
def pop6 (s : Nat) : Nat := s % 2 + s / 2 % 2 + s / 4 % 2 + s / 8 % 2 + s / 16 % 2 + s / 32 % 2
def tk0 (r : List Nat) : Nat := ((List.range r.length).filter (fun p => r.getD p 0 == 2 ^ p)).length
def tkp (r : List Nat) : Nat := ((List.range r.length).filter (fun p => r.getD p 0 % 2 ^ p == 0)).length
def tkc (r : List Nat) : List Nat := (List.range (2 ^ r.length)).filter (fun s => (List.range r.length).all (fun p => !s.testBit p || r.getD p 0 &&& s == r.getD p 0))
def tks (r : List Nat) (n : Nat) : Nat := ((tkc r).filter (fun s => pop6 s == n)).length
def tkm (r : List Nat) : Nat → Nat × List Nat
  | 0 => (0, [])
  | p + 1 => if (tkm r p).1.testBit p then tkm r p else ((tkm r p).1 ||| r.getD p 0, (tkm r p).2 ++ [pop6 (r.getD p 0)])
def tkz (r : List Nat) : List Nat := (tkm r r.length).2
def tkn (z : List Nat) : Nat → Nat → Nat
  | 0, k => if k = 0 then 1 else 0
  | q + 1, k => if z.getD q 0 ≤ k then tkn z q k + tkn z q (k - z.getD q 0) else tkn z q k
def tko (z : List Nat) : Nat → Nat
  | 0 => 0
  | q + 1 => if z.getD q 0 = 1 then tko z q + 1 else tko z q
def tkone (z : List Nat) : Nat := tko z z.length
def tkchk (r : List Nat) : Bool := tk0 r == tkone (tkz r) && (tkp r == (tkz r).length && (List.range 7).all (fun n => tks r n == tkn (tkz r) (tkz r).length n))
theorem tkchk_1 : (List.range 6).all (fun P => (tkall P).all tkchk) = true := by decide +kernel
theorem tkchk_6 : (tkall 6).all tkchk = true := by decide +kernel
theorem tkchk_s {P : Nat} {r : List Nat} (hP : P ≤ 6) (h : r ∈ tkall P) : tk0 r = tkone (tkz r) ∧ tkp r = (tkz r).length ∧ ∀ n, n ≤ 6 → tks r n = tkn (tkz r) (tkz r).length n := by
  have hc : tkchk r = true := by
    by_cases g : P = 6
    · rw [g] at h
      exact List.all_eq_true.mp tkchk_6 r h
    · exact List.all_eq_true.mp (List.all_eq_true.mp tkchk_1 P (List.mem_range.mpr (by omega))) r h
  unfold tkchk at hc
  rw [Bool.and_eq_true, Bool.and_eq_true] at hc
  obtain ⟨h1, h2, h3⟩ := hc
  refine ⟨eq_of_beq h1, eq_of_beq h2, fun n hn => ?_⟩
  exact eq_of_beq (List.all_eq_true.mp h3 n (List.mem_range.mpr (by omega)))
def zPt (R : Nat → Nat) (P : Nat) : Prop := (∀ p, p < P → R p < 2 ^ P ∧ (R p).testBit p = true) ∧ ∀ p q, p < P → (R p).testBit q = true → R q = R p
def lwz (x : Nat) : Nat → Nat → Nat
  | 0, i => i
  | k + 1, i => if x.testBit i = true then i else lwz x k (i + 1)
theorem lwz_s {x p : Nat} (hp : x.testBit p = true) : ∀ k i, i ≤ p → p ≤ i + k → x.testBit (lwz x k i) = true ∧ lwz x k i ≤ p
  | 0, i, h1, h2 => by
    show x.testBit i = true ∧ i ≤ p
    rw [show i = p by omega]
    exact ⟨hp, Nat.le_refl _⟩
  | k + 1, i, h1, h2 => by
    show x.testBit (if x.testBit i = true then i else lwz x k (i + 1)) = true ∧ (if x.testBit i = true then i else lwz x k (i + 1)) ≤ p
    by_cases g : x.testBit i = true
    · rw [if_pos g]
      exact ⟨g, h1⟩
    · rw [if_neg g]
      have hne : i ≠ p := fun e => g (by rw [e]; exact hp)
      exact lwz_s hp k (i + 1) (by omega) (by omega)
theorem tkb_t (l : List Nat) (v : Nat) : ∀ k i, (tkb l v k).testBit i = true ↔ i < k ∧ l.getD i 0 = v
  | 0, i => by
    show Nat.testBit 0 i = true ↔ _
    rw [Nat.zero_testBit]
    constructor
    · intro h
      cases h
    · intro h
      exact absurd h.1 (Nat.not_lt_zero _)
  | k + 1, i => by
    show (if l.getD k 0 = v then tkb l v k ||| 2 ^ k else tkb l v k).testBit i = true ↔ _
    by_cases g : l.getD k 0 = v
    · rw [if_pos g, Nat.testBit_or, Bool.or_eq_true, tkb_t l v k i, Nat.testBit_two_pow, decide_eq_true_iff]
      constructor
      · rintro (h | h)
        · exact ⟨by omega, h.2⟩
        · rw [← h]
          exact ⟨by omega, g⟩
      · rintro ⟨h1, h2⟩
        by_cases e : k = i
        · exact Or.inr e
        · exact Or.inl ⟨by omega, h2⟩
    · rw [if_neg g, tkb_t l v k i]
      constructor
      · rintro ⟨h1, h2⟩
        exact ⟨by omega, h2⟩
      · rintro ⟨h1, h2⟩
        refine ⟨?_, h2⟩
        rcases Nat.lt_or_ge i k with h3 | h3
        · exact h3
        · rw [show i = k by omega] at h2
          exact absurd h2 g
theorem getD_mr {f : Nat → Nat} {P p : Nat} (hp : p < P) : ((List.range P).map f).getD p 0 = f p := by
  rw [List.getD_eq_getElem?_getD, List.getElem?_map, List.getElem?_range hp]
  rfl
theorem tkf_m {f : Nat → Nat} : ∀ P, (∀ p, p < P → f p ≤ p ∧ f (f p) = f p) → (List.range P).map f ∈ tkf P
  | 0, _ => List.mem_singleton.mpr rfl
  | k + 1, h => by
    have ih := tkf_m (f := f) k (fun p hp => h p (by omega))
    have hk := h k (by omega)
    rw [List.range_succ, List.map_append]
    refine List.mem_flatMap.mpr ⟨_, ih, List.mem_map.mpr ⟨f k, List.mem_filter.mpr ⟨List.mem_range.mpr (by omega), ?_⟩, rfl⟩⟩
    show (f k == k || ((List.range k).map f).getD (f k) 0 == f k) = true
    rw [Bool.or_eq_true]
    by_cases g : f k = k
    · exact Or.inl (beq_iff_eq.mpr g)
    · refine Or.inr (beq_iff_eq.mpr ?_)
      rw [getD_mr (by omega)]
      exact hk.2
theorem zPt_m {R : Nat → Nat} {P : Nat} (hP : P ≤ 6) (h : zPt R P) : (List.range P).map R ∈ tkall P := by
  obtain ⟨h1, h2⟩ := h
  have hl : ∀ p, p < P → (R p).testBit (lwz (R p) 6 0) = true ∧ lwz (R p) 6 0 ≤ p := fun p hp => lwz_s (h1 p hp).2 6 0 (by omega) (by omega)
  refine List.mem_map.mpr ⟨(List.range P).map (fun p => lwz (R p) 6 0), tkf_m P (fun p hp => ⟨(hl p hp).2, ?_⟩), ?_⟩
  · show lwz (R (lwz (R p) 6 0)) 6 0 = lwz (R p) 6 0
    rw [h2 p _ hp (hl p hp).1]
  · unfold tkrow
    rw [List.length_map, List.length_range]
    refine List.map_congr_left (fun p hp => ?_)
    rw [List.mem_range] at hp
    rw [getD_mr hp]
    refine Nat.eq_of_testBit_eq fun i => ?_
    rw [Bool.eq_iff_iff, tkb_t]
    constructor
    · rintro ⟨hi, e⟩
      rw [getD_mr hi] at e
      have e2 : R i = R p := by
        rw [← h2 i _ hi (hl i hi).1, e]
        exact h2 p _ hp (hl p hp).1
      rw [← e2]
      exact (h1 i hi).2
    · intro hi
      have hiP : i < P := by
        rcases Nat.lt_or_ge i P with g | g
        · exact g
        · rw [Nat.testBit_lt_two_pow (Nat.lt_of_lt_of_le (h1 p hp).1 (Nat.pow_le_pow_right (by decide) g))] at hi
          cases hi
      refine ⟨hiP, ?_⟩
      rw [getD_mr hiP, h2 p i hp hi]
noncomputable def zrch (n : Nat) (c : Nat → Nat) (B p : Nat) : Nat := zbq (fun q => ∃ m, m < n ∧ B.testBit m = true ∧ gdg (c m) p = q) 8
theorem zrch_t {n : Nat} {c : Nat → Nat} {B p q : Nat} : (zrch n c B p).testBit q = true ↔ ∃ m, m < n ∧ B.testBit m = true ∧ gdg (c m) p = q := by
  unfold zrch
  rw [zbq_t]
  constructor
  · intro h
    exact h.2
  · rintro ⟨m, h1, h2, h3⟩
    exact ⟨by rw [← h3]; exact gdg_lt _ _, m, h1, h2, h3⟩
theorem zrch_c {n : Nat} {c c' : Nat → Nat} {B p : Nat} (h : ∀ i, i < n → c i = c' i) : zrch n c B p = zrch n c' B p := by
  refine Nat.eq_of_testBit_eq fun i => ?_
  rw [Bool.eq_iff_iff, zrch_t, zrch_t]
  constructor
  · rintro ⟨m, h1, h2, h3⟩
    exact ⟨m, h1, h2, by rw [← h m h1]; exact h3⟩
  · rintro ⟨m, h1, h2, h3⟩
    exact ⟨m, h1, h2, by rw [h m h1]; exact h3⟩
theorem zImg_r {n : Nat} {c : Nat → Nat} {B p : Nat} {v : Int} (h : zImg (fun m => B.testBit m = true) (fun m => gdg (c m) p) n v) : v = ((zrch n c B p : Nat) : Int) := by
  have e : v.toNat = zrch n c B p := Nat.eq_of_testBit_eq fun i => by
    rw [Bool.eq_iff_iff, zrch_t]
    exact h.2 i
  have := h.1
  omega
section ZRCH
variable {mv : List Nat} {T : zGT} {c : Nat → Nat} {B P : Nat}
theorem gTb_0 (hT : gTb mv c T) (hp : ∀ g ∈ mv, gpm g) : (∀ i, i < gN T → gpm (c i)) ∧ c 0 = gid := by
  obtain ⟨a1, a2, a3, a4, a5⟩ := hT
  have hO := gTabs_ok T a1
  have h1 := hO.1.1
  have hc : ∀ i, i < gN T → gpm (c i) := fun i hi => ((a2 (c i)).mpr ⟨i, hi, rfl⟩).pm hp
  have h00 : gm T 0 0 = 0 := by
    have hb := (hO.2.1.2.2 1 hO.2.1.2.1).1.2.2
    have := hb.2 0 0 (by omega) (by omega) hb.1 hb.1
    exact Nat.testBit_one_eq_true_iff_self_eq_zero.mp this
  refine ⟨hc, ?_⟩
  have h2 := (a4 0 0 (by omega) (by omega)).2
  rw [h00] at h2
  have hp0 := hc 0 (by omega)
  refine gext hp0.1 gid_pm.1 (fun p hp => ?_)
  have h3 : gdg (c 0) p = gdg (c 0) (gdg (c 0) p) := by
    rw [← gco_d _ _ p hp, ← h2]
  rw [gid_d p hp]
  exact hp0.2.2 _ _ (hp0.2.1 p hp) hp h3.symm
theorem gCl_u (hT : gTb mv c T) (hB : gCl T B) {a : Nat} (ha : a < gN T) (hb : B.testBit a = true) : ∃ b, b < gN T ∧ B.testBit b = true ∧ gm T b a = 0 := by
  have hO := gTabs_ok T hT.1
  have hX := gTabs_ex T hT.1
  have hG := hO.1
  obtain ⟨V, ⟨hv1, hv2, -⟩, -⟩ := gOr_x hG hX ha
  have hin : ∀ k, B.testBit (gpw T a k) = true := fun k => by
    induction k with
    | zero => exact hb
    | succ k ih => exact hB.2 _ _ (gpw_lt hG ha k) ha ih hb
  by_cases g : V = 1
  · rw [g] at hv2
    have e : a = 0 := hv2
    refine ⟨0, by omega, hB.1, ?_⟩
    rw [e]
    have hb1 := (hO.2.1.2.2 1 hO.2.1.2.1).1.2.2
    have := hb1.2 0 0 (by omega) (by omega) hb1.1 hb1.1
    exact Nat.testBit_one_eq_true_iff_self_eq_zero.mp this
  · refine ⟨gpw T a (V - 2), gpw_lt hG ha _, hin _, ?_⟩
    rw [show V - 1 = V - 2 + 1 by omega] at hv2
    exact hv2
theorem zPt_g (hT : gTb mv c T) (hp : ∀ g ∈ mv, gpm g) (hP : P ≤ 6) (hl : ∀ m, m < gN T → ∀ p, p < P → gdg (c m) p < P) (hB : B ∈ gS T) : zPt (zrch (gN T) c B) P := by
  have hO := gTabs_ok T hT.1
  have hcl := (hO.2.1.2.2 B hB).1.2.2
  have h1 := hO.1.1
  obtain ⟨hc, h0⟩ := gTb_0 hT hp
  refine ⟨fun p hp6 => ⟨?_, ?_⟩, fun p q hp6 hq => ?_⟩
  · refine Nat.lt_pow_two_of_testBit _ (fun i hi => ?_)
    rw [Bool.eq_false_iff]
    intro ht
    obtain ⟨m, m1, m2, m3⟩ := zrch_t.mp ht
    have := hl m m1 p hp6
    omega
  · refine zrch_t.mpr ⟨0, by omega, hcl.1, ?_⟩
    rw [h0]
    exact gid_d p (by omega)
  · obtain ⟨a, a1, a2, a3⟩ := zrch_t.mp hq
    have hq6 : q < P := by
      rw [← a3]
      exact hl a a1 p hp6
    refine Nat.eq_of_testBit_eq fun i => ?_
    rw [Bool.eq_iff_iff, zrch_t, zrch_t]
    constructor
    · rintro ⟨m, m1, m2, m3⟩
      refine ⟨gm T a m, (hT.2.2.2.1 a m a1 m1).1, hcl.2 _ _ a1 m1 a2 m2, ?_⟩
      rw [(hT.2.2.2.1 a m a1 m1).2, gco_d _ _ p (by omega), a3]
      exact m3
    · rintro ⟨m, m1, m2, m3⟩
      obtain ⟨b, b1, b2, b3⟩ := gCl_u hT hcl a1 a2
      have hbq : gdg (c b) q = p := by
        have e := (hT.2.2.2.1 b a b1 a1).2
        rw [b3, h0] at e
        have e2 : gdg (c a) (gdg (c b) q) = q := by
          rw [← gco_d _ _ q (by omega), ← e]
          exact gid_d q (by omega)
        refine (hc a a1).2.2 _ _ ((hc b b1).2.1 q (by omega)) (by omega) ?_
        rw [e2, a3]
      refine ⟨gm T b m, (hT.2.2.2.1 b m b1 m1).1, hcl.2 _ _ b1 m1 b2 m2, ?_⟩
      rw [(hT.2.2.2.1 b m b1 m1).2, gco_d _ _ q (by omega), hbq]
      exact m3
end ZRCH
noncomputable def zrr (P : Nat) (T : zGT) (c : Nat → Nat) (B : Nat) : List Nat := (List.range P).map (zrch (gN T) c B)
theorem zrr_c {P : Nat} {T : zGT} {c c' : Nat → Nat} {B : Nat} (h : ∀ i, i < gN T → c i = c' i) : zrr P T c B = zrr P T c' B := List.map_congr_left (fun _ _ => zrch_c h)
theorem zrr_l {P : Nat} {T : zGT} {c : Nat → Nat} {B : Nat} : (zrr P T c B).length = P := by
  unfold zrr
  rw [List.length_map, List.length_range]
theorem zrr_g {P p : Nat} {T : zGT} {c : Nat → Nat} {B : Nat} (hp : p < P) : (zrr P T c B).getD p 0 = zrch (gN T) c B p := getD_mr hp
def tkv (r : List Nat) (what n : Int) : Int := if what = 0 then ((tk0 r : Nat) : Int) else if what = 1 then ((tks r n.toNat : Nat) : Int) else n ^ tkp r
theorem flt_c {p : Nat → Prop} {q : Nat → Bool} {n : Nat} (h : ∀ i, i < n → (p i ↔ q i = true)) : zct p n = ((List.range n).filter q).length := by
  rw [zct_l]
  congr 1
  refine List.filter_congr (fun i hi => ?_)
  rw [List.mem_range] at hi
  rw [Bool.eq_iff_iff, zPb_t]
  exact h i hi
theorem pop6_g : ∀ s, s < 64 → gcb s = pop6 s := by decide +kernel
theorem tk_lw : ∀ R : Nat, R < 64 → ∀ p : Nat, p < 6 → R.testBit p = true → (zand (R : Int) (-(R : Int)) = zshl 1 (p : Int) ↔ R % 2 ^ p = 0) := by decide +kernel
theorem tk_sh : ∀ p : Nat, p < 7 → zshl 1 (p : Int) = ((2 ^ p : Nat) : Int) := by decide +kernel
theorem tkp_6 {n : Int} (n0 : 0 ≤ n) (n6 : n ≤ 6) : ∀ k : Nat, k ≤ 6 → 0 ≤ n ^ k ∧ n ^ k ≤ 46656 := fun k hk => by
  have h : ∀ m, m < 7 → ∀ j, j < 7 → m ^ j ≤ 46656 := by decide +kernel
  have e : n ^ k = ((n.toNat ^ k : Nat) : Int) := by
    rw [Int.natCast_pow, Int.toNat_of_nonneg n0]
  have h2 := h n.toNat (by omega) k (by omega)
  omega
theorem tkp_l (r : List Nat) : tkp r ≤ r.length := Nat.le_trans (List.length_filter_le _ _) (by rw [List.length_range]; exact Nat.le_refl _)
section TKV
variable {P : Nat} {T : zGT} {c : Nat → Nat} {B : Nat} {what n v w : Int}
theorem tkv_0 (hw : what = 0) (hv : v = ((zct (fun p => zrch (gN T) c B p = 2 ^ p) P : Nat) : Int)) : v = tkv (zrr P T c B) what n := by
  unfold tkv
  rw [if_pos hw, hv]
  unfold tk0
  rw [zrr_l, flt_c (q := fun p => (zrr P T c B).getD p 0 == 2 ^ p) (fun i hi => by rw [zrr_g hi, beq_iff_eq])]
theorem tkp_v (hv : v = ((zct (fun p => zrch (gN T) c B p % 2 ^ p = 0) P : Nat) : Int)) : v = ((tkp (zrr P T c B) : Nat) : Int) := by
  rw [hv]
  unfold tkp
  rw [zrr_l, flt_c (q := fun p => (zrr P T c B).getD p 0 % 2 ^ p == 0) (fun i hi => by rw [zrr_g hi, beq_iff_eq])]
theorem tkv_2 (hw : what = 2) (hv : w = ((zct (fun p => zrch (gN T) c B p % 2 ^ p = 0) P : Nat) : Int)) (hq : v = n ^ w.toNat) : v = tkv (zrr P T c B) what n := by
  unfold tkv
  rw [if_neg (by omega), if_neg (by omega), hq, tkp_v hv, Int.toNat_natCast]
theorem tks_v (hP : P ≤ 6) (k : Nat) : zct (fun s => gcb s = k ∧ ∀ p, p < P → s.testBit p = true → zrch (gN T) c B p &&& s = zrch (gN T) c B p) (2 ^ P) = tks (zrr P T c B) k := by
  have h64 : 2 ^ P ≤ 64 := Nat.pow_le_pow_right (by decide) hP
  unfold tks tkc
  rw [List.filter_filter, zrr_l]
  refine flt_c (fun s hs => ?_)
  rw [Bool.and_eq_true, beq_iff_eq, pop6_g s (by omega)]
  refine and_congr Iff.rfl ?_
  rw [List.all_eq_true]
  constructor
  · intro h p hp
    rw [List.mem_range] at hp
    rw [zrr_g hp, Bool.or_eq_true]
    by_cases g : s.testBit p = true
    · exact Or.inr (beq_iff_eq.mpr (h p hp g))
    · refine Or.inl ?_
      rw [Bool.not_eq_true] at g
      rw [g]
      rfl
  · intro h p hp g
    have h2 := h p (List.mem_range.mpr hp)
    rw [zrr_g hp, Bool.or_eq_true, g] at h2
    rcases h2 with h2 | h2
    · cases h2
    · exact beq_iff_eq.mp h2
theorem tkv_1 (hP : P ≤ 6) (hw : what = 1) (hv : v = ((zct (fun s => gcb s = n.toNat ∧ ∀ p, p < P → s.testBit p = true → zrch (gN T) c B p &&& s = zrch (gN T) c B p) (2 ^ P) : Nat) : Int)) : v = tkv (zrr P T c B) what n := by
  unfold tkv
  rw [if_neg (by omega), if_pos hw, hv, tks_v hP]
theorem zpw_s {a k : Int} (h : a = n ^ k.toNat) (k0 : 0 ≤ k) : a * n = n ^ (k + 1).toNat := by
  rw [h, show (k + 1).toNat = k.toNat + 1 by omega, Int.pow_succ]
theorem tk_q0 {p x : Int} (hx : x = ((zrch (gN T) c B p.toNat : Nat) : Int)) (p0 : 0 ≤ p) (p6 : p < 6) : x = zshl 1 p ↔ zrch (gN T) c B p.toNat = 2 ^ p.toNat := by
  have h := tk_sh p.toNat (by omega)
  rw [Int.toNat_of_nonneg p0] at h
  rw [hx, h]
  exact Int.ofNat_inj
theorem tk_q1 {p x : Int} (hx : x = ((zrch (gN T) c B p.toNat : Nat) : Int)) (p0 : 0 ≤ p) (p6 : p < 6) (h64 : zrch (gN T) c B p.toNat < 64) (hb : (zrch (gN T) c B p.toNat).testBit p.toNat = true) : zand x (-x) = zshl 1 p ↔ zrch (gN T) c B p.toNat % 2 ^ p.toNat = 0 := by
  have h := tk_lw _ h64 p.toNat (by omega) hb
  rw [Int.toNat_of_nonneg p0] at h
  rw [hx]
  exact h
theorem tkv_b (hP : P ≤ 6) (hpt : zPt (zrch (gN T) c B) P) (hw : what = 0 ∨ ((what = 1 ∨ what = 2) ∧ 0 ≤ n ∧ n ≤ 6)) : 0 ≤ tkv (zrr P T c B) what n ∧ tkv (zrr P T c B) what n ≤ 46656 := by
  have h1 : tk0 (zrr P T c B) ≤ P := by
    unfold tk0
    refine Nat.le_trans (List.length_filter_le _ _) ?_
    rw [List.length_range, zrr_l]
    exact Nat.le_refl _
  have h2 : tks (zrr P T c B) n.toNat ≤ 64 := by
    rw [← tks_v hP]
    exact Nat.le_trans (zct_b _ _) (Nat.pow_le_pow_right (by decide) hP)
  have h3 : tkp (zrr P T c B) ≤ P := by
    have h := tkp_l (zrr P T c B)
    rwa [zrr_l] at h
  unfold tkv
  by_cases g : what = 0
  · rw [if_pos g]
    omega
  · rw [if_neg g]
    by_cases g1 : what = 1
    · rw [if_pos g1]
      omega
    · rw [if_neg g1]
      exact tkp_6 (by omega) (by omega) _ (by omega)
end TKV
theorem zGc.lt {mv : List Nat} {P : Nat} {T : zGT} {d : Nat} {M : zMem} (h : zGc mv P T d M) (hP : P ≤ 6) {i p : Nat} (hi : i < gN T) (hp : p < P) : gdg (zCo P d M i) p < P := by
  rw [← h.dg hP hi hp]
  exact (h.2.2 i hi).2.2.1 p hp (by omega)
theorem zCo_f {P d : Nat} {M N : zMem} {FA : List (Nat × Nat)} {CA : List Nat} {FR : List (Nat × Nat)} {CR : List Nat} (hf : zFc d FA CA FR CR M N) (hd : 5 < 38 ∧ 5 ∉ CR ∧ ∀ x ∈ FR, x.1 ≠ 5) : zCo P d N = zCo P d M := funext fun i => by
  unfold zCo
  rw [hf.r hd i]
theorem zUp_x {F d : Nat} {M N : zMem} {s j i x : Int} {u : Nat → Int} (h : zUp F d M N s u j) (ji : j < i) (iF : i < F) (s0 : 0 ≤ s) (hx : x = zg N (d + 25) (s * 27 + i).toNat) (i0 : 0 ≤ i) : x = u i.toNat := by
  rw [hx, (h _).2 (by omega) (by omega)]
  congr 1
  omega
theorem zcb_g {x : Int} (h0 : 0 ≤ x) (h1 : x < 2147483648) : zcb x 31 = ((gcb x.toNat : Nat) : Int) := by
  have h := zcb_n (m := x.toNat) (by omega) 31 (Nat.le_refl _)
  rw [Int.toNat_of_nonneg h0] at h
  exact h
theorem tkm_t {r : List Nat} {p : Nat} (h : (tkm r p).1.testBit p = true) : tkm r (p + 1) = tkm r p := if_pos h
theorem tkm_f {r : List Nat} {p : Nat} (h : ¬ (tkm r p).1.testBit p = true) : tkm r (p + 1) = ((tkm r p).1 ||| r.getD p 0, (tkm r p).2 ++ [pop6 (r.getD p 0)]) := if_neg h
theorem tkm_b {r : List Nat} (hr : ∀ p, r.getD p 0 < 64) : ∀ p, (tkm r p).1 < 64 ∧ (tkm r p).2.length ≤ p
  | 0 => ⟨show (0 : Nat) < 64 by decide, Nat.le_refl _⟩
  | p + 1 => by
    have ih := tkm_b hr p
    by_cases h : (tkm r p).1.testBit p = true
    · rw [tkm_t h]
      exact ⟨ih.1, by omega⟩
    · rw [tkm_f h]
      refine ⟨Nat.or_lt_two_pow (n := 6) ih.1 (hr p), ?_⟩
      show ((tkm r p).2 ++ [pop6 (r.getD p 0)]).length ≤ p + 1
      rw [List.length_append]
      show (tkm r p).2.length + 1 ≤ p + 1
      omega
theorem pop6_b (s : Nat) : pop6 s ≤ 6 := by
  unfold pop6
  omega
def zTkZ (z : List Nat) (M : zMem) : Prop := (ze M 81 63 = ((z.length : Nat) : Int) ∧ z.length ≤ 6) ∧ ∀ k : Nat, k < z.length → ze M 112 k = ((z.getD k 0 : Nat) : Int) ∧ z.getD k 0 ≤ 6
def zTkS (r : List Nat) (p : Nat) (met : Int) (M : zMem) : Prop := met = (((tkm r p).1 : Nat) : Int) ∧ zTkZ (tkm r p).2 M
section ZTK
variable {r z : List Nat} {M N N1 : zMem} {met : Int} {S C : List Nat}
theorem zTkZ.fr (hf : zFr S C M N) (h : zTkZ z M) (hs : 63 ∉ S) (hc : 112 ∉ C) : zTkZ z N := by
  refine ⟨by rw [hf.e hs]; exact h.1, fun k hk => ?_⟩
  rw [hf.ie (by decide) hc k]
  exact h.2 k hk
theorem zTkS_0 (h : ze M 81 63 = 0) : zTkS r 0 0 M := ⟨rfl, ⟨h, Nat.zero_le _⟩, fun k hk => absurd hk (Nat.not_lt_zero k)⟩
theorem zTkS_t {p m : Int} (h : zTkS r p.toNat met M) (p0 : 0 ≤ p) (hb : met.toNat.testBit p.toNat = true) (he : ∀ j : Nat, ze N 112 j = ze M 112 j) (h6 : ze N 81 63 = ze M 81 63) (hm : m = met) : zTkS r (p + 1).toNat m N := by
  obtain ⟨h1, h2, h3⟩ := h
  rw [h1, Int.toNat_natCast] at hb
  rw [show (p + 1).toNat = p.toNat + 1 by omega]
  unfold zTkS zTkZ
  rw [tkm_t hb, h6]
  exact ⟨hm.trans h1, h2, fun k hk => by rw [he]; exact h3 k hk⟩
theorem zTkS_f {p v x : Int} (hr : ∀ p, r.getD p 0 < 64) (h : zTkS r p.toNat met M) (p0 : 0 ≤ p) (p6 : p < 6) (hb : ¬ met.toNat.testBit p.toNat = true) (hx : x = ((r.getD p.toNat 0 : Nat) : Int)) (hv : v = ((gcb x.toNat : Nat) : Int)) (hN : N1 = zsI M 112 (ze M 81 63).toNat (Int32.ofInt v)) (he : ∀ j : Nat, ze N 112 j = ze N1 112 j) (h6 : ze N 81 63 = ze M 81 63 + 1) : zTkS r (p + 1).toNat (zor met x) N := by
  obtain ⟨h1, ⟨h2, h2b⟩, h3⟩ := h
  have hr64 := hr p.toNat
  have hb6 := tkm_b hr p.toNat
  rw [h1, Int.toNat_natCast] at hb
  rw [show (p + 1).toNat = p.toNat + 1 by omega]
  have hvp : v = ((pop6 (r.getD p.toNat 0) : Nat) : Int) := by
    rw [hv, hx, Int.toNat_natCast, pop6_g _ hr64]
  have h66 := pop6_b (r.getD p.toNat 0)
  unfold zTkS zTkZ
  rw [tkm_f hb]
  refine ⟨?_, ⟨?_, ?_⟩, fun k hk => ?_⟩
  · show zor met x = (((tkm r p.toNat).1 ||| r.getD p.toNat 0 : Nat) : Int)
    rw [h1, hx]
    exact zor_n _ _ (by omega) (by omega)
  · show ze N 81 63 = ((((tkm r p.toNat).2 ++ [pop6 (r.getD p.toNat 0)]).length : Nat) : Int)
    rw [List.length_append, h6, h2]
    rfl
  · show ((tkm r p.toNat).2 ++ [pop6 (r.getD p.toNat 0)]).length ≤ 6
    rw [List.length_append]
    show (tkm r p.toNat).2.length + 1 ≤ 6
    omega
  · have h2k : k < ((tkm r p.toNat).2 ++ [pop6 (r.getD p.toNat 0)]).length := hk
    rw [List.length_append] at h2k
    have h3k : k < (tkm r p.toNat).2.length + 1 := h2k
    show ze N 112 k = ((((tkm r p.toNat).2 ++ [pop6 (r.getD p.toNat 0)]).getD k 0 : Nat) : Int) ∧ ((tkm r p.toNat).2 ++ [pop6 (r.getD p.toNat 0)]).getD k 0 ≤ 6
    rw [he]
    by_cases e : k < (tkm r p.toNat).2.length
    · rw [List.getD_eq_getElem?_getD, List.getElem?_append_left e, ← List.getD_eq_getElem?_getD, zs_oth hN (by omega)]
      exact h3 k e
    · rw [List.getD_eq_getElem?_getD, List.getElem?_append_right (by omega), show k - (tkm r p.toNat).2.length = 0 by omega, show k = (ze M 81 63).toNat by omega, zs_get hN ⟨by omega, by omega⟩]
      exact ⟨hvp, h66⟩
theorem zTkS_e {p : Int} (h : zTkS r p.toNat met M) (hp : p = ((r.length : Nat) : Int)) : zTkZ (tkz r) M := by
  have h2 := h.2
  rw [hp, Int.toNat_natCast] at h2
  exact h2
def zTkN (z : List Nat) (q : Nat) (M : zMem) : Prop := True ∧ ∀ k : Nat, k < 7 → ze M 113 k = ((tkn z q k : Nat) : Int)
def zTkI (z : List Nat) (q : Nat) (x : Int) (M : zMem) : Prop := ∀ k : Nat, k < 7 → ((k : Int) ≤ x → ze M 113 k = ((tkn z q k : Nat) : Int)) ∧ (x < k → ze M 113 k = ((tkn z (q + 1) k : Nat) : Int))
theorem tkn_b (z : List Nat) : ∀ q k, tkn z q k ≤ 2 ^ q
  | 0, k => by
    show (if k = 0 then 1 else 0) ≤ 1
    by_cases g : k = 0
    · rw [if_pos g]
      exact Nat.le_refl _
    · rw [if_neg g]
      omega
  | q + 1, k => by
    have h1 := tkn_b z q k
    have h2 := tkn_b z q (k - z.getD q 0)
    rw [Nat.pow_succ]
    show (if z.getD q 0 ≤ k then tkn z q k + tkn z q (k - z.getD q 0) else tkn z q k) ≤ 2 ^ q * 2
    by_cases g : z.getD q 0 ≤ k
    · rw [if_pos g]
      omega
    · rw [if_neg g]
      omega
theorem tkn_6 (z : List Nat) {q k : Nat} (hq : q ≤ 6) : tkn z q k ≤ 64 := Nat.le_trans (tkn_b z q k) (Nat.pow_le_pow_right (by decide) hq)
theorem zTkI_0 {q : Nat} (h : zTkN z q M) : zTkI z q 6 M := fun k hk => ⟨fun _ => h.2 k hk, fun hx => absurd hx (by omega)⟩
theorem zTkI_s {q : Nat} {x v y w : Int} (h : zTkI z q x M) (x0 : 0 ≤ x) (x6 : x ≤ 6) (hq : q < 6) (hz : z.getD q 0 ≤ 6) (hs : ((z.getD q 0 : Nat) : Int) ≤ x) (hv : v = ze M 113 x.toNat) (hw : w = ze M 113 (x - ((z.getD q 0 : Nat) : Int)).toNat) (hy : y = v + w) (hN : N = zsI M 113 x.toNat (Int32.ofInt y)) : zTkI z q (x + (-1)) N := fun k hk => by
  have h1 := (h x.toNat (by omega)).1 (by omega)
  have h2 := (h (x - ((z.getD q 0 : Nat) : Int)).toNat (by omega)).1 (by omega)
  have b1 := tkn_6 z (q := q) (k := x.toNat) (by omega)
  have b2 := tkn_6 z (q := q) (k := (x - ((z.getD q 0 : Nat) : Int)).toNat) (by omega)
  by_cases g : (k : Int) = x
  · refine ⟨fun hx => absurd hx (by omega), fun _ => ?_⟩
    rw [show k = x.toNat by omega, zs_get hN ⟨by omega, by omega⟩, hy, hv, hw, h1, h2]
    show _ = (((if z.getD q 0 ≤ x.toNat then tkn z q x.toNat + tkn z q (x.toNat - z.getD q 0) else tkn z q x.toNat) : Nat) : Int)
    rw [if_pos (by omega), show (x - ((z.getD q 0 : Nat) : Int)).toNat = x.toNat - z.getD q 0 by omega]
    rfl
  · rw [zs_oth hN (by omega)]
    exact ⟨fun hx => (h k hk).1 (by omega), fun hx => (h k hk).2 (by omega)⟩
theorem zTkI_e {q : Nat} {x : Int} (h : zTkI z q x M) (hx : x < ((z.getD q 0 : Nat) : Int)) : zTkN z (q + 1) M := ⟨trivial, fun k hk => by
  by_cases g : x < (k : Int)
  · exact (h k hk).2 g
  · rw [(h k hk).1 (by omega)]
    show _ = (((if z.getD q 0 ≤ k then tkn z q k + tkn z q (k - z.getD q 0) else tkn z q k) : Nat) : Int)
    rw [if_neg (by omega)]⟩
theorem zTkN.fr {q : Nat} (hf : zFr S C M N) (h : zTkN z q M) (_ : True) (hc : 113 ∉ C) : zTkN z q N := ⟨trivial, fun k hk => by
  rw [hf.ie (by decide) hc k]
  exact h.2 k hk⟩
def zTkF (z : List Nat) (what n : Int) (q : Nat) (v : Int) : Prop := (what = 0 → v = ((tko z q : Nat) : Int)) ∧ (what = 1 → v = 0) ∧ (what = 2 → v = n ^ q)
theorem tko_b (z : List Nat) : ∀ q, tko z q ≤ q
  | 0 => Nat.le_refl _
  | q + 1 => by
    have h := tko_b z q
    show (if z.getD q 0 = 1 then tko z q + 1 else tko z q) ≤ q + 1
    by_cases g : z.getD q 0 = 1
    · rw [if_pos g]
      omega
    · rw [if_neg g]
      omega
theorem tko_s {z : List Nat} {q : Nat} {v t : Int} (h : v = ((tko z q : Nat) : Int)) (ht : (z.getD q 0 = 1 ∧ t = 1) ∨ (z.getD q 0 ≠ 1 ∧ t = 0)) : v + t = ((tko z (q + 1) : Nat) : Int) := by
  show v + t = (((if z.getD q 0 = 1 then tko z q + 1 else tko z q) : Nat) : Int)
  rcases ht with ⟨g, e⟩ | ⟨g, e⟩
  · rw [if_pos g]
    omega
  · rw [if_neg g]
    omega
theorem zTkN_n {z : List Nat} {q : Nat} {x : Int} {M : zMem} (h : zTkN z (q + 1) M) (hx : x = ((q + 1 : Nat) : Int)) : zTkN z x.toNat M := by
  rw [show x.toNat = q + 1 by omega]
  exact h
theorem zTkF_a {z : List Nat} {what n v w q x t : Int} (h : zTkF z what n q.toNat v) (q0 : 0 ≤ q) (hw : what = 0) (hx : x = ((z.getD q.toNat 0 : Nat) : Int)) (ht : (x = 1 ∧ t = 1) ∨ (x ≠ 1 ∧ t = 0)) (hv : w = v + t) : zTkF z what n (q + 1).toNat w := by
  rw [show (q + 1).toNat = q.toNat + 1 by omega]
  refine ⟨fun g => ?_, fun g => by omega, fun g => by omega⟩
  rw [hv]
  exact tko_s (h.1 g) (by omega)
theorem zTkF_b {z : List Nat} {what n v w q : Int} (h : zTkF z what n q.toNat v) (q0 : 0 ≤ q) (hw : what = 2) (hv : w = v * n) : zTkF z what n (q + 1).toNat w := by
  rw [show (q + 1).toNat = q.toNat + 1 by omega]
  refine ⟨fun g => by omega, fun g => by omega, fun g => ?_⟩
  rw [hv, h.2.2 g, Int.pow_succ]
theorem zTkF_c {z : List Nat} {what n v q : Int} (h : zTkF z what n q.toNat v) (hw : what = 1) : zTkF z what n (q + 1).toNat v := ⟨fun g => by omega, h.2.1, fun g => by omega⟩
theorem zTkF_r {z : List Nat} {what n v : Int} {q : Nat} (h : zTkF z what n q v) (hq : q ≤ 6) (hw : what = 0 ∨ ((what = 1 ∨ what = 2) ∧ 0 ≤ n ∧ n ≤ 6)) : 0 ≤ v ∧ v ≤ 46656 := by
  rcases hw with g | ⟨g | g, g2, g3⟩
  · have h1 := h.1 g
    have h2 := tko_b z q
    omega
  · have h1 := h.2.1 g
    omega
  · rw [h.2.2 g]
    exact tkp_6 g2 g3 q hq
theorem tkv_r {P : Nat} {T : zGT} {c : Nat → Nat} {B : Nat} {what n v : Int} (hP : P ≤ 6) (hpt : zPt (zrch (gN T) c B) P) (hw : what = 0 ∨ ((what = 1 ∨ what = 2) ∧ 0 ≤ n ∧ n ≤ 6)) (h0 : what = 0 → v = ((tkone (tkz (zrr P T c B)) : Nat) : Int)) (h1 : what = 1 → v = ((tkn (tkz (zrr P T c B)) (tkz (zrr P T c B)).length n.toNat : Nat) : Int)) (h2 : what = 2 → v = n ^ (tkz (zrr P T c B)).length) : v = tkv (zrr P T c B) what n := by
  obtain ⟨a0, a1, a2⟩ := tkchk_s hP (zPt_m hP hpt)
  have a0' : tk0 (zrr P T c B) = tkone (tkz (zrr P T c B)) := a0
  have a1' : tkp (zrr P T c B) = (tkz (zrr P T c B)).length := a1
  have a2' : ∀ k, k ≤ 6 → tks (zrr P T c B) k = tkn (tkz (zrr P T c B)) (tkz (zrr P T c B)).length k := a2
  unfold tkv
  rcases hw with g | ⟨g | g, g2, g3⟩
  · rw [if_pos g, h0 g, a0']
  · rw [if_neg (by omega), if_pos g, h1 g, a2' _ (by omega)]
  · rw [if_neg (by omega), if_neg (by omega), h2 g, a1']
theorem zrr_b {P : Nat} {T : zGT} {c : Nat → Nat} {B : Nat} (hP : P ≤ 6) (hpt : zPt (zrch (gN T) c B) P) : ∀ p, (zrr P T c B).getD p 0 < 64 := fun p => by
  by_cases g : p < P
  · rw [zrr_g g]
    exact Nat.lt_of_lt_of_le (hpt.1 p g).1 (Nat.pow_le_pow_right (by decide) hP)
  · rw [List.getD_eq_getElem?_getD, List.getElem?_eq_none (by rw [zrr_l]; omega)]
    decide
end ZTK
theorem gTb_lt {mv : List Nat} {T : zGT} {c : Nat → Nat} {P : Nat} (hT : gTb mv c T) (hp : ∀ g ∈ mv, gpm g) (hf : ∀ g ∈ mv, gfix P g) (hP : P ≤ 6) : ∀ m, m < gN T → ∀ p, p < P → gdg (c m) p < P := fun m hm p hpP =>
  gfix_lt ((gTb_0 hT hp).1 m hm) (gGen.fix hf ((hT.2.1 (c m)).mpr ⟨m, hm, rfl⟩)) hpP (by omega)
theorem zMvF_x {M : zMem} (hI : zIF M) {P : Nat} (hP : ze M 81 16 = (P : Int)) : ∀ g ∈ zMvF M, gfix P g := fun g hg => by
  obtain ⟨⟨⟨p1, p6⟩, m0, m4⟩, h84, -⟩ := hI
  unfold zMvF at hg
  obtain ⟨k, hk, rfl⟩ := List.mem_map.mp hg
  rw [List.mem_range] at hk
  intro p h1 h2
  rw [zrc_d (fun q hq => by
    have := h84.g (e := ((6 * k + q : Nat) : Int)) (by omega) (by omega)
    rw [Int.toNat_natCast] at this
    omega) p h2]
  unfold zrd
  rw [if_neg (by omega)]
def zUw (q F : Nat) (N : zMem) (u : Nat → Int) (j : Int) : Prop := ∀ x : Nat, j < x → (x : Int) < F → zg N q x = u x
theorem zUw_0 {q F : Nat} {N : zMem} {u : Nat → Int} {j : Int} (hj : (F : Int) - 1 ≤ j) : zUw q F N u j := fun x h1 h2 => absurd h2 (by omega)
theorem zUw_s {q F : Nat} {N P : zMem} {u : Nat → Int} {j v : Int} (h : zUw q F N u j) (hP : P = zsJ N q j.toNat (Int64.ofInt v)) (hv2 : zn64 v) (j0 : 0 ≤ j) (hv : v = u j.toNat) : zUw q F P u (j - 1) := fun x g1 g2 => by
  by_cases g : (x : Int) = j
  · rw [show x = j.toNat by omega, zs_getJ hP hv2, hv]
  · rw [zs_othJ hP (by omega)]
    exact h x (by omega) g2
