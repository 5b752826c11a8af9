def zsqA (F : Nat) (K : Nat → Nat → Int) (m : Nat → Int) : Nat → Nat → Int
  | 0 => fun _ => 0
  | k + 1 => fun i => if i = F - 1 - k then (m (F - 1 - k) - zsm (fun t => zsqA F K m k (F - 1 - k + 1 + t) * K (F - 1 - k + 1 + t) (F - 1 - k)) k).tdiv (K (F - 1 - k) (F - 1 - k)) else zsqA F K m k i
def zsq (F : Nat) (K : Nat → Nat → Int) (m : Nat → Int) : Nat → Int := zsqA F K m F
section ZSQ
variable {F : Nat} {K : Nat → Nat → Int} {m m' : Nat → Int}
theorem zsqA_st {k : Nat} : ∀ d, k + d ≤ F → ∀ i, F - k ≤ i → i < F → zsqA F K m (k + d) i = zsqA F K m k i
  | 0, _, _, _, _ => rfl
  | d + 1, h, i, h1, h2 => by
    have e : zsqA F K m (k + d + 1) i = zsqA F K m (k + d) i := by
      show (if i = F - 1 - (k + d) then _ else zsqA F K m (k + d) i) = _
      rw [if_neg (by omega)]
    rw [show k + (d + 1) = k + d + 1 by omega, e]
    exact zsqA_st d (by omega) i h1 h2
theorem zsq_e {j : Nat} (hj : j < F) : zsq F K m j = (m j - zsm (fun t => zsq F K m (j + 1 + t) * K (j + 1 + t) j) (F - 1 - j)).tdiv (K j j) := by
  have e1 : zsq F K m j = zsqA F K m (F - 1 - j + 1) j := by
    have h := zsqA_st (F := F) (K := K) (m := m) (k := F - 1 - j + 1) j (by omega) j (by omega) hj
    rw [show F - 1 - j + 1 + j = F by omega] at h
    exact h
  have e2 : zsqA F K m (F - 1 - j + 1) j = (m (F - 1 - (F - 1 - j)) - zsm (fun t => zsqA F K m (F - 1 - j) (F - 1 - (F - 1 - j) + 1 + t) * K (F - 1 - (F - 1 - j) + 1 + t) (F - 1 - (F - 1 - j))) (F - 1 - j)).tdiv (K (F - 1 - (F - 1 - j)) (F - 1 - (F - 1 - j))) := by
    show (if j = F - 1 - (F - 1 - j) then _ else _) = _
    rw [if_pos (by omega)]
  rw [e1, e2, show F - 1 - (F - 1 - j) = j by omega]
  congr 2
  refine zsm_c _ (fun t ht => ?_)
  congr 1
  have h := zsqA_st (F := F) (K := K) (m := m) (k := F - 1 - j) (j + 1) (by omega) (j + 1 + t) (by omega) (by omega)
  rw [show F - 1 - j + (j + 1) = F by omega] at h
  exact h.symm
theorem zsq_b (hA : zTA F K) (hm : ∀ j, j < F → -1000000 ≤ m j ∧ m j ≤ 1000000) : ∀ i, i < F → -200000000000 ≤ zsq F K m i ∧ zsq F K m i ≤ 200000000000 := fun i hi => by
  have hq : ∀ j, j < F → (zmq F K (zsq F K m) j).natAbs ≤ 1000024 := fun j hj => by
    have h1 := zmq_tail hA (u := zsq F K m) hj
    have h2 := zsq_e (K := K) (m := m) hj
    have h3 := hm j hj
    have h4 := hA.2.1 j j hj hj
    have h5 := hA.2.2.2.1 j hj
    generalize hr : m j - zsm (fun t => zsq F K m (j + 1 + t) * K (j + 1 + t) j) (F - 1 - j) = r at h2
    have h6 := Int.tmod_def r (K j j)
    have h7 : (r.tmod (K j j)).natAbs ≤ 24 := by
      rw [Int.natAbs_tmod]
      have h8 : r.natAbs % (K j j).natAbs < (K j j).natAbs := Nat.mod_lt _ (by omega)
      exact Nat.le_trans (Nat.le_of_lt h8) (by omega)
    have h9 : zsq F K m j * K j j = r - r.tmod (K j j) := by
      rw [h2, Int.mul_comm]
      omega
    rw [h1, h9]
    omega
  have hw := hA.2.2.2.2.2.1 (fun k => 500000 * zsq F K m k) (fun j hj => by
    rw [zmq_mul]
    have h1 := hq j hj
    unfold zLim
    omega) i hi
  have h5 := hA.2.2.2.1 i hi
  have h1 : (500000 * zsq F K m i * K i i).natAbs = (500000 * zsq F K m i).natAbs * (K i i).natAbs := Int.natAbs_mul _ _
  have h2 : (500000 * zsq F K m i).natAbs * 1 ≤ (500000 * zsq F K m i).natAbs * (K i i).natAbs := Nat.mul_le_mul_left _ (by omega)
  have hw2 : -100000000000000000 ≤ 500000 * zsq F K m i * K i i ∧ 500000 * zsq F K m i * K i i ≤ 100000000000000000 := hw
  omega
theorem zsq_lm (hA : zTA F K) (hm : ∀ j, j < F → -1000000 ≤ m j ∧ m j ≤ 1000000) : zlm F (zsq F K m) := fun k hk => by
  have h := zsq_b hA hm k hk
  unfold zLim
  omega
theorem zsq_c (h : ∀ j, j < F → m j = m' j) : ∀ d j, F - j ≤ d → j < F → zsq F K m j = zsq F K m' j
  | 0, _, h1, h2 => absurd h1 (by omega)
  | d + 1, j, h1, h2 => by
    rw [zsq_e h2, zsq_e h2, h j h2]
    congr 2
    refine zsm_c _ (fun t ht => ?_)
    rw [zsq_c h d (j + 1 + t) (by omega) (by omega)]
theorem zsq_cc (h : ∀ j, j < F → m j = m' j) : ∀ j, j < F → zsq F K m j = zsq F K m' j := fun j hj => zsq_c h F j (by omega) hj
def zrX (F : Nat) (K : Nat → Nat → Int) (m : Nat → Int) (r j i : Int) : Prop := Int64.ofInt r = Int64.ofInt (m j.toNat - zsm (fun t => zsq F K m (j.toNat + 1 + t) * K (j.toNat + 1 + t) j.toNat) (i - j - 1).toNat)
theorem zrX_0 {r j : Int} (hr : r = m j.toNat) : zrX F K m r j (j + 1) := by
  unfold zrX
  rw [show (j + 1 - j - 1).toNat = 0 by omega, hr]
  show _ = Int64.ofInt (_ - 0)
  rw [Int.sub_zero]
theorem zrX_s {r v x y i j : Int} (h : zrX F K m r j i) (hv : Int64.ofInt v = Int64.ofInt (r - x * y)) (j0 : 0 ≤ j) (ji : j < i) (iF : i < F) (hx : x = zsq F K m i.toNat) (hy : y = K i.toNat j.toNat) : zrX F K m v j (i + 1) := by
  have ei : j.toNat + 1 + (i - j - 1).toNat = i.toNat := by omega
  unfold zrX at h ⊢
  rw [show (i + 1 - j - 1).toNat = (i - j - 1).toNat + 1 by omega]
  show _ = Int64.ofInt (_ - (zsm _ (i - j - 1).toNat + zsq F K m (j.toNat + 1 + (i - j - 1).toNat) * K (j.toNat + 1 + (i - j - 1).toNat) j.toNat))
  rw [ei, hv, Int64.ofInt_sub, h, ← Int64.ofInt_sub, hx, hy]
  congr 1
  omega
theorem zrX_e (hA : zTA F K) (hm : ∀ j, j < F → -1000000 ≤ m j ∧ m j ≤ 1000000) {r j i q o : Int} (h : zrX F K m r j i) (hi : i = (F : Int)) (hr : zn64 r) (j0 : 0 ≤ j) (jF : j < F) (ho : o = K j.toNat j.toNat) (hq : q = zlquo r o) : q = zsq F K m j.toNat := by
  have hjn : j.toNat < F := by omega
  unfold zrX at h
  rw [hi, show ((F : Int) - j - 1).toNat = F - 1 - j.toNat by omega] at h
  have h2 := zsq_e (K := K) (m := m) hjn
  have hb : (zsm (fun t => zsq F K m (j.toNat + 1 + t) * K (j.toNat + 1 + t) j.toNat) (F - 1 - j.toNat)).natAbs ≤ (F - 1 - j.toNat) * (200000000000 * 24) := zsm_b _ (fun t ht => by
    rw [Int.natAbs_mul]
    have h3 := zsq_b hA hm (j.toNat + 1 + t) (by omega)
    have h4 := hA.2.1 (j.toNat + 1 + t) j.toNat (by omega) hjn
    exact Nat.mul_le_mul (by omega) (by omega))
  have hF := hA.1.2
  have hb2 : (F - 1 - j.toNat) * (200000000000 * 24) ≤ 27 * (200000000000 * 24) := Nat.mul_le_mul_right _ (by omega)
  have hmj := hm j.toNat hjn
  have e := z64q hr ⟨by omega, by omega⟩ h
  have h4 := hA.2.1 j.toNat j.toNat hjn hjn
  have h5 := hA.2.2.2.1 j.toNat hjn
  rw [hq, ho, zq_t (by omega) (by omega) (by omega) (by omega), h2, e]
end ZSQ
def tkf : Nat → List (List Nat)
  | 0 => [[]]
  | k + 1 => (tkf k).flatMap (fun l => ((List.range (k + 1)).filter (fun v => v == k || l.getD v 0 == v)).map (fun v => l ++ [v]))
def tkb (l : List Nat) (v : Nat) : Nat → Nat
  | 0 => 0
  | q + 1 => if l.getD q 0 = v then tkb l v q ||| 2 ^ q else tkb l v q
def tkrow (l : List Nat) : List Nat := (List.range l.length).map (fun p => tkb l (l.getD p 0) l.length)
def tkall (P : Nat) : List (List Nat) := (tkf P).map tkrow
def pop6 (s : Nat) : Nat := s % 2 + s / 2 % 2 + s / 4 % 2 + s / 8 % 2 + s / 16 % 2 + s / 32 % 2
def tk0 (r : List Nat) : Nat := ((List.range r.length).filter (fun p => r.getD p 0 == 2 ^ p)).length
def tkp (r : List Nat) : Nat := ((List.range r.length).filter (fun p => r.getD p 0 % 2 ^ p == 0)).length
def tkc (r : List Nat) : List Nat := (List.range (2 ^ r.length)).filter (fun s => (List.range r.length).all (fun p => !s.testBit p || r.getD p 0 &&& s == r.getD p 0))
def tks (r : List Nat) (n : Nat) : Nat := ((tkc r).filter (fun s => pop6 s == n)).length
def tkm (r : List Nat) : Nat → Nat × List Nat
  | 0 => (0, [])
  | p + 1 => if (tkm r p).1.testBit p then tkm r p else ((tkm r p).1 ||| r.getD p 0, (tkm r p).2 ++ [pop6 (r.getD p 0)])
def tkz (r : List Nat) : List Nat := (tkm r r.length).2
def tkn (z : List Nat) : Nat → Nat → Nat
  | 0, k => if k = 0 then 1 else 0
  | q + 1, k => if z.getD q 0 ≤ k then tkn z q k + tkn z q (k - z.getD q 0) else tkn z q k
def tko (z : List Nat) : Nat → Nat
  | 0 => 0
  | q + 1 => if z.getD q 0 = 1 then tko z q + 1 else tko z q
def tkone (z : List Nat) : Nat := tko z z.length
def tkchk (r : List Nat) : Bool := tk0 r == tkone (tkz r) && (tkp r == (tkz r).length && (List.range 7).all (fun n => tks r n == tkn (tkz r) (tkz r).length n))
theorem tkchk_1 : (List.range 6).all (fun P => (tkall P).all tkchk) = true := by decide +kernel
theorem tkchk_6 : (tkall 6).all tkchk = true := by decide +kernel
theorem tkchk_s {P : Nat} {r : List Nat} (hP : P ≤ 6) (h : r ∈ tkall P) : tk0 r = tkone (tkz r) ∧ tkp r = (tkz r).length ∧ ∀ n, n ≤ 6 → tks r n = tkn (tkz r) (tkz r).length n := by
  have hc : tkchk r = true := by
    by_cases g : P = 6
    · rw [g] at h
      exact List.all_eq_true.mp tkchk_6 r h
    · exact List.all_eq_true.mp (List.all_eq_true.mp tkchk_1 P (List.mem_range.mpr (by omega))) r h
  unfold tkchk at hc
  rw [Bool.and_eq_true, Bool.and_eq_true] at hc
  obtain ⟨h1, h2, h3⟩ := hc
  refine ⟨eq_of_beq h1, eq_of_beq h2, fun n hn => ?_⟩
  exact eq_of_beq (List.all_eq_true.mp h3 n (List.mem_range.mpr (by omega)))
def zPt (R : Nat → Nat) (P : Nat) : Prop := (∀ p, p < P → R p < 2 ^ P ∧ (R p).testBit p = true) ∧ ∀ p q, p < P → (R p).testBit q = true → R q = R p
def lwz (x : Nat) : Nat → Nat → Nat
  | 0, i => i
  | k + 1, i => if x.testBit i = true then i else lwz x k (i + 1)
theorem lwz_s {x p : Nat} (hp : x.testBit p = true) : ∀ k i, i ≤ p → p ≤ i + k → x.testBit (lwz x k i) = true ∧ lwz x k i ≤ p
  | 0, i, h1, h2 => by
    show x.testBit i = true ∧ i ≤ p
    rw [show i = p by omega]
    exact ⟨hp, Nat.le_refl _⟩
  | k + 1, i, h1, h2 => by
    show x.testBit (if x.testBit i = true then i else lwz x k (i + 1)) = true ∧ (if x.testBit i = true then i else lwz x k (i + 1)) ≤ p
    by_cases g : x.testBit i = true
    · rw [if_pos g]
      exact ⟨g, h1⟩
    · rw [if_neg g]
      have hne : i ≠ p := fun e => g (by rw [e]; exact hp)
      exact lwz_s hp k (i + 1) (by omega) (by omega)
theorem tkb_t (l : List Nat) (v : Nat) : ∀ k i, (tkb l v k).testBit i = true ↔ i < k ∧ l.getD i 0 = v
  | 0, i => by
    show Nat.testBit 0 i = true ↔ _
    rw [Nat.zero_testBit]
    constructor
    · intro h
      cases h
    · intro h
      exact absurd h.1 (Nat.not_lt_zero _)
  | k + 1, i => by
    show (if l.getD k 0 = v then tkb l v k ||| 2 ^ k else tkb l v k).testBit i = true ↔ _
    by_cases g : l.getD k 0 = v
    · rw [if_pos g, Nat.testBit_or, Bool.or_eq_true, tkb_t l v k i, Nat.testBit_two_pow, decide_eq_true_iff]
      constructor
      · rintro (h | h)
        · exact ⟨by omega, h.2⟩
        · rw [← h]
          exact ⟨by omega, g⟩
      · rintro ⟨h1, h2⟩
        by_cases e : k = i
        · exact Or.inr e
        · exact Or.inl ⟨by omega, h2⟩
    · rw [if_neg g, tkb_t l v k i]
      constructor
      · rintro ⟨h1, h2⟩
        exact ⟨by omega, h2⟩
      · rintro ⟨h1, h2⟩
        refine ⟨?_, h2⟩
        rcases Nat.lt_or_ge i k with h3 | h3
        · exact h3
        · rw [show i = k by omega] at h2
          exact absurd h2 g
theorem getD_mr {f : Nat → Nat} {P p : Nat} (hp : p < P) : ((List.range P).map f).getD p 0 = f p := by
  rw [List.getD_eq_getElem?_getD, List.getElem?_map, List.getElem?_range hp]
  rfl
theorem tkf_m {f : Nat → Nat} : ∀ P, (∀ p, p < P → f p ≤ p ∧ f (f p) = f p) → (List.range P).map f ∈ tkf P
  | 0, _ => List.mem_singleton.mpr rfl
  | k + 1, h => by
    have ih := tkf_m (f := f) k (fun p hp => h p (by omega))
    have hk := h k (by omega)
    rw [List.range_succ, List.map_append]
    refine List.mem_flatMap.mpr ⟨_, ih, List.mem_map.mpr ⟨f k, List.mem_filter.mpr ⟨List.mem_range.mpr (by omega), ?_⟩, rfl⟩⟩
    show (f k == k || ((List.range k).map f).getD (f k) 0 == f k) = true
    rw [Bool.or_eq_true]
    by_cases g : f k = k
    · exact Or.inl (beq_iff_eq.mpr g)
    · refine Or.inr (beq_iff_eq.mpr ?_)
      rw [getD_mr (by omega)]
      exact hk.2
theorem zPt_m {R : Nat → Nat} {P : Nat} (hP : P ≤ 6) (h : zPt R P) : (List.range P).map R ∈ tkall P := by
  obtain ⟨h1, h2⟩ := h
  have hl : ∀ p, p < P → (R p).testBit (lwz (R p) 6 0) = true ∧ lwz (R p) 6 0 ≤ p := fun p hp => lwz_s (h1 p hp).2 6 0 (by omega) (by omega)
  refine List.mem_map.mpr ⟨(List.range P).map (fun p => lwz (R p) 6 0), tkf_m P (fun p hp => ⟨(hl p hp).2, ?_⟩), ?_⟩
  · show lwz (R (lwz (R p) 6 0)) 6 0 = lwz (R p) 6 0
    rw [h2 p _ hp (hl p hp).1]
  · unfold tkrow
    rw [List.length_map, List.length_range]
    refine List.map_congr_left (fun p hp => ?_)
    rw [List.mem_range] at hp
    rw [getD_mr hp]
    refine Nat.eq_of_testBit_eq fun i => ?_
    rw [Bool.eq_iff_iff, tkb_t]
    constructor
    · rintro ⟨hi, e⟩
      rw [getD_mr hi] at e
      have e2 : R i = R p := by
        rw [← h2 i _ hi (hl i hi).1, e]
        exact h2 p _ hp (hl p hp).1
      rw [← e2]
      exact (h1 i hi).2
    · intro hi
      have hiP : i < P := by
        rcases Nat.lt_or_ge i P with g | g
        · exact g
        · rw [Nat.testBit_lt_two_pow (Nat.lt_of_lt_of_le (h1 p hp).1 (Nat.pow_le_pow_right (by decide) g))] at hi
          cases hi
      refine ⟨hiP, ?_⟩
      rw [getD_mr hiP, h2 p i hp hi]
noncomputable def zrch (n : Nat) (c : Nat → Nat) (B p : Nat) : Nat := zbq (fun q => ∃ m, m < n ∧ B.testBit m = true ∧ gdg (c m) p = q) 8
theorem zrch_t {n : Nat} {c : Nat → Nat} {B p q : Nat} : (zrch n c B p).testBit q = true ↔ ∃ m, m < n ∧ B.testBit m = true ∧ gdg (c m) p = q := by
  unfold zrch
  rw [zbq_t]
  constructor
  · intro h
    exact h.2
  · rintro ⟨m, h1, h2, h3⟩
    exact ⟨by rw [← h3]; exact gdg_lt _ _, m, h1, h2, h3⟩
theorem zrch_c {n : Nat} {c c' : Nat → Nat} {B p : Nat} (h : ∀ i, i < n → c i = c' i) : zrch n c B p = zrch n c' B p := by
  refine Nat.eq_of_testBit_eq fun i => ?_
  rw [Bool.eq_iff_iff, zrch_t, zrch_t]
  constructor
  · rintro ⟨m, h1, h2, h3⟩
    exact ⟨m, h1, h2, by rw [← h m h1]; exact h3⟩
  · rintro ⟨m, h1, h2, h3⟩
    exact ⟨m, h1, h2, by rw [h m h1]; exact h3⟩
theorem zImg_r {n : Nat} {c : Nat → Nat} {B p : Nat} {v : Int} (h : zImg (fun m => B.testBit m = true) (fun m => gdg (c m) p) n v) : v = ((zrch n c B p : Nat) : Int) := by
  have e : v.toNat = zrch n c B p := Nat.eq_of_testBit_eq fun i => by
    rw [Bool.eq_iff_iff, zrch_t]
    exact h.2 i
  have := h.1
  omega
section ZRCH
variable {mv : List Nat} {T : zGT} {c : Nat → Nat} {B P : Nat}
theorem gTb_0 (hT : gTb mv c T) (hp : ∀ g ∈ mv, gpm g) : (∀ i, i < gN T → gpm (c i)) ∧ c 0 = gid := by
  obtain ⟨a1, a2, a3, a4, a5⟩ := hT
  have hO := gTabs_ok T a1
  have h1 := hO.1.1
  have hc : ∀ i, i < gN T → gpm (c i) := fun i hi => ((a2 (c i)).mpr ⟨i, hi, rfl⟩).pm hp
  have h00 : gm T 0 0 = 0 := by
    have hb := (hO.2.1.2.2 1 hO.2.1.2.1).1.2.2
    have := hb.2 0 0 (by omega) (by omega) hb.1 hb.1
    exact Nat.testBit_one_eq_true_iff_self_eq_zero.mp this
  refine ⟨hc, ?_⟩
  have h2 := (a4 0 0 (by omega) (by omega)).2
  rw [h00] at h2
  have hp0 := hc 0 (by omega)
  refine gext hp0.1 gid_pm.1 (fun p hp => ?_)
  have h3 : gdg (c 0) p = gdg (c 0) (gdg (c 0) p) := by
    rw [← gco_d _ _ p hp, ← h2]
  rw [gid_d p hp]
  exact hp0.2.2 _ _ (hp0.2.1 p hp) hp h3.symm
theorem gCl_u (hT : gTb mv c T) (hB : gCl T B) {a : Nat} (ha : a < gN T) (hb : B.testBit a = true) : ∃ b, b < gN T ∧ B.testBit b = true ∧ gm T b a = 0 := by
  have hO := gTabs_ok T hT.1
  have hX := gTabs_ex T hT.1
  have hG := hO.1
  obtain ⟨V, ⟨hv1, hv2, -⟩, -⟩ := gOr_x hG hX ha
  have hin : ∀ k, B.testBit (gpw T a k) = true := fun k => by
    induction k with
    | zero => exact hb
    | succ k ih => exact hB.2 _ _ (gpw_lt hG ha k) ha ih hb
  by_cases g : V = 1
  · rw [g] at hv2
    have e : a = 0 := hv2
    refine ⟨0, by omega, hB.1, ?_⟩
    rw [e]
    have hb1 := (hO.2.1.2.2 1 hO.2.1.2.1).1.2.2
    have := hb1.2 0 0 (by omega) (by omega) hb1.1 hb1.1
    exact Nat.testBit_one_eq_true_iff_self_eq_zero.mp this
  · refine ⟨gpw T a (V - 2), gpw_lt hG ha _, hin _, ?_⟩
    rw [show V - 1 = V - 2 + 1 by omega] at hv2
    exact hv2
theorem zPt_g (hT : gTb mv c T) (hp : ∀ g ∈ mv, gpm g) (hP : P ≤ 6) (hl : ∀ m, m < gN T → ∀ p, p < P → gdg (c m) p < P) (hB : B ∈ gS T) : zPt (zrch (gN T) c B) P := by
  have hO := gTabs_ok T hT.1
  have hcl := (hO.2.1.2.2 B hB).1.2.2
  have h1 := hO.1.1
  obtain ⟨hc, h0⟩ := gTb_0 hT hp
  refine ⟨fun p hp6 => ⟨?_, ?_⟩, fun p q hp6 hq => ?_⟩
  · refine Nat.lt_pow_two_of_testBit _ (fun i hi => ?_)
    rw [Bool.eq_false_iff]
    intro ht
    obtain ⟨m, m1, m2, m3⟩ := zrch_t.mp ht
    have := hl m m1 p hp6
    omega
  · refine zrch_t.mpr ⟨0, by omega, hcl.1, ?_⟩
    rw [h0]
    exact gid_d p (by omega)
  · obtain ⟨a, a1, a2, a3⟩ := zrch_t.mp hq
    have hq6 : q < P := by
      rw [← a3]
      exact hl a a1 p hp6
    refine Nat.eq_of_testBit_eq fun i => ?_
    rw [Bool.eq_iff_iff, zrch_t, zrch_t]
    constructor
    · rintro ⟨m, m1, m2, m3⟩
      refine ⟨gm T a m, (hT.2.2.2.1 a m a1 m1).1, hcl.2 _ _ a1 m1 a2 m2, ?_⟩
      rw [(hT.2.2.2.1 a m a1 m1).2, gco_d _ _ p (by omega), a3]
      exact m3
    · rintro ⟨m, m1, m2, m3⟩
      obtain ⟨b, b1, b2, b3⟩ := gCl_u hT hcl a1 a2
      have hbq : gdg (c b) q = p := by
        have e := (hT.2.2.2.1 b a b1 a1).2
        rw [b3, h0] at e
        have e2 : gdg (c a) (gdg (c b) q) = q := by
          rw [← gco_d _ _ q (by omega), ← e]
          exact gid_d q (by omega)
        refine (hc a a1).2.2 _ _ ((hc b b1).2.1 q (by omega)) (by omega) ?_
        rw [e2, a3]
      refine ⟨gm T b m, (hT.2.2.2.1 b m b1 m1).1, hcl.2 _ _ b1 m1 b2 m2, ?_⟩
      rw [(hT.2.2.2.1 b m b1 m1).2, gco_d _ _ q (by omega), hbq]
      exact m3
end ZRCH
noncomputable def zrr (P : Nat) (T : zGT) (c : Nat → Nat) (B : Nat) : List Nat := (List.range P).map (zrch (gN T) c B)
theorem zrr_c {P : Nat} {T : zGT} {c c' : Nat → Nat} {B : Nat} (h : ∀ i, i < gN T → c i = c' i) : zrr P T c B = zrr P T c' B := List.map_congr_left (fun _ _ => zrch_c h)
theorem zrr_l {P : Nat} {T : zGT} {c : Nat → Nat} {B : Nat} : (zrr P T c B).length = P := by
  unfold zrr
  rw [List.length_map, List.length_range]
theorem zrr_g {P p : Nat} {T : zGT} {c : Nat → Nat} {B : Nat} (hp : p < P) : (zrr P T c B).getD p 0 = zrch (gN T) c B p := getD_mr hp
def tkv (r : List Nat) (what n : Int) : Int := if what = 0 then ((tk0 r : Nat) : Int) else if what = 1 then ((tks r n.toNat : Nat) : Int) else n ^ tkp r
theorem flt_c {p : Nat → Prop} {q : Nat → Bool} {n : Nat} (h : ∀ i, i < n → (p i ↔ q i = true)) : zct p n = ((List.range n).filter q).length := by
  rw [zct_l]
  congr 1
  refine List.filter_congr (fun i hi => ?_)
  rw [List.mem_range] at hi
  rw [Bool.eq_iff_iff, zPb_t]
  exact h i hi
theorem pop6_g : ∀ s, s < 64 → gcb s = pop6 s := by decide +kernel
theorem tk_lw : ∀ R : Nat, R < 64 → ∀ p : Nat, p < 6 → R.testBit p = true → (zand (R : Int) (-(R : Int)) = zshl 1 (p : Int) ↔ R % 2 ^ p = 0) := by decide +kernel
theorem tk_sh : ∀ p : Nat, p < 7 → zshl 1 (p : Int) = ((2 ^ p : Nat) : Int) := by decide +kernel
theorem tkp_6 {n : Int} (n0 : 0 ≤ n) (n6 : n ≤ 6) : ∀ k : Nat, k ≤ 6 → 0 ≤ n ^ k ∧ n ^ k ≤ 46656 := fun k hk => by
  have h : ∀ m, m < 7 → ∀ j, j < 7 → m ^ j ≤ 46656 := by decide +kernel
  have e : n ^ k = ((n.toNat ^ k : Nat) : Int) := by
    rw [Int.natCast_pow, Int.toNat_of_nonneg n0]
  have h2 := h n.toNat (by omega) k (by omega)
  omega
theorem tkp_l (r : List Nat) : tkp r ≤ r.length := Nat.le_trans (List.length_filter_le _ _) (by rw [List.length_range]; exact Nat.le_refl _)
section TKV
variable {P : Nat} {T : zGT} {c : Nat → Nat} {B : Nat} {what n v w : Int}
theorem tkv_0 (hw : what = 0) (hv : v = ((zct (fun p => zrch (gN T) c B p = 2 ^ p) P : Nat) : Int)) : v = tkv (zrr P T c B) what n := by
  unfold tkv
  rw [if_pos hw, hv]
  unfold tk0
  rw [zrr_l, flt_c (q := fun p => (zrr P T c B).getD p 0 == 2 ^ p) (fun i hi => by rw [zrr_g hi, beq_iff_eq])]
theorem tkp_v (hv : v = ((zct (fun p => zrch (gN T) c B p % 2 ^ p = 0) P : Nat) : Int)) : v = ((tkp (zrr P T c B) : Nat) : Int) := by
  rw [hv]
  unfold tkp
  rw [zrr_l, flt_c (q := fun p => (zrr P T c B).getD p 0 % 2 ^ p == 0) (fun i hi => by rw [zrr_g hi, beq_iff_eq])]
theorem tkv_2 (hw : what = 2) (hv : w = ((zct (fun p => zrch (gN T) c B p % 2 ^ p = 0) P : Nat) : Int)) (hq : v = n ^ w.toNat) : v = tkv (zrr P T c B) what n := by
  unfold tkv
  rw [if_neg (by omega), if_neg (by omega), hq, tkp_v hv, Int.toNat_natCast]
theorem tks_v (hP : P ≤ 6) (k : Nat) : zct (fun s => gcb s = k ∧ ∀ p, p < P → s.testBit p = true → zrch (gN T) c B p &&& s = zrch (gN T) c B p) (2 ^ P) = tks (zrr P T c B) k := by
  have h64 : 2 ^ P ≤ 64 := Nat.pow_le_pow_right (by decide) hP
  unfold tks tkc
  rw [List.filter_filter, zrr_l]
  refine flt_c (fun s hs => ?_)
  rw [Bool.and_eq_true, beq_iff_eq, pop6_g s (by omega)]
  refine and_congr Iff.rfl ?_
  rw [List.all_eq_true]
  constructor
  · intro h p hp
    rw [List.mem_range] at hp
    rw [zrr_g hp, Bool.or_eq_true]
    by_cases g : s.testBit p = true
    · exact Or.inr (beq_iff_eq.mpr (h p hp g))
    · refine Or.inl ?_
      rw [Bool.not_eq_true] at g
      rw [g]
      rfl
  · intro h p hp g
    have h2 := h p (List.mem_range.mpr hp)
    rw [zrr_g hp, Bool.or_eq_true, g] at h2
    rcases h2 with h2 | h2
    · cases h2
    · exact beq_iff_eq.mp h2
theorem tkv_1 (hP : P ≤ 6) (hw : what = 1) (hv : v = ((zct (fun s => gcb s = n.toNat ∧ ∀ p, p < P → s.testBit p = true → zrch (gN T) c B p &&& s = zrch (gN T) c B p) (2 ^ P) : Nat) : Int)) : v = tkv (zrr P T c B) what n := by
  unfold tkv
  rw [if_neg (by omega), if_pos hw, hv, tks_v hP]
theorem zpw_s {a k : Int} (h : a = n ^ k.toNat) (k0 : 0 ≤ k) : a * n = n ^ (k + 1).toNat := by
  rw [h, show (k + 1).toNat = k.toNat + 1 by omega, Int.pow_succ]
theorem tk_q0 {p x : Int} (hx : x = ((zrch (gN T) c B p.toNat : Nat) : Int)) (p0 : 0 ≤ p) (p6 : p < 6) : x = zshl 1 p ↔ zrch (gN T) c B p.toNat = 2 ^ p.toNat := by
  have h := tk_sh p.toNat (by omega)
  rw [Int.toNat_of_nonneg p0] at h
  rw [hx, h]
  exact Int.ofNat_inj
theorem tk_q1 {p x : Int} (hx : x = ((zrch (gN T) c B p.toNat : Nat) : Int)) (p0 : 0 ≤ p) (p6 : p < 6) (h64 : zrch (gN T) c B p.toNat < 64) (hb : (zrch (gN T) c B p.toNat).testBit p.toNat = true) : zand x (-x) = zshl 1 p ↔ zrch (gN T) c B p.toNat % 2 ^ p.toNat = 0 := by
  have h := tk_lw _ h64 p.toNat (by omega) hb
  rw [Int.toNat_of_nonneg p0] at h
  rw [hx]
  exact h
theorem tkv_b (hP : P ≤ 6) (hpt : zPt (zrch (gN T) c B) P) (hw : what = 0 ∨ ((what = 1 ∨ what = 2) ∧ 0 ≤ n ∧ n ≤ 6)) : 0 ≤ tkv (zrr P T c B) what n ∧ tkv (zrr P T c B) what n ≤ 46656 := by
  have h1 : tk0 (zrr P T c B) ≤ P := by
    unfold tk0
    refine Nat.le_trans (List.length_filter_le _ _) ?_
    rw [List.length_range, zrr_l]
    exact Nat.le_refl _
  have h2 : tks (zrr P T c B) n.toNat ≤ 64 := by
    rw [← tks_v hP]
    exact Nat.le_trans (zct_b _ _) (Nat.pow_le_pow_right (by decide) hP)
  have h3 : tkp (zrr P T c B) ≤ P := by
    have h := tkp_l (zrr P T c B)
    rwa [zrr_l] at h
  unfold tkv
  by_cases g : what = 0
  · rw [if_pos g]
    omega
  · rw [if_neg g]
    by_cases g1 : what = 1
    · rw [if_pos g1]
      omega
    · rw [if_neg g1]
      exact tkp_6 (by omega) (by omega) _ (by omega)
end TKV
theorem zGc.lt {mv : List Nat} {P : Nat} {T : zGT} {d : Nat} {M : zMem} (h : zGc mv P T d M) (hP : P ≤ 6) {i p : Nat} (hi : i < gN T) (hp : p < P) : gdg (zCo P d M i) p < P := by
  rw [← h.dg hP hi hp]
  exact (h.2.2 i hi).2.2.1 p hp (by omega)
theorem zCo_f {P d : Nat} {M N : zMem} {FA : List (Nat × Nat)} {CA : List Nat} {FR : List (Nat × Nat)} {CR : List Nat} (hf : zFc d FA CA FR CR M N) (hd : 5 < 38 ∧ 5 ∉ CR ∧ ∀ x ∈ FR, x.1 ≠ 5) : zCo P d N = zCo P d M := funext fun i => by
  unfold zCo
  rw [hf.r hd i]
theorem zUp_x {F d : Nat} {M N : zMem} {s j i x : Int} {u : Nat → Int} (h : zUp F d M N s u j) (ji : j < i) (iF : i < F) (s0 : 0 ≤ s) (hx : x = zg N (d + 25) (s * 27 + i).toNat) (i0 : 0 ≤ i) : x = u i.toNat := by
  rw [hx, (h _).2 (by omega) (by omega)]
  congr 1
  omega
theorem zcb_g {x : Int} (h0 : 0 ≤ x) (h1 : x < 2147483648) : zcb x 31 = ((gcb x.toNat : Nat) : Int) := by
  have h := zcb_n (m := x.toNat) (by omega) 31 (Nat.le_refl _)
  rw [Int.toNat_of_nonneg h0] at h
  exact h
theorem tkm_t {r : List Nat} {p : Nat} (h : (tkm r p).1.testBit p = true) : tkm r (p + 1) = tkm r p := if_pos h
theorem tkm_f {r : List Nat} {p : Nat} (h : ¬ (tkm r p).1.testBit p = true) : tkm r (p + 1) = ((tkm r p).1 ||| r.getD p 0, (tkm r p).2 ++ [pop6 (r.getD p 0)]) := if_neg h
theorem tkm_b {r : List Nat} (hr : ∀ p, r.getD p 0 < 64) : ∀ p, (tkm r p).1 < 64 ∧ (tkm r p).2.length ≤ p
  | 0 => ⟨show (0 : Nat) < 64 by decide, Nat.le_refl _⟩
  | p + 1 => by
    have ih := tkm_b hr p
    by_cases h : (tkm r p).1.testBit p = true
    · rw [tkm_t h]
      exact ⟨ih.1, by omega⟩
    · rw [tkm_f h]
      refine ⟨Nat.or_lt_two_pow (n := 6) ih.1 (hr p), ?_⟩
      show ((tkm r p).2 ++ [pop6 (r.getD p 0)]).length ≤ p + 1
      rw [List.length_append]
      show (tkm r p).2.length + 1 ≤ p + 1
      omega
theorem pop6_b (s : Nat) : pop6 s ≤ 6 := by
  unfold pop6
  omega
def zTkZ (z : List Nat) (M : zMem) : Prop := (ze M 81 63 = ((z.length : Nat) : Int) ∧ z.length ≤ 6) ∧ ∀ k : Nat, k < z.length → ze M 112 k = ((z.getD k 0 : Nat) : Int) ∧ z.getD k 0 ≤ 6
def zTkS (r : List Nat) (p : Nat) (met : Int) (M : zMem) : Prop := met = (((tkm r p).1 : Nat) : Int) ∧ zTkZ (tkm r p).2 M
section ZTK
variable {r z : List Nat} {M N N1 : zMem} {met : Int} {S C : List Nat}
theorem zTkZ.fr (hf : zFr S C M N) (h : zTkZ z M) (hs : 63 ∉ S) (hc : 112 ∉ C) : zTkZ z N := by
  refine ⟨by rw [hf.e hs]; exact h.1, fun k hk => ?_⟩
  rw [hf.ie (by decide) hc k]
  exact h.2 k hk
theorem zTkS_0 (h : ze M 81 63 = 0) : zTkS r 0 0 M := ⟨rfl, ⟨h, Nat.zero_le _⟩, fun k hk => absurd hk (Nat.not_lt_zero k)⟩
theorem zTkS_t {p m : Int} (h : zTkS r p.toNat met M) (p0 : 0 ≤ p) (hb : met.toNat.testBit p.toNat = true) (he : ∀ j : Nat, ze N 112 j = ze M 112 j) (h6 : ze N 81 63 = ze M 81 63) (hm : m = met) : zTkS r (p + 1).toNat m N := by
  obtain ⟨h1, h2, h3⟩ := h
  rw [h1, Int.toNat_natCast] at hb
  rw [show (p + 1).toNat = p.toNat + 1 by omega]
  unfold zTkS zTkZ
  rw [tkm_t hb, h6]
  exact ⟨hm.trans h1, h2, fun k hk => by rw [he]; exact h3 k hk⟩
theorem zTkS_f {p v x : Int} (hr : ∀ p, r.getD p 0 < 64) (h : zTkS r p.toNat met M) (p0 : 0 ≤ p) (p6 : p < 6) (hb : ¬ met.toNat.testBit p.toNat = true) (hx : x = ((r.getD p.toNat 0 : Nat) : Int)) (hv : v = ((gcb x.toNat : Nat) : Int)) (hN : N1 = zsI M 112 (ze M 81 63).toNat (Int32.ofInt v)) (he : ∀ j : Nat, ze N 112 j = ze N1 112 j) (h6 : ze N 81 63 = ze M 81 63 + 1) : zTkS r (p + 1).toNat (zor met x) N := by
  obtain ⟨h1, ⟨h2, h2b⟩, h3⟩ := h
  have hr64 := hr p.toNat
  have hb6 := tkm_b hr p.toNat
  rw [h1, Int.toNat_natCast] at hb
  rw [show (p + 1).toNat = p.toNat + 1 by omega]
  have hvp : v = ((pop6 (r.getD p.toNat 0) : Nat) : Int) := by
    rw [hv, hx, Int.toNat_natCast, pop6_g _ hr64]
  have h66 := pop6_b (r.getD p.toNat 0)
  unfold zTkS zTkZ
  rw [tkm_f hb]
  refine ⟨?_, ⟨?_, ?_⟩, fun k hk => ?_⟩
  · show zor met x = (((tkm r p.toNat).1 ||| r.getD p.toNat 0 : Nat) : Int)
    rw [h1, hx]
    exact zor_n _ _ (by omega) (by omega)
  · show ze N 81 63 = ((((tkm r p.toNat).2 ++ [pop6 (r.getD p.toNat 0)]).length : Nat) : Int)
    rw [List.length_append, h6, h2]
    rfl
  · show ((tkm r p.toNat).2 ++ [pop6 (r.getD p.toNat 0)]).length ≤ 6
    rw [List.length_append]
    show (tkm r p.toNat).2.length + 1 ≤ 6
    omega
  · have h2k : k < ((tkm r p.toNat).2 ++ [pop6 (r.getD p.toNat 0)]).length := hk
    rw [List.length_append] at h2k
    have h3k : k < (tkm r p.toNat).2.length + 1 := h2k
    show ze N 112 k = ((((tkm r p.toNat).2 ++ [pop6 (r.getD p.toNat 0)]).getD k 0 : Nat) : Int) ∧ ((tkm r p.toNat).2 ++ [pop6 (r.getD p.toNat 0)]).getD k 0 ≤ 6
    rw [he]
    by_cases e : k < (tkm r p.toNat).2.length
    · rw [List.getD_eq_getElem?_getD, List.getElem?_append_left e, ← List.getD_eq_getElem?_getD, zs_oth hN (by omega)]
      exact h3 k e
    · rw [List.getD_eq_getElem?_getD, List.getElem?_append_right (by omega), show k - (tkm r p.toNat).2.length = 0 by omega, show k = (ze M 81 63).toNat by omega, zs_get hN ⟨by omega, by omega⟩]
      exact ⟨hvp, h66⟩
theorem zTkS_e {p : Int} (h : zTkS r p.toNat met M) (hp : p = ((r.length : Nat) : Int)) : zTkZ (tkz r) M := by
  have h2 := h.2
  rw [hp, Int.toNat_natCast] at h2
  exact h2
def zTkN (z : List Nat) (q : Nat) (M : zMem) : Prop := True ∧ ∀ k : Nat, k < 7 → ze M 113 k = ((tkn z q k : Nat) : Int)
def zTkI (z : List Nat) (q : Nat) (x : Int) (M : zMem) : Prop := ∀ k : Nat, k < 7 → ((k : Int) ≤ x → ze M 113 k = ((tkn z q k : Nat) : Int)) ∧ (x < k → ze M 113 k = ((tkn z (q + 1) k : Nat) : Int))
theorem tkn_b (z : List Nat) : ∀ q k, tkn z q k ≤ 2 ^ q
  | 0, k => by
    show (if k = 0 then 1 else 0) ≤ 1
    by_cases g : k = 0
    · rw [if_pos g]
      exact Nat.le_refl _
    · rw [if_neg g]
      omega
  | q + 1, k => by
    have h1 := tkn_b z q k
    have h2 := tkn_b z q (k - z.getD q 0)
    rw [Nat.pow_succ]
    show (if z.getD q 0 ≤ k then tkn z q k + tkn z q (k - z.getD q 0) else tkn z q k) ≤ 2 ^ q * 2
    by_cases g : z.getD q 0 ≤ k
    · rw [if_pos g]
      omega
    · rw [if_neg g]
      omega
theorem tkn_6 (z : List Nat) {q k : Nat} (hq : q ≤ 6) : tkn z q k ≤ 64 := Nat.le_trans (tkn_b z q k) (Nat.pow_le_pow_right (by decide) hq)
theorem zTkI_0 {q : Nat} (h : zTkN z q M) : zTkI z q 6 M := fun k hk => ⟨fun _ => h.2 k hk, fun hx => absurd hx (by omega)⟩
theorem zTkI_s {q : Nat} {x v y w : Int} (h : zTkI z q x M) (x0 : 0 ≤ x) (x6 : x ≤ 6) (hq : q < 6) (hz : z.getD q 0 ≤ 6) (hs : ((z.getD q 0 : Nat) : Int) ≤ x) (hv : v = ze M 113 x.toNat) (hw : w = ze M 113 (x - ((z.getD q 0 : Nat) : Int)).toNat) (hy : y = v + w) (hN : N = zsI M 113 x.toNat (Int32.ofInt y)) : zTkI z q (x + (-1)) N := fun k hk => by
  have h1 := (h x.toNat (by omega)).1 (by omega)
  have h2 := (h (x - ((z.getD q 0 : Nat) : Int)).toNat (by omega)).1 (by omega)
  have b1 := tkn_6 z (q := q) (k := x.toNat) (by omega)
  have b2 := tkn_6 z (q := q) (k := (x - ((z.getD q 0 : Nat) : Int)).toNat) (by omega)
  by_cases g : (k : Int) = x
  · refine ⟨fun hx => absurd hx (by omega), fun _ => ?_⟩
    rw [show k = x.toNat by omega, zs_get hN ⟨by omega, by omega⟩, hy, hv, hw, h1, h2]
    show _ = (((if z.getD q 0 ≤ x.toNat then tkn z q x.toNat + tkn z q (x.toNat - z.getD q 0) else tkn z q x.toNat) : Nat) : Int)
    rw [if_pos (by omega), show (x - ((z.getD q 0 : Nat) : Int)).toNat = x.toNat - z.getD q 0 by omega]
    rfl
  · rw [zs_oth hN (by omega)]
    exact ⟨fun hx => (h k hk).1 (by omega), fun hx => (h k hk).2 (by omega)⟩
theorem zTkI_e {q : Nat} {x : Int} (h : zTkI z q x M) (hx : x < ((z.getD q 0 : Nat) : Int)) : zTkN z (q + 1) M := ⟨trivial, fun k hk => by
  by_cases g : x < (k : Int)
  · exact (h k hk).2 g
  · rw [(h k hk).1 (by omega)]
    show _ = (((if z.getD q 0 ≤ k then tkn z q k + tkn z q (k - z.getD q 0) else tkn z q k) : Nat) : Int)
    rw [if_neg (by omega)]⟩
theorem zTkN.fr {q : Nat} (hf : zFr S C M N) (h : zTkN z q M) (_ : True) (hc : 113 ∉ C) : zTkN z q N := ⟨trivial, fun k hk => by
  rw [hf.ie (by decide) hc k]
  exact h.2 k hk⟩
def zTkF (z : List Nat) (what n : Int) (q : Nat) (v : Int) : Prop := (what = 0 → v = ((tko z q : Nat) : Int)) ∧ (what = 1 → v = 0) ∧ (what = 2 → v = n ^ q)
theorem tko_b (z : List Nat) : ∀ q, tko z q ≤ q
  | 0 => Nat.le_refl _
  | q + 1 => by
    have h := tko_b z q
    show (if z.getD q 0 = 1 then tko z q + 1 else tko z q) ≤ q + 1
    by_cases g : z.getD q 0 = 1
    · rw [if_pos g]
      omega
    · rw [if_neg g]
      omega
theorem tko_s {z : List Nat} {q : Nat} {v t : Int} (h : v = ((tko z q : Nat) : Int)) (ht : (z.getD q 0 = 1 ∧ t = 1) ∨ (z.getD q 0 ≠ 1 ∧ t = 0)) : v + t = ((tko z (q + 1) : Nat) : Int) := by
  show v + t = (((if z.getD q 0 = 1 then tko z q + 1 else tko z q) : Nat) : Int)
  rcases ht with ⟨g, e⟩ | ⟨g, e⟩
  · rw [if_pos g]
    omega
  · rw [if_neg g]
    omega
theorem zTkN_n {z : List Nat} {q : Nat} {x : Int} {M : zMem} (h : zTkN z (q + 1) M) (hx : x = ((q + 1 : Nat) : Int)) : zTkN z x.toNat M := by
  rw [show x.toNat = q + 1 by omega]
  exact h
theorem zTkF_a {z : List Nat} {what n v w q x t : Int} (h : zTkF z what n q.toNat v) (q0 : 0 ≤ q) (hw : what = 0) (hx : x = ((z.getD q.toNat 0 : Nat) : Int)) (ht : (x = 1 ∧ t = 1) ∨ (x ≠ 1 ∧ t = 0)) (hv : w = v + t) : zTkF z what n (q + 1).toNat w := by
  rw [show (q + 1).toNat = q.toNat + 1 by omega]
  refine ⟨fun g => ?_, fun g => by omega, fun g => by omega⟩
  rw [hv]
  exact tko_s (h.1 g) (by omega)
theorem zTkF_b {z : List Nat} {what n v w q : Int} (h : zTkF z what n q.toNat v) (q0 : 0 ≤ q) (hw : what = 2) (hv : w = v * n) : zTkF z what n (q + 1).toNat w := by
  rw [show (q + 1).toNat = q.toNat + 1 by omega]
  refine ⟨fun g => by omega, fun g => by omega, fun g => ?_⟩
  rw [hv, h.2.2 g, Int.pow_succ]
theorem zTkF_c {z : List Nat} {what n v q : Int} (h : zTkF z what n q.toNat v) (hw : what = 1) : zTkF z what n (q + 1).toNat v := ⟨fun g => by omega, h.2.1, fun g => by omega⟩
theorem zTkF_r {z : List Nat} {what n v : Int} {q : Nat} (h : zTkF z what n q v) (hq : q ≤ 6) (hw : what = 0 ∨ ((what = 1 ∨ what = 2) ∧ 0 ≤ n ∧ n ≤ 6)) : 0 ≤ v ∧ v ≤ 46656 := by
  rcases hw with g | ⟨g | g, g2, g3⟩
  · have h1 := h.1 g
    have h2 := tko_b z q
    omega
  · have h1 := h.2.1 g
    omega
  · rw [h.2.2 g]
    exact tkp_6 g2 g3 q hq
theorem tkv_r {P : Nat} {T : zGT} {c : Nat → Nat} {B : Nat} {what n v : Int} (hP : P ≤ 6) (hpt : zPt (zrch (gN T) c B) P) (hw : what = 0 ∨ ((what = 1 ∨ what = 2) ∧ 0 ≤ n ∧ n ≤ 6)) (h0 : what = 0 → v = ((tkone (tkz (zrr P T c B)) : Nat) : Int)) (h1 : what = 1 → v = ((tkn (tkz (zrr P T c B)) (tkz (zrr P T c B)).length n.toNat : Nat) : Int)) (h2 : what = 2 → v = n ^ (tkz (zrr P T c B)).length) : v = tkv (zrr P T c B) what n := by
  obtain ⟨a0, a1, a2⟩ := tkchk_s hP (zPt_m hP hpt)
  have a0' : tk0 (zrr P T c B) = tkone (tkz (zrr P T c B)) := a0
  have a1' : tkp (zrr P T c B) = (tkz (zrr P T c B)).length := a1
  have a2' : ∀ k, k ≤ 6 → tks (zrr P T c B) k = tkn (tkz (zrr P T c B)) (tkz (zrr P T c B)).length k := a2
  unfold tkv
  rcases hw with g | ⟨g | g, g2, g3⟩
  · rw [if_pos g, h0 g, a0']
  · rw [if_neg (by omega), if_pos g, h1 g, a2' _ (by omega)]
  · rw [if_neg (by omega), if_neg (by omega), h2 g, a1']
theorem zrr_b {P : Nat} {T : zGT} {c : Nat → Nat} {B : Nat} (hP : P ≤ 6) (hpt : zPt (zrch (gN T) c B) P) : ∀ p, (zrr P T c B).getD p 0 < 64 := fun p => by
  by_cases g : p < P
  · rw [zrr_g g]
    exact Nat.lt_of_lt_of_le (hpt.1 p g).1 (Nat.pow_le_pow_right (by decide) hP)
  · rw [List.getD_eq_getElem?_getD, List.getElem?_eq_none (by rw [zrr_l]; omega)]
    decide
end ZTK
theorem gTb_lt {mv : List Nat} {T : zGT} {c : Nat → Nat} {P : Nat} (hT : gTb mv c T) (hp : ∀ g ∈ mv, gpm g) (hf : ∀ g ∈ mv, gfix P g) (hP : P ≤ 6) : ∀ m, m < gN T → ∀ p, p < P → gdg (c m) p < P := fun m hm p hpP =>
  gfix_lt ((gTb_0 hT hp).1 m hm) (gGen.fix hf ((hT.2.1 (c m)).mpr ⟨m, hm, rfl⟩)) hpP (by omega)
theorem zMvF_x {M : zMem} (hI : zIF M) {P : Nat} (hP : ze M 81 16 = (P : Int)) : ∀ g ∈ zMvF M, gfix P g := fun g hg => by
  obtain ⟨⟨⟨p1, p6⟩, m0, m4⟩, h84, -⟩ := hI
  unfold zMvF at hg
  obtain ⟨k, hk, rfl⟩ := List.mem_map.mp hg
  rw [List.mem_range] at hk
  intro p h1 h2
  rw [zrc_d (fun q hq => by
    have := h84.g (e := ((6 * k + q : Nat) : Int)) (by omega) (by omega)
    rw [Int.toNat_natCast] at this
    omega) p h2]
  unfold zrd
  rw [if_neg (by omega)]
def zUw (q F : Nat) (N : zMem) (u : Nat → Int) (j : Int) : Prop := ∀ x : Nat, j < x → (x : Int) < F → zg N q x = u x
theorem zUw_0 {q F : Nat} {N : zMem} {u : Nat → Int} {j : Int} (hj : (F : Int) - 1 ≤ j) : zUw q F N u j := fun x h1 h2 => absurd h2 (by omega)
theorem zUw_s {q F : Nat} {N P : zMem} {u : Nat → Int} {j v : Int} (h : zUw q F N u j) (hP : P = zsJ N q j.toNat (Int64.ofInt v)) (hv2 : zn64 v) (j0 : 0 ≤ j) (hv : v = u j.toNat) : zUw q F P u (j - 1) := fun x g1 g2 => by
  by_cases g : (x : Int) = j
  · rw [show x = j.toNat by omega, zs_getJ hP hv2, hv]
  · rw [zs_othJ hP (by omega)]
    exact h x (by omega) g2
set_option maxHeartbeats 4000000 in
theorem u_Sums_solveS (l : Launch) (d_ : Nat) (Mz : zMem) (hW : zKW d_ Mz) (a0_ : Int) (ha0_a : -2147483648 ≤ a0_) (ha0_b : a0_ < 2147483648) (F_ : Nat) (K_ : Nat → Nat → Int) (hA_ : zTA F_ K_) (p0_ : zKm F_ K_ d_ Mz) (p1_ : 0 ≤ a0_) (p2_ : a0_ ≤ 39) (p3_ : (∀ j : Nat, j < F_ → -1000000 ≤ zg Mz (d_ + 27) j ∧ zg Mz (d_ + 27) j ≤ 1000000)) : zC l m_Sums_solve 0 0 [.ref (d_ + 23), .int (Int32.ofInt a0_)] Mz (zqcV d_ [] [] [] [25] Mz (fun N => zSh F_ d_ Mz N a0_ (zsq F_ K_ (fun j_ => zg Mz (d_ + 27) j_)))) := by
  refine zC_of (L0 := [some (.ref (d_ + 23)), some (.int (Int32.ofInt a0_)), none, none, none, none]) md_Sums_solve (Nat.le_of_ble_eq_true rfl) rfl ?_ zQ0
  have hf : zFc d_ [] [] [] [25] Mz Mz := zFc.rf
  have r_D12_7 := ze_r Mz (d_ + 12) 7
  obtain ⟨⟨hF1_, hF27_⟩, hAr_⟩ := id hA_
  obtain ⟨hFc_, hKt_⟩ := id p0_
  refine zw_aload_n (pc := 0) (n := 0) (x := (d_ + 23)) rfl (zdal_p dlA_Sums_solve_140 (i := 0) rfl) ?_
  refine zw_getF (pc := 1) f_Sums_23 rfl ((hf.w hW).kr (o := 23) (by decide)) ((hf.w hW).lr (o := 23) (s := 0) (r := 12) (by decide)) (zdal_p dlA_Sums_solve_140 (i := 1) rfl) ?_
  refine zk_getI (pc := 4) f_Sums_35 rfl ((hf.w hW).kr (o := 12) (by decide)) (zdal_p dlA_Sums_solve_140 (i := 2) rfl) ?_
  refine zw_iconst (pc := 7) (v := Int32.ofInt 1) (by decide) (zdal_p dlA_Sums_solve_140 (i := 3) rfl) ?_
  refine zr_isub (pc := 8) (zdal_p dlA_Sums_solve_140 (i := 4) rfl) ?_
  refine zw_istore_n (pc := 9) (i := 2) (L2 := [some (.ref (d_ + 23)), some (.int (Int32.ofInt a0_)), some (.int (Int32.ofInt ((ze Mz (d_ + 12) 7) - 1))), none, none, none]) rfl (by decide) rfl (zdal_p dlA_Sums_solve_140 (i := 5) rfl) ?_
  have lp_10 : ∀ (n : Nat) (u1_ : Int) (hu1_a : -2147483648 ≤ u1_) (hu1_b : u1_ < 2147483648) (N2_ : zMem) (hs3_ : zFc d_ [] [] [] [25] Mz N2_) (i4_ : u1_ < F_) (i5_ : -1 ≤ u1_) (i6_ : zUp F_ d_ Mz N2_ a0_ (zsq F_ K_ (fun j_ => zg Mz (d_ + 27) j_)) u1_), (u1_ + 1).toNat < n → zW l m_Sums_solve (zn Mz + 0, zw Mz + 0) N2_ 10 [some (.ref (d_ + 23)), some (.int (Int32.ofInt a0_)), some (.int (Int32.ofInt u1_)), none, none, none] [] (zqcV d_ [] [] [] [25] Mz (fun N => zSh F_ d_ Mz N a0_ (zsq F_ K_ (fun j_ => zg Mz (d_ + 27) j_)))) := by
    intro n
    induction n with
    | zero =>
      intro u1_ hu1_a hu1_b N2_ hs3_ i4_ i5_ i6_ h0
      exact absurd h0 (Nat.not_lt_zero _)
    | succ n ih_10 =>
      intro u1_ hu1_a hu1_b N2_ hs3_ i4_ i5_ i6_ hlt_10
      have hf_N2_ : zFc d_ [] [] [] [25] Mz N2_ := hf.tr hs3_ (by decide) (by decide) (by decide) (by decide)
      have eD12_7_N2_ : ze N2_ (d_ + 12) 7 = ze Mz (d_ + 12) 7 := hs3_.e (by decide)
      have c7_ : zKm F_ K_ d_ N2_ := zKm.fr (hf.w hW) hs3_ p0_ (by decide)
      refine zw_iload_n (pc := 10) (n := 2) (x := Int32.ofInt u1_) rfl (zdal_p dlA_Sums_solve_140 (i := 6) rfl) ?_
      refine zr_if_lt (pc := 11) (tgt := 133) ⟨hu1_a, hu1_b⟩ (by decide) (zdal_p dlA_Sums_solve_140 (i := 7) rfl) (fun hc_11 => ?_) (fun hc_11 => ?_)
      · skip
        exact zk_vret (pc := 133) rfl hf_N2_ (show zSh F_ d_ Mz N2_ a0_ (zsq F_ K_ (fun j_ => zg Mz (d_ + 27) j_)) by exact zUp_e (show zUp F_ d_ Mz N2_ a0_ (zsq F_ K_ (fun j_ => zg Mz (d_ + 27) j_)) u1_ by first | with_reducible assumption | assumption) (by omega)) (zdal_p dlA_Sums_solve_143 (i := 2) rfl)
      · skip
        refine zw_aload_n (pc := 14) (n := 0) (x := (d_ + 23)) rfl (zdal_p dlA_Sums_solve_140 (i := 8) rfl) ?_
        refine zw_getF (pc := 15) f_Sums_20 rfl ((hf_N2_.w hW).kr (o := 23) (by decide)) ((hf_N2_.w hW).lr (o := 23) (s := 2) (r := 26) (by decide)) (zdal_p dlA_Sums_solve_140 (i := 9) rfl) ?_
        refine zw_iload_n (pc := 18) (n := 2) (x := Int32.ofInt u1_) rfl (zdal_p dlA_Sums_solve_140 (i := 10) rfl) ?_
        refine zk_atJ hf_N2_.x (pc := 19) l_Sums_27 ((hf_N2_.w hW).kr (o := 26) (by decide)) ((hf_N2_.w hW).lr (o := 26) (s := 0) (r := 27) (by decide)) ((hf_N2_.w hW).rr (o := 27) (t := 2) (n := 27) (by decide)) (by decide) (by omega) (by omega) (by decide) (Nat.le_of_ble_eq_true rfl) (zdal_p dlA_Sums_solve_140 (i := 11) rfl) (fun v8_ hv8_ hv8_a hv8_b => ?_)
        rw [hf_N2_.rg (by decide)] at hv8_
        refine zw_lstore_n (pc := 22) (i := 3) (L2 := [some (.ref (d_ + 23)), some (.int (Int32.ofInt a0_)), some (.int (Int32.ofInt u1_)), some (.long (Int64.ofInt v8_)), none, none]) rfl (by decide) rfl (zdal_p dlA_Sums_solve_140 (i := 12) rfl) ?_
        refine zw_iload_n (pc := 23) (n := 2) (x := Int32.ofInt u1_) rfl (zdal_p dlA_Sums_solve_140 (i := 13) rfl) ?_
        refine zw_iconst (pc := 24) (v := Int32.ofInt 1) (by decide) (zdal_p dlA_Sums_solve_140 (i := 14) rfl) ?_
        refine zr_iadd (pc := 25) (zdal_p dlA_Sums_solve_140 (i := 15) rfl) ?_
        refine zw_istore (pc := 26) (i := 5) (L2 := [some (.ref (d_ + 23)), some (.int (Int32.ofInt a0_)), some (.int (Int32.ofInt u1_)), some (.long (Int64.ofInt v8_)), none, some (.int (Int32.ofInt (u1_ + 1)))]) (by decide) rfl (zdal_p dlA_Sums_solve_140 (i := 16) rfl) ?_
        have hup_ := (show zUp F_ d_ Mz N2_ a0_ (zsq F_ K_ (fun j_ => zg Mz (d_ + 27) j_)) u1_ by first | with_reducible assumption | assumption)
        have lp_28 : ∀ (n : Nat) (u9_ : Int) (hu9_a : -9223372036854775808 ≤ u9_) (hu9_b : u9_ < 9223372036854775808) (u10_ : Int) (hu10_a : -2147483648 ≤ u10_) (hu10_b : u10_ < 2147483648) (i11_ : u1_ < u10_) (i12_ : u10_ ≤ F_) (i13_ : zrX F_ K_ (fun j_ => zg Mz (d_ + 27) j_) u9_ u1_ u10_), (F_ - u10_).toNat < n → zW l m_Sums_solve (zn Mz + 0, zw Mz + 0) N2_ 28 [some (.ref (d_ + 23)), some (.int (Int32.ofInt a0_)), some (.int (Int32.ofInt u1_)), some (.long (Int64.ofInt u9_)), none, some (.int (Int32.ofInt u10_))] [] (zqcV d_ [] [] [] [25] Mz (fun N => zSh F_ d_ Mz N a0_ (zsq F_ K_ (fun j_ => zg Mz (d_ + 27) j_)))) := by
          intro n
          induction n with
          | zero =>
            intro u9_ hu9_a hu9_b u10_ hu10_a hu10_b i11_ i12_ i13_ h0
            exact absurd h0 (Nat.not_lt_zero _)
          | succ n ih_28 =>
            intro u9_ hu9_a hu9_b u10_ hu10_a hu10_b i11_ i12_ i13_ hlt_28
            refine zw_iload (pc := 28) (i := 5) (x := Int32.ofInt u10_) rfl (zdal_p dlA_Sums_solve_140 (i := 17) rfl) ?_
            refine zw_aload_n (pc := 30) (n := 0) (x := (d_ + 23)) rfl (zdal_p dlA_Sums_solve_140 (i := 18) rfl) ?_
            refine zw_getF (pc := 31) f_Sums_23 rfl ((hf_N2_.w hW).kr (o := 23) (by decide)) ((hf_N2_.w hW).lr (o := 23) (s := 0) (r := 12) (by decide)) (zdal_p dlA_Sums_solve_140 (i := 19) rfl) ?_
            refine zk_getI (pc := 34) f_Sums_35 rfl ((hf_N2_.w hW).kr (o := 12) (by decide)) (zdal_p dlA_Sums_solve_140 (i := 20) rfl) ?_
            rw [hf_N2_.e (by decide)]
            refine zr_icmp_ge (pc := 37) (tgt := 82) ⟨hu10_a, hu10_b⟩ ⟨(ze_r Mz (d_ + 12) 7).1, (ze_r Mz (d_ + 12) 7).2⟩ (by decide) (zdal_p dlA_Sums_solve_140 (i := 21) rfl) (fun hc_37 => ?_) (fun hc_37 => ?_)
            · skip
              refine zw_aload_n (pc := 82) (n := 0) (x := (d_ + 23)) rfl (zdal_p dlA_Sums_solve_141 (i := 22) rfl) ?_
              refine zw_getF (pc := 83) f_Sums_23 rfl ((hf_N2_.w hW).kr (o := 23) (by decide)) ((hf_N2_.w hW).lr (o := 23) (s := 0) (r := 12) (by decide)) (zdal_p dlA_Sums_solve_141 (i := 23) rfl) ?_
              refine zw_getF (pc := 86) f_Sums_41 rfl ((hf_N2_.w hW).kr (o := 12) (by decide)) ((hf_N2_.w hW).lr (o := 12) (s := 5) (r := 21) (by decide)) (zdal_p dlA_Sums_solve_142 (i := 0) rfl) ?_
              refine zw_iload_n (pc := 89) (n := 2) (x := Int32.ofInt u1_) rfl (zdal_p dlA_Sums_solve_142 (i := 1) rfl) ?_
              refine zw_bipush (pc := 90) (v := Int32.ofInt 27) (by decide) (zdal_p dlA_Sums_solve_142 (i := 2) rfl) ?_
              refine zr_imul (pc := 92) (zdal_p dlA_Sums_solve_142 (i := 3) rfl) ?_
              refine zw_iload_n (pc := 93) (n := 2) (x := Int32.ofInt u1_) rfl (zdal_p dlA_Sums_solve_142 (i := 4) rfl) ?_
              refine zr_iadd (pc := 94) (zdal_p dlA_Sums_solve_142 (i := 5) rfl) ?_
              refine zk_at hf_N2_.x (pc := 95) l_Sums_45 ((hf_N2_.w hW).kr (o := 21) (by decide)) ((hf_N2_.w hW).lr (o := 21) (s := 0) (r := 22) (by decide)) ((hf_N2_.w hW).rr (o := 22) (t := 1) (n := 729) (by decide)) (by decide) (by omega) (by omega) (by decide) (Nat.le_of_ble_eq_true rfl) (zdal_p dlA_Sums_solve_142 (i := 6) rfl) (fun v14_ hv14_ hv14_a hv14_b => ?_)
              rw [hf_N2_.r (by decide)] at hv14_
              have hm_ := p0_.k (by omega) (by omega) (by omega) (by omega) hv14_
              have hm1_ := hAr_.2.2.1 (u1_).toNat (by omega)
              have hL5_ : u10_ = (F_ : Int) := by omega
              have hin_ := (show zrX F_ K_ (fun j_ => zg Mz (d_ + 27) j_) u9_ u1_ u10_ by first | with_reducible assumption | assumption)
              refine zw_istore (pc := 98) (i := 5) (L2 := [some (.ref (d_ + 23)), some (.int (Int32.ofInt a0_)), some (.int (Int32.ofInt u1_)), some (.long (Int64.ofInt u9_)), none, some (.int (Int32.ofInt v14_))]) (by decide) rfl (zdal_p dlA_Sums_solve_142 (i := 7) rfl) ?_
              refine zw_aload_n (pc := 100) (n := 0) (x := (d_ + 23)) rfl (zdal_p dlA_Sums_solve_142 (i := 8) rfl) ?_
              refine zw_getF (pc := 101) f_Sums_16 rfl ((hf_N2_.w hW).kr (o := 23) (by decide)) ((hf_N2_.w hW).lr (o := 23) (s := 1) (r := 24) (by decide)) (zdal_p dlA_Sums_solve_142 (i := 9) rfl) ?_
              refine zw_iload_n (pc := 104) (n := 1) (x := Int32.ofInt a0_) rfl (zdal_p dlA_Sums_solve_142 (i := 10) rfl) ?_
              refine zw_bipush (pc := 105) (v := Int32.ofInt 27) (by decide) (zdal_p dlA_Sums_solve_142 (i := 11) rfl) ?_
              refine zr_imul (pc := 107) (zdal_p dlA_Sums_solve_142 (i := 12) rfl) ?_
              refine zw_iload_n (pc := 108) (n := 2) (x := Int32.ofInt u1_) rfl (zdal_p dlA_Sums_solve_142 (i := 13) rfl) ?_
              refine zr_iadd (pc := 109) (zdal_p dlA_Sums_solve_142 (i := 14) rfl) ?_
              refine zw_iload (pc := 110) (i := 5) (x := Int32.ofInt v14_) rfl (zdal_p dlA_Sums_solve_142 (i := 15) rfl) ?_
              refine zr_if_eq (pc := 112) (tgt := 123) ⟨hv14_a, hv14_b⟩ (by decide) (zdal_p dlA_Sums_solve_142 (i := 16) rfl) (fun hc_112 => ?_) (fun hc_112 => ?_)
              · skip
                refine zw_lconst (pc := 123) (v := Int64.ofInt 0) (by decide) (zdal_p dlA_Sums_solve_142 (i := 22) rfl) ?_
                refine zk_stJ hf_N2_.x (pc := 124) (o := 25) (by decide) l_Sums_31 ((hf_N2_.w hW).kr (o := 24) (by decide)) ((hf_N2_.w hW).lr (o := 24) (s := 0) (r := 25) (by decide)) ((hf_N2_.w hW).rr (o := 25) (t := 2) (n := 1080) (by decide)) (by decide) (by omega) (by omega) (by decide) (Nat.le_of_ble_eq_true rfl) (zdal_p dlA_Sums_solve_142 (i := 23) rfl) (fun N15_ hN15_ hsN15_ => ?_)
                have hf_N15_ : zFc d_ [] [] [] [25] Mz N15_ := hf_N2_.tr hsN15_ (by decide) (by decide) (by decide) (by decide)
                have hb0_N15_ : zFc d_ [] [] [] [25] Mz N15_ := hs3_.tr hsN15_ (by decide) (by decide) (by decide) (by decide)
                have eD12_7_N15_ : ze N15_ (d_ + 12) 7 = ze N2_ (d_ + 12) 7 := hsN15_.e (by decide)
                have c16_ : zKm F_ K_ d_ N15_ := zKm.fr (hf_N2_.w hW) hsN15_ c7_ (by decide)
                have h1_ := zS1_i hN15_ ⟨by omega, by omega⟩ (by omega)
                have hu1_ := zUp_s hup_ h1_ rfl (by omega) (by omega) (by first | (exfalso; omega) | (rw [← hq_]; exact hqu_))
                refine zr_iinc (pc := 127) (i := 2) (a := u1_) (n := -1) (L2 := [some (.ref (d_ + 23)), some (.int (Int32.ofInt a0_)), some (.int (Int32.ofInt (u1_ + (-1)))), some (.long (Int64.ofInt u9_)), none, some (.int (Int32.ofInt v14_))]) rfl (by decide) rfl (zdal_p dlA_Sums_solve_143 (i := 0) rfl) ?_
                refine zw_goto (pc := 130) (tgt := 10) (by decide) (zdal_p dlA_Sums_solve_143 (i := 1) rfl) ?_
                refine zW_le [some (.ref (d_ + 23)), some (.int (Int32.ofInt a0_)), some (.int (Int32.ofInt (u1_ + (-1)))), none, none, none] (⟨rfl, rfl, rfl, trivial⟩) ?_
                exact ih_10 (u1_ + (-1)) (by omega) (by omega) N15_ hb0_N15_ (show (u1_ + (-1)) < F_ by first | with_reducible assumption | assumption | omega) (show -1 ≤ (u1_ + (-1)) by first | with_reducible assumption | assumption | omega) (show zUp F_ d_ Mz N15_ a0_ (zsq F_ K_ (fun j_ => zg Mz (d_ + 27) j_)) (u1_ + (-1)) by exact hu1_) (by omega)
              · skip
                refine zw_lload_n (pc := 115) (n := 3) (x := Int64.ofInt u9_) rfl (zdal_p dlA_Sums_solve_142 (i := 17) rfl) ?_
                refine zw_iload (pc := 116) (i := 5) (x := Int32.ofInt v14_) rfl (zdal_p dlA_Sums_solve_142 (i := 18) rfl) ?_
                refine zr_i2l (pc := 118) ⟨hv14_a, hv14_b⟩ (zdal_p dlA_Sums_solve_142 (i := 19) rfl) ?_
                refine zr_ldiv (pc := 119) ⟨by omega, by omega⟩ (by omega) (zdal_p dlA_Sums_solve_142 (i := 20) rfl) ?_
                have hr17_ := zlquo_r u9_ v14_
                obtain ⟨q_, hq_⟩ : ∃ q, q = (zlquo u9_ v14_) := ⟨_, rfl⟩
                have hqu_ := zrX_e hA_ p3_ hin_ hL5_ ⟨by omega, by omega⟩ (by omega) (by omega) hm_ hq_
                refine zw_goto (pc := 120) (tgt := 124) (by decide) (zdal_p dlA_Sums_solve_142 (i := 21) rfl) ?_
                refine zk_stJ hf_N2_.x (pc := 124) (o := 25) (by decide) l_Sums_31 ((hf_N2_.w hW).kr (o := 24) (by decide)) ((hf_N2_.w hW).lr (o := 24) (s := 0) (r := 25) (by decide)) ((hf_N2_.w hW).rr (o := 25) (t := 2) (n := 1080) (by decide)) (by decide) (by omega) (by omega) (by decide) (Nat.le_of_ble_eq_true rfl) (zdal_p dlA_Sums_solve_142 (i := 23) rfl) (fun N18_ hN18_ hsN18_ => ?_)
                have hf_N18_ : zFc d_ [] [] [] [25] Mz N18_ := hf_N2_.tr hsN18_ (by decide) (by decide) (by decide) (by decide)
                have hb0_N18_ : zFc d_ [] [] [] [25] Mz N18_ := hs3_.tr hsN18_ (by decide) (by decide) (by decide) (by decide)
                have eD12_7_N18_ : ze N18_ (d_ + 12) 7 = ze N2_ (d_ + 12) 7 := hsN18_.e (by decide)
                have c19_ : zKm F_ K_ d_ N18_ := zKm.fr (hf_N2_.w hW) hsN18_ c7_ (by decide)
                have h1_ := zS1_i hN18_ ⟨by omega, by omega⟩ (by omega)
                have hu1_ := zUp_s hup_ h1_ rfl (by omega) (by omega) (by first | (exfalso; omega) | (rw [← hq_]; exact hqu_))
                refine zr_iinc (pc := 127) (i := 2) (a := u1_) (n := -1) (L2 := [some (.ref (d_ + 23)), some (.int (Int32.ofInt a0_)), some (.int (Int32.ofInt (u1_ + (-1)))), some (.long (Int64.ofInt u9_)), none, some (.int (Int32.ofInt v14_))]) rfl (by decide) rfl (zdal_p dlA_Sums_solve_143 (i := 0) rfl) ?_
                refine zw_goto (pc := 130) (tgt := 10) (by decide) (zdal_p dlA_Sums_solve_143 (i := 1) rfl) ?_
                refine zW_le [some (.ref (d_ + 23)), some (.int (Int32.ofInt a0_)), some (.int (Int32.ofInt (u1_ + (-1)))), none, none, none] (⟨rfl, rfl, rfl, trivial⟩) ?_
                exact ih_10 (u1_ + (-1)) (by omega) (by omega) N18_ hb0_N18_ (show (u1_ + (-1)) < F_ by first | with_reducible assumption | assumption | omega) (show -1 ≤ (u1_ + (-1)) by first | with_reducible assumption | assumption | omega) (show zUp F_ d_ Mz N18_ a0_ (zsq F_ K_ (fun j_ => zg Mz (d_ + 27) j_)) (u1_ + (-1)) by exact hu1_) (by omega)
            · skip
              refine zw_lload_n (pc := 40) (n := 3) (x := Int64.ofInt u9_) rfl (zdal_p dlA_Sums_solve_140 (i := 22) rfl) ?_
              refine zw_aload_n (pc := 41) (n := 0) (x := (d_ + 23)) rfl (zdal_p dlA_Sums_solve_140 (i := 23) rfl) ?_
              refine zw_getF (pc := 42) f_Sums_16 rfl ((hf_N2_.w hW).kr (o := 23) (by decide)) ((hf_N2_.w hW).lr (o := 23) (s := 1) (r := 24) (by decide)) (zdal_p dlA_Sums_solve_141 (i := 0) rfl) ?_
              refine zw_iload_n (pc := 45) (n := 1) (x := Int32.ofInt a0_) rfl (zdal_p dlA_Sums_solve_141 (i := 1) rfl) ?_
              refine zw_bipush (pc := 46) (v := Int32.ofInt 27) (by decide) (zdal_p dlA_Sums_solve_141 (i := 2) rfl) ?_
              refine zr_imul (pc := 48) (zdal_p dlA_Sums_solve_141 (i := 3) rfl) ?_
              refine zw_iload (pc := 49) (i := 5) (x := Int32.ofInt u10_) rfl (zdal_p dlA_Sums_solve_141 (i := 4) rfl) ?_
              refine zr_iadd (pc := 51) (zdal_p dlA_Sums_solve_141 (i := 5) rfl) ?_
              refine zk_atJ hf_N2_.x (pc := 52) l_Sums_27 ((hf_N2_.w hW).kr (o := 24) (by decide)) ((hf_N2_.w hW).lr (o := 24) (s := 0) (r := 25) (by decide)) ((hf_N2_.w hW).rr (o := 25) (t := 2) (n := 1080) (by decide)) (by decide) (by omega) (by omega) (by decide) (Nat.le_of_ble_eq_true rfl) (zdal_p dlA_Sums_solve_141 (i := 6) rfl) (fun v20_ hv20_ hv20_a hv20_b => ?_)
              have hx_ := zUp_x hup_ (by omega) (by omega) (by omega) hv20_ (by omega)
              refine zw_aload_n (pc := 55) (n := 0) (x := (d_ + 23)) rfl (zdal_p dlA_Sums_solve_141 (i := 7) rfl) ?_
              refine zw_getF (pc := 56) f_Sums_23 rfl ((hf_N2_.w hW).kr (o := 23) (by decide)) ((hf_N2_.w hW).lr (o := 23) (s := 0) (r := 12) (by decide)) (zdal_p dlA_Sums_solve_141 (i := 8) rfl) ?_
              refine zw_getF (pc := 59) f_Sums_41 rfl ((hf_N2_.w hW).kr (o := 12) (by decide)) ((hf_N2_.w hW).lr (o := 12) (s := 5) (r := 21) (by decide)) (zdal_p dlA_Sums_solve_141 (i := 9) rfl) ?_
              refine zw_iload (pc := 62) (i := 5) (x := Int32.ofInt u10_) rfl (zdal_p dlA_Sums_solve_141 (i := 10) rfl) ?_
              refine zw_bipush (pc := 64) (v := Int32.ofInt 27) (by decide) (zdal_p dlA_Sums_solve_141 (i := 11) rfl) ?_
              refine zr_imul (pc := 66) (zdal_p dlA_Sums_solve_141 (i := 12) rfl) ?_
              refine zw_iload_n (pc := 67) (n := 2) (x := Int32.ofInt u1_) rfl (zdal_p dlA_Sums_solve_141 (i := 13) rfl) ?_
              refine zr_iadd (pc := 68) (zdal_p dlA_Sums_solve_141 (i := 14) rfl) ?_
              refine zk_at hf_N2_.x (pc := 69) l_Sums_45 ((hf_N2_.w hW).kr (o := 21) (by decide)) ((hf_N2_.w hW).lr (o := 21) (s := 0) (r := 22) (by decide)) ((hf_N2_.w hW).rr (o := 22) (t := 1) (n := 729) (by decide)) (by decide) (by omega) (by omega) (by decide) (Nat.le_of_ble_eq_true rfl) (zdal_p dlA_Sums_solve_141 (i := 15) rfl) (fun v21_ hv21_ hv21_a hv21_b => ?_)
              rw [hf_N2_.r (by decide)] at hv21_
              have hy_ := p0_.k (by omega) (by omega) (by omega) (by omega) hv21_
              refine zr_i2l (pc := 72) ⟨hv21_a, hv21_b⟩ (zdal_p dlA_Sums_solve_141 (i := 16) rfl) ?_
              refine zr_lmul (pc := 73) (zdal_p dlA_Sums_solve_141 (i := 17) rfl) ?_
              refine zr_lsub (pc := 74) (zdal_p dlA_Sums_solve_141 (i := 18) rfl) ?_
              refine zk_nmJ (fun v22_ hv22_ hv22_e => ?_)
              obtain ⟨hv22_a, hv22_b⟩ := hv22_
              have hz_ := zrX_s (show zrX F_ K_ (fun j_ => zg Mz (d_ + 27) j_) u9_ u1_ u10_ by first | with_reducible assumption | assumption) hv22_e (by omega) (by omega) (by omega) hx_ hy_
              refine zw_lstore_n (pc := 75) (i := 3) (L2 := [some (.ref (d_ + 23)), some (.int (Int32.ofInt a0_)), some (.int (Int32.ofInt u1_)), some (.long (Int64.ofInt v22_)), none, some (.int (Int32.ofInt u10_))]) rfl (by decide) rfl (zdal_p dlA_Sums_solve_141 (i := 19) rfl) ?_
              refine zr_iinc (pc := 76) (i := 5) (a := u10_) (n := 1) (L2 := [some (.ref (d_ + 23)), some (.int (Int32.ofInt a0_)), some (.int (Int32.ofInt u1_)), some (.long (Int64.ofInt v22_)), none, some (.int (Int32.ofInt (u10_ + 1)))]) rfl (by decide) rfl (zdal_p dlA_Sums_solve_141 (i := 20) rfl) ?_
              refine zw_goto (pc := 79) (tgt := 28) (by decide) (zdal_p dlA_Sums_solve_141 (i := 21) rfl) ?_
              exact ih_28 v22_ hv22_a hv22_b (u10_ + 1) (by omega) (by omega) (show u1_ < (u10_ + 1) by first | with_reducible assumption | assumption | omega) (show (u10_ + 1) ≤ F_ by first | with_reducible assumption | assumption | omega) (show zrX F_ K_ (fun j_ => zg Mz (d_ + 27) j_) v22_ u1_ (u10_ + 1) by exact hz_) (by omega)
        exact lp_28 _ v8_ hv8_a hv8_b (u1_ + 1) (by omega) (by omega) (show u1_ < (u1_ + 1) by first | with_reducible assumption | assumption | omega) (show (u1_ + 1) ≤ F_ by first | with_reducible assumption | assumption | omega) (show zrX F_ K_ (fun j_ => zg Mz (d_ + 27) j_) v8_ u1_ (u1_ + 1) by exact zrX_0 (by first | with_reducible assumption | assumption)) (Nat.lt_succ_self _)
  exact lp_10 _ ((ze Mz (d_ + 12) 7) - 1) (by omega) (by omega) Mz zFc.rf (show ((ze Mz (d_ + 12) 7) - 1) < F_ by first | with_reducible assumption | assumption | omega) (show -1 ≤ ((ze Mz (d_ + 12) 7) - 1) by first | with_reducible assumption | assumption | omega) (show zUp F_ d_ Mz Mz a0_ (zsq F_ K_ (fun j_ => zg Mz (d_ + 27) j_)) ((ze Mz (d_ + 12) 7) - 1) by exact zUp_0 (by omega)) (Nat.lt_succ_self _)
set_option maxHeartbeats 4000000 in
theorem u_Group_isSetKeptS (l : Launch) (d_ : Nat) (Mz : zMem) (hW : zKW d_ Mz) (a0_ : Int) (ha0_a : -2147483648 ≤ a0_) (ha0_b : a0_ < 2147483648) (a1_ : Int) (ha1_a : -2147483648 ≤ a1_) (ha1_b : a1_ < 2147483648) (T_ : zGT) (hT_ : T_ ∈ gTabs) (P_ : Nat) (mv_ : List Nat) (p0_ : zMvK mv_ P_ d_ Mz) (p1_ : zGc mv_ P_ T_ d_ Mz) (p2_ : 0 ≤ a0_) (p3_ : a0_ < 64) (p4_ : 0 ≤ a1_) (p5_ : a1_ < 16777216) : zC l m_Group_isSetKept 0 0 [.ref (d_ + 1), .int (Int32.ofInt a0_), .int (Int32.ofInt a1_)] Mz (zqcI d_ [] [] [] [] Mz (fun v N => (((v = 1 ∧ (∀ p_ : Nat, p_ < P_ → (a0_).toNat.testBit p_ = true → (zrch (gN T_) (zCo P_ d_ Mz) (a1_).toNat p_) &&& (a0_).toNat = (zrch (gN T_) (zCo P_ d_ Mz) (a1_).toNat p_))) ∨ (v = 0 ∧ ¬ (∀ p_ : Nat, p_ < P_ → (a0_).toNat.testBit p_ = true → (zrch (gN T_) (zCo P_ d_ Mz) (a1_).toNat p_) &&& (a0_).toNat = (zrch (gN T_) (zCo P_ d_ Mz) (a1_).toNat p_))))))) := by
  refine zC_of (L0 := [some (.ref (d_ + 1)), some (.int (Int32.ofInt a0_)), some (.int (Int32.ofInt a1_)), none]) md_Group_isSetKept (Nat.le_of_ble_eq_true rfl) rfl ?_ zQ0
  have hf : zFc d_ [] [] [] [] Mz Mz := zFc.rf
  have r_D1_5 := ze_r Mz (d_ + 1) 5
  have hO_ := gTabs_ok T_ hT_
  have hG_ := hO_.1
  have hn24_ := hG_.2.1
  have hn1_ := hG_.1
  obtain ⟨⟨hP0_, hP1_, hP6_⟩, -⟩ := id p0_
  refine zw_iconst (pc := 0) (v := Int32.ofInt 0) (by decide) (zdal_p dlB_Group_isSetKept_133 (i := 0) rfl) ?_
  refine zw_istore_n (pc := 1) (i := 3) (L2 := [some (.ref (d_ + 1)), some (.int (Int32.ofInt a0_)), some (.int (Int32.ofInt a1_)), some (.int (Int32.ofInt 0))]) rfl (by decide) rfl (zdal_p dlB_Group_isSetKept_133 (i := 1) rfl) ?_
  have lp_2 : ∀ (n : Nat) (u1_ : Int) (hu1_a : -2147483648 ≤ u1_) (hu1_b : u1_ < 2147483648) (i2_ : 0 ≤ u1_) (i3_ : u1_ ≤ P_) (i4_ : (∀ p_ : Nat, (p_ : Int) < u1_ → (a0_).toNat.testBit p_ = true → (zrch (gN T_) (zCo P_ d_ Mz) (a1_).toNat p_) &&& (a0_).toNat = (zrch (gN T_) (zCo P_ d_ Mz) (a1_).toNat p_))), (P_ - u1_).toNat < n → zW l m_Group_isSetKept (zn Mz + 0, zw Mz + 0) Mz 2 [some (.ref (d_ + 1)), some (.int (Int32.ofInt a0_)), some (.int (Int32.ofInt a1_)), some (.int (Int32.ofInt u1_))] [] (zqcI d_ [] [] [] [] Mz (fun v N => (((v = 1 ∧ (∀ p_ : Nat, p_ < P_ → (a0_).toNat.testBit p_ = true → (zrch (gN T_) (zCo P_ d_ Mz) (a1_).toNat p_) &&& (a0_).toNat = (zrch (gN T_) (zCo P_ d_ Mz) (a1_).toNat p_))) ∨ (v = 0 ∧ ¬ (∀ p_ : Nat, p_ < P_ → (a0_).toNat.testBit p_ = true → (zrch (gN T_) (zCo P_ d_ Mz) (a1_).toNat p_) &&& (a0_).toNat = (zrch (gN T_) (zCo P_ d_ Mz) (a1_).toNat p_))))))) := by
    intro n
    induction n with
    | zero =>
      intro u1_ hu1_a hu1_b i2_ i3_ i4_ h0
      exact absurd h0 (Nat.not_lt_zero _)
    | succ n ih_2 =>
      intro u1_ hu1_a hu1_b i2_ i3_ i4_ hlt_2
      have hcl_ := (show (∀ p_ : Nat, (p_ : Int) < u1_ → (a0_).toNat.testBit p_ = true → (zrch (gN T_) (zCo P_ d_ Mz) (a1_).toNat p_) &&& (a0_).toNat = (zrch (gN T_) (zCo P_ d_ Mz) (a1_).toNat p_)) by first | with_reducible assumption | assumption)
      refine zw_iload_n (pc := 2) (n := 3) (x := Int32.ofInt u1_) rfl (zdal_p dlB_Group_isSetKept_133 (i := 2) rfl) ?_
      refine zw_aload_n (pc := 3) (n := 0) (x := (d_ + 1)) rfl (zdal_p dlB_Group_isSetKept_133 (i := 3) rfl) ?_
      refine zk_getI (pc := 4) f_Group_32 rfl ((hf.w hW).kr (o := 1) (by decide)) (zdal_p dlB_Group_isSetKept_133 (i := 4) rfl) ?_
      refine zr_icmp_ge (pc := 7) (tgt := 39) ⟨hu1_a, hu1_b⟩ ⟨(ze_r Mz (d_ + 1) 5).1, (ze_r Mz (d_ + 1) 5).2⟩ (by decide) (zdal_p dlB_Group_isSetKept_133 (i := 5) rfl) (fun hc_7 => ?_) (fun hc_7 => ?_)
      · skip
        refine zw_iconst (pc := 39) (v := Int32.ofInt 1) (by decide) (zdal_p dlB_Group_isSetKept_133 (i := 21) rfl) ?_
        exact zk_iret (pc := 40) (ty := .boolean) rfl (z_narB (by omega)) ⟨by omega, by omega⟩ hf (show ((1 = 1 ∧ (∀ p_ : Nat, p_ < P_ → (a0_).toNat.testBit p_ = true → (zrch (gN T_) (zCo P_ d_ Mz) (a1_).toNat p_) &&& (a0_).toNat = (zrch (gN T_) (zCo P_ d_ Mz) (a1_).toNat p_))) ∨ (1 = 0 ∧ ¬ (∀ p_ : Nat, p_ < P_ → (a0_).toNat.testBit p_ = true → (zrch (gN T_) (zCo P_ d_ Mz) (a1_).toNat p_) &&& (a0_).toNat = (zrch (gN T_) (zCo P_ d_ Mz) (a1_).toNat p_)))) from Or.inl (⟨(show 1 = 1 by first | rfl | exact fun p_ hp_ hb_ => hcl_ p_ (by omega) hb_), (show (∀ p_ : Nat, p_ < P_ → (a0_).toNat.testBit p_ = true → (zrch (gN T_) (zCo P_ d_ Mz) (a1_).toNat p_) &&& (a0_).toNat = (zrch (gN T_) (zCo P_ d_ Mz) (a1_).toNat p_)) by first | rfl | exact fun p_ hp_ hb_ => hcl_ p_ (by omega) hb_)⟩)) (zdal_p dlB_Group_isSetKept_133 (i := 22) rfl)
      · skip
        refine zw_iload_n (pc := 10) (n := 1) (x := Int32.ofInt a0_) rfl (zdal_p dlB_Group_isSetKept_133 (i := 6) rfl) ?_
        refine zw_iload_n (pc := 11) (n := 3) (x := Int32.ofInt u1_) rfl (zdal_p dlB_Group_isSetKept_133 (i := 7) rfl) ?_
        refine zr_callS hf.x (pc := 12) [.int (Int32.ofInt a0_), .int (Int32.ofInt u1_)] [] l_Group_73 (u_T_isIn l d_ Mz (hf.w hW) a0_ ha0_a ha0_b u1_ hu1_a hu1_b (show 0 ≤ a0_ by first | with_reducible assumption | assumption | omega) (show a0_ < 2147483648 by first | with_reducible assumption | assumption | omega) (show 0 ≤ u1_ by first | with_reducible assumption | assumption | omega) (show u1_ < 31 by first | with_reducible assumption | assumption | omega)) rfl rfl (by decide) (Nat.le_of_ble_eq_true rfl) (zdal_p dlB_Group_isSetKept_133 (i := 8) rfl) ?_
        rintro _ N5_ ⟨v6_, rfl, ⟨hv6_a, hv6_b⟩, hsN5_, hp0_N5_⟩
        obtain rfl := hsN5_.eq.symm
        replace hp0_N5_ : ((v6_ = 1 ∧ zbt a0_ u1_) ∨ (v6_ = 0 ∧ ¬ zbt a0_ u1_)) := hp0_N5_
        rcases hp0_N5_ with ⟨rfl, ha12_0_hp0_N5_⟩ | ⟨rfl, ha12_0_hp0_N5_⟩
        · skip
          have hin_ := ha12_0_hp0_N5_
          show zW l m_Group_isSetKept (zn Mz + 0, zw Mz + 0) Mz 15 [some (.ref (d_ + 1)), some (.int (Int32.ofInt a0_)), some (.int (Int32.ofInt a1_)), some (.int (Int32.ofInt u1_))] [.int (Int32.ofInt 1)] _
          refine zr_if_eq (pc := 15) (tgt := 33) ⟨(by decide), (by decide)⟩ (by decide) (zdal_p dlB_Group_isSetKept_133 (i := 9) rfl) (fun hc_15 => ?_) (fun hc_15 => ?_)
          · skip
            exact absurd hc_15 (by decide)
          · skip
            refine zw_aload_n (pc := 18) (n := 0) (x := (d_ + 1)) rfl (zdal_p dlB_Group_isSetKept_133 (i := 10) rfl) ?_
            refine zw_iload_n (pc := 19) (n := 3) (x := Int32.ofInt u1_) rfl (zdal_p dlB_Group_isSetKept_133 (i := 11) rfl) ?_
            refine zw_iload_n (pc := 20) (n := 2) (x := Int32.ofInt a1_) rfl (zdal_p dlB_Group_isSetKept_133 (i := 12) rfl) ?_
            refine zk_callV hf.x (pc := 21) [.int (Int32.ofInt u1_), .int (Int32.ofInt a1_)] [] l_Group_103 (u_Group_placesReachedG l d_ Mz (hf.w hW) u1_ hu1_a hu1_b a1_ ha1_a ha1_b T_ hT_ P_ mv_ p0_ p1_ (show 0 ≤ u1_ by first | with_reducible assumption | assumption | omega) (show u1_ < (P_ : Int) by first | with_reducible assumption | assumption | omega) (show 0 ≤ a1_ by first | with_reducible assumption | assumption | omega) (show a1_ < 16777216 by first | with_reducible assumption | assumption | omega)) rfl rfl ((hf.w hW).kr (o := 1) (by decide)) (by decide) (by decide) (Nat.le_of_ble_eq_true rfl) (zdal_p dlB_Group_isSetKept_133 (i := 13) rfl) ?_
            rintro _ N7_ ⟨v8_, rfl, ⟨hv8_a, hv8_b⟩, hsN7_, hp0_N7_⟩
            obtain rfl := hsN7_.eq.symm
            replace hp0_N7_ : zImg (fun m_ => (a1_).toNat.testBit m_ = true) (fun m_ => gdg (zCo P_ d_ Mz m_) (u1_).toNat) (gN T_) v8_ := hp0_N7_
            show zW l m_Group_isSetKept (zn Mz + 0, zw Mz + 0) Mz 24 [some (.ref (d_ + 1)), some (.int (Int32.ofInt a0_)), some (.int (Int32.ofInt a1_)), some (.int (Int32.ofInt u1_))] [.int (Int32.ofInt v8_)] _
            have hR_ := zImg_r hp0_N7_
            have hRb_ := (hp0_N7_).1
            refine zw_iload_n (pc := 24) (n := 1) (x := Int32.ofInt a0_) rfl (zdal_p dlB_Group_isSetKept_133 (i := 14) rfl) ?_
            refine zr_callS hf.x (pc := 25) [.int (Int32.ofInt v8_), .int (Int32.ofInt a0_)] [] l_Group_115 (u_T_isPart l d_ Mz (hf.w hW) v8_ hv8_a hv8_b a0_ ha0_a ha0_b (show 0 ≤ v8_ by first | with_reducible assumption | assumption | omega) (show v8_ < 2147483648 by first | with_reducible assumption | assumption | omega) (show 0 ≤ a0_ by first | with_reducible assumption | assumption | omega) (show a0_ < 2147483648 by first | with_reducible assumption | assumption | omega)) rfl rfl (by decide) (Nat.le_of_ble_eq_true rfl) (zdal_p dlB_Group_isSetKept_133 (i := 15) rfl) ?_
            rintro _ N9_ ⟨v10_, rfl, ⟨hv10_a, hv10_b⟩, hsN9_, hp0_N9_⟩
            obtain rfl := hsN9_.eq.symm
            replace hp0_N9_ : ((v10_ = 1 ∧ (v8_).toNat &&& (a0_).toNat = (v8_).toNat) ∨ (v10_ = 0 ∧ ¬ (v8_).toNat &&& (a0_).toNat = (v8_).toNat)) := hp0_N9_
            rcases hp0_N9_ with ⟨rfl, ha25_0_hp0_N9_⟩ | ⟨rfl, ha25_0_hp0_N9_⟩
            · skip
              have hpt_ := ha25_0_hp0_N9_
              rw [hR_, Int.toNat_natCast] at hpt_
              have hcn_ : (∀ p_ : Nat, (p_ : Int) < u1_ + 1 → (a0_).toNat.testBit p_ = true → (zrch (gN T_) (zCo P_ d_ Mz) (a1_).toNat p_) &&& (a0_).toNat = (zrch (gN T_) (zCo P_ d_ Mz) (a1_).toNat p_)) := fun p_ hp_ hb_ => by by_cases g_ : (p_ : Int) = u1_; (rw [show p_ = (u1_).toNat by omega]; exact hpt_); exact hcl_ p_ (by omega) hb_
              show zW l m_Group_isSetKept (zn Mz + 0, zw Mz + 0) Mz 28 [some (.ref (d_ + 1)), some (.int (Int32.ofInt a0_)), some (.int (Int32.ofInt a1_)), some (.int (Int32.ofInt u1_))] [.int (Int32.ofInt 1)] _
              refine zr_if_ne (pc := 28) (tgt := 33) ⟨(by decide), (by decide)⟩ (by decide) (zdal_p dlB_Group_isSetKept_133 (i := 16) rfl) (fun hc_28 => ?_) (fun hc_28 => ?_)
              · skip
                refine zr_iinc (pc := 33) (i := 3) (a := u1_) (n := 1) (L2 := [some (.ref (d_ + 1)), some (.int (Int32.ofInt a0_)), some (.int (Int32.ofInt a1_)), some (.int (Int32.ofInt (u1_ + 1)))]) rfl (by decide) rfl (zdal_p dlB_Group_isSetKept_133 (i := 19) rfl) ?_
                refine zw_goto (pc := 36) (tgt := 2) (by decide) (zdal_p dlB_Group_isSetKept_133 (i := 20) rfl) ?_
                exact ih_2 (u1_ + 1) (by omega) (by omega) (show 0 ≤ (u1_ + 1) by first | with_reducible assumption | assumption | omega) (show (u1_ + 1) ≤ P_ by first | with_reducible assumption | assumption | omega) (show (∀ p_ : Nat, (p_ : Int) < (u1_ + 1) → (a0_).toNat.testBit p_ = true → (zrch (gN T_) (zCo P_ d_ Mz) (a1_).toNat p_) &&& (a0_).toNat = (zrch (gN T_) (zCo P_ d_ Mz) (a1_).toNat p_)) by exact hcn_) (by omega)
              · skip
                exact absurd hc_28 (by decide)
            · skip
              have hnp_ := ha25_0_hp0_N9_
              rw [hR_, Int.toNat_natCast] at hnp_
              show zW l m_Group_isSetKept (zn Mz + 0, zw Mz + 0) Mz 28 [some (.ref (d_ + 1)), some (.int (Int32.ofInt a0_)), some (.int (Int32.ofInt a1_)), some (.int (Int32.ofInt u1_))] [.int (Int32.ofInt 0)] _
              refine zr_if_ne (pc := 28) (tgt := 33) ⟨(by decide), (by decide)⟩ (by decide) (zdal_p dlB_Group_isSetKept_133 (i := 16) rfl) (fun hc_28 => ?_) (fun hc_28 => ?_)
              · skip
                exact absurd hc_28 (by decide)
              · skip
                refine zw_iconst (pc := 31) (v := Int32.ofInt 0) (by decide) (zdal_p dlB_Group_isSetKept_133 (i := 17) rfl) ?_
                exact zk_iret (pc := 32) (ty := .boolean) rfl (z_narB (by omega)) ⟨by omega, by omega⟩ hf (show ((0 = 1 ∧ (∀ p_ : Nat, p_ < P_ → (a0_).toNat.testBit p_ = true → (zrch (gN T_) (zCo P_ d_ Mz) (a1_).toNat p_) &&& (a0_).toNat = (zrch (gN T_) (zCo P_ d_ Mz) (a1_).toNat p_))) ∨ (0 = 0 ∧ ¬ (∀ p_ : Nat, p_ < P_ → (a0_).toNat.testBit p_ = true → (zrch (gN T_) (zCo P_ d_ Mz) (a1_).toNat p_) &&& (a0_).toNat = (zrch (gN T_) (zCo P_ d_ Mz) (a1_).toNat p_)))) from Or.inr (⟨(show 0 = 0 by first | rfl | exact fun q_ => hnp_ (q_ _ (by omega) hin_)), (show ¬ (∀ p_ : Nat, p_ < P_ → (a0_).toNat.testBit p_ = true → (zrch (gN T_) (zCo P_ d_ Mz) (a1_).toNat p_) &&& (a0_).toNat = (zrch (gN T_) (zCo P_ d_ Mz) (a1_).toNat p_)) by first | rfl | exact fun q_ => hnp_ (q_ _ (by omega) hin_))⟩)) (zdal_p dlB_Group_isSetKept_133 (i := 18) rfl)
        · skip
          have hno_ := ha12_0_hp0_N5_
          have hcn_ : (∀ p_ : Nat, (p_ : Int) < u1_ + 1 → (a0_).toNat.testBit p_ = true → (zrch (gN T_) (zCo P_ d_ Mz) (a1_).toNat p_) &&& (a0_).toNat = (zrch (gN T_) (zCo P_ d_ Mz) (a1_).toNat p_)) := fun p_ hp_ hb_ => by by_cases g_ : (p_ : Int) = u1_; exact absurd (by rw [show p_ = (u1_).toNat by omega] at hb_; exact hb_) hno_; exact hcl_ p_ (by omega) hb_
          show zW l m_Group_isSetKept (zn Mz + 0, zw Mz + 0) Mz 15 [some (.ref (d_ + 1)), some (.int (Int32.ofInt a0_)), some (.int (Int32.ofInt a1_)), some (.int (Int32.ofInt u1_))] [.int (Int32.ofInt 0)] _
          refine zr_if_eq (pc := 15) (tgt := 33) ⟨(by decide), (by decide)⟩ (by decide) (zdal_p dlB_Group_isSetKept_133 (i := 9) rfl) (fun hc_15 => ?_) (fun hc_15 => ?_)
          · skip
            refine zr_iinc (pc := 33) (i := 3) (a := u1_) (n := 1) (L2 := [some (.ref (d_ + 1)), some (.int (Int32.ofInt a0_)), some (.int (Int32.ofInt a1_)), some (.int (Int32.ofInt (u1_ + 1)))]) rfl (by decide) rfl (zdal_p dlB_Group_isSetKept_133 (i := 19) rfl) ?_
            refine zw_goto (pc := 36) (tgt := 2) (by decide) (zdal_p dlB_Group_isSetKept_133 (i := 20) rfl) ?_
            exact ih_2 (u1_ + 1) (by omega) (by omega) (show 0 ≤ (u1_ + 1) by first | with_reducible assumption | assumption | omega) (show (u1_ + 1) ≤ P_ by first | with_reducible assumption | assumption | omega) (show (∀ p_ : Nat, (p_ : Int) < (u1_ + 1) → (a0_).toNat.testBit p_ = true → (zrch (gN T_) (zCo P_ d_ Mz) (a1_).toNat p_) &&& (a0_).toNat = (zrch (gN T_) (zCo P_ d_ Mz) (a1_).toNat p_)) by exact hcn_) (by omega)
          · skip
            exact absurd hc_15 (by decide)
  exact lp_2 _ 0 (by decide) (by decide) (show 0 ≤ (0 : Int) by first | with_reducible assumption | assumption | omega) (show (0 : Int) ≤ P_ by first | with_reducible assumption | assumption | omega) (show (∀ p_ : Nat, (p_ : Int) < (0 : Int) → (a0_).toNat.testBit p_ = true → (zrch (gN T_) (zCo P_ d_ Mz) (a1_).toNat p_) &&& (a0_).toNat = (zrch (gN T_) (zCo P_ d_ Mz) (a1_).toNat p_)) by exact fun p_ hp_ => absurd hp_ (by omega)) (Nat.lt_succ_self _)
set_option maxHeartbeats 4000000 in
theorem u_Group_countSetsKeptS (l : Launch) (d_ : Nat) (Mz : zMem) (hW : zKW d_ Mz) (a0_ : Int) (ha0_a : -2147483648 ≤ a0_) (ha0_b : a0_ < 2147483648) (a1_ : Int) (ha1_a : -2147483648 ≤ a1_) (ha1_b : a1_ < 2147483648) (T_ : zGT) (hT_ : T_ ∈ gTabs) (P_ : Nat) (mv_ : List Nat) (p0_ : zMvK mv_ P_ d_ Mz) (p1_ : zGc mv_ P_ T_ d_ Mz) (p2_ : 0 ≤ a0_) (p3_ : a0_ ≤ 6) (p4_ : 0 ≤ a1_) (p5_ : a1_ < 16777216) : zC l m_Group_countSetsKept 0 0 [.ref (d_ + 1), .int (Int32.ofInt a0_), .int (Int32.ofInt a1_)] Mz (zqcI d_ [] [] [] [] Mz (fun v N => v = ((zct (fun s_ => gcb s_ = (a0_).toNat ∧ ∀ p_ : Nat, p_ < P_ → s_.testBit p_ = true → (zrch (gN T_) (zCo P_ d_ Mz) (a1_).toNat p_) &&& s_ = (zrch (gN T_) (zCo P_ d_ Mz) (a1_).toNat p_)) (2 ^ P_) : Nat) : Int))) := by
  refine zC_of (L0 := [some (.ref (d_ + 1)), some (.int (Int32.ofInt a0_)), some (.int (Int32.ofInt a1_)), none, none]) md_Group_countSetsKept (Nat.le_of_ble_eq_true rfl) rfl ?_ zQ0
  have hf : zFc d_ [] [] [] [] Mz Mz := zFc.rf
  have r_D1_5 := ze_r Mz (d_ + 1) 5
  have hO_ := gTabs_ok T_ hT_
  have hG_ := hO_.1
  have hn24_ := hG_.2.1
  have hn1_ := hG_.1
  obtain ⟨⟨hP0_, hP1_, hP6_⟩, -⟩ := id p0_
  have h64_ : 2 ^ P_ ≤ 64 := Nat.pow_le_pow_right (by decide) hP6_
  have hsh_ := tk_sh P_ (by omega)
  obtain ⟨W_, hW_⟩ : ∃ w : Nat, w = 2 ^ P_ := ⟨_, rfl⟩
  rw [← hW_] at h64_ hsh_
  refine zw_iconst (pc := 0) (v := Int32.ofInt 0) (by decide) (zdal_p dlB_Group_countSetsKept_132 (i := 0) rfl) ?_
  refine zw_istore_n (pc := 1) (i := 3) (L2 := [some (.ref (d_ + 1)), some (.int (Int32.ofInt a0_)), some (.int (Int32.ofInt a1_)), some (.int (Int32.ofInt 0)), none]) rfl (by decide) rfl (zdal_p dlB_Group_countSetsKept_132 (i := 1) rfl) ?_
  refine zw_iconst (pc := 2) (v := Int32.ofInt 0) (by decide) (zdal_p dlB_Group_countSetsKept_132 (i := 2) rfl) ?_
  refine zw_istore (pc := 3) (i := 4) (L2 := [some (.ref (d_ + 1)), some (.int (Int32.ofInt a0_)), some (.int (Int32.ofInt a1_)), some (.int (Int32.ofInt 0)), some (.int (Int32.ofInt 0))]) (by decide) rfl (zdal_p dlB_Group_countSetsKept_132 (i := 3) rfl) ?_
  have lp_5 : ∀ (n : Nat) (u1_ : Int) (hu1_a : -2147483648 ≤ u1_) (hu1_b : u1_ < 2147483648) (u2_ : Int) (hu2_a : -2147483648 ≤ u2_) (hu2_b : u2_ < 2147483648) (i3_ : 0 ≤ u2_) (i4_ : u2_ ≤ W_) (i5_ : u1_ = ((zct (fun s_ => gcb s_ = (a0_).toNat ∧ ∀ p_ : Nat, p_ < P_ → s_.testBit p_ = true → (zrch (gN T_) (zCo P_ d_ Mz) (a1_).toNat p_) &&& s_ = (zrch (gN T_) (zCo P_ d_ Mz) (a1_).toNat p_)) (u2_).toNat : Nat) : Int)) (i6_ : 0 ≤ u1_ ∧ u1_ ≤ u2_), (W_ - u2_).toNat < n → zW l m_Group_countSetsKept (zn Mz + 0, zw Mz + 0) Mz 5 [some (.ref (d_ + 1)), some (.int (Int32.ofInt a0_)), some (.int (Int32.ofInt a1_)), some (.int (Int32.ofInt u1_)), some (.int (Int32.ofInt u2_))] [] (zqcI d_ [] [] [] [] Mz (fun v N => v = ((zct (fun s_ => gcb s_ = (a0_).toNat ∧ ∀ p_ : Nat, p_ < P_ → s_.testBit p_ = true → (zrch (gN T_) (zCo P_ d_ Mz) (a1_).toNat p_) &&& s_ = (zrch (gN T_) (zCo P_ d_ Mz) (a1_).toNat p_)) (2 ^ P_) : Nat) : Int))) := by
    intro n
    induction n with
    | zero =>
      intro u1_ hu1_a hu1_b u2_ hu2_a hu2_b i3_ i4_ i5_ i6_ h0
      exact absurd h0 (Nat.not_lt_zero _)
    | succ n ih_5 =>
      intro u1_ hu1_a hu1_b u2_ hu2_a hu2_b i3_ i4_ i5_ i6_ hlt_5
      have hkc_ := (show u1_ = ((zct (fun s_ => gcb s_ = (a0_).toNat ∧ ∀ p_ : Nat, p_ < P_ → s_.testBit p_ = true → (zrch (gN T_) (zCo P_ d_ Mz) (a1_).toNat p_) &&& s_ = (zrch (gN T_) (zCo P_ d_ Mz) (a1_).toNat p_)) (u2_).toNat : Nat) : Int) by first | with_reducible assumption | assumption)
      refine zw_iload (pc := 5) (i := 4) (x := Int32.ofInt u2_) rfl (zdal_p dlB_Group_countSetsKept_132 (i := 4) rfl) ?_
      refine zw_iconst (pc := 7) (v := Int32.ofInt 1) (by decide) (zdal_p dlB_Group_countSetsKept_132 (i := 5) rfl) ?_
      refine zw_aload_n (pc := 8) (n := 0) (x := (d_ + 1)) rfl (zdal_p dlB_Group_countSetsKept_132 (i := 6) rfl) ?_
      refine zk_getI (pc := 9) f_Group_32 rfl ((hf.w hW).kr (o := 1) (by decide)) (zdal_p dlB_Group_countSetsKept_132 (i := 7) rfl) ?_
      refine zr_ishl (pc := 12) (zdal_p dlB_Group_countSetsKept_132 (i := 8) rfl) ?_
      have hr7_ := zshl_r 1 (ze Mz (d_ + 1) 5)
      have hw_ : (zshl 1 (ze Mz (d_ + 1) 5)) = (W_ : Int) := by rw [show ze Mz (d_ + 1) 5 = (P_ : Int) by omega]; exact hsh_
      refine zr_icmp_ge (pc := 13) (tgt := 44) ⟨hu2_a, hu2_b⟩ ⟨(by omega), (by omega)⟩ (by decide) (zdal_p dlB_Group_countSetsKept_132 (i := 9) rfl) (fun hc_13 => ?_) (fun hc_13 => ?_)
      · skip
        refine zw_iload_n (pc := 44) (n := 3) (x := Int32.ofInt u1_) rfl (zdal_p dlB_Group_countSetsKept_132 (i := 22) rfl) ?_
        exact zk_iret (pc := 45) (ty := .int) rfl rfl ⟨by omega, by omega⟩ hf (show u1_ = ((zct (fun s_ => gcb s_ = (a0_).toNat ∧ ∀ p_ : Nat, p_ < P_ → s_.testBit p_ = true → (zrch (gN T_) (zCo P_ d_ Mz) (a1_).toNat p_) &&& s_ = (zrch (gN T_) (zCo P_ d_ Mz) (a1_).toNat p_)) (2 ^ P_) : Nat) : Int) by rw [← hW_, show W_ = (u2_).toNat by omega]; exact hkc_) (zdal_p dlB_Group_countSetsKept_132 (i := 23) rfl)
      · skip
        refine zw_iload (pc := 16) (i := 4) (x := Int32.ofInt u2_) rfl (zdal_p dlB_Group_countSetsKept_132 (i := 10) rfl) ?_
        refine zr_callS hf.x (pc := 18) [.int (Int32.ofInt u2_)] [] l_Group_83 (u_Integer_bitCount l d_ Mz (hf.w hW) u2_ hu2_a hu2_b (show 0 ≤ u2_ by first | with_reducible assumption | assumption | omega)) rfl rfl (by decide) (Nat.le_of_ble_eq_true rfl) (zdal_p dlB_Group_countSetsKept_132 (i := 11) rfl) ?_
        rintro _ N8_ ⟨v9_, rfl, ⟨hv9_a, hv9_b⟩, hsN8_, ⟨hp0_N8_, hp1_N8_, hp2_N8_⟩⟩
        obtain rfl := hsN8_.eq.symm
        show zW l m_Group_countSetsKept (zn Mz + 0, zw Mz + 0) Mz 21 [some (.ref (d_ + 1)), some (.int (Int32.ofInt a0_)), some (.int (Int32.ofInt a1_)), some (.int (Int32.ofInt u1_)), some (.int (Int32.ofInt u2_))] [.int (Int32.ofInt v9_)] _
        have hb_ := hp0_N8_
        rw [kbc_g (by omega)] at hb_
        refine zw_iload_n (pc := 21) (n := 1) (x := Int32.ofInt a0_) rfl (zdal_p dlB_Group_countSetsKept_132 (i := 12) rfl) ?_
        refine zr_icmp_ne (pc := 22) (tgt := 38) ⟨hv9_a, hv9_b⟩ ⟨ha0_a, ha0_b⟩ (by decide) (zdal_p dlB_Group_countSetsKept_132 (i := 13) rfl) (fun hc_22 => ?_) (fun hc_22 => ?_)
        · skip
          refine zr_iinc (pc := 38) (i := 4) (a := u2_) (n := 1) (L2 := [some (.ref (d_ + 1)), some (.int (Int32.ofInt a0_)), some (.int (Int32.ofInt a1_)), some (.int (Int32.ofInt u1_)), some (.int (Int32.ofInt (u2_ + 1)))]) rfl (by decide) rfl (zdal_p dlB_Group_countSetsKept_132 (i := 20) rfl) ?_
          refine zw_goto (pc := 41) (tgt := 5) (by decide) (zdal_p dlB_Group_countSetsKept_132 (i := 21) rfl) ?_
          have hkn_ : u1_ = ((zct (fun s_ => gcb s_ = (a0_).toNat ∧ ∀ p_ : Nat, p_ < P_ → s_.testBit p_ = true → (zrch (gN T_) (zCo P_ d_ Mz) (a1_).toNat p_) &&& s_ = (zrch (gN T_) (zCo P_ d_ Mz) (a1_).toNat p_)) ((u2_ + 1)).toNat : Nat) : Int) := by first | exact zct_1 (p := (fun s_ => gcb s_ = (a0_).toNat ∧ ∀ p_ : Nat, p_ < P_ → s_.testBit p_ = true → (zrch (gN T_) (zCo P_ d_ Mz) (a1_).toNat p_) &&& s_ = (zrch (gN T_) (zCo P_ d_ Mz) (a1_).toNat p_))) (by omega) hkc_ ⟨by omega, hk1_⟩ | exact zct_0 (p := (fun s_ => gcb s_ = (a0_).toNat ∧ ∀ p_ : Nat, p_ < P_ → s_.testBit p_ = true → (zrch (gN T_) (zCo P_ d_ Mz) (a1_).toNat p_) &&& s_ = (zrch (gN T_) (zCo P_ d_ Mz) (a1_).toNat p_))) (by omega) hkc_ (fun q_ => hk0_ q_.2) | exact zct_0 (p := (fun s_ => gcb s_ = (a0_).toNat ∧ ∀ p_ : Nat, p_ < P_ → s_.testBit p_ = true → (zrch (gN T_) (zCo P_ d_ Mz) (a1_).toNat p_) &&& s_ = (zrch (gN T_) (zCo P_ d_ Mz) (a1_).toNat p_))) (by omega) hkc_ (fun q_ => by have h_ := q_.1; omega)
          exact ih_5 u1_ hu1_a hu1_b (u2_ + 1) (by omega) (by omega) (show 0 ≤ (u2_ + 1) by first | with_reducible assumption | assumption | omega) (show (u2_ + 1) ≤ W_ by first | with_reducible assumption | assumption | omega) (show u1_ = ((zct (fun s_ => gcb s_ = (a0_).toNat ∧ ∀ p_ : Nat, p_ < P_ → s_.testBit p_ = true → (zrch (gN T_) (zCo P_ d_ Mz) (a1_).toNat p_) &&& s_ = (zrch (gN T_) (zCo P_ d_ Mz) (a1_).toNat p_)) ((u2_ + 1)).toNat : Nat) : Int) by exact hkn_) (show 0 ≤ u1_ ∧ u1_ ≤ (u2_ + 1) by first | with_reducible assumption | assumption | omega) (by omega)
        · skip
          refine zw_aload_n (pc := 25) (n := 0) (x := (d_ + 1)) rfl (zdal_p dlB_Group_countSetsKept_132 (i := 14) rfl) ?_
          refine zw_iload (pc := 26) (i := 4) (x := Int32.ofInt u2_) rfl (zdal_p dlB_Group_countSetsKept_132 (i := 15) rfl) ?_
          refine zw_iload_n (pc := 28) (n := 2) (x := Int32.ofInt a1_) rfl (zdal_p dlB_Group_countSetsKept_132 (i := 16) rfl) ?_
          refine zk_callV hf.x (pc := 29) [.int (Int32.ofInt u2_), .int (Int32.ofInt a1_)] [] l_Group_112 (u_Group_isSetKeptS l d_ Mz (hf.w hW) u2_ hu2_a hu2_b a1_ ha1_a ha1_b T_ hT_ P_ mv_ p0_ p1_ (show 0 ≤ u2_ by first | with_reducible assumption | assumption | omega) (show u2_ < 64 by first | with_reducible assumption | assumption | omega) (show 0 ≤ a1_ by first | with_reducible assumption | assumption | omega) (show a1_ < 16777216 by first | with_reducible assumption | assumption | omega)) rfl rfl ((hf.w hW).kr (o := 1) (by decide)) (by decide) (by decide) (Nat.le_of_ble_eq_true rfl) (zdal_p dlB_Group_countSetsKept_132 (i := 17) rfl) ?_
          rintro _ N10_ ⟨v11_, rfl, ⟨hv11_a, hv11_b⟩, hsN10_, hp0_N10_⟩
          obtain rfl := hsN10_.eq.symm
          replace hp0_N10_ : ((v11_ = 1 ∧ (∀ p_ : Nat, p_ < P_ → (u2_).toNat.testBit p_ = true → (zrch (gN T_) (zCo P_ d_ Mz) (a1_).toNat p_) &&& (u2_).toNat = (zrch (gN T_) (zCo P_ d_ Mz) (a1_).toNat p_))) ∨ (v11_ = 0 ∧ ¬ (∀ p_ : Nat, p_ < P_ → (u2_).toNat.testBit p_ = true → (zrch (gN T_) (zCo P_ d_ Mz) (a1_).toNat p_) &&& (u2_).toNat = (zrch (gN T_) (zCo P_ d_ Mz) (a1_).toNat p_)))) := hp0_N10_
          rcases hp0_N10_ with ⟨rfl, ha29_0_hp0_N10_⟩ | ⟨rfl, ha29_0_hp0_N10_⟩
          · skip
            have hk1_ := ha29_0_hp0_N10_
            show zW l m_Group_countSetsKept (zn Mz + 0, zw Mz + 0) Mz 32 [some (.ref (d_ + 1)), some (.int (Int32.ofInt a0_)), some (.int (Int32.ofInt a1_)), some (.int (Int32.ofInt u1_)), some (.int (Int32.ofInt u2_))] [.int (Int32.ofInt 1)] _
            refine zr_if_eq (pc := 32) (tgt := 38) ⟨(by decide), (by decide)⟩ (by decide) (zdal_p dlB_Group_countSetsKept_132 (i := 18) rfl) (fun hc_32 => ?_) (fun hc_32 => ?_)
            · skip
              exact absurd hc_32 (by decide)
            · skip
              refine zr_iinc (pc := 35) (i := 3) (a := u1_) (n := 1) (L2 := [some (.ref (d_ + 1)), some (.int (Int32.ofInt a0_)), some (.int (Int32.ofInt a1_)), some (.int (Int32.ofInt (u1_ + 1))), some (.int (Int32.ofInt u2_))]) rfl (by decide) rfl (zdal_p dlB_Group_countSetsKept_132 (i := 19) rfl) ?_
              refine zr_iinc (pc := 38) (i := 4) (a := u2_) (n := 1) (L2 := [some (.ref (d_ + 1)), some (.int (Int32.ofInt a0_)), some (.int (Int32.ofInt a1_)), some (.int (Int32.ofInt (u1_ + 1))), some (.int (Int32.ofInt (u2_ + 1)))]) rfl (by decide) rfl (zdal_p dlB_Group_countSetsKept_132 (i := 20) rfl) ?_
              refine zw_goto (pc := 41) (tgt := 5) (by decide) (zdal_p dlB_Group_countSetsKept_132 (i := 21) rfl) ?_
              have hkn_ : (u1_ + 1) = ((zct (fun s_ => gcb s_ = (a0_).toNat ∧ ∀ p_ : Nat, p_ < P_ → s_.testBit p_ = true → (zrch (gN T_) (zCo P_ d_ Mz) (a1_).toNat p_) &&& s_ = (zrch (gN T_) (zCo P_ d_ Mz) (a1_).toNat p_)) ((u2_ + 1)).toNat : Nat) : Int) := by first | exact zct_1 (p := (fun s_ => gcb s_ = (a0_).toNat ∧ ∀ p_ : Nat, p_ < P_ → s_.testBit p_ = true → (zrch (gN T_) (zCo P_ d_ Mz) (a1_).toNat p_) &&& s_ = (zrch (gN T_) (zCo P_ d_ Mz) (a1_).toNat p_))) (by omega) hkc_ ⟨by omega, hk1_⟩ | exact zct_0 (p := (fun s_ => gcb s_ = (a0_).toNat ∧ ∀ p_ : Nat, p_ < P_ → s_.testBit p_ = true → (zrch (gN T_) (zCo P_ d_ Mz) (a1_).toNat p_) &&& s_ = (zrch (gN T_) (zCo P_ d_ Mz) (a1_).toNat p_))) (by omega) hkc_ (fun q_ => hk0_ q_.2) | exact zct_0 (p := (fun s_ => gcb s_ = (a0_).toNat ∧ ∀ p_ : Nat, p_ < P_ → s_.testBit p_ = true → (zrch (gN T_) (zCo P_ d_ Mz) (a1_).toNat p_) &&& s_ = (zrch (gN T_) (zCo P_ d_ Mz) (a1_).toNat p_))) (by omega) hkc_ (fun q_ => by have h_ := q_.1; omega)
              exact ih_5 (u1_ + 1) (by omega) (by omega) (u2_ + 1) (by omega) (by omega) (show 0 ≤ (u2_ + 1) by first | with_reducible assumption | assumption | omega) (show (u2_ + 1) ≤ W_ by first | with_reducible assumption | assumption | omega) (show (u1_ + 1) = ((zct (fun s_ => gcb s_ = (a0_).toNat ∧ ∀ p_ : Nat, p_ < P_ → s_.testBit p_ = true → (zrch (gN T_) (zCo P_ d_ Mz) (a1_).toNat p_) &&& s_ = (zrch (gN T_) (zCo P_ d_ Mz) (a1_).toNat p_)) ((u2_ + 1)).toNat : Nat) : Int) by exact hkn_) (show 0 ≤ (u1_ + 1) ∧ (u1_ + 1) ≤ (u2_ + 1) by first | with_reducible assumption | assumption | omega) (by omega)
          · skip
            have hk0_ := ha29_0_hp0_N10_
            show zW l m_Group_countSetsKept (zn Mz + 0, zw Mz + 0) Mz 32 [some (.ref (d_ + 1)), some (.int (Int32.ofInt a0_)), some (.int (Int32.ofInt a1_)), some (.int (Int32.ofInt u1_)), some (.int (Int32.ofInt u2_))] [.int (Int32.ofInt 0)] _
            refine zr_if_eq (pc := 32) (tgt := 38) ⟨(by decide), (by decide)⟩ (by decide) (zdal_p dlB_Group_countSetsKept_132 (i := 18) rfl) (fun hc_32 => ?_) (fun hc_32 => ?_)
            · skip
              refine zr_iinc (pc := 38) (i := 4) (a := u2_) (n := 1) (L2 := [some (.ref (d_ + 1)), some (.int (Int32.ofInt a0_)), some (.int (Int32.ofInt a1_)), some (.int (Int32.ofInt u1_)), some (.int (Int32.ofInt (u2_ + 1)))]) rfl (by decide) rfl (zdal_p dlB_Group_countSetsKept_132 (i := 20) rfl) ?_
              refine zw_goto (pc := 41) (tgt := 5) (by decide) (zdal_p dlB_Group_countSetsKept_132 (i := 21) rfl) ?_
              have hkn_ : u1_ = ((zct (fun s_ => gcb s_ = (a0_).toNat ∧ ∀ p_ : Nat, p_ < P_ → s_.testBit p_ = true → (zrch (gN T_) (zCo P_ d_ Mz) (a1_).toNat p_) &&& s_ = (zrch (gN T_) (zCo P_ d_ Mz) (a1_).toNat p_)) ((u2_ + 1)).toNat : Nat) : Int) := by first | exact zct_1 (p := (fun s_ => gcb s_ = (a0_).toNat ∧ ∀ p_ : Nat, p_ < P_ → s_.testBit p_ = true → (zrch (gN T_) (zCo P_ d_ Mz) (a1_).toNat p_) &&& s_ = (zrch (gN T_) (zCo P_ d_ Mz) (a1_).toNat p_))) (by omega) hkc_ ⟨by omega, hk1_⟩ | exact zct_0 (p := (fun s_ => gcb s_ = (a0_).toNat ∧ ∀ p_ : Nat, p_ < P_ → s_.testBit p_ = true → (zrch (gN T_) (zCo P_ d_ Mz) (a1_).toNat p_) &&& s_ = (zrch (gN T_) (zCo P_ d_ Mz) (a1_).toNat p_))) (by omega) hkc_ (fun q_ => hk0_ q_.2) | exact zct_0 (p := (fun s_ => gcb s_ = (a0_).toNat ∧ ∀ p_ : Nat, p_ < P_ → s_.testBit p_ = true → (zrch (gN T_) (zCo P_ d_ Mz) (a1_).toNat p_) &&& s_ = (zrch (gN T_) (zCo P_ d_ Mz) (a1_).toNat p_))) (by omega) hkc_ (fun q_ => by have h_ := q_.1; omega)
              exact ih_5 u1_ hu1_a hu1_b (u2_ + 1) (by omega) (by omega) (show 0 ≤ (u2_ + 1) by first | with_reducible assumption | assumption | omega) (show (u2_ + 1) ≤ W_ by first | with_reducible assumption | assumption | omega) (show u1_ = ((zct (fun s_ => gcb s_ = (a0_).toNat ∧ ∀ p_ : Nat, p_ < P_ → s_.testBit p_ = true → (zrch (gN T_) (zCo P_ d_ Mz) (a1_).toNat p_) &&& s_ = (zrch (gN T_) (zCo P_ d_ Mz) (a1_).toNat p_)) ((u2_ + 1)).toNat : Nat) : Int) by exact hkn_) (show 0 ≤ u1_ ∧ u1_ ≤ (u2_ + 1) by first | with_reducible assumption | assumption | omega) (by omega)
            · skip
              exact absurd hc_32 (by decide)
  exact lp_5 _ 0 (by decide) (by decide) 0 (by decide) (by decide) (show 0 ≤ (0 : Int) by first | with_reducible assumption | assumption | omega) (show (0 : Int) ≤ W_ by first | with_reducible assumption | assumption | omega) (show (0 : Int) = ((zct (fun s_ => gcb s_ = (a0_).toNat ∧ ∀ p_ : Nat, p_ < P_ → s_.testBit p_ = true → (zrch (gN T_) (zCo P_ d_ Mz) (a1_).toNat p_) &&& s_ = (zrch (gN T_) (zCo P_ d_ Mz) (a1_).toNat p_)) ((0 : Int)).toNat : Nat) : Int) by rfl) (show 0 ≤ (0 : Int) ∧ (0 : Int) ≤ (0 : Int) by first | with_reducible assumption | assumption | omega) (Nat.lt_succ_self _)
set_option maxHeartbeats 4000000 in
theorem u_Group_powerS (l : Launch) (d_ : Nat) (Mz : zMem) (hW : zKW d_ Mz) (a0_ : Int) (ha0_a : -2147483648 ≤ a0_) (ha0_b : a0_ < 2147483648) (a1_ : Int) (ha1_a : -2147483648 ≤ a1_) (ha1_b : a1_ < 2147483648) (p0_ : 0 ≤ a0_) (p1_ : a0_ ≤ 6) (p2_ : 0 ≤ a1_) (p3_ : a1_ ≤ 6) : zC l m_Group_power 0 0 [.int (Int32.ofInt a0_), .int (Int32.ofInt a1_)] Mz (zqcI d_ [] [] [] [] Mz (fun v N => v = a0_ ^ (a1_).toNat)) := by
  refine zC_of (L0 := [some (.int (Int32.ofInt a0_)), some (.int (Int32.ofInt a1_)), none, none]) md_Group_power (Nat.le_of_ble_eq_true rfl) rfl ?_ zQ0
  have hf : zFc d_ [] [] [] [] Mz Mz := zFc.rf
  refine zw_iconst (pc := 0) (v := Int32.ofInt 1) (by decide) (zdal_p dlB_Group_power_134 (i := 0) rfl) ?_
  refine zw_istore_n (pc := 1) (i := 2) (L2 := [some (.int (Int32.ofInt a0_)), some (.int (Int32.ofInt a1_)), some (.int (Int32.ofInt 1)), none]) rfl (by decide) rfl (zdal_p dlB_Group_power_134 (i := 1) rfl) ?_
  refine zw_iconst (pc := 2) (v := Int32.ofInt 0) (by decide) (zdal_p dlB_Group_power_134 (i := 2) rfl) ?_
  refine zw_istore_n (pc := 3) (i := 3) (L2 := [some (.int (Int32.ofInt a0_)), some (.int (Int32.ofInt a1_)), some (.int (Int32.ofInt 1)), some (.int (Int32.ofInt 0))]) rfl (by decide) rfl (zdal_p dlB_Group_power_134 (i := 3) rfl) ?_
  have lp_4 : ∀ (n : Nat) (u1_ : Int) (hu1_a : -2147483648 ≤ u1_) (hu1_b : u1_ < 2147483648) (u2_ : Int) (hu2_a : -2147483648 ≤ u2_) (hu2_b : u2_ < 2147483648) (i3_ : 0 ≤ u2_) (i4_ : u2_ ≤ a1_) (i5_ : u1_ = a0_ ^ (u2_).toNat) (i6_ : 0 ≤ u1_ ∧ u1_ ≤ 46656), (a1_ - u2_).toNat < n → zW l m_Group_power (zn Mz + 0, zw Mz + 0) Mz 4 [some (.int (Int32.ofInt a0_)), some (.int (Int32.ofInt a1_)), some (.int (Int32.ofInt u1_)), some (.int (Int32.ofInt u2_))] [] (zqcI d_ [] [] [] [] Mz (fun v N => v = a0_ ^ (a1_).toNat)) := by
    intro n
    induction n with
    | zero =>
      intro u1_ hu1_a hu1_b u2_ hu2_a hu2_b i3_ i4_ i5_ i6_ h0
      exact absurd h0 (Nat.not_lt_zero _)
    | succ n ih_4 =>
      intro u1_ hu1_a hu1_b u2_ hu2_a hu2_b i3_ i4_ i5_ i6_ hlt_4
      have hpw_ := (show u1_ = a0_ ^ (u2_).toNat by first | with_reducible assumption | assumption)
      refine zw_iload_n (pc := 4) (n := 3) (x := Int32.ofInt u2_) rfl (zdal_p dlB_Group_power_134 (i := 4) rfl) ?_
      refine zw_iload_n (pc := 5) (n := 1) (x := Int32.ofInt a1_) rfl (zdal_p dlB_Group_power_134 (i := 5) rfl) ?_
      refine zr_icmp_ge (pc := 6) (tgt := 19) ⟨hu2_a, hu2_b⟩ ⟨ha1_a, ha1_b⟩ (by decide) (zdal_p dlB_Group_power_134 (i := 6) rfl) (fun hc_6 => ?_) (fun hc_6 => ?_)
      · skip
        refine zw_iload_n (pc := 19) (n := 2) (x := Int32.ofInt u1_) rfl (zdal_p dlB_Group_power_134 (i := 13) rfl) ?_
        exact zk_iret (pc := 20) (ty := .int) rfl rfl ⟨by omega, by omega⟩ hf (show u1_ = a0_ ^ (a1_).toNat by rw [show a1_ = u2_ by omega]; exact hpw_) (zdal_p dlB_Group_power_134 (i := 14) rfl)
      · skip
        refine zw_iload_n (pc := 9) (n := 2) (x := Int32.ofInt u1_) rfl (zdal_p dlB_Group_power_134 (i := 7) rfl) ?_
        refine zw_iload_n (pc := 10) (n := 0) (x := Int32.ofInt a0_) rfl (zdal_p dlB_Group_power_134 (i := 8) rfl) ?_
        refine zr_imul (pc := 11) (zdal_p dlB_Group_power_134 (i := 9) rfl) ?_
        refine zk_nmI (fun v7_ hv7_ hv7_e => ?_)
        obtain ⟨hv7_a, hv7_b⟩ := hv7_
        have hpn_ := zpw_s (n := a0_) hpw_ (show 0 ≤ u2_ by omega)
        have hpb_ := tkp_6 p0_ p1_ (u2_ + 1).toNat (by omega)
        rw [← hpn_] at hpb_
        have hve_ := hv7_e ⟨by omega, by omega⟩
        have hvf_ := hve_.trans hpn_
        refine zw_istore_n (pc := 12) (i := 2) (L2 := [some (.int (Int32.ofInt a0_)), some (.int (Int32.ofInt a1_)), some (.int (Int32.ofInt v7_)), some (.int (Int32.ofInt u2_))]) rfl (by decide) rfl (zdal_p dlB_Group_power_134 (i := 10) rfl) ?_
        refine zr_iinc (pc := 13) (i := 3) (a := u2_) (n := 1) (L2 := [some (.int (Int32.ofInt a0_)), some (.int (Int32.ofInt a1_)), some (.int (Int32.ofInt v7_)), some (.int (Int32.ofInt (u2_ + 1)))]) rfl (by decide) rfl (zdal_p dlB_Group_power_134 (i := 11) rfl) ?_
        refine zw_goto (pc := 16) (tgt := 4) (by decide) (zdal_p dlB_Group_power_134 (i := 12) rfl) ?_
        exact ih_4 v7_ hv7_a hv7_b (u2_ + 1) (by omega) (by omega) (show 0 ≤ (u2_ + 1) by first | with_reducible assumption | assumption | omega) (show (u2_ + 1) ≤ a1_ by first | with_reducible assumption | assumption | omega) (show v7_ = a0_ ^ ((u2_ + 1)).toNat by exact hvf_) (show 0 ≤ v7_ ∧ v7_ ≤ 46656 by omega) (by omega)
  exact lp_4 _ 1 (by decide) (by decide) 0 (by decide) (by decide) (show 0 ≤ (0 : Int) by first | with_reducible assumption | assumption | omega) (show (0 : Int) ≤ a1_ by first | with_reducible assumption | assumption | omega) (show (1 : Int) = a0_ ^ ((0 : Int)).toNat by exact (Int.pow_zero _).symm) (show 0 ≤ (1 : Int) ∧ (1 : Int) ≤ 46656 by first | with_reducible assumption | assumption | omega) (Nat.lt_succ_self _)
set_option maxHeartbeats 4000000 in
theorem u_Group_countKeptS (l : Launch) (d_ : Nat) (Mz : zMem) (hW : zKW d_ Mz) (a0_ : Int) (ha0_a : -2147483648 ≤ a0_) (ha0_b : a0_ < 2147483648) (a1_ : Int) (ha1_a : -2147483648 ≤ a1_) (ha1_b : a1_ < 2147483648) (a2_ : Int) (ha2_a : -2147483648 ≤ a2_) (ha2_b : a2_ < 2147483648) (T_ : zGT) (hT_ : T_ ∈ gTabs) (P_ : Nat) (mv_ : List Nat) (p0_ : zMvK mv_ P_ d_ Mz) (p1_ : zGc mv_ P_ T_ d_ Mz) (p2_ : 0 ≤ a2_) (p3_ : a2_ < 16777216) (p4_ : zPt (zrch (gN T_) (zCo P_ d_ Mz) (a2_).toNat) P_) (p5_ : (a0_ = 0 ∨ ((a0_ = 1 ∨ a0_ = 2) ∧ 0 ≤ a1_ ∧ a1_ ≤ 6))) : zC l m_Group_countKept 0 0 [.ref (d_ + 1), .int (Int32.ofInt a0_), .int (Int32.ofInt a1_), .int (Int32.ofInt a2_)] Mz (zqcI d_ [] [] [] [] Mz (fun v N => v = tkv (zrr P_ T_ (zCo P_ d_ Mz) (a2_).toNat) a0_ a1_)) := by
  refine zC_of (L0 := [some (.ref (d_ + 1)), some (.int (Int32.ofInt a0_)), some (.int (Int32.ofInt a1_)), some (.int (Int32.ofInt a2_)), none, none, none, none]) md_Group_countKept (Nat.le_of_ble_eq_true rfl) rfl ?_ zQ0
  have hf : zFc d_ [] [] [] [] Mz Mz := zFc.rf
  have r_D1_5 := ze_r Mz (d_ + 1) 5
  have hO_ := gTabs_ok T_ hT_
  have hG_ := hO_.1
  have hn24_ := hG_.2.1
  have hn1_ := hG_.1
  obtain ⟨⟨hP0_, hP1_, hP6_⟩, -⟩ := id p0_
  have h64_ : 2 ^ P_ ≤ 64 := Nat.pow_le_pow_right (by decide) hP6_
  refine zw_iconst (pc := 0) (v := Int32.ofInt 0) (by decide) (zdal_p dlB_Group_countKept_130 (i := 0) rfl) ?_
  refine zw_istore (pc := 1) (i := 4) (L2 := [some (.ref (d_ + 1)), some (.int (Int32.ofInt a0_)), some (.int (Int32.ofInt a1_)), some (.int (Int32.ofInt a2_)), some (.int (Int32.ofInt 0)), none, none, none]) (by decide) rfl (zdal_p dlB_Group_countKept_130 (i := 1) rfl) ?_
  refine zw_iconst (pc := 3) (v := Int32.ofInt 0) (by decide) (zdal_p dlB_Group_countKept_130 (i := 2) rfl) ?_
  refine zw_istore (pc := 4) (i := 5) (L2 := [some (.ref (d_ + 1)), some (.int (Int32.ofInt a0_)), some (.int (Int32.ofInt a1_)), some (.int (Int32.ofInt a2_)), some (.int (Int32.ofInt 0)), some (.int (Int32.ofInt 0)), none, none]) (by decide) rfl (zdal_p dlB_Group_countKept_130 (i := 3) rfl) ?_
  refine zw_iconst (pc := 6) (v := Int32.ofInt 0) (by decide) (zdal_p dlB_Group_countKept_130 (i := 4) rfl) ?_
  refine zw_istore (pc := 7) (i := 6) (L2 := [some (.ref (d_ + 1)), some (.int (Int32.ofInt a0_)), some (.int (Int32.ofInt a1_)), some (.int (Int32.ofInt a2_)), some (.int (Int32.ofInt 0)), some (.int (Int32.ofInt 0)), some (.int (Int32.ofInt 0)), none]) (by decide) rfl (zdal_p dlB_Group_countKept_130 (i := 5) rfl) ?_
  have lp_9 : ∀ (n : Nat) (u1_ : Int) (hu1_a : -2147483648 ≤ u1_) (hu1_b : u1_ < 2147483648) (u2_ : Int) (hu2_a : -2147483648 ≤ u2_) (hu2_b : u2_ < 2147483648) (u3_ : Int) (hu3_a : -2147483648 ≤ u3_) (hu3_b : u3_ < 2147483648) (i4_ : 0 ≤ u3_) (i5_ : u3_ ≤ P_) (i6_ : u1_ = ((zct (fun p_ => (zrch (gN T_) (zCo P_ d_ Mz) (a2_).toNat p_) = 2 ^ p_) (u3_).toNat : Nat) : Int)) (i7_ : u2_ = ((zct (fun p_ => (zrch (gN T_) (zCo P_ d_ Mz) (a2_).toNat p_) % 2 ^ p_ = 0) (u3_).toNat : Nat) : Int)) (i8_ : (0 ≤ u1_ ∧ u1_ ≤ u3_) ∧ 0 ≤ u2_ ∧ u2_ ≤ u3_), (P_ - u3_).toNat < n → zW l m_Group_countKept (zn Mz + 0, zw Mz + 0) Mz 9 [some (.ref (d_ + 1)), some (.int (Int32.ofInt a0_)), some (.int (Int32.ofInt a1_)), some (.int (Int32.ofInt a2_)), some (.int (Int32.ofInt u1_)), some (.int (Int32.ofInt u2_)), some (.int (Int32.ofInt u3_)), none] [] (zqcI d_ [] [] [] [] Mz (fun v N => v = tkv (zrr P_ T_ (zCo P_ d_ Mz) (a2_).toNat) a0_ a1_)) := by
    intro n
    induction n with
    | zero =>
      intro u1_ hu1_a hu1_b u2_ hu2_a hu2_b u3_ hu3_a hu3_b i4_ i5_ i6_ i7_ i8_ h0
      exact absurd h0 (Nat.not_lt_zero _)
    | succ n ih_9 =>
      intro u1_ hu1_a hu1_b u2_ hu2_a hu2_b u3_ hu3_a hu3_b i4_ i5_ i6_ i7_ i8_ hlt_9
      have hk0_ := (show u1_ = ((zct (fun p_ => (zrch (gN T_) (zCo P_ d_ Mz) (a2_).toNat p_) = 2 ^ p_) (u3_).toNat : Nat) : Int) by first | with_reducible assumption | assumption)
      have hkp_ := (show u2_ = ((zct (fun p_ => (zrch (gN T_) (zCo P_ d_ Mz) (a2_).toNat p_) % 2 ^ p_ = 0) (u3_).toNat : Nat) : Int) by first | with_reducible assumption | assumption)
      refine zw_iload (pc := 9) (i := 6) (x := Int32.ofInt u3_) rfl (zdal_p dlB_Group_countKept_130 (i := 6) rfl) ?_
      refine zw_aload_n (pc := 11) (n := 0) (x := (d_ + 1)) rfl (zdal_p dlB_Group_countKept_130 (i := 7) rfl) ?_
      refine zk_getI (pc := 12) f_Group_32 rfl ((hf.w hW).kr (o := 1) (by decide)) (zdal_p dlB_Group_countKept_130 (i := 8) rfl) ?_
      refine zr_icmp_ge (pc := 15) (tgt := 61) ⟨hu3_a, hu3_b⟩ ⟨(ze_r Mz (d_ + 1) 5).1, (ze_r Mz (d_ + 1) 5).2⟩ (by decide) (zdal_p dlB_Group_countKept_130 (i := 9) rfl) (fun hc_15 => ?_) (fun hc_15 => ?_)
      · skip
        have hLP_ : (u3_).toNat = P_ := by omega
        rw [hLP_] at hk0_ hkp_
        refine zw_iload_n (pc := 61) (n := 1) (x := Int32.ofInt a0_) rfl (zdal_p dlB_Group_countKept_131 (i := 8) rfl) ?_
        refine zr_if_ne (pc := 62) (tgt := 68) ⟨ha0_a, ha0_b⟩ (by decide) (zdal_p dlB_Group_countKept_131 (i := 9) rfl) (fun hc_62 => ?_) (fun hc_62 => ?_)
        · skip
          refine zw_iload_n (pc := 68) (n := 1) (x := Int32.ofInt a0_) rfl (zdal_p dlB_Group_countKept_131 (i := 12) rfl) ?_
          refine zw_iconst (pc := 69) (v := Int32.ofInt 1) (by decide) (zdal_p dlB_Group_countKept_131 (i := 13) rfl) ?_
          refine zr_icmp_ne (pc := 70) (tgt := 82) ⟨ha0_a, ha0_b⟩ ⟨(by decide), (by decide)⟩ (by decide) (zdal_p dlB_Group_countKept_131 (i := 14) rfl) (fun hc_70 => ?_) (fun hc_70 => ?_)
          · skip
            refine zw_iload_n (pc := 82) (n := 2) (x := Int32.ofInt a1_) rfl (zdal_p dlB_Group_countKept_131 (i := 20) rfl) ?_
            refine zw_iload (pc := 83) (i := 5) (x := Int32.ofInt u2_) rfl (zdal_p dlB_Group_countKept_131 (i := 21) rfl) ?_
            refine zr_callS hf.x (pc := 85) [.int (Int32.ofInt a1_), .int (Int32.ofInt u2_)] [] l_Group_109 (u_Group_powerS l d_ Mz (hf.w hW) a1_ ha1_a ha1_b u2_ hu2_a hu2_b (show 0 ≤ a1_ by first | with_reducible assumption | assumption | omega) (show a1_ ≤ 6 by first | with_reducible assumption | assumption | omega) (show 0 ≤ u2_ by first | with_reducible assumption | assumption | omega) (show u2_ ≤ 6 by first | with_reducible assumption | assumption | omega)) rfl rfl (by decide) (Nat.le_of_ble_eq_true rfl) (zdal_p dlB_Group_countKept_131 (i := 22) rfl) ?_
            rintro _ N9_ ⟨v10_, rfl, ⟨hv10_a, hv10_b⟩, hsN9_, hp0_N9_⟩
            obtain rfl := hsN9_.eq.symm
            replace hp0_N9_ : v10_ = a1_ ^ (u2_).toNat := hp0_N9_
            show zW l m_Group_countKept (zn Mz + 0, zw Mz + 0) Mz 88 [some (.ref (d_ + 1)), some (.int (Int32.ofInt a0_)), some (.int (Int32.ofInt a1_)), some (.int (Int32.ofInt a2_)), some (.int (Int32.ofInt u1_)), some (.int (Int32.ofInt u2_)), some (.int (Int32.ofInt u3_)), none] [.int (Int32.ofInt v10_)] _
            have hpo_ := hp0_N9_
            exact zk_iret (pc := 88) (ty := .int) rfl rfl ⟨by omega, by omega⟩ hf (show v10_ = tkv (zrr P_ T_ (zCo P_ d_ Mz) (a2_).toNat) a0_ a1_ by first | exact tkv_1 hP6_ (by omega) hcs_ | exact tkv_2 (by omega) hkp_ hpo_) (zdal_p dlB_Group_countKept_131 (i := 23) rfl)
          · skip
            refine zw_aload_n (pc := 73) (n := 0) (x := (d_ + 1)) rfl (zdal_p dlB_Group_countKept_131 (i := 15) rfl) ?_
            refine zw_iload_n (pc := 74) (n := 2) (x := Int32.ofInt a1_) rfl (zdal_p dlB_Group_countKept_131 (i := 16) rfl) ?_
            refine zw_iload_n (pc := 75) (n := 3) (x := Int32.ofInt a2_) rfl (zdal_p dlB_Group_countKept_131 (i := 17) rfl) ?_
            refine zk_callV hf.x (pc := 76) [.int (Int32.ofInt a1_), .int (Int32.ofInt a2_)] [] l_Group_106 (u_Group_countSetsKeptS l d_ Mz (hf.w hW) a1_ ha1_a ha1_b a2_ ha2_a ha2_b T_ hT_ P_ mv_ p0_ p1_ (show 0 ≤ a1_ by first | with_reducible assumption | assumption | omega) (show a1_ ≤ 6 by first | with_reducible assumption | assumption | omega) (show 0 ≤ a2_ by first | with_reducible assumption | assumption | omega) (show a2_ < 16777216 by first | with_reducible assumption | assumption | omega)) rfl rfl ((hf.w hW).kr (o := 1) (by decide)) (by decide) (by decide) (Nat.le_of_ble_eq_true rfl) (zdal_p dlB_Group_countKept_131 (i := 18) rfl) ?_
            rintro _ N11_ ⟨v12_, rfl, ⟨hv12_a, hv12_b⟩, hsN11_, hp0_N11_⟩
            obtain rfl := hsN11_.eq.symm
            replace hp0_N11_ : v12_ = ((zct (fun s_ => gcb s_ = (a1_).toNat ∧ ∀ p_ : Nat, p_ < P_ → s_.testBit p_ = true → (zrch (gN T_) (zCo P_ d_ Mz) (a2_).toNat p_) &&& s_ = (zrch (gN T_) (zCo P_ d_ Mz) (a2_).toNat p_)) (2 ^ P_) : Nat) : Int) := hp0_N11_
            show zW l m_Group_countKept (zn Mz + 0, zw Mz + 0) Mz 79 [some (.ref (d_ + 1)), some (.int (Int32.ofInt a0_)), some (.int (Int32.ofInt a1_)), some (.int (Int32.ofInt a2_)), some (.int (Int32.ofInt u1_)), some (.int (Int32.ofInt u2_)), some (.int (Int32.ofInt u3_)), none] [.int (Int32.ofInt v12_)] _
            have hcs_ := hp0_N11_
            refine zw_goto (pc := 79) (tgt := 88) (by decide) (zdal_p dlB_Group_countKept_131 (i := 19) rfl) ?_
            exact zk_iret (pc := 88) (ty := .int) rfl rfl ⟨by omega, by omega⟩ hf (show v12_ = tkv (zrr P_ T_ (zCo P_ d_ Mz) (a2_).toNat) a0_ a1_ by first | exact tkv_1 hP6_ (by omega) hcs_ | exact tkv_2 (by omega) hkp_ hpo_) (zdal_p dlB_Group_countKept_131 (i := 23) rfl)
        · skip
          refine zw_iload (pc := 65) (i := 4) (x := Int32.ofInt u1_) rfl (zdal_p dlB_Group_countKept_131 (i := 10) rfl) ?_
          exact zk_iret (pc := 67) (ty := .int) rfl rfl ⟨by omega, by omega⟩ hf (show u1_ = tkv (zrr P_ T_ (zCo P_ d_ Mz) (a2_).toNat) a0_ a1_ by exact tkv_0 (by omega) hk0_) (zdal_p dlB_Group_countKept_131 (i := 11) rfl)
      · skip
        refine zw_aload_n (pc := 18) (n := 0) (x := (d_ + 1)) rfl (zdal_p dlB_Group_countKept_130 (i := 10) rfl) ?_
        refine zw_iload (pc := 19) (i := 6) (x := Int32.ofInt u3_) rfl (zdal_p dlB_Group_countKept_130 (i := 11) rfl) ?_
        refine zw_iload_n (pc := 21) (n := 3) (x := Int32.ofInt a2_) rfl (zdal_p dlB_Group_countKept_130 (i := 12) rfl) ?_
        refine zk_callV hf.x (pc := 22) [.int (Int32.ofInt u3_), .int (Int32.ofInt a2_)] [] l_Group_103 (u_Group_placesReachedG l d_ Mz (hf.w hW) u3_ hu3_a hu3_b a2_ ha2_a ha2_b T_ hT_ P_ mv_ p0_ p1_ (show 0 ≤ u3_ by first | with_reducible assumption | assumption | omega) (show u3_ < (P_ : Int) by first | with_reducible assumption | assumption | omega) (show 0 ≤ a2_ by first | with_reducible assumption | assumption | omega) (show a2_ < 16777216 by first | with_reducible assumption | assumption | omega)) rfl rfl ((hf.w hW).kr (o := 1) (by decide)) (by decide) (by decide) (Nat.le_of_ble_eq_true rfl) (zdal_p dlB_Group_countKept_130 (i := 13) rfl) ?_
        rintro _ N13_ ⟨v14_, rfl, ⟨hv14_a, hv14_b⟩, hsN13_, hp0_N13_⟩
        obtain rfl := hsN13_.eq.symm
        replace hp0_N13_ : zImg (fun m_ => (a2_).toNat.testBit m_ = true) (fun m_ => gdg (zCo P_ d_ Mz m_) (u3_).toNat) (gN T_) v14_ := hp0_N13_
        show zW l m_Group_countKept (zn Mz + 0, zw Mz + 0) Mz 25 [some (.ref (d_ + 1)), some (.int (Int32.ofInt a0_)), some (.int (Int32.ofInt a1_)), some (.int (Int32.ofInt a2_)), some (.int (Int32.ofInt u1_)), some (.int (Int32.ofInt u2_)), some (.int (Int32.ofInt u3_)), none] [.int (Int32.ofInt v14_)] _
        have hR_ := zImg_r hp0_N13_
        have hp4_ := p4_.1 (u3_).toNat (by omega)
        have hq0_ := tk_q0 hR_ (show 0 ≤ u3_ by omega) (by omega)
        have hq1_ := tk_q1 hR_ (show 0 ≤ u3_ by omega) (by omega) (Nat.lt_of_lt_of_le hp4_.1 h64_) hp4_.2
        refine zw_istore (pc := 25) (i := 7) (L2 := [some (.ref (d_ + 1)), some (.int (Int32.ofInt a0_)), some (.int (Int32.ofInt a1_)), some (.int (Int32.ofInt a2_)), some (.int (Int32.ofInt u1_)), some (.int (Int32.ofInt u2_)), some (.int (Int32.ofInt u3_)), some (.int (Int32.ofInt v14_))]) (by decide) rfl (zdal_p dlB_Group_countKept_130 (i := 14) rfl) ?_
        refine zw_iload (pc := 27) (i := 7) (x := Int32.ofInt v14_) rfl (zdal_p dlB_Group_countKept_130 (i := 15) rfl) ?_
        refine zw_iconst (pc := 29) (v := Int32.ofInt 1) (by decide) (zdal_p dlB_Group_countKept_130 (i := 16) rfl) ?_
        refine zw_iload (pc := 30) (i := 6) (x := Int32.ofInt u3_) rfl (zdal_p dlB_Group_countKept_130 (i := 17) rfl) ?_
        refine zr_ishl (pc := 32) (zdal_p dlB_Group_countKept_130 (i := 18) rfl) ?_
        have hr15_ := zshl_r 1 u3_
        refine zr_icmp_ne (pc := 33) (tgt := 39) ⟨hv14_a, hv14_b⟩ ⟨(by omega), (by omega)⟩ (by decide) (zdal_p dlB_Group_countKept_130 (i := 19) rfl) (fun hc_33 => ?_) (fun hc_33 => ?_)
        · skip
          refine zw_iload (pc := 39) (i := 7) (x := Int32.ofInt v14_) rfl (zdal_p dlB_Group_countKept_130 (i := 21) rfl) ?_
          refine zw_iload (pc := 41) (i := 7) (x := Int32.ofInt v14_) rfl (zdal_p dlB_Group_countKept_130 (i := 22) rfl) ?_
          refine zr_ineg (pc := 43) (zdal_p dlB_Group_countKept_130 (i := 23) rfl) ?_
          refine zr_iand (pc := 44) (zdal_p dlB_Group_countKept_131 (i := 0) rfl) ?_
          have hr16_ := zand_r v14_ (-v14_)
          refine zw_iconst (pc := 45) (v := Int32.ofInt 1) (by decide) (zdal_p dlB_Group_countKept_131 (i := 1) rfl) ?_
          refine zw_iload (pc := 46) (i := 6) (x := Int32.ofInt u3_) rfl (zdal_p dlB_Group_countKept_131 (i := 2) rfl) ?_
          refine zr_ishl (pc := 48) (zdal_p dlB_Group_countKept_131 (i := 3) rfl) ?_
          have hr17_ := zshl_r 1 u3_
          refine zr_icmp_ne (pc := 49) (tgt := 55) ⟨(by omega), (by omega)⟩ ⟨(by omega), (by omega)⟩ (by decide) (zdal_p dlB_Group_countKept_131 (i := 4) rfl) (fun hc_49 => ?_) (fun hc_49 => ?_)
          · skip
            refine zr_iinc (pc := 55) (i := 6) (a := u3_) (n := 1) (L2 := [some (.ref (d_ + 1)), some (.int (Int32.ofInt a0_)), some (.int (Int32.ofInt a1_)), some (.int (Int32.ofInt a2_)), some (.int (Int32.ofInt u1_)), some (.int (Int32.ofInt u2_)), some (.int (Int32.ofInt (u3_ + 1))), some (.int (Int32.ofInt v14_))]) rfl (by decide) rfl (zdal_p dlB_Group_countKept_131 (i := 6) rfl) ?_
            refine zw_goto (pc := 58) (tgt := 9) (by decide) (zdal_p dlB_Group_countKept_131 (i := 7) rfl) ?_
            have hk0n_ : u1_ = ((zct (fun p_ => (zrch (gN T_) (zCo P_ d_ Mz) (a2_).toNat p_) = 2 ^ p_) ((u3_ + 1)).toNat : Nat) : Int) := by first | exact zct_1 (p := (fun p_ => (zrch (gN T_) (zCo P_ d_ Mz) (a2_).toNat p_) = 2 ^ p_)) (by omega) hk0_ (hq0_.mp (by first | with_reducible assumption | assumption)) | exact zct_0 (p := (fun p_ => (zrch (gN T_) (zCo P_ d_ Mz) (a2_).toNat p_) = 2 ^ p_)) (by omega) hk0_ (fun q_ => absurd (hq0_.mpr q_) (by first | with_reducible assumption | assumption))
            have hkpn_ : u2_ = ((zct (fun p_ => (zrch (gN T_) (zCo P_ d_ Mz) (a2_).toNat p_) % 2 ^ p_ = 0) ((u3_ + 1)).toNat : Nat) : Int) := by first | exact zct_1 (p := (fun p_ => (zrch (gN T_) (zCo P_ d_ Mz) (a2_).toNat p_) % 2 ^ p_ = 0)) (by omega) hkp_ (hq1_.mp (by first | with_reducible assumption | assumption)) | exact zct_0 (p := (fun p_ => (zrch (gN T_) (zCo P_ d_ Mz) (a2_).toNat p_) % 2 ^ p_ = 0)) (by omega) hkp_ (fun q_ => absurd (hq1_.mpr q_) (by first | with_reducible assumption | assumption))
            refine zW_le [some (.ref (d_ + 1)), some (.int (Int32.ofInt a0_)), some (.int (Int32.ofInt a1_)), some (.int (Int32.ofInt a2_)), some (.int (Int32.ofInt u1_)), some (.int (Int32.ofInt u2_)), some (.int (Int32.ofInt (u3_ + 1))), none] (⟨rfl, rfl, rfl, rfl, rfl, rfl, rfl, trivial⟩) ?_
            exact ih_9 u1_ hu1_a hu1_b u2_ hu2_a hu2_b (u3_ + 1) (by omega) (by omega) (show 0 ≤ (u3_ + 1) by first | with_reducible assumption | assumption | omega) (show (u3_ + 1) ≤ P_ by first | with_reducible assumption | assumption | omega) (show u1_ = ((zct (fun p_ => (zrch (gN T_) (zCo P_ d_ Mz) (a2_).toNat p_) = 2 ^ p_) ((u3_ + 1)).toNat : Nat) : Int) by exact hk0n_) (show u2_ = ((zct (fun p_ => (zrch (gN T_) (zCo P_ d_ Mz) (a2_).toNat p_) % 2 ^ p_ = 0) ((u3_ + 1)).toNat : Nat) : Int) by exact hkpn_) (show (0 ≤ u1_ ∧ u1_ ≤ (u3_ + 1)) ∧ 0 ≤ u2_ ∧ u2_ ≤ (u3_ + 1) by first | with_reducible assumption | assumption | omega) (by omega)
          · skip
            refine zr_iinc (pc := 52) (i := 5) (a := u2_) (n := 1) (L2 := [some (.ref (d_ + 1)), some (.int (Int32.ofInt a0_)), some (.int (Int32.ofInt a1_)), some (.int (Int32.ofInt a2_)), some (.int (Int32.ofInt u1_)), some (.int (Int32.ofInt (u2_ + 1))), some (.int (Int32.ofInt u3_)), some (.int (Int32.ofInt v14_))]) rfl (by decide) rfl (zdal_p dlB_Group_countKept_131 (i := 5) rfl) ?_
            refine zr_iinc (pc := 55) (i := 6) (a := u3_) (n := 1) (L2 := [some (.ref (d_ + 1)), some (.int (Int32.ofInt a0_)), some (.int (Int32.ofInt a1_)), some (.int (Int32.ofInt a2_)), some (.int (Int32.ofInt u1_)), some (.int (Int32.ofInt (u2_ + 1))), some (.int (Int32.ofInt (u3_ + 1))), some (.int (Int32.ofInt v14_))]) rfl (by decide) rfl (zdal_p dlB_Group_countKept_131 (i := 6) rfl) ?_
            refine zw_goto (pc := 58) (tgt := 9) (by decide) (zdal_p dlB_Group_countKept_131 (i := 7) rfl) ?_
            have hk0n_ : u1_ = ((zct (fun p_ => (zrch (gN T_) (zCo P_ d_ Mz) (a2_).toNat p_) = 2 ^ p_) ((u3_ + 1)).toNat : Nat) : Int) := by first | exact zct_1 (p := (fun p_ => (zrch (gN T_) (zCo P_ d_ Mz) (a2_).toNat p_) = 2 ^ p_)) (by omega) hk0_ (hq0_.mp (by first | with_reducible assumption | assumption)) | exact zct_0 (p := (fun p_ => (zrch (gN T_) (zCo P_ d_ Mz) (a2_).toNat p_) = 2 ^ p_)) (by omega) hk0_ (fun q_ => absurd (hq0_.mpr q_) (by first | with_reducible assumption | assumption))
            have hkpn_ : (u2_ + 1) = ((zct (fun p_ => (zrch (gN T_) (zCo P_ d_ Mz) (a2_).toNat p_) % 2 ^ p_ = 0) ((u3_ + 1)).toNat : Nat) : Int) := by first | exact zct_1 (p := (fun p_ => (zrch (gN T_) (zCo P_ d_ Mz) (a2_).toNat p_) % 2 ^ p_ = 0)) (by omega) hkp_ (hq1_.mp (by first | with_reducible assumption | assumption)) | exact zct_0 (p := (fun p_ => (zrch (gN T_) (zCo P_ d_ Mz) (a2_).toNat p_) % 2 ^ p_ = 0)) (by omega) hkp_ (fun q_ => absurd (hq1_.mpr q_) (by first | with_reducible assumption | assumption))
            refine zW_le [some (.ref (d_ + 1)), some (.int (Int32.ofInt a0_)), some (.int (Int32.ofInt a1_)), some (.int (Int32.ofInt a2_)), some (.int (Int32.ofInt u1_)), some (.int (Int32.ofInt (u2_ + 1))), some (.int (Int32.ofInt (u3_ + 1))), none] (⟨rfl, rfl, rfl, rfl, rfl, rfl, rfl, trivial⟩) ?_
            exact ih_9 u1_ hu1_a hu1_b (u2_ + 1) (by omega) (by omega) (u3_ + 1) (by omega) (by omega) (show 0 ≤ (u3_ + 1) by first | with_reducible assumption | assumption | omega) (show (u3_ + 1) ≤ P_ by first | with_reducible assumption | assumption | omega) (show u1_ = ((zct (fun p_ => (zrch (gN T_) (zCo P_ d_ Mz) (a2_).toNat p_) = 2 ^ p_) ((u3_ + 1)).toNat : Nat) : Int) by exact hk0n_) (show (u2_ + 1) = ((zct (fun p_ => (zrch (gN T_) (zCo P_ d_ Mz) (a2_).toNat p_) % 2 ^ p_ = 0) ((u3_ + 1)).toNat : Nat) : Int) by exact hkpn_) (show (0 ≤ u1_ ∧ u1_ ≤ (u3_ + 1)) ∧ 0 ≤ (u2_ + 1) ∧ (u2_ + 1) ≤ (u3_ + 1) by first | with_reducible assumption | assumption | omega) (by omega)
        · skip
          refine zr_iinc (pc := 36) (i := 4) (a := u1_) (n := 1) (L2 := [some (.ref (d_ + 1)), some (.int (Int32.ofInt a0_)), some (.int (Int32.ofInt a1_)), some (.int (Int32.ofInt a2_)), some (.int (Int32.ofInt (u1_ + 1))), some (.int (Int32.ofInt u2_)), some (.int (Int32.ofInt u3_)), some (.int (Int32.ofInt v14_))]) rfl (by decide) rfl (zdal_p dlB_Group_countKept_130 (i := 20) rfl) ?_
          refine zw_iload (pc := 39) (i := 7) (x := Int32.ofInt v14_) rfl (zdal_p dlB_Group_countKept_130 (i := 21) rfl) ?_
          refine zw_iload (pc := 41) (i := 7) (x := Int32.ofInt v14_) rfl (zdal_p dlB_Group_countKept_130 (i := 22) rfl) ?_
          refine zr_ineg (pc := 43) (zdal_p dlB_Group_countKept_130 (i := 23) rfl) ?_
          refine zr_iand (pc := 44) (zdal_p dlB_Group_countKept_131 (i := 0) rfl) ?_
          have hr18_ := zand_r v14_ (-v14_)
          refine zw_iconst (pc := 45) (v := Int32.ofInt 1) (by decide) (zdal_p dlB_Group_countKept_131 (i := 1) rfl) ?_
          refine zw_iload (pc := 46) (i := 6) (x := Int32.ofInt u3_) rfl (zdal_p dlB_Group_countKept_131 (i := 2) rfl) ?_
          refine zr_ishl (pc := 48) (zdal_p dlB_Group_countKept_131 (i := 3) rfl) ?_
          have hr19_ := zshl_r 1 u3_
          refine zr_icmp_ne (pc := 49) (tgt := 55) ⟨(by omega), (by omega)⟩ ⟨(by omega), (by omega)⟩ (by decide) (zdal_p dlB_Group_countKept_131 (i := 4) rfl) (fun hc_49 => ?_) (fun hc_49 => ?_)
          · skip
            refine zr_iinc (pc := 55) (i := 6) (a := u3_) (n := 1) (L2 := [some (.ref (d_ + 1)), some (.int (Int32.ofInt a0_)), some (.int (Int32.ofInt a1_)), some (.int (Int32.ofInt a2_)), some (.int (Int32.ofInt (u1_ + 1))), some (.int (Int32.ofInt u2_)), some (.int (Int32.ofInt (u3_ + 1))), some (.int (Int32.ofInt v14_))]) rfl (by decide) rfl (zdal_p dlB_Group_countKept_131 (i := 6) rfl) ?_
            refine zw_goto (pc := 58) (tgt := 9) (by decide) (zdal_p dlB_Group_countKept_131 (i := 7) rfl) ?_
            have hk0n_ : (u1_ + 1) = ((zct (fun p_ => (zrch (gN T_) (zCo P_ d_ Mz) (a2_).toNat p_) = 2 ^ p_) ((u3_ + 1)).toNat : Nat) : Int) := by first | exact zct_1 (p := (fun p_ => (zrch (gN T_) (zCo P_ d_ Mz) (a2_).toNat p_) = 2 ^ p_)) (by omega) hk0_ (hq0_.mp (by first | with_reducible assumption | assumption)) | exact zct_0 (p := (fun p_ => (zrch (gN T_) (zCo P_ d_ Mz) (a2_).toNat p_) = 2 ^ p_)) (by omega) hk0_ (fun q_ => absurd (hq0_.mpr q_) (by first | with_reducible assumption | assumption))
            have hkpn_ : u2_ = ((zct (fun p_ => (zrch (gN T_) (zCo P_ d_ Mz) (a2_).toNat p_) % 2 ^ p_ = 0) ((u3_ + 1)).toNat : Nat) : Int) := by first | exact zct_1 (p := (fun p_ => (zrch (gN T_) (zCo P_ d_ Mz) (a2_).toNat p_) % 2 ^ p_ = 0)) (by omega) hkp_ (hq1_.mp (by first | with_reducible assumption | assumption)) | exact zct_0 (p := (fun p_ => (zrch (gN T_) (zCo P_ d_ Mz) (a2_).toNat p_) % 2 ^ p_ = 0)) (by omega) hkp_ (fun q_ => absurd (hq1_.mpr q_) (by first | with_reducible assumption | assumption))
            refine zW_le [some (.ref (d_ + 1)), some (.int (Int32.ofInt a0_)), some (.int (Int32.ofInt a1_)), some (.int (Int32.ofInt a2_)), some (.int (Int32.ofInt (u1_ + 1))), some (.int (Int32.ofInt u2_)), some (.int (Int32.ofInt (u3_ + 1))), none] (⟨rfl, rfl, rfl, rfl, rfl, rfl, rfl, trivial⟩) ?_
            exact ih_9 (u1_ + 1) (by omega) (by omega) u2_ hu2_a hu2_b (u3_ + 1) (by omega) (by omega) (show 0 ≤ (u3_ + 1) by first | with_reducible assumption | assumption | omega) (show (u3_ + 1) ≤ P_ by first | with_reducible assumption | assumption | omega) (show (u1_ + 1) = ((zct (fun p_ => (zrch (gN T_) (zCo P_ d_ Mz) (a2_).toNat p_) = 2 ^ p_) ((u3_ + 1)).toNat : Nat) : Int) by exact hk0n_) (show u2_ = ((zct (fun p_ => (zrch (gN T_) (zCo P_ d_ Mz) (a2_).toNat p_) % 2 ^ p_ = 0) ((u3_ + 1)).toNat : Nat) : Int) by exact hkpn_) (show (0 ≤ (u1_ + 1) ∧ (u1_ + 1) ≤ (u3_ + 1)) ∧ 0 ≤ u2_ ∧ u2_ ≤ (u3_ + 1) by first | with_reducible assumption | assumption | omega) (by omega)
          · skip
            refine zr_iinc (pc := 52) (i := 5) (a := u2_) (n := 1) (L2 := [some (.ref (d_ + 1)), some (.int (Int32.ofInt a0_)), some (.int (Int32.ofInt a1_)), some (.int (Int32.ofInt a2_)), some (.int (Int32.ofInt (u1_ + 1))), some (.int (Int32.ofInt (u2_ + 1))), some (.int (Int32.ofInt u3_)), some (.int (Int32.ofInt v14_))]) rfl (by decide) rfl (zdal_p dlB_Group_countKept_131 (i := 5) rfl) ?_
            refine zr_iinc (pc := 55) (i := 6) (a := u3_) (n := 1) (L2 := [some (.ref (d_ + 1)), some (.int (Int32.ofInt a0_)), some (.int (Int32.ofInt a1_)), some (.int (Int32.ofInt a2_)), some (.int (Int32.ofInt (u1_ + 1))), some (.int (Int32.ofInt (u2_ + 1))), some (.int (Int32.ofInt (u3_ + 1))), some (.int (Int32.ofInt v14_))]) rfl (by decide) rfl (zdal_p dlB_Group_countKept_131 (i := 6) rfl) ?_
            refine zw_goto (pc := 58) (tgt := 9) (by decide) (zdal_p dlB_Group_countKept_131 (i := 7) rfl) ?_
            have hk0n_ : (u1_ + 1) = ((zct (fun p_ => (zrch (gN T_) (zCo P_ d_ Mz) (a2_).toNat p_) = 2 ^ p_) ((u3_ + 1)).toNat : Nat) : Int) := by first | exact zct_1 (p := (fun p_ => (zrch (gN T_) (zCo P_ d_ Mz) (a2_).toNat p_) = 2 ^ p_)) (by omega) hk0_ (hq0_.mp (by first | with_reducible assumption | assumption)) | exact zct_0 (p := (fun p_ => (zrch (gN T_) (zCo P_ d_ Mz) (a2_).toNat p_) = 2 ^ p_)) (by omega) hk0_ (fun q_ => absurd (hq0_.mpr q_) (by first | with_reducible assumption | assumption))
            have hkpn_ : (u2_ + 1) = ((zct (fun p_ => (zrch (gN T_) (zCo P_ d_ Mz) (a2_).toNat p_) % 2 ^ p_ = 0) ((u3_ + 1)).toNat : Nat) : Int) := by first | exact zct_1 (p := (fun p_ => (zrch (gN T_) (zCo P_ d_ Mz) (a2_).toNat p_) % 2 ^ p_ = 0)) (by omega) hkp_ (hq1_.mp (by first | with_reducible assumption | assumption)) | exact zct_0 (p := (fun p_ => (zrch (gN T_) (zCo P_ d_ Mz) (a2_).toNat p_) % 2 ^ p_ = 0)) (by omega) hkp_ (fun q_ => absurd (hq1_.mpr q_) (by first | with_reducible assumption | assumption))
            refine zW_le [some (.ref (d_ + 1)), some (.int (Int32.ofInt a0_)), some (.int (Int32.ofInt a1_)), some (.int (Int32.ofInt a2_)), some (.int (Int32.ofInt (u1_ + 1))), some (.int (Int32.ofInt (u2_ + 1))), some (.int (Int32.ofInt (u3_ + 1))), none] (⟨rfl, rfl, rfl, rfl, rfl, rfl, rfl, trivial⟩) ?_
            exact ih_9 (u1_ + 1) (by omega) (by omega) (u2_ + 1) (by omega) (by omega) (u3_ + 1) (by omega) (by omega) (show 0 ≤ (u3_ + 1) by first | with_reducible assumption | assumption | omega) (show (u3_ + 1) ≤ P_ by first | with_reducible assumption | assumption | omega) (show (u1_ + 1) = ((zct (fun p_ => (zrch (gN T_) (zCo P_ d_ Mz) (a2_).toNat p_) = 2 ^ p_) ((u3_ + 1)).toNat : Nat) : Int) by exact hk0n_) (show (u2_ + 1) = ((zct (fun p_ => (zrch (gN T_) (zCo P_ d_ Mz) (a2_).toNat p_) % 2 ^ p_ = 0) ((u3_ + 1)).toNat : Nat) : Int) by exact hkpn_) (show (0 ≤ (u1_ + 1) ∧ (u1_ + 1) ≤ (u3_ + 1)) ∧ 0 ≤ (u2_ + 1) ∧ (u2_ + 1) ≤ (u3_ + 1) by first | with_reducible assumption | assumption | omega) (by omega)
  exact lp_9 _ 0 (by decide) (by decide) 0 (by decide) (by decide) 0 (by decide) (by decide) (show 0 ≤ (0 : Int) by first | with_reducible assumption | assumption | omega) (show (0 : Int) ≤ P_ by first | with_reducible assumption | assumption | omega) (show (0 : Int) = ((zct (fun p_ => (zrch (gN T_) (zCo P_ d_ Mz) (a2_).toNat p_) = 2 ^ p_) ((0 : Int)).toNat : Nat) : Int) by rfl) (show (0 : Int) = ((zct (fun p_ => (zrch (gN T_) (zCo P_ d_ Mz) (a2_).toNat p_) % 2 ^ p_ = 0) ((0 : Int)).toNat : Nat) : Int) by rfl) (show (0 ≤ (0 : Int) ∧ (0 : Int) ≤ (0 : Int)) ∧ 0 ≤ (0 : Int) ∧ (0 : Int) ≤ (0 : Int) by first | with_reducible assumption | assumption | omega) (Nat.lt_succ_self _)
