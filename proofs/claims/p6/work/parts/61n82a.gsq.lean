def zsqA (F : Nat) (K : Nat → Nat → Int) (m : Nat → Int) : Nat → Nat → Int
  | 0 => fun _ => 0
  | k + 1 => fun i => if i = F - 1 - k then (m (F - 1 - k) - zsm (fun t => zsqA F K m k (F - 1 - k + 1 + t) * K (F - 1 - k + 1 + t) (F - 1 - k)) k).tdiv (K (F - 1 - k) (F - 1 - k)) else zsqA F K m k i
def zsq (F : Nat) (K : Nat → Nat → Int) (m : Nat → Int) : Nat → Int := zsqA F K m F
section ZSQ
variable {F : Nat} {K : Nat → Nat → Int} {m m' : Nat → Int}
theorem zsqA_st {k : Nat} : ∀ d, k + d ≤ F → ∀ i, F - k ≤ i → i < F → zsqA F K m (k + d) i = zsqA F K m k i
  | 0, _, _, _, _ => rfl
  | d + 1, h, i, h1, h2 => by
    have e : zsqA F K m (k + d + 1) i = zsqA F K m (k + d) i := by
      show (if i = F - 1 - (k + d) then _ else zsqA F K m (k + d) i) = _
      rw [if_neg (by omega)]
    rw [show k + (d + 1) = k + d + 1 by omega, e]
    exact zsqA_st d (by (exact zo_1087 h)) i h1 h2
theorem zsq_e {j : Nat} (hj : j < F) : zsq F K m j = (m j - zsm (fun t => zsq F K m (j + 1 + t) * K (j + 1 + t) j) (F - 1 - j)).tdiv (K j j) := by
  have e1 : zsq F K m j = zsqA F K m (F - 1 - j + 1) j := by
    have h := zsqA_st (F := F) (K := K) (m := m) (k := F - 1 - j + 1) j (by omega) j (by omega) hj
    rw [show F - 1 - j + 1 + j = F by omega] at h
    exact h
  have e2 : zsqA F K m (F - 1 - j + 1) j = (m (F - 1 - (F - 1 - j)) - zsm (fun t => zsqA F K m (F - 1 - j) (F - 1 - (F - 1 - j) + 1 + t) * K (F - 1 - (F - 1 - j) + 1 + t) (F - 1 - (F - 1 - j))) (F - 1 - j)).tdiv (K (F - 1 - (F - 1 - j)) (F - 1 - (F - 1 - j))) := by
    show (if j = F - 1 - (F - 1 - j) then _ else _) = _
    rw [if_pos (by omega)]
  rw [e1, e2, show F - 1 - (F - 1 - j) = j by omega]
  congr 2
  refine zsm_c _ (fun t ht => ?_)
  congr 1
  have h := zsqA_st (F := F) (K := K) (m := m) (k := F - 1 - j) (j + 1) (by omega) (j + 1 + t) (by omega) (by omega)
  rw [show F - 1 - j + (j + 1) = F by omega] at h
  exact h.symm
theorem zsq_b (hA : zTA F K) (hm : ∀ j, j < F → -1000000 ≤ m j ∧ m j ≤ 1000000) : ∀ i, i < F → -200000000000 ≤ zsq F K m i ∧ zsq F K m i ≤ 200000000000 := fun i hi => by
  have hq : ∀ j, j < F → (zmq F K (zsq F K m) j).natAbs ≤ 1000024 := fun j hj => by
    have h1 := zmq_tail hA (u := zsq F K m) hj
    have h2 := zsq_e (K := K) (m := m) hj
    have h3 := hm j hj
    have h4 := hA.2.1 j j hj hj
    have h5 := hA.2.2.2.1 j hj
    generalize hr : m j - zsm (fun t => zsq F K m (j + 1 + t) * K (j + 1 + t) j) (F - 1 - j) = r at h2
    have h6 := Int.tmod_def r (K j j)
    have h7 : (r.tmod (K j j)).natAbs ≤ 24 := by
      rw [Int.natAbs_tmod]
      have h8 : r.natAbs % (K j j).natAbs < (K j j).natAbs := Nat.mod_lt _ (by omega)
      exact Nat.le_trans (Nat.le_of_lt h8) (by omega)
    have h9 : zsq F K m j * K j j = r - r.tmod (K j j) := by
      rw [h2, Int.mul_comm]
      omega
    rw [h1, h9]
    omega
  have hw := hA.2.2.2.2.2.1 (fun k => 500000 * zsq F K m k) (fun j hj => by
    rw [zmq_mul]
    have h1 := hq j hj
    unfold zLim
    omega) i hi
  have h5 := hA.2.2.2.1 i hi
  have h1 : (500000 * zsq F K m i * K i i).natAbs = (500000 * zsq F K m i).natAbs * (K i i).natAbs := Int.natAbs_mul _ _
  have h2 : (500000 * zsq F K m i).natAbs * 1 ≤ (500000 * zsq F K m i).natAbs * (K i i).natAbs := Nat.mul_le_mul_left _ (by omega)
  have hw2 : -100000000000000000 ≤ 500000 * zsq F K m i * K i i ∧ 500000 * zsq F K m i * K i i ≤ 100000000000000000 := hw
  omega
theorem zsq_lm (hA : zTA F K) (hm : ∀ j, j < F → -1000000 ≤ m j ∧ m j ≤ 1000000) : zlm F (zsq F K m) := fun k hk => by
  have h := zsq_b hA hm k hk
  unfold zLim
  omega
theorem zsq_c (h : ∀ j, j < F → m j = m' j) : ∀ d j, F - j ≤ d → j < F → zsq F K m j = zsq F K m' j
  | 0, _, h1, h2 => absurd h1 (by omega)
  | d + 1, j, h1, h2 => by
    rw [zsq_e h2, zsq_e h2, h j h2]
    congr 2
    refine zsm_c _ (fun t ht => ?_)
    rw [zsq_c h d (j + 1 + t) (by omega) (by omega)]
theorem zsq_cc (h : ∀ j, j < F → m j = m' j) : ∀ j, j < F → zsq F K m j = zsq F K m' j := fun j hj => zsq_c h F j (by omega) hj
def zrX (F : Nat) (K : Nat → Nat → Int) (m : Nat → Int) (r j i : Int) : Prop := Int64.ofInt r = Int64.ofInt (m j.toNat - zsm (fun t => zsq F K m (j.toNat + 1 + t) * K (j.toNat + 1 + t) j.toNat) (i - j - 1).toNat)
theorem zrX_0 {r j : Int} (hr : r = m j.toNat) : zrX F K m r j (j + 1) := by
  unfold zrX
  rw [show (j + 1 - j - 1).toNat = 0 by (exact zo_1030), hr]
  show _ = Int64.ofInt (_ - 0)
  rw [Int.sub_zero]
theorem zrX_s {r v x y i j : Int} (h : zrX F K m r j i) (hv : Int64.ofInt v = Int64.ofInt (r - x * y)) (j0 : 0 ≤ j) (ji : j < i) (iF : i < F) (hx : x = zsq F K m i.toNat) (hy : y = K i.toNat j.toNat) : zrX F K m v j (i + 1) := by
  have ei : j.toNat + 1 + (i - j - 1).toNat = i.toNat := by (exact zo_2191 j0 ji)
  unfold zrX at h ⊢
  rw [show (i + 1 - j - 1).toNat = (i - j - 1).toNat + 1 by (exact zo_2192 ji)]
  show _ = Int64.ofInt (_ - (zsm _ (i - j - 1).toNat + zsq F K m (j.toNat + 1 + (i - j - 1).toNat) * K (j.toNat + 1 + (i - j - 1).toNat) j.toNat))
  rw [ei, hv, Int64.ofInt_sub, h, ← Int64.ofInt_sub, hx, hy]
  congr 1
  omega
theorem zrX_e (hA : zTA F K) (hm : ∀ j, j < F → -1000000 ≤ m j ∧ m j ≤ 1000000) {r j i q o : Int} (h : zrX F K m r j i) (hi : i = (F : Int)) (hr : zn64 r) (j0 : 0 ≤ j) (jF : j < F) (ho : o = K j.toNat j.toNat) (hq : q = zlquo r o) : q = zsq F K m j.toNat := by
  have hjn : j.toNat < F := by (exact zo_1085 j0 jF)
  unfold zrX at h
  rw [hi, show ((F : Int) - j - 1).toNat = F - 1 - j.toNat by omega] at h
  have h2 := zsq_e (K := K) (m := m) hjn
  have hb : (zsm (fun t => zsq F K m (j.toNat + 1 + t) * K (j.toNat + 1 + t) j.toNat) (F - 1 - j.toNat)).natAbs ≤ (F - 1 - j.toNat) * (200000000000 * 24) := zsm_b _ (fun t ht => by
    rw [Int.natAbs_mul]
    have h3 := zsq_b hA hm (j.toNat + 1 + t) (by omega)
    have h4 := hA.2.1 (j.toNat + 1 + t) j.toNat (by omega) hjn
    exact Nat.mul_le_mul (by omega) (by omega))
  have hF := hA.1.2
  have hb2 : (F - 1 - j.toNat) * (200000000000 * 24) ≤ 27 * (200000000000 * 24) := Nat.mul_le_mul_right _ (by omega)
  have hmj := hm j.toNat hjn
  have e := z64q hr ⟨by omega, by omega⟩ h
  have h4 := hA.2.1 j.toNat j.toNat hjn hjn
  have h5 := hA.2.2.2.1 j.toNat hjn
  rw [hq, ho, zq_t (by omega) (by omega) (by (exact h5)) (by omega), h2, e]
end ZSQ
def tkf : Nat → List (List Nat)
  | 0 => [[]]
  | k + 1 => (tkf k).flatMap (fun l => ((List.range (k + 1)).filter (fun v => v == k || l.getD v 0 == v)).map (fun v => l ++ [v]))
def tkb (l : List Nat) (v : Nat) : Nat → Nat
  | 0 => 0
  | q + 1 => if l.getD q 0 = v then tkb l v q ||| 2 ^ q else tkb l v q
def tkrow (l : List Nat) : List Nat := (List.range l.length).map (fun p => tkb l (l.getD p 0) l.length)
def tkall (P : Nat) : List (List Nat) := (tkf P).map tkrow
def pop6 (s : Nat) : Nat := s % 2 + s / 2 % 2 + s / 4 % 2 + s / 8 % 2 + s / 16 % 2 + s / 32 % 2
def tk0 (r : List Nat) : Nat := ((List.range r.length).filter (fun p => r.getD p 0 == 2 ^ p)).length
def tkp (r : List Nat) : Nat := ((List.range r.length).filter (fun p => r.getD p 0 % 2 ^ p == 0)).length
def tkc (r : List Nat) : List Nat := (List.range (2 ^ r.length)).filter (fun s => (List.range r.length).all (fun p => !s.testBit p || r.getD p 0 &&& s == r.getD p 0))
def tks (r : List Nat) (n : Nat) : Nat := ((tkc r).filter (fun s => pop6 s == n)).length
def tkm (r : List Nat) : Nat → Nat × List Nat
  | 0 => (0, [])
  | p + 1 => if (tkm r p).1.testBit p then tkm r p else ((tkm r p).1 ||| r.getD p 0, (tkm r p).2 ++ [pop6 (r.getD p 0)])
def tkz (r : List Nat) : List Nat := (tkm r r.length).2
def tkn (z : List Nat) : Nat → Nat → Nat
  | 0, k => if k = 0 then 1 else 0
  | q + 1, k => if z.getD q 0 ≤ k then tkn z q k + tkn z q (k - z.getD q 0) else tkn z q k
def tko (z : List Nat) : Nat → Nat
  | 0 => 0
  | q + 1 => if z.getD q 0 = 1 then tko z q + 1 else tko z q
def tkone (z : List Nat) : Nat := tko z z.length
def tkchk (r : List Nat) : Bool := tk0 r == tkone (tkz r) && (tkp r == (tkz r).length && (List.range 7).all (fun n => tks r n == tkn (tkz r) (tkz r).length n))
theorem tkchk_1 : (List.range 6).all (fun P => (tkall P).all tkchk) = true := by decide +kernel
theorem tkchk_6 : (tkall 6).all tkchk = true := by decide +kernel
theorem tkchk_s {P : Nat} {r : List Nat} (hP : P ≤ 6) (h : r ∈ tkall P) : tk0 r = tkone (tkz r) ∧ tkp r = (tkz r).length ∧ ∀ n, n ≤ 6 → tks r n = tkn (tkz r) (tkz r).length n := by
  have hc : tkchk r = true := by
    by_cases g : P = 6
    · rw [g] at h
      exact List.all_eq_true.mp tkchk_6 r h
    · exact List.all_eq_true.mp (List.all_eq_true.mp tkchk_1 P (List.mem_range.mpr (by omega))) r h
  unfold tkchk at hc
  rw [Bool.and_eq_true, Bool.and_eq_true] at hc
  obtain ⟨h1, h2, h3⟩ := hc
  refine ⟨eq_of_beq h1, eq_of_beq h2, fun n hn => ?_⟩
  exact eq_of_beq (List.all_eq_true.mp h3 n (List.mem_range.mpr (by (exact zo_2856 hn))))
def zPt (R : Nat → Nat) (P : Nat) : Prop := (∀ p, p < P → R p < 2 ^ P ∧ (R p).testBit p = true) ∧ ∀ p q, p < P → (R p).testBit q = true → R q = R p
def lwz (x : Nat) : Nat → Nat → Nat
  | 0, i => i
  | k + 1, i => if x.testBit i = true then i else lwz x k (i + 1)
theorem lwz_s {x p : Nat} (hp : x.testBit p = true) : ∀ k i, i ≤ p → p ≤ i + k → x.testBit (lwz x k i) = true ∧ lwz x k i ≤ p
  | 0, i, h1, h2 => by
    show x.testBit i = true ∧ i ≤ p
    rw [show i = p by omega]
    exact ⟨hp, Nat.le_refl _⟩
  | k + 1, i, h1, h2 => by
    show x.testBit (if x.testBit i = true then i else lwz x k (i + 1)) = true ∧ (if x.testBit i = true then i else lwz x k (i + 1)) ≤ p
    by_cases g : x.testBit i = true
    · rw [if_pos g]
      exact ⟨g, h1⟩
    · rw [if_neg g]
      have hne : i ≠ p := fun e => g (by rw [e]; exact hp)
      exact lwz_s hp k (i + 1) (by omega) (by omega)
theorem tkb_t (l : List Nat) (v : Nat) : ∀ k i, (tkb l v k).testBit i = true ↔ i < k ∧ l.getD i 0 = v
  | 0, i => by
    show Nat.testBit 0 i = true ↔ _
    rw [Nat.zero_testBit]
    constructor
    · intro h
      cases h
    · intro h
      exact absurd h.1 (Nat.not_lt_zero _)
  | k + 1, i => by
    show (if l.getD k 0 = v then tkb l v k ||| 2 ^ k else tkb l v k).testBit i = true ↔ _
    by_cases g : l.getD k 0 = v
    · rw [if_pos g, Nat.testBit_or, Bool.or_eq_true, tkb_t l v k i, Nat.testBit_two_pow, decide_eq_true_iff]
      constructor
      · rintro (h | h)
        · exact ⟨by (exact zo_2541 h.1), h.2⟩
        · rw [← h]
          exact ⟨by (exact zo_1083), g⟩
      · rintro ⟨h1, h2⟩
        by_cases e : k = i
        · exact Or.inr e
        · exact Or.inl ⟨by omega, h2⟩
    · rw [if_neg g, tkb_t l v k i]
      constructor
      · rintro ⟨h1, h2⟩
        exact ⟨by (exact zo_2541 h1), h2⟩
      · rintro ⟨h1, h2⟩
        refine ⟨?_, h2⟩
        rcases Nat.lt_or_ge i k with h3 | h3
        · exact h3
        · rw [show i = k by omega] at h2
          exact absurd h2 g
theorem getD_mr {f : Nat → Nat} {P p : Nat} (hp : p < P) : ((List.range P).map f).getD p 0 = f p := by
  rw [List.getD_eq_getElem?_getD, List.getElem?_map, List.getElem?_range hp]
  rfl
theorem tkf_m {f : Nat → Nat} : ∀ P, (∀ p, p < P → f p ≤ p ∧ f (f p) = f p) → (List.range P).map f ∈ tkf P
  | 0, _ => List.mem_singleton.mpr rfl
  | k + 1, h => by
    have ih := tkf_m (f := f) k (fun p hp => h p (by (exact zo_2541 hp)))
    have hk := h k (by (exact zo_1083))
    rw [List.range_succ, List.map_append]
    refine List.mem_flatMap.mpr ⟨_, ih, List.mem_map.mpr ⟨f k, List.mem_filter.mpr ⟨List.mem_range.mpr (by omega), ?_⟩, rfl⟩⟩
    show (f k == k || ((List.range k).map f).getD (f k) 0 == f k) = true
    rw [Bool.or_eq_true]
    by_cases g : f k = k
    · exact Or.inl (beq_iff_eq.mpr g)
    · refine Or.inr (beq_iff_eq.mpr ?_)
      rw [getD_mr (by omega)]
      exact hk.2
theorem zPt_m {R : Nat → Nat} {P : Nat} (hP : P ≤ 6) (h : zPt R P) : (List.range P).map R ∈ tkall P := by
  obtain ⟨h1, h2⟩ := h
  have hl : ∀ p, p < P → (R p).testBit (lwz (R p) 6 0) = true ∧ lwz (R p) 6 0 ≤ p := fun p hp => lwz_s (h1 p hp).2 6 0 (by omega) (by omega)
  refine List.mem_map.mpr ⟨(List.range P).map (fun p => lwz (R p) 6 0), tkf_m P (fun p hp => ⟨(hl p hp).2, ?_⟩), ?_⟩
  · show lwz (R (lwz (R p) 6 0)) 6 0 = lwz (R p) 6 0
    rw [h2 p _ hp (hl p hp).1]
  · unfold tkrow
    rw [List.length_map, List.length_range]
    refine List.map_congr_left (fun p hp => ?_)
    rw [List.mem_range] at hp
    rw [getD_mr hp]
    refine Nat.eq_of_testBit_eq fun i => ?_
    rw [Bool.eq_iff_iff, tkb_t]
    constructor
    · rintro ⟨hi, e⟩
      rw [getD_mr hi] at e
      have e2 : R i = R p := by
        rw [← h2 i _ hi (hl i hi).1, e]
        exact h2 p _ hp (hl p hp).1
      rw [← e2]
      exact (h1 i hi).2
    · intro hi
      have hiP : i < P := by
        rcases Nat.lt_or_ge i P with g | g
        · exact g
        · rw [Nat.testBit_lt_two_pow (Nat.lt_of_lt_of_le (h1 p hp).1 (Nat.pow_le_pow_right (by decide) g))] at hi
          cases hi
      refine ⟨hiP, ?_⟩
      rw [getD_mr hiP, h2 p i hp hi]
noncomputable def zrch (n : Nat) (c : Nat → Nat) (B p : Nat) : Nat := zbq (fun q => ∃ m, m < n ∧ B.testBit m = true ∧ gdg (c m) p = q) 8
theorem zrch_t {n : Nat} {c : Nat → Nat} {B p q : Nat} : (zrch n c B p).testBit q = true ↔ ∃ m, m < n ∧ B.testBit m = true ∧ gdg (c m) p = q := by
  unfold zrch
  rw [zbq_t]
  constructor
  · intro h
    exact h.2
  · rintro ⟨m, h1, h2, h3⟩
    exact ⟨by rw [← h3]; exact gdg_lt _ _, m, h1, h2, h3⟩
theorem zrch_c {n : Nat} {c c' : Nat → Nat} {B p : Nat} (h : ∀ i, i < n → c i = c' i) : zrch n c B p = zrch n c' B p := by
  refine Nat.eq_of_testBit_eq fun i => ?_
  rw [Bool.eq_iff_iff, zrch_t, zrch_t]
  constructor
  · rintro ⟨m, h1, h2, h3⟩
    exact ⟨m, h1, h2, by rw [← h m h1]; exact h3⟩
  · rintro ⟨m, h1, h2, h3⟩
    exact ⟨m, h1, h2, by rw [h m h1]; exact h3⟩
theorem zImg_r {n : Nat} {c : Nat → Nat} {B p : Nat} {v : Int} (h : zImg (fun m => B.testBit m = true) (fun m => gdg (c m) p) n v) : v = ((zrch n c B p : Nat) : Int) := by
  have e : v.toNat = zrch n c B p := Nat.eq_of_testBit_eq fun i => by
    rw [Bool.eq_iff_iff, zrch_t]
    exact h.2 i
  have := h.1
  omega
section ZRCH
variable {mv : List Nat} {T : zGT} {c : Nat → Nat} {B P : Nat}
theorem gTb_0 (hT : gTb mv c T) (hp : ∀ g ∈ mv, gpm g) : (∀ i, i < gN T → gpm (c i)) ∧ c 0 = gid := by
  obtain ⟨a1, a2, a3, a4, a5⟩ := hT
  have hO := gTabs_ok T a1
  have h1 := hO.1.1
  have hc : ∀ i, i < gN T → gpm (c i) := fun i hi => ((a2 (c i)).mpr ⟨i, hi, rfl⟩).pm hp
  have h00 : gm T 0 0 = 0 := by
    have hb := (hO.2.1.2.2 1 hO.2.1.2.1).1.2.2
    have := hb.2 0 0 (by (exact zo_2516 h1)) (by (exact zo_2516 h1)) hb.1 hb.1
    exact Nat.testBit_one_eq_true_iff_self_eq_zero.mp this
  refine ⟨hc, ?_⟩
  have h2 := (a4 0 0 (by (exact zo_2516 h1)) (by (exact zo_2516 h1))).2
  rw [h00] at h2
  have hp0 := hc 0 (by (exact zo_2516 h1))
  refine gext hp0.1 gid_pm.1 (fun p hp => ?_)
  have h3 : gdg (c 0) p = gdg (c 0) (gdg (c 0) p) := by
    rw [← gco_d _ _ p hp, ← h2]
  rw [gid_d p hp]
  exact hp0.2.2 _ _ (hp0.2.1 p hp) hp h3.symm
theorem gCl_u (hT : gTb mv c T) (hB : gCl T B) {a : Nat} (ha : a < gN T) (hb : B.testBit a = true) : ∃ b, b < gN T ∧ B.testBit b = true ∧ gm T b a = 0 := by
  have hO := gTabs_ok T hT.1
  have hX := gTabs_ex T hT.1
  have hG := hO.1
  obtain ⟨V, ⟨hv1, hv2, -⟩, -⟩ := gOr_x hG hX ha
  have hin : ∀ k, B.testBit (gpw T a k) = true := fun k => by
    induction k with
    | zero => exact hb
    | succ k ih => exact hB.2 _ _ (gpw_lt hG ha k) ha ih hb
  by_cases g : V = 1
  · rw [g] at hv2
    have e : a = 0 := hv2
    refine ⟨0, by (exact zo_2867 ha), hB.1, ?_⟩
    rw [e]
    have hb1 := (hO.2.1.2.2 1 hO.2.1.2.1).1.2.2
    have := hb1.2 0 0 (by (exact zo_2867 ha)) (by (exact zo_2867 ha)) hb1.1 hb1.1
    exact Nat.testBit_one_eq_true_iff_self_eq_zero.mp this
  · refine ⟨gpw T a (V - 2), gpw_lt hG ha _, hin _, ?_⟩
    rw [show V - 1 = V - 2 + 1 by omega] at hv2
    exact hv2
theorem zPt_g (hT : gTb mv c T) (hp : ∀ g ∈ mv, gpm g) (hP : P ≤ 6) (hl : ∀ m, m < gN T → ∀ p, p < P → gdg (c m) p < P) (hB : B ∈ gS T) : zPt (zrch (gN T) c B) P := by
  have hO := gTabs_ok T hT.1
  have hcl := (hO.2.1.2.2 B hB).1.2.2
  have h1 := hO.1.1
  obtain ⟨hc, h0⟩ := gTb_0 hT hp
  refine ⟨fun p hp6 => ⟨?_, ?_⟩, fun p q hp6 hq => ?_⟩
  · refine Nat.lt_pow_two_of_testBit _ (fun i hi => ?_)
    rw [Bool.eq_false_iff]
    intro ht
    obtain ⟨m, m1, m2, m3⟩ := zrch_t.mp ht
    have := hl m m1 p hp6
    omega
  · refine zrch_t.mpr ⟨0, by (exact zo_2516 h1), hcl.1, ?_⟩
    rw [h0]
    exact gid_d p (by (exact zo_2869 hP hp6))
  · obtain ⟨a, a1, a2, a3⟩ := zrch_t.mp hq
    have hq6 : q < P := by
      rw [← a3]
      exact hl a a1 p hp6
    refine Nat.eq_of_testBit_eq fun i => ?_
    rw [Bool.eq_iff_iff, zrch_t, zrch_t]
    constructor
    · rintro ⟨m, m1, m2, m3⟩
      refine ⟨gm T a m, (hT.2.2.2.1 a m a1 m1).1, hcl.2 _ _ a1 m1 a2 m2, ?_⟩
      rw [(hT.2.2.2.1 a m a1 m1).2, gco_d _ _ p (by (exact zo_2869 hP hp6)), a3]
      exact m3
    · rintro ⟨m, m1, m2, m3⟩
      obtain ⟨b, b1, b2, b3⟩ := gCl_u hT hcl a1 a2
      have hbq : gdg (c b) q = p := by
        have e := (hT.2.2.2.1 b a b1 a1).2
        rw [b3, h0] at e
        have e2 : gdg (c a) (gdg (c b) q) = q := by
          rw [← gco_d _ _ q (by (exact zo_2869 hP hq6)), ← e]
          exact gid_d q (by (exact zo_2869 hP hq6))
        refine (hc a a1).2.2 _ _ ((hc b b1).2.1 q (by (exact zo_2869 hP hq6))) (by (exact zo_2869 hP hp6)) ?_
        rw [e2, a3]
      refine ⟨gm T b m, (hT.2.2.2.1 b m b1 m1).1, hcl.2 _ _ b1 m1 b2 m2, ?_⟩
      rw [(hT.2.2.2.1 b m b1 m1).2, gco_d _ _ q (by (exact zo_2869 hP hq6)), hbq]
      exact m3
end ZRCH
noncomputable def zrr (P : Nat) (T : zGT) (c : Nat → Nat) (B : Nat) : List Nat := (List.range P).map (zrch (gN T) c B)
theorem zrr_c {P : Nat} {T : zGT} {c c' : Nat → Nat} {B : Nat} (h : ∀ i, i < gN T → c i = c' i) : zrr P T c B = zrr P T c' B := List.map_congr_left (fun _ _ => zrch_c h)
theorem zrr_l {P : Nat} {T : zGT} {c : Nat → Nat} {B : Nat} : (zrr P T c B).length = P := by
  unfold zrr
  rw [List.length_map, List.length_range]
theorem zrr_g {P p : Nat} {T : zGT} {c : Nat → Nat} {B : Nat} (hp : p < P) : (zrr P T c B).getD p 0 = zrch (gN T) c B p := getD_mr hp
def tkv (r : List Nat) (what n : Int) : Int := if what = 0 then ((tk0 r : Nat) : Int) else if what = 1 then ((tks r n.toNat : Nat) : Int) else n ^ tkp r
theorem flt_c {p : Nat → Prop} {q : Nat → Bool} {n : Nat} (h : ∀ i, i < n → (p i ↔ q i = true)) : zct p n = ((List.range n).filter q).length := by
  rw [zct_l]
  congr 1
  refine List.filter_congr (fun i hi => ?_)
  rw [List.mem_range] at hi
  rw [Bool.eq_iff_iff, zPb_t]
  exact h i hi
theorem pop6_g : ∀ s, s < 64 → gcb s = pop6 s := by decide +kernel
theorem tk_lw : ∀ R : Nat, R < 64 → ∀ p : Nat, p < 6 → R.testBit p = true → (zand (R : Int) (-(R : Int)) = zshl 1 (p : Int) ↔ R % 2 ^ p = 0) := by decide +kernel
theorem tk_sh : ∀ p : Nat, p < 7 → zshl 1 (p : Int) = ((2 ^ p : Nat) : Int) := by decide +kernel
theorem tkp_6 {n : Int} (n0 : 0 ≤ n) (n6 : n ≤ 6) : ∀ k : Nat, k ≤ 6 → 0 ≤ n ^ k ∧ n ^ k ≤ 46656 := fun k hk => by
  have h : ∀ m, m < 7 → ∀ j, j < 7 → m ^ j ≤ 46656 := by decide +kernel
  have e : n ^ k = ((n.toNat ^ k : Nat) : Int) := by
    rw [Int.natCast_pow, Int.toNat_of_nonneg n0]
  have h2 := h n.toNat (by (exact zo_2870 n0 n6)) k (by (exact zo_2856 hk))
  omega
theorem tkp_l (r : List Nat) : tkp r ≤ r.length := Nat.le_trans (List.length_filter_le _ _) (by rw [List.length_range]; exact Nat.le_refl _)
section TKV
variable {P : Nat} {T : zGT} {c : Nat → Nat} {B : Nat} {what n v w : Int}
theorem tkv_0 (hw : what = 0) (hv : v = ((zct (fun p => zrch (gN T) c B p = 2 ^ p) P : Nat) : Int)) : v = tkv (zrr P T c B) what n := by
  unfold tkv
  rw [if_pos hw, hv]
  unfold tk0
  rw [zrr_l, flt_c (q := fun p => (zrr P T c B).getD p 0 == 2 ^ p) (fun i hi => by rw [zrr_g hi, beq_iff_eq])]
theorem tkp_v (hv : v = ((zct (fun p => zrch (gN T) c B p % 2 ^ p = 0) P : Nat) : Int)) : v = ((tkp (zrr P T c B) : Nat) : Int) := by
  rw [hv]
  unfold tkp
  rw [zrr_l, flt_c (q := fun p => (zrr P T c B).getD p 0 % 2 ^ p == 0) (fun i hi => by rw [zrr_g hi, beq_iff_eq])]
theorem tkv_2 (hw : what = 2) (hv : w = ((zct (fun p => zrch (gN T) c B p % 2 ^ p = 0) P : Nat) : Int)) (hq : v = n ^ w.toNat) : v = tkv (zrr P T c B) what n := by
  unfold tkv
  rw [if_neg (by omega), if_neg (by omega), hq, tkp_v hv, Int.toNat_natCast]
theorem tks_v (hP : P ≤ 6) (k : Nat) : zct (fun s => gcb s = k ∧ ∀ p, p < P → s.testBit p = true → zrch (gN T) c B p &&& s = zrch (gN T) c B p) (2 ^ P) = tks (zrr P T c B) k := by
  have h64 : 2 ^ P ≤ 64 := Nat.pow_le_pow_right (by decide) hP
  unfold tks tkc
  rw [List.filter_filter, zrr_l]
  refine flt_c (fun s hs => ?_)
  rw [Bool.and_eq_true, beq_iff_eq, pop6_g s (by omega)]
  refine and_congr Iff.rfl ?_
  rw [List.all_eq_true]
  constructor
  · intro h p hp
    rw [List.mem_range] at hp
    rw [zrr_g hp, Bool.or_eq_true]
    by_cases g : s.testBit p = true
    · exact Or.inr (beq_iff_eq.mpr (h p hp g))
    · refine Or.inl ?_
      rw [Bool.not_eq_true] at g
      rw [g]
      rfl
  · intro h p hp g
    have h2 := h p (List.mem_range.mpr hp)
    rw [zrr_g hp, Bool.or_eq_true, g] at h2
    rcases h2 with h2 | h2
    · cases h2
    · exact beq_iff_eq.mp h2
theorem tkv_1 (hP : P ≤ 6) (hw : what = 1) (hv : v = ((zct (fun s => gcb s = n.toNat ∧ ∀ p, p < P → s.testBit p = true → zrch (gN T) c B p &&& s = zrch (gN T) c B p) (2 ^ P) : Nat) : Int)) : v = tkv (zrr P T c B) what n := by
  unfold tkv
  rw [if_neg (by omega), if_pos hw, hv, tks_v hP]
theorem zpw_s {a k : Int} (h : a = n ^ k.toNat) (k0 : 0 ≤ k) : a * n = n ^ (k + 1).toNat := by
  rw [h, show (k + 1).toNat = k.toNat + 1 by (exact zo_1084 k0), Int.pow_succ]
theorem tk_q0 {p x : Int} (hx : x = ((zrch (gN T) c B p.toNat : Nat) : Int)) (p0 : 0 ≤ p) (p6 : p < 6) : x = zshl 1 p ↔ zrch (gN T) c B p.toNat = 2 ^ p.toNat := by
  have h := tk_sh p.toNat (by omega)
  rw [Int.toNat_of_nonneg p0] at h
  rw [hx, h]
  exact Int.ofNat_inj
theorem tk_q1 {p x : Int} (hx : x = ((zrch (gN T) c B p.toNat : Nat) : Int)) (p0 : 0 ≤ p) (p6 : p < 6) (h64 : zrch (gN T) c B p.toNat < 64) (hb : (zrch (gN T) c B p.toNat).testBit p.toNat = true) : zand x (-x) = zshl 1 p ↔ zrch (gN T) c B p.toNat % 2 ^ p.toNat = 0 := by
  have h := tk_lw _ h64 p.toNat (by omega) hb
  rw [Int.toNat_of_nonneg p0] at h
  rw [hx]
  exact h
theorem tkv_b (hP : P ≤ 6) (hpt : zPt (zrch (gN T) c B) P) (hw : what = 0 ∨ ((what = 1 ∨ what = 2) ∧ 0 ≤ n ∧ n ≤ 6)) : 0 ≤ tkv (zrr P T c B) what n ∧ tkv (zrr P T c B) what n ≤ 46656 := by
  have h1 : tk0 (zrr P T c B) ≤ P := by
    unfold tk0
    refine Nat.le_trans (List.length_filter_le _ _) ?_
    rw [List.length_range, zrr_l]
    exact Nat.le_refl _
  have h2 : tks (zrr P T c B) n.toNat ≤ 64 := by
    rw [← tks_v hP]
    exact Nat.le_trans (zct_b _ _) (Nat.pow_le_pow_right (by decide) hP)
  have h3 : tkp (zrr P T c B) ≤ P := by
    have h := tkp_l (zrr P T c B)
    rwa [zrr_l] at h
  unfold tkv
  by_cases g : what = 0
  · rw [if_pos g]
    omega
  · rw [if_neg g]
    by_cases g1 : what = 1
    · rw [if_pos g1]
      omega
    · rw [if_neg g1]
      exact tkp_6 (by omega) (by omega) _ (by omega)
end TKV
theorem zGc.lt {mv : List Nat} {P : Nat} {T : zGT} {d : Nat} {M : zMem} (h : zGc mv P T d M) (hP : P ≤ 6) {i p : Nat} (hi : i < gN T) (hp : p < P) : gdg (zCo P d M i) p < P := by
  rw [← h.dg hP hi hp]
  exact (h.2.2 i hi).2.2.1 p hp (by (exact zo_2869 hP hp))
theorem zCo_f {P d : Nat} {M N : zMem} {FA : List (Nat × Nat)} {CA : List Nat} {FR : List (Nat × Nat)} {CR : List Nat} (hf : zFc d FA CA FR CR M N) (hd : 5 < 38 ∧ 5 ∉ CR ∧ ∀ x ∈ FR, x.1 ≠ 5) : zCo P d N = zCo P d M := funext fun i => by
  unfold zCo
  rw [hf.r hd i]
theorem zUp_x {F d : Nat} {M N : zMem} {s j i x : Int} {u : Nat → Int} (h : zUp F d M N s u j) (ji : j < i) (iF : i < F) (s0 : 0 ≤ s) (hx : x = zg N (d + 25) (s * 27 + i).toNat) (i0 : 0 ≤ i) : x = u i.toNat := by
  rw [hx, (h _).2 (by (exact zo_2189 ji)) (by omega)]
  congr 1
  omega
theorem zcb_g {x : Int} (h0 : 0 ≤ x) (h1 : x < 2147483648) : zcb x 31 = ((gcb x.toNat : Nat) : Int) := by
  have h := zcb_n (m := x.toNat) (by omega) 31 (Nat.le_refl _)
  rw [Int.toNat_of_nonneg h0] at h
  exact h
theorem tkm_t {r : List Nat} {p : Nat} (h : (tkm r p).1.testBit p = true) : tkm r (p + 1) = tkm r p := if_pos h
theorem tkm_f {r : List Nat} {p : Nat} (h : ¬ (tkm r p).1.testBit p = true) : tkm r (p + 1) = ((tkm r p).1 ||| r.getD p 0, (tkm r p).2 ++ [pop6 (r.getD p 0)]) := if_neg h
theorem tkm_b {r : List Nat} (hr : ∀ p, r.getD p 0 < 64) : ∀ p, (tkm r p).1 < 64 ∧ (tkm r p).2.length ≤ p
  | 0 => ⟨show (0 : Nat) < 64 by decide, Nat.le_refl _⟩
  | p + 1 => by
    have ih := tkm_b hr p
    by_cases h : (tkm r p).1.testBit p = true
    · rw [tkm_t h]
      exact ⟨ih.1, by omega⟩
    · rw [tkm_f h]
      refine ⟨Nat.or_lt_two_pow (n := 6) ih.1 (hr p), ?_⟩
      show ((tkm r p).2 ++ [pop6 (r.getD p 0)]).length ≤ p + 1
      rw [List.length_append]
      show (tkm r p).2.length + 1 ≤ p + 1
      omega
theorem pop6_b (s : Nat) : pop6 s ≤ 6 := by
  unfold pop6
  omega
def zTkZ (z : List Nat) (M : zMem) : Prop := (ze M 81 63 = ((z.length : Nat) : Int) ∧ z.length ≤ 6) ∧ ∀ k : Nat, k < z.length → ze M 112 k = ((z.getD k 0 : Nat) : Int) ∧ z.getD k 0 ≤ 6
def zTkS (r : List Nat) (p : Nat) (met : Int) (M : zMem) : Prop := met = (((tkm r p).1 : Nat) : Int) ∧ zTkZ (tkm r p).2 M
section ZTK
variable {r z : List Nat} {M N N1 : zMem} {met : Int} {S C : List Nat}
theorem zTkZ.fr (hf : zFr S C M N) (h : zTkZ z M) (hs : 63 ∉ S) (hc : 112 ∉ C) : zTkZ z N := by
  refine ⟨by rw [hf.e hs]; exact h.1, fun k hk => ?_⟩
  rw [hf.ie (by decide) hc k]
  exact h.2 k hk
theorem zTkS_0 (h : ze M 81 63 = 0) : zTkS r 0 0 M := ⟨rfl, ⟨h, Nat.zero_le _⟩, fun k hk => absurd hk (Nat.not_lt_zero k)⟩
theorem zTkS_t {p m : Int} (h : zTkS r p.toNat met M) (p0 : 0 ≤ p) (hb : met.toNat.testBit p.toNat = true) (he : ∀ j : Nat, ze N 112 j = ze M 112 j) (h6 : ze N 81 63 = ze M 81 63) (hm : m = met) : zTkS r (p + 1).toNat m N := by
  obtain ⟨h1, h2, h3⟩ := h
  rw [h1, Int.toNat_natCast] at hb
  rw [show (p + 1).toNat = p.toNat + 1 by (exact zo_1084 p0)]
  unfold zTkS zTkZ
  rw [tkm_t hb, h6]
  exact ⟨hm.trans h1, h2, fun k hk => by rw [he]; exact h3 k hk⟩
theorem zTkS_f {p v x : Int} (hr : ∀ p, r.getD p 0 < 64) (h : zTkS r p.toNat met M) (p0 : 0 ≤ p) (p6 : p < 6) (hb : ¬ met.toNat.testBit p.toNat = true) (hx : x = ((r.getD p.toNat 0 : Nat) : Int)) (hv : v = ((gcb x.toNat : Nat) : Int)) (hN : N1 = zsI M 112 (ze M 81 63).toNat (Int32.ofInt v)) (he : ∀ j : Nat, ze N 112 j = ze N1 112 j) (h6 : ze N 81 63 = ze M 81 63 + 1) : zTkS r (p + 1).toNat (zor met x) N := by
  obtain ⟨h1, ⟨h2, h2b⟩, h3⟩ := h
  have hr64 := hr p.toNat
  have hb6 := tkm_b hr p.toNat
  rw [h1, Int.toNat_natCast] at hb
  rw [show (p + 1).toNat = p.toNat + 1 by (exact zo_1084 p0)]
  have hvp : v = ((pop6 (r.getD p.toNat 0) : Nat) : Int) := by
    rw [hv, hx, Int.toNat_natCast, pop6_g _ hr64]
  have h66 := pop6_b (r.getD p.toNat 0)
  unfold zTkS zTkZ
  rw [tkm_f hb]
  refine ⟨?_, ⟨?_, ?_⟩, fun k hk => ?_⟩
  · show zor met x = (((tkm r p.toNat).1 ||| r.getD p.toNat 0 : Nat) : Int)
    rw [h1, hx]
    exact zor_n _ _ (by omega) (by omega)
  · show ze N 81 63 = ((((tkm r p.toNat).2 ++ [pop6 (r.getD p.toNat 0)]).length : Nat) : Int)
    rw [List.length_append, h6, h2]
    rfl
  · show ((tkm r p.toNat).2 ++ [pop6 (r.getD p.toNat 0)]).length ≤ 6
    rw [List.length_append]
    show (tkm r p.toNat).2.length + 1 ≤ 6
    omega
  · have h2k : k < ((tkm r p.toNat).2 ++ [pop6 (r.getD p.toNat 0)]).length := hk
    rw [List.length_append] at h2k
    have h3k : k < (tkm r p.toNat).2.length + 1 := h2k
    show ze N 112 k = ((((tkm r p.toNat).2 ++ [pop6 (r.getD p.toNat 0)]).getD k 0 : Nat) : Int) ∧ ((tkm r p.toNat).2 ++ [pop6 (r.getD p.toNat 0)]).getD k 0 ≤ 6
    rw [he]
    by_cases e : k < (tkm r p.toNat).2.length
    · rw [List.getD_eq_getElem?_getD, List.getElem?_append_left e, ← List.getD_eq_getElem?_getD, zs_oth hN (by omega)]
      exact h3 k e
    · rw [List.getD_eq_getElem?_getD, List.getElem?_append_right (by omega), show k - (tkm r p.toNat).2.length = 0 by omega, show k = (ze M 81 63).toNat by omega, zs_get hN ⟨by (exact zo_2691 hvp), by omega⟩]
      exact ⟨hvp, h66⟩
theorem zTkS_e {p : Int} (h : zTkS r p.toNat met M) (hp : p = ((r.length : Nat) : Int)) : zTkZ (tkz r) M := by
  have h2 := h.2
  rw [hp, Int.toNat_natCast] at h2
  exact h2
def zTkN (z : List Nat) (q : Nat) (M : zMem) : Prop := True ∧ ∀ k : Nat, k < 7 → ze M 113 k = ((tkn z q k : Nat) : Int)
def zTkI (z : List Nat) (q : Nat) (x : Int) (M : zMem) : Prop := ∀ k : Nat, k < 7 → ((k : Int) ≤ x → ze M 113 k = ((tkn z q k : Nat) : Int)) ∧ (x < k → ze M 113 k = ((tkn z (q + 1) k : Nat) : Int))
theorem tkn_b (z : List Nat) : ∀ q k, tkn z q k ≤ 2 ^ q
  | 0, k => by
    show (if k = 0 then 1 else 0) ≤ 1
    by_cases g : k = 0
    · rw [if_pos g]
      exact Nat.le_refl _
    · rw [if_neg g]
      (decide)
  | q + 1, k => by
    have h1 := tkn_b z q k
    have h2 := tkn_b z q (k - z.getD q 0)
    rw [Nat.pow_succ]
    show (if z.getD q 0 ≤ k then tkn z q k + tkn z q (k - z.getD q 0) else tkn z q k) ≤ 2 ^ q * 2
    by_cases g : z.getD q 0 ≤ k
    · rw [if_pos g]
      omega
    · rw [if_neg g]
      omega
theorem tkn_6 (z : List Nat) {q k : Nat} (hq : q ≤ 6) : tkn z q k ≤ 64 := Nat.le_trans (tkn_b z q k) (Nat.pow_le_pow_right (by decide) hq)
theorem zTkI_0 {q : Nat} (h : zTkN z q M) : zTkI z q 6 M := fun k hk => ⟨fun _ => h.2 k hk, fun hx => absurd hx (by omega)⟩
theorem zTkI_s {q : Nat} {x v y w : Int} (h : zTkI z q x M) (x0 : 0 ≤ x) (x6 : x ≤ 6) (hq : q < 6) (hz : z.getD q 0 ≤ 6) (hs : ((z.getD q 0 : Nat) : Int) ≤ x) (hv : v = ze M 113 x.toNat) (hw : w = ze M 113 (x - ((z.getD q 0 : Nat) : Int)).toNat) (hy : y = v + w) (hN : N = zsI M 113 x.toNat (Int32.ofInt y)) : zTkI z q (x + (-1)) N := fun k hk => by
  have h1 := (h x.toNat (by (exact zo_2870 x0 x6))).1 (by omega)
  have h2 := (h (x - ((z.getD q 0 : Nat) : Int)).toNat (by omega)).1 (by omega)
  have b1 := tkn_6 z (q := q) (k := x.toNat) (by omega)
  have b2 := tkn_6 z (q := q) (k := (x - ((z.getD q 0 : Nat) : Int)).toNat) (by omega)
  by_cases g : (k : Int) = x
  · refine ⟨fun hx => absurd hx (by omega), fun _ => ?_⟩
    rw [show k = x.toNat by omega, zs_get hN ⟨by omega, by omega⟩, hy, hv, hw, h1, h2]
    show _ = (((if z.getD q 0 ≤ x.toNat then tkn z q x.toNat + tkn z q (x.toNat - z.getD q 0) else tkn z q x.toNat) : Nat) : Int)
    rw [if_pos (by omega), show (x - ((z.getD q 0 : Nat) : Int)).toNat = x.toNat - z.getD q 0 by omega]
    rfl
  · rw [zs_oth hN (by (exact zo_148 x0 g))]
    exact ⟨fun hx => (h k hk).1 (by omega), fun hx => (h k hk).2 (by omega)⟩
theorem zTkI_e {q : Nat} {x : Int} (h : zTkI z q x M) (hx : x < ((z.getD q 0 : Nat) : Int)) : zTkN z (q + 1) M := ⟨trivial, fun k hk => by
  by_cases g : x < (k : Int)
  · exact (h k hk).2 g
  · rw [(h k hk).1 (by omega)]
    show _ = (((if z.getD q 0 ≤ k then tkn z q k + tkn z q (k - z.getD q 0) else tkn z q k) : Nat) : Int)
    rw [if_neg (by omega)]⟩
theorem zTkN.fr {q : Nat} (hf : zFr S C M N) (h : zTkN z q M) (_ : True) (hc : 113 ∉ C) : zTkN z q N := ⟨trivial, fun k hk => by
  rw [hf.ie (by decide) hc k]
  exact h.2 k hk⟩
def zTkF (z : List Nat) (what n : Int) (q : Nat) (v : Int) : Prop := (what = 0 → v = ((tko z q : Nat) : Int)) ∧ (what = 1 → v = 0) ∧ (what = 2 → v = n ^ q)
theorem tko_b (z : List Nat) : ∀ q, tko z q ≤ q
  | 0 => Nat.le_refl _
  | q + 1 => by
    have h := tko_b z q
    show (if z.getD q 0 = 1 then tko z q + 1 else tko z q) ≤ q + 1
    by_cases g : z.getD q 0 = 1
    · rw [if_pos g]
      omega
    · rw [if_neg g]
      omega
theorem tko_s {z : List Nat} {q : Nat} {v t : Int} (h : v = ((tko z q : Nat) : Int)) (ht : (z.getD q 0 = 1 ∧ t = 1) ∨ (z.getD q 0 ≠ 1 ∧ t = 0)) : v + t = ((tko z (q + 1) : Nat) : Int) := by
  show v + t = (((if z.getD q 0 = 1 then tko z q + 1 else tko z q) : Nat) : Int)
  rcases ht with ⟨g, e⟩ | ⟨g, e⟩
  · rw [if_pos g]
    omega
  · rw [if_neg g]
    omega
theorem zTkN_n {z : List Nat} {q : Nat} {x : Int} {M : zMem} (h : zTkN z (q + 1) M) (hx : x = ((q + 1 : Nat) : Int)) : zTkN z x.toNat M := by
  rw [show x.toNat = q + 1 by omega]
  exact h
theorem zTkF_a {z : List Nat} {what n v w q x t : Int} (h : zTkF z what n q.toNat v) (q0 : 0 ≤ q) (hw : what = 0) (hx : x = ((z.getD q.toNat 0 : Nat) : Int)) (ht : (x = 1 ∧ t = 1) ∨ (x ≠ 1 ∧ t = 0)) (hv : w = v + t) : zTkF z what n (q + 1).toNat w := by
  rw [show (q + 1).toNat = q.toNat + 1 by (exact zo_1084 q0)]
  refine ⟨fun g => ?_, fun g => by omega, fun g => by omega⟩
  rw [hv]
  exact tko_s (h.1 g) (by omega)
theorem zTkF_b {z : List Nat} {what n v w q : Int} (h : zTkF z what n q.toNat v) (q0 : 0 ≤ q) (hw : what = 2) (hv : w = v * n) : zTkF z what n (q + 1).toNat w := by
  rw [show (q + 1).toNat = q.toNat + 1 by (exact zo_1084 q0)]
  refine ⟨fun g => by omega, fun g => by omega, fun g => ?_⟩
  rw [hv, h.2.2 g, Int.pow_succ]
theorem zTkF_c {z : List Nat} {what n v q : Int} (h : zTkF z what n q.toNat v) (hw : what = 1) : zTkF z what n (q + 1).toNat v := ⟨fun g => by omega, h.2.1, fun g => by omega⟩
theorem zTkF_r {z : List Nat} {what n v : Int} {q : Nat} (h : zTkF z what n q v) (hq : q ≤ 6) (hw : what = 0 ∨ ((what = 1 ∨ what = 2) ∧ 0 ≤ n ∧ n ≤ 6)) : 0 ≤ v ∧ v ≤ 46656 := by
  rcases hw with g | ⟨g | g, g2, g3⟩
  · have h1 := h.1 g
    have h2 := tko_b z q
    omega
  · have h1 := h.2.1 g
    omega
  · rw [h.2.2 g]
    exact tkp_6 g2 g3 q hq
theorem tkv_r {P : Nat} {T : zGT} {c : Nat → Nat} {B : Nat} {what n v : Int} (hP : P ≤ 6) (hpt : zPt (zrch (gN T) c B) P) (hw : what = 0 ∨ ((what = 1 ∨ what = 2) ∧ 0 ≤ n ∧ n ≤ 6)) (h0 : what = 0 → v = ((tkone (tkz (zrr P T c B)) : Nat) : Int)) (h1 : what = 1 → v = ((tkn (tkz (zrr P T c B)) (tkz (zrr P T c B)).length n.toNat : Nat) : Int)) (h2 : what = 2 → v = n ^ (tkz (zrr P T c B)).length) : v = tkv (zrr P T c B) what n := by
  obtain ⟨a0, a1, a2⟩ := tkchk_s hP (zPt_m hP hpt)
  have a0' : tk0 (zrr P T c B) = tkone (tkz (zrr P T c B)) := a0
  have a1' : tkp (zrr P T c B) = (tkz (zrr P T c B)).length := a1
  have a2' : ∀ k, k ≤ 6 → tks (zrr P T c B) k = tkn (tkz (zrr P T c B)) (tkz (zrr P T c B)).length k := a2
  unfold tkv
  rcases hw with g | ⟨g | g, g2, g3⟩
  · rw [if_pos g, h0 g, a0']
  · rw [if_neg (by omega), if_pos g, h1 g, a2' _ (by omega)]
  · rw [if_neg (by omega), if_neg (by omega), h2 g, a1']
theorem zrr_b {P : Nat} {T : zGT} {c : Nat → Nat} {B : Nat} (hP : P ≤ 6) (hpt : zPt (zrch (gN T) c B) P) : ∀ p, (zrr P T c B).getD p 0 < 64 := fun p => by
  by_cases g : p < P
  · rw [zrr_g g]
    exact Nat.lt_of_lt_of_le (hpt.1 p g).1 (Nat.pow_le_pow_right (by decide) hP)
  · rw [List.getD_eq_getElem?_getD, List.getElem?_eq_none (by rw [zrr_l]; omega)]
    decide
end ZTK
theorem gTb_lt {mv : List Nat} {T : zGT} {c : Nat → Nat} {P : Nat} (hT : gTb mv c T) (hp : ∀ g ∈ mv, gpm g) (hf : ∀ g ∈ mv, gfix P g) (hP : P ≤ 6) : ∀ m, m < gN T → ∀ p, p < P → gdg (c m) p < P := fun m hm p hpP =>
  gfix_lt ((gTb_0 hT hp).1 m hm) (gGen.fix hf ((hT.2.1 (c m)).mpr ⟨m, hm, rfl⟩)) hpP (by (exact zo_2869 hP hpP))
theorem zMvF_x {M : zMem} (hI : zIF M) {P : Nat} (hP : ze M 81 16 = (P : Int)) : ∀ g ∈ zMvF M, gfix P g := fun g hg => by
  obtain ⟨⟨⟨p1, p6⟩, m0, m4⟩, h84, -⟩ := hI
  unfold zMvF at hg
  obtain ⟨k, hk, rfl⟩ := List.mem_map.mp hg
  rw [List.mem_range] at hk
  intro p h1 h2
  rw [zrc_d (fun q hq => by
    have := h84.g (e := ((6 * k + q : Nat) : Int)) (by omega) (by omega)
    rw [Int.toNat_natCast] at this
    omega) p h2]
  unfold zrd
  rw [if_neg (by omega)]
def zUw (q F : Nat) (N : zMem) (u : Nat → Int) (j : Int) : Prop := ∀ x : Nat, j < x → (x : Int) < F → zg N q x = u x
theorem zUw_0 {q F : Nat} {N : zMem} {u : Nat → Int} {j : Int} (hj : (F : Int) - 1 ≤ j) : zUw q F N u j := fun x h1 h2 => absurd h2 (by omega)
theorem zUw_s {q F : Nat} {N P : zMem} {u : Nat → Int} {j v : Int} (h : zUw q F N u j) (hP : P = zsJ N q j.toNat (Int64.ofInt v)) (hv2 : zn64 v) (j0 : 0 ≤ j) (hv : v = u j.toNat) : zUw q F P u (j - 1) := fun x g1 g2 => by
  by_cases g : (x : Int) = j
  · rw [show x = j.toNat by omega, zs_getJ hP hv2, hv]
  · rw [zs_othJ hP (by (exact zo_148 j0 g))]
    exact h x (by omega) g2
set_option maxHeartbeats 4000000 in
theorem u_Sums_solveS (l : Launch) (d_ : Nat) (Mz : zMem) (hW : zKW d_ Mz) (a0_ : Int) (ha0_a : -2147483648 ≤ a0_) (ha0_b : a0_ < 2147483648) (F_ : Nat) (K_ : Nat → Nat → Int) (hA_ : zTA F_ K_) (p0_ : zKm F_ K_ d_ Mz) (p1_ : 0 ≤ a0_) (p2_ : a0_ ≤ 39) (p3_ : (∀ j : Nat, j < F_ → -1000000 ≤ zg Mz (d_ + 27) j ∧ zg Mz (d_ + 27) j ≤ 1000000)) : zC l m_Sums_solve 0 0 [.ref (d_ + 23), .int (Int32.ofInt a0_)] Mz (zqcV d_ [] [] [] [25] Mz (fun N => zSh F_ d_ Mz N a0_ (zsq F_ K_ (fun j_ => zg Mz (d_ + 27) j_)))) := by
  refine zC_of (L0 := [some (.ref (d_ + 23)), some (.int (Int32.ofInt a0_)), none, none, none, none]) md_Sums_solve (Nat.le_of_ble_eq_true rfl) rfl ?_ zQ0
  have hf : zFc d_ [] [] [] [25] Mz Mz := zFc.rf
  have r_D12_7 := ze_r Mz (d_ + 12) 7
  obtain ⟨⟨hF1_, hF27_⟩, hAr_⟩ := id hA_
  obtain ⟨hFc_, hKt_⟩ := id p0_
  refine zw_aload_n (pc := 0) (n := 0) (x := (d_ + 23)) rfl (zdal_p dlA_Sums_solve_140 (i := 0) rfl) ?_
  refine zw_getF (pc := 1) f_Sums_23 rfl ((hf.w hW).kr (o := 23) (by decide)) ((hf.w hW).lr (o := 23) (s := 0) (r := 12) (by decide)) (zdal_p dlA_Sums_solve_140 (i := 1) rfl) ?_
  refine zk_getI (pc := 4) f_Sums_35 rfl ((hf.w hW).kr (o := 12) (by decide)) (zdal_p dlA_Sums_solve_140 (i := 2) rfl) ?_
  refine zw_iconst (pc := 7) (v := Int32.ofInt 1) (by decide) (zdal_p dlA_Sums_solve_140 (i := 3) rfl) ?_
  refine zr_isub (pc := 8) (zdal_p dlA_Sums_solve_140 (i := 4) rfl) ?_
  refine zw_istore_n (pc := 9) (i := 2) (L2 := [some (.ref (d_ + 23)), some (.int (Int32.ofInt a0_)), some (.int (Int32.ofInt ((ze Mz (d_ + 12) 7) - 1))), none, none, none]) rfl (by decide) rfl (zdal_p dlA_Sums_solve_140 (i := 5) rfl) ?_
  have lp_10 : ∀ (n : Nat) (u1_ : Int) (hu1_a : -2147483648 ≤ u1_) (hu1_b : u1_ < 2147483648) (N2_ : zMem) (hs3_ : zFc d_ [] [] [] [25] Mz N2_) (i4_ : u1_ < F_) (i5_ : -1 ≤ u1_) (i6_ : zUp F_ d_ Mz N2_ a0_ (zsq F_ K_ (fun j_ => zg Mz (d_ + 27) j_)) u1_), (u1_ + 1).toNat < n → zW l m_Sums_solve (zn Mz + 0, zw Mz + 0) N2_ 10 [some (.ref (d_ + 23)), some (.int (Int32.ofInt a0_)), some (.int (Int32.ofInt u1_)), none, none, none] [] (zqcV d_ [] [] [] [25] Mz (fun N => zSh F_ d_ Mz N a0_ (zsq F_ K_ (fun j_ => zg Mz (d_ + 27) j_)))) := by
    intro n
    induction n with
    | zero =>
      intro u1_ hu1_a hu1_b N2_ hs3_ i4_ i5_ i6_ h0
      exact absurd h0 (Nat.not_lt_zero _)
    | succ n ih_10 =>
      intro u1_ hu1_a hu1_b N2_ hs3_ i4_ i5_ i6_ hlt_10
      have hf_N2_ : zFc d_ [] [] [] [25] Mz N2_ := hf.tr hs3_ (by decide) (by decide) (by decide) (by decide)
      have eD12_7_N2_ : ze N2_ (d_ + 12) 7 = ze Mz (d_ + 12) 7 := hs3_.e (by decide)
      have c7_ : zKm F_ K_ d_ N2_ := zKm.fr (hf.w hW) hs3_ p0_ (by decide)
      refine zw_iload_n (pc := 10) (n := 2) (x := Int32.ofInt u1_) rfl (zdal_p dlA_Sums_solve_140 (i := 6) rfl) ?_
      refine zr_if_lt (pc := 11) (tgt := 133) ⟨hu1_a, hu1_b⟩ (by decide) (zdal_p dlA_Sums_solve_140 (i := 7) rfl) (fun hc_11 => ?_) (fun hc_11 => ?_)
      · skip
        exact zk_vret (pc := 133) rfl hf_N2_ (show zSh F_ d_ Mz N2_ a0_ (zsq F_ K_ (fun j_ => zg Mz (d_ + 27) j_)) by exact zUp_e (show zUp F_ d_ Mz N2_ a0_ (zsq F_ K_ (fun j_ => zg Mz (d_ + 27) j_)) u1_ by first | with_reducible assumption | assumption) (by (exact hc_11))) (zdal_p dlA_Sums_solve_143 (i := 2) rfl)
      · skip
        refine zw_aload_n (pc := 14) (n := 0) (x := (d_ + 23)) rfl (zdal_p dlA_Sums_solve_140 (i := 8) rfl) ?_
        refine zw_getF (pc := 15) f_Sums_20 rfl ((hf_N2_.w hW).kr (o := 23) (by decide)) ((hf_N2_.w hW).lr (o := 23) (s := 2) (r := 26) (by decide)) (zdal_p dlA_Sums_solve_140 (i := 9) rfl) ?_
        refine zw_iload_n (pc := 18) (n := 2) (x := Int32.ofInt u1_) rfl (zdal_p dlA_Sums_solve_140 (i := 10) rfl) ?_
        refine zk_atJ hf_N2_.x (pc := 19) l_Sums_27 ((hf_N2_.w hW).kr (o := 26) (by decide)) ((hf_N2_.w hW).lr (o := 26) (s := 0) (r := 27) (by decide)) ((hf_N2_.w hW).rr (o := 27) (t := 2) (n := 27) (by decide)) (by decide) (by (exact hc_11)) (by (exact zo_2210 hF27_ hu1_b i4_)) (by decide) (Nat.le_of_ble_eq_true rfl) (zdal_p dlA_Sums_solve_140 (i := 11) rfl) (fun v8_ hv8_ hv8_a hv8_b => ?_)
        rw [hf_N2_.rg (by decide)] at hv8_
        refine zw_lstore_n (pc := 22) (i := 3) (L2 := [some (.ref (d_ + 23)), some (.int (Int32.ofInt a0_)), some (.int (Int32.ofInt u1_)), some (.long (Int64.ofInt v8_)), none, none]) rfl (by decide) rfl (zdal_p dlA_Sums_solve_140 (i := 12) rfl) ?_
        refine zw_iload_n (pc := 23) (n := 2) (x := Int32.ofInt u1_) rfl (zdal_p dlA_Sums_solve_140 (i := 13) rfl) ?_
        refine zw_iconst (pc := 24) (v := Int32.ofInt 1) (by decide) (zdal_p dlA_Sums_solve_140 (i := 14) rfl) ?_
        refine zr_iadd (pc := 25) (zdal_p dlA_Sums_solve_140 (i := 15) rfl) ?_
        refine zw_istore (pc := 26) (i := 5) (L2 := [some (.ref (d_ + 23)), some (.int (Int32.ofInt a0_)), some (.int (Int32.ofInt u1_)), some (.long (Int64.ofInt v8_)), none, some (.int (Int32.ofInt (u1_ + 1)))]) (by decide) rfl (zdal_p dlA_Sums_solve_140 (i := 16) rfl) ?_
        have hup_ := (show zUp F_ d_ Mz N2_ a0_ (zsq F_ K_ (fun j_ => zg Mz (d_ + 27) j_)) u1_ by first | with_reducible assumption | assumption)
        have lp_28 : ∀ (n : Nat) (u9_ : Int) (hu9_a : -9223372036854775808 ≤ u9_) (hu9_b : u9_ < 9223372036854775808) (u10_ : Int) (hu10_a : -2147483648 ≤ u10_) (hu10_b : u10_ < 2147483648) (i11_ : u1_ < u10_) (i12_ : u10_ ≤ F_) (i13_ : zrX F_ K_ (fun j_ => zg Mz (d_ + 27) j_) u9_ u1_ u10_), (F_ - u10_).toNat < n → zW l m_Sums_solve (zn Mz + 0, zw Mz + 0) N2_ 28 [some (.ref (d_ + 23)), some (.int (Int32.ofInt a0_)), some (.int (Int32.ofInt u1_)), some (.long (Int64.ofInt u9_)), none, some (.int (Int32.ofInt u10_))] [] (zqcV d_ [] [] [] [25] Mz (fun N => zSh F_ d_ Mz N a0_ (zsq F_ K_ (fun j_ => zg Mz (d_ + 27) j_)))) := by
          intro n
          induction n with
          | zero =>
            intro u9_ hu9_a hu9_b u10_ hu10_a hu10_b i11_ i12_ i13_ h0
            exact absurd h0 (Nat.not_lt_zero _)
          | succ n ih_28 =>
            intro u9_ hu9_a hu9_b u10_ hu10_a hu10_b i11_ i12_ i13_ hlt_28
            refine zw_iload (pc := 28) (i := 5) (x := Int32.ofInt u10_) rfl (zdal_p dlA_Sums_solve_140 (i := 17) rfl) ?_
            refine zw_aload_n (pc := 30) (n := 0) (x := (d_ + 23)) rfl (zdal_p dlA_Sums_solve_140 (i := 18) rfl) ?_
            refine zw_getF (pc := 31) f_Sums_23 rfl ((hf_N2_.w hW).kr (o := 23) (by decide)) ((hf_N2_.w hW).lr (o := 23) (s := 0) (r := 12) (by decide)) (zdal_p dlA_Sums_solve_140 (i := 19) rfl) ?_
            refine zk_getI (pc := 34) f_Sums_35 rfl ((hf_N2_.w hW).kr (o := 12) (by decide)) (zdal_p dlA_Sums_solve_140 (i := 20) rfl) ?_
            rw [hf_N2_.e (by decide)]
            refine zr_icmp_ge (pc := 37) (tgt := 82) ⟨hu10_a, hu10_b⟩ ⟨(ze_r Mz (d_ + 12) 7).1, (ze_r Mz (d_ + 12) 7).2⟩ (by decide) (zdal_p dlA_Sums_solve_140 (i := 21) rfl) (fun hc_37 => ?_) (fun hc_37 => ?_)
            · skip
              refine zw_aload_n (pc := 82) (n := 0) (x := (d_ + 23)) rfl (zdal_p dlA_Sums_solve_141 (i := 22) rfl) ?_
              refine zw_getF (pc := 83) f_Sums_23 rfl ((hf_N2_.w hW).kr (o := 23) (by decide)) ((hf_N2_.w hW).lr (o := 23) (s := 0) (r := 12) (by decide)) (zdal_p dlA_Sums_solve_141 (i := 23) rfl) ?_
              refine zw_getF (pc := 86) f_Sums_41 rfl ((hf_N2_.w hW).kr (o := 12) (by decide)) ((hf_N2_.w hW).lr (o := 12) (s := 5) (r := 21) (by decide)) (zdal_p dlA_Sums_solve_142 (i := 0) rfl) ?_
              refine zw_iload_n (pc := 89) (n := 2) (x := Int32.ofInt u1_) rfl (zdal_p dlA_Sums_solve_142 (i := 1) rfl) ?_
              refine zw_bipush (pc := 90) (v := Int32.ofInt 27) (by decide) (zdal_p dlA_Sums_solve_142 (i := 2) rfl) ?_
              refine zr_imul (pc := 92) (zdal_p dlA_Sums_solve_142 (i := 3) rfl) ?_
              refine zw_iload_n (pc := 93) (n := 2) (x := Int32.ofInt u1_) rfl (zdal_p dlA_Sums_solve_142 (i := 4) rfl) ?_
              refine zr_iadd (pc := 94) (zdal_p dlA_Sums_solve_142 (i := 5) rfl) ?_
              refine zk_at hf_N2_.x (pc := 95) l_Sums_45 ((hf_N2_.w hW).kr (o := 21) (by decide)) ((hf_N2_.w hW).lr (o := 21) (s := 0) (r := 22) (by decide)) ((hf_N2_.w hW).rr (o := 22) (t := 1) (n := 729) (by decide)) (by decide) (by (exact zo_2211 hc_11)) (by (exact zo_2212 hF27_ hu1_b i4_)) (by decide) (Nat.le_of_ble_eq_true rfl) (zdal_p dlA_Sums_solve_142 (i := 6) rfl) (fun v14_ hv14_ hv14_a hv14_b => ?_)
              rw [hf_N2_.r (by decide)] at hv14_
              have hm_ := p0_.k (by (exact hc_11)) (by (exact i4_)) (by (exact hc_11)) (by (exact i4_)) hv14_
              have hm1_ := hAr_.2.2.1 (u1_).toNat (by (exact zo_2213 hc_11 hu1_b i4_))
              have hL5_ : u10_ = (F_ : Int) := by (exact zo_2214 hF27_ hFc_ hc_11 hc_37 hu10_b i11_ i12_)
              have hin_ := (show zrX F_ K_ (fun j_ => zg Mz (d_ + 27) j_) u9_ u1_ u10_ by first | with_reducible assumption | assumption)
              refine zw_istore (pc := 98) (i := 5) (L2 := [some (.ref (d_ + 23)), some (.int (Int32.ofInt a0_)), some (.int (Int32.ofInt u1_)), some (.long (Int64.ofInt u9_)), none, some (.int (Int32.ofInt v14_))]) (by decide) rfl (zdal_p dlA_Sums_solve_142 (i := 7) rfl) ?_
              refine zw_aload_n (pc := 100) (n := 0) (x := (d_ + 23)) rfl (zdal_p dlA_Sums_solve_142 (i := 8) rfl) ?_
              refine zw_getF (pc := 101) f_Sums_16 rfl ((hf_N2_.w hW).kr (o := 23) (by decide)) ((hf_N2_.w hW).lr (o := 23) (s := 1) (r := 24) (by decide)) (zdal_p dlA_Sums_solve_142 (i := 9) rfl) ?_
              refine zw_iload_n (pc := 104) (n := 1) (x := Int32.ofInt a0_) rfl (zdal_p dlA_Sums_solve_142 (i := 10) rfl) ?_
              refine zw_bipush (pc := 105) (v := Int32.ofInt 27) (by decide) (zdal_p dlA_Sums_solve_142 (i := 11) rfl) ?_
              refine zr_imul (pc := 107) (zdal_p dlA_Sums_solve_142 (i := 12) rfl) ?_
              refine zw_iload_n (pc := 108) (n := 2) (x := Int32.ofInt u1_) rfl (zdal_p dlA_Sums_solve_142 (i := 13) rfl) ?_
              refine zr_iadd (pc := 109) (zdal_p dlA_Sums_solve_142 (i := 14) rfl) ?_
              refine zw_iload (pc := 110) (i := 5) (x := Int32.ofInt v14_) rfl (zdal_p dlA_Sums_solve_142 (i := 15) rfl) ?_
              refine zr_if_eq (pc := 112) (tgt := 123) ⟨hv14_a, hv14_b⟩ (by decide) (zdal_p dlA_Sums_solve_142 (i := 16) rfl) (fun hc_112 => ?_) (fun hc_112 => ?_)
              · skip
                refine zw_lconst (pc := 123) (v := Int64.ofInt 0) (by decide) (zdal_p dlA_Sums_solve_142 (i := 22) rfl) ?_
                refine zk_stJ hf_N2_.x (pc := 124) (o := 25) (by decide) l_Sums_31 ((hf_N2_.w hW).kr (o := 24) (by decide)) ((hf_N2_.w hW).lr (o := 24) (s := 0) (r := 25) (by decide)) ((hf_N2_.w hW).rr (o := 25) (t := 2) (n := 1080) (by decide)) (by decide) (by (exact zo_2201 hc_11 p1_)) (by (exact zo_2215 hF27_ hu1_b i4_ p2_)) (by decide) (Nat.le_of_ble_eq_true rfl) (zdal_p dlA_Sums_solve_142 (i := 23) rfl) (fun N15_ hN15_ hsN15_ => ?_)
                have hf_N15_ : zFc d_ [] [] [] [25] Mz N15_ := hf_N2_.tr hsN15_ (by decide) (by decide) (by decide) (by decide)
                have hb0_N15_ : zFc d_ [] [] [] [25] Mz N15_ := hs3_.tr hsN15_ (by decide) (by decide) (by decide) (by decide)
                have eD12_7_N15_ : ze N15_ (d_ + 12) 7 = ze N2_ (d_ + 12) 7 := hsN15_.e (by decide)
                have c16_ : zKm F_ K_ d_ N15_ := zKm.fr (hf_N2_.w hW) hsN15_ c7_ (by decide)
                have h1_ := zS1_i hN15_ ⟨by (decide), by (decide)⟩ (by (exact zo_2201 hc_11 p1_))
                have hu1_ := zUp_s hup_ h1_ rfl (by (exact hc_11)) (by (exact i4_)) (by first | (exfalso; (exact zo_2216 hc_112 hm1_ hm_)) | (rw [← hq_]; exact hqu_))
                refine zr_iinc (pc := 127) (i := 2) (a := u1_) (n := -1) (L2 := [some (.ref (d_ + 23)), some (.int (Int32.ofInt a0_)), some (.int (Int32.ofInt (u1_ + (-1)))), some (.long (Int64.ofInt u9_)), none, some (.int (Int32.ofInt v14_))]) rfl (by decide) rfl (zdal_p dlA_Sums_solve_143 (i := 0) rfl) ?_
                refine zw_goto (pc := 130) (tgt := 10) (by decide) (zdal_p dlA_Sums_solve_143 (i := 1) rfl) ?_
                refine zW_le [some (.ref (d_ + 23)), some (.int (Int32.ofInt a0_)), some (.int (Int32.ofInt (u1_ + (-1)))), none, none, none] (⟨rfl, rfl, rfl, trivial⟩) ?_
                exact ih_10 (u1_ + (-1)) (by (exact zo_892 hc_11)) (by (exact zo_893 hu1_b)) N15_ hb0_N15_ (show (u1_ + (-1)) < F_ by first | with_reducible assumption | (exact zo_2217 hu1_b i4_) | assumption) (show -1 ≤ (u1_ + (-1)) by first | with_reducible assumption | (exact zo_938 hc_11) | assumption) (show zUp F_ d_ Mz N15_ a0_ (zsq F_ K_ (fun j_ => zg Mz (d_ + 27) j_)) (u1_ + (-1)) by exact hu1_) (by (exact zo_896 hc_11 hlt_10 hu1_b))
              · skip
                refine zw_lload_n (pc := 115) (n := 3) (x := Int64.ofInt u9_) rfl (zdal_p dlA_Sums_solve_142 (i := 17) rfl) ?_
                refine zw_iload (pc := 116) (i := 5) (x := Int32.ofInt v14_) rfl (zdal_p dlA_Sums_solve_142 (i := 18) rfl) ?_
                refine zr_i2l (pc := 118) ⟨hv14_a, hv14_b⟩ (zdal_p dlA_Sums_solve_142 (i := 19) rfl) ?_
                refine zr_ldiv (pc := 119) ⟨by (exact zo_282 hv14_a), by (exact zo_283 hv14_b)⟩ (by (exact hc_112)) (zdal_p dlA_Sums_solve_142 (i := 20) rfl) ?_
                have hr17_ := zlquo_r u9_ v14_
                obtain ⟨q_, hq_⟩ : ∃ q, q = (zlquo u9_ v14_) := ⟨_, rfl⟩
                have hqu_ := zrX_e hA_ p3_ hin_ hL5_ ⟨by (exact hu9_a), by (exact hu9_b)⟩ (by (exact hc_11)) (by (exact i4_)) hm_ hq_
                refine zw_goto (pc := 120) (tgt := 124) (by decide) (zdal_p dlA_Sums_solve_142 (i := 21) rfl) ?_
                refine zk_stJ hf_N2_.x (pc := 124) (o := 25) (by decide) l_Sums_31 ((hf_N2_.w hW).kr (o := 24) (by decide)) ((hf_N2_.w hW).lr (o := 24) (s := 0) (r := 25) (by decide)) ((hf_N2_.w hW).rr (o := 25) (t := 2) (n := 1080) (by decide)) (by decide) (by (exact zo_2201 hc_11 p1_)) (by (exact zo_2215 hF27_ hu1_b i4_ p2_)) (by decide) (Nat.le_of_ble_eq_true rfl) (zdal_p dlA_Sums_solve_142 (i := 23) rfl) (fun N18_ hN18_ hsN18_ => ?_)
                have hf_N18_ : zFc d_ [] [] [] [25] Mz N18_ := hf_N2_.tr hsN18_ (by decide) (by decide) (by decide) (by decide)
                have hb0_N18_ : zFc d_ [] [] [] [25] Mz N18_ := hs3_.tr hsN18_ (by decide) (by decide) (by decide) (by decide)
                have eD12_7_N18_ : ze N18_ (d_ + 12) 7 = ze N2_ (d_ + 12) 7 := hsN18_.e (by decide)
                have c19_ : zKm F_ K_ d_ N18_ := zKm.fr (hf_N2_.w hW) hsN18_ c7_ (by decide)
                have h1_ := zS1_i hN18_ ⟨by (exact zo_79 hr17_.1), by (exact zo_80 hr17_.2)⟩ (by (exact zo_2201 hc_11 p1_))
                have hu1_ := zUp_s hup_ h1_ rfl (by (exact hc_11)) (by (exact i4_)) (by first | (exfalso; omega) | (rw [← hq_]; exact hqu_))
                refine zr_iinc (pc := 127) (i := 2) (a := u1_) (n := -1) (L2 := [some (.ref (d_ + 23)), some (.int (Int32.ofInt a0_)), some (.int (Int32.ofInt (u1_ + (-1)))), some (.long (Int64.ofInt u9_)), none, some (.int (Int32.ofInt v14_))]) rfl (by decide) rfl (zdal_p dlA_Sums_solve_143 (i := 0) rfl) ?_
                refine zw_goto (pc := 130) (tgt := 10) (by decide) (zdal_p dlA_Sums_solve_143 (i := 1) rfl) ?_
                refine zW_le [some (.ref (d_ + 23)), some (.int (Int32.ofInt a0_)), some (.int (Int32.ofInt (u1_ + (-1)))), none, none, none] (⟨rfl, rfl, rfl, trivial⟩) ?_
                exact ih_10 (u1_ + (-1)) (by (exact zo_892 hc_11)) (by (exact zo_893 hu1_b)) N18_ hb0_N18_ (show (u1_ + (-1)) < F_ by first | with_reducible assumption | (exact zo_2217 hu1_b i4_) | assumption) (show -1 ≤ (u1_ + (-1)) by first | with_reducible assumption | (exact zo_938 hc_11) | assumption) (show zUp F_ d_ Mz N18_ a0_ (zsq F_ K_ (fun j_ => zg Mz (d_ + 27) j_)) (u1_ + (-1)) by exact hu1_) (by (exact zo_896 hc_11 hlt_10 hu1_b))
            · skip
              refine zw_lload_n (pc := 40) (n := 3) (x := Int64.ofInt u9_) rfl (zdal_p dlA_Sums_solve_140 (i := 22) rfl) ?_
              refine zw_aload_n (pc := 41) (n := 0) (x := (d_ + 23)) rfl (zdal_p dlA_Sums_solve_140 (i := 23) rfl) ?_
              refine zw_getF (pc := 42) f_Sums_16 rfl ((hf_N2_.w hW).kr (o := 23) (by decide)) ((hf_N2_.w hW).lr (o := 23) (s := 1) (r := 24) (by decide)) (zdal_p dlA_Sums_solve_141 (i := 0) rfl) ?_
              refine zw_iload_n (pc := 45) (n := 1) (x := Int32.ofInt a0_) rfl (zdal_p dlA_Sums_solve_141 (i := 1) rfl) ?_
              refine zw_bipush (pc := 46) (v := Int32.ofInt 27) (by decide) (zdal_p dlA_Sums_solve_141 (i := 2) rfl) ?_
              refine zr_imul (pc := 48) (zdal_p dlA_Sums_solve_141 (i := 3) rfl) ?_
              refine zw_iload (pc := 49) (i := 5) (x := Int32.ofInt u10_) rfl (zdal_p dlA_Sums_solve_141 (i := 4) rfl) ?_
              refine zr_iadd (pc := 51) (zdal_p dlA_Sums_solve_141 (i := 5) rfl) ?_
              refine zk_atJ hf_N2_.x (pc := 52) l_Sums_27 ((hf_N2_.w hW).kr (o := 24) (by decide)) ((hf_N2_.w hW).lr (o := 24) (s := 0) (r := 25) (by decide)) ((hf_N2_.w hW).rr (o := 25) (t := 2) (n := 1080) (by decide)) (by decide) (by (exact zo_2218 hc_11 hu10_a i11_ p1_)) (by (exact zo_2219 hF27_ hFc_ hc_37 hu10_b i12_ p2_)) (by decide) (Nat.le_of_ble_eq_true rfl) (zdal_p dlA_Sums_solve_141 (i := 6) rfl) (fun v20_ hv20_ hv20_a hv20_b => ?_)
              have hx_ := zUp_x hup_ (by (exact i11_)) (by (exact zo_2223 hFc_ hc_37 hu10_b i12_)) (by (exact p1_)) hv20_ (by (exact zo_2222 hc_11 hu10_a i11_))
              refine zw_aload_n (pc := 55) (n := 0) (x := (d_ + 23)) rfl (zdal_p dlA_Sums_solve_141 (i := 7) rfl) ?_
              refine zw_getF (pc := 56) f_Sums_23 rfl ((hf_N2_.w hW).kr (o := 23) (by decide)) ((hf_N2_.w hW).lr (o := 23) (s := 0) (r := 12) (by decide)) (zdal_p dlA_Sums_solve_141 (i := 8) rfl) ?_
              refine zw_getF (pc := 59) f_Sums_41 rfl ((hf_N2_.w hW).kr (o := 12) (by decide)) ((hf_N2_.w hW).lr (o := 12) (s := 5) (r := 21) (by decide)) (zdal_p dlA_Sums_solve_141 (i := 9) rfl) ?_
              refine zw_iload (pc := 62) (i := 5) (x := Int32.ofInt u10_) rfl (zdal_p dlA_Sums_solve_141 (i := 10) rfl) ?_
              refine zw_bipush (pc := 64) (v := Int32.ofInt 27) (by decide) (zdal_p dlA_Sums_solve_141 (i := 11) rfl) ?_
              refine zr_imul (pc := 66) (zdal_p dlA_Sums_solve_141 (i := 12) rfl) ?_
              refine zw_iload_n (pc := 67) (n := 2) (x := Int32.ofInt u1_) rfl (zdal_p dlA_Sums_solve_141 (i := 13) rfl) ?_
              refine zr_iadd (pc := 68) (zdal_p dlA_Sums_solve_141 (i := 14) rfl) ?_
              refine zk_at hf_N2_.x (pc := 69) l_Sums_45 ((hf_N2_.w hW).kr (o := 21) (by decide)) ((hf_N2_.w hW).lr (o := 21) (s := 0) (r := 22) (by decide)) ((hf_N2_.w hW).rr (o := 22) (t := 1) (n := 729) (by decide)) (by decide) (by (exact zo_2220 hc_11 i11_)) (by (exact zo_2221 hF27_ hFc_ hc_37 hu10_b i12_ i4_)) (by decide) (Nat.le_of_ble_eq_true rfl) (zdal_p dlA_Sums_solve_141 (i := 15) rfl) (fun v21_ hv21_ hv21_a hv21_b => ?_)
              rw [hf_N2_.r (by decide)] at hv21_
              have hy_ := p0_.k (by (exact zo_2222 hc_11 hu10_a i11_)) (by (exact zo_2223 hFc_ hc_37 hu10_b i12_)) (by (exact hc_11)) (by (exact i4_)) hv21_
              refine zr_i2l (pc := 72) ⟨hv21_a, hv21_b⟩ (zdal_p dlA_Sums_solve_141 (i := 16) rfl) ?_
              refine zr_lmul (pc := 73) (zdal_p dlA_Sums_solve_141 (i := 17) rfl) ?_
              refine zr_lsub (pc := 74) (zdal_p dlA_Sums_solve_141 (i := 18) rfl) ?_
              refine zk_nmJ (fun v22_ hv22_ hv22_e => ?_)
              obtain ⟨hv22_a, hv22_b⟩ := hv22_
              have hz_ := zrX_s (show zrX F_ K_ (fun j_ => zg Mz (d_ + 27) j_) u9_ u1_ u10_ by first | with_reducible assumption | assumption) hv22_e (by (exact hc_11)) (by (exact i11_)) (by (exact zo_2223 hFc_ hc_37 hu10_b i12_)) hx_ hy_
              refine zw_lstore_n (pc := 75) (i := 3) (L2 := [some (.ref (d_ + 23)), some (.int (Int32.ofInt a0_)), some (.int (Int32.ofInt u1_)), some (.long (Int64.ofInt v22_)), none, some (.int (Int32.ofInt u10_))]) rfl (by decide) rfl (zdal_p dlA_Sums_solve_141 (i := 19) rfl) ?_
              refine zr_iinc (pc := 76) (i := 5) (a := u10_) (n := 1) (L2 := [some (.ref (d_ + 23)), some (.int (Int32.ofInt a0_)), some (.int (Int32.ofInt u1_)), some (.long (Int64.ofInt v22_)), none, some (.int (Int32.ofInt (u10_ + 1)))]) rfl (by decide) rfl (zdal_p dlA_Sums_solve_141 (i := 20) rfl) ?_
              refine zw_goto (pc := 79) (tgt := 28) (by decide) (zdal_p dlA_Sums_solve_141 (i := 21) rfl) ?_
              exact ih_28 v22_ hv22_a hv22_b (u10_ + 1) (by (exact zo_679 hu10_a)) (by (exact zo_75 hF27_ hu10_b i12_)) (show u1_ < (u10_ + 1) by first | with_reducible assumption | (exact zo_2224 i11_) | assumption) (show (u10_ + 1) ≤ F_ by first | with_reducible assumption | (exact zo_77 hFc_ hc_37 hu10_b i12_) | assumption) (show zrX F_ K_ (fun j_ => zg Mz (d_ + 27) j_) v22_ u1_ (u10_ + 1) by exact hz_) (by (exact zo_78 hFc_ hc_37 hlt_28 hu10_b i12_))
        exact lp_28 _ v8_ hv8_a hv8_b (u1_ + 1) (by (exact zo_74 hc_11)) (by (exact zo_2225 hF27_ hu1_b i4_)) (show u1_ < (u1_ + 1) by first | with_reducible assumption | (exact zo_683) | assumption) (show (u1_ + 1) ≤ F_ by first | with_reducible assumption | assumption | omega) (show zrX F_ K_ (fun j_ => zg Mz (d_ + 27) j_) v8_ u1_ (u1_ + 1) by exact zrX_0 (by first | with_reducible assumption | assumption)) (Nat.lt_succ_self _)
  exact lp_10 _ ((ze Mz (d_ + 12) 7) - 1) (by (exact zo_786 hFc_ r_D12_7.1)) (by (exact zo_601 r_D12_7.2)) Mz zFc.rf (show ((ze Mz (d_ + 12) 7) - 1) < F_ by first | with_reducible assumption | (exact zo_792 hFc_ r_D12_7.2) | assumption) (show -1 ≤ ((ze Mz (d_ + 12) 7) - 1) by first | with_reducible assumption | (exact zo_2226 hFc_ r_D12_7.1) | assumption) (show zUp F_ d_ Mz Mz a0_ (zsq F_ K_ (fun j_ => zg Mz (d_ + 27) j_)) ((ze Mz (d_ + 12) 7) - 1) by exact zUp_0 (by (exact zo_2227 hFc_))) (Nat.lt_succ_self _)
set_option maxHeartbeats 4000000 in
theorem u_Group_isSetKeptS (l : Launch) (d_ : Nat) (Mz : zMem) (hW : zKW d_ Mz) (a0_ : Int) (ha0_a : -2147483648 ≤ a0_) (ha0_b : a0_ < 2147483648) (a1_ : Int) (ha1_a : -2147483648 ≤ a1_) (ha1_b : a1_ < 2147483648) (T_ : zGT) (hT_ : T_ ∈ gTabs) (P_ : Nat) (mv_ : List Nat) (p0_ : zMvK mv_ P_ d_ Mz) (p1_ : zGc mv_ P_ T_ d_ Mz) (p2_ : 0 ≤ a0_) (p3_ : a0_ < 64) (p4_ : 0 ≤ a1_) (p5_ : a1_ < 16777216) : zC l m_Group_isSetKept 0 0 [.ref (d_ + 1), .int (Int32.ofInt a0_), .int (Int32.ofInt a1_)] Mz (zqcI d_ [] [] [] [] Mz (fun v N => (((v = 1 ∧ (∀ p_ : Nat, p_ < P_ → (a0_).toNat.testBit p_ = true → (zrch (gN T_) (zCo P_ d_ Mz) (a1_).toNat p_) &&& (a0_).toNat = (zrch (gN T_) (zCo P_ d_ Mz) (a1_).toNat p_))) ∨ (v = 0 ∧ ¬ (∀ p_ : Nat, p_ < P_ → (a0_).toNat.testBit p_ = true → (zrch (gN T_) (zCo P_ d_ Mz) (a1_).toNat p_) &&& (a0_).toNat = (zrch (gN T_) (zCo P_ d_ Mz) (a1_).toNat p_))))))) := by
  refine zC_of (L0 := [some (.ref (d_ + 1)), some (.int (Int32.ofInt a0_)), some (.int (Int32.ofInt a1_)), none]) md_Group_isSetKept (Nat.le_of_ble_eq_true rfl) rfl ?_ zQ0
  have hf : zFc d_ [] [] [] [] Mz Mz := zFc.rf
  have r_D1_5 := ze_r Mz (d_ + 1) 5
  have hO_ := gTabs_ok T_ hT_
  have hG_ := hO_.1
  have hn24_ := hG_.2.1
  have hn1_ := hG_.1
  obtain ⟨⟨hP0_, hP1_, hP6_⟩, -⟩ := id p0_
  refine zw_iconst (pc := 0) (v := Int32.ofInt 0) (by decide) (zdal_p dlB_Group_isSetKept_133 (i := 0) rfl) ?_
  refine zw_istore_n (pc := 1) (i := 3) (L2 := [some (.ref (d_ + 1)), some (.int (Int32.ofInt a0_)), some (.int (Int32.ofInt a1_)), some (.int (Int32.ofInt 0))]) rfl (by decide) rfl (zdal_p dlB_Group_isSetKept_133 (i := 1) rfl) ?_
  have lp_2 : ∀ (n : Nat) (u1_ : Int) (hu1_a : -2147483648 ≤ u1_) (hu1_b : u1_ < 2147483648) (i2_ : 0 ≤ u1_) (i3_ : u1_ ≤ P_) (i4_ : (∀ p_ : Nat, (p_ : Int) < u1_ → (a0_).toNat.testBit p_ = true → (zrch (gN T_) (zCo P_ d_ Mz) (a1_).toNat p_) &&& (a0_).toNat = (zrch (gN T_) (zCo P_ d_ Mz) (a1_).toNat p_))), (P_ - u1_).toNat < n → zW l m_Group_isSetKept (zn Mz + 0, zw Mz + 0) Mz 2 [some (.ref (d_ + 1)), some (.int (Int32.ofInt a0_)), some (.int (Int32.ofInt a1_)), some (.int (Int32.ofInt u1_))] [] (zqcI d_ [] [] [] [] Mz (fun v N => (((v = 1 ∧ (∀ p_ : Nat, p_ < P_ → (a0_).toNat.testBit p_ = true → (zrch (gN T_) (zCo P_ d_ Mz) (a1_).toNat p_) &&& (a0_).toNat = (zrch (gN T_) (zCo P_ d_ Mz) (a1_).toNat p_))) ∨ (v = 0 ∧ ¬ (∀ p_ : Nat, p_ < P_ → (a0_).toNat.testBit p_ = true → (zrch (gN T_) (zCo P_ d_ Mz) (a1_).toNat p_) &&& (a0_).toNat = (zrch (gN T_) (zCo P_ d_ Mz) (a1_).toNat p_))))))) := by
    intro n
    induction n with
    | zero =>
      intro u1_ hu1_a hu1_b i2_ i3_ i4_ h0
      exact absurd h0 (Nat.not_lt_zero _)
    | succ n ih_2 =>
      intro u1_ hu1_a hu1_b i2_ i3_ i4_ hlt_2
      have hcl_ := (show (∀ p_ : Nat, (p_ : Int) < u1_ → (a0_).toNat.testBit p_ = true → (zrch (gN T_) (zCo P_ d_ Mz) (a1_).toNat p_) &&& (a0_).toNat = (zrch (gN T_) (zCo P_ d_ Mz) (a1_).toNat p_)) by first | with_reducible assumption | assumption)
      refine zw_iload_n (pc := 2) (n := 3) (x := Int32.ofInt u1_) rfl (zdal_p dlB_Group_isSetKept_133 (i := 2) rfl) ?_
      refine zw_aload_n (pc := 3) (n := 0) (x := (d_ + 1)) rfl (zdal_p dlB_Group_isSetKept_133 (i := 3) rfl) ?_
      refine zk_getI (pc := 4) f_Group_32 rfl ((hf.w hW).kr (o := 1) (by decide)) (zdal_p dlB_Group_isSetKept_133 (i := 4) rfl) ?_
      refine zr_icmp_ge (pc := 7) (tgt := 39) ⟨hu1_a, hu1_b⟩ ⟨(ze_r Mz (d_ + 1) 5).1, (ze_r Mz (d_ + 1) 5).2⟩ (by decide) (zdal_p dlB_Group_isSetKept_133 (i := 5) rfl) (fun hc_7 => ?_) (fun hc_7 => ?_)
      · skip
        refine zw_iconst (pc := 39) (v := Int32.ofInt 1) (by decide) (zdal_p dlB_Group_isSetKept_133 (i := 21) rfl) ?_
        exact zk_iret (pc := 40) (ty := .boolean) rfl (z_narB (by (decide))) ⟨by (decide), by (decide)⟩ hf (show ((1 = 1 ∧ (∀ p_ : Nat, p_ < P_ → (a0_).toNat.testBit p_ = true → (zrch (gN T_) (zCo P_ d_ Mz) (a1_).toNat p_) &&& (a0_).toNat = (zrch (gN T_) (zCo P_ d_ Mz) (a1_).toNat p_))) ∨ (1 = 0 ∧ ¬ (∀ p_ : Nat, p_ < P_ → (a0_).toNat.testBit p_ = true → (zrch (gN T_) (zCo P_ d_ Mz) (a1_).toNat p_) &&& (a0_).toNat = (zrch (gN T_) (zCo P_ d_ Mz) (a1_).toNat p_)))) from Or.inl (⟨(show 1 = 1 by first | rfl | exact fun p_ hp_ hb_ => hcl_ p_ (by omega) hb_), (show (∀ p_ : Nat, p_ < P_ → (a0_).toNat.testBit p_ = true → (zrch (gN T_) (zCo P_ d_ Mz) (a1_).toNat p_) &&& (a0_).toNat = (zrch (gN T_) (zCo P_ d_ Mz) (a1_).toNat p_)) by first | rfl | exact fun p_ hp_ hb_ => hcl_ p_ (by omega) hb_)⟩)) (zdal_p dlB_Group_isSetKept_133 (i := 22) rfl)
      · skip
        refine zw_iload_n (pc := 10) (n := 1) (x := Int32.ofInt a0_) rfl (zdal_p dlB_Group_isSetKept_133 (i := 6) rfl) ?_
        refine zw_iload_n (pc := 11) (n := 3) (x := Int32.ofInt u1_) rfl (zdal_p dlB_Group_isSetKept_133 (i := 7) rfl) ?_
        refine zr_callS hf.x (pc := 12) [.int (Int32.ofInt a0_), .int (Int32.ofInt u1_)] [] l_Group_73 (u_T_isIn l d_ Mz (hf.w hW) a0_ ha0_a ha0_b u1_ hu1_a hu1_b (show 0 ≤ a0_ by first | with_reducible assumption | assumption | omega) (show a0_ < 2147483648 by first | with_reducible assumption | assumption | omega) (show 0 ≤ u1_ by first | with_reducible assumption | assumption | omega) (show u1_ < 31 by first | with_reducible assumption | assumption | omega)) rfl rfl (by decide) (Nat.le_of_ble_eq_true rfl) (zdal_p dlB_Group_isSetKept_133 (i := 8) rfl) ?_
        rintro _ N5_ ⟨v6_, rfl, ⟨hv6_a, hv6_b⟩, hsN5_, hp0_N5_⟩
        obtain rfl := hsN5_.eq.symm
        replace hp0_N5_ : ((v6_ = 1 ∧ zbt a0_ u1_) ∨ (v6_ = 0 ∧ ¬ zbt a0_ u1_)) := hp0_N5_
        rcases hp0_N5_ with ⟨rfl, ha12_0_hp0_N5_⟩ | ⟨rfl, ha12_0_hp0_N5_⟩
        · skip
          have hin_ := ha12_0_hp0_N5_
          show zW l m_Group_isSetKept (zn Mz + 0, zw Mz + 0) Mz 15 [some (.ref (d_ + 1)), some (.int (Int32.ofInt a0_)), some (.int (Int32.ofInt a1_)), some (.int (Int32.ofInt u1_))] [.int (Int32.ofInt 1)] _
          refine zr_if_eq (pc := 15) (tgt := 33) ⟨(by decide), (by decide)⟩ (by decide) (zdal_p dlB_Group_isSetKept_133 (i := 9) rfl) (fun hc_15 => ?_) (fun hc_15 => ?_)
          · skip
            exact absurd hc_15 (by decide)
          · skip
            refine zw_aload_n (pc := 18) (n := 0) (x := (d_ + 1)) rfl (zdal_p dlB_Group_isSetKept_133 (i := 10) rfl) ?_
            refine zw_iload_n (pc := 19) (n := 3) (x := Int32.ofInt u1_) rfl (zdal_p dlB_Group_isSetKept_133 (i := 11) rfl) ?_
            refine zw_iload_n (pc := 20) (n := 2) (x := Int32.ofInt a1_) rfl (zdal_p dlB_Group_isSetKept_133 (i := 12) rfl) ?_
            refine zk_callV hf.x (pc := 21) [.int (Int32.ofInt u1_), .int (Int32.ofInt a1_)] [] l_Group_103 (u_Group_placesReachedG l d_ Mz (hf.w hW) u1_ hu1_a hu1_b a1_ ha1_a ha1_b T_ hT_ P_ mv_ p0_ p1_ (show 0 ≤ u1_ by first | with_reducible assumption | assumption | omega) (show u1_ < (P_ : Int) by first | with_reducible assumption | (exact zo_2223 hP0_ hc_7 hu1_b i3_) | assumption) (show 0 ≤ a1_ by first | with_reducible assumption | assumption | omega) (show a1_ < 16777216 by first | with_reducible assumption | assumption | omega)) rfl rfl ((hf.w hW).kr (o := 1) (by decide)) (by decide) (by decide) (Nat.le_of_ble_eq_true rfl) (zdal_p dlB_Group_isSetKept_133 (i := 13) rfl) ?_
            rintro _ N7_ ⟨v8_, rfl, ⟨hv8_a, hv8_b⟩, hsN7_, hp0_N7_⟩
            obtain rfl := hsN7_.eq.symm
            replace hp0_N7_ : zImg (fun m_ => (a1_).toNat.testBit m_ = true) (fun m_ => gdg (zCo P_ d_ Mz m_) (u1_).toNat) (gN T_) v8_ := hp0_N7_
            show zW l m_Group_isSetKept (zn Mz + 0, zw Mz + 0) Mz 24 [some (.ref (d_ + 1)), some (.int (Int32.ofInt a0_)), some (.int (Int32.ofInt a1_)), some (.int (Int32.ofInt u1_))] [.int (Int32.ofInt v8_)] _
            have hR_ := zImg_r hp0_N7_
            have hRb_ := (hp0_N7_).1
            refine zw_iload_n (pc := 24) (n := 1) (x := Int32.ofInt a0_) rfl (zdal_p dlB_Group_isSetKept_133 (i := 14) rfl) ?_
            refine zr_callS hf.x (pc := 25) [.int (Int32.ofInt v8_), .int (Int32.ofInt a0_)] [] l_Group_115 (u_T_isPart l d_ Mz (hf.w hW) v8_ hv8_a hv8_b a0_ ha0_a ha0_b (show 0 ≤ v8_ by first | with_reducible assumption | (exact zo_57 hRb_.1) | assumption) (show v8_ < 2147483648 by first | with_reducible assumption | assumption | omega) (show 0 ≤ a0_ by first | with_reducible assumption | assumption | omega) (show a0_ < 2147483648 by first | with_reducible assumption | assumption | omega)) rfl rfl (by decide) (Nat.le_of_ble_eq_true rfl) (zdal_p dlB_Group_isSetKept_133 (i := 15) rfl) ?_
            rintro _ N9_ ⟨v10_, rfl, ⟨hv10_a, hv10_b⟩, hsN9_, hp0_N9_⟩
            obtain rfl := hsN9_.eq.symm
            replace hp0_N9_ : ((v10_ = 1 ∧ (v8_).toNat &&& (a0_).toNat = (v8_).toNat) ∨ (v10_ = 0 ∧ ¬ (v8_).toNat &&& (a0_).toNat = (v8_).toNat)) := hp0_N9_
            rcases hp0_N9_ with ⟨rfl, ha25_0_hp0_N9_⟩ | ⟨rfl, ha25_0_hp0_N9_⟩
            · skip
              have hpt_ := ha25_0_hp0_N9_
              rw [hR_, Int.toNat_natCast] at hpt_
              have hcn_ : (∀ p_ : Nat, (p_ : Int) < u1_ + 1 → (a0_).toNat.testBit p_ = true → (zrch (gN T_) (zCo P_ d_ Mz) (a1_).toNat p_) &&& (a0_).toNat = (zrch (gN T_) (zCo P_ d_ Mz) (a1_).toNat p_)) := fun p_ hp_ hb_ => by by_cases g_ : (p_ : Int) = u1_; (rw [show p_ = (u1_).toNat by omega]; exact hpt_); exact hcl_ p_ (by (exact zo_130 hp_ g_)) hb_
              show zW l m_Group_isSetKept (zn Mz + 0, zw Mz + 0) Mz 28 [some (.ref (d_ + 1)), some (.int (Int32.ofInt a0_)), some (.int (Int32.ofInt a1_)), some (.int (Int32.ofInt u1_))] [.int (Int32.ofInt 1)] _
              refine zr_if_ne (pc := 28) (tgt := 33) ⟨(by decide), (by decide)⟩ (by decide) (zdal_p dlB_Group_isSetKept_133 (i := 16) rfl) (fun hc_28 => ?_) (fun hc_28 => ?_)
              · skip
                refine zr_iinc (pc := 33) (i := 3) (a := u1_) (n := 1) (L2 := [some (.ref (d_ + 1)), some (.int (Int32.ofInt a0_)), some (.int (Int32.ofInt a1_)), some (.int (Int32.ofInt (u1_ + 1)))]) rfl (by decide) rfl (zdal_p dlB_Group_isSetKept_133 (i := 19) rfl) ?_
                refine zw_goto (pc := 36) (tgt := 2) (by decide) (zdal_p dlB_Group_isSetKept_133 (i := 20) rfl) ?_
                exact ih_2 (u1_ + 1) (by (exact zo_74 i2_)) (by (exact zo_2921 hP6_ hu1_b i3_)) (show 0 ≤ (u1_ + 1) by first | with_reducible assumption | (exact zo_76 i2_) | assumption) (show (u1_ + 1) ≤ P_ by first | with_reducible assumption | (exact zo_77 hP0_ hc_7 hu1_b i3_) | assumption) (show (∀ p_ : Nat, (p_ : Int) < (u1_ + 1) → (a0_).toNat.testBit p_ = true → (zrch (gN T_) (zCo P_ d_ Mz) (a1_).toNat p_) &&& (a0_).toNat = (zrch (gN T_) (zCo P_ d_ Mz) (a1_).toNat p_)) by exact hcn_) (by (exact zo_78 hP0_ hc_7 hlt_2 hu1_b i3_))
              · skip
                exact absurd hc_28 (by decide)
            · skip
              have hnp_ := ha25_0_hp0_N9_
              rw [hR_, Int.toNat_natCast] at hnp_
              show zW l m_Group_isSetKept (zn Mz + 0, zw Mz + 0) Mz 28 [some (.ref (d_ + 1)), some (.int (Int32.ofInt a0_)), some (.int (Int32.ofInt a1_)), some (.int (Int32.ofInt u1_))] [.int (Int32.ofInt 0)] _
              refine zr_if_ne (pc := 28) (tgt := 33) ⟨(by decide), (by decide)⟩ (by decide) (zdal_p dlB_Group_isSetKept_133 (i := 16) rfl) (fun hc_28 => ?_) (fun hc_28 => ?_)
              · skip
                exact absurd hc_28 (by decide)
              · skip
                refine zw_iconst (pc := 31) (v := Int32.ofInt 0) (by decide) (zdal_p dlB_Group_isSetKept_133 (i := 17) rfl) ?_
                exact zk_iret (pc := 32) (ty := .boolean) rfl (z_narB (by (decide))) ⟨by (exact hv10_a), by (exact hv10_b)⟩ hf (show ((0 = 1 ∧ (∀ p_ : Nat, p_ < P_ → (a0_).toNat.testBit p_ = true → (zrch (gN T_) (zCo P_ d_ Mz) (a1_).toNat p_) &&& (a0_).toNat = (zrch (gN T_) (zCo P_ d_ Mz) (a1_).toNat p_))) ∨ (0 = 0 ∧ ¬ (∀ p_ : Nat, p_ < P_ → (a0_).toNat.testBit p_ = true → (zrch (gN T_) (zCo P_ d_ Mz) (a1_).toNat p_) &&& (a0_).toNat = (zrch (gN T_) (zCo P_ d_ Mz) (a1_).toNat p_)))) from Or.inr (⟨(show 0 = 0 by first | rfl | exact fun q_ => hnp_ (q_ _ (by omega) hin_)), (show ¬ (∀ p_ : Nat, p_ < P_ → (a0_).toNat.testBit p_ = true → (zrch (gN T_) (zCo P_ d_ Mz) (a1_).toNat p_) &&& (a0_).toNat = (zrch (gN T_) (zCo P_ d_ Mz) (a1_).toNat p_)) by first | rfl | exact fun q_ => hnp_ (q_ _ (by (exact zo_73 hP0_ hc_7 hu1_b i2_ i3_)) hin_))⟩)) (zdal_p dlB_Group_isSetKept_133 (i := 18) rfl)
        · skip
          have hno_ := ha12_0_hp0_N5_
          have hcn_ : (∀ p_ : Nat, (p_ : Int) < u1_ + 1 → (a0_).toNat.testBit p_ = true → (zrch (gN T_) (zCo P_ d_ Mz) (a1_).toNat p_) &&& (a0_).toNat = (zrch (gN T_) (zCo P_ d_ Mz) (a1_).toNat p_)) := fun p_ hp_ hb_ => by by_cases g_ : (p_ : Int) = u1_; exact absurd (by rw [show p_ = (u1_).toNat by omega] at hb_; exact hb_) hno_; exact hcl_ p_ (by (exact zo_130 hp_ g_)) hb_
          show zW l m_Group_isSetKept (zn Mz + 0, zw Mz + 0) Mz 15 [some (.ref (d_ + 1)), some (.int (Int32.ofInt a0_)), some (.int (Int32.ofInt a1_)), some (.int (Int32.ofInt u1_))] [.int (Int32.ofInt 0)] _
          refine zr_if_eq (pc := 15) (tgt := 33) ⟨(by decide), (by decide)⟩ (by decide) (zdal_p dlB_Group_isSetKept_133 (i := 9) rfl) (fun hc_15 => ?_) (fun hc_15 => ?_)
          · skip
            refine zr_iinc (pc := 33) (i := 3) (a := u1_) (n := 1) (L2 := [some (.ref (d_ + 1)), some (.int (Int32.ofInt a0_)), some (.int (Int32.ofInt a1_)), some (.int (Int32.ofInt (u1_ + 1)))]) rfl (by decide) rfl (zdal_p dlB_Group_isSetKept_133 (i := 19) rfl) ?_
            refine zw_goto (pc := 36) (tgt := 2) (by decide) (zdal_p dlB_Group_isSetKept_133 (i := 20) rfl) ?_
            exact ih_2 (u1_ + 1) (by (exact zo_74 i2_)) (by (exact zo_2921 hP6_ hu1_b i3_)) (show 0 ≤ (u1_ + 1) by first | with_reducible assumption | (exact zo_76 i2_) | assumption) (show (u1_ + 1) ≤ P_ by first | with_reducible assumption | (exact zo_77 hP0_ hc_7 hu1_b i3_) | assumption) (show (∀ p_ : Nat, (p_ : Int) < (u1_ + 1) → (a0_).toNat.testBit p_ = true → (zrch (gN T_) (zCo P_ d_ Mz) (a1_).toNat p_) &&& (a0_).toNat = (zrch (gN T_) (zCo P_ d_ Mz) (a1_).toNat p_)) by exact hcn_) (by (exact zo_78 hP0_ hc_7 hlt_2 hu1_b i3_))
          · skip
            exact absurd hc_15 (by decide)
  exact lp_2 _ 0 (by decide) (by decide) (show 0 ≤ (0 : Int) by first | with_reducible assumption | (decide) | assumption) (show (0 : Int) ≤ P_ by first | with_reducible assumption | (exact zo_85) | assumption) (show (∀ p_ : Nat, (p_ : Int) < (0 : Int) → (a0_).toNat.testBit p_ = true → (zrch (gN T_) (zCo P_ d_ Mz) (a1_).toNat p_) &&& (a0_).toNat = (zrch (gN T_) (zCo P_ d_ Mz) (a1_).toNat p_)) by exact fun p_ hp_ => absurd hp_ (by (exact zo_131))) (Nat.lt_succ_self _)
set_option maxHeartbeats 4000000 in
theorem u_Group_countSetsKeptS (l : Launch) (d_ : Nat) (Mz : zMem) (hW : zKW d_ Mz) (a0_ : Int) (ha0_a : -2147483648 ≤ a0_) (ha0_b : a0_ < 2147483648) (a1_ : Int) (ha1_a : -2147483648 ≤ a1_) (ha1_b : a1_ < 2147483648) (T_ : zGT) (hT_ : T_ ∈ gTabs) (P_ : Nat) (mv_ : List Nat) (p0_ : zMvK mv_ P_ d_ Mz) (p1_ : zGc mv_ P_ T_ d_ Mz) (p2_ : 0 ≤ a0_) (p3_ : a0_ ≤ 6) (p4_ : 0 ≤ a1_) (p5_ : a1_ < 16777216) : zC l m_Group_countSetsKept 0 0 [.ref (d_ + 1), .int (Int32.ofInt a0_), .int (Int32.ofInt a1_)] Mz (zqcI d_ [] [] [] [] Mz (fun v N => v = ((zct (fun s_ => gcb s_ = (a0_).toNat ∧ ∀ p_ : Nat, p_ < P_ → s_.testBit p_ = true → (zrch (gN T_) (zCo P_ d_ Mz) (a1_).toNat p_) &&& s_ = (zrch (gN T_) (zCo P_ d_ Mz) (a1_).toNat p_)) (2 ^ P_) : Nat) : Int))) := by
  refine zC_of (L0 := [some (.ref (d_ + 1)), some (.int (Int32.ofInt a0_)), some (.int (Int32.ofInt a1_)), none, none]) md_Group_countSetsKept (Nat.le_of_ble_eq_true rfl) rfl ?_ zQ0
  have hf : zFc d_ [] [] [] [] Mz Mz := zFc.rf
  have r_D1_5 := ze_r Mz (d_ + 1) 5
  have hO_ := gTabs_ok T_ hT_
  have hG_ := hO_.1
  have hn24_ := hG_.2.1
  have hn1_ := hG_.1
  obtain ⟨⟨hP0_, hP1_, hP6_⟩, -⟩ := id p0_
  have h64_ : 2 ^ P_ ≤ 64 := Nat.pow_le_pow_right (by decide) hP6_
  have hsh_ := tk_sh P_ (by (exact zo_2856 hP6_))
  obtain ⟨W_, hW_⟩ : ∃ w : Nat, w = 2 ^ P_ := ⟨_, rfl⟩
  rw [← hW_] at h64_ hsh_
  refine zw_iconst (pc := 0) (v := Int32.ofInt 0) (by decide) (zdal_p dlB_Group_countSetsKept_132 (i := 0) rfl) ?_
  refine zw_istore_n (pc := 1) (i := 3) (L2 := [some (.ref (d_ + 1)), some (.int (Int32.ofInt a0_)), some (.int (Int32.ofInt a1_)), some (.int (Int32.ofInt 0)), none]) rfl (by decide) rfl (zdal_p dlB_Group_countSetsKept_132 (i := 1) rfl) ?_
  refine zw_iconst (pc := 2) (v := Int32.ofInt 0) (by decide) (zdal_p dlB_Group_countSetsKept_132 (i := 2) rfl) ?_
  refine zw_istore (pc := 3) (i := 4) (L2 := [some (.ref (d_ + 1)), some (.int (Int32.ofInt a0_)), some (.int (Int32.ofInt a1_)), some (.int (Int32.ofInt 0)), some (.int (Int32.ofInt 0))]) (by decide) rfl (zdal_p dlB_Group_countSetsKept_132 (i := 3) rfl) ?_
  have lp_5 : ∀ (n : Nat) (u1_ : Int) (hu1_a : -2147483648 ≤ u1_) (hu1_b : u1_ < 2147483648) (u2_ : Int) (hu2_a : -2147483648 ≤ u2_) (hu2_b : u2_ < 2147483648) (i3_ : 0 ≤ u2_) (i4_ : u2_ ≤ W_) (i5_ : u1_ = ((zct (fun s_ => gcb s_ = (a0_).toNat ∧ ∀ p_ : Nat, p_ < P_ → s_.testBit p_ = true → (zrch (gN T_) (zCo P_ d_ Mz) (a1_).toNat p_) &&& s_ = (zrch (gN T_) (zCo P_ d_ Mz) (a1_).toNat p_)) (u2_).toNat : Nat) : Int)) (i6_ : 0 ≤ u1_ ∧ u1_ ≤ u2_), (W_ - u2_).toNat < n → zW l m_Group_countSetsKept (zn Mz + 0, zw Mz + 0) Mz 5 [some (.ref (d_ + 1)), some (.int (Int32.ofInt a0_)), some (.int (Int32.ofInt a1_)), some (.int (Int32.ofInt u1_)), some (.int (Int32.ofInt u2_))] [] (zqcI d_ [] [] [] [] Mz (fun v N => v = ((zct (fun s_ => gcb s_ = (a0_).toNat ∧ ∀ p_ : Nat, p_ < P_ → s_.testBit p_ = true → (zrch (gN T_) (zCo P_ d_ Mz) (a1_).toNat p_) &&& s_ = (zrch (gN T_) (zCo P_ d_ Mz) (a1_).toNat p_)) (2 ^ P_) : Nat) : Int))) := by
    intro n
    induction n with
    | zero =>
      intro u1_ hu1_a hu1_b u2_ hu2_a hu2_b i3_ i4_ i5_ i6_ h0
      exact absurd h0 (Nat.not_lt_zero _)
    | succ n ih_5 =>
      intro u1_ hu1_a hu1_b u2_ hu2_a hu2_b i3_ i4_ i5_ i6_ hlt_5
      have hkc_ := (show u1_ = ((zct (fun s_ => gcb s_ = (a0_).toNat ∧ ∀ p_ : Nat, p_ < P_ → s_.testBit p_ = true → (zrch (gN T_) (zCo P_ d_ Mz) (a1_).toNat p_) &&& s_ = (zrch (gN T_) (zCo P_ d_ Mz) (a1_).toNat p_)) (u2_).toNat : Nat) : Int) by first | with_reducible assumption | assumption)
      refine zw_iload (pc := 5) (i := 4) (x := Int32.ofInt u2_) rfl (zdal_p dlB_Group_countSetsKept_132 (i := 4) rfl) ?_
      refine zw_iconst (pc := 7) (v := Int32.ofInt 1) (by decide) (zdal_p dlB_Group_countSetsKept_132 (i := 5) rfl) ?_
      refine zw_aload_n (pc := 8) (n := 0) (x := (d_ + 1)) rfl (zdal_p dlB_Group_countSetsKept_132 (i := 6) rfl) ?_
      refine zk_getI (pc := 9) f_Group_32 rfl ((hf.w hW).kr (o := 1) (by decide)) (zdal_p dlB_Group_countSetsKept_132 (i := 7) rfl) ?_
      refine zr_ishl (pc := 12) (zdal_p dlB_Group_countSetsKept_132 (i := 8) rfl) ?_
      have hr7_ := zshl_r 1 (ze Mz (d_ + 1) 5)
      have hw_ : (zshl 1 (ze Mz (d_ + 1) 5)) = (W_ : Int) := by rw [show ze Mz (d_ + 1) 5 = (P_ : Int) by (exact hP0_)]; exact hsh_
      refine zr_icmp_ge (pc := 13) (tgt := 44) ⟨hu2_a, hu2_b⟩ ⟨(by (exact zo_284 hr7_.1)), (by (exact zo_285 hr7_.2))⟩ (by decide) (zdal_p dlB_Group_countSetsKept_132 (i := 9) rfl) (fun hc_13 => ?_) (fun hc_13 => ?_)
      · skip
        refine zw_iload_n (pc := 44) (n := 3) (x := Int32.ofInt u1_) rfl (zdal_p dlB_Group_countSetsKept_132 (i := 22) rfl) ?_
        exact zk_iret (pc := 45) (ty := .int) rfl rfl ⟨by (exact hu1_a), by (exact hu1_b)⟩ hf (show u1_ = ((zct (fun s_ => gcb s_ = (a0_).toNat ∧ ∀ p_ : Nat, p_ < P_ → s_.testBit p_ = true → (zrch (gN T_) (zCo P_ d_ Mz) (a1_).toNat p_) &&& s_ = (zrch (gN T_) (zCo P_ d_ Mz) (a1_).toNat p_)) (2 ^ P_) : Nat) : Int) by rw [← hW_, show W_ = (u2_).toNat by omega]; exact hkc_) (zdal_p dlB_Group_countSetsKept_132 (i := 23) rfl)
      · skip
        refine zw_iload (pc := 16) (i := 4) (x := Int32.ofInt u2_) rfl (zdal_p dlB_Group_countSetsKept_132 (i := 10) rfl) ?_
        refine zr_callS hf.x (pc := 18) [.int (Int32.ofInt u2_)] [] l_Group_83 (u_Integer_bitCount l d_ Mz (hf.w hW) u2_ hu2_a hu2_b (show 0 ≤ u2_ by first | with_reducible assumption | assumption | omega)) rfl rfl (by decide) (Nat.le_of_ble_eq_true rfl) (zdal_p dlB_Group_countSetsKept_132 (i := 11) rfl) ?_
        rintro _ N8_ ⟨v9_, rfl, ⟨hv9_a, hv9_b⟩, hsN8_, ⟨hp0_N8_, hp1_N8_, hp2_N8_⟩⟩
        obtain rfl := hsN8_.eq.symm
        show zW l m_Group_countSetsKept (zn Mz + 0, zw Mz + 0) Mz 21 [some (.ref (d_ + 1)), some (.int (Int32.ofInt a0_)), some (.int (Int32.ofInt a1_)), some (.int (Int32.ofInt u1_)), some (.int (Int32.ofInt u2_))] [.int (Int32.ofInt v9_)] _
        have hb_ := hp0_N8_
        rw [kbc_g (by omega)] at hb_
        refine zw_iload_n (pc := 21) (n := 1) (x := Int32.ofInt a0_) rfl (zdal_p dlB_Group_countSetsKept_132 (i := 12) rfl) ?_
        refine zr_icmp_ne (pc := 22) (tgt := 38) ⟨hv9_a, hv9_b⟩ ⟨ha0_a, ha0_b⟩ (by decide) (zdal_p dlB_Group_countSetsKept_132 (i := 13) rfl) (fun hc_22 => ?_) (fun hc_22 => ?_)
        · skip
          refine zr_iinc (pc := 38) (i := 4) (a := u2_) (n := 1) (L2 := [some (.ref (d_ + 1)), some (.int (Int32.ofInt a0_)), some (.int (Int32.ofInt a1_)), some (.int (Int32.ofInt u1_)), some (.int (Int32.ofInt (u2_ + 1)))]) rfl (by decide) rfl (zdal_p dlB_Group_countSetsKept_132 (i := 20) rfl) ?_
          refine zw_goto (pc := 41) (tgt := 5) (by decide) (zdal_p dlB_Group_countSetsKept_132 (i := 21) rfl) ?_
          have hkn_ : u1_ = ((zct (fun s_ => gcb s_ = (a0_).toNat ∧ ∀ p_ : Nat, p_ < P_ → s_.testBit p_ = true → (zrch (gN T_) (zCo P_ d_ Mz) (a1_).toNat p_) &&& s_ = (zrch (gN T_) (zCo P_ d_ Mz) (a1_).toNat p_)) ((u2_ + 1)).toNat : Nat) : Int) := by first | exact zct_1 (p := (fun s_ => gcb s_ = (a0_).toNat ∧ ∀ p_ : Nat, p_ < P_ → s_.testBit p_ = true → (zrch (gN T_) (zCo P_ d_ Mz) (a1_).toNat p_) &&& s_ = (zrch (gN T_) (zCo P_ d_ Mz) (a1_).toNat p_))) (by omega) hkc_ ⟨by omega, hk1_⟩ | exact zct_0 (p := (fun s_ => gcb s_ = (a0_).toNat ∧ ∀ p_ : Nat, p_ < P_ → s_.testBit p_ = true → (zrch (gN T_) (zCo P_ d_ Mz) (a1_).toNat p_) &&& s_ = (zrch (gN T_) (zCo P_ d_ Mz) (a1_).toNat p_))) (by omega) hkc_ (fun q_ => hk0_ q_.2) | exact zct_0 (p := (fun s_ => gcb s_ = (a0_).toNat ∧ ∀ p_ : Nat, p_ < P_ → s_.testBit p_ = true → (zrch (gN T_) (zCo P_ d_ Mz) (a1_).toNat p_) &&& s_ = (zrch (gN T_) (zCo P_ d_ Mz) (a1_).toNat p_))) (by (exact i3_)) hkc_ (fun q_ => by have h_ := q_.1; omega)
          exact ih_5 u1_ hu1_a hu1_b (u2_ + 1) (by (exact zo_74 i3_)) (by (exact zo_2924 h64_ hu2_b i4_)) (show 0 ≤ (u2_ + 1) by first | with_reducible assumption | (exact zo_76 i3_) | assumption) (show (u2_ + 1) ≤ W_ by first | with_reducible assumption | (exact zo_2925 hc_13 hu2_b hw_ i4_) | assumption) (show u1_ = ((zct (fun s_ => gcb s_ = (a0_).toNat ∧ ∀ p_ : Nat, p_ < P_ → s_.testBit p_ = true → (zrch (gN T_) (zCo P_ d_ Mz) (a1_).toNat p_) &&& s_ = (zrch (gN T_) (zCo P_ d_ Mz) (a1_).toNat p_)) ((u2_ + 1)).toNat : Nat) : Int) by exact hkn_) (show 0 ≤ u1_ ∧ u1_ ≤ (u2_ + 1) by first | with_reducible assumption | assumption | omega) (by (exact zo_2926 hc_13 hlt_5 hu2_b hw_ i4_))
        · skip
          refine zw_aload_n (pc := 25) (n := 0) (x := (d_ + 1)) rfl (zdal_p dlB_Group_countSetsKept_132 (i := 14) rfl) ?_
          refine zw_iload (pc := 26) (i := 4) (x := Int32.ofInt u2_) rfl (zdal_p dlB_Group_countSetsKept_132 (i := 15) rfl) ?_
          refine zw_iload_n (pc := 28) (n := 2) (x := Int32.ofInt a1_) rfl (zdal_p dlB_Group_countSetsKept_132 (i := 16) rfl) ?_
          refine zk_callV hf.x (pc := 29) [.int (Int32.ofInt u2_), .int (Int32.ofInt a1_)] [] l_Group_112 (u_Group_isSetKeptS l d_ Mz (hf.w hW) u2_ hu2_a hu2_b a1_ ha1_a ha1_b T_ hT_ P_ mv_ p0_ p1_ (show 0 ≤ u2_ by first | with_reducible assumption | assumption | omega) (show u2_ < 64 by first | with_reducible assumption | assumption | omega) (show 0 ≤ a1_ by first | with_reducible assumption | assumption | omega) (show a1_ < 16777216 by first | with_reducible assumption | assumption | omega)) rfl rfl ((hf.w hW).kr (o := 1) (by decide)) (by decide) (by decide) (Nat.le_of_ble_eq_true rfl) (zdal_p dlB_Group_countSetsKept_132 (i := 17) rfl) ?_
          rintro _ N10_ ⟨v11_, rfl, ⟨hv11_a, hv11_b⟩, hsN10_, hp0_N10_⟩
          obtain rfl := hsN10_.eq.symm
          replace hp0_N10_ : ((v11_ = 1 ∧ (∀ p_ : Nat, p_ < P_ → (u2_).toNat.testBit p_ = true → (zrch (gN T_) (zCo P_ d_ Mz) (a1_).toNat p_) &&& (u2_).toNat = (zrch (gN T_) (zCo P_ d_ Mz) (a1_).toNat p_))) ∨ (v11_ = 0 ∧ ¬ (∀ p_ : Nat, p_ < P_ → (u2_).toNat.testBit p_ = true → (zrch (gN T_) (zCo P_ d_ Mz) (a1_).toNat p_) &&& (u2_).toNat = (zrch (gN T_) (zCo P_ d_ Mz) (a1_).toNat p_)))) := hp0_N10_
          rcases hp0_N10_ with ⟨rfl, ha29_0_hp0_N10_⟩ | ⟨rfl, ha29_0_hp0_N10_⟩
          · skip
            have hk1_ := ha29_0_hp0_N10_
            show zW l m_Group_countSetsKept (zn Mz + 0, zw Mz + 0) Mz 32 [some (.ref (d_ + 1)), some (.int (Int32.ofInt a0_)), some (.int (Int32.ofInt a1_)), some (.int (Int32.ofInt u1_)), some (.int (Int32.ofInt u2_))] [.int (Int32.ofInt 1)] _
            refine zr_if_eq (pc := 32) (tgt := 38) ⟨(by decide), (by decide)⟩ (by decide) (zdal_p dlB_Group_countSetsKept_132 (i := 18) rfl) (fun hc_32 => ?_) (fun hc_32 => ?_)
            · skip
              exact absurd hc_32 (by decide)
            · skip
              refine zr_iinc (pc := 35) (i := 3) (a := u1_) (n := 1) (L2 := [some (.ref (d_ + 1)), some (.int (Int32.ofInt a0_)), some (.int (Int32.ofInt a1_)), some (.int (Int32.ofInt (u1_ + 1))), some (.int (Int32.ofInt u2_))]) rfl (by decide) rfl (zdal_p dlB_Group_countSetsKept_132 (i := 19) rfl) ?_
              refine zr_iinc (pc := 38) (i := 4) (a := u2_) (n := 1) (L2 := [some (.ref (d_ + 1)), some (.int (Int32.ofInt a0_)), some (.int (Int32.ofInt a1_)), some (.int (Int32.ofInt (u1_ + 1))), some (.int (Int32.ofInt (u2_ + 1)))]) rfl (by decide) rfl (zdal_p dlB_Group_countSetsKept_132 (i := 20) rfl) ?_
              refine zw_goto (pc := 41) (tgt := 5) (by decide) (zdal_p dlB_Group_countSetsKept_132 (i := 21) rfl) ?_
              have hkn_ : (u1_ + 1) = ((zct (fun s_ => gcb s_ = (a0_).toNat ∧ ∀ p_ : Nat, p_ < P_ → s_.testBit p_ = true → (zrch (gN T_) (zCo P_ d_ Mz) (a1_).toNat p_) &&& s_ = (zrch (gN T_) (zCo P_ d_ Mz) (a1_).toNat p_)) ((u2_ + 1)).toNat : Nat) : Int) := by first | exact zct_1 (p := (fun s_ => gcb s_ = (a0_).toNat ∧ ∀ p_ : Nat, p_ < P_ → s_.testBit p_ = true → (zrch (gN T_) (zCo P_ d_ Mz) (a1_).toNat p_) &&& s_ = (zrch (gN T_) (zCo P_ d_ Mz) (a1_).toNat p_))) (by (exact i3_)) hkc_ ⟨by omega, hk1_⟩ | exact zct_0 (p := (fun s_ => gcb s_ = (a0_).toNat ∧ ∀ p_ : Nat, p_ < P_ → s_.testBit p_ = true → (zrch (gN T_) (zCo P_ d_ Mz) (a1_).toNat p_) &&& s_ = (zrch (gN T_) (zCo P_ d_ Mz) (a1_).toNat p_))) (by omega) hkc_ (fun q_ => hk0_ q_.2) | exact zct_0 (p := (fun s_ => gcb s_ = (a0_).toNat ∧ ∀ p_ : Nat, p_ < P_ → s_.testBit p_ = true → (zrch (gN T_) (zCo P_ d_ Mz) (a1_).toNat p_) &&& s_ = (zrch (gN T_) (zCo P_ d_ Mz) (a1_).toNat p_))) (by omega) hkc_ (fun q_ => by have h_ := q_.1; omega)
              exact ih_5 (u1_ + 1) (by (exact zo_74 i6_.1)) (by omega) (u2_ + 1) (by (exact zo_74 i3_)) (by (exact zo_2924 h64_ hu2_b i4_)) (show 0 ≤ (u2_ + 1) by first | with_reducible assumption | (exact zo_76 i3_) | assumption) (show (u2_ + 1) ≤ W_ by first | with_reducible assumption | (exact zo_2925 hc_13 hu2_b hw_ i4_) | assumption) (show (u1_ + 1) = ((zct (fun s_ => gcb s_ = (a0_).toNat ∧ ∀ p_ : Nat, p_ < P_ → s_.testBit p_ = true → (zrch (gN T_) (zCo P_ d_ Mz) (a1_).toNat p_) &&& s_ = (zrch (gN T_) (zCo P_ d_ Mz) (a1_).toNat p_)) ((u2_ + 1)).toNat : Nat) : Int) by exact hkn_) (show 0 ≤ (u1_ + 1) ∧ (u1_ + 1) ≤ (u2_ + 1) by first | with_reducible assumption | assumption | omega) (by (exact zo_2926 hc_13 hlt_5 hu2_b hw_ i4_))
          · skip
            have hk0_ := ha29_0_hp0_N10_
            show zW l m_Group_countSetsKept (zn Mz + 0, zw Mz + 0) Mz 32 [some (.ref (d_ + 1)), some (.int (Int32.ofInt a0_)), some (.int (Int32.ofInt a1_)), some (.int (Int32.ofInt u1_)), some (.int (Int32.ofInt u2_))] [.int (Int32.ofInt 0)] _
            refine zr_if_eq (pc := 32) (tgt := 38) ⟨(by decide), (by decide)⟩ (by decide) (zdal_p dlB_Group_countSetsKept_132 (i := 18) rfl) (fun hc_32 => ?_) (fun hc_32 => ?_)
            · skip
              refine zr_iinc (pc := 38) (i := 4) (a := u2_) (n := 1) (L2 := [some (.ref (d_ + 1)), some (.int (Int32.ofInt a0_)), some (.int (Int32.ofInt a1_)), some (.int (Int32.ofInt u1_)), some (.int (Int32.ofInt (u2_ + 1)))]) rfl (by decide) rfl (zdal_p dlB_Group_countSetsKept_132 (i := 20) rfl) ?_
              refine zw_goto (pc := 41) (tgt := 5) (by decide) (zdal_p dlB_Group_countSetsKept_132 (i := 21) rfl) ?_
              have hkn_ : u1_ = ((zct (fun s_ => gcb s_ = (a0_).toNat ∧ ∀ p_ : Nat, p_ < P_ → s_.testBit p_ = true → (zrch (gN T_) (zCo P_ d_ Mz) (a1_).toNat p_) &&& s_ = (zrch (gN T_) (zCo P_ d_ Mz) (a1_).toNat p_)) ((u2_ + 1)).toNat : Nat) : Int) := by first | exact zct_1 (p := (fun s_ => gcb s_ = (a0_).toNat ∧ ∀ p_ : Nat, p_ < P_ → s_.testBit p_ = true → (zrch (gN T_) (zCo P_ d_ Mz) (a1_).toNat p_) &&& s_ = (zrch (gN T_) (zCo P_ d_ Mz) (a1_).toNat p_))) (by omega) hkc_ ⟨by omega, hk1_⟩ | exact zct_0 (p := (fun s_ => gcb s_ = (a0_).toNat ∧ ∀ p_ : Nat, p_ < P_ → s_.testBit p_ = true → (zrch (gN T_) (zCo P_ d_ Mz) (a1_).toNat p_) &&& s_ = (zrch (gN T_) (zCo P_ d_ Mz) (a1_).toNat p_))) (by (exact i3_)) hkc_ (fun q_ => hk0_ q_.2) | exact zct_0 (p := (fun s_ => gcb s_ = (a0_).toNat ∧ ∀ p_ : Nat, p_ < P_ → s_.testBit p_ = true → (zrch (gN T_) (zCo P_ d_ Mz) (a1_).toNat p_) &&& s_ = (zrch (gN T_) (zCo P_ d_ Mz) (a1_).toNat p_))) (by omega) hkc_ (fun q_ => by have h_ := q_.1; omega)
              exact ih_5 u1_ hu1_a hu1_b (u2_ + 1) (by (exact zo_74 i3_)) (by (exact zo_2924 h64_ hu2_b i4_)) (show 0 ≤ (u2_ + 1) by first | with_reducible assumption | (exact zo_76 i3_) | assumption) (show (u2_ + 1) ≤ W_ by first | with_reducible assumption | (exact zo_2925 hc_13 hu2_b hw_ i4_) | assumption) (show u1_ = ((zct (fun s_ => gcb s_ = (a0_).toNat ∧ ∀ p_ : Nat, p_ < P_ → s_.testBit p_ = true → (zrch (gN T_) (zCo P_ d_ Mz) (a1_).toNat p_) &&& s_ = (zrch (gN T_) (zCo P_ d_ Mz) (a1_).toNat p_)) ((u2_ + 1)).toNat : Nat) : Int) by exact hkn_) (show 0 ≤ u1_ ∧ u1_ ≤ (u2_ + 1) by first | with_reducible assumption | assumption | omega) (by (exact zo_2926 hc_13 hlt_5 hu2_b hw_ i4_))
            · skip
              exact absurd hc_32 (by decide)
  exact lp_5 _ 0 (by decide) (by decide) 0 (by decide) (by decide) (show 0 ≤ (0 : Int) by first | with_reducible assumption | (decide) | assumption) (show (0 : Int) ≤ W_ by first | with_reducible assumption | (exact zo_85) | assumption) (show (0 : Int) = ((zct (fun s_ => gcb s_ = (a0_).toNat ∧ ∀ p_ : Nat, p_ < P_ → s_.testBit p_ = true → (zrch (gN T_) (zCo P_ d_ Mz) (a1_).toNat p_) &&& s_ = (zrch (gN T_) (zCo P_ d_ Mz) (a1_).toNat p_)) ((0 : Int)).toNat : Nat) : Int) by rfl) (show 0 ≤ (0 : Int) ∧ (0 : Int) ≤ (0 : Int) by first | with_reducible assumption | (decide) | assumption) (Nat.lt_succ_self _)
set_option maxHeartbeats 4000000 in
theorem u_Group_powerS (l : Launch) (d_ : Nat) (Mz : zMem) (hW : zKW d_ Mz) (a0_ : Int) (ha0_a : -2147483648 ≤ a0_) (ha0_b : a0_ < 2147483648) (a1_ : Int) (ha1_a : -2147483648 ≤ a1_) (ha1_b : a1_ < 2147483648) (p0_ : 0 ≤ a0_) (p1_ : a0_ ≤ 6) (p2_ : 0 ≤ a1_) (p3_ : a1_ ≤ 6) : zC l m_Group_power 0 0 [.int (Int32.ofInt a0_), .int (Int32.ofInt a1_)] Mz (zqcI d_ [] [] [] [] Mz (fun v N => v = a0_ ^ (a1_).toNat)) := by
  refine zC_of (L0 := [some (.int (Int32.ofInt a0_)), some (.int (Int32.ofInt a1_)), none, none]) md_Group_power (Nat.le_of_ble_eq_true rfl) rfl ?_ zQ0
  have hf : zFc d_ [] [] [] [] Mz Mz := zFc.rf
  refine zw_iconst (pc := 0) (v := Int32.ofInt 1) (by decide) (zdal_p dlB_Group_power_134 (i := 0) rfl) ?_
  refine zw_istore_n (pc := 1) (i := 2) (L2 := [some (.int (Int32.ofInt a0_)), some (.int (Int32.ofInt a1_)), some (.int (Int32.ofInt 1)), none]) rfl (by decide) rfl (zdal_p dlB_Group_power_134 (i := 1) rfl) ?_
  refine zw_iconst (pc := 2) (v := Int32.ofInt 0) (by decide) (zdal_p dlB_Group_power_134 (i := 2) rfl) ?_
  refine zw_istore_n (pc := 3) (i := 3) (L2 := [some (.int (Int32.ofInt a0_)), some (.int (Int32.ofInt a1_)), some (.int (Int32.ofInt 1)), some (.int (Int32.ofInt 0))]) rfl (by decide) rfl (zdal_p dlB_Group_power_134 (i := 3) rfl) ?_
  have lp_4 : ∀ (n : Nat) (u1_ : Int) (hu1_a : -2147483648 ≤ u1_) (hu1_b : u1_ < 2147483648) (u2_ : Int) (hu2_a : -2147483648 ≤ u2_) (hu2_b : u2_ < 2147483648) (i3_ : 0 ≤ u2_) (i4_ : u2_ ≤ a1_) (i5_ : u1_ = a0_ ^ (u2_).toNat) (i6_ : 0 ≤ u1_ ∧ u1_ ≤ 46656), (a1_ - u2_).toNat < n → zW l m_Group_power (zn Mz + 0, zw Mz + 0) Mz 4 [some (.int (Int32.ofInt a0_)), some (.int (Int32.ofInt a1_)), some (.int (Int32.ofInt u1_)), some (.int (Int32.ofInt u2_))] [] (zqcI d_ [] [] [] [] Mz (fun v N => v = a0_ ^ (a1_).toNat)) := by
    intro n
    induction n with
    | zero =>
      intro u1_ hu1_a hu1_b u2_ hu2_a hu2_b i3_ i4_ i5_ i6_ h0
      exact absurd h0 (Nat.not_lt_zero _)
    | succ n ih_4 =>
      intro u1_ hu1_a hu1_b u2_ hu2_a hu2_b i3_ i4_ i5_ i6_ hlt_4
      have hpw_ := (show u1_ = a0_ ^ (u2_).toNat by first | with_reducible assumption | assumption)
      refine zw_iload_n (pc := 4) (n := 3) (x := Int32.ofInt u2_) rfl (zdal_p dlB_Group_power_134 (i := 4) rfl) ?_
      refine zw_iload_n (pc := 5) (n := 1) (x := Int32.ofInt a1_) rfl (zdal_p dlB_Group_power_134 (i := 5) rfl) ?_
      refine zr_icmp_ge (pc := 6) (tgt := 19) ⟨hu2_a, hu2_b⟩ ⟨ha1_a, ha1_b⟩ (by decide) (zdal_p dlB_Group_power_134 (i := 6) rfl) (fun hc_6 => ?_) (fun hc_6 => ?_)
      · skip
        refine zw_iload_n (pc := 19) (n := 2) (x := Int32.ofInt u1_) rfl (zdal_p dlB_Group_power_134 (i := 13) rfl) ?_
        exact zk_iret (pc := 20) (ty := .int) rfl rfl ⟨by (exact hu1_a), by (exact hu1_b)⟩ hf (show u1_ = a0_ ^ (a1_).toNat by rw [show a1_ = u2_ by (exact zo_135 hc_6 i4_)]; exact hpw_) (zdal_p dlB_Group_power_134 (i := 14) rfl)
      · skip
        refine zw_iload_n (pc := 9) (n := 2) (x := Int32.ofInt u1_) rfl (zdal_p dlB_Group_power_134 (i := 7) rfl) ?_
        refine zw_iload_n (pc := 10) (n := 0) (x := Int32.ofInt a0_) rfl (zdal_p dlB_Group_power_134 (i := 8) rfl) ?_
        refine zr_imul (pc := 11) (zdal_p dlB_Group_power_134 (i := 9) rfl) ?_
        refine zk_nmI (fun v7_ hv7_ hv7_e => ?_)
        obtain ⟨hv7_a, hv7_b⟩ := hv7_
        have hpn_ := zpw_s (n := a0_) hpw_ (show 0 ≤ u2_ by (exact i3_))
        have hpb_ := tkp_6 p0_ p1_ (u2_ + 1).toNat (by omega)
        rw [← hpn_] at hpb_
        have hve_ := hv7_e ⟨by omega, by omega⟩
        have hvf_ := hve_.trans hpn_
        refine zw_istore_n (pc := 12) (i := 2) (L2 := [some (.int (Int32.ofInt a0_)), some (.int (Int32.ofInt a1_)), some (.int (Int32.ofInt v7_)), some (.int (Int32.ofInt u2_))]) rfl (by decide) rfl (zdal_p dlB_Group_power_134 (i := 10) rfl) ?_
        refine zr_iinc (pc := 13) (i := 3) (a := u2_) (n := 1) (L2 := [some (.int (Int32.ofInt a0_)), some (.int (Int32.ofInt a1_)), some (.int (Int32.ofInt v7_)), some (.int (Int32.ofInt (u2_ + 1)))]) rfl (by decide) rfl (zdal_p dlB_Group_power_134 (i := 11) rfl) ?_
        refine zw_goto (pc := 16) (tgt := 4) (by decide) (zdal_p dlB_Group_power_134 (i := 12) rfl) ?_
        exact ih_4 v7_ hv7_a hv7_b (u2_ + 1) (by (exact zo_74 i3_)) (by (exact zo_671 hc_6 p3_)) (show 0 ≤ (u2_ + 1) by first | with_reducible assumption | (exact zo_76 i3_) | assumption) (show (u2_ + 1) ≤ a1_ by first | with_reducible assumption | assumption | omega) (show v7_ = a0_ ^ ((u2_ + 1)).toNat by exact hvf_) (show 0 ≤ v7_ ∧ v7_ ≤ 46656 by omega) (by (exact zo_147 hc_6 hlt_4))
  exact lp_4 _ 1 (by decide) (by decide) 0 (by decide) (by decide) (show 0 ≤ (0 : Int) by first | with_reducible assumption | (decide) | assumption) (show (0 : Int) ≤ a1_ by first | with_reducible assumption | assumption | omega) (show (1 : Int) = a0_ ^ ((0 : Int)).toNat by exact (Int.pow_zero _).symm) (show 0 ≤ (1 : Int) ∧ (1 : Int) ≤ 46656 by first | with_reducible assumption | (decide) | assumption) (Nat.lt_succ_self _)
set_option maxHeartbeats 4000000 in
theorem u_Group_countKeptS (l : Launch) (d_ : Nat) (Mz : zMem) (hW : zKW d_ Mz) (a0_ : Int) (ha0_a : -2147483648 ≤ a0_) (ha0_b : a0_ < 2147483648) (a1_ : Int) (ha1_a : -2147483648 ≤ a1_) (ha1_b : a1_ < 2147483648) (a2_ : Int) (ha2_a : -2147483648 ≤ a2_) (ha2_b : a2_ < 2147483648) (T_ : zGT) (hT_ : T_ ∈ gTabs) (P_ : Nat) (mv_ : List Nat) (p0_ : zMvK mv_ P_ d_ Mz) (p1_ : zGc mv_ P_ T_ d_ Mz) (p2_ : 0 ≤ a2_) (p3_ : a2_ < 16777216) (p4_ : zPt (zrch (gN T_) (zCo P_ d_ Mz) (a2_).toNat) P_) (p5_ : (a0_ = 0 ∨ ((a0_ = 1 ∨ a0_ = 2) ∧ 0 ≤ a1_ ∧ a1_ ≤ 6))) : zC l m_Group_countKept 0 0 [.ref (d_ + 1), .int (Int32.ofInt a0_), .int (Int32.ofInt a1_), .int (Int32.ofInt a2_)] Mz (zqcI d_ [] [] [] [] Mz (fun v N => v = tkv (zrr P_ T_ (zCo P_ d_ Mz) (a2_).toNat) a0_ a1_)) := by
  refine zC_of (L0 := [some (.ref (d_ + 1)), some (.int (Int32.ofInt a0_)), some (.int (Int32.ofInt a1_)), some (.int (Int32.ofInt a2_)), none, none, none, none]) md_Group_countKept (Nat.le_of_ble_eq_true rfl) rfl ?_ zQ0
  have hf : zFc d_ [] [] [] [] Mz Mz := zFc.rf
  have r_D1_5 := ze_r Mz (d_ + 1) 5
  have hO_ := gTabs_ok T_ hT_
  have hG_ := hO_.1
  have hn24_ := hG_.2.1
  have hn1_ := hG_.1
  obtain ⟨⟨hP0_, hP1_, hP6_⟩, -⟩ := id p0_
  have h64_ : 2 ^ P_ ≤ 64 := Nat.pow_le_pow_right (by decide) hP6_
  refine zw_iconst (pc := 0) (v := Int32.ofInt 0) (by decide) (zdal_p dlB_Group_countKept_130 (i := 0) rfl) ?_
  refine zw_istore (pc := 1) (i := 4) (L2 := [some (.ref (d_ + 1)), some (.int (Int32.ofInt a0_)), some (.int (Int32.ofInt a1_)), some (.int (Int32.ofInt a2_)), some (.int (Int32.ofInt 0)), none, none, none]) (by decide) rfl (zdal_p dlB_Group_countKept_130 (i := 1) rfl) ?_
  refine zw_iconst (pc := 3) (v := Int32.ofInt 0) (by decide) (zdal_p dlB_Group_countKept_130 (i := 2) rfl) ?_
  refine zw_istore (pc := 4) (i := 5) (L2 := [some (.ref (d_ + 1)), some (.int (Int32.ofInt a0_)), some (.int (Int32.ofInt a1_)), some (.int (Int32.ofInt a2_)), some (.int (Int32.ofInt 0)), some (.int (Int32.ofInt 0)), none, none]) (by decide) rfl (zdal_p dlB_Group_countKept_130 (i := 3) rfl) ?_
  refine zw_iconst (pc := 6) (v := Int32.ofInt 0) (by decide) (zdal_p dlB_Group_countKept_130 (i := 4) rfl) ?_
  refine zw_istore (pc := 7) (i := 6) (L2 := [some (.ref (d_ + 1)), some (.int (Int32.ofInt a0_)), some (.int (Int32.ofInt a1_)), some (.int (Int32.ofInt a2_)), some (.int (Int32.ofInt 0)), some (.int (Int32.ofInt 0)), some (.int (Int32.ofInt 0)), none]) (by decide) rfl (zdal_p dlB_Group_countKept_130 (i := 5) rfl) ?_
  have lp_9 : ∀ (n : Nat) (u1_ : Int) (hu1_a : -2147483648 ≤ u1_) (hu1_b : u1_ < 2147483648) (u2_ : Int) (hu2_a : -2147483648 ≤ u2_) (hu2_b : u2_ < 2147483648) (u3_ : Int) (hu3_a : -2147483648 ≤ u3_) (hu3_b : u3_ < 2147483648) (i4_ : 0 ≤ u3_) (i5_ : u3_ ≤ P_) (i6_ : u1_ = ((zct (fun p_ => (zrch (gN T_) (zCo P_ d_ Mz) (a2_).toNat p_) = 2 ^ p_) (u3_).toNat : Nat) : Int)) (i7_ : u2_ = ((zct (fun p_ => (zrch (gN T_) (zCo P_ d_ Mz) (a2_).toNat p_) % 2 ^ p_ = 0) (u3_).toNat : Nat) : Int)) (i8_ : (0 ≤ u1_ ∧ u1_ ≤ u3_) ∧ 0 ≤ u2_ ∧ u2_ ≤ u3_), (P_ - u3_).toNat < n → zW l m_Group_countKept (zn Mz + 0, zw Mz + 0) Mz 9 [some (.ref (d_ + 1)), some (.int (Int32.ofInt a0_)), some (.int (Int32.ofInt a1_)), some (.int (Int32.ofInt a2_)), some (.int (Int32.ofInt u1_)), some (.int (Int32.ofInt u2_)), some (.int (Int32.ofInt u3_)), none] [] (zqcI d_ [] [] [] [] Mz (fun v N => v = tkv (zrr P_ T_ (zCo P_ d_ Mz) (a2_).toNat) a0_ a1_)) := by
    intro n
    induction n with
    | zero =>
      intro u1_ hu1_a hu1_b u2_ hu2_a hu2_b u3_ hu3_a hu3_b i4_ i5_ i6_ i7_ i8_ h0
      exact absurd h0 (Nat.not_lt_zero _)
    | succ n ih_9 =>
      intro u1_ hu1_a hu1_b u2_ hu2_a hu2_b u3_ hu3_a hu3_b i4_ i5_ i6_ i7_ i8_ hlt_9
      have hk0_ := (show u1_ = ((zct (fun p_ => (zrch (gN T_) (zCo P_ d_ Mz) (a2_).toNat p_) = 2 ^ p_) (u3_).toNat : Nat) : Int) by first | with_reducible assumption | assumption)
      have hkp_ := (show u2_ = ((zct (fun p_ => (zrch (gN T_) (zCo P_ d_ Mz) (a2_).toNat p_) % 2 ^ p_ = 0) (u3_).toNat : Nat) : Int) by first | with_reducible assumption | assumption)
      refine zw_iload (pc := 9) (i := 6) (x := Int32.ofInt u3_) rfl (zdal_p dlB_Group_countKept_130 (i := 6) rfl) ?_
      refine zw_aload_n (pc := 11) (n := 0) (x := (d_ + 1)) rfl (zdal_p dlB_Group_countKept_130 (i := 7) rfl) ?_
      refine zk_getI (pc := 12) f_Group_32 rfl ((hf.w hW).kr (o := 1) (by decide)) (zdal_p dlB_Group_countKept_130 (i := 8) rfl) ?_
      refine zr_icmp_ge (pc := 15) (tgt := 61) ⟨hu3_a, hu3_b⟩ ⟨(ze_r Mz (d_ + 1) 5).1, (ze_r Mz (d_ + 1) 5).2⟩ (by decide) (zdal_p dlB_Group_countKept_130 (i := 9) rfl) (fun hc_15 => ?_) (fun hc_15 => ?_)
      · skip
        have hLP_ : (u3_).toNat = P_ := by omega
        rw [hLP_] at hk0_ hkp_
        refine zw_iload_n (pc := 61) (n := 1) (x := Int32.ofInt a0_) rfl (zdal_p dlB_Group_countKept_131 (i := 8) rfl) ?_
        refine zr_if_ne (pc := 62) (tgt := 68) ⟨ha0_a, ha0_b⟩ (by decide) (zdal_p dlB_Group_countKept_131 (i := 9) rfl) (fun hc_62 => ?_) (fun hc_62 => ?_)
        · skip
          refine zw_iload_n (pc := 68) (n := 1) (x := Int32.ofInt a0_) rfl (zdal_p dlB_Group_countKept_131 (i := 12) rfl) ?_
          refine zw_iconst (pc := 69) (v := Int32.ofInt 1) (by decide) (zdal_p dlB_Group_countKept_131 (i := 13) rfl) ?_
          refine zr_icmp_ne (pc := 70) (tgt := 82) ⟨ha0_a, ha0_b⟩ ⟨(by decide), (by decide)⟩ (by decide) (zdal_p dlB_Group_countKept_131 (i := 14) rfl) (fun hc_70 => ?_) (fun hc_70 => ?_)
          · skip
            refine zw_iload_n (pc := 82) (n := 2) (x := Int32.ofInt a1_) rfl (zdal_p dlB_Group_countKept_131 (i := 20) rfl) ?_
            refine zw_iload (pc := 83) (i := 5) (x := Int32.ofInt u2_) rfl (zdal_p dlB_Group_countKept_131 (i := 21) rfl) ?_
            refine zr_callS hf.x (pc := 85) [.int (Int32.ofInt a1_), .int (Int32.ofInt u2_)] [] l_Group_109 (u_Group_powerS l d_ Mz (hf.w hW) a1_ ha1_a ha1_b u2_ hu2_a hu2_b (show 0 ≤ a1_ by first | with_reducible assumption | assumption | omega) (show a1_ ≤ 6 by first | with_reducible assumption | assumption | omega) (show 0 ≤ u2_ by first | with_reducible assumption | (exact zo_57 i8_.2.1) | assumption) (show u2_ ≤ 6 by first | with_reducible assumption | assumption | omega)) rfl rfl (by decide) (Nat.le_of_ble_eq_true rfl) (zdal_p dlB_Group_countKept_131 (i := 22) rfl) ?_
            rintro _ N9_ ⟨v10_, rfl, ⟨hv10_a, hv10_b⟩, hsN9_, hp0_N9_⟩
            obtain rfl := hsN9_.eq.symm
            replace hp0_N9_ : v10_ = a1_ ^ (u2_).toNat := hp0_N9_
            show zW l m_Group_countKept (zn Mz + 0, zw Mz + 0) Mz 88 [some (.ref (d_ + 1)), some (.int (Int32.ofInt a0_)), some (.int (Int32.ofInt a1_)), some (.int (Int32.ofInt a2_)), some (.int (Int32.ofInt u1_)), some (.int (Int32.ofInt u2_)), some (.int (Int32.ofInt u3_)), none] [.int (Int32.ofInt v10_)] _
            have hpo_ := hp0_N9_
            exact zk_iret (pc := 88) (ty := .int) rfl rfl ⟨by (exact hv10_a), by (exact hv10_b)⟩ hf (show v10_ = tkv (zrr P_ T_ (zCo P_ d_ Mz) (a2_).toNat) a0_ a1_ by first | exact tkv_1 hP6_ (by omega) hcs_ | exact tkv_2 (by omega) hkp_ hpo_) (zdal_p dlB_Group_countKept_131 (i := 23) rfl)
          · skip
            refine zw_aload_n (pc := 73) (n := 0) (x := (d_ + 1)) rfl (zdal_p dlB_Group_countKept_131 (i := 15) rfl) ?_
            refine zw_iload_n (pc := 74) (n := 2) (x := Int32.ofInt a1_) rfl (zdal_p dlB_Group_countKept_131 (i := 16) rfl) ?_
            refine zw_iload_n (pc := 75) (n := 3) (x := Int32.ofInt a2_) rfl (zdal_p dlB_Group_countKept_131 (i := 17) rfl) ?_
            refine zk_callV hf.x (pc := 76) [.int (Int32.ofInt a1_), .int (Int32.ofInt a2_)] [] l_Group_106 (u_Group_countSetsKeptS l d_ Mz (hf.w hW) a1_ ha1_a ha1_b a2_ ha2_a ha2_b T_ hT_ P_ mv_ p0_ p1_ (show 0 ≤ a1_ by first | with_reducible assumption | assumption | omega) (show a1_ ≤ 6 by first | with_reducible assumption | assumption | omega) (show 0 ≤ a2_ by first | with_reducible assumption | assumption | omega) (show a2_ < 16777216 by first | with_reducible assumption | assumption | omega)) rfl rfl ((hf.w hW).kr (o := 1) (by decide)) (by decide) (by decide) (Nat.le_of_ble_eq_true rfl) (zdal_p dlB_Group_countKept_131 (i := 18) rfl) ?_
            rintro _ N11_ ⟨v12_, rfl, ⟨hv12_a, hv12_b⟩, hsN11_, hp0_N11_⟩
            obtain rfl := hsN11_.eq.symm
            replace hp0_N11_ : v12_ = ((zct (fun s_ => gcb s_ = (a1_).toNat ∧ ∀ p_ : Nat, p_ < P_ → s_.testBit p_ = true → (zrch (gN T_) (zCo P_ d_ Mz) (a2_).toNat p_) &&& s_ = (zrch (gN T_) (zCo P_ d_ Mz) (a2_).toNat p_)) (2 ^ P_) : Nat) : Int) := hp0_N11_
            show zW l m_Group_countKept (zn Mz + 0, zw Mz + 0) Mz 79 [some (.ref (d_ + 1)), some (.int (Int32.ofInt a0_)), some (.int (Int32.ofInt a1_)), some (.int (Int32.ofInt a2_)), some (.int (Int32.ofInt u1_)), some (.int (Int32.ofInt u2_)), some (.int (Int32.ofInt u3_)), none] [.int (Int32.ofInt v12_)] _
            have hcs_ := hp0_N11_
            refine zw_goto (pc := 79) (tgt := 88) (by decide) (zdal_p dlB_Group_countKept_131 (i := 19) rfl) ?_
            exact zk_iret (pc := 88) (ty := .int) rfl rfl ⟨by (exact hv12_a), by (exact hv12_b)⟩ hf (show v12_ = tkv (zrr P_ T_ (zCo P_ d_ Mz) (a2_).toNat) a0_ a1_ by first | exact tkv_1 hP6_ (by (exact hc_70)) hcs_ | exact tkv_2 (by omega) hkp_ hpo_) (zdal_p dlB_Group_countKept_131 (i := 23) rfl)
        · skip
          refine zw_iload (pc := 65) (i := 4) (x := Int32.ofInt u1_) rfl (zdal_p dlB_Group_countKept_131 (i := 10) rfl) ?_
          exact zk_iret (pc := 67) (ty := .int) rfl rfl ⟨by (exact hu1_a), by (exact hu1_b)⟩ hf (show u1_ = tkv (zrr P_ T_ (zCo P_ d_ Mz) (a2_).toNat) a0_ a1_ by exact tkv_0 (by (exact hc_62)) hk0_) (zdal_p dlB_Group_countKept_131 (i := 11) rfl)
      · skip
        refine zw_aload_n (pc := 18) (n := 0) (x := (d_ + 1)) rfl (zdal_p dlB_Group_countKept_130 (i := 10) rfl) ?_
        refine zw_iload (pc := 19) (i := 6) (x := Int32.ofInt u3_) rfl (zdal_p dlB_Group_countKept_130 (i := 11) rfl) ?_
        refine zw_iload_n (pc := 21) (n := 3) (x := Int32.ofInt a2_) rfl (zdal_p dlB_Group_countKept_130 (i := 12) rfl) ?_
        refine zk_callV hf.x (pc := 22) [.int (Int32.ofInt u3_), .int (Int32.ofInt a2_)] [] l_Group_103 (u_Group_placesReachedG l d_ Mz (hf.w hW) u3_ hu3_a hu3_b a2_ ha2_a ha2_b T_ hT_ P_ mv_ p0_ p1_ (show 0 ≤ u3_ by first | with_reducible assumption | assumption | omega) (show u3_ < (P_ : Int) by first | with_reducible assumption | (exact zo_2223 hP0_ hc_15 hu3_b i5_) | assumption) (show 0 ≤ a2_ by first | with_reducible assumption | assumption | omega) (show a2_ < 16777216 by first | with_reducible assumption | assumption | omega)) rfl rfl ((hf.w hW).kr (o := 1) (by decide)) (by decide) (by decide) (Nat.le_of_ble_eq_true rfl) (zdal_p dlB_Group_countKept_130 (i := 13) rfl) ?_
        rintro _ N13_ ⟨v14_, rfl, ⟨hv14_a, hv14_b⟩, hsN13_, hp0_N13_⟩
        obtain rfl := hsN13_.eq.symm
        replace hp0_N13_ : zImg (fun m_ => (a2_).toNat.testBit m_ = true) (fun m_ => gdg (zCo P_ d_ Mz m_) (u3_).toNat) (gN T_) v14_ := hp0_N13_
        show zW l m_Group_countKept (zn Mz + 0, zw Mz + 0) Mz 25 [some (.ref (d_ + 1)), some (.int (Int32.ofInt a0_)), some (.int (Int32.ofInt a1_)), some (.int (Int32.ofInt a2_)), some (.int (Int32.ofInt u1_)), some (.int (Int32.ofInt u2_)), some (.int (Int32.ofInt u3_)), none] [.int (Int32.ofInt v14_)] _
        have hR_ := zImg_r hp0_N13_
        have hp4_ := p4_.1 (u3_).toNat (by (exact zo_73 hP0_ hc_15 hu3_b i4_ i5_))
        have hq0_ := tk_q0 hR_ (show 0 ≤ u3_ by (exact i4_)) (by omega)
        have hq1_ := tk_q1 hR_ (show 0 ≤ u3_ by (exact i4_)) (by omega) (Nat.lt_of_lt_of_le hp4_.1 h64_) hp4_.2
        refine zw_istore (pc := 25) (i := 7) (L2 := [some (.ref (d_ + 1)), some (.int (Int32.ofInt a0_)), some (.int (Int32.ofInt a1_)), some (.int (Int32.ofInt a2_)), some (.int (Int32.ofInt u1_)), some (.int (Int32.ofInt u2_)), some (.int (Int32.ofInt u3_)), some (.int (Int32.ofInt v14_))]) (by decide) rfl (zdal_p dlB_Group_countKept_130 (i := 14) rfl) ?_
        refine zw_iload (pc := 27) (i := 7) (x := Int32.ofInt v14_) rfl (zdal_p dlB_Group_countKept_130 (i := 15) rfl) ?_
        refine zw_iconst (pc := 29) (v := Int32.ofInt 1) (by decide) (zdal_p dlB_Group_countKept_130 (i := 16) rfl) ?_
        refine zw_iload (pc := 30) (i := 6) (x := Int32.ofInt u3_) rfl (zdal_p dlB_Group_countKept_130 (i := 17) rfl) ?_
        refine zr_ishl (pc := 32) (zdal_p dlB_Group_countKept_130 (i := 18) rfl) ?_
        have hr15_ := zshl_r 1 u3_
        refine zr_icmp_ne (pc := 33) (tgt := 39) ⟨hv14_a, hv14_b⟩ ⟨(by (exact zo_284 hr15_.1)), (by (exact zo_285 hr15_.2))⟩ (by decide) (zdal_p dlB_Group_countKept_130 (i := 19) rfl) (fun hc_33 => ?_) (fun hc_33 => ?_)
        · skip
          refine zw_iload (pc := 39) (i := 7) (x := Int32.ofInt v14_) rfl (zdal_p dlB_Group_countKept_130 (i := 21) rfl) ?_
          refine zw_iload (pc := 41) (i := 7) (x := Int32.ofInt v14_) rfl (zdal_p dlB_Group_countKept_130 (i := 22) rfl) ?_
          refine zr_ineg (pc := 43) (zdal_p dlB_Group_countKept_130 (i := 23) rfl) ?_
          refine zr_iand (pc := 44) (zdal_p dlB_Group_countKept_131 (i := 0) rfl) ?_
          have hr16_ := zand_r v14_ (-v14_)
          refine zw_iconst (pc := 45) (v := Int32.ofInt 1) (by decide) (zdal_p dlB_Group_countKept_131 (i := 1) rfl) ?_
          refine zw_iload (pc := 46) (i := 6) (x := Int32.ofInt u3_) rfl (zdal_p dlB_Group_countKept_131 (i := 2) rfl) ?_
          refine zr_ishl (pc := 48) (zdal_p dlB_Group_countKept_131 (i := 3) rfl) ?_
          have hr17_ := zshl_r 1 u3_
          refine zr_icmp_ne (pc := 49) (tgt := 55) ⟨(by (exact zo_284 hr16_.1)), (by (exact zo_285 hr16_.2))⟩ ⟨(by (exact zo_284 hr15_.1)), (by (exact zo_285 hr15_.2))⟩ (by decide) (zdal_p dlB_Group_countKept_131 (i := 4) rfl) (fun hc_49 => ?_) (fun hc_49 => ?_)
          · skip
            refine zr_iinc (pc := 55) (i := 6) (a := u3_) (n := 1) (L2 := [some (.ref (d_ + 1)), some (.int (Int32.ofInt a0_)), some (.int (Int32.ofInt a1_)), some (.int (Int32.ofInt a2_)), some (.int (Int32.ofInt u1_)), some (.int (Int32.ofInt u2_)), some (.int (Int32.ofInt (u3_ + 1))), some (.int (Int32.ofInt v14_))]) rfl (by decide) rfl (zdal_p dlB_Group_countKept_131 (i := 6) rfl) ?_
            refine zw_goto (pc := 58) (tgt := 9) (by decide) (zdal_p dlB_Group_countKept_131 (i := 7) rfl) ?_
            have hk0n_ : u1_ = ((zct (fun p_ => (zrch (gN T_) (zCo P_ d_ Mz) (a2_).toNat p_) = 2 ^ p_) ((u3_ + 1)).toNat : Nat) : Int) := by first | exact zct_1 (p := (fun p_ => (zrch (gN T_) (zCo P_ d_ Mz) (a2_).toNat p_) = 2 ^ p_)) (by (exact i4_)) hk0_ (hq0_.mp (by first | with_reducible assumption | assumption)) | exact zct_0 (p := (fun p_ => (zrch (gN T_) (zCo P_ d_ Mz) (a2_).toNat p_) = 2 ^ p_)) (by (exact i4_)) hk0_ (fun q_ => absurd (hq0_.mpr q_) (by first | with_reducible assumption | assumption))
            have hkpn_ : u2_ = ((zct (fun p_ => (zrch (gN T_) (zCo P_ d_ Mz) (a2_).toNat p_) % 2 ^ p_ = 0) ((u3_ + 1)).toNat : Nat) : Int) := by first | exact zct_1 (p := (fun p_ => (zrch (gN T_) (zCo P_ d_ Mz) (a2_).toNat p_) % 2 ^ p_ = 0)) (by (exact i4_)) hkp_ (hq1_.mp (by first | with_reducible assumption | assumption)) | exact zct_0 (p := (fun p_ => (zrch (gN T_) (zCo P_ d_ Mz) (a2_).toNat p_) % 2 ^ p_ = 0)) (by (exact i4_)) hkp_ (fun q_ => absurd (hq1_.mpr q_) (by first | with_reducible assumption | assumption))
            refine zW_le [some (.ref (d_ + 1)), some (.int (Int32.ofInt a0_)), some (.int (Int32.ofInt a1_)), some (.int (Int32.ofInt a2_)), some (.int (Int32.ofInt u1_)), some (.int (Int32.ofInt u2_)), some (.int (Int32.ofInt (u3_ + 1))), none] (⟨rfl, rfl, rfl, rfl, rfl, rfl, rfl, trivial⟩) ?_
            exact ih_9 u1_ hu1_a hu1_b u2_ hu2_a hu2_b (u3_ + 1) (by (exact zo_74 i4_)) (by (exact zo_2921 hP6_ hu3_b i5_)) (show 0 ≤ (u3_ + 1) by first | with_reducible assumption | (exact zo_76 i4_) | assumption) (show (u3_ + 1) ≤ P_ by first | with_reducible assumption | (exact zo_77 hP0_ hc_15 hu3_b i5_) | assumption) (show u1_ = ((zct (fun p_ => (zrch (gN T_) (zCo P_ d_ Mz) (a2_).toNat p_) = 2 ^ p_) ((u3_ + 1)).toNat : Nat) : Int) by exact hk0n_) (show u2_ = ((zct (fun p_ => (zrch (gN T_) (zCo P_ d_ Mz) (a2_).toNat p_) % 2 ^ p_ = 0) ((u3_ + 1)).toNat : Nat) : Int) by exact hkpn_) (show (0 ≤ u1_ ∧ u1_ ≤ (u3_ + 1)) ∧ 0 ≤ u2_ ∧ u2_ ≤ (u3_ + 1) by first | with_reducible assumption | assumption | omega) (by (exact zo_78 hP0_ hc_15 hlt_9 hu3_b i5_))
          · skip
            refine zr_iinc (pc := 52) (i := 5) (a := u2_) (n := 1) (L2 := [some (.ref (d_ + 1)), some (.int (Int32.ofInt a0_)), some (.int (Int32.ofInt a1_)), some (.int (Int32.ofInt a2_)), some (.int (Int32.ofInt u1_)), some (.int (Int32.ofInt (u2_ + 1))), some (.int (Int32.ofInt u3_)), some (.int (Int32.ofInt v14_))]) rfl (by decide) rfl (zdal_p dlB_Group_countKept_131 (i := 5) rfl) ?_
            refine zr_iinc (pc := 55) (i := 6) (a := u3_) (n := 1) (L2 := [some (.ref (d_ + 1)), some (.int (Int32.ofInt a0_)), some (.int (Int32.ofInt a1_)), some (.int (Int32.ofInt a2_)), some (.int (Int32.ofInt u1_)), some (.int (Int32.ofInt (u2_ + 1))), some (.int (Int32.ofInt (u3_ + 1))), some (.int (Int32.ofInt v14_))]) rfl (by decide) rfl (zdal_p dlB_Group_countKept_131 (i := 6) rfl) ?_
            refine zw_goto (pc := 58) (tgt := 9) (by decide) (zdal_p dlB_Group_countKept_131 (i := 7) rfl) ?_
            have hk0n_ : u1_ = ((zct (fun p_ => (zrch (gN T_) (zCo P_ d_ Mz) (a2_).toNat p_) = 2 ^ p_) ((u3_ + 1)).toNat : Nat) : Int) := by first | exact zct_1 (p := (fun p_ => (zrch (gN T_) (zCo P_ d_ Mz) (a2_).toNat p_) = 2 ^ p_)) (by (exact i4_)) hk0_ (hq0_.mp (by first | with_reducible assumption | assumption)) | exact zct_0 (p := (fun p_ => (zrch (gN T_) (zCo P_ d_ Mz) (a2_).toNat p_) = 2 ^ p_)) (by (exact i4_)) hk0_ (fun q_ => absurd (hq0_.mpr q_) (by first | with_reducible assumption | assumption))
            have hkpn_ : (u2_ + 1) = ((zct (fun p_ => (zrch (gN T_) (zCo P_ d_ Mz) (a2_).toNat p_) % 2 ^ p_ = 0) ((u3_ + 1)).toNat : Nat) : Int) := by first | exact zct_1 (p := (fun p_ => (zrch (gN T_) (zCo P_ d_ Mz) (a2_).toNat p_) % 2 ^ p_ = 0)) (by (exact i4_)) hkp_ (hq1_.mp (by first | with_reducible assumption | assumption)) | exact zct_0 (p := (fun p_ => (zrch (gN T_) (zCo P_ d_ Mz) (a2_).toNat p_) % 2 ^ p_ = 0)) (by omega) hkp_ (fun q_ => absurd (hq1_.mpr q_) (by first | with_reducible assumption | assumption))
            refine zW_le [some (.ref (d_ + 1)), some (.int (Int32.ofInt a0_)), some (.int (Int32.ofInt a1_)), some (.int (Int32.ofInt a2_)), some (.int (Int32.ofInt u1_)), some (.int (Int32.ofInt (u2_ + 1))), some (.int (Int32.ofInt (u3_ + 1))), none] (⟨rfl, rfl, rfl, rfl, rfl, rfl, rfl, trivial⟩) ?_
            exact ih_9 u1_ hu1_a hu1_b (u2_ + 1) (by (exact zo_74 i8_.2.1)) (by (exact zo_2935 hP6_ hu2_b hu3_b i5_ i8_.2.2)) (u3_ + 1) (by (exact zo_74 i4_)) (by (exact zo_2921 hP6_ hu3_b i5_)) (show 0 ≤ (u3_ + 1) by first | with_reducible assumption | (exact zo_76 i4_) | assumption) (show (u3_ + 1) ≤ P_ by first | with_reducible assumption | (exact zo_77 hP0_ hc_15 hu3_b i5_) | assumption) (show u1_ = ((zct (fun p_ => (zrch (gN T_) (zCo P_ d_ Mz) (a2_).toNat p_) = 2 ^ p_) ((u3_ + 1)).toNat : Nat) : Int) by exact hk0n_) (show (u2_ + 1) = ((zct (fun p_ => (zrch (gN T_) (zCo P_ d_ Mz) (a2_).toNat p_) % 2 ^ p_ = 0) ((u3_ + 1)).toNat : Nat) : Int) by exact hkpn_) (show (0 ≤ u1_ ∧ u1_ ≤ (u3_ + 1)) ∧ 0 ≤ (u2_ + 1) ∧ (u2_ + 1) ≤ (u3_ + 1) by first | with_reducible assumption | assumption | omega) (by (exact zo_78 hP0_ hc_15 hlt_9 hu3_b i5_))
        · skip
          refine zr_iinc (pc := 36) (i := 4) (a := u1_) (n := 1) (L2 := [some (.ref (d_ + 1)), some (.int (Int32.ofInt a0_)), some (.int (Int32.ofInt a1_)), some (.int (Int32.ofInt a2_)), some (.int (Int32.ofInt (u1_ + 1))), some (.int (Int32.ofInt u2_)), some (.int (Int32.ofInt u3_)), some (.int (Int32.ofInt v14_))]) rfl (by decide) rfl (zdal_p dlB_Group_countKept_130 (i := 20) rfl) ?_
          refine zw_iload (pc := 39) (i := 7) (x := Int32.ofInt v14_) rfl (zdal_p dlB_Group_countKept_130 (i := 21) rfl) ?_
          refine zw_iload (pc := 41) (i := 7) (x := Int32.ofInt v14_) rfl (zdal_p dlB_Group_countKept_130 (i := 22) rfl) ?_
          refine zr_ineg (pc := 43) (zdal_p dlB_Group_countKept_130 (i := 23) rfl) ?_
          refine zr_iand (pc := 44) (zdal_p dlB_Group_countKept_131 (i := 0) rfl) ?_
          have hr18_ := zand_r v14_ (-v14_)
          refine zw_iconst (pc := 45) (v := Int32.ofInt 1) (by decide) (zdal_p dlB_Group_countKept_131 (i := 1) rfl) ?_
          refine zw_iload (pc := 46) (i := 6) (x := Int32.ofInt u3_) rfl (zdal_p dlB_Group_countKept_131 (i := 2) rfl) ?_
          refine zr_ishl (pc := 48) (zdal_p dlB_Group_countKept_131 (i := 3) rfl) ?_
          have hr19_ := zshl_r 1 u3_
          refine zr_icmp_ne (pc := 49) (tgt := 55) ⟨(by (exact zo_284 hr18_.1)), (by (exact zo_285 hr18_.2))⟩ ⟨(by (exact zo_284 hr15_.1)), (by (exact zo_285 hr15_.2))⟩ (by decide) (zdal_p dlB_Group_countKept_131 (i := 4) rfl) (fun hc_49 => ?_) (fun hc_49 => ?_)
          · skip
            refine zr_iinc (pc := 55) (i := 6) (a := u3_) (n := 1) (L2 := [some (.ref (d_ + 1)), some (.int (Int32.ofInt a0_)), some (.int (Int32.ofInt a1_)), some (.int (Int32.ofInt a2_)), some (.int (Int32.ofInt (u1_ + 1))), some (.int (Int32.ofInt u2_)), some (.int (Int32.ofInt (u3_ + 1))), some (.int (Int32.ofInt v14_))]) rfl (by decide) rfl (zdal_p dlB_Group_countKept_131 (i := 6) rfl) ?_
            refine zw_goto (pc := 58) (tgt := 9) (by decide) (zdal_p dlB_Group_countKept_131 (i := 7) rfl) ?_
            have hk0n_ : (u1_ + 1) = ((zct (fun p_ => (zrch (gN T_) (zCo P_ d_ Mz) (a2_).toNat p_) = 2 ^ p_) ((u3_ + 1)).toNat : Nat) : Int) := by first | exact zct_1 (p := (fun p_ => (zrch (gN T_) (zCo P_ d_ Mz) (a2_).toNat p_) = 2 ^ p_)) (by (exact i4_)) hk0_ (hq0_.mp (by first | with_reducible assumption | assumption)) | exact zct_0 (p := (fun p_ => (zrch (gN T_) (zCo P_ d_ Mz) (a2_).toNat p_) = 2 ^ p_)) (by omega) hk0_ (fun q_ => absurd (hq0_.mpr q_) (by first | with_reducible assumption | assumption))
            have hkpn_ : u2_ = ((zct (fun p_ => (zrch (gN T_) (zCo P_ d_ Mz) (a2_).toNat p_) % 2 ^ p_ = 0) ((u3_ + 1)).toNat : Nat) : Int) := by first | exact zct_1 (p := (fun p_ => (zrch (gN T_) (zCo P_ d_ Mz) (a2_).toNat p_) % 2 ^ p_ = 0)) (by (exact i4_)) hkp_ (hq1_.mp (by first | with_reducible assumption | assumption)) | exact zct_0 (p := (fun p_ => (zrch (gN T_) (zCo P_ d_ Mz) (a2_).toNat p_) % 2 ^ p_ = 0)) (by (exact i4_)) hkp_ (fun q_ => absurd (hq1_.mpr q_) (by first | with_reducible assumption | assumption))
            refine zW_le [some (.ref (d_ + 1)), some (.int (Int32.ofInt a0_)), some (.int (Int32.ofInt a1_)), some (.int (Int32.ofInt a2_)), some (.int (Int32.ofInt (u1_ + 1))), some (.int (Int32.ofInt u2_)), some (.int (Int32.ofInt (u3_ + 1))), none] (⟨rfl, rfl, rfl, rfl, rfl, rfl, rfl, trivial⟩) ?_
            exact ih_9 (u1_ + 1) (by (exact zo_74 i8_.1.1)) (by (exact zo_2935 hP6_ hu1_b hu3_b i5_ i8_.1.2)) u2_ hu2_a hu2_b (u3_ + 1) (by (exact zo_74 i4_)) (by (exact zo_2921 hP6_ hu3_b i5_)) (show 0 ≤ (u3_ + 1) by first | with_reducible assumption | (exact zo_76 i4_) | assumption) (show (u3_ + 1) ≤ P_ by first | with_reducible assumption | (exact zo_77 hP0_ hc_15 hu3_b i5_) | assumption) (show (u1_ + 1) = ((zct (fun p_ => (zrch (gN T_) (zCo P_ d_ Mz) (a2_).toNat p_) = 2 ^ p_) ((u3_ + 1)).toNat : Nat) : Int) by exact hk0n_) (show u2_ = ((zct (fun p_ => (zrch (gN T_) (zCo P_ d_ Mz) (a2_).toNat p_) % 2 ^ p_ = 0) ((u3_ + 1)).toNat : Nat) : Int) by exact hkpn_) (show (0 ≤ (u1_ + 1) ∧ (u1_ + 1) ≤ (u3_ + 1)) ∧ 0 ≤ u2_ ∧ u2_ ≤ (u3_ + 1) by first | with_reducible assumption | assumption | omega) (by (exact zo_78 hP0_ hc_15 hlt_9 hu3_b i5_))
          · skip
            refine zr_iinc (pc := 52) (i := 5) (a := u2_) (n := 1) (L2 := [some (.ref (d_ + 1)), some (.int (Int32.ofInt a0_)), some (.int (Int32.ofInt a1_)), some (.int (Int32.ofInt a2_)), some (.int (Int32.ofInt (u1_ + 1))), some (.int (Int32.ofInt (u2_ + 1))), some (.int (Int32.ofInt u3_)), some (.int (Int32.ofInt v14_))]) rfl (by decide) rfl (zdal_p dlB_Group_countKept_131 (i := 5) rfl) ?_
            refine zr_iinc (pc := 55) (i := 6) (a := u3_) (n := 1) (L2 := [some (.ref (d_ + 1)), some (.int (Int32.ofInt a0_)), some (.int (Int32.ofInt a1_)), some (.int (Int32.ofInt a2_)), some (.int (Int32.ofInt (u1_ + 1))), some (.int (Int32.ofInt (u2_ + 1))), some (.int (Int32.ofInt (u3_ + 1))), some (.int (Int32.ofInt v14_))]) rfl (by decide) rfl (zdal_p dlB_Group_countKept_131 (i := 6) rfl) ?_
            refine zw_goto (pc := 58) (tgt := 9) (by decide) (zdal_p dlB_Group_countKept_131 (i := 7) rfl) ?_
            have hk0n_ : (u1_ + 1) = ((zct (fun p_ => (zrch (gN T_) (zCo P_ d_ Mz) (a2_).toNat p_) = 2 ^ p_) ((u3_ + 1)).toNat : Nat) : Int) := by first | exact zct_1 (p := (fun p_ => (zrch (gN T_) (zCo P_ d_ Mz) (a2_).toNat p_) = 2 ^ p_)) (by (exact i4_)) hk0_ (hq0_.mp (by first | with_reducible assumption | assumption)) | exact zct_0 (p := (fun p_ => (zrch (gN T_) (zCo P_ d_ Mz) (a2_).toNat p_) = 2 ^ p_)) (by omega) hk0_ (fun q_ => absurd (hq0_.mpr q_) (by first | with_reducible assumption | assumption))
            have hkpn_ : (u2_ + 1) = ((zct (fun p_ => (zrch (gN T_) (zCo P_ d_ Mz) (a2_).toNat p_) % 2 ^ p_ = 0) ((u3_ + 1)).toNat : Nat) : Int) := by first | exact zct_1 (p := (fun p_ => (zrch (gN T_) (zCo P_ d_ Mz) (a2_).toNat p_) % 2 ^ p_ = 0)) (by (exact i4_)) hkp_ (hq1_.mp (by first | with_reducible assumption | assumption)) | exact zct_0 (p := (fun p_ => (zrch (gN T_) (zCo P_ d_ Mz) (a2_).toNat p_) % 2 ^ p_ = 0)) (by omega) hkp_ (fun q_ => absurd (hq1_.mpr q_) (by first | with_reducible assumption | assumption))
            refine zW_le [some (.ref (d_ + 1)), some (.int (Int32.ofInt a0_)), some (.int (Int32.ofInt a1_)), some (.int (Int32.ofInt a2_)), some (.int (Int32.ofInt (u1_ + 1))), some (.int (Int32.ofInt (u2_ + 1))), some (.int (Int32.ofInt (u3_ + 1))), none] (⟨rfl, rfl, rfl, rfl, rfl, rfl, rfl, trivial⟩) ?_
            exact ih_9 (u1_ + 1) (by (exact zo_74 i8_.1.1)) (by (exact zo_2935 hP6_ hu1_b hu3_b i5_ i8_.1.2)) (u2_ + 1) (by (exact zo_74 i8_.2.1)) (by (exact zo_2935 hP6_ hu2_b hu3_b i5_ i8_.2.2)) (u3_ + 1) (by (exact zo_74 i4_)) (by (exact zo_2921 hP6_ hu3_b i5_)) (show 0 ≤ (u3_ + 1) by first | with_reducible assumption | (exact zo_76 i4_) | assumption) (show (u3_ + 1) ≤ P_ by first | with_reducible assumption | (exact zo_77 hP0_ hc_15 hu3_b i5_) | assumption) (show (u1_ + 1) = ((zct (fun p_ => (zrch (gN T_) (zCo P_ d_ Mz) (a2_).toNat p_) = 2 ^ p_) ((u3_ + 1)).toNat : Nat) : Int) by exact hk0n_) (show (u2_ + 1) = ((zct (fun p_ => (zrch (gN T_) (zCo P_ d_ Mz) (a2_).toNat p_) % 2 ^ p_ = 0) ((u3_ + 1)).toNat : Nat) : Int) by exact hkpn_) (show (0 ≤ (u1_ + 1) ∧ (u1_ + 1) ≤ (u3_ + 1)) ∧ 0 ≤ (u2_ + 1) ∧ (u2_ + 1) ≤ (u3_ + 1) by first | with_reducible assumption | assumption | omega) (by (exact zo_78 hP0_ hc_15 hlt_9 hu3_b i5_))
  exact lp_9 _ 0 (by decide) (by decide) 0 (by decide) (by decide) 0 (by decide) (by decide) (show 0 ≤ (0 : Int) by first | with_reducible assumption | (decide) | assumption) (show (0 : Int) ≤ P_ by first | with_reducible assumption | (exact zo_85) | assumption) (show (0 : Int) = ((zct (fun p_ => (zrch (gN T_) (zCo P_ d_ Mz) (a2_).toNat p_) = 2 ^ p_) ((0 : Int)).toNat : Nat) : Int) by rfl) (show (0 : Int) = ((zct (fun p_ => (zrch (gN T_) (zCo P_ d_ Mz) (a2_).toNat p_) % 2 ^ p_ = 0) ((0 : Int)).toNat : Nat) : Int) by rfl) (show (0 ≤ (0 : Int) ∧ (0 : Int) ≤ (0 : Int)) ∧ 0 ≤ (0 : Int) ∧ (0 : Int) ≤ (0 : Int) by first | with_reducible assumption | (decide) | assumption) (Nat.lt_succ_self _)
set_option maxHeartbeats 4000000 in
theorem u_T_takeS (l : Launch) (d_ : Nat) (Mz : zMem) (hW : zKW d_ Mz) (hnow : zf Mz 0 2 = some (d_ + 0)) (a0_ : Int) (ha0_a : -2147483648 ≤ a0_) (ha0_b : a0_ < 2147483648) (a1_ : Int) (ha1_a : -2147483648 ≤ a1_) (ha1_b : a1_ < 2147483648) (T_ : zGT) (hT_ : T_ ∈ gTabs) (P_ : Nat) (mv_ : List Nat) (hpm_ : ∀ g ∈ mv_, gpm g) (s_ : zSg) (nm_ : List (Int × (Nat → Int))) (p0_ : zMvK mv_ P_ d_ Mz) (p1_ : zGc mv_ P_ T_ d_ Mz) (p2_ : zFir T_ d_ Mz) (p3_ : zKm (gF T_).length (gmkI T_) d_ Mz) (p4_ : zSK (gF T_).length s_ d_ Mz) (p5_ : zNm nm_ (gF T_).length (gmkI T_) d_ Mz) : zC l m_T_take 0 0 [.ref 0, .int (Int32.ofInt a0_), .int (Int32.ofInt a1_)] Mz (zqcI d_ [] [] [(0, 7), (0, 8)] [25, 27] Mz (fun v N => ((((a0_ = 0 ∨ ((a0_ = 1 ∨ a0_ = 2) ∧ 0 ≤ a1_ ∧ a1_ ≤ 6)) ∧ ∃ c_ : Nat → Nat, gTb mv_ c_ T_ ∧ zSK (gF T_).length (zpush s_ (zsq (gF T_).length (gmkI T_) (fun j_ => tkv (zrr P_ T_ c_ (gFn T_ j_)) a0_ a1_))) d_ N) ∨ (¬ (a0_ = 0 ∨ ((a0_ = 1 ∨ a0_ = 2) ∧ 0 ≤ a1_ ∧ a1_ ≤ 6)) ∧ zSK (gF T_).length s_ d_ N ∧ v = (-1 : Int)))) ∧ zNm nm_ (gF T_).length (gmkI T_) d_ N)) := by
  refine zC_of (L0 := [some (.ref 0), some (.int (Int32.ofInt a0_)), some (.int (Int32.ofInt a1_)), none, none]) md_T_take (Nat.le_of_ble_eq_true rfl) rfl ?_ zQ0
  have hf : zFc d_ [] [] [(0, 7), (0, 8)] [25, 27] Mz Mz := zFc.rf
  have r_D12_7 := ze_r Mz (d_ + 12) 7
  have hO_ := gTabs_ok T_ hT_
  have hG_ := hO_.1
  have hn24_ := hG_.2.1
  have hn1_ := hG_.1
  obtain ⟨⟨hP0_, hP1_, hP6_⟩, -⟩ := id p0_
  have hfl_ := p2_.1
  have hTA_ := gT_zTA hT_
  obtain ⟨⟨hF1_, hF27_⟩, hAr_⟩ := id hTA_
  obtain ⟨hFc_, hKt_⟩ := id p3_
  obtain ⟨⟨hs1_, hs2_⟩, ⟨hs3_, hs4_⟩, hs5_, hs6_⟩ := id p4_
  have hpt_ : ∀ j_ : Nat, j_ < (gF T_).length → zPt (zrch (gN T_) (zCo P_ d_ Mz) (gFn T_ j_)) P_ := fun j_ hj_ => zPt_g p1_.1 hpm_ hP6_ (fun m_ hm_ q_ hq_ => p1_.lt hP6_ hm_ hq_) (hO_.2.2.1.2.1 _ (gFn_m (T := T_) hj_)).1
  refine zw_iload_n (pc := 0) (n := 2) (x := Int32.ofInt a1_) rfl (zdal_p dlB_T_take_127 (i := 0) rfl) ?_
  have j_15 : ∀ (u1_ : Int) (hu1_a : -2147483648 ≤ u1_) (hu1_b : u1_ < 2147483648) (hu1_z : u1_ = 0 ∨ u1_ = 1) (i2_ : (((u1_ : Int) = 1 ∧ 0 ≤ a1_ ∧ a1_ ≤ 6) ∨ ((u1_ : Int) = 0 ∧ ¬ (0 ≤ a1_ ∧ a1_ ≤ 6)))), zW l m_T_take (zn Mz + 0, zw Mz + 0) Mz 15 [some (.ref 0), some (.int (Int32.ofInt a0_)), some (.int (Int32.ofInt a1_)), none, none] [.int (Int32.ofInt u1_)] (zqcI d_ [] [] [(0, 7), (0, 8)] [25, 27] Mz (fun v N => ((((a0_ = 0 ∨ ((a0_ = 1 ∨ a0_ = 2) ∧ 0 ≤ a1_ ∧ a1_ ≤ 6)) ∧ ∃ c_ : Nat → Nat, gTb mv_ c_ T_ ∧ zSK (gF T_).length (zpush s_ (zsq (gF T_).length (gmkI T_) (fun j_ => tkv (zrr P_ T_ c_ (gFn T_ j_)) a0_ a1_))) d_ N) ∨ (¬ (a0_ = 0 ∨ ((a0_ = 1 ∨ a0_ = 2) ∧ 0 ≤ a1_ ∧ a1_ ≤ 6)) ∧ zSK (gF T_).length s_ d_ N ∧ v = (-1 : Int)))) ∧ zNm nm_ (gF T_).length (gmkI T_) d_ N)) := by
    intro u1_ hu1_a hu1_b hu1_z i2_
    refine zw_istore_n (pc := 15) (i := 3) (L2 := [some (.ref 0), some (.int (Int32.ofInt a0_)), some (.int (Int32.ofInt a1_)), some (.int (Int32.ofInt u1_)), none]) rfl (by decide) rfl (zdal_p dlB_T_take_127 (i := 8) rfl) ?_
    refine zw_iload_n (pc := 16) (n := 1) (x := Int32.ofInt a0_) rfl (zdal_p dlB_T_take_127 (i := 9) rfl) ?_
    have j_36 : ∀ (i3_ : (a0_ = 0 ∨ ((a0_ = 1 ∨ a0_ = 2) ∧ 0 ≤ a1_ ∧ a1_ ≤ 6))), zW l m_T_take (zn Mz + 0, zw Mz + 0) Mz 36 [some (.ref 0), some (.int (Int32.ofInt a0_)), some (.int (Int32.ofInt a1_)), some (.int (Int32.ofInt u1_)), none] [] (zqcI d_ [] [] [(0, 7), (0, 8)] [25, 27] Mz (fun v N => ((((a0_ = 0 ∨ ((a0_ = 1 ∨ a0_ = 2) ∧ 0 ≤ a1_ ∧ a1_ ≤ 6)) ∧ ∃ c_ : Nat → Nat, gTb mv_ c_ T_ ∧ zSK (gF T_).length (zpush s_ (zsq (gF T_).length (gmkI T_) (fun j_ => tkv (zrr P_ T_ c_ (gFn T_ j_)) a0_ a1_))) d_ N) ∨ (¬ (a0_ = 0 ∨ ((a0_ = 1 ∨ a0_ = 2) ∧ 0 ≤ a1_ ∧ a1_ ≤ 6)) ∧ zSK (gF T_).length s_ d_ N ∧ v = (-1 : Int)))) ∧ zNm nm_ (gF T_).length (gmkI T_) d_ N)) := by
      intro i3_
      have htc_ := (show (a0_ = 0 ∨ ((a0_ = 1 ∨ a0_ = 2) ∧ 0 ≤ a1_ ∧ a1_ ≤ 6)) by first | with_reducible assumption | assumption)
      refine zw_iconst (pc := 36) (v := Int32.ofInt 0) (by decide) (zdal_p dlB_T_take_127 (i := 21) rfl) ?_
      refine zw_istore (pc := 37) (i := 4) (L2 := [some (.ref 0), some (.int (Int32.ofInt a0_)), some (.int (Int32.ofInt a1_)), some (.int (Int32.ofInt u1_)), some (.int (Int32.ofInt 0))]) (by decide) rfl (zdal_p dlB_T_take_127 (i := 22) rfl) ?_
      have lp_39 : ∀ (n : Nat) (u4_ : Int) (hu4_a : -2147483648 ≤ u4_) (hu4_b : u4_ < 2147483648) (N5_ : zMem) (hs6_ : zFc d_ [] [] [] [27] Mz N5_) (i7_ : 0 ≤ u4_) (i8_ : u4_ ≤ ((gF T_).length : Int)) (i9_ : (∀ j : Nat, (j : Int) < u4_ → zg N5_ (d_ + 27) j = tkv (zrr P_ T_ (zCo P_ d_ Mz) (gFn T_ j)) a0_ a1_)), (((gF T_).length : Int) - u4_).toNat < n → zW l m_T_take (zn Mz + 0, zw Mz + 0) N5_ 39 [some (.ref 0), some (.int (Int32.ofInt a0_)), some (.int (Int32.ofInt a1_)), some (.int (Int32.ofInt u1_)), some (.int (Int32.ofInt u4_))] [] (zqcI d_ [] [] [(0, 7), (0, 8)] [25, 27] Mz (fun v N => ((((a0_ = 0 ∨ ((a0_ = 1 ∨ a0_ = 2) ∧ 0 ≤ a1_ ∧ a1_ ≤ 6)) ∧ ∃ c_ : Nat → Nat, gTb mv_ c_ T_ ∧ zSK (gF T_).length (zpush s_ (zsq (gF T_).length (gmkI T_) (fun j_ => tkv (zrr P_ T_ c_ (gFn T_ j_)) a0_ a1_))) d_ N) ∨ (¬ (a0_ = 0 ∨ ((a0_ = 1 ∨ a0_ = 2) ∧ 0 ≤ a1_ ∧ a1_ ≤ 6)) ∧ zSK (gF T_).length s_ d_ N ∧ v = (-1 : Int)))) ∧ zNm nm_ (gF T_).length (gmkI T_) d_ N)) := by
        intro n
        induction n with
        | zero =>
          intro u4_ hu4_a hu4_b N5_ hs6_ i7_ i8_ i9_ h0
          exact absurd h0 (Nat.not_lt_zero _)
        | succ n ih_39 =>
          intro u4_ hu4_a hu4_b N5_ hs6_ i7_ i8_ i9_ hlt_39
          have hf_N5_ : zFc d_ [] [] [(0, 7), (0, 8)] [25, 27] Mz N5_ := hf.tr hs6_ (by decide) (by decide) (by decide) (by decide)
          have eD12_7_N5_ : ze N5_ (d_ + 12) 7 = ze Mz (d_ + 12) 7 := hs6_.e (by decide)
          have c10_ : zMvK mv_ P_ d_ N5_ := zMvK.fr (hf.w hW) hs6_ p0_ (by decide)
          have c11_ : zGc mv_ P_ T_ d_ N5_ := zGc.fr (hf.w hW) hs6_ p1_ (by decide)
          have c12_ : zFir T_ d_ N5_ := zFir.fr (hf.w hW) hs6_ p2_ (by decide)
          have c13_ : zKm (gF T_).length (gmkI T_) d_ N5_ := zKm.fr (hf.w hW) hs6_ p3_ (by decide)
          have c14_ : zSK (gF T_).length s_ d_ N5_ := zSKc.fr (hf.w hW) hs6_ p4_ (by decide)
          have c15_ : zNm nm_ (gF T_).length (gmkI T_) d_ N5_ := zNm.fr (hf.w hW) hs6_ p5_ (by decide)
          have htk_ := (show (∀ j : Nat, (j : Int) < u4_ → zg N5_ (d_ + 27) j = tkv (zrr P_ T_ (zCo P_ d_ Mz) (gFn T_ j)) a0_ a1_) by first | with_reducible assumption | assumption)
          have hco_ := zCo_f (P := P_) hf_N5_ (by decide)
          refine zw_iload (pc := 39) (i := 4) (x := Int32.ofInt u4_) rfl (zdal_p dlB_T_take_127 (i := 23) rfl) ?_
          refine zw_aload_n (pc := 41) (n := 0) (x := 0) rfl (zdal_p dlB_T_take_128 (i := 0) rfl) ?_
          refine zw_getF (pc := 42) f_T_28 rfl ((hf_N5_.w hW).ka (o := 0) (by decide)) (hf_N5_.now hnow) (zdal_p dlB_T_take_128 (i := 1) rfl) ?_
          refine zw_getF (pc := 45) f_T_85 rfl ((hf_N5_.w hW).kr (o := 0) (by decide)) ((hf_N5_.w hW).lr (o := 0) (s := 1) (r := 12) (by decide)) (zdal_p dlB_T_take_128 (i := 2) rfl) ?_
          refine zk_getI (pc := 48) f_T_94 rfl ((hf_N5_.w hW).kr (o := 12) (by decide)) (zdal_p dlB_T_take_128 (i := 3) rfl) ?_
          rw [hf_N5_.e (by decide)]
          refine zr_icmp_ge (pc := 51) (tgt := 103) ⟨hu4_a, hu4_b⟩ ⟨(ze_r Mz (d_ + 12) 7).1, (ze_r Mz (d_ + 12) 7).2⟩ (by decide) (zdal_p dlB_T_take_128 (i := 4) rfl) (fun hc_51 => ?_) (fun hc_51 => ?_)
          · skip
            have hska_ := c14_
            have hnma_ := c15_
            refine zw_aload_n (pc := 103) (n := 0) (x := 0) rfl (zdal_p dlB_T_take_129 (i := 2) rfl) ?_
            refine zw_getF (pc := 104) f_T_28 rfl ((hf_N5_.w hW).ka (o := 0) (by decide)) (hf_N5_.now hnow) (zdal_p dlB_T_take_129 (i := 3) rfl) ?_
            refine zw_getF (pc := 107) f_T_169 rfl ((hf_N5_.w hW).kr (o := 0) (by decide)) ((hf_N5_.w hW).lr (o := 0) (s := 2) (r := 23) (by decide)) (zdal_p dlB_T_take_129 (i := 4) rfl) ?_
            refine zw_bipush (pc := 110) (v := Int32.ofInt 39) (by decide) (zdal_p dlB_T_take_129 (i := 5) rfl) ?_
            refine zk_callV hf_N5_.x (pc := 112) [.int (Int32.ofInt 39)] [] l_T_296 (u_Sums_solveS l d_ N5_ (hf_N5_.w hW) 39 (by decide) (by decide) (gF T_).length (gmkI T_) hTA_ c13_ (show 0 ≤ 39 by first | with_reducible assumption | (decide) | assumption) (show 39 ≤ 39 by first | with_reducible assumption | (decide) | assumption) (show (∀ j : Nat, j < (gF T_).length → -1000000 ≤ zg N5_ (d_ + 27) j ∧ zg N5_ (d_ + 27) j ≤ 1000000) by exact fun j_ hj_ => by rw [htk_ j_ (by (exact zo_2399 hF27_ hc_51 hfl_ hj_ i7_))]; have h_ := tkv_b hP6_ (hpt_ j_ hj_) htc_; omega)) rfl rfl ((hf_N5_.w hW).kr (o := 23) (by decide)) (by decide) (by decide) (Nat.le_of_ble_eq_true rfl) (zdal_p dlB_T_take_129 (i := 6) rfl) ?_
            rintro _ N16_ ⟨rfl, hsN16_, hp0_N16_⟩
            replace hp0_N16_ : zSh (gF T_).length d_ N5_ N16_ 39 (zsq (gF T_).length (gmkI T_) (fun j_ => zg N5_ (d_ + 27) j_)) := hp0_N16_
            have hf_N16_ : zFc d_ [] [] [(0, 7), (0, 8)] [25, 27] Mz N16_ := hf_N5_.tr hsN16_ (by decide) (by decide) (by decide) (by decide)
            have eD12_7_N16_ : ze N16_ (d_ + 12) 7 = ze N5_ (d_ + 12) 7 := hsN16_.e (by decide)
            have c18_ : zMvK mv_ P_ d_ N16_ := zMvK.fr (hf_N5_.w hW) hsN16_ c10_ (by decide)
            have c19_ : zGc mv_ P_ T_ d_ N16_ := zGc.fr (hf_N5_.w hW) hsN16_ c11_ (by decide)
            have c20_ : zFir T_ d_ N16_ := zFir.fr (hf_N5_.w hW) hsN16_ c12_ (by decide)
            have c21_ : zKm (gF T_).length (gmkI T_) d_ N16_ := zKm.fr (hf_N5_.w hW) hsN16_ c13_ (by decide)
            show zW l m_T_take (zn Mz + 0, zw Mz + 0) N16_ 115 [some (.ref 0), some (.int (Int32.ofInt a0_)), some (.int (Int32.ofInt a1_)), some (.int (Int32.ofInt u1_)), some (.int (Int32.ofInt u4_))] [] _
            have hsh_ := hp0_N16_
            have hlw_ : zLow d_ N5_ N16_ := zLow.sh hsh_ (by (decide))
            have hsk1_ := zSK.fr hsN16_ hlw_ hF27_ hska_ (by decide)
            have hnm1_ := hnma_.l hsN16_ hlw_ hF27_ (by decide)
            have hn39_ := zSh_n (F := (gF T_).length) (by (decide)) hsh_
            have hpc_ : ∀ k_ : Nat, k_ < (gF T_).length → zvc (gF T_).length d_ N16_ 39 k_ = (zsq (gF T_).length (gmkI T_) (fun j_ => tkv (zrr P_ T_ (zCo P_ d_ Mz) (gFn T_ j_)) a0_ a1_)) k_ := fun k_ hk_ => by rw [hn39_]; show (if k_ < (gF T_).length then _ else _) = _; rw [if_pos hk_]; exact zsq_cc (fun j_ hj_ => htk_ j_ (by (exact zo_2399 hF27_ hc_51 hfl_ hj_ i7_))) k_ hk_
            refine zw_aload_n (pc := 115) (n := 0) (x := 0) rfl (zdal_p dlB_T_take_129 (i := 7) rfl) ?_
            refine zw_getF (pc := 116) f_T_28 rfl ((hf_N16_.w hW).ka (o := 0) (by decide)) (hf_N16_.now hnow) (zdal_p dlB_T_take_129 (i := 8) rfl) ?_
            refine zw_bipush (pc := 119) (v := Int32.ofInt 39) (by decide) (zdal_p dlB_T_take_129 (i := 9) rfl) ?_
            refine zk_callV hf_N16_.x (pc := 121) [.int (Int32.ofInt 39)] [] l_T_284 (u_Troupe_becomeS l d_ N16_ (hf_N16_.w hW) 39 (by decide) (by decide) (gF T_).length (gmkI T_) hTA_ s_ c21_ hsk1_ (show ((1 ≤ 39 ∧ 39 ≤ 8) ∨ (21 ≤ 39 ∧ 39 ≤ 39)) by first | with_reducible assumption | (decide) | assumption)) rfl rfl ((hf_N16_.w hW).kr (o := 0) (by decide)) (by decide) (by decide) (Nat.le_of_ble_eq_true rfl) (zdal_p dlB_T_take_129 (i := 10) rfl) ?_
            rintro _ N22_ ⟨rfl, hsN22_, ⟨hp0_N22_, hp1_N22_⟩⟩
            have hf_N22_ : zFc d_ [] [] [(0, 7), (0, 8)] [25, 27] Mz N22_ := hf_N16_.tr hsN22_ (by decide) (by decide) (by decide) (by decide)
            have eD12_7_N22_ : ze N22_ (d_ + 12) 7 = ze N16_ (d_ + 12) 7 := hsN22_.e (by decide)
            have c24_ : zMvK mv_ P_ d_ N22_ := zMvK.fr (hf_N16_.w hW) hsN22_ c18_ (by decide)
            have c25_ : zGc mv_ P_ T_ d_ N22_ := zGc.fr (hf_N16_.w hW) hsN22_ c19_ (by decide)
            have c26_ : zFir T_ d_ N22_ := zFir.fr (hf_N16_.w hW) hsN22_ c20_ (by decide)
            have c27_ : zKm (gF T_).length (gmkI T_) d_ N22_ := zKm.fr (hf_N16_.w hW) hsN22_ c21_ (by decide)
            show zW l m_T_take (zn Mz + 0, zw Mz + 0) N22_ 124 [some (.ref 0), some (.int (Int32.ofInt a0_)), some (.int (Int32.ofInt a1_)), some (.int (Int32.ofInt u1_)), some (.int (Int32.ofInt u4_))] [] _
            have hsk2_ := (hp0_N22_).pc hpc_
            have hnm2_ := zNm.md hsN22_ hp1_N22_ hF27_ hnm1_ (by decide)
            refine zw_aload_n (pc := 124) (n := 0) (x := 0) rfl (zdal_p dlB_T_take_129 (i := 11) rfl) ?_
            refine zw_getF (pc := 125) f_T_28 rfl ((hf_N22_.w hW).ka (o := 0) (by decide)) (hf_N22_.now hnow) (zdal_p dlB_T_take_129 (i := 12) rfl) ?_
            refine zw_getF (pc := 128) f_T_169 rfl ((hf_N22_.w hW).kr (o := 0) (by decide)) ((hf_N22_.w hW).lr (o := 0) (s := 2) (r := 23) (by decide)) (zdal_p dlB_T_take_129 (i := 13) rfl) ?_
            refine zw_iconst (pc := 131) (v := Int32.ofInt 0) (by decide) (zdal_p dlB_T_take_129 (i := 14) rfl) ?_
            refine zw_iconst (pc := 132) (v := Int32.ofInt 0) (by decide) (zdal_p dlB_T_take_129 (i := 15) rfl) ?_
            refine zk_callV hf_N22_.x (pc := 133) [.int (Int32.ofInt 0), .int (Int32.ofInt 0)] [] l_T_250 (u_Sums_markOfX l d_ N22_ (hf_N22_.w hW) 0 (by decide) (by decide) 0 (by decide) (by decide)) rfl rfl ((hf_N22_.w hW).kr (o := 23) (by decide)) (by decide) (by decide) (Nat.le_of_ble_eq_true rfl) (zdal_p dlB_T_take_129 (i := 16) rfl) ?_
            rintro _ N28_ ⟨v29_, rfl, ⟨hv29_a, hv29_b⟩, hsN28_, -⟩
            obtain rfl := hsN28_.eq.symm
            show zW l m_T_take (zn Mz + 0, zw Mz + 0) N22_ 136 [some (.ref 0), some (.int (Int32.ofInt a0_)), some (.int (Int32.ofInt a1_)), some (.int (Int32.ofInt u1_)), some (.int (Int32.ofInt u4_))] [.long (Int64.ofInt v29_)] _
            refine zr_l2i (pc := 136) (zdal_p dlB_T_take_129 (i := 17) rfl) ?_
            refine zr_nmI (fun v30_ hv30_ => ?_)
            obtain ⟨hv30_a, hv30_b⟩ := hv30_
            exact zk_iret (pc := 137) (ty := .int) rfl rfl ⟨by (exact hv30_a), by (exact hv30_b)⟩ hf_N22_ ⟨(show (((a0_ = 0 ∨ ((a0_ = 1 ∨ a0_ = 2) ∧ 0 ≤ a1_ ∧ a1_ ≤ 6)) ∧ ∃ c_ : Nat → Nat, gTb mv_ c_ T_ ∧ zSK (gF T_).length (zpush s_ (zsq (gF T_).length (gmkI T_) (fun j_ => tkv (zrr P_ T_ c_ (gFn T_ j_)) a0_ a1_))) d_ N22_) ∨ (¬ (a0_ = 0 ∨ ((a0_ = 1 ∨ a0_ = 2) ∧ 0 ≤ a1_ ∧ a1_ ≤ 6)) ∧ zSK (gF T_).length s_ d_ N22_ ∧ v30_ = (-1 : Int))) by exact Or.inl ⟨htc_, _, p1_.1, hsk2_⟩), hnm2_⟩ (zdal_p dlB_T_take_129 (i := 18) rfl)
          · skip
            refine zw_aload_n (pc := 54) (n := 0) (x := 0) rfl (zdal_p dlB_T_take_128 (i := 5) rfl) ?_
            refine zw_getF (pc := 55) f_T_28 rfl ((hf_N5_.w hW).ka (o := 0) (by decide)) (hf_N5_.now hnow) (zdal_p dlB_T_take_128 (i := 6) rfl) ?_
            refine zw_getF (pc := 58) f_T_169 rfl ((hf_N5_.w hW).kr (o := 0) (by decide)) ((hf_N5_.w hW).lr (o := 0) (s := 2) (r := 23) (by decide)) (zdal_p dlB_T_take_128 (i := 7) rfl) ?_
            refine zw_getF (pc := 61) f_T_262 rfl ((hf_N5_.w hW).kr (o := 23) (by decide)) ((hf_N5_.w hW).lr (o := 23) (s := 2) (r := 26) (by decide)) (zdal_p dlB_T_take_128 (i := 8) rfl) ?_
            refine zw_iload (pc := 64) (i := 4) (x := Int32.ofInt u4_) rfl (zdal_p dlB_T_take_128 (i := 9) rfl) ?_
            refine zw_aload_n (pc := 66) (n := 0) (x := 0) rfl (zdal_p dlB_T_take_128 (i := 10) rfl) ?_
            refine zw_getF (pc := 67) f_T_28 rfl ((hf_N5_.w hW).ka (o := 0) (by decide)) (hf_N5_.now hnow) (zdal_p dlB_T_take_128 (i := 11) rfl) ?_
            refine zw_getF (pc := 70) f_T_61 rfl ((hf_N5_.w hW).kr (o := 0) (by decide)) ((hf_N5_.w hW).lr (o := 0) (s := 0) (r := 1) (by decide)) (zdal_p dlB_T_take_128 (i := 12) rfl) ?_
            refine zw_iload_n (pc := 73) (n := 1) (x := Int32.ofInt a0_) rfl (zdal_p dlB_T_take_128 (i := 13) rfl) ?_
            refine zw_iload_n (pc := 74) (n := 2) (x := Int32.ofInt a1_) rfl (zdal_p dlB_T_take_128 (i := 14) rfl) ?_
            refine zw_aload_n (pc := 75) (n := 0) (x := 0) rfl (zdal_p dlB_T_take_128 (i := 15) rfl) ?_
            refine zw_getF (pc := 76) f_T_28 rfl ((hf_N5_.w hW).ka (o := 0) (by decide)) (hf_N5_.now hnow) (zdal_p dlB_T_take_128 (i := 16) rfl) ?_
            refine zw_getF (pc := 79) f_T_85 rfl ((hf_N5_.w hW).kr (o := 0) (by decide)) ((hf_N5_.w hW).lr (o := 0) (s := 1) (r := 12) (by decide)) (zdal_p dlB_T_take_128 (i := 17) rfl) ?_
            refine zw_getF (pc := 82) f_T_146 rfl ((hf_N5_.w hW).kr (o := 12) (by decide)) ((hf_N5_.w hW).lr (o := 12) (s := 4) (r := 19) (by decide)) (zdal_p dlB_T_take_128 (i := 18) rfl) ?_
            refine zw_iload (pc := 85) (i := 4) (x := Int32.ofInt u4_) rfl (zdal_p dlB_T_take_128 (i := 19) rfl) ?_
            refine zk_at hf_N5_.x (pc := 87) l_T_118 ((hf_N5_.w hW).kr (o := 19) (by decide)) ((hf_N5_.w hW).lr (o := 19) (s := 0) (r := 20) (by decide)) ((hf_N5_.w hW).rr (o := 20) (t := 1) (n := 27) (by decide)) (by decide) (by (exact i7_)) (by (exact zo_2386 hF27_ hc_51 hfl_ hu4_b i8_)) (by decide) (Nat.le_of_ble_eq_true rfl) (zdal_p dlB_T_take_128 (i := 20) rfl) (fun v31_ hv31_ hv31_a hv31_b => ?_)
            rw [hf_N5_.r (by decide)] at hv31_
            have hfv_ := hv31_
            have hfw_ : v31_ = ((gFn T_ (u4_).toNat : Nat) : Int) := hfv_.trans (p2_.2 _ (by (exact zo_2387 hc_51 hfl_ hu4_b i7_ i8_)))
            have hft_ : (v31_).toNat = gFn T_ (u4_).toNat := by (exact zo_2680 hfw_ hv31_a hv31_b)
            have hfb_ := gS_b hO_ (hO_.2.2.1.2.1 _ (gFn_m (T := T_) (i := (u4_).toNat) (by (exact zo_2387 hc_51 hfl_ hu4_b i7_ i8_)))).1
            refine zk_callV hf_N5_.x (pc := 90) [.int (Int32.ofInt a0_), .int (Int32.ofInt a1_), .int (Int32.ofInt v31_)] [.int (Int32.ofInt u4_), .ref (d_ + 26)] l_T_287 (u_Group_countKeptS l d_ N5_ (hf_N5_.w hW) a0_ ha0_a ha0_b a1_ ha1_a ha1_b v31_ hv31_a hv31_b T_ hT_ P_ mv_ c10_ c11_ (show 0 ≤ v31_ by first | with_reducible assumption | (exact zo_2336 hfw_ hv31_a) | assumption) (show v31_ < 16777216 by first | with_reducible assumption | assumption | omega) (show zPt (zrch (gN T_) (zCo P_ d_ N5_) (v31_).toNat) P_ by rw [hft_, hco_]; exact hpt_ _ (by (exact zo_2387 hc_51 hfl_ hu4_b i7_ i8_))) (show (a0_ = 0 ∨ ((a0_ = 1 ∨ a0_ = 2) ∧ 0 ≤ a1_ ∧ a1_ ≤ 6)) by first | with_reducible assumption | assumption | omega)) rfl rfl ((hf_N5_.w hW).kr (o := 1) (by decide)) (by decide) (by decide) (Nat.le_of_ble_eq_true rfl) (zdal_p dlB_T_take_128 (i := 21) rfl) ?_
            rintro _ N32_ ⟨v33_, rfl, ⟨hv33_a, hv33_b⟩, hsN32_, hp0_N32_⟩
            obtain rfl := hsN32_.eq.symm
            replace hp0_N32_ : v33_ = tkv (zrr P_ T_ (zCo P_ d_ N5_) (v31_).toNat) a0_ a1_ := hp0_N32_
            show zW l m_T_take (zn Mz + 0, zw Mz + 0) N5_ 93 [some (.ref 0), some (.int (Int32.ofInt a0_)), some (.int (Int32.ofInt a1_)), some (.int (Int32.ofInt u1_)), some (.int (Int32.ofInt u4_))] [.int (Int32.ofInt v33_), .int (Int32.ofInt u4_), .ref (d_ + 26)] _
            have hx_ := hp0_N32_
            rw [hft_, hco_] at hx_
            have hxb_ := tkv_b hP6_ (hpt_ (u4_).toNat (by (exact zo_2387 hc_51 hfl_ hu4_b i7_ i8_))) htc_
            rw [← hx_] at hxb_
            refine zr_i2l (pc := 93) ⟨hv33_a, hv33_b⟩ (zdal_p dlB_T_take_128 (i := 22) rfl) ?_
            refine zk_stJ hf_N5_.x (pc := 94) (o := 27) (by decide) l_T_290 ((hf_N5_.w hW).kr (o := 26) (by decide)) ((hf_N5_.w hW).lr (o := 26) (s := 0) (r := 27) (by decide)) ((hf_N5_.w hW).rr (o := 27) (t := 2) (n := 27) (by decide)) (by decide) (by (exact i7_)) (by (exact zo_2386 hF27_ hc_51 hfl_ hu4_b i8_)) (by decide) (Nat.le_of_ble_eq_true rfl) (zdal_p dlB_T_take_128 (i := 23) rfl) (fun N34_ hN34_ hsN34_ => ?_)
            have hf_N34_ : zFc d_ [] [] [(0, 7), (0, 8)] [25, 27] Mz N34_ := hf_N5_.tr hsN34_ (by decide) (by decide) (by decide) (by decide)
            have hb0_N34_ : zFc d_ [] [] [] [27] Mz N34_ := hs6_.tr hsN34_ (by decide) (by decide) (by decide) (by decide)
            have eD12_7_N34_ : ze N34_ (d_ + 12) 7 = ze N5_ (d_ + 12) 7 := hsN34_.e (by decide)
            have c35_ : zMvK mv_ P_ d_ N34_ := zMvK.fr (hf_N5_.w hW) hsN34_ c10_ (by decide)
            have c36_ : zGc mv_ P_ T_ d_ N34_ := zGc.fr (hf_N5_.w hW) hsN34_ c11_ (by decide)
            have c37_ : zFir T_ d_ N34_ := zFir.fr (hf_N5_.w hW) hsN34_ c12_ (by decide)
            have c38_ : zKm (gF T_).length (gmkI T_) d_ N34_ := zKm.fr (hf_N5_.w hW) hsN34_ c13_ (by decide)
            have c39_ : zSK (gF T_).length s_ d_ N34_ := zSKc.fr (hf_N5_.w hW) hsN34_ c14_ (by decide)
            have c40_ : zNm nm_ (gF T_).length (gmkI T_) d_ N34_ := zNm.fr (hf_N5_.w hW) hsN34_ c15_ (by decide)
            have htn_ : (∀ j : Nat, (j : Int) < u4_ + 1 → zg N34_ (d_ + 27) j = tkv (zrr P_ T_ (zCo P_ d_ Mz) (gFn T_ j)) a0_ a1_) := fun j_ hj_ => by by_cases g_ : (j_ : Int) = u4_; (rw [show j_ = (u4_).toNat by (exact zo_128 g_ hF27_ hj_ hu4_b i7_ i8_), zs_getJ hN34_ ⟨by (exact zo_997 hxb_.1), by omega⟩]; exact hx_); (rw [zs_othJ hN34_ (by (exact zo_148 i7_ g_))]; exact htk_ j_ (by (exact zo_130 hj_ g_)))
            refine zr_iinc (pc := 97) (i := 4) (a := u4_) (n := 1) (L2 := [some (.ref 0), some (.int (Int32.ofInt a0_)), some (.int (Int32.ofInt a1_)), some (.int (Int32.ofInt u1_)), some (.int (Int32.ofInt (u4_ + 1)))]) rfl (by decide) rfl (zdal_p dlB_T_take_129 (i := 0) rfl) ?_
            refine zw_goto (pc := 100) (tgt := 39) (by decide) (zdal_p dlB_T_take_129 (i := 1) rfl) ?_
            exact ih_39 (u4_ + 1) (by (exact zo_74 i7_)) (by (exact zo_75 hF27_ hu4_b i8_)) N34_ hb0_N34_ (show 0 ≤ (u4_ + 1) by first | with_reducible assumption | (exact zo_76 i7_) | assumption) (show (u4_ + 1) ≤ ((gF T_).length : Int) by first | with_reducible assumption | (exact zo_1122 hc_51 hfl_ hu4_b i8_) | assumption) (show (∀ j : Nat, (j : Int) < (u4_ + 1) → zg N34_ (d_ + 27) j = tkv (zrr P_ T_ (zCo P_ d_ Mz) (gFn T_ j)) a0_ a1_) by exact htn_) (by (exact zo_2397 hc_51 hfl_ hlt_39 hu4_b i8_))
      exact lp_39 _ 0 (by decide) (by decide) Mz zFc.rf (show 0 ≤ (0 : Int) by first | with_reducible assumption | (decide) | assumption) (show (0 : Int) ≤ ((gF T_).length : Int) by first | with_reducible assumption | (exact zo_85) | assumption) (show (∀ j : Nat, (j : Int) < (0 : Int) → zg Mz (d_ + 27) j = tkv (zrr P_ T_ (zCo P_ d_ Mz) (gFn T_ j)) a0_ a1_) by exact fun j_ hj_ => absurd hj_ (by (exact zo_131))) (Nat.lt_succ_self _)
    refine zr_if_eq (pc := 17) (tgt := 36) ⟨ha0_a, ha0_b⟩ (by decide) (zdal_p dlB_T_take_127 (i := 10) rfl) (fun hc_17 => ?_) (fun hc_17 => ?_)
    · skip
      exact j_36 (show (a0_ = 0 ∨ ((a0_ = 1 ∨ a0_ = 2) ∧ 0 ≤ a1_ ∧ a1_ ≤ 6)) by first | with_reducible assumption | assumption | omega)
    · skip
      refine zw_iload_n (pc := 20) (n := 3) (x := Int32.ofInt u1_) rfl (zdal_p dlB_T_take_127 (i := 11) rfl) ?_
      refine zr_if_eq (pc := 21) (tgt := 34) ⟨hu1_a, hu1_b⟩ (by decide) (zdal_p dlB_T_take_127 (i := 12) rfl) (fun hc_21 => ?_) (fun hc_21 => ?_)
      · skip
        refine zw_iconst (pc := 34) (v := Int32.ofInt (-1)) (by decide) (zdal_p dlB_T_take_127 (i := 19) rfl) ?_
        exact zk_iret (pc := 35) (ty := .int) rfl rfl ⟨by (decide), by (decide)⟩ hf ⟨(show (((a0_ = 0 ∨ ((a0_ = 1 ∨ a0_ = 2) ∧ 0 ≤ a1_ ∧ a1_ ≤ 6)) ∧ ∃ c_ : Nat → Nat, gTb mv_ c_ T_ ∧ zSK (gF T_).length (zpush s_ (zsq (gF T_).length (gmkI T_) (fun j_ => tkv (zrr P_ T_ c_ (gFn T_ j_)) a0_ a1_))) d_ Mz) ∨ (¬ (a0_ = 0 ∨ ((a0_ = 1 ∨ a0_ = 2) ∧ 0 ≤ a1_ ∧ a1_ ≤ 6)) ∧ zSK (gF T_).length s_ d_ Mz ∧ ((-1)) = (-1 : Int))) by exact Or.inr ⟨by omega, p4_, rfl⟩), p5_⟩ (zdal_p dlB_T_take_127 (i := 20) rfl)
      · skip
        refine zw_iload_n (pc := 24) (n := 1) (x := Int32.ofInt a0_) rfl (zdal_p dlB_T_take_127 (i := 13) rfl) ?_
        refine zw_iconst (pc := 25) (v := Int32.ofInt 1) (by decide) (zdal_p dlB_T_take_127 (i := 14) rfl) ?_
        refine zr_icmp_eq (pc := 26) (tgt := 36) ⟨ha0_a, ha0_b⟩ ⟨(by decide), (by decide)⟩ (by decide) (zdal_p dlB_T_take_127 (i := 15) rfl) (fun hc_26 => ?_) (fun hc_26 => ?_)
        · skip
          exact j_36 (show (a0_ = 0 ∨ ((a0_ = 1 ∨ a0_ = 2) ∧ 0 ≤ a1_ ∧ a1_ ≤ 6)) by first | with_reducible assumption | assumption | omega)
        · skip
          refine zw_iload_n (pc := 29) (n := 1) (x := Int32.ofInt a0_) rfl (zdal_p dlB_T_take_127 (i := 16) rfl) ?_
          refine zw_iconst (pc := 30) (v := Int32.ofInt 2) (by decide) (zdal_p dlB_T_take_127 (i := 17) rfl) ?_
          refine zr_icmp_eq (pc := 31) (tgt := 36) ⟨ha0_a, ha0_b⟩ ⟨(by decide), (by decide)⟩ (by decide) (zdal_p dlB_T_take_127 (i := 18) rfl) (fun hc_31 => ?_) (fun hc_31 => ?_)
          · skip
            exact j_36 (show (a0_ = 0 ∨ ((a0_ = 1 ∨ a0_ = 2) ∧ 0 ≤ a1_ ∧ a1_ ≤ 6)) by first | with_reducible assumption | assumption | omega)
          · skip
            refine zw_iconst (pc := 34) (v := Int32.ofInt (-1)) (by decide) (zdal_p dlB_T_take_127 (i := 19) rfl) ?_
            exact zk_iret (pc := 35) (ty := .int) rfl rfl ⟨by (decide), by (decide)⟩ hf ⟨(show (((a0_ = 0 ∨ ((a0_ = 1 ∨ a0_ = 2) ∧ 0 ≤ a1_ ∧ a1_ ≤ 6)) ∧ ∃ c_ : Nat → Nat, gTb mv_ c_ T_ ∧ zSK (gF T_).length (zpush s_ (zsq (gF T_).length (gmkI T_) (fun j_ => tkv (zrr P_ T_ c_ (gFn T_ j_)) a0_ a1_))) d_ Mz) ∨ (¬ (a0_ = 0 ∨ ((a0_ = 1 ∨ a0_ = 2) ∧ 0 ≤ a1_ ∧ a1_ ≤ 6)) ∧ zSK (gF T_).length s_ d_ Mz ∧ ((-1)) = (-1 : Int))) by exact Or.inr ⟨by omega, p4_, rfl⟩), p5_⟩ (zdal_p dlB_T_take_127 (i := 20) rfl)
  refine zr_if_lt (pc := 1) (tgt := 14) ⟨ha1_a, ha1_b⟩ (by decide) (zdal_p dlB_T_take_127 (i := 1) rfl) (fun hc_1 => ?_) (fun hc_1 => ?_)
  · skip
    refine zw_iconst (pc := 14) (v := Int32.ofInt 0) (by decide) (zdal_p dlB_T_take_127 (i := 7) rfl) ?_
    exact j_15 0 (by decide) (by decide) (by (decide)) (show (((0 : Int) = 1 ∧ 0 ≤ a1_ ∧ a1_ ≤ 6) ∨ ((0 : Int) = 0 ∧ ¬ (0 ≤ a1_ ∧ a1_ ≤ 6))) by first | with_reducible assumption | assumption | omega)
  · skip
    refine zw_iload_n (pc := 4) (n := 2) (x := Int32.ofInt a1_) rfl (zdal_p dlB_T_take_127 (i := 2) rfl) ?_
    refine zw_bipush (pc := 5) (v := Int32.ofInt 6) (by decide) (zdal_p dlB_T_take_127 (i := 3) rfl) ?_
    refine zr_icmp_gt (pc := 7) (tgt := 14) ⟨ha1_a, ha1_b⟩ ⟨(by decide), (by decide)⟩ (by decide) (zdal_p dlB_T_take_127 (i := 4) rfl) (fun hc_7 => ?_) (fun hc_7 => ?_)
    · skip
      refine zw_iconst (pc := 14) (v := Int32.ofInt 0) (by decide) (zdal_p dlB_T_take_127 (i := 7) rfl) ?_
      exact j_15 0 (by decide) (by decide) (by (decide)) (show (((0 : Int) = 1 ∧ 0 ≤ a1_ ∧ a1_ ≤ 6) ∨ ((0 : Int) = 0 ∧ ¬ (0 ≤ a1_ ∧ a1_ ≤ 6))) by first | with_reducible assumption | assumption | omega)
    · skip
      refine zw_iconst (pc := 10) (v := Int32.ofInt 1) (by decide) (zdal_p dlB_T_take_127 (i := 5) rfl) ?_
      refine zw_goto (pc := 11) (tgt := 15) (by decide) (zdal_p dlB_T_take_127 (i := 6) rfl) ?_
      exact j_15 1 (by decide) (by decide) (by (decide)) (show (((1 : Int) = 1 ∧ 0 ≤ a1_ ∧ a1_ ≤ 6) ∨ ((1 : Int) = 0 ∧ ¬ (0 ≤ a1_ ∧ a1_ ≤ 6))) by first | with_reducible assumption | assumption | omega)
set_option maxHeartbeats 4000000 in
theorem c_M_laysPartsS (l : Launch) (Mz : zMem) (hW : zMt Mz) (a0_ : Int) (ha0_a : -2147483648 ≤ a0_) (ha0_b : a0_ < 2147483648) (T : zGT) (hO : gOK T) (P_ : Nat) (mv_ : List Nat) (p0_ : zGB T Mz) (p1_ : zCdR (P_ : Int) mv_ T Mz) (p2_ : ze Mz 81 16 = (P_ : Int)) (p3_ : 1 ≤ P_) (p4_ : P_ ≤ 6) (p5_ : 0 ≤ a0_) (p6_ : a0_ < 16777216) (p7_ : zPt (zrch (gN T) (fun i_ => zrc Mz 85 i_ (P_ : Int)) (a0_).toNat) P_) : zC l m_M_laysParts 0 0 [.ref 81, .int (Int32.ofInt a0_)] Mz (zpV [63] [112] Mz (fun N => zTkZ (tkz (zrr P_ T (fun i_ => zrc Mz 85 i_ (P_ : Int)) (a0_).toNat)) N ∧ 0 ≤ ze N 81 63 ∧ ze N 81 63 ≤ 6)) := by
  refine zC_of (L0 := [some (.ref 81), some (.int (Int32.ofInt a0_)), none, none, none, none]) md_M_laysParts (Nat.le_of_ble_eq_true rfl) rfl ?_ zQ0
  have hf : zFr [63] [112] Mz Mz := zFr.rf
  have r_16 := ze_r Mz 81 16
  have r_20 := ze_r Mz 81 20
  have r_63 := ze_r Mz 81 63
  have hG := hO.1
  have g24 := hG.2.1
  have g1 := hG.1
  have dv0 : zTab T Mz := p0_.1
  have dv1 : zB 85 144 0 5 Mz := p0_.2.1
  have dv2 : zJX T Mz := p0_.2.2.1
  have dv3 : zFirs T Mz := p0_.2.2.2.1
  have dv4 : zSSm T Mz := p0_.2.2.2.2.1
  have dv5 : zGD Mz := zGB.d hO p0_
  have gb := dv5.1
  have gn := dv0.1
  have hsz_ := dv0.1
  have hrb_ := zrr_b (by (exact p4_)) p7_
  have hrl_ : ((zrr P_ T (fun i_ => zrc Mz 85 i_ (P_ : Int)) (a0_).toNat)).length = P_ := zrr_l
  refine zw_aload_n (pc := 0) (n := 0) (x := 81) rfl (zdal_p dlD_M_laysParts_115 (i := 0) rfl) ?_
  refine zw_iconst (pc := 1) (v := Int32.ofInt 0) (by decide) (zdal_p dlD_M_laysParts_115 (i := 1) rfl) ?_
  refine zr_putI (hf.w hW) (pc := 2) f_M_487 rfl rfl ⟨by (decide), by (decide)⟩ rfl rfl (zdal_p dlD_M_laysParts_115 (i := 2) rfl) (fun N1_ hsN1_ hvN1_ => ?_)
  have hf_N1_ : zFr [63] [112] Mz N1_ := hf.tr hsN1_ (by decide) (by decide)
  have e16_N1_ : ze N1_ 81 16 = ze Mz 81 16 := hsN1_.e (by decide)
  have e20_N1_ : ze N1_ 81 20 = ze Mz 81 20 := hsN1_.e (by decide)
  have r63_N1_ := ze_r N1_ 81 63
  have c2_ : zGB T N1_ := zGB.fr hsN1_ p0_ (by decide) (by decide)
  have c3_ : zCdR (P_ : Int) mv_ T N1_ := zCdR.fr hsN1_ p1_ (by decide) (by decide)
  have c4_ : zTab T N1_ := zTab.fr hsN1_ dv0 (by decide) (by decide)
  have c5_ : zB 85 144 0 5 N1_ := zB.fr hsN1_ dv1 (by decide) (by decide)
  have c6_ : zJX T N1_ := zJX.fr hsN1_ dv2 (by decide) (by decide)
  have c7_ : zFirs T N1_ := zFirs.fr hsN1_ dv3 (by decide) (by decide)
  have c8_ : zSSm T N1_ := zSSm.fr hsN1_ dv4 (by decide) (by decide)
  have c9_ : zGD N1_ := zGD.fr hsN1_ dv5 (by decide) (by decide)
  refine zw_iconst (pc := 5) (v := Int32.ofInt 0) (by decide) (zdal_p dlD_M_laysParts_115 (i := 3) rfl) ?_
  refine zw_istore_n (pc := 6) (i := 2) (L2 := [some (.ref 81), some (.int (Int32.ofInt a0_)), some (.int (Int32.ofInt 0)), none, none, none]) rfl (by decide) rfl (zdal_p dlD_M_laysParts_115 (i := 4) rfl) ?_
  refine zw_iconst (pc := 7) (v := Int32.ofInt 0) (by decide) (zdal_p dlD_M_laysParts_115 (i := 5) rfl) ?_
  refine zw_istore_n (pc := 8) (i := 3) (L2 := [some (.ref 81), some (.int (Int32.ofInt a0_)), some (.int (Int32.ofInt 0)), some (.int (Int32.ofInt 0)), none, none]) rfl (by decide) rfl (zdal_p dlD_M_laysParts_115 (i := 6) rfl) ?_
  have lp_9 : ∀ (n : Nat) (u10_ : Int) (hu10_a : -2147483648 ≤ u10_) (hu10_b : u10_ < 2147483648) (u11_ : Int) (hu11_a : -2147483648 ≤ u11_) (hu11_b : u11_ < 2147483648) (N12_ : zMem) (hs13_ : zFr [63] [112] N1_ N12_) (i14_ : 0 ≤ ze N12_ 81 63) (i15_ : ze N12_ 81 63 ≤ u11_) (i16_ : u11_ ≤ (P_ : Int)) (i17_ : 0 ≤ u10_) (i18_ : u10_ < 64) (i19_ : zTkS (zrr P_ T (fun i_ => zrc Mz 85 i_ (P_ : Int)) (a0_).toNat) (u11_).toNat u10_ N12_), ((P_ : Int) - u11_).toNat < n → zW l m_M_laysParts (zn Mz + 0, zw Mz + 0) N12_ 9 [some (.ref 81), some (.int (Int32.ofInt a0_)), some (.int (Int32.ofInt u10_)), some (.int (Int32.ofInt u11_)), none, none] [] (zpV [63] [112] Mz (fun N => zTkZ (tkz (zrr P_ T (fun i_ => zrc Mz 85 i_ (P_ : Int)) (a0_).toNat)) N ∧ 0 ≤ ze N 81 63 ∧ ze N 81 63 ≤ 6)) := by
    intro n
    induction n with
    | zero =>
      intro u10_ hu10_a hu10_b u11_ hu11_a hu11_b N12_ hs13_ i14_ i15_ i16_ i17_ i18_ i19_ h0
      exact absurd h0 (Nat.not_lt_zero _)
    | succ n ih_9 =>
      intro u10_ hu10_a hu10_b u11_ hu11_a hu11_b N12_ hs13_ i14_ i15_ i16_ i17_ i18_ i19_ hlt_9
      have hf_N12_ : zFr [63] [112] Mz N12_ := hf_N1_.tr hs13_ (by decide) (by decide)
      have e16_N12_ : ze N12_ 81 16 = ze N1_ 81 16 := hs13_.e (by decide)
      have e20_N12_ : ze N12_ 81 20 = ze N1_ 81 20 := hs13_.e (by decide)
      have r63_N12_ := ze_r N12_ 81 63
      have c20_ : zGB T N12_ := zGB.fr hs13_ c2_ (by decide) (by decide)
      have c21_ : zCdR (P_ : Int) mv_ T N12_ := zCdR.fr hs13_ c3_ (by decide) (by decide)
      have c22_ : zTab T N12_ := zTab.fr hs13_ c4_ (by decide) (by decide)
      have c23_ : zB 85 144 0 5 N12_ := zB.fr hs13_ c5_ (by decide) (by decide)
      have c24_ : zJX T N12_ := zJX.fr hs13_ c6_ (by decide) (by decide)
      have c25_ : zFirs T N12_ := zFirs.fr hs13_ c7_ (by decide) (by decide)
      have c26_ : zSSm T N12_ := zSSm.fr hs13_ c8_ (by decide) (by decide)
      have c27_ : zGD N12_ := zGD.fr hs13_ c9_ (by decide) (by decide)
      have hsk_ := (show zTkS (zrr P_ T (fun i_ => zrc Mz 85 i_ (P_ : Int)) (a0_).toNat) (u11_).toNat u10_ N12_ by first | with_reducible assumption | assumption)
      refine zw_iload_n (pc := 9) (n := 3) (x := Int32.ofInt u11_) rfl (zdal_p dlD_M_laysParts_115 (i := 7) rfl) ?_
      refine zw_aload_n (pc := 10) (n := 0) (x := 81) rfl (zdal_p dlD_M_laysParts_115 (i := 8) rfl) ?_
      refine zr_getI0 hf_N12_ hW (pc := 11) (by decide) f_M_382 rfl (zdal_p dlD_M_laysParts_115 (i := 9) rfl) ?_
      refine zr_icmp_ge (pc := 14) (tgt := 112) ⟨hu11_a, hu11_b⟩ ⟨(ze_r Mz 81 16).1, (ze_r Mz 81 16).2⟩ (by decide) (zdal_p dlD_M_laysParts_115 (i := 10) rfl) (fun hc_14 => ?_) (fun hc_14 => ?_)
      · skip
        exact zr_vret (pc := 112) rfl hf_N12_ ⟨(show zTkZ (tkz (zrr P_ T (fun i_ => zrc Mz 85 i_ (P_ : Int)) (a0_).toNat)) N12_ by exact zTkS_e hsk_ (by omega)), (show 0 ≤ ze N12_ 81 63 by first | with_reducible assumption | assumption | omega), (show ze N12_ 81 63 ≤ 6 by first | with_reducible assumption | assumption | omega)⟩ (zdal_p dlD_M_laysParts_117 (i := 14) rfl)
      · skip
        refine zw_iload_n (pc := 17) (n := 2) (x := Int32.ofInt u10_) rfl (zdal_p dlD_M_laysParts_115 (i := 11) rfl) ?_
        refine zw_iload_n (pc := 18) (n := 3) (x := Int32.ofInt u11_) rfl (zdal_p dlD_M_laysParts_115 (i := 12) rfl) ?_
        refine zr_callS hf_N12_.x (pc := 19) [.int (Int32.ofInt u10_), .int (Int32.ofInt u11_)] [] l_M_213 (c_M_holds l N12_ (hf_N12_.w hW) u10_ hu10_a hu10_b u11_ hu11_a hu11_b (show 0 ≤ u10_ by first | with_reducible assumption | assumption | omega) (show 0 ≤ u11_ by first | with_reducible assumption | (exact zo_941 hu11_a i14_ i15_) | assumption) (show u11_ < 32 by first | with_reducible assumption | assumption | omega)) rfl rfl (by decide) (Nat.le_of_ble_eq_true rfl) (zdal_p dlD_M_laysParts_115 (i := 13) rfl) ?_
        rintro _ N28_ ⟨v29_, rfl, ⟨hv29_a, hv29_b⟩, hsN28_, hp0_N28_⟩
        obtain rfl := hsN28_.eq.symm
        replace hp0_N28_ : ((v29_ = 1 ∧ zbt u10_ u11_) ∨ (v29_ = 0 ∧ ¬ zbt u10_ u11_)) := hp0_N28_
        rcases hp0_N28_ with ⟨rfl, ha19_0_hp0_N28_⟩ | ⟨rfl, ha19_0_hp0_N28_⟩
        · skip
          have hin_ := ha19_0_hp0_N28_
          show zW l m_M_laysParts (zn Mz + 0, zw Mz + 0) N12_ 22 [some (.ref 81), some (.int (Int32.ofInt a0_)), some (.int (Int32.ofInt u10_)), some (.int (Int32.ofInt u11_)), none, none] [.int (Int32.ofInt 1)] _
          refine zr_if_eq (pc := 22) (tgt := 28) ⟨(by decide), (by decide)⟩ (by decide) (zdal_p dlD_M_laysParts_115 (i := 14) rfl) (fun hc_22 => ?_) (fun hc_22 => ?_)
          · skip
            exact absurd hc_22 (by decide)
          · skip
            refine zw_goto (pc := 25) (tgt := 106) (by decide) (zdal_p dlD_M_laysParts_115 (i := 15) rfl) ?_
            refine zr_iinc (pc := 106) (i := 3) (a := u11_) (n := 1) (L2 := [some (.ref 81), some (.int (Int32.ofInt a0_)), some (.int (Int32.ofInt u10_)), some (.int (Int32.ofInt (u11_ + 1))), none, none]) rfl (by decide) rfl (zdal_p dlD_M_laysParts_117 (i := 12) rfl) ?_
            refine zw_goto (pc := 109) (tgt := 9) (by decide) (zdal_p dlD_M_laysParts_117 (i := 13) rfl) ?_
            have hzn_ : zTkS (zrr P_ T (fun i_ => zrc Mz 85 i_ (P_ : Int)) (a0_).toNat) ((u11_ + 1)).toNat u10_ N12_ := by first | exact hzs_ | exact zTkS_t hsk_ (by (exact zo_941 hu11_a i14_ i15_)) hin_ (fun j_ => rfl) rfl rfl
            exact ih_9 u10_ hu10_a hu10_b (u11_ + 1) (by (exact zo_679 hu11_a)) (by (exact zo_2373 hu11_b i16_ p4_)) N12_ hs13_ (show 0 ≤ ze N12_ 81 63 by first | with_reducible assumption | assumption | omega) (show ze N12_ 81 63 ≤ (u11_ + 1) by first | with_reducible assumption | (exact zo_961 i15_) | assumption) (show (u11_ + 1) ≤ (P_ : Int) by first | with_reducible assumption | (exact zo_2374 hc_14 hu11_b i16_ p2_) | assumption) (show 0 ≤ u10_ by first | with_reducible assumption | assumption | omega) (show u10_ < 64 by first | with_reducible assumption | assumption | omega) (show zTkS (zrr P_ T (fun i_ => zrc Mz 85 i_ (P_ : Int)) (a0_).toNat) ((u11_ + 1)).toNat u10_ N12_ by exact hzn_) (by omega)
        · skip
          have hno_ := ha19_0_hp0_N28_
          show zW l m_M_laysParts (zn Mz + 0, zw Mz + 0) N12_ 22 [some (.ref 81), some (.int (Int32.ofInt a0_)), some (.int (Int32.ofInt u10_)), some (.int (Int32.ofInt u11_)), none, none] [.int (Int32.ofInt 0)] _
          refine zr_if_eq (pc := 22) (tgt := 28) ⟨(by decide), (by decide)⟩ (by decide) (zdal_p dlD_M_laysParts_115 (i := 14) rfl) (fun hc_22 => ?_) (fun hc_22 => ?_)
          · skip
            refine zw_iconst (pc := 28) (v := Int32.ofInt 0) (by decide) (zdal_p dlD_M_laysParts_115 (i := 16) rfl) ?_
            refine zw_istore (pc := 29) (i := 4) (L2 := [some (.ref 81), some (.int (Int32.ofInt a0_)), some (.int (Int32.ofInt u10_)), some (.int (Int32.ofInt u11_)), some (.int (Int32.ofInt 0)), none]) (by decide) rfl (zdal_p dlD_M_laysParts_115 (i := 17) rfl) ?_
            refine zw_iconst (pc := 31) (v := Int32.ofInt 0) (by decide) (zdal_p dlD_M_laysParts_115 (i := 18) rfl) ?_
            refine zw_istore (pc := 32) (i := 5) (L2 := [some (.ref 81), some (.int (Int32.ofInt a0_)), some (.int (Int32.ofInt u10_)), some (.int (Int32.ofInt u11_)), some (.int (Int32.ofInt 0)), some (.int (Int32.ofInt 0))]) (by decide) rfl (zdal_p dlD_M_laysParts_115 (i := 19) rfl) ?_
            have lp_34 : ∀ (n : Nat) (u30_ : Int) (hu30_a : -2147483648 ≤ u30_) (hu30_b : u30_ < 2147483648) (u31_ : Int) (hu31_a : -2147483648 ≤ u31_) (hu31_b : u31_ < 2147483648) (i32_ : 0 ≤ u31_) (i33_ : u31_ ≤ gN T) (i34_ : zImg (fun m_ => (a0_).toNat.testBit m_ = true) (fun m_ => gdg (zrc Mz 85 m_ (P_ : Int)) (u11_).toNat) (u31_).toNat u30_), (gN T - u31_).toNat < n → zW l m_M_laysParts (zn Mz + 0, zw Mz + 0) N12_ 34 [some (.ref 81), some (.int (Int32.ofInt a0_)), some (.int (Int32.ofInt u10_)), some (.int (Int32.ofInt u11_)), some (.int (Int32.ofInt u30_)), some (.int (Int32.ofInt u31_))] [] (zpV [63] [112] Mz (fun N => zTkZ (tkz (zrr P_ T (fun i_ => zrc Mz 85 i_ (P_ : Int)) (a0_).toNat)) N ∧ 0 ≤ ze N 81 63 ∧ ze N 81 63 ≤ 6)) := by
              intro n
              induction n with
              | zero =>
                intro u30_ hu30_a hu30_b u31_ hu31_a hu31_b i32_ i33_ i34_ h0
                exact absurd h0 (Nat.not_lt_zero _)
              | succ n ih_34 =>
                intro u30_ hu30_a hu30_b u31_ hu31_a hu31_b i32_ i33_ i34_ hlt_34
                have hpi_ := (show zImg (fun m_ => (a0_).toNat.testBit m_ = true) (fun m_ => gdg (zrc Mz 85 m_ (P_ : Int)) (u11_).toNat) (u31_).toNat u30_ by first | with_reducible assumption | assumption)
                have hpr_ := hpi_.1
                refine zw_iload (pc := 34) (i := 5) (x := Int32.ofInt u31_) rfl (zdal_p dlD_M_laysParts_115 (i := 20) rfl) ?_
                refine zw_aload_n (pc := 36) (n := 0) (x := 81) rfl (zdal_p dlD_M_laysParts_115 (i := 21) rfl) ?_
                refine zr_getI0 hf_N12_ hW (pc := 37) (by decide) f_M_196 rfl (zdal_p dlD_M_laysParts_115 (i := 22) rfl) ?_
                refine zr_icmp_ge (pc := 40) (tgt := 77) ⟨hu31_a, hu31_b⟩ ⟨(ze_r Mz 81 20).1, (ze_r Mz 81 20).2⟩ (by decide) (zdal_p dlD_M_laysParts_115 (i := 23) rfl) (fun hc_40 => ?_) (fun hc_40 => ?_)
                · skip
                  have hR_ := zImg_r (show zImg (fun m_ => (a0_).toNat.testBit m_ = true) (fun m_ => gdg (zrc Mz 85 m_ (P_ : Int)) (u11_).toNat) (gN T) u30_ by rw [show gN T = (u31_).toNat by omega]; exact hpi_)
                  have hpt_ := p7_.1 (u11_).toNat (by (exact zo_2948 hc_14 hu11_a hu11_b i14_ i15_ i16_ p2_))
                  have h64_ : zrch (gN T) (fun i_ => zrc Mz 85 i_ (P_ : Int)) (a0_).toNat (u11_).toNat < 64 := Nat.lt_of_lt_of_le hpt_.1 (Nat.pow_le_pow_right (by decide) (show P_ ≤ 6 by (exact p4_)))
                  have hRg_ : u30_ = ((((zrr P_ T (fun i_ => zrc Mz 85 i_ (P_ : Int)) (a0_).toNat)).getD (u11_).toNat 0 : Nat) : Int) := by rw [zrr_g (by (exact zo_2948 hc_14 hu11_a hu11_b i14_ i15_ i16_ p2_))]; exact hR_
                  refine zw_aload_n (pc := 77) (n := 0) (x := 81) rfl (zdal_p dlD_M_laysParts_116 (i := 19) rfl) ?_
                  refine zr_getF (r := 112) (hf_N12_.w hW) (pc := 78) f_M_109 rfl (zh_112 (hf_N12_.w hW)).1 (zdal_p dlD_M_laysParts_116 (i := 20) rfl) ?_
                  refine zw_aload_n (pc := 81) (n := 0) (x := 81) rfl (zdal_p dlD_M_laysParts_116 (i := 21) rfl) ?_
                  refine zr_getI (hf_N12_.w hW) (pc := 82) f_M_487 rfl (zdal_p dlD_M_laysParts_116 (i := 22) rfl) ?_
                  refine zw_iload (pc := 85) (i := 4) (x := Int32.ofInt u30_) rfl (zdal_p dlD_M_laysParts_116 (i := 23) rfl) ?_
                  refine zr_callS hf_N12_.x (pc := 87) [.int (Int32.ofInt u30_)] [.int (Int32.ofInt (ze N12_ 81 63)), .ref 112] l_M_253 (c_M_ones l N12_ (hf_N12_.w hW) u30_ hu30_a hu30_b (show 0 ≤ u30_ by first | with_reducible assumption | (exact zo_57 hpr_.1) | assumption)) rfl rfl (by decide) (Nat.le_of_ble_eq_true rfl) (zdal_p dlD_M_laysParts_117 (i := 0) rfl) ?_
                  rintro _ N35_ ⟨v36_, rfl, ⟨hv36_a, hv36_b⟩, hsN35_, ⟨hp0_N35_, hp1_N35_, hp2_N35_⟩⟩
                  obtain rfl := hsN35_.eq.symm
                  show zW l m_M_laysParts (zn Mz + 0, zw Mz + 0) N12_ 90 [some (.ref 81), some (.int (Int32.ofInt a0_)), some (.int (Int32.ofInt u10_)), some (.int (Int32.ofInt u11_)), some (.int (Int32.ofInt u30_)), some (.int (Int32.ofInt u31_))] [.int (Int32.ofInt v36_), .int (Int32.ofInt (ze N12_ 81 63)), .ref 112] _
                  have hon_ := (hp0_N35_).trans (zcb_g (x := u30_) (by (exact zo_57 hpr_.1)) (by (exact hu30_b)))
                  refine zr_iast (pc := 90) (zh_112 (hf_N12_.w hW)).2 (by decide) (by decide) (by (exact i14_)) (by omega) (zdal_p dlD_M_laysParts_117 (i := 1) rfl) (fun N37_ hN37_ hsN37_ => ?_)
                  have hf_N37_ : zFr [63] [112] Mz N37_ := hf_N12_.tr hsN37_ (by decide) (by decide)
                  have hb0_N37_ : zFr [63] [112] N1_ N37_ := hs13_.tr hsN37_ (by decide) (by decide)
                  have e16_N37_ : ze N37_ 81 16 = ze N12_ 81 16 := hsN37_.e (by decide)
                  have e20_N37_ : ze N37_ 81 20 = ze N12_ 81 20 := hsN37_.e (by decide)
                  have e63_N37_ : ze N37_ 81 63 = ze N12_ 81 63 := hsN37_.e (by decide)
                  have c38_ : zGB T N37_ := zGB.fr hsN37_ c20_ (by decide) (by decide)
                  have c39_ : zCdR (P_ : Int) mv_ T N37_ := zCdR.fr hsN37_ c21_ (by decide) (by decide)
                  have c40_ : zTab T N37_ := zTab.fr hsN37_ c22_ (by decide) (by decide)
                  have c41_ : zB 85 144 0 5 N37_ := zB.fr hsN37_ c23_ (by decide) (by decide)
                  have c42_ : zJX T N37_ := zJX.fr hsN37_ c24_ (by decide) (by decide)
                  have c43_ : zFirs T N37_ := zFirs.fr hsN37_ c25_ (by decide) (by decide)
                  have c44_ : zSSm T N37_ := zSSm.fr hsN37_ c26_ (by decide) (by decide)
                  have c45_ : zGD N37_ := zGD.fr hsN37_ c27_ (by decide) (by decide)
                  refine zw_aload_n (pc := 91) (n := 0) (x := 81) rfl (zdal_p dlD_M_laysParts_117 (i := 2) rfl) ?_
                  refine zw_dup (pc := 92) rfl (zdal_p dlD_M_laysParts_117 (i := 3) rfl) ?_
                  refine zr_getI (hf_N37_.w hW) (pc := 93) f_M_487 rfl (zdal_p dlD_M_laysParts_117 (i := 4) rfl) ?_
                  refine zw_iconst (pc := 96) (v := Int32.ofInt 1) (by decide) (zdal_p dlD_M_laysParts_117 (i := 5) rfl) ?_
                  refine zr_iadd (pc := 97) (zdal_p dlD_M_laysParts_117 (i := 6) rfl) ?_
                  refine zr_putI (hf_N37_.w hW) (pc := 98) f_M_487 rfl rfl ⟨by (exact zo_1205 e63_N37_ i14_), by omega⟩ rfl rfl (zdal_p dlD_M_laysParts_117 (i := 7) rfl) (fun N46_ hsN46_ hvN46_ => ?_)
                  have hf_N46_ : zFr [63] [112] Mz N46_ := hf_N37_.tr hsN46_ (by decide) (by decide)
                  have hb0_N46_ : zFr [63] [112] N1_ N46_ := hb0_N37_.tr hsN46_ (by decide) (by decide)
                  have e16_N46_ : ze N46_ 81 16 = ze N37_ 81 16 := hsN46_.e (by decide)
                  have e20_N46_ : ze N46_ 81 20 = ze N37_ 81 20 := hsN46_.e (by decide)
                  have r63_N46_ := ze_r N46_ 81 63
                  have c47_ : zGB T N46_ := zGB.fr hsN46_ c38_ (by decide) (by decide)
                  have c48_ : zCdR (P_ : Int) mv_ T N46_ := zCdR.fr hsN46_ c39_ (by decide) (by decide)
                  have c49_ : zTab T N46_ := zTab.fr hsN46_ c40_ (by decide) (by decide)
                  have c50_ : zB 85 144 0 5 N46_ := zB.fr hsN46_ c41_ (by decide) (by decide)
                  have c51_ : zJX T N46_ := zJX.fr hsN46_ c42_ (by decide) (by decide)
                  have c52_ : zFirs T N46_ := zFirs.fr hsN46_ c43_ (by decide) (by decide)
                  have c53_ : zSSm T N46_ := zSSm.fr hsN46_ c44_ (by decide) (by decide)
                  have c54_ : zGD N46_ := zGD.fr hsN46_ c45_ (by decide) (by decide)
                  refine zw_iload_n (pc := 101) (n := 2) (x := Int32.ofInt u10_) rfl (zdal_p dlD_M_laysParts_117 (i := 8) rfl) ?_
                  refine zw_iload (pc := 102) (i := 4) (x := Int32.ofInt u30_) rfl (zdal_p dlD_M_laysParts_117 (i := 9) rfl) ?_
                  refine zr_ior (pc := 104) (zdal_p dlD_M_laysParts_117 (i := 10) rfl) ?_
                  have hr55_ := zor_r u10_ u30_
                  have hzs_ := zTkS_f hrb_ hsk_ (by (exact zo_941 hu11_a i14_ i15_)) (by omega) hno_ hRg_ hon_ (hN37_) (fun j_ => hsN46_.ie (by decide) (by decide) j_) (by omega)
                  have hz7 := z6b (x := u10_) (y := u30_) (by (exact i17_)) (by (exact i18_)) (by (exact zo_57 hpr_.1)) (by omega)
                  refine zw_istore_n (pc := 105) (i := 2) (L2 := [some (.ref 81), some (.int (Int32.ofInt a0_)), some (.int (Int32.ofInt (zor u10_ u30_))), some (.int (Int32.ofInt u11_)), some (.int (Int32.ofInt u30_)), some (.int (Int32.ofInt u31_))]) rfl (by decide) rfl (zdal_p dlD_M_laysParts_117 (i := 11) rfl) ?_
                  refine zr_iinc (pc := 106) (i := 3) (a := u11_) (n := 1) (L2 := [some (.ref 81), some (.int (Int32.ofInt a0_)), some (.int (Int32.ofInt (zor u10_ u30_))), some (.int (Int32.ofInt (u11_ + 1))), some (.int (Int32.ofInt u30_)), some (.int (Int32.ofInt u31_))]) rfl (by decide) rfl (zdal_p dlD_M_laysParts_117 (i := 12) rfl) ?_
                  refine zw_goto (pc := 109) (tgt := 9) (by decide) (zdal_p dlD_M_laysParts_117 (i := 13) rfl) ?_
                  have hzn_ : zTkS (zrr P_ T (fun i_ => zrc Mz 85 i_ (P_ : Int)) (a0_).toNat) ((u11_ + 1)).toNat (zor u10_ u30_) N46_ := by first | exact hzs_ | exact zTkS_t hsk_ (by omega) hin_ (fun j_ => rfl) rfl rfl
                  refine zW_le [some (.ref 81), some (.int (Int32.ofInt a0_)), some (.int (Int32.ofInt (zor u10_ u30_))), some (.int (Int32.ofInt (u11_ + 1))), none, none] (⟨rfl, rfl, rfl, rfl, trivial⟩) ?_
                  exact ih_9 (zor u10_ u30_) (by (exact zo_168 hz7.1)) (by (exact zo_2491 hz7.2)) (u11_ + 1) (by (exact zo_679 hu11_a)) (by (exact zo_2373 hu11_b i16_ p4_)) N46_ hb0_N46_ (show 0 ≤ ze N46_ 81 63 by first | with_reducible assumption | (exact zo_2492 e63_N37_ hvN46_ i14_ r63_N46_.1) | assumption) (show ze N46_ 81 63 ≤ (u11_ + 1) by first | with_reducible assumption | assumption | omega) (show (u11_ + 1) ≤ (P_ : Int) by first | with_reducible assumption | (exact zo_2374 hc_14 hu11_b i16_ p2_) | assumption) (show 0 ≤ (zor u10_ u30_) by first | with_reducible assumption | (exact zo_57 hz7.1) | assumption) (show (zor u10_ u30_) < 64 by first | with_reducible assumption | (exact zo_2494 hz7.2) | assumption) (show zTkS (zrr P_ T (fun i_ => zrc Mz 85 i_ (P_ : Int)) (a0_).toNat) ((u11_ + 1)).toNat (zor u10_ u30_) N46_ by exact hzn_) (by omega)
                · skip
                  refine zw_iload_n (pc := 43) (n := 1) (x := Int32.ofInt a0_) rfl (zdal_p dlD_M_laysParts_116 (i := 0) rfl) ?_
                  refine zw_iload (pc := 44) (i := 5) (x := Int32.ofInt u31_) rfl (zdal_p dlD_M_laysParts_116 (i := 1) rfl) ?_
                  refine zr_callS hf_N12_.x (pc := 46) [.int (Int32.ofInt a0_), .int (Int32.ofInt u31_)] [] l_M_213 (c_M_holds l N12_ (hf_N12_.w hW) a0_ ha0_a ha0_b u31_ hu31_a hu31_b (show 0 ≤ a0_ by first | with_reducible assumption | assumption | omega) (show 0 ≤ u31_ by first | with_reducible assumption | assumption | omega) (show u31_ < 32 by first | with_reducible assumption | assumption | omega)) rfl rfl (by decide) (Nat.le_of_ble_eq_true rfl) (zdal_p dlD_M_laysParts_116 (i := 2) rfl) ?_
                  rintro _ N56_ ⟨v57_, rfl, ⟨hv57_a, hv57_b⟩, hsN56_, hp0_N56_⟩
                  obtain rfl := hsN56_.eq.symm
                  replace hp0_N56_ : ((v57_ = 1 ∧ zbt a0_ u31_) ∨ (v57_ = 0 ∧ ¬ zbt a0_ u31_)) := hp0_N56_
                  rcases hp0_N56_ with ⟨rfl, ha46_0_hp0_N56_⟩ | ⟨rfl, ha46_0_hp0_N56_⟩
                  · skip
                    have hb_ := ha46_0_hp0_N56_
                    show zW l m_M_laysParts (zn Mz + 0, zw Mz + 0) N12_ 49 [some (.ref 81), some (.int (Int32.ofInt a0_)), some (.int (Int32.ofInt u10_)), some (.int (Int32.ofInt u11_)), some (.int (Int32.ofInt u30_)), some (.int (Int32.ofInt u31_))] [.int (Int32.ofInt 1)] _
                    refine zr_if_eq (pc := 49) (tgt := 71) ⟨(by decide), (by decide)⟩ (by decide) (zdal_p dlD_M_laysParts_116 (i := 3) rfl) (fun hc_49 => ?_) (fun hc_49 => ?_)
                    · skip
                      exact absurd hc_49 (by decide)
                    · skip
                      refine zw_iload (pc := 52) (i := 4) (x := Int32.ofInt u30_) rfl (zdal_p dlD_M_laysParts_116 (i := 4) rfl) ?_
                      refine zw_iconst (pc := 54) (v := Int32.ofInt 1) (by decide) (zdal_p dlD_M_laysParts_116 (i := 5) rfl) ?_
                      refine zw_aload_n (pc := 55) (n := 0) (x := 81) rfl (zdal_p dlD_M_laysParts_116 (i := 6) rfl) ?_
                      refine zr_getF (r := 85) (hf_N12_.w hW) (pc := 56) f_M_26 rfl (zh_85 (hf_N12_.w hW)).1 (zdal_p dlD_M_laysParts_116 (i := 7) rfl) ?_
                      refine zw_bipush (pc := 59) (v := Int32.ofInt 6) (by decide) (zdal_p dlD_M_laysParts_116 (i := 8) rfl) ?_
                      refine zw_iload (pc := 61) (i := 5) (x := Int32.ofInt u31_) rfl (zdal_p dlD_M_laysParts_116 (i := 9) rfl) ?_
                      refine zr_imul (pc := 63) (zdal_p dlD_M_laysParts_116 (i := 10) rfl) ?_
                      refine zw_iload_n (pc := 64) (n := 3) (x := Int32.ofInt u11_) rfl (zdal_p dlD_M_laysParts_116 (i := 11) rfl) ?_
                      refine zr_iadd (pc := 65) (zdal_p dlD_M_laysParts_116 (i := 12) rfl) ?_
                      refine zr_ialdn (pc := 66) (zh_85 (hf_N12_.w hW)).2 (by decide) (by omega) (by omega) (zdal_p dlD_M_laysParts_116 (i := 13) rfl) (fun v58_ hv58_ hv58_a hv58_b => ?_)
                      have hr59_ := c23_.g (e := (6 * u31_) + u11_) (by omega) (by omega)
                      rw [← hv58_] at hr59_
                      rw [hf_N12_.ie (by decide) (by decide)] at hv58_
                      have hv_ := hv58_
                      have hd_ := zCdR.dg (P := P_) p0_.2.1 (i := (u31_).toNat) (p := (u11_).toNat) (by omega) (by (exact zo_2948 hc_14 hu11_a hu11_b i14_ i15_ i16_ p2_)) (by (exact p4_))
                      rw [show 6 * (u31_).toNat + (u11_).toNat = (6 * u31_ + u11_).toNat by omega, ← hv_] at hd_
                      have hd8_ := gdg_lt (zrc Mz 85 (u31_).toNat (P_ : Int)) (u11_).toNat
                      refine zr_ishl (pc := 67) (zdal_p dlD_M_laysParts_116 (i := 14) rfl) ?_
                      have hr60_ := zshl_r 1 v58_
                      refine zr_ior (pc := 68) (zdal_p dlD_M_laysParts_116 (i := 15) rfl) ?_
                      have hr61_ := zor_r u30_ (zshl 1 v58_)
                      have hpn_ := zImg_1 (q := (fun m_ => (a0_).toNat.testBit m_ = true)) (g := (fun m_ => gdg (zrc Mz 85 m_ (P_ : Int)) (u11_).toNat)) (by (exact i32_)) hpi_ hb_ hd_ (show gdg _ _ < 24 by omega)
                      refine zw_istore (pc := 69) (i := 4) (L2 := [some (.ref 81), some (.int (Int32.ofInt a0_)), some (.int (Int32.ofInt u10_)), some (.int (Int32.ofInt u11_)), some (.int (Int32.ofInt (zor u30_ (zshl 1 v58_)))), some (.int (Int32.ofInt u31_))]) (by decide) rfl (zdal_p dlD_M_laysParts_116 (i := 16) rfl) ?_
                      refine zr_iinc (pc := 71) (i := 5) (a := u31_) (n := 1) (L2 := [some (.ref 81), some (.int (Int32.ofInt a0_)), some (.int (Int32.ofInt u10_)), some (.int (Int32.ofInt u11_)), some (.int (Int32.ofInt (zor u30_ (zshl 1 v58_)))), some (.int (Int32.ofInt (u31_ + 1)))]) rfl (by decide) rfl (zdal_p dlD_M_laysParts_116 (i := 17) rfl) ?_
                      refine zw_goto (pc := 74) (tgt := 34) (by decide) (zdal_p dlD_M_laysParts_116 (i := 18) rfl) ?_
                      exact ih_34 (zor u30_ (zshl 1 v58_)) (by (exact zo_284 hr61_.1)) (by (exact zo_285 hr61_.2)) (u31_ + 1) (by (exact zo_74 i32_)) (by (exact zo_2412 g24 hu31_b i33_)) (show 0 ≤ (u31_ + 1) by first | with_reducible assumption | (exact zo_76 i32_) | assumption) (show (u31_ + 1) ≤ gN T by first | with_reducible assumption | (exact zo_77 gn hc_40 hu31_b i33_) | assumption) (show zImg (fun m_ => (a0_).toNat.testBit m_ = true) (fun m_ => gdg (zrc Mz 85 m_ (P_ : Int)) (u11_).toNat) ((u31_ + 1)).toNat (zor u30_ (zshl 1 v58_)) by exact hpn_) (by (exact zo_78 gn hc_40 hlt_34 hu31_b i33_))
                  · skip
                    have hpn_ := zImg_n (q := (fun m_ => (a0_).toNat.testBit m_ = true)) (g := (fun m_ => gdg (zrc Mz 85 m_ (P_ : Int)) (u11_).toNat)) (by (exact i32_)) hpi_ ha46_0_hp0_N56_
                    show zW l m_M_laysParts (zn Mz + 0, zw Mz + 0) N12_ 49 [some (.ref 81), some (.int (Int32.ofInt a0_)), some (.int (Int32.ofInt u10_)), some (.int (Int32.ofInt u11_)), some (.int (Int32.ofInt u30_)), some (.int (Int32.ofInt u31_))] [.int (Int32.ofInt 0)] _
                    refine zr_if_eq (pc := 49) (tgt := 71) ⟨(by decide), (by decide)⟩ (by decide) (zdal_p dlD_M_laysParts_116 (i := 3) rfl) (fun hc_49 => ?_) (fun hc_49 => ?_)
                    · skip
                      refine zr_iinc (pc := 71) (i := 5) (a := u31_) (n := 1) (L2 := [some (.ref 81), some (.int (Int32.ofInt a0_)), some (.int (Int32.ofInt u10_)), some (.int (Int32.ofInt u11_)), some (.int (Int32.ofInt u30_)), some (.int (Int32.ofInt (u31_ + 1)))]) rfl (by decide) rfl (zdal_p dlD_M_laysParts_116 (i := 17) rfl) ?_
                      refine zw_goto (pc := 74) (tgt := 34) (by decide) (zdal_p dlD_M_laysParts_116 (i := 18) rfl) ?_
                      exact ih_34 u30_ hu30_a hu30_b (u31_ + 1) (by (exact zo_74 i32_)) (by (exact zo_2412 g24 hu31_b i33_)) (show 0 ≤ (u31_ + 1) by first | with_reducible assumption | (exact zo_76 i32_) | assumption) (show (u31_ + 1) ≤ gN T by first | with_reducible assumption | (exact zo_77 gn hc_40 hu31_b i33_) | assumption) (show zImg (fun m_ => (a0_).toNat.testBit m_ = true) (fun m_ => gdg (zrc Mz 85 m_ (P_ : Int)) (u11_).toNat) ((u31_ + 1)).toNat u30_ by exact hpn_) (by (exact zo_78 gn hc_40 hlt_34 hu31_b i33_))
                    · skip
                      exact absurd hc_49 (by decide)
            exact lp_34 _ 0 (by decide) (by decide) 0 (by decide) (by decide) (show 0 ≤ (0 : Int) by first | with_reducible assumption | (decide) | assumption) (show (0 : Int) ≤ gN T by first | with_reducible assumption | (exact zo_85) | assumption) (show zImg (fun m_ => (a0_).toNat.testBit m_ = true) (fun m_ => gdg (zrc Mz 85 m_ (P_ : Int)) (u11_).toNat) ((0 : Int)).toNat (0 : Int) by exact zImg_0) (Nat.lt_succ_self _)
          · skip
            exact absurd hc_22 (by decide)
  exact lp_9 _ 0 (by decide) (by decide) 0 (by decide) (by decide) N1_ zFr.rf (show 0 ≤ ze N1_ 81 63 by first | with_reducible assumption | (exact zo_718 hvN1_) | assumption) (show ze N1_ 81 63 ≤ (0 : Int) by first | with_reducible assumption | (exact zo_2497 hvN1_) | assumption) (show (0 : Int) ≤ (P_ : Int) by first | with_reducible assumption | (exact zo_85) | assumption) (show 0 ≤ (0 : Int) by first | with_reducible assumption | (decide) | assumption) (show (0 : Int) < 64 by first | with_reducible assumption | (decide) | assumption) (show zTkS (zrr P_ T (fun i_ => zrc Mz 85 i_ (P_ : Int)) (a0_).toNat) ((0 : Int)).toNat (0 : Int) N1_ by exact zTkS_0 (by (exact hvN1_))) (Nat.lt_succ_self _)
set_option maxHeartbeats 4000000 in
theorem c_M_setsOfS (l : Launch) (Mz : zMem) (hW : zMt Mz) (a0_ : Int) (ha0_a : -2147483648 ≤ a0_) (ha0_b : a0_ < 2147483648) (z_ : List Nat) (p0_ : zTkZ z_ Mz) (p1_ : 0 ≤ a0_) (p2_ : a0_ ≤ 6) : zC l m_M_setsOf 0 0 [.ref 81, .int (Int32.ofInt a0_)] Mz (zpI [] [113] Mz (fun v N => v = ((tkn z_ z_.length (a0_).toNat : Nat) : Int))) := by
  refine zC_of (L0 := [some (.ref 81), some (.int (Int32.ofInt a0_)), none, none]) md_M_setsOf (Nat.le_of_ble_eq_true rfl) rfl ?_ zQ0
  have hf : zFr [] [113] Mz Mz := zFr.rf
  have r_63 := ze_r Mz 81 63
  obtain ⟨⟨hz1_, hz2_⟩, hz3_⟩ := id p0_
  refine zw_iconst (pc := 0) (v := Int32.ofInt 0) (by decide) (zdal_p dlD_M_setsOf_121 (i := 0) rfl) ?_
  refine zw_istore_n (pc := 1) (i := 2) (L2 := [some (.ref 81), some (.int (Int32.ofInt a0_)), some (.int (Int32.ofInt 0)), none]) rfl (by decide) rfl (zdal_p dlD_M_setsOf_121 (i := 1) rfl) ?_
  have lp_2 : ∀ (n : Nat) (u1_ : Int) (hu1_a : -2147483648 ≤ u1_) (hu1_b : u1_ < 2147483648) (N2_ : zMem) (hs3_ : zFr [] [113] Mz N2_) (i4_ : 0 ≤ u1_) (i5_ : u1_ ≤ 7) (i6_ : (∀ k : Nat, (k : Int) < u1_ → ze N2_ 113 k = ((tkn z_ 0 k : Nat) : Int))), (7 - u1_).toNat < n → zW l m_M_setsOf (zn Mz + 0, zw Mz + 0) N2_ 2 [some (.ref 81), some (.int (Int32.ofInt a0_)), some (.int (Int32.ofInt u1_)), none] [] (zpI [] [113] Mz (fun v N => v = ((tkn z_ z_.length (a0_).toNat : Nat) : Int))) := by
    intro n
    induction n with
    | zero =>
      intro u1_ hu1_a hu1_b N2_ hs3_ i4_ i5_ i6_ h0
      exact absurd h0 (Nat.not_lt_zero _)
    | succ n ih_2 =>
      intro u1_ hu1_a hu1_b N2_ hs3_ i4_ i5_ i6_ hlt_2
      have hf_N2_ : zFr [] [113] Mz N2_ := hf.tr hs3_ (by decide) (by decide)
      have e63_N2_ : ze N2_ 81 63 = ze Mz 81 63 := hs3_.e (by decide)
      have c7_ : zTkZ z_ N2_ := zTkZ.fr hs3_ p0_ (by decide) (by decide)
      have hni_ := (show (∀ k : Nat, (k : Int) < u1_ → ze N2_ 113 k = ((tkn z_ 0 k : Nat) : Int)) by first | with_reducible assumption | assumption)
      refine zw_iload_n (pc := 2) (n := 2) (x := Int32.ofInt u1_) rfl (zdal_p dlD_M_setsOf_121 (i := 2) rfl) ?_
      refine zw_bipush (pc := 3) (v := Int32.ofInt 7) (by decide) (zdal_p dlD_M_setsOf_121 (i := 3) rfl) ?_
      refine zr_icmp_ge (pc := 5) (tgt := 32) ⟨hu1_a, hu1_b⟩ ⟨(by decide), (by decide)⟩ (by decide) (zdal_p dlD_M_setsOf_121 (i := 4) rfl) (fun hc_5 => ?_) (fun hc_5 => ?_)
      · skip
        have hn0_ : zTkN z_ 0 N2_ := ⟨trivial, fun k_ hk_ => hni_ k_ (by omega)⟩
        refine zw_iconst (pc := 32) (v := Int32.ofInt 0) (by decide) (zdal_p dlD_M_setsOf_121 (i := 17) rfl) ?_
        refine zw_istore_n (pc := 33) (i := 2) (L2 := [some (.ref 81), some (.int (Int32.ofInt a0_)), some (.int (Int32.ofInt 0)), none]) rfl (by decide) rfl (zdal_p dlD_M_setsOf_121 (i := 18) rfl) ?_
        have lp_34 : ∀ (n : Nat) (u8_ : Int) (hu8_a : -2147483648 ≤ u8_) (hu8_b : u8_ < 2147483648) (N9_ : zMem) (hs10_ : zFr [] [113] N2_ N9_) (i11_ : 0 ≤ u8_) (i12_ : u8_ ≤ ((z_.length : Nat) : Int)) (i13_ : zTkN z_ (u8_).toNat N9_), (((z_.length : Nat) : Int) - u8_).toNat < n → zW l m_M_setsOf (zn Mz + 0, zw Mz + 0) N9_ 34 [some (.ref 81), some (.int (Int32.ofInt a0_)), some (.int (Int32.ofInt u8_)), none] [] (zpI [] [113] Mz (fun v N => v = ((tkn z_ z_.length (a0_).toNat : Nat) : Int))) := by
          intro n
          induction n with
          | zero =>
            intro u8_ hu8_a hu8_b N9_ hs10_ i11_ i12_ i13_ h0
            exact absurd h0 (Nat.not_lt_zero _)
          | succ n ih_34 =>
            intro u8_ hu8_a hu8_b N9_ hs10_ i11_ i12_ i13_ hlt_34
            have hf_N9_ : zFr [] [113] Mz N9_ := hf_N2_.tr hs10_ (by decide) (by decide)
            have e63_N9_ : ze N9_ 81 63 = ze N2_ 81 63 := hs10_.e (by decide)
            have c14_ : zTkZ z_ N9_ := zTkZ.fr hs10_ c7_ (by decide) (by decide)
            have hnn_ := (show zTkN z_ (u8_).toNat N9_ by first | with_reducible assumption | assumption)
            have hzc_ := c14_
            refine zw_iload_n (pc := 34) (n := 2) (x := Int32.ofInt u8_) rfl (zdal_p dlD_M_setsOf_121 (i := 19) rfl) ?_
            refine zw_aload_n (pc := 35) (n := 0) (x := 81) rfl (zdal_p dlD_M_setsOf_121 (i := 20) rfl) ?_
            refine zr_getI0 hf_N9_ hW (pc := 36) (by decide) f_M_487 rfl (zdal_p dlD_M_setsOf_121 (i := 21) rfl) ?_
            refine zr_icmp_ge (pc := 39) (tgt := 89) ⟨hu8_a, hu8_b⟩ ⟨(ze_r Mz 81 63).1, (ze_r Mz 81 63).2⟩ (by decide) (zdal_p dlD_M_setsOf_121 (i := 22) rfl) (fun hc_39 => ?_) (fun hc_39 => ?_)
            · skip
              refine zw_aload_n (pc := 89) (n := 0) (x := 81) rfl (zdal_p dlD_M_setsOf_123 (i := 3) rfl) ?_
              refine zr_getF (r := 113) (hf_N9_.w hW) (pc := 90) f_M_112 rfl (zh_113 (hf_N9_.w hW)).1 (zdal_p dlD_M_setsOf_123 (i := 4) rfl) ?_
              refine zw_iload_n (pc := 93) (n := 1) (x := Int32.ofInt a0_) rfl (zdal_p dlD_M_setsOf_123 (i := 5) rfl) ?_
              refine zr_ialdn (pc := 94) (zh_113 (hf_N9_.w hW)).2 (by decide) (by (exact p1_)) (by (exact zo_2498 p2_)) (zdal_p dlD_M_setsOf_123 (i := 6) rfl) (fun v15_ hv15_ hv15_a hv15_b => ?_)
              have hrv_ := hv15_
              exact zr_iret (pc := 95) (ty := .int) rfl rfl ⟨by (exact hv15_a), by (exact hv15_b)⟩ hf_N9_ (show v15_ = ((tkn z_ z_.length (a0_).toNat : Nat) : Int) by rw [hrv_, hnn_.2 _ (by (exact zo_2870 p1_ p2_)), show (u8_).toNat = z_.length by (exact zo_2961 hc_39 hu8_b hz1_ hz2_ i11_ i12_)]) (zdal_p dlD_M_setsOf_123 (i := 7) rfl)
            · skip
              refine zw_bipush (pc := 42) (v := Int32.ofInt 6) (by decide) (zdal_p dlD_M_setsOf_121 (i := 23) rfl) ?_
              refine zw_istore_n (pc := 44) (i := 3) (L2 := [some (.ref 81), some (.int (Int32.ofInt a0_)), some (.int (Int32.ofInt u8_)), some (.int (Int32.ofInt 6))]) rfl (by decide) rfl (zdal_p dlD_M_setsOf_122 (i := 0) rfl) ?_
              have lp_45 : ∀ (n : Nat) (u16_ : Int) (hu16_a : -2147483648 ≤ u16_) (hu16_b : u16_ < 2147483648) (N17_ : zMem) (hs18_ : zFr [] [113] N9_ N17_) (i19_ : u16_ ≤ 6) (i20_ : -1 ≤ u16_) (i21_ : zTkI z_ (u8_).toNat u16_ N17_), (u16_ + 1).toNat < n → zW l m_M_setsOf (zn Mz + 0, zw Mz + 0) N17_ 45 [some (.ref 81), some (.int (Int32.ofInt a0_)), some (.int (Int32.ofInt u8_)), some (.int (Int32.ofInt u16_))] [] (zpI [] [113] Mz (fun v N => v = ((tkn z_ z_.length (a0_).toNat : Nat) : Int))) := by
                intro n
                induction n with
                | zero =>
                  intro u16_ hu16_a hu16_b N17_ hs18_ i19_ i20_ i21_ h0
                  exact absurd h0 (Nat.not_lt_zero _)
                | succ n ih_45 =>
                  intro u16_ hu16_a hu16_b N17_ hs18_ i19_ i20_ i21_ hlt_45
                  have hf_N17_ : zFr [] [113] Mz N17_ := hf_N9_.tr hs18_ (by decide) (by decide)
                  have hb0_N17_ : zFr [] [113] N2_ N17_ := hs10_.tr hs18_ (by decide) (by decide)
                  have e63_N17_ : ze N17_ 81 63 = ze N9_ 81 63 := hs18_.e (by decide)
                  have c22_ : zTkZ z_ N17_ := zTkZ.fr hs18_ c14_ (by decide) (by decide)
                  have hnx_ := (show zTkI z_ (u8_).toNat u16_ N17_ by first | with_reducible assumption | assumption)
                  have hzd_ := p0_.2 (u8_).toNat (by (exact zo_2962 hc_39 hu8_b hz1_ i11_ i12_))
                  refine zw_iload_n (pc := 45) (n := 3) (x := Int32.ofInt u16_) rfl (zdal_p dlD_M_setsOf_122 (i := 1) rfl) ?_
                  refine zw_aload_n (pc := 46) (n := 0) (x := 81) rfl (zdal_p dlD_M_setsOf_122 (i := 2) rfl) ?_
                  refine zr_getF (r := 112) (hf_N17_.w hW) (pc := 47) f_M_109 rfl (zh_112 (hf_N17_.w hW)).1 (zdal_p dlD_M_setsOf_122 (i := 3) rfl) ?_
                  refine zw_iload_n (pc := 50) (n := 2) (x := Int32.ofInt u8_) rfl (zdal_p dlD_M_setsOf_122 (i := 4) rfl) ?_
                  refine zr_ialdn (pc := 51) (zh_112 (hf_N17_.w hW)).2 (by decide) (by (exact i11_)) (by (exact zo_2963 hc_39 hu8_b hz1_ hz2_ i12_)) (zdal_p dlD_M_setsOf_122 (i := 5) rfl) (fun v23_ hv23_ hv23_a hv23_b => ?_)
                  rw [hf_N17_.ie (by decide) (by decide)] at hv23_
                  have hsz_ := (hv23_).trans hzd_.1
                  refine zr_icmp_lt (pc := 52) (tgt := 83) ⟨hu16_a, hu16_b⟩ ⟨hv23_a, hv23_b⟩ (by decide) (zdal_p dlD_M_setsOf_122 (i := 6) rfl) (fun hc_52 => ?_) (fun hc_52 => ?_)
                  · skip
                    have hne_ := zTkI_e hnx_ (by omega)
                    refine zr_iinc (pc := 83) (i := 2) (a := u8_) (n := 1) (L2 := [some (.ref 81), some (.int (Int32.ofInt a0_)), some (.int (Int32.ofInt (u8_ + 1))), some (.int (Int32.ofInt u16_))]) rfl (by decide) rfl (zdal_p dlD_M_setsOf_123 (i := 1) rfl) ?_
                    refine zw_goto (pc := 86) (tgt := 34) (by decide) (zdal_p dlD_M_setsOf_123 (i := 2) rfl) ?_
                    refine zW_le [some (.ref 81), some (.int (Int32.ofInt a0_)), some (.int (Int32.ofInt (u8_ + 1))), none] (⟨rfl, rfl, rfl, trivial⟩) ?_
                    exact ih_34 (u8_ + 1) (by (exact zo_74 i11_)) (by (exact zo_2965 hu8_b hz2_ i12_)) N17_ hb0_N17_ (show 0 ≤ (u8_ + 1) by first | with_reducible assumption | (exact zo_76 i11_) | assumption) (show (u8_ + 1) ≤ ((z_.length : Nat) : Int) by first | with_reducible assumption | (exact zo_2925 hc_39 hu8_b hz1_ i12_) | assumption) (show zTkN z_ ((u8_ + 1)).toNat N17_ by exact zTkN_n hne_ (by omega)) (by (exact zo_2926 hc_39 hlt_34 hu8_b hz1_ i12_))
                  · skip
                    refine zw_aload_n (pc := 55) (n := 0) (x := 81) rfl (zdal_p dlD_M_setsOf_122 (i := 7) rfl) ?_
                    refine zr_getF (r := 113) (hf_N17_.w hW) (pc := 56) f_M_112 rfl (zh_113 (hf_N17_.w hW)).1 (zdal_p dlD_M_setsOf_122 (i := 8) rfl) ?_
                    refine zw_iload_n (pc := 59) (n := 3) (x := Int32.ofInt u16_) rfl (zdal_p dlD_M_setsOf_122 (i := 9) rfl) ?_
                    refine zw_dup2 (pc := 60) rfl rfl (zdal_p dlD_M_setsOf_122 (i := 10) rfl) ?_
                    refine zr_ialdn (pc := 61) (zh_113 (hf_N17_.w hW)).2 (by decide) (by (exact zo_2967 hc_52 hsz_ i20_)) (by (exact zo_2498 i19_)) (zdal_p dlD_M_setsOf_122 (i := 11) rfl) (fun v24_ hv24_ hv24_a hv24_b => ?_)
                    have hv_ := hv24_
                    refine zw_aload_n (pc := 62) (n := 0) (x := 81) rfl (zdal_p dlD_M_setsOf_122 (i := 12) rfl) ?_
                    refine zr_getF (r := 113) (hf_N17_.w hW) (pc := 63) f_M_112 rfl (zh_113 (hf_N17_.w hW)).1 (zdal_p dlD_M_setsOf_122 (i := 13) rfl) ?_
                    refine zw_iload_n (pc := 66) (n := 3) (x := Int32.ofInt u16_) rfl (zdal_p dlD_M_setsOf_122 (i := 14) rfl) ?_
                    refine zw_aload_n (pc := 67) (n := 0) (x := 81) rfl (zdal_p dlD_M_setsOf_122 (i := 15) rfl) ?_
                    refine zr_getF (r := 112) (hf_N17_.w hW) (pc := 68) f_M_109 rfl (zh_112 (hf_N17_.w hW)).1 (zdal_p dlD_M_setsOf_122 (i := 16) rfl) ?_
                    refine zw_iload_n (pc := 71) (n := 2) (x := Int32.ofInt u8_) rfl (zdal_p dlD_M_setsOf_122 (i := 17) rfl) ?_
                    refine zr_ialdn (pc := 72) (zh_112 (hf_N17_.w hW)).2 (by decide) (by (exact i11_)) (by (exact zo_2963 hc_39 hu8_b hz1_ hz2_ i12_)) (zdal_p dlD_M_setsOf_122 (i := 18) rfl) (fun v25_ hv25_ hv25_a hv25_b => ?_)
                    rw [hf_N17_.ie (by decide) (by decide)] at hv25_
                    have hs2_ := (hv25_).trans hzd_.1
                    refine zr_isub (pc := 73) (zdal_p dlD_M_setsOf_122 (i := 19) rfl) ?_
                    refine zr_ialdn (pc := 74) (zh_113 (hf_N17_.w hW)).2 (by decide) (by (exact zo_2500 hc_52 hv23_ hv25_ hv25_b i20_)) (by omega) (zdal_p dlD_M_setsOf_122 (i := 20) rfl) (fun v26_ hv26_ hv26_a hv26_b => ?_)
                    have hw_ := hv26_
                    refine zr_iadd (pc := 75) (zdal_p dlD_M_setsOf_122 (i := 21) rfl) ?_
                    refine zk_nmI (fun v27_ hv27_ hv27_e => ?_)
                    obtain ⟨hv27_a, hv27_b⟩ := hv27_
                    have b1_ := (hnx_ (u16_).toNat (by omega)).1 (by omega)
                    have b2_ := (hnx_ (u16_ - ((z_.getD (u8_).toNat 0 : Nat) : Int)).toNat (by omega)).1 (by omega)
                    have b3_ := tkn_6 z_ (q := (u8_).toNat) (k := (u16_).toNat) (by omega)
                    have b4_ := tkn_6 z_ (q := (u8_).toNat) (k := (u16_ - ((z_.getD (u8_).toNat 0 : Nat) : Int)).toNat) (by omega)
                    rw [hs2_] at hw_
                    have hy_ := hv27_e ⟨by omega, by omega⟩
                    refine zr_iast (pc := 76) (zh_113 (hf_N17_.w hW)).2 (by decide) (by decide) (by (exact zo_2967 hc_52 hsz_ i20_)) (by (exact zo_2498 i19_)) (zdal_p dlD_M_setsOf_122 (i := 22) rfl) (fun N28_ hN28_ hsN28_ => ?_)
                    have hf_N28_ : zFr [] [113] Mz N28_ := hf_N17_.tr hsN28_ (by decide) (by decide)
                    have hb0_N28_ : zFr [] [113] N2_ N28_ := hb0_N17_.tr hsN28_ (by decide) (by decide)
                    have hb1_N28_ : zFr [] [113] N9_ N28_ := hs18_.tr hsN28_ (by decide) (by decide)
                    have e63_N28_ : ze N28_ 81 63 = ze N17_ 81 63 := hsN28_.e (by decide)
                    have c29_ : zTkZ z_ N28_ := zTkZ.fr hsN28_ c22_ (by decide) (by decide)
                    have hnz_ := zTkI_s hnx_ (by (exact zo_2967 hc_52 hsz_ i20_)) (by (exact i19_)) (by omega) hzd_.2 (by omega) hv_ hw_ hy_ hN28_
                    refine zr_iinc (pc := 77) (i := 3) (a := u16_) (n := -1) (L2 := [some (.ref 81), some (.int (Int32.ofInt a0_)), some (.int (Int32.ofInt u8_)), some (.int (Int32.ofInt (u16_ + (-1))))]) rfl (by decide) rfl (zdal_p dlD_M_setsOf_122 (i := 23) rfl) ?_
                    refine zw_goto (pc := 80) (tgt := 45) (by decide) (zdal_p dlD_M_setsOf_123 (i := 0) rfl) ?_
                    exact ih_45 (u16_ + (-1)) (by (exact zo_2502 i20_)) (by (exact zo_2503 i19_)) N28_ hb1_N28_ (show (u16_ + (-1)) ≤ 6 by first | with_reducible assumption | (exact zo_2504 i19_) | assumption) (show -1 ≤ (u16_ + (-1)) by first | with_reducible assumption | assumption | omega) (show zTkI z_ (u8_).toNat (u16_ + (-1)) N28_ by exact hnz_) (by omega)
              exact lp_45 _ 6 (by decide) (by decide) N9_ zFr.rf (show (6 : Int) ≤ 6 by first | with_reducible assumption | (decide) | assumption) (show -1 ≤ (6 : Int) by first | with_reducible assumption | (decide) | assumption) (show zTkI z_ (u8_).toNat (6 : Int) N9_ by exact zTkI_0 hnn_) (Nat.lt_succ_self _)
        exact lp_34 _ 0 (by decide) (by decide) N2_ zFr.rf (show 0 ≤ (0 : Int) by first | with_reducible assumption | (decide) | assumption) (show (0 : Int) ≤ ((z_.length : Nat) : Int) by first | with_reducible assumption | (exact zo_85) | assumption) (show zTkN z_ ((0 : Int)).toNat N2_ by exact hn0_) (Nat.lt_succ_self _)
      · skip
        refine zw_aload_n (pc := 8) (n := 0) (x := 81) rfl (zdal_p dlD_M_setsOf_121 (i := 5) rfl) ?_
        refine zr_getF (r := 113) (hf_N2_.w hW) (pc := 9) f_M_112 rfl (zh_113 (hf_N2_.w hW)).1 (zdal_p dlD_M_setsOf_121 (i := 6) rfl) ?_
        refine zw_iload_n (pc := 12) (n := 2) (x := Int32.ofInt u1_) rfl (zdal_p dlD_M_setsOf_121 (i := 7) rfl) ?_
        refine zw_iload_n (pc := 13) (n := 2) (x := Int32.ofInt u1_) rfl (zdal_p dlD_M_setsOf_121 (i := 8) rfl) ?_
        refine zr_if_ne (pc := 14) (tgt := 21) ⟨hu1_a, hu1_b⟩ (by decide) (zdal_p dlD_M_setsOf_121 (i := 9) rfl) (fun hc_14 => ?_) (fun hc_14 => ?_)
        · skip
          refine zw_iconst (pc := 21) (v := Int32.ofInt 0) (by decide) (zdal_p dlD_M_setsOf_121 (i := 12) rfl) ?_
          refine zr_callS hf_N2_.x (pc := 22) [.int (Int32.ofInt 0)] [.int (Int32.ofInt u1_), .ref 113] l_M_256 (c_M_truth l N2_ (hf_N2_.w hW) 0 (by decide) (by decide) (by (decide))) rfl rfl (by decide) (Nat.le_of_ble_eq_true rfl) (zdal_p dlD_M_setsOf_121 (i := 13) rfl) ?_
          rintro _ N30_ ⟨v31_, rfl, ⟨hv31_a, hv31_b⟩, hsN30_, hp0_N30_⟩
          obtain rfl := hsN30_.eq.symm
          replace hp0_N30_ : v31_ = 0 := hp0_N30_
          show zW l m_M_setsOf (zn Mz + 0, zw Mz + 0) N2_ 25 [some (.ref 81), some (.int (Int32.ofInt a0_)), some (.int (Int32.ofInt u1_)), none] [.int (Int32.ofInt v31_), .int (Int32.ofInt u1_), .ref 113] _
          refine zr_iast (pc := 25) (zh_113 (hf_N2_.w hW)).2 (by decide) (by decide) (by (exact i4_)) (by (exact zo_2507 hc_5)) (zdal_p dlD_M_setsOf_121 (i := 14) rfl) (fun N32_ hN32_ hsN32_ => ?_)
          have hf_N32_ : zFr [] [113] Mz N32_ := hf_N2_.tr hsN32_ (by decide) (by decide)
          have hb0_N32_ : zFr [] [113] Mz N32_ := hs3_.tr hsN32_ (by decide) (by decide)
          have e63_N32_ : ze N32_ 81 63 = ze N2_ 81 63 := hsN32_.e (by decide)
          have c33_ : zTkZ z_ N32_ := zTkZ.fr hsN32_ c7_ (by decide) (by decide)
          have hnj_ : (∀ k : Nat, (k : Int) < u1_ + 1 → ze N32_ 113 k = ((tkn z_ 0 k : Nat) : Int)) := fun k_ hk_ => by by_cases g_ : (k_ : Int) = u1_; (rw [show k_ = (u1_).toNat by omega, zs_get hN32_ ⟨by (exact hv31_a), by (exact hv31_b)⟩]; show _ = (((if (u1_).toNat = 0 then 1 else 0) : Nat) : Int); first | (rw [if_pos (by omega)]; omega) | (rw [if_neg (by omega)]; omega)); (rw [zs_oth hN32_ (by (exact zo_148 i4_ g_))]; exact hni_ k_ (by (exact zo_130 hk_ g_)))
          refine zr_iinc (pc := 26) (i := 2) (a := u1_) (n := 1) (L2 := [some (.ref 81), some (.int (Int32.ofInt a0_)), some (.int (Int32.ofInt (u1_ + 1))), none]) rfl (by decide) rfl (zdal_p dlD_M_setsOf_121 (i := 15) rfl) ?_
          refine zw_goto (pc := 29) (tgt := 2) (by decide) (zdal_p dlD_M_setsOf_121 (i := 16) rfl) ?_
          exact ih_2 (u1_ + 1) (by (exact zo_74 i4_)) (by (exact zo_2508 hc_5)) N32_ hb0_N32_ (show 0 ≤ (u1_ + 1) by first | with_reducible assumption | (exact zo_76 i4_) | assumption) (show (u1_ + 1) ≤ 7 by first | with_reducible assumption | assumption | omega) (show (∀ k : Nat, (k : Int) < (u1_ + 1) → ze N32_ 113 k = ((tkn z_ 0 k : Nat) : Int)) by exact hnj_) (by (exact zo_2509 hc_5 hlt_2 i4_))
        · skip
          refine zw_iconst (pc := 17) (v := Int32.ofInt 1) (by decide) (zdal_p dlD_M_setsOf_121 (i := 10) rfl) ?_
          refine zw_goto (pc := 18) (tgt := 22) (by decide) (zdal_p dlD_M_setsOf_121 (i := 11) rfl) ?_
          refine zr_callS hf_N2_.x (pc := 22) [.int (Int32.ofInt 1)] [.int (Int32.ofInt u1_), .ref 113] l_M_256 (c_M_truth l N2_ (hf_N2_.w hW) 1 (by decide) (by decide) (by (decide))) rfl rfl (by decide) (Nat.le_of_ble_eq_true rfl) (zdal_p dlD_M_setsOf_121 (i := 13) rfl) ?_
          rintro _ N34_ ⟨v35_, rfl, ⟨hv35_a, hv35_b⟩, hsN34_, hp0_N34_⟩
          obtain rfl := hsN34_.eq.symm
          replace hp0_N34_ : v35_ = 1 := hp0_N34_
          show zW l m_M_setsOf (zn Mz + 0, zw Mz + 0) N2_ 25 [some (.ref 81), some (.int (Int32.ofInt a0_)), some (.int (Int32.ofInt u1_)), none] [.int (Int32.ofInt v35_), .int (Int32.ofInt u1_), .ref 113] _
          refine zr_iast (pc := 25) (zh_113 (hf_N2_.w hW)).2 (by decide) (by decide) (by (exact i4_)) (by (exact zo_2510 hc_14)) (zdal_p dlD_M_setsOf_121 (i := 14) rfl) (fun N36_ hN36_ hsN36_ => ?_)
          have hf_N36_ : zFr [] [113] Mz N36_ := hf_N2_.tr hsN36_ (by decide) (by decide)
          have hb0_N36_ : zFr [] [113] Mz N36_ := hs3_.tr hsN36_ (by decide) (by decide)
          have e63_N36_ : ze N36_ 81 63 = ze N2_ 81 63 := hsN36_.e (by decide)
          have c37_ : zTkZ z_ N36_ := zTkZ.fr hsN36_ c7_ (by decide) (by decide)
          have hnj_ : (∀ k : Nat, (k : Int) < u1_ + 1 → ze N36_ 113 k = ((tkn z_ 0 k : Nat) : Int)) := fun k_ hk_ => by by_cases g_ : (k_ : Int) = u1_; (rw [show k_ = (u1_).toNat by omega, zs_get hN36_ ⟨by (exact hv35_a), by (exact hv35_b)⟩]; show _ = (((if (u1_).toNat = 0 then 1 else 0) : Nat) : Int); first | (rw [if_pos (by omega)]; omega) | (rw [if_neg (by omega)]; omega)); (rw [zs_oth hN36_ (by (exact zo_148 i4_ g_))]; exact hni_ k_ (by (exact zo_130 hk_ g_)))
          refine zr_iinc (pc := 26) (i := 2) (a := u1_) (n := 1) (L2 := [some (.ref 81), some (.int (Int32.ofInt a0_)), some (.int (Int32.ofInt (u1_ + 1))), none]) rfl (by decide) rfl (zdal_p dlD_M_setsOf_121 (i := 15) rfl) ?_
          refine zw_goto (pc := 29) (tgt := 2) (by decide) (zdal_p dlD_M_setsOf_121 (i := 16) rfl) ?_
          exact ih_2 (u1_ + 1) (by (exact zo_74 i4_)) (by (exact zo_2511 hc_14)) N36_ hb0_N36_ (show 0 ≤ (u1_ + 1) by first | with_reducible assumption | (exact zo_76 i4_) | assumption) (show (u1_ + 1) ≤ 7 by first | with_reducible assumption | assumption | omega) (show (∀ k : Nat, (k : Int) < (u1_ + 1) → ze N36_ 113 k = ((tkn z_ 0 k : Nat) : Int)) by exact hnj_) (by (exact zo_2512 hc_14 hlt_2 i4_))
  exact lp_2 _ 0 (by decide) (by decide) Mz zFr.rf (show 0 ≤ (0 : Int) by first | with_reducible assumption | (decide) | assumption) (show (0 : Int) ≤ 7 by first | with_reducible assumption | (decide) | assumption) (show (∀ k : Nat, (k : Int) < (0 : Int) → ze Mz 113 k = ((tkn z_ 0 k : Nat) : Int)) by exact fun k_ hk_ => absurd hk_ (by (exact zo_131))) (Nat.lt_succ_self _)
set_option maxHeartbeats 4000000 in
theorem c_M_fixedByS (l : Launch) (Mz : zMem) (hW : zMt Mz) (a0_ : Int) (ha0_a : -2147483648 ≤ a0_) (ha0_b : a0_ < 2147483648) (a1_ : Int) (ha1_a : -2147483648 ≤ a1_) (ha1_b : a1_ < 2147483648) (z_ : List Nat) (p0_ : zTkZ z_ Mz) (p1_ : (a0_ = 0 ∨ ((a0_ = 1 ∨ a0_ = 2) ∧ 0 ≤ a1_ ∧ a1_ ≤ 6))) : zC l m_M_fixedBy 0 0 [.ref 81, .int (Int32.ofInt a0_), .int (Int32.ofInt a1_)] Mz (zpJ [] [113] Mz (fun v N => ((a0_ = 0 → v = ((tkone z_ : Nat) : Int)) ∧ (a0_ = 1 → v = ((tkn z_ z_.length (a1_).toNat : Nat) : Int)) ∧ (a0_ = 2 → v = a1_ ^ z_.length)))) := by
  refine zC_of (L0 := [some (.ref 81), some (.int (Int32.ofInt a0_)), some (.int (Int32.ofInt a1_)), none, none, none]) md_M_fixedBy (Nat.le_of_ble_eq_true rfl) rfl ?_ zQ0
  have hf : zFr [] [113] Mz Mz := zFr.rf
  have r_63 := ze_r Mz 81 63
  obtain ⟨⟨hz1_, hz2_⟩, hz3_⟩ := id p0_
  refine zw_iload_n (pc := 0) (n := 1) (x := Int32.ofInt a0_) rfl (zdal_p dlD_M_fixedBy_118 (i := 0) rfl) ?_
  refine zw_iconst (pc := 1) (v := Int32.ofInt 2) (by decide) (zdal_p dlD_M_fixedBy_118 (i := 1) rfl) ?_
  refine zr_icmp_ne (pc := 2) (tgt := 9) ⟨ha0_a, ha0_b⟩ ⟨(by decide), (by decide)⟩ (by decide) (zdal_p dlD_M_fixedBy_118 (i := 2) rfl) (fun hc_2 => ?_) (fun hc_2 => ?_)
  · skip
    refine zw_lconst (pc := 9) (v := Int64.ofInt 0) (by decide) (zdal_p dlD_M_fixedBy_118 (i := 5) rfl) ?_
    refine zw_lstore_n (pc := 10) (i := 3) (L2 := [some (.ref 81), some (.int (Int32.ofInt a0_)), some (.int (Int32.ofInt a1_)), some (.long (Int64.ofInt 0)), none, none]) rfl (by decide) rfl (zdal_p dlD_M_fixedBy_118 (i := 6) rfl) ?_
    refine zw_iconst (pc := 11) (v := Int32.ofInt 0) (by decide) (zdal_p dlD_M_fixedBy_118 (i := 7) rfl) ?_
    refine zw_istore (pc := 12) (i := 5) (L2 := [some (.ref 81), some (.int (Int32.ofInt a0_)), some (.int (Int32.ofInt a1_)), some (.long (Int64.ofInt 0)), none, some (.int (Int32.ofInt 0))]) (by decide) rfl (zdal_p dlD_M_fixedBy_118 (i := 8) rfl) ?_
    have lp_14 : ∀ (n : Nat) (u1_ : Int) (hu1_a : -9223372036854775808 ≤ u1_) (hu1_b : u1_ < 9223372036854775808) (u2_ : Int) (hu2_a : -2147483648 ≤ u2_) (hu2_b : u2_ < 2147483648) (i3_ : 0 ≤ u2_) (i4_ : u2_ ≤ ((z_.length : Nat) : Int)) (i5_ : zTkF z_ a0_ a1_ (u2_).toNat u1_) (i6_ : 0 ≤ u1_ ∧ u1_ ≤ 46656), (((z_.length : Nat) : Int) - u2_).toNat < n → zW l m_M_fixedBy (zn Mz + 0, zw Mz + 0) Mz 14 [some (.ref 81), some (.int (Int32.ofInt a0_)), some (.int (Int32.ofInt a1_)), some (.long (Int64.ofInt u1_)), none, some (.int (Int32.ofInt u2_))] [] (zpJ [] [113] Mz (fun v N => ((a0_ = 0 → v = ((tkone z_ : Nat) : Int)) ∧ (a0_ = 1 → v = ((tkn z_ z_.length (a1_).toNat : Nat) : Int)) ∧ (a0_ = 2 → v = a1_ ^ z_.length)))) := by
      intro n
      induction n with
      | zero =>
        intro u1_ hu1_a hu1_b u2_ hu2_a hu2_b i3_ i4_ i5_ i6_ h0
        exact absurd h0 (Nat.not_lt_zero _)
      | succ n ih_14 =>
        intro u1_ hu1_a hu1_b u2_ hu2_a hu2_b i3_ i4_ i5_ i6_ hlt_14
        have hfi_ := (show zTkF z_ a0_ a1_ (u2_).toNat u1_ by first | with_reducible assumption | assumption)
        refine zw_iload (pc := 14) (i := 5) (x := Int32.ofInt u2_) rfl (zdal_p dlD_M_fixedBy_118 (i := 9) rfl) ?_
        refine zw_aload_n (pc := 16) (n := 0) (x := 81) rfl (zdal_p dlD_M_fixedBy_118 (i := 10) rfl) ?_
        refine zr_getI0 hf hW (pc := 17) (by decide) f_M_487 rfl (zdal_p dlD_M_fixedBy_118 (i := 11) rfl) ?_
        refine zr_icmp_ge (pc := 20) (tgt := 66) ⟨hu2_a, hu2_b⟩ ⟨(ze_r Mz 81 63).1, (ze_r Mz 81 63).2⟩ (by decide) (zdal_p dlD_M_fixedBy_118 (i := 12) rfl) (fun hc_20 => ?_) (fun hc_20 => ?_)
        · skip
          have hfe_ : zTkF z_ a0_ a1_ z_.length u1_ := by have h_ := hfi_; rw [show (u2_).toNat = z_.length by (exact zo_2961 hc_20 hu2_b hz1_ hz2_ i3_ i4_)] at h_; exact h_
          refine zw_iload_n (pc := 66) (n := 1) (x := Int32.ofInt a0_) rfl (zdal_p dlD_M_fixedBy_119 (i := 15) rfl) ?_
          refine zw_iconst (pc := 67) (v := Int32.ofInt 1) (by decide) (zdal_p dlD_M_fixedBy_119 (i := 16) rfl) ?_
          refine zr_icmp_ne (pc := 68) (tgt := 80) ⟨ha0_a, ha0_b⟩ ⟨(by decide), (by decide)⟩ (by decide) (zdal_p dlD_M_fixedBy_119 (i := 17) rfl) (fun hc_68 => ?_) (fun hc_68 => ?_)
          · skip
            refine zw_lload_n (pc := 80) (n := 3) (x := Int64.ofInt u1_) rfl (zdal_p dlD_M_fixedBy_119 (i := 23) rfl) ?_
            exact zr_lret (pc := 81) rfl ⟨by (exact hu1_a), by (exact hu1_b)⟩ hf (show ((a0_ = 0 → u1_ = ((tkone z_ : Nat) : Int)) ∧ (a0_ = 1 → u1_ = ((tkn z_ z_.length (a1_).toNat : Nat) : Int)) ∧ (a0_ = 2 → u1_ = a1_ ^ z_.length)) by first | exact ⟨fun h_ => by omega, fun _ => hso_, fun h_ => by omega⟩ | exact ⟨fun h_ => hfe_.1 h_, fun h_ => by omega, fun h_ => hfe_.2.2 h_⟩) (zdal_p dlD_M_fixedBy_120 (i := 0) rfl)
          · skip
            refine zw_aload_n (pc := 71) (n := 0) (x := 81) rfl (zdal_p dlD_M_fixedBy_119 (i := 18) rfl) ?_
            refine zw_iload_n (pc := 72) (n := 2) (x := Int32.ofInt a1_) rfl (zdal_p dlD_M_fixedBy_119 (i := 19) rfl) ?_
            refine zr_callV (hf.w hW) hf.x (pc := 73) [.int (Int32.ofInt a1_)] [] l_M_490 (c_M_setsOfS l Mz (hf.w hW) a1_ ha1_a ha1_b z_ p0_ (show 0 ≤ a1_ by first | with_reducible assumption | assumption | omega) (show a1_ ≤ 6 by first | with_reducible assumption | assumption | omega)) rfl rfl rfl (by decide) (Nat.le_of_ble_eq_true rfl) (zdal_p dlD_M_fixedBy_119 (i := 20) rfl) ?_
            rintro _ N7_ ⟨v8_, rfl, ⟨hv8_a, hv8_b⟩, hsN7_, hp0_N7_⟩
            replace hp0_N7_ : v8_ = ((tkn z_ z_.length (a1_).toNat : Nat) : Int) := hp0_N7_
            have hf_N7_ : zFr [] [113] Mz N7_ := hf.tr hsN7_ (by decide) (by decide)
            have e63_N7_ : ze N7_ 81 63 = ze Mz 81 63 := hsN7_.e (by decide)
            have c9_ : zTkZ z_ N7_ := zTkZ.fr hsN7_ p0_ (by decide) (by decide)
            show zW l m_M_fixedBy (zn Mz + 0, zw Mz + 0) N7_ 76 [some (.ref 81), some (.int (Int32.ofInt a0_)), some (.int (Int32.ofInt a1_)), some (.long (Int64.ofInt u1_)), none, some (.int (Int32.ofInt u2_))] [.int (Int32.ofInt v8_)] _
            have hso_ := hp0_N7_
            refine zr_i2l (pc := 76) ⟨hv8_a, hv8_b⟩ (zdal_p dlD_M_fixedBy_119 (i := 21) rfl) ?_
            refine zw_goto (pc := 77) (tgt := 81) (by decide) (zdal_p dlD_M_fixedBy_119 (i := 22) rfl) ?_
            exact zr_lret (pc := 81) rfl ⟨by (exact zo_282 hv8_a), by (exact zo_283 hv8_b)⟩ hf_N7_ (show ((a0_ = 0 → v8_ = ((tkone z_ : Nat) : Int)) ∧ (a0_ = 1 → v8_ = ((tkn z_ z_.length (a1_).toNat : Nat) : Int)) ∧ (a0_ = 2 → v8_ = a1_ ^ z_.length)) by first | exact ⟨fun h_ => by omega, fun _ => hso_, fun h_ => by omega⟩ | exact ⟨fun h_ => hfe_.1 h_, fun h_ => by omega, fun h_ => hfe_.2.2 h_⟩) (zdal_p dlD_M_fixedBy_120 (i := 0) rfl)
        · skip
          refine zw_iload_n (pc := 23) (n := 1) (x := Int32.ofInt a0_) rfl (zdal_p dlD_M_fixedBy_118 (i := 13) rfl) ?_
          refine zr_if_ne (pc := 24) (tgt := 50) ⟨ha0_a, ha0_b⟩ (by decide) (zdal_p dlD_M_fixedBy_118 (i := 14) rfl) (fun hc_24 => ?_) (fun hc_24 => ?_)
          · skip
            refine zw_iload_n (pc := 50) (n := 1) (x := Int32.ofInt a0_) rfl d_M_fixedBy_50 ?_
            refine zw_iconst (pc := 51) (v := Int32.ofInt 2) (by decide) d_M_fixedBy_51 ?_
            refine zr_icmp_ne (pc := 52) (tgt := 60) ⟨ha0_a, ha0_b⟩ ⟨(by decide), (by decide)⟩ (by decide) d_M_fixedBy_52 (fun hc_52 => ?_) (fun hc_52 => ?_)
            · skip
              refine zr_iinc (pc := 60) (i := 5) (a := u2_) (n := 1) (L2 := [some (.ref 81), some (.int (Int32.ofInt a0_)), some (.int (Int32.ofInt a1_)), some (.long (Int64.ofInt u1_)), none, some (.int (Int32.ofInt (u2_ + 1)))]) rfl (by decide) rfl d_M_fixedBy_60 ?_
              refine zw_goto (pc := 63) (tgt := 14) (by decide) d_M_fixedBy_63 ?_
              have hfn_ : zTkF z_ a0_ a1_ ((u2_ + 1)).toNat u1_ := by first | (exfalso; omega) | exact zTkF_a hfi_ (by omega) (by omega) hx_ (by omega) ha_ | exact zTkF_b hfi_ (by omega) (by omega) hb_ | exact zTkF_c hfi_ (by omega)
              have hfr_ := zTkF_r hfn_ (by (exact zo_2986 hc_20 hu2_b hz1_ hz2_ i3_ i4_)) p1_
              exact ih_14 u1_ hu1_a hu1_b (u2_ + 1) (by (exact zo_74 i3_)) (by (exact zo_2965 hu2_b hz2_ i4_)) (show 0 ≤ (u2_ + 1) by first | with_reducible assumption | (exact zo_76 i3_) | assumption) (show (u2_ + 1) ≤ ((z_.length : Nat) : Int) by first | with_reducible assumption | (exact zo_2925 hc_20 hu2_b hz1_ i4_) | assumption) (show zTkF z_ a0_ a1_ ((u2_ + 1)).toNat u1_ by exact hfn_) (show 0 ≤ u1_ ∧ u1_ ≤ 46656 by exact hfr_) (by (exact zo_2926 hc_20 hlt_14 hu2_b hz1_ i4_))
            · skip
              refine zw_lload_n (pc := 55) (n := 3) (x := Int64.ofInt u1_) rfl d_M_fixedBy_55 ?_
              refine zw_iload_n (pc := 56) (n := 2) (x := Int32.ofInt a1_) rfl d_M_fixedBy_56 ?_
              refine zr_i2l (pc := 57) ⟨ha1_a, ha1_b⟩ d_M_fixedBy_57 ?_
              have hm_ : u1_ * a1_ = a1_ ^ ((u2_).toNat + 1) := by first | (exfalso; (exact zo_2731 hc_52 hc_2)) | rw [hfi_.2.2 (by omega), Int.pow_succ]
              have hmb_ := tkp_6 (n := a1_) (by omega) (by omega) ((u2_).toNat + 1) (by (exact zo_2987 hc_20 hu2_b hz1_ hz2_ i3_ i4_))
              rw [← hm_] at hmb_
              refine zr_lmul (pc := 58) d_M_fixedBy_58 ?_
              refine zk_nmJ (fun v10_ hv10_ hv10_e => ?_)
              obtain ⟨hv10_a, hv10_b⟩ := hv10_
              have hb_ := z64q ⟨by (exact hv10_a), by (exact hv10_b)⟩ ⟨by omega, by omega⟩ hv10_e
              refine zw_lstore_n (pc := 59) (i := 3) (L2 := [some (.ref 81), some (.int (Int32.ofInt a0_)), some (.int (Int32.ofInt a1_)), some (.long (Int64.ofInt v10_)), none, some (.int (Int32.ofInt u2_))]) rfl (by decide) rfl d_M_fixedBy_59 ?_
              refine zr_iinc (pc := 60) (i := 5) (a := u2_) (n := 1) (L2 := [some (.ref 81), some (.int (Int32.ofInt a0_)), some (.int (Int32.ofInt a1_)), some (.long (Int64.ofInt v10_)), none, some (.int (Int32.ofInt (u2_ + 1)))]) rfl (by decide) rfl d_M_fixedBy_60 ?_
              refine zw_goto (pc := 63) (tgt := 14) (by decide) d_M_fixedBy_63 ?_
              have hfn_ : zTkF z_ a0_ a1_ ((u2_ + 1)).toNat v10_ := by first | (exfalso; (exact zo_2731 hc_52 hc_2)) | exact zTkF_a hfi_ (by omega) (by omega) hx_ (by omega) ha_ | exact zTkF_b hfi_ (by omega) (by omega) hb_ | exact zTkF_c hfi_ (by omega)
              have hfr_ := zTkF_r hfn_ (by (exact zo_2986 hc_20 hu2_b hz1_ hz2_ i3_ i4_)) p1_
              exact ih_14 v10_ hv10_a hv10_b (u2_ + 1) (by (exact zo_74 i3_)) (by (exact zo_2965 hu2_b hz2_ i4_)) (show 0 ≤ (u2_ + 1) by first | with_reducible assumption | (exact zo_76 i3_) | assumption) (show (u2_ + 1) ≤ ((z_.length : Nat) : Int) by first | with_reducible assumption | (exact zo_2925 hc_20 hu2_b hz1_ i4_) | assumption) (show zTkF z_ a0_ a1_ ((u2_ + 1)).toNat v10_ by exact hfn_) (show 0 ≤ v10_ ∧ v10_ ≤ 46656 by exact hfr_) (by (exact zo_2926 hc_20 hlt_14 hu2_b hz1_ i4_))
          · skip
            refine zw_lload_n (pc := 27) (n := 3) (x := Int64.ofInt u1_) rfl (zdal_p dlD_M_fixedBy_118 (i := 15) rfl) ?_
            refine zw_aload_n (pc := 28) (n := 0) (x := 81) rfl (zdal_p dlD_M_fixedBy_118 (i := 16) rfl) ?_
            refine zr_getF (r := 112) (hf.w hW) (pc := 29) f_M_109 rfl (zh_112 (hf.w hW)).1 (zdal_p dlD_M_fixedBy_118 (i := 17) rfl) ?_
            refine zw_iload (pc := 32) (i := 5) (x := Int32.ofInt u2_) rfl (zdal_p dlD_M_fixedBy_118 (i := 18) rfl) ?_
            refine zr_ialdn (pc := 34) (zh_112 (hf.w hW)).2 (by decide) (by (exact i3_)) (by (exact zo_2963 hc_20 hu2_b hz1_ hz2_ i4_)) (zdal_p dlD_M_fixedBy_118 (i := 19) rfl) (fun v11_ hv11_ hv11_a hv11_b => ?_)
            have hx_ := (hv11_).trans ((p0_.2 (u2_).toNat (by (exact zo_2962 hc_20 hu2_b hz1_ i3_ i4_))).1)
            refine zw_iconst (pc := 35) (v := Int32.ofInt 1) (by decide) (zdal_p dlD_M_fixedBy_118 (i := 20) rfl) ?_
            refine zr_icmp_ne (pc := 36) (tgt := 43) ⟨hv11_a, hv11_b⟩ ⟨(by decide), (by decide)⟩ (by decide) (zdal_p dlD_M_fixedBy_118 (i := 21) rfl) (fun hc_36 => ?_) (fun hc_36 => ?_)
            · skip
              refine zw_iconst (pc := 43) (v := Int32.ofInt 0) (by decide) (zdal_p dlD_M_fixedBy_119 (i := 0) rfl) ?_
              refine zr_callS hf.x (pc := 44) [.int (Int32.ofInt 0)] [.long (Int64.ofInt u1_)] l_M_256 (c_M_truth l Mz (hf.w hW) 0 (by decide) (by decide) (by (decide))) rfl rfl (by decide) (Nat.le_of_ble_eq_true rfl) (zdal_p dlD_M_fixedBy_119 (i := 1) rfl) ?_
              rintro _ N12_ ⟨v13_, rfl, ⟨hv13_a, hv13_b⟩, hsN12_, hp0_N12_⟩
              obtain rfl := hsN12_.eq.symm
              replace hp0_N12_ : v13_ = 0 := hp0_N12_
              show zW l m_M_fixedBy (zn Mz + 0, zw Mz + 0) Mz 47 [some (.ref 81), some (.int (Int32.ofInt a0_)), some (.int (Int32.ofInt a1_)), some (.long (Int64.ofInt u1_)), none, some (.int (Int32.ofInt u2_))] [.int (Int32.ofInt v13_), .long (Int64.ofInt u1_)] _
              refine zr_i2l (pc := 47) ⟨hv13_a, hv13_b⟩ (zdal_p dlD_M_fixedBy_119 (i := 2) rfl) ?_
              refine zr_ladd (pc := 48) (zdal_p dlD_M_fixedBy_119 (i := 3) rfl) ?_
              refine zk_nmJ (fun v14_ hv14_ hv14_e => ?_)
              obtain ⟨hv14_a, hv14_b⟩ := hv14_
              have ha_ := z64q ⟨by (exact hv14_a), by (exact hv14_b)⟩ ⟨by omega, by omega⟩ hv14_e
              refine zw_lstore_n (pc := 49) (i := 3) (L2 := [some (.ref 81), some (.int (Int32.ofInt a0_)), some (.int (Int32.ofInt a1_)), some (.long (Int64.ofInt v14_)), none, some (.int (Int32.ofInt u2_))]) rfl (by decide) rfl (zdal_p dlD_M_fixedBy_119 (i := 4) rfl) ?_
              refine zw_iload_n (pc := 50) (n := 1) (x := Int32.ofInt a0_) rfl d_M_fixedBy_50 ?_
              refine zw_iconst (pc := 51) (v := Int32.ofInt 2) (by decide) d_M_fixedBy_51 ?_
              refine zr_icmp_ne (pc := 52) (tgt := 60) ⟨ha0_a, ha0_b⟩ ⟨(by decide), (by decide)⟩ (by decide) d_M_fixedBy_52 (fun hc_52 => ?_) (fun hc_52 => ?_)
              · skip
                refine zr_iinc (pc := 60) (i := 5) (a := u2_) (n := 1) (L2 := [some (.ref 81), some (.int (Int32.ofInt a0_)), some (.int (Int32.ofInt a1_)), some (.long (Int64.ofInt v14_)), none, some (.int (Int32.ofInt (u2_ + 1)))]) rfl (by decide) rfl d_M_fixedBy_60 ?_
                refine zw_goto (pc := 63) (tgt := 14) (by decide) d_M_fixedBy_63 ?_
                have hfn_ : zTkF z_ a0_ a1_ ((u2_ + 1)).toNat v14_ := by first | (exfalso; omega) | exact zTkF_a hfi_ (by (exact i3_)) (by (exact hc_24)) hx_ (by omega) ha_ | exact zTkF_b hfi_ (by omega) (by omega) hb_ | exact zTkF_c hfi_ (by omega)
                have hfr_ := zTkF_r hfn_ (by (exact zo_2986 hc_20 hu2_b hz1_ hz2_ i3_ i4_)) p1_
                exact ih_14 v14_ hv14_a hv14_b (u2_ + 1) (by (exact zo_74 i3_)) (by (exact zo_2965 hu2_b hz2_ i4_)) (show 0 ≤ (u2_ + 1) by first | with_reducible assumption | (exact zo_76 i3_) | assumption) (show (u2_ + 1) ≤ ((z_.length : Nat) : Int) by first | with_reducible assumption | (exact zo_2925 hc_20 hu2_b hz1_ i4_) | assumption) (show zTkF z_ a0_ a1_ ((u2_ + 1)).toNat v14_ by exact hfn_) (show 0 ≤ v14_ ∧ v14_ ≤ 46656 by exact hfr_) (by (exact zo_2926 hc_20 hlt_14 hu2_b hz1_ i4_))
              · skip
                refine zw_lload_n (pc := 55) (n := 3) (x := Int64.ofInt v14_) rfl d_M_fixedBy_55 ?_
                refine zw_iload_n (pc := 56) (n := 2) (x := Int32.ofInt a1_) rfl d_M_fixedBy_56 ?_
                refine zr_i2l (pc := 57) ⟨ha1_a, ha1_b⟩ d_M_fixedBy_57 ?_
                have hm_ : v14_ * a1_ = a1_ ^ ((u2_).toNat + 1) := by first | (exfalso; (exact zo_2991 hc_24 hc_52)) | rw [hfi_.2.2 (by omega), Int.pow_succ]
                have hmb_ := tkp_6 (n := a1_) (by omega) (by omega) ((u2_).toNat + 1) (by (exact zo_2987 hc_20 hu2_b hz1_ hz2_ i3_ i4_))
                rw [← hm_] at hmb_
                refine zr_lmul (pc := 58) d_M_fixedBy_58 ?_
                refine zk_nmJ (fun v15_ hv15_ hv15_e => ?_)
                obtain ⟨hv15_a, hv15_b⟩ := hv15_
                have hb_ := z64q ⟨by (exact hv15_a), by (exact hv15_b)⟩ ⟨by omega, by omega⟩ hv15_e
                refine zw_lstore_n (pc := 59) (i := 3) (L2 := [some (.ref 81), some (.int (Int32.ofInt a0_)), some (.int (Int32.ofInt a1_)), some (.long (Int64.ofInt v15_)), none, some (.int (Int32.ofInt u2_))]) rfl (by decide) rfl d_M_fixedBy_59 ?_
                refine zr_iinc (pc := 60) (i := 5) (a := u2_) (n := 1) (L2 := [some (.ref 81), some (.int (Int32.ofInt a0_)), some (.int (Int32.ofInt a1_)), some (.long (Int64.ofInt v15_)), none, some (.int (Int32.ofInt (u2_ + 1)))]) rfl (by decide) rfl d_M_fixedBy_60 ?_
                refine zw_goto (pc := 63) (tgt := 14) (by decide) d_M_fixedBy_63 ?_
                have hfn_ : zTkF z_ a0_ a1_ ((u2_ + 1)).toNat v15_ := by first | (exfalso; (exact zo_2991 hc_24 hc_52)) | exact zTkF_a hfi_ (by omega) (by omega) hx_ (by omega) ha_ | exact zTkF_b hfi_ (by omega) (by omega) hb_ | exact zTkF_c hfi_ (by omega)
                have hfr_ := zTkF_r hfn_ (by (exact zo_2986 hc_20 hu2_b hz1_ hz2_ i3_ i4_)) p1_
                exact ih_14 v15_ hv15_a hv15_b (u2_ + 1) (by (exact zo_74 i3_)) (by (exact zo_2965 hu2_b hz2_ i4_)) (show 0 ≤ (u2_ + 1) by first | with_reducible assumption | (exact zo_76 i3_) | assumption) (show (u2_ + 1) ≤ ((z_.length : Nat) : Int) by first | with_reducible assumption | (exact zo_2925 hc_20 hu2_b hz1_ i4_) | assumption) (show zTkF z_ a0_ a1_ ((u2_ + 1)).toNat v15_ by exact hfn_) (show 0 ≤ v15_ ∧ v15_ ≤ 46656 by exact hfr_) (by (exact zo_2926 hc_20 hlt_14 hu2_b hz1_ i4_))
            · skip
              refine zw_iconst (pc := 39) (v := Int32.ofInt 1) (by decide) (zdal_p dlD_M_fixedBy_118 (i := 22) rfl) ?_
              refine zw_goto (pc := 40) (tgt := 44) (by decide) (zdal_p dlD_M_fixedBy_118 (i := 23) rfl) ?_
              refine zr_callS hf.x (pc := 44) [.int (Int32.ofInt 1)] [.long (Int64.ofInt u1_)] l_M_256 (c_M_truth l Mz (hf.w hW) 1 (by decide) (by decide) (by (decide))) rfl rfl (by decide) (Nat.le_of_ble_eq_true rfl) (zdal_p dlD_M_fixedBy_119 (i := 1) rfl) ?_
              rintro _ N16_ ⟨v17_, rfl, ⟨hv17_a, hv17_b⟩, hsN16_, hp0_N16_⟩
              obtain rfl := hsN16_.eq.symm
              replace hp0_N16_ : v17_ = 1 := hp0_N16_
              show zW l m_M_fixedBy (zn Mz + 0, zw Mz + 0) Mz 47 [some (.ref 81), some (.int (Int32.ofInt a0_)), some (.int (Int32.ofInt a1_)), some (.long (Int64.ofInt u1_)), none, some (.int (Int32.ofInt u2_))] [.int (Int32.ofInt v17_), .long (Int64.ofInt u1_)] _
              refine zr_i2l (pc := 47) ⟨hv17_a, hv17_b⟩ (zdal_p dlD_M_fixedBy_119 (i := 2) rfl) ?_
              refine zr_ladd (pc := 48) (zdal_p dlD_M_fixedBy_119 (i := 3) rfl) ?_
              refine zk_nmJ (fun v18_ hv18_ hv18_e => ?_)
              obtain ⟨hv18_a, hv18_b⟩ := hv18_
              have ha_ := z64q ⟨by (exact hv18_a), by (exact hv18_b)⟩ ⟨by omega, by omega⟩ hv18_e
              refine zw_lstore_n (pc := 49) (i := 3) (L2 := [some (.ref 81), some (.int (Int32.ofInt a0_)), some (.int (Int32.ofInt a1_)), some (.long (Int64.ofInt v18_)), none, some (.int (Int32.ofInt u2_))]) rfl (by decide) rfl (zdal_p dlD_M_fixedBy_119 (i := 4) rfl) ?_
              refine zw_iload_n (pc := 50) (n := 1) (x := Int32.ofInt a0_) rfl d_M_fixedBy_50 ?_
              refine zw_iconst (pc := 51) (v := Int32.ofInt 2) (by decide) d_M_fixedBy_51 ?_
              refine zr_icmp_ne (pc := 52) (tgt := 60) ⟨ha0_a, ha0_b⟩ ⟨(by decide), (by decide)⟩ (by decide) d_M_fixedBy_52 (fun hc_52 => ?_) (fun hc_52 => ?_)
              · skip
                refine zr_iinc (pc := 60) (i := 5) (a := u2_) (n := 1) (L2 := [some (.ref 81), some (.int (Int32.ofInt a0_)), some (.int (Int32.ofInt a1_)), some (.long (Int64.ofInt v18_)), none, some (.int (Int32.ofInt (u2_ + 1)))]) rfl (by decide) rfl d_M_fixedBy_60 ?_
                refine zw_goto (pc := 63) (tgt := 14) (by decide) d_M_fixedBy_63 ?_
                have hfn_ : zTkF z_ a0_ a1_ ((u2_ + 1)).toNat v18_ := by first | (exfalso; omega) | exact zTkF_a hfi_ (by (exact i3_)) (by (exact hc_24)) hx_ (by omega) ha_ | exact zTkF_b hfi_ (by omega) (by omega) hb_ | exact zTkF_c hfi_ (by omega)
                have hfr_ := zTkF_r hfn_ (by (exact zo_2986 hc_20 hu2_b hz1_ hz2_ i3_ i4_)) p1_
                exact ih_14 v18_ hv18_a hv18_b (u2_ + 1) (by (exact zo_74 i3_)) (by (exact zo_2965 hu2_b hz2_ i4_)) (show 0 ≤ (u2_ + 1) by first | with_reducible assumption | (exact zo_76 i3_) | assumption) (show (u2_ + 1) ≤ ((z_.length : Nat) : Int) by first | with_reducible assumption | (exact zo_2925 hc_20 hu2_b hz1_ i4_) | assumption) (show zTkF z_ a0_ a1_ ((u2_ + 1)).toNat v18_ by exact hfn_) (show 0 ≤ v18_ ∧ v18_ ≤ 46656 by exact hfr_) (by (exact zo_2926 hc_20 hlt_14 hu2_b hz1_ i4_))
              · skip
                refine zw_lload_n (pc := 55) (n := 3) (x := Int64.ofInt v18_) rfl d_M_fixedBy_55 ?_
                refine zw_iload_n (pc := 56) (n := 2) (x := Int32.ofInt a1_) rfl d_M_fixedBy_56 ?_
                refine zr_i2l (pc := 57) ⟨ha1_a, ha1_b⟩ d_M_fixedBy_57 ?_
                have hm_ : v18_ * a1_ = a1_ ^ ((u2_).toNat + 1) := by first | (exfalso; (exact zo_2991 hc_24 hc_52)) | rw [hfi_.2.2 (by omega), Int.pow_succ]
                have hmb_ := tkp_6 (n := a1_) (by omega) (by omega) ((u2_).toNat + 1) (by (exact zo_2987 hc_20 hu2_b hz1_ hz2_ i3_ i4_))
                rw [← hm_] at hmb_
                refine zr_lmul (pc := 58) d_M_fixedBy_58 ?_
                refine zk_nmJ (fun v19_ hv19_ hv19_e => ?_)
                obtain ⟨hv19_a, hv19_b⟩ := hv19_
                have hb_ := z64q ⟨by (exact hv19_a), by (exact hv19_b)⟩ ⟨by omega, by omega⟩ hv19_e
                refine zw_lstore_n (pc := 59) (i := 3) (L2 := [some (.ref 81), some (.int (Int32.ofInt a0_)), some (.int (Int32.ofInt a1_)), some (.long (Int64.ofInt v19_)), none, some (.int (Int32.ofInt u2_))]) rfl (by decide) rfl d_M_fixedBy_59 ?_
                refine zr_iinc (pc := 60) (i := 5) (a := u2_) (n := 1) (L2 := [some (.ref 81), some (.int (Int32.ofInt a0_)), some (.int (Int32.ofInt a1_)), some (.long (Int64.ofInt v19_)), none, some (.int (Int32.ofInt (u2_ + 1)))]) rfl (by decide) rfl d_M_fixedBy_60 ?_
                refine zw_goto (pc := 63) (tgt := 14) (by decide) d_M_fixedBy_63 ?_
                have hfn_ : zTkF z_ a0_ a1_ ((u2_ + 1)).toNat v19_ := by first | (exfalso; (exact zo_2991 hc_24 hc_52)) | exact zTkF_a hfi_ (by omega) (by omega) hx_ (by omega) ha_ | exact zTkF_b hfi_ (by omega) (by omega) hb_ | exact zTkF_c hfi_ (by omega)
                have hfr_ := zTkF_r hfn_ (by (exact zo_2986 hc_20 hu2_b hz1_ hz2_ i3_ i4_)) p1_
                exact ih_14 v19_ hv19_a hv19_b (u2_ + 1) (by (exact zo_74 i3_)) (by (exact zo_2965 hu2_b hz2_ i4_)) (show 0 ≤ (u2_ + 1) by first | with_reducible assumption | (exact zo_76 i3_) | assumption) (show (u2_ + 1) ≤ ((z_.length : Nat) : Int) by first | with_reducible assumption | (exact zo_2925 hc_20 hu2_b hz1_ i4_) | assumption) (show zTkF z_ a0_ a1_ ((u2_ + 1)).toNat v19_ by exact hfn_) (show 0 ≤ v19_ ∧ v19_ ≤ 46656 by exact hfr_) (by (exact zo_2926 hc_20 hlt_14 hu2_b hz1_ i4_))
    exact lp_14 _ 0 (by decide) (by decide) 0 (by decide) (by decide) (show 0 ≤ (0 : Int) by first | with_reducible assumption | (decide) | assumption) (show (0 : Int) ≤ ((z_.length : Nat) : Int) by first | with_reducible assumption | (exact zo_85) | assumption) (show zTkF z_ a0_ a1_ ((0 : Int)).toNat (0 : Int) by first | exact ⟨fun h_ => by omega, fun h_ => by omega, fun _ => (Int.pow_zero _).symm⟩ | exact ⟨fun _ => rfl, fun _ => rfl, fun h_ => by omega⟩) (show 0 ≤ (0 : Int) ∧ (0 : Int) ≤ 46656 by first | with_reducible assumption | (decide) | assumption) (Nat.lt_succ_self _)
  · skip
    refine zw_lconst (pc := 5) (v := Int64.ofInt 1) (by decide) (zdal_p dlD_M_fixedBy_118 (i := 3) rfl) ?_
    refine zw_goto (pc := 6) (tgt := 10) (by decide) (zdal_p dlD_M_fixedBy_118 (i := 4) rfl) ?_
    refine zw_lstore_n (pc := 10) (i := 3) (L2 := [some (.ref 81), some (.int (Int32.ofInt a0_)), some (.int (Int32.ofInt a1_)), some (.long (Int64.ofInt 1)), none, none]) rfl (by decide) rfl (zdal_p dlD_M_fixedBy_118 (i := 6) rfl) ?_
    refine zw_iconst (pc := 11) (v := Int32.ofInt 0) (by decide) (zdal_p dlD_M_fixedBy_118 (i := 7) rfl) ?_
    refine zw_istore (pc := 12) (i := 5) (L2 := [some (.ref 81), some (.int (Int32.ofInt a0_)), some (.int (Int32.ofInt a1_)), some (.long (Int64.ofInt 1)), none, some (.int (Int32.ofInt 0))]) (by decide) rfl (zdal_p dlD_M_fixedBy_118 (i := 8) rfl) ?_
    have lp_14 : ∀ (n : Nat) (u20_ : Int) (hu20_a : -9223372036854775808 ≤ u20_) (hu20_b : u20_ < 9223372036854775808) (u21_ : Int) (hu21_a : -2147483648 ≤ u21_) (hu21_b : u21_ < 2147483648) (i22_ : 0 ≤ u21_) (i23_ : u21_ ≤ ((z_.length : Nat) : Int)) (i24_ : zTkF z_ a0_ a1_ (u21_).toNat u20_) (i25_ : 0 ≤ u20_ ∧ u20_ ≤ 46656), (((z_.length : Nat) : Int) - u21_).toNat < n → zW l m_M_fixedBy (zn Mz + 0, zw Mz + 0) Mz 14 [some (.ref 81), some (.int (Int32.ofInt a0_)), some (.int (Int32.ofInt a1_)), some (.long (Int64.ofInt u20_)), none, some (.int (Int32.ofInt u21_))] [] (zpJ [] [113] Mz (fun v N => ((a0_ = 0 → v = ((tkone z_ : Nat) : Int)) ∧ (a0_ = 1 → v = ((tkn z_ z_.length (a1_).toNat : Nat) : Int)) ∧ (a0_ = 2 → v = a1_ ^ z_.length)))) := by
      intro n
      induction n with
      | zero =>
        intro u20_ hu20_a hu20_b u21_ hu21_a hu21_b i22_ i23_ i24_ i25_ h0
        exact absurd h0 (Nat.not_lt_zero _)
      | succ n ih_14 =>
        intro u20_ hu20_a hu20_b u21_ hu21_a hu21_b i22_ i23_ i24_ i25_ hlt_14
        have hfi_ := (show zTkF z_ a0_ a1_ (u21_).toNat u20_ by first | with_reducible assumption | assumption)
        refine zw_iload (pc := 14) (i := 5) (x := Int32.ofInt u21_) rfl (zdal_p dlD_M_fixedBy_118 (i := 9) rfl) ?_
        refine zw_aload_n (pc := 16) (n := 0) (x := 81) rfl (zdal_p dlD_M_fixedBy_118 (i := 10) rfl) ?_
        refine zr_getI0 hf hW (pc := 17) (by decide) f_M_487 rfl (zdal_p dlD_M_fixedBy_118 (i := 11) rfl) ?_
        refine zr_icmp_ge (pc := 20) (tgt := 66) ⟨hu21_a, hu21_b⟩ ⟨(ze_r Mz 81 63).1, (ze_r Mz 81 63).2⟩ (by decide) (zdal_p dlD_M_fixedBy_118 (i := 12) rfl) (fun hc_20 => ?_) (fun hc_20 => ?_)
        · skip
          have hfe_ : zTkF z_ a0_ a1_ z_.length u20_ := by have h_ := hfi_; rw [show (u21_).toNat = z_.length by (exact zo_2961 hc_20 hu21_b hz1_ hz2_ i22_ i23_)] at h_; exact h_
          refine zw_iload_n (pc := 66) (n := 1) (x := Int32.ofInt a0_) rfl (zdal_p dlD_M_fixedBy_119 (i := 15) rfl) ?_
          refine zw_iconst (pc := 67) (v := Int32.ofInt 1) (by decide) (zdal_p dlD_M_fixedBy_119 (i := 16) rfl) ?_
          refine zr_icmp_ne (pc := 68) (tgt := 80) ⟨ha0_a, ha0_b⟩ ⟨(by decide), (by decide)⟩ (by decide) (zdal_p dlD_M_fixedBy_119 (i := 17) rfl) (fun hc_68 => ?_) (fun hc_68 => ?_)
          · skip
            refine zw_lload_n (pc := 80) (n := 3) (x := Int64.ofInt u20_) rfl (zdal_p dlD_M_fixedBy_119 (i := 23) rfl) ?_
            exact zr_lret (pc := 81) rfl ⟨by (exact hu20_a), by (exact hu20_b)⟩ hf (show ((a0_ = 0 → u20_ = ((tkone z_ : Nat) : Int)) ∧ (a0_ = 1 → u20_ = ((tkn z_ z_.length (a1_).toNat : Nat) : Int)) ∧ (a0_ = 2 → u20_ = a1_ ^ z_.length)) by first | exact ⟨fun h_ => by omega, fun _ => hso_, fun h_ => by omega⟩ | exact ⟨fun h_ => hfe_.1 h_, fun h_ => by omega, fun h_ => hfe_.2.2 h_⟩) (zdal_p dlD_M_fixedBy_120 (i := 0) rfl)
          · skip
            refine zw_aload_n (pc := 71) (n := 0) (x := 81) rfl (zdal_p dlD_M_fixedBy_119 (i := 18) rfl) ?_
            refine zw_iload_n (pc := 72) (n := 2) (x := Int32.ofInt a1_) rfl (zdal_p dlD_M_fixedBy_119 (i := 19) rfl) ?_
            refine zr_callV (hf.w hW) hf.x (pc := 73) [.int (Int32.ofInt a1_)] [] l_M_490 (c_M_setsOfS l Mz (hf.w hW) a1_ ha1_a ha1_b z_ p0_ (show 0 ≤ a1_ by first | with_reducible assumption | assumption | omega) (show a1_ ≤ 6 by first | with_reducible assumption | assumption | omega)) rfl rfl rfl (by decide) (Nat.le_of_ble_eq_true rfl) (zdal_p dlD_M_fixedBy_119 (i := 20) rfl) ?_
            rintro _ N26_ ⟨v27_, rfl, ⟨hv27_a, hv27_b⟩, hsN26_, hp0_N26_⟩
            replace hp0_N26_ : v27_ = ((tkn z_ z_.length (a1_).toNat : Nat) : Int) := hp0_N26_
            have hf_N26_ : zFr [] [113] Mz N26_ := hf.tr hsN26_ (by decide) (by decide)
            have e63_N26_ : ze N26_ 81 63 = ze Mz 81 63 := hsN26_.e (by decide)
            have c28_ : zTkZ z_ N26_ := zTkZ.fr hsN26_ p0_ (by decide) (by decide)
            show zW l m_M_fixedBy (zn Mz + 0, zw Mz + 0) N26_ 76 [some (.ref 81), some (.int (Int32.ofInt a0_)), some (.int (Int32.ofInt a1_)), some (.long (Int64.ofInt u20_)), none, some (.int (Int32.ofInt u21_))] [.int (Int32.ofInt v27_)] _
            have hso_ := hp0_N26_
            refine zr_i2l (pc := 76) ⟨hv27_a, hv27_b⟩ (zdal_p dlD_M_fixedBy_119 (i := 21) rfl) ?_
            refine zw_goto (pc := 77) (tgt := 81) (by decide) (zdal_p dlD_M_fixedBy_119 (i := 22) rfl) ?_
            exact zr_lret (pc := 81) rfl ⟨by (exact zo_282 hv27_a), by (exact zo_283 hv27_b)⟩ hf_N26_ (show ((a0_ = 0 → v27_ = ((tkone z_ : Nat) : Int)) ∧ (a0_ = 1 → v27_ = ((tkn z_ z_.length (a1_).toNat : Nat) : Int)) ∧ (a0_ = 2 → v27_ = a1_ ^ z_.length)) by first | exact ⟨fun h_ => by omega, fun _ => hso_, fun h_ => by omega⟩ | exact ⟨fun h_ => hfe_.1 h_, fun h_ => by omega, fun h_ => hfe_.2.2 h_⟩) (zdal_p dlD_M_fixedBy_120 (i := 0) rfl)
        · skip
          refine zw_iload_n (pc := 23) (n := 1) (x := Int32.ofInt a0_) rfl (zdal_p dlD_M_fixedBy_118 (i := 13) rfl) ?_
          refine zr_if_ne (pc := 24) (tgt := 50) ⟨ha0_a, ha0_b⟩ (by decide) (zdal_p dlD_M_fixedBy_118 (i := 14) rfl) (fun hc_24 => ?_) (fun hc_24 => ?_)
          · skip
            refine zw_iload_n (pc := 50) (n := 1) (x := Int32.ofInt a0_) rfl d_M_fixedBy_50 ?_
            refine zw_iconst (pc := 51) (v := Int32.ofInt 2) (by decide) d_M_fixedBy_51 ?_
            refine zr_icmp_ne (pc := 52) (tgt := 60) ⟨ha0_a, ha0_b⟩ ⟨(by decide), (by decide)⟩ (by decide) d_M_fixedBy_52 (fun hc_52 => ?_) (fun hc_52 => ?_)
            · skip
              refine zr_iinc (pc := 60) (i := 5) (a := u21_) (n := 1) (L2 := [some (.ref 81), some (.int (Int32.ofInt a0_)), some (.int (Int32.ofInt a1_)), some (.long (Int64.ofInt u20_)), none, some (.int (Int32.ofInt (u21_ + 1)))]) rfl (by decide) rfl d_M_fixedBy_60 ?_
              refine zw_goto (pc := 63) (tgt := 14) (by decide) d_M_fixedBy_63 ?_
              have hfn_ : zTkF z_ a0_ a1_ ((u21_ + 1)).toNat u20_ := by first | (exfalso; (exact zo_2731 hc_2 hc_52)) | exact zTkF_a hfi_ (by omega) (by omega) hx_ (by omega) ha_ | exact zTkF_b hfi_ (by omega) (by omega) hb_ | exact zTkF_c hfi_ (by omega)
              have hfr_ := zTkF_r hfn_ (by (exact zo_2986 hc_20 hu21_b hz1_ hz2_ i22_ i23_)) p1_
              exact ih_14 u20_ hu20_a hu20_b (u21_ + 1) (by (exact zo_74 i22_)) (by (exact zo_2965 hu21_b hz2_ i23_)) (show 0 ≤ (u21_ + 1) by first | with_reducible assumption | (exact zo_76 i22_) | assumption) (show (u21_ + 1) ≤ ((z_.length : Nat) : Int) by first | with_reducible assumption | (exact zo_2925 hc_20 hu21_b hz1_ i23_) | assumption) (show zTkF z_ a0_ a1_ ((u21_ + 1)).toNat u20_ by exact hfn_) (show 0 ≤ u20_ ∧ u20_ ≤ 46656 by exact hfr_) (by (exact zo_2926 hc_20 hlt_14 hu21_b hz1_ i23_))
            · skip
              refine zw_lload_n (pc := 55) (n := 3) (x := Int64.ofInt u20_) rfl d_M_fixedBy_55 ?_
              refine zw_iload_n (pc := 56) (n := 2) (x := Int32.ofInt a1_) rfl d_M_fixedBy_56 ?_
              refine zr_i2l (pc := 57) ⟨ha1_a, ha1_b⟩ d_M_fixedBy_57 ?_
              have hm_ : u20_ * a1_ = a1_ ^ ((u21_).toNat + 1) := by first | (exfalso; omega) | rw [hfi_.2.2 (by (exact hc_2)), Int.pow_succ]
              have hmb_ := tkp_6 (n := a1_) (by omega) (by omega) ((u21_).toNat + 1) (by (exact zo_2987 hc_20 hu21_b hz1_ hz2_ i22_ i23_))
              rw [← hm_] at hmb_
              refine zr_lmul (pc := 58) d_M_fixedBy_58 ?_
              refine zk_nmJ (fun v29_ hv29_ hv29_e => ?_)
              obtain ⟨hv29_a, hv29_b⟩ := hv29_
              have hb_ := z64q ⟨by (exact hv29_a), by (exact hv29_b)⟩ ⟨by omega, by omega⟩ hv29_e
              refine zw_lstore_n (pc := 59) (i := 3) (L2 := [some (.ref 81), some (.int (Int32.ofInt a0_)), some (.int (Int32.ofInt a1_)), some (.long (Int64.ofInt v29_)), none, some (.int (Int32.ofInt u21_))]) rfl (by decide) rfl d_M_fixedBy_59 ?_
              refine zr_iinc (pc := 60) (i := 5) (a := u21_) (n := 1) (L2 := [some (.ref 81), some (.int (Int32.ofInt a0_)), some (.int (Int32.ofInt a1_)), some (.long (Int64.ofInt v29_)), none, some (.int (Int32.ofInt (u21_ + 1)))]) rfl (by decide) rfl d_M_fixedBy_60 ?_
              refine zw_goto (pc := 63) (tgt := 14) (by decide) d_M_fixedBy_63 ?_
              have hfn_ : zTkF z_ a0_ a1_ ((u21_ + 1)).toNat v29_ := by first | (exfalso; omega) | exact zTkF_a hfi_ (by omega) (by omega) hx_ (by omega) ha_ | exact zTkF_b hfi_ (by (exact i22_)) (by (exact hc_2)) hb_ | exact zTkF_c hfi_ (by omega)
              have hfr_ := zTkF_r hfn_ (by (exact zo_2986 hc_20 hu21_b hz1_ hz2_ i22_ i23_)) p1_
              exact ih_14 v29_ hv29_a hv29_b (u21_ + 1) (by (exact zo_74 i22_)) (by (exact zo_2965 hu21_b hz2_ i23_)) (show 0 ≤ (u21_ + 1) by first | with_reducible assumption | (exact zo_76 i22_) | assumption) (show (u21_ + 1) ≤ ((z_.length : Nat) : Int) by first | with_reducible assumption | (exact zo_2925 hc_20 hu21_b hz1_ i23_) | assumption) (show zTkF z_ a0_ a1_ ((u21_ + 1)).toNat v29_ by exact hfn_) (show 0 ≤ v29_ ∧ v29_ ≤ 46656 by exact hfr_) (by (exact zo_2926 hc_20 hlt_14 hu21_b hz1_ i23_))
          · skip
            refine zw_lload_n (pc := 27) (n := 3) (x := Int64.ofInt u20_) rfl (zdal_p dlD_M_fixedBy_118 (i := 15) rfl) ?_
            refine zw_aload_n (pc := 28) (n := 0) (x := 81) rfl (zdal_p dlD_M_fixedBy_118 (i := 16) rfl) ?_
            refine zr_getF (r := 112) (hf.w hW) (pc := 29) f_M_109 rfl (zh_112 (hf.w hW)).1 (zdal_p dlD_M_fixedBy_118 (i := 17) rfl) ?_
            refine zw_iload (pc := 32) (i := 5) (x := Int32.ofInt u21_) rfl (zdal_p dlD_M_fixedBy_118 (i := 18) rfl) ?_
            refine zr_ialdn (pc := 34) (zh_112 (hf.w hW)).2 (by decide) (by (exact i22_)) (by (exact zo_2963 hc_20 hu21_b hz1_ hz2_ i23_)) (zdal_p dlD_M_fixedBy_118 (i := 19) rfl) (fun v30_ hv30_ hv30_a hv30_b => ?_)
            have hx_ := (hv30_).trans ((p0_.2 (u21_).toNat (by (exact zo_2962 hc_20 hu21_b hz1_ i22_ i23_))).1)
            refine zw_iconst (pc := 35) (v := Int32.ofInt 1) (by decide) (zdal_p dlD_M_fixedBy_118 (i := 20) rfl) ?_
            refine zr_icmp_ne (pc := 36) (tgt := 43) ⟨hv30_a, hv30_b⟩ ⟨(by decide), (by decide)⟩ (by decide) (zdal_p dlD_M_fixedBy_118 (i := 21) rfl) (fun hc_36 => ?_) (fun hc_36 => ?_)
            · skip
              refine zw_iconst (pc := 43) (v := Int32.ofInt 0) (by decide) (zdal_p dlD_M_fixedBy_119 (i := 0) rfl) ?_
              refine zr_callS hf.x (pc := 44) [.int (Int32.ofInt 0)] [.long (Int64.ofInt u20_)] l_M_256 (c_M_truth l Mz (hf.w hW) 0 (by decide) (by decide) (by (decide))) rfl rfl (by decide) (Nat.le_of_ble_eq_true rfl) (zdal_p dlD_M_fixedBy_119 (i := 1) rfl) ?_
              rintro _ N31_ ⟨v32_, rfl, ⟨hv32_a, hv32_b⟩, hsN31_, hp0_N31_⟩
              obtain rfl := hsN31_.eq.symm
              replace hp0_N31_ : v32_ = 0 := hp0_N31_
              show zW l m_M_fixedBy (zn Mz + 0, zw Mz + 0) Mz 47 [some (.ref 81), some (.int (Int32.ofInt a0_)), some (.int (Int32.ofInt a1_)), some (.long (Int64.ofInt u20_)), none, some (.int (Int32.ofInt u21_))] [.int (Int32.ofInt v32_), .long (Int64.ofInt u20_)] _
              refine zr_i2l (pc := 47) ⟨hv32_a, hv32_b⟩ (zdal_p dlD_M_fixedBy_119 (i := 2) rfl) ?_
              refine zr_ladd (pc := 48) (zdal_p dlD_M_fixedBy_119 (i := 3) rfl) ?_
              refine zk_nmJ (fun v33_ hv33_ hv33_e => ?_)
              obtain ⟨hv33_a, hv33_b⟩ := hv33_
              have ha_ := z64q ⟨by (exact hv33_a), by (exact hv33_b)⟩ ⟨by omega, by omega⟩ hv33_e
              refine zw_lstore_n (pc := 49) (i := 3) (L2 := [some (.ref 81), some (.int (Int32.ofInt a0_)), some (.int (Int32.ofInt a1_)), some (.long (Int64.ofInt v33_)), none, some (.int (Int32.ofInt u21_))]) rfl (by decide) rfl (zdal_p dlD_M_fixedBy_119 (i := 4) rfl) ?_
              refine zw_iload_n (pc := 50) (n := 1) (x := Int32.ofInt a0_) rfl d_M_fixedBy_50 ?_
              refine zw_iconst (pc := 51) (v := Int32.ofInt 2) (by decide) d_M_fixedBy_51 ?_
              refine zr_icmp_ne (pc := 52) (tgt := 60) ⟨ha0_a, ha0_b⟩ ⟨(by decide), (by decide)⟩ (by decide) d_M_fixedBy_52 (fun hc_52 => ?_) (fun hc_52 => ?_)
              · skip
                refine zr_iinc (pc := 60) (i := 5) (a := u21_) (n := 1) (L2 := [some (.ref 81), some (.int (Int32.ofInt a0_)), some (.int (Int32.ofInt a1_)), some (.long (Int64.ofInt v33_)), none, some (.int (Int32.ofInt (u21_ + 1)))]) rfl (by decide) rfl d_M_fixedBy_60 ?_
                refine zw_goto (pc := 63) (tgt := 14) (by decide) d_M_fixedBy_63 ?_
                have hfn_ : zTkF z_ a0_ a1_ ((u21_ + 1)).toNat v33_ := by first | (exfalso; (exact zo_2995 hc_2 hc_24)) | exact zTkF_a hfi_ (by omega) (by omega) hx_ (by omega) ha_ | exact zTkF_b hfi_ (by omega) (by omega) hb_ | exact zTkF_c hfi_ (by omega)
                have hfr_ := zTkF_r hfn_ (by (exact zo_2986 hc_20 hu21_b hz1_ hz2_ i22_ i23_)) p1_
                exact ih_14 v33_ hv33_a hv33_b (u21_ + 1) (by (exact zo_74 i22_)) (by (exact zo_2965 hu21_b hz2_ i23_)) (show 0 ≤ (u21_ + 1) by first | with_reducible assumption | (exact zo_76 i22_) | assumption) (show (u21_ + 1) ≤ ((z_.length : Nat) : Int) by first | with_reducible assumption | (exact zo_2925 hc_20 hu21_b hz1_ i23_) | assumption) (show zTkF z_ a0_ a1_ ((u21_ + 1)).toNat v33_ by exact hfn_) (show 0 ≤ v33_ ∧ v33_ ≤ 46656 by exact hfr_) (by (exact zo_2926 hc_20 hlt_14 hu21_b hz1_ i23_))
              · skip
                refine zw_lload_n (pc := 55) (n := 3) (x := Int64.ofInt v33_) rfl d_M_fixedBy_55 ?_
                refine zw_iload_n (pc := 56) (n := 2) (x := Int32.ofInt a1_) rfl d_M_fixedBy_56 ?_
                refine zr_i2l (pc := 57) ⟨ha1_a, ha1_b⟩ d_M_fixedBy_57 ?_
                have hm_ : v33_ * a1_ = a1_ ^ ((u21_).toNat + 1) := by first | (exfalso; (exact zo_2995 hc_2 hc_24)) | rw [hfi_.2.2 (by omega), Int.pow_succ]
                have hmb_ := tkp_6 (n := a1_) (by omega) (by omega) ((u21_).toNat + 1) (by (exact zo_2987 hc_20 hu21_b hz1_ hz2_ i22_ i23_))
                rw [← hm_] at hmb_
                refine zr_lmul (pc := 58) d_M_fixedBy_58 ?_
                refine zk_nmJ (fun v34_ hv34_ hv34_e => ?_)
                obtain ⟨hv34_a, hv34_b⟩ := hv34_
                have hb_ := z64q ⟨by (exact hv34_a), by (exact hv34_b)⟩ ⟨by omega, by omega⟩ hv34_e
                refine zw_lstore_n (pc := 59) (i := 3) (L2 := [some (.ref 81), some (.int (Int32.ofInt a0_)), some (.int (Int32.ofInt a1_)), some (.long (Int64.ofInt v34_)), none, some (.int (Int32.ofInt u21_))]) rfl (by decide) rfl d_M_fixedBy_59 ?_
                refine zr_iinc (pc := 60) (i := 5) (a := u21_) (n := 1) (L2 := [some (.ref 81), some (.int (Int32.ofInt a0_)), some (.int (Int32.ofInt a1_)), some (.long (Int64.ofInt v34_)), none, some (.int (Int32.ofInt (u21_ + 1)))]) rfl (by decide) rfl d_M_fixedBy_60 ?_
                refine zw_goto (pc := 63) (tgt := 14) (by decide) d_M_fixedBy_63 ?_
                have hfn_ : zTkF z_ a0_ a1_ ((u21_ + 1)).toNat v34_ := by first | (exfalso; (exact zo_2995 hc_2 hc_24)) | exact zTkF_a hfi_ (by omega) (by omega) hx_ (by omega) ha_ | exact zTkF_b hfi_ (by omega) (by omega) hb_ | exact zTkF_c hfi_ (by omega)
                have hfr_ := zTkF_r hfn_ (by (exact zo_2986 hc_20 hu21_b hz1_ hz2_ i22_ i23_)) p1_
                exact ih_14 v34_ hv34_a hv34_b (u21_ + 1) (by (exact zo_74 i22_)) (by (exact zo_2965 hu21_b hz2_ i23_)) (show 0 ≤ (u21_ + 1) by first | with_reducible assumption | (exact zo_76 i22_) | assumption) (show (u21_ + 1) ≤ ((z_.length : Nat) : Int) by first | with_reducible assumption | (exact zo_2925 hc_20 hu21_b hz1_ i23_) | assumption) (show zTkF z_ a0_ a1_ ((u21_ + 1)).toNat v34_ by exact hfn_) (show 0 ≤ v34_ ∧ v34_ ≤ 46656 by exact hfr_) (by (exact zo_2926 hc_20 hlt_14 hu21_b hz1_ i23_))
            · skip
              refine zw_iconst (pc := 39) (v := Int32.ofInt 1) (by decide) (zdal_p dlD_M_fixedBy_118 (i := 22) rfl) ?_
              refine zw_goto (pc := 40) (tgt := 44) (by decide) (zdal_p dlD_M_fixedBy_118 (i := 23) rfl) ?_
              refine zr_callS hf.x (pc := 44) [.int (Int32.ofInt 1)] [.long (Int64.ofInt u20_)] l_M_256 (c_M_truth l Mz (hf.w hW) 1 (by decide) (by decide) (by (decide))) rfl rfl (by decide) (Nat.le_of_ble_eq_true rfl) (zdal_p dlD_M_fixedBy_119 (i := 1) rfl) ?_
              rintro _ N35_ ⟨v36_, rfl, ⟨hv36_a, hv36_b⟩, hsN35_, hp0_N35_⟩
              obtain rfl := hsN35_.eq.symm
              replace hp0_N35_ : v36_ = 1 := hp0_N35_
              show zW l m_M_fixedBy (zn Mz + 0, zw Mz + 0) Mz 47 [some (.ref 81), some (.int (Int32.ofInt a0_)), some (.int (Int32.ofInt a1_)), some (.long (Int64.ofInt u20_)), none, some (.int (Int32.ofInt u21_))] [.int (Int32.ofInt v36_), .long (Int64.ofInt u20_)] _
              refine zr_i2l (pc := 47) ⟨hv36_a, hv36_b⟩ (zdal_p dlD_M_fixedBy_119 (i := 2) rfl) ?_
              refine zr_ladd (pc := 48) (zdal_p dlD_M_fixedBy_119 (i := 3) rfl) ?_
              refine zk_nmJ (fun v37_ hv37_ hv37_e => ?_)
              obtain ⟨hv37_a, hv37_b⟩ := hv37_
              have ha_ := z64q ⟨by (exact hv37_a), by (exact hv37_b)⟩ ⟨by omega, by omega⟩ hv37_e
              refine zw_lstore_n (pc := 49) (i := 3) (L2 := [some (.ref 81), some (.int (Int32.ofInt a0_)), some (.int (Int32.ofInt a1_)), some (.long (Int64.ofInt v37_)), none, some (.int (Int32.ofInt u21_))]) rfl (by decide) rfl (zdal_p dlD_M_fixedBy_119 (i := 4) rfl) ?_
              refine zw_iload_n (pc := 50) (n := 1) (x := Int32.ofInt a0_) rfl d_M_fixedBy_50 ?_
              refine zw_iconst (pc := 51) (v := Int32.ofInt 2) (by decide) d_M_fixedBy_51 ?_
              refine zr_icmp_ne (pc := 52) (tgt := 60) ⟨ha0_a, ha0_b⟩ ⟨(by decide), (by decide)⟩ (by decide) d_M_fixedBy_52 (fun hc_52 => ?_) (fun hc_52 => ?_)
              · skip
                refine zr_iinc (pc := 60) (i := 5) (a := u21_) (n := 1) (L2 := [some (.ref 81), some (.int (Int32.ofInt a0_)), some (.int (Int32.ofInt a1_)), some (.long (Int64.ofInt v37_)), none, some (.int (Int32.ofInt (u21_ + 1)))]) rfl (by decide) rfl d_M_fixedBy_60 ?_
                refine zw_goto (pc := 63) (tgt := 14) (by decide) d_M_fixedBy_63 ?_
                have hfn_ : zTkF z_ a0_ a1_ ((u21_ + 1)).toNat v37_ := by first | (exfalso; (exact zo_2995 hc_2 hc_24)) | exact zTkF_a hfi_ (by omega) (by omega) hx_ (by omega) ha_ | exact zTkF_b hfi_ (by omega) (by omega) hb_ | exact zTkF_c hfi_ (by omega)
                have hfr_ := zTkF_r hfn_ (by (exact zo_2986 hc_20 hu21_b hz1_ hz2_ i22_ i23_)) p1_
                exact ih_14 v37_ hv37_a hv37_b (u21_ + 1) (by (exact zo_74 i22_)) (by (exact zo_2965 hu21_b hz2_ i23_)) (show 0 ≤ (u21_ + 1) by first | with_reducible assumption | (exact zo_76 i22_) | assumption) (show (u21_ + 1) ≤ ((z_.length : Nat) : Int) by first | with_reducible assumption | (exact zo_2925 hc_20 hu21_b hz1_ i23_) | assumption) (show zTkF z_ a0_ a1_ ((u21_ + 1)).toNat v37_ by exact hfn_) (show 0 ≤ v37_ ∧ v37_ ≤ 46656 by exact hfr_) (by (exact zo_2926 hc_20 hlt_14 hu21_b hz1_ i23_))
              · skip
                refine zw_lload_n (pc := 55) (n := 3) (x := Int64.ofInt v37_) rfl d_M_fixedBy_55 ?_
                refine zw_iload_n (pc := 56) (n := 2) (x := Int32.ofInt a1_) rfl d_M_fixedBy_56 ?_
                refine zr_i2l (pc := 57) ⟨ha1_a, ha1_b⟩ d_M_fixedBy_57 ?_
                have hm_ : v37_ * a1_ = a1_ ^ ((u21_).toNat + 1) := by first | (exfalso; (exact zo_2995 hc_2 hc_24)) | rw [hfi_.2.2 (by omega), Int.pow_succ]
                have hmb_ := tkp_6 (n := a1_) (by omega) (by omega) ((u21_).toNat + 1) (by (exact zo_2987 hc_20 hu21_b hz1_ hz2_ i22_ i23_))
                rw [← hm_] at hmb_
                refine zr_lmul (pc := 58) d_M_fixedBy_58 ?_
                refine zk_nmJ (fun v38_ hv38_ hv38_e => ?_)
                obtain ⟨hv38_a, hv38_b⟩ := hv38_
                have hb_ := z64q ⟨by (exact hv38_a), by (exact hv38_b)⟩ ⟨by omega, by omega⟩ hv38_e
                refine zw_lstore_n (pc := 59) (i := 3) (L2 := [some (.ref 81), some (.int (Int32.ofInt a0_)), some (.int (Int32.ofInt a1_)), some (.long (Int64.ofInt v38_)), none, some (.int (Int32.ofInt u21_))]) rfl (by decide) rfl d_M_fixedBy_59 ?_
                refine zr_iinc (pc := 60) (i := 5) (a := u21_) (n := 1) (L2 := [some (.ref 81), some (.int (Int32.ofInt a0_)), some (.int (Int32.ofInt a1_)), some (.long (Int64.ofInt v38_)), none, some (.int (Int32.ofInt (u21_ + 1)))]) rfl (by decide) rfl d_M_fixedBy_60 ?_
                refine zw_goto (pc := 63) (tgt := 14) (by decide) d_M_fixedBy_63 ?_
                have hfn_ : zTkF z_ a0_ a1_ ((u21_ + 1)).toNat v38_ := by first | (exfalso; (exact zo_2995 hc_2 hc_24)) | exact zTkF_a hfi_ (by omega) (by omega) hx_ (by omega) ha_ | exact zTkF_b hfi_ (by omega) (by omega) hb_ | exact zTkF_c hfi_ (by omega)
                have hfr_ := zTkF_r hfn_ (by (exact zo_2986 hc_20 hu21_b hz1_ hz2_ i22_ i23_)) p1_
                exact ih_14 v38_ hv38_a hv38_b (u21_ + 1) (by (exact zo_74 i22_)) (by (exact zo_2965 hu21_b hz2_ i23_)) (show 0 ≤ (u21_ + 1) by first | with_reducible assumption | (exact zo_76 i22_) | assumption) (show (u21_ + 1) ≤ ((z_.length : Nat) : Int) by first | with_reducible assumption | (exact zo_2925 hc_20 hu21_b hz1_ i23_) | assumption) (show zTkF z_ a0_ a1_ ((u21_ + 1)).toNat v38_ by exact hfn_) (show 0 ≤ v38_ ∧ v38_ ≤ 46656 by exact hfr_) (by (exact zo_2926 hc_20 hlt_14 hu21_b hz1_ i23_))
    exact lp_14 _ 1 (by decide) (by decide) 0 (by decide) (by decide) (show 0 ≤ (0 : Int) by first | with_reducible assumption | assumption | omega) (show (0 : Int) ≤ ((z_.length : Nat) : Int) by first | with_reducible assumption | assumption | omega) (show zTkF z_ a0_ a1_ ((0 : Int)).toNat (1 : Int) by first | exact ⟨fun h_ => by omega, fun h_ => by omega, fun _ => (Int.pow_zero _).symm⟩ | exact ⟨fun _ => rfl, fun _ => rfl, fun h_ => by omega⟩) (show 0 ≤ (1 : Int) ∧ (1 : Int) ≤ 46656 by first | with_reducible assumption | assumption | omega) (Nat.lt_succ_self _)
set_option maxHeartbeats 4000000 in
theorem c_M_numbers_96_98S (l : Launch) (Mz : zMem) (hW : zMt Mz) (a2_ : Int) (ha2_a : -2147483648 ≤ a2_) (ha2_b : a2_ < 2147483648) (F_ : Nat) (K_ : Nat → Nat → Int) (hA_ : zTA F_ K_) (p0_ : zRmk F_ K_ Mz) (p1_ : 0 ≤ a2_) (p2_ : a2_ ≤ 0) (p3_ : (∀ j : Nat, j < F_ → -1000000 ≤ zg Mz 96 j ∧ zg Mz 96 j ≤ 1000000)) : zC l m_M_numbers 0 0 [.ref 81, .ref 96, .ref 98, .int (Int32.ofInt a2_)] Mz (zpV [] [98] Mz (fun N => (∀ k : Nat, k < F_ → zg N 98 k = (zsq F_ K_ (fun j_ => zg Mz 96 j_)) k))) := by
  refine zC_of (L0 := [some (.ref 81), some (.ref 96), some (.ref 98), some (.int (Int32.ofInt a2_)), none, none, none, none]) md_M_numbers (Nat.le_of_ble_eq_true rfl) rfl ?_ zQ0
  have hf : zFr [] [98] Mz Mz := zFr.rf
  have r_26 := ze_r Mz 81 26
  obtain ⟨⟨hF1_, hF27_⟩, hAr_⟩ := id hA_
  obtain ⟨hFc_, hKt_⟩ := id p0_
  refine zw_aload_n (pc := 0) (n := 0) (x := 81) rfl (zdal_p dlC_M_numbers_126 (i := 0) rfl) ?_
  refine zr_getI0 hf hW (pc := 1) (by decide) f_M_235 rfl (zdal_p dlC_M_numbers_126 (i := 1) rfl) ?_
  refine zw_iconst (pc := 4) (v := Int32.ofInt 1) (by decide) (zdal_p dlC_M_numbers_126 (i := 2) rfl) ?_
  refine zr_isub (pc := 5) (zdal_p dlC_M_numbers_126 (i := 3) rfl) ?_
  refine zw_istore (pc := 6) (i := 4) (L2 := [some (.ref 81), some (.ref 96), some (.ref 98), some (.int (Int32.ofInt a2_)), some (.int (Int32.ofInt ((ze Mz 81 26) - 1))), none, none, none]) (by decide) rfl (zdal_p dlC_M_numbers_126 (i := 4) rfl) ?_
  have lp_8 : ∀ (n : Nat) (u1_ : Int) (hu1_a : -2147483648 ≤ u1_) (hu1_b : u1_ < 2147483648) (N2_ : zMem) (hs3_ : zFr [] [98] Mz N2_) (i4_ : u1_ < F_) (i5_ : -1 ≤ u1_) (i6_ : zUw 98 F_ N2_ (zsq F_ K_ (fun j_ => zg Mz 96 j_)) u1_), (u1_ + 1).toNat < n → zW l m_M_numbers (zn Mz + 0, zw Mz + 0) N2_ 8 [some (.ref 81), some (.ref 96), some (.ref 98), some (.int (Int32.ofInt a2_)), some (.int (Int32.ofInt u1_)), none, none, none] [] (zpV [] [98] Mz (fun N => (∀ k : Nat, k < F_ → zg N 98 k = (zsq F_ K_ (fun j_ => zg Mz 96 j_)) k))) := by
    intro n
    induction n with
    | zero =>
      intro u1_ hu1_a hu1_b N2_ hs3_ i4_ i5_ i6_ h0
      exact absurd h0 (Nat.not_lt_zero _)
    | succ n ih_8 =>
      intro u1_ hu1_a hu1_b N2_ hs3_ i4_ i5_ i6_ hlt_8
      have hf_N2_ : zFr [] [98] Mz N2_ := hf.tr hs3_ (by decide) (by decide)
      have e26_N2_ : ze N2_ 81 26 = ze Mz 81 26 := hs3_.e (by decide)
      have c7_ : zRmk F_ K_ N2_ := zRmk.fr hs3_ p0_ (by decide) (by decide)
      refine zw_iload (pc := 8) (i := 4) (x := Int32.ofInt u1_) rfl (zdal_p dlC_M_numbers_126 (i := 5) rfl) ?_
      refine zr_if_lt (pc := 10) (tgt := 95) ⟨hu1_a, hu1_b⟩ (by decide) (zdal_p dlC_M_numbers_126 (i := 6) rfl) (fun hc_10 => ?_) (fun hc_10 => ?_)
      · skip
        exact zr_vret (pc := 95) rfl hf_N2_ (show (∀ k : Nat, k < F_ → zg N2_ 98 k = (zsq F_ K_ (fun j_ => zg Mz 96 j_)) k) by exact fun k_ hk_ => (show zUw 98 F_ N2_ (zsq F_ K_ (fun j_ => zg Mz 96 j_)) u1_ by first | with_reducible assumption | assumption) k_ (by omega) (by omega)) (zdal_p dlC_M_numbers_128 (i := 9) rfl)
      · skip
        refine zw_aload_n (pc := 13) (n := 1) (x := 96) rfl (zdal_p dlC_M_numbers_126 (i := 7) rfl) ?_
        refine zw_iload (pc := 14) (i := 4) (x := Int32.ofInt u1_) rfl (zdal_p dlC_M_numbers_126 (i := 8) rfl) ?_
        refine zr_laldn (pc := 16) (zh_96 (hf_N2_.w hW)).2 (by decide) (by (exact hc_10)) (by (exact zo_2634 hF27_ hu1_b i4_)) (zdal_p dlC_M_numbers_126 (i := 9) rfl) (fun v8_ hv8_ hv8_a hv8_b => ?_)
        rw [hf_N2_.jg (by decide) (by decide)] at hv8_
        have hr0_ := hv8_
        refine zw_lstore (pc := 17) (i := 5) (L2 := [some (.ref 81), some (.ref 96), some (.ref 98), some (.int (Int32.ofInt a2_)), some (.int (Int32.ofInt u1_)), some (.long (Int64.ofInt v8_)), none, none]) (by decide) rfl (zdal_p dlC_M_numbers_126 (i := 10) rfl) ?_
        refine zw_iload (pc := 19) (i := 4) (x := Int32.ofInt u1_) rfl (zdal_p dlC_M_numbers_126 (i := 11) rfl) ?_
        refine zw_iconst (pc := 21) (v := Int32.ofInt 1) (by decide) (zdal_p dlC_M_numbers_126 (i := 12) rfl) ?_
        refine zr_iadd (pc := 22) (zdal_p dlC_M_numbers_126 (i := 13) rfl) ?_
        refine zw_istore (pc := 23) (i := 7) (L2 := [some (.ref 81), some (.ref 96), some (.ref 98), some (.int (Int32.ofInt a2_)), some (.int (Int32.ofInt u1_)), some (.long (Int64.ofInt v8_)), none, some (.int (Int32.ofInt (u1_ + 1)))]) (by decide) rfl (zdal_p dlC_M_numbers_126 (i := 14) rfl) ?_
        have hup_ := (show zUw 98 F_ N2_ (zsq F_ K_ (fun j_ => zg Mz 96 j_)) u1_ by first | with_reducible assumption | assumption)
        have lp_25 : ∀ (n : Nat) (u9_ : Int) (hu9_a : -9223372036854775808 ≤ u9_) (hu9_b : u9_ < 9223372036854775808) (u10_ : Int) (hu10_a : -2147483648 ≤ u10_) (hu10_b : u10_ < 2147483648) (i11_ : u1_ < u10_) (i12_ : u10_ ≤ F_) (i13_ : zrX F_ K_ (fun j_ => zg Mz 96 j_) u9_ u1_ u10_), (F_ - u10_).toNat < n → zW l m_M_numbers (zn Mz + 0, zw Mz + 0) N2_ 25 [some (.ref 81), some (.ref 96), some (.ref 98), some (.int (Int32.ofInt a2_)), some (.int (Int32.ofInt u1_)), some (.long (Int64.ofInt u9_)), none, some (.int (Int32.ofInt u10_))] [] (zpV [] [98] Mz (fun N => (∀ k : Nat, k < F_ → zg N 98 k = (zsq F_ K_ (fun j_ => zg Mz 96 j_)) k))) := by
          intro n
          induction n with
          | zero =>
            intro u9_ hu9_a hu9_b u10_ hu10_a hu10_b i11_ i12_ i13_ h0
            exact absurd h0 (Nat.not_lt_zero _)
          | succ n ih_25 =>
            intro u9_ hu9_a hu9_b u10_ hu10_a hu10_b i11_ i12_ i13_ hlt_25
            have hxi_ := (show zrX F_ K_ (fun j_ => zg Mz 96 j_) u9_ u1_ u10_ by first | with_reducible assumption | assumption)
            refine zw_iload (pc := 25) (i := 7) (x := Int32.ofInt u10_) rfl (zdal_p dlC_M_numbers_126 (i := 15) rfl) ?_
            refine zw_aload_n (pc := 27) (n := 0) (x := 81) rfl (zdal_p dlC_M_numbers_126 (i := 16) rfl) ?_
            refine zr_getI0 hf_N2_ hW (pc := 28) (by decide) f_M_235 rfl (zdal_p dlC_M_numbers_126 (i := 17) rfl) ?_
            refine zr_icmp_ge (pc := 31) (tgt := 66) ⟨hu10_a, hu10_b⟩ ⟨(ze_r Mz 81 26).1, (ze_r Mz 81 26).2⟩ (by decide) (zdal_p dlC_M_numbers_126 (i := 18) rfl) (fun hc_31 => ?_) (fun hc_31 => ?_)
            · skip
              refine zw_aload_n (pc := 66) (n := 2) (x := 98) rfl (zdal_p dlC_M_numbers_127 (i := 15) rfl) ?_
              refine zw_iload_n (pc := 67) (n := 3) (x := Int32.ofInt a2_) rfl (zdal_p dlC_M_numbers_127 (i := 16) rfl) ?_
              refine zw_iload (pc := 68) (i := 4) (x := Int32.ofInt u1_) rfl (zdal_p dlC_M_numbers_127 (i := 17) rfl) ?_
              refine zr_iadd (pc := 70) (zdal_p dlC_M_numbers_127 (i := 18) rfl) ?_
              refine zw_lload (pc := 71) (i := 5) (x := Int64.ofInt u9_) rfl (zdal_p dlC_M_numbers_127 (i := 19) rfl) ?_
              refine zw_aload_n (pc := 73) (n := 0) (x := 81) rfl (zdal_p dlC_M_numbers_127 (i := 20) rfl) ?_
              refine zr_getF (r := 93) (hf_N2_.w hW) (pc := 74) f_M_50 rfl (zh_93 (hf_N2_.w hW)).1 (zdal_p dlC_M_numbers_127 (i := 21) rfl) ?_
              refine zw_bipush (pc := 77) (v := Int32.ofInt 64) (by decide) (zdal_p dlC_M_numbers_127 (i := 22) rfl) ?_
              refine zw_iload (pc := 79) (i := 4) (x := Int32.ofInt u1_) rfl (zdal_p dlC_M_numbers_127 (i := 23) rfl) ?_
              refine zr_imul (pc := 81) (zdal_p dlC_M_numbers_128 (i := 0) rfl) ?_
              refine zw_iload (pc := 82) (i := 4) (x := Int32.ofInt u1_) rfl (zdal_p dlC_M_numbers_128 (i := 1) rfl) ?_
              refine zr_iadd (pc := 84) (zdal_p dlC_M_numbers_128 (i := 2) rfl) ?_
              refine zr_ialdn (pc := 85) (zh_93 (hf_N2_.w hW)).2 (by decide) (by (exact zo_888 hc_10)) (by (exact zo_2635 hF27_ hu1_b i4_)) (zdal_p dlC_M_numbers_128 (i := 3) rfl) (fun v14_ hv14_ hv14_a hv14_b => ?_)
              rw [hf_N2_.ie (by decide) (by decide)] at hv14_
              have hm_ := p0_.k (by (exact hc_10)) (by (exact i4_)) (by (exact hc_10)) (by (exact i4_)) hv14_
              have hm1_ := hAr_.2.2.1 (u1_).toNat (by (exact zo_2213 hc_10 hu1_b i4_))
              refine zr_i2l (pc := 86) ⟨hv14_a, hv14_b⟩ (zdal_p dlC_M_numbers_128 (i := 4) rfl) ?_
              refine zr_ldiv (pc := 87) ⟨by (exact zo_282 hv14_a), by (exact zo_283 hv14_b)⟩ (by (exact zo_2636 hm1_ hm_)) (zdal_p dlC_M_numbers_128 (i := 5) rfl) ?_
              have hr15_ := zlquo_r u9_ v14_
              obtain ⟨q_, hq_⟩ : ∃ q, q = (zlquo u9_ v14_) := ⟨_, rfl⟩
              have hqu_ := zrX_e hA_ p3_ hxi_ (by (exact zo_2214 hF27_ hFc_ hc_10 hc_31 hu10_b i11_ i12_)) ⟨by (exact hu9_a), by (exact hu9_b)⟩ (by (exact hc_10)) (by (exact i4_)) hm_ hq_
              refine zr_last (pc := 88) (zh_98 (hf_N2_.w hW)).2 (by decide) (by decide) (by (exact zo_833 hc_10 p1_)) (by omega) (zdal_p dlC_M_numbers_128 (i := 6) rfl) (fun N16_ hN16_ hsN16_ => ?_)
              have hf_N16_ : zFr [] [98] Mz N16_ := hf_N2_.tr hsN16_ (by decide) (by decide)
              have hb0_N16_ : zFr [] [98] Mz N16_ := hs3_.tr hsN16_ (by decide) (by decide)
              have e26_N16_ : ze N16_ 81 26 = ze N2_ 81 26 := hsN16_.e (by decide)
              have c17_ : zRmk F_ K_ N16_ := zRmk.fr hsN16_ c7_ (by decide) (by decide)
              have hN_ := hN16_
              rw [show (a2_ + u1_).toNat = (u1_).toNat by omega] at hN_
              have hu1_ := zUw_s hup_ hN_ ⟨by (exact zo_79 hr15_.1), by (exact zo_80 hr15_.2)⟩ (by (exact hc_10)) (by rw [← hq_]; exact hqu_)
              refine zr_iinc (pc := 89) (i := 4) (a := u1_) (n := -1) (L2 := [some (.ref 81), some (.ref 96), some (.ref 98), some (.int (Int32.ofInt a2_)), some (.int (Int32.ofInt (u1_ + (-1)))), some (.long (Int64.ofInt u9_)), none, some (.int (Int32.ofInt u10_))]) rfl (by decide) rfl (zdal_p dlC_M_numbers_128 (i := 7) rfl) ?_
              refine zw_goto (pc := 92) (tgt := 8) (by decide) (zdal_p dlC_M_numbers_128 (i := 8) rfl) ?_
              refine zW_le [some (.ref 81), some (.ref 96), some (.ref 98), some (.int (Int32.ofInt a2_)), some (.int (Int32.ofInt (u1_ + (-1)))), none, none, none] (⟨rfl, rfl, rfl, rfl, rfl, trivial⟩) ?_
              exact ih_8 (u1_ + (-1)) (by (exact zo_892 hc_10)) (by (exact zo_893 hu1_b)) N16_ hb0_N16_ (show (u1_ + (-1)) < F_ by first | with_reducible assumption | (exact zo_2217 hu1_b i4_) | assumption) (show -1 ≤ (u1_ + (-1)) by first | with_reducible assumption | (exact zo_938 hc_10) | assumption) (show zUw 98 F_ N16_ (zsq F_ K_ (fun j_ => zg Mz 96 j_)) (u1_ + (-1)) by exact hu1_) (by (exact zo_896 hc_10 hlt_8 hu1_b))
            · skip
              refine zw_lload (pc := 34) (i := 5) (x := Int64.ofInt u9_) rfl (zdal_p dlC_M_numbers_126 (i := 19) rfl) ?_
              refine zw_aload_n (pc := 36) (n := 2) (x := 98) rfl (zdal_p dlC_M_numbers_126 (i := 20) rfl) ?_
              refine zw_iload_n (pc := 37) (n := 3) (x := Int32.ofInt a2_) rfl (zdal_p dlC_M_numbers_126 (i := 21) rfl) ?_
              refine zw_iload (pc := 38) (i := 7) (x := Int32.ofInt u10_) rfl (zdal_p dlC_M_numbers_126 (i := 22) rfl) ?_
              refine zr_iadd (pc := 40) (zdal_p dlC_M_numbers_126 (i := 23) rfl) ?_
              refine zr_laldn (pc := 41) (zh_98 (hf_N2_.w hW)).2 (by decide) (by (exact zo_2639 hc_10 hu10_a i11_ p1_)) (by omega) (zdal_p dlC_M_numbers_127 (i := 0) rfl) (fun v18_ hv18_ hv18_a hv18_b => ?_)
              have hx_ := hv18_
              rw [show (a2_ + u10_).toNat = (u10_).toNat by omega] at hx_
              have hx2_ := hx_.trans (hup_ (u10_).toNat (by omega) (by omega))
              refine zw_aload_n (pc := 42) (n := 0) (x := 81) rfl (zdal_p dlC_M_numbers_127 (i := 1) rfl) ?_
              refine zr_getF (r := 93) (hf_N2_.w hW) (pc := 43) f_M_50 rfl (zh_93 (hf_N2_.w hW)).1 (zdal_p dlC_M_numbers_127 (i := 2) rfl) ?_
              refine zw_bipush (pc := 46) (v := Int32.ofInt 64) (by decide) (zdal_p dlC_M_numbers_127 (i := 3) rfl) ?_
              refine zw_iload (pc := 48) (i := 7) (x := Int32.ofInt u10_) rfl (zdal_p dlC_M_numbers_127 (i := 4) rfl) ?_
              refine zr_imul (pc := 50) (zdal_p dlC_M_numbers_127 (i := 5) rfl) ?_
              refine zw_iload (pc := 51) (i := 4) (x := Int32.ofInt u1_) rfl (zdal_p dlC_M_numbers_127 (i := 6) rfl) ?_
              refine zr_iadd (pc := 53) (zdal_p dlC_M_numbers_127 (i := 7) rfl) ?_
              refine zr_ialdn (pc := 54) (zh_93 (hf_N2_.w hW)).2 (by decide) (by (exact zo_2640 hc_10 i11_)) (by (exact zo_2641 hF27_ hu10_b hu1_b i12_ i4_)) (zdal_p dlC_M_numbers_127 (i := 8) rfl) (fun v19_ hv19_ hv19_a hv19_b => ?_)
              rw [hf_N2_.ie (by decide) (by decide)] at hv19_
              have hy_ := p0_.k (by (exact zo_2222 hc_10 hu10_a i11_)) (by (exact zo_2223 hFc_ hc_31 hu10_b i12_)) (by (exact hc_10)) (by (exact i4_)) hv19_
              refine zr_i2l (pc := 55) ⟨hv19_a, hv19_b⟩ (zdal_p dlC_M_numbers_127 (i := 9) rfl) ?_
              refine zr_lmul (pc := 56) (zdal_p dlC_M_numbers_127 (i := 10) rfl) ?_
              refine zr_lsub (pc := 57) (zdal_p dlC_M_numbers_127 (i := 11) rfl) ?_
              refine zk_nmJ (fun v20_ hv20_ hv20_e => ?_)
              obtain ⟨hv20_a, hv20_b⟩ := hv20_
              have hz_ := zrX_s hxi_ hv20_e (by (exact hc_10)) (by (exact i11_)) (by (exact zo_2223 hFc_ hc_31 hu10_b i12_)) hx2_ hy_
              refine zw_lstore (pc := 58) (i := 5) (L2 := [some (.ref 81), some (.ref 96), some (.ref 98), some (.int (Int32.ofInt a2_)), some (.int (Int32.ofInt u1_)), some (.long (Int64.ofInt v20_)), none, some (.int (Int32.ofInt u10_))]) (by decide) rfl (zdal_p dlC_M_numbers_127 (i := 12) rfl) ?_
              refine zr_iinc (pc := 60) (i := 7) (a := u10_) (n := 1) (L2 := [some (.ref 81), some (.ref 96), some (.ref 98), some (.int (Int32.ofInt a2_)), some (.int (Int32.ofInt u1_)), some (.long (Int64.ofInt v20_)), none, some (.int (Int32.ofInt (u10_ + 1)))]) rfl (by decide) rfl (zdal_p dlC_M_numbers_127 (i := 13) rfl) ?_
              refine zw_goto (pc := 63) (tgt := 25) (by decide) (zdal_p dlC_M_numbers_127 (i := 14) rfl) ?_
              exact ih_25 v20_ hv20_a hv20_b (u10_ + 1) (by (exact zo_679 hu10_a)) (by (exact zo_75 hF27_ hu10_b i12_)) (show u1_ < (u10_ + 1) by first | with_reducible assumption | (exact zo_2224 i11_) | assumption) (show (u10_ + 1) ≤ F_ by first | with_reducible assumption | (exact zo_77 hFc_ hc_31 hu10_b i12_) | assumption) (show zrX F_ K_ (fun j_ => zg Mz 96 j_) v20_ u1_ (u10_ + 1) by exact hz_) (by (exact zo_78 hFc_ hc_31 hlt_25 hu10_b i12_))
        exact lp_25 _ v8_ hv8_a hv8_b (u1_ + 1) (by (exact zo_74 hc_10)) (by (exact zo_2225 hF27_ hu1_b i4_)) (show u1_ < (u1_ + 1) by first | with_reducible assumption | (exact zo_683) | assumption) (show (u1_ + 1) ≤ F_ by first | with_reducible assumption | assumption | omega) (show zrX F_ K_ (fun j_ => zg Mz 96 j_) v8_ u1_ (u1_ + 1) by exact zrX_0 hr0_) (Nat.lt_succ_self _)
  exact lp_8 _ ((ze Mz 81 26) - 1) (by (exact zo_786 hFc_ r_26.1)) (by (exact zo_601 r_26.2)) Mz zFr.rf (show ((ze Mz 81 26) - 1) < F_ by first | with_reducible assumption | (exact zo_792 hFc_ r_26.2) | assumption) (show -1 ≤ ((ze Mz 81 26) - 1) by first | with_reducible assumption | (exact zo_2226 hFc_ r_26.1) | assumption) (show zUw 98 F_ Mz (zsq F_ K_ (fun j_ => zg Mz 96 j_)) ((ze Mz 81 26) - 1) by exact zUw_0 (by (exact zo_2227 hFc_))) (Nat.lt_succ_self _)
set_option maxHeartbeats 4000000 in
theorem c_M_numbers_99_98S (l : Launch) (Mz : zMem) (hW : zMt Mz) (a2_ : Int) (ha2_a : -2147483648 ≤ a2_) (ha2_b : a2_ < 2147483648) (F_ : Nat) (K_ : Nat → Nat → Int) (hA_ : zTA F_ K_) (p0_ : zRmk F_ K_ Mz) (p1_ : 0 ≤ a2_) (p2_ : a2_ ≤ 0) (p3_ : (∀ j : Nat, j < F_ → -1000000 ≤ zg Mz 99 j ∧ zg Mz 99 j ≤ 1000000)) : zC l m_M_numbers 0 0 [.ref 81, .ref 99, .ref 98, .int (Int32.ofInt a2_)] Mz (zpV [] [98] Mz (fun N => (∀ k : Nat, k < F_ → zg N 98 k = (zsq F_ K_ (fun j_ => zg Mz 99 j_)) k))) := by
  refine zC_of (L0 := [some (.ref 81), some (.ref 99), some (.ref 98), some (.int (Int32.ofInt a2_)), none, none, none, none]) md_M_numbers (Nat.le_of_ble_eq_true rfl) rfl ?_ zQ0
  have hf : zFr [] [98] Mz Mz := zFr.rf
  have r_26 := ze_r Mz 81 26
  obtain ⟨⟨hF1_, hF27_⟩, hAr_⟩ := id hA_
  obtain ⟨hFc_, hKt_⟩ := id p0_
  refine zw_aload_n (pc := 0) (n := 0) (x := 81) rfl (zdal_p dlC_M_numbers_126 (i := 0) rfl) ?_
  refine zr_getI0 hf hW (pc := 1) (by decide) f_M_235 rfl (zdal_p dlC_M_numbers_126 (i := 1) rfl) ?_
  refine zw_iconst (pc := 4) (v := Int32.ofInt 1) (by decide) (zdal_p dlC_M_numbers_126 (i := 2) rfl) ?_
  refine zr_isub (pc := 5) (zdal_p dlC_M_numbers_126 (i := 3) rfl) ?_
  refine zw_istore (pc := 6) (i := 4) (L2 := [some (.ref 81), some (.ref 99), some (.ref 98), some (.int (Int32.ofInt a2_)), some (.int (Int32.ofInt ((ze Mz 81 26) - 1))), none, none, none]) (by decide) rfl (zdal_p dlC_M_numbers_126 (i := 4) rfl) ?_
  have lp_8 : ∀ (n : Nat) (u1_ : Int) (hu1_a : -2147483648 ≤ u1_) (hu1_b : u1_ < 2147483648) (N2_ : zMem) (hs3_ : zFr [] [98] Mz N2_) (i4_ : u1_ < F_) (i5_ : -1 ≤ u1_) (i6_ : zUw 98 F_ N2_ (zsq F_ K_ (fun j_ => zg Mz 99 j_)) u1_), (u1_ + 1).toNat < n → zW l m_M_numbers (zn Mz + 0, zw Mz + 0) N2_ 8 [some (.ref 81), some (.ref 99), some (.ref 98), some (.int (Int32.ofInt a2_)), some (.int (Int32.ofInt u1_)), none, none, none] [] (zpV [] [98] Mz (fun N => (∀ k : Nat, k < F_ → zg N 98 k = (zsq F_ K_ (fun j_ => zg Mz 99 j_)) k))) := by
    intro n
    induction n with
    | zero =>
      intro u1_ hu1_a hu1_b N2_ hs3_ i4_ i5_ i6_ h0
      exact absurd h0 (Nat.not_lt_zero _)
    | succ n ih_8 =>
      intro u1_ hu1_a hu1_b N2_ hs3_ i4_ i5_ i6_ hlt_8
      have hf_N2_ : zFr [] [98] Mz N2_ := hf.tr hs3_ (by decide) (by decide)
      have e26_N2_ : ze N2_ 81 26 = ze Mz 81 26 := hs3_.e (by decide)
      have c7_ : zRmk F_ K_ N2_ := zRmk.fr hs3_ p0_ (by decide) (by decide)
      refine zw_iload (pc := 8) (i := 4) (x := Int32.ofInt u1_) rfl (zdal_p dlC_M_numbers_126 (i := 5) rfl) ?_
      refine zr_if_lt (pc := 10) (tgt := 95) ⟨hu1_a, hu1_b⟩ (by decide) (zdal_p dlC_M_numbers_126 (i := 6) rfl) (fun hc_10 => ?_) (fun hc_10 => ?_)
      · skip
        exact zr_vret (pc := 95) rfl hf_N2_ (show (∀ k : Nat, k < F_ → zg N2_ 98 k = (zsq F_ K_ (fun j_ => zg Mz 99 j_)) k) by exact fun k_ hk_ => (show zUw 98 F_ N2_ (zsq F_ K_ (fun j_ => zg Mz 99 j_)) u1_ by first | with_reducible assumption | assumption) k_ (by omega) (by omega)) (zdal_p dlC_M_numbers_128 (i := 9) rfl)
      · skip
        refine zw_aload_n (pc := 13) (n := 1) (x := 99) rfl (zdal_p dlC_M_numbers_126 (i := 7) rfl) ?_
        refine zw_iload (pc := 14) (i := 4) (x := Int32.ofInt u1_) rfl (zdal_p dlC_M_numbers_126 (i := 8) rfl) ?_
        refine zr_laldn (pc := 16) (zh_99 (hf_N2_.w hW)).2 (by decide) (by (exact hc_10)) (by (exact zo_2634 hF27_ hu1_b i4_)) (zdal_p dlC_M_numbers_126 (i := 9) rfl) (fun v8_ hv8_ hv8_a hv8_b => ?_)
        rw [hf_N2_.jg (by decide) (by decide)] at hv8_
        have hr0_ := hv8_
        refine zw_lstore (pc := 17) (i := 5) (L2 := [some (.ref 81), some (.ref 99), some (.ref 98), some (.int (Int32.ofInt a2_)), some (.int (Int32.ofInt u1_)), some (.long (Int64.ofInt v8_)), none, none]) (by decide) rfl (zdal_p dlC_M_numbers_126 (i := 10) rfl) ?_
        refine zw_iload (pc := 19) (i := 4) (x := Int32.ofInt u1_) rfl (zdal_p dlC_M_numbers_126 (i := 11) rfl) ?_
        refine zw_iconst (pc := 21) (v := Int32.ofInt 1) (by decide) (zdal_p dlC_M_numbers_126 (i := 12) rfl) ?_
        refine zr_iadd (pc := 22) (zdal_p dlC_M_numbers_126 (i := 13) rfl) ?_
        refine zw_istore (pc := 23) (i := 7) (L2 := [some (.ref 81), some (.ref 99), some (.ref 98), some (.int (Int32.ofInt a2_)), some (.int (Int32.ofInt u1_)), some (.long (Int64.ofInt v8_)), none, some (.int (Int32.ofInt (u1_ + 1)))]) (by decide) rfl (zdal_p dlC_M_numbers_126 (i := 14) rfl) ?_
        have hup_ := (show zUw 98 F_ N2_ (zsq F_ K_ (fun j_ => zg Mz 99 j_)) u1_ by first | with_reducible assumption | assumption)
        have lp_25 : ∀ (n : Nat) (u9_ : Int) (hu9_a : -9223372036854775808 ≤ u9_) (hu9_b : u9_ < 9223372036854775808) (u10_ : Int) (hu10_a : -2147483648 ≤ u10_) (hu10_b : u10_ < 2147483648) (i11_ : u1_ < u10_) (i12_ : u10_ ≤ F_) (i13_ : zrX F_ K_ (fun j_ => zg Mz 99 j_) u9_ u1_ u10_), (F_ - u10_).toNat < n → zW l m_M_numbers (zn Mz + 0, zw Mz + 0) N2_ 25 [some (.ref 81), some (.ref 99), some (.ref 98), some (.int (Int32.ofInt a2_)), some (.int (Int32.ofInt u1_)), some (.long (Int64.ofInt u9_)), none, some (.int (Int32.ofInt u10_))] [] (zpV [] [98] Mz (fun N => (∀ k : Nat, k < F_ → zg N 98 k = (zsq F_ K_ (fun j_ => zg Mz 99 j_)) k))) := by
          intro n
          induction n with
          | zero =>
            intro u9_ hu9_a hu9_b u10_ hu10_a hu10_b i11_ i12_ i13_ h0
            exact absurd h0 (Nat.not_lt_zero _)
          | succ n ih_25 =>
            intro u9_ hu9_a hu9_b u10_ hu10_a hu10_b i11_ i12_ i13_ hlt_25
            have hxi_ := (show zrX F_ K_ (fun j_ => zg Mz 99 j_) u9_ u1_ u10_ by first | with_reducible assumption | assumption)
            refine zw_iload (pc := 25) (i := 7) (x := Int32.ofInt u10_) rfl (zdal_p dlC_M_numbers_126 (i := 15) rfl) ?_
            refine zw_aload_n (pc := 27) (n := 0) (x := 81) rfl (zdal_p dlC_M_numbers_126 (i := 16) rfl) ?_
            refine zr_getI0 hf_N2_ hW (pc := 28) (by decide) f_M_235 rfl (zdal_p dlC_M_numbers_126 (i := 17) rfl) ?_
            refine zr_icmp_ge (pc := 31) (tgt := 66) ⟨hu10_a, hu10_b⟩ ⟨(ze_r Mz 81 26).1, (ze_r Mz 81 26).2⟩ (by decide) (zdal_p dlC_M_numbers_126 (i := 18) rfl) (fun hc_31 => ?_) (fun hc_31 => ?_)
            · skip
              refine zw_aload_n (pc := 66) (n := 2) (x := 98) rfl (zdal_p dlC_M_numbers_127 (i := 15) rfl) ?_
              refine zw_iload_n (pc := 67) (n := 3) (x := Int32.ofInt a2_) rfl (zdal_p dlC_M_numbers_127 (i := 16) rfl) ?_
              refine zw_iload (pc := 68) (i := 4) (x := Int32.ofInt u1_) rfl (zdal_p dlC_M_numbers_127 (i := 17) rfl) ?_
              refine zr_iadd (pc := 70) (zdal_p dlC_M_numbers_127 (i := 18) rfl) ?_
              refine zw_lload (pc := 71) (i := 5) (x := Int64.ofInt u9_) rfl (zdal_p dlC_M_numbers_127 (i := 19) rfl) ?_
              refine zw_aload_n (pc := 73) (n := 0) (x := 81) rfl (zdal_p dlC_M_numbers_127 (i := 20) rfl) ?_
              refine zr_getF (r := 93) (hf_N2_.w hW) (pc := 74) f_M_50 rfl (zh_93 (hf_N2_.w hW)).1 (zdal_p dlC_M_numbers_127 (i := 21) rfl) ?_
              refine zw_bipush (pc := 77) (v := Int32.ofInt 64) (by decide) (zdal_p dlC_M_numbers_127 (i := 22) rfl) ?_
              refine zw_iload (pc := 79) (i := 4) (x := Int32.ofInt u1_) rfl (zdal_p dlC_M_numbers_127 (i := 23) rfl) ?_
              refine zr_imul (pc := 81) (zdal_p dlC_M_numbers_128 (i := 0) rfl) ?_
              refine zw_iload (pc := 82) (i := 4) (x := Int32.ofInt u1_) rfl (zdal_p dlC_M_numbers_128 (i := 1) rfl) ?_
              refine zr_iadd (pc := 84) (zdal_p dlC_M_numbers_128 (i := 2) rfl) ?_
              refine zr_ialdn (pc := 85) (zh_93 (hf_N2_.w hW)).2 (by decide) (by (exact zo_888 hc_10)) (by (exact zo_2635 hF27_ hu1_b i4_)) (zdal_p dlC_M_numbers_128 (i := 3) rfl) (fun v14_ hv14_ hv14_a hv14_b => ?_)
              rw [hf_N2_.ie (by decide) (by decide)] at hv14_
              have hm_ := p0_.k (by (exact hc_10)) (by (exact i4_)) (by (exact hc_10)) (by (exact i4_)) hv14_
              have hm1_ := hAr_.2.2.1 (u1_).toNat (by (exact zo_2213 hc_10 hu1_b i4_))
              refine zr_i2l (pc := 86) ⟨hv14_a, hv14_b⟩ (zdal_p dlC_M_numbers_128 (i := 4) rfl) ?_
              refine zr_ldiv (pc := 87) ⟨by (exact zo_282 hv14_a), by (exact zo_283 hv14_b)⟩ (by (exact zo_2636 hm1_ hm_)) (zdal_p dlC_M_numbers_128 (i := 5) rfl) ?_
              have hr15_ := zlquo_r u9_ v14_
              obtain ⟨q_, hq_⟩ : ∃ q, q = (zlquo u9_ v14_) := ⟨_, rfl⟩
              have hqu_ := zrX_e hA_ p3_ hxi_ (by (exact zo_2214 hF27_ hFc_ hc_10 hc_31 hu10_b i11_ i12_)) ⟨by (exact hu9_a), by (exact hu9_b)⟩ (by (exact hc_10)) (by (exact i4_)) hm_ hq_
              refine zr_last (pc := 88) (zh_98 (hf_N2_.w hW)).2 (by decide) (by decide) (by (exact zo_833 hc_10 p1_)) (by omega) (zdal_p dlC_M_numbers_128 (i := 6) rfl) (fun N16_ hN16_ hsN16_ => ?_)
              have hf_N16_ : zFr [] [98] Mz N16_ := hf_N2_.tr hsN16_ (by decide) (by decide)
              have hb0_N16_ : zFr [] [98] Mz N16_ := hs3_.tr hsN16_ (by decide) (by decide)
              have e26_N16_ : ze N16_ 81 26 = ze N2_ 81 26 := hsN16_.e (by decide)
              have c17_ : zRmk F_ K_ N16_ := zRmk.fr hsN16_ c7_ (by decide) (by decide)
              have hN_ := hN16_
              rw [show (a2_ + u1_).toNat = (u1_).toNat by omega] at hN_
              have hu1_ := zUw_s hup_ hN_ ⟨by (exact zo_79 hr15_.1), by (exact zo_80 hr15_.2)⟩ (by (exact hc_10)) (by rw [← hq_]; exact hqu_)
              refine zr_iinc (pc := 89) (i := 4) (a := u1_) (n := -1) (L2 := [some (.ref 81), some (.ref 99), some (.ref 98), some (.int (Int32.ofInt a2_)), some (.int (Int32.ofInt (u1_ + (-1)))), some (.long (Int64.ofInt u9_)), none, some (.int (Int32.ofInt u10_))]) rfl (by decide) rfl (zdal_p dlC_M_numbers_128 (i := 7) rfl) ?_
              refine zw_goto (pc := 92) (tgt := 8) (by decide) (zdal_p dlC_M_numbers_128 (i := 8) rfl) ?_
              refine zW_le [some (.ref 81), some (.ref 99), some (.ref 98), some (.int (Int32.ofInt a2_)), some (.int (Int32.ofInt (u1_ + (-1)))), none, none, none] (⟨rfl, rfl, rfl, rfl, rfl, trivial⟩) ?_
              exact ih_8 (u1_ + (-1)) (by (exact zo_892 hc_10)) (by (exact zo_893 hu1_b)) N16_ hb0_N16_ (show (u1_ + (-1)) < F_ by first | with_reducible assumption | (exact zo_2217 hu1_b i4_) | assumption) (show -1 ≤ (u1_ + (-1)) by first | with_reducible assumption | (exact zo_938 hc_10) | assumption) (show zUw 98 F_ N16_ (zsq F_ K_ (fun j_ => zg Mz 99 j_)) (u1_ + (-1)) by exact hu1_) (by (exact zo_896 hc_10 hlt_8 hu1_b))
            · skip
              refine zw_lload (pc := 34) (i := 5) (x := Int64.ofInt u9_) rfl (zdal_p dlC_M_numbers_126 (i := 19) rfl) ?_
              refine zw_aload_n (pc := 36) (n := 2) (x := 98) rfl (zdal_p dlC_M_numbers_126 (i := 20) rfl) ?_
              refine zw_iload_n (pc := 37) (n := 3) (x := Int32.ofInt a2_) rfl (zdal_p dlC_M_numbers_126 (i := 21) rfl) ?_
              refine zw_iload (pc := 38) (i := 7) (x := Int32.ofInt u10_) rfl (zdal_p dlC_M_numbers_126 (i := 22) rfl) ?_
              refine zr_iadd (pc := 40) (zdal_p dlC_M_numbers_126 (i := 23) rfl) ?_
              refine zr_laldn (pc := 41) (zh_98 (hf_N2_.w hW)).2 (by decide) (by (exact zo_2639 hc_10 hu10_a i11_ p1_)) (by omega) (zdal_p dlC_M_numbers_127 (i := 0) rfl) (fun v18_ hv18_ hv18_a hv18_b => ?_)
              have hx_ := hv18_
              rw [show (a2_ + u10_).toNat = (u10_).toNat by omega] at hx_
              have hx2_ := hx_.trans (hup_ (u10_).toNat (by omega) (by omega))
              refine zw_aload_n (pc := 42) (n := 0) (x := 81) rfl (zdal_p dlC_M_numbers_127 (i := 1) rfl) ?_
              refine zr_getF (r := 93) (hf_N2_.w hW) (pc := 43) f_M_50 rfl (zh_93 (hf_N2_.w hW)).1 (zdal_p dlC_M_numbers_127 (i := 2) rfl) ?_
              refine zw_bipush (pc := 46) (v := Int32.ofInt 64) (by decide) (zdal_p dlC_M_numbers_127 (i := 3) rfl) ?_
              refine zw_iload (pc := 48) (i := 7) (x := Int32.ofInt u10_) rfl (zdal_p dlC_M_numbers_127 (i := 4) rfl) ?_
              refine zr_imul (pc := 50) (zdal_p dlC_M_numbers_127 (i := 5) rfl) ?_
              refine zw_iload (pc := 51) (i := 4) (x := Int32.ofInt u1_) rfl (zdal_p dlC_M_numbers_127 (i := 6) rfl) ?_
              refine zr_iadd (pc := 53) (zdal_p dlC_M_numbers_127 (i := 7) rfl) ?_
              refine zr_ialdn (pc := 54) (zh_93 (hf_N2_.w hW)).2 (by decide) (by (exact zo_2640 hc_10 i11_)) (by (exact zo_2641 hF27_ hu10_b hu1_b i12_ i4_)) (zdal_p dlC_M_numbers_127 (i := 8) rfl) (fun v19_ hv19_ hv19_a hv19_b => ?_)
              rw [hf_N2_.ie (by decide) (by decide)] at hv19_
              have hy_ := p0_.k (by (exact zo_2222 hc_10 hu10_a i11_)) (by (exact zo_2223 hFc_ hc_31 hu10_b i12_)) (by (exact hc_10)) (by (exact i4_)) hv19_
              refine zr_i2l (pc := 55) ⟨hv19_a, hv19_b⟩ (zdal_p dlC_M_numbers_127 (i := 9) rfl) ?_
              refine zr_lmul (pc := 56) (zdal_p dlC_M_numbers_127 (i := 10) rfl) ?_
              refine zr_lsub (pc := 57) (zdal_p dlC_M_numbers_127 (i := 11) rfl) ?_
              refine zk_nmJ (fun v20_ hv20_ hv20_e => ?_)
              obtain ⟨hv20_a, hv20_b⟩ := hv20_
              have hz_ := zrX_s hxi_ hv20_e (by (exact hc_10)) (by (exact i11_)) (by (exact zo_2223 hFc_ hc_31 hu10_b i12_)) hx2_ hy_
              refine zw_lstore (pc := 58) (i := 5) (L2 := [some (.ref 81), some (.ref 99), some (.ref 98), some (.int (Int32.ofInt a2_)), some (.int (Int32.ofInt u1_)), some (.long (Int64.ofInt v20_)), none, some (.int (Int32.ofInt u10_))]) (by decide) rfl (zdal_p dlC_M_numbers_127 (i := 12) rfl) ?_
              refine zr_iinc (pc := 60) (i := 7) (a := u10_) (n := 1) (L2 := [some (.ref 81), some (.ref 99), some (.ref 98), some (.int (Int32.ofInt a2_)), some (.int (Int32.ofInt u1_)), some (.long (Int64.ofInt v20_)), none, some (.int (Int32.ofInt (u10_ + 1)))]) rfl (by decide) rfl (zdal_p dlC_M_numbers_127 (i := 13) rfl) ?_
              refine zw_goto (pc := 63) (tgt := 25) (by decide) (zdal_p dlC_M_numbers_127 (i := 14) rfl) ?_
              exact ih_25 v20_ hv20_a hv20_b (u10_ + 1) (by (exact zo_679 hu10_a)) (by (exact zo_75 hF27_ hu10_b i12_)) (show u1_ < (u10_ + 1) by first | with_reducible assumption | (exact zo_2224 i11_) | assumption) (show (u10_ + 1) ≤ F_ by first | with_reducible assumption | (exact zo_77 hFc_ hc_31 hu10_b i12_) | assumption) (show zrX F_ K_ (fun j_ => zg Mz 99 j_) v20_ u1_ (u10_ + 1) by exact hz_) (by (exact zo_78 hFc_ hc_31 hlt_25 hu10_b i12_))
        exact lp_25 _ v8_ hv8_a hv8_b (u1_ + 1) (by (exact zo_74 hc_10)) (by (exact zo_2225 hF27_ hu1_b i4_)) (show u1_ < (u1_ + 1) by first | with_reducible assumption | (exact zo_683) | assumption) (show (u1_ + 1) ≤ F_ by first | with_reducible assumption | assumption | omega) (show zrX F_ K_ (fun j_ => zg Mz 99 j_) v8_ u1_ (u1_ + 1) by exact zrX_0 hr0_) (Nat.lt_succ_self _)
  exact lp_8 _ ((ze Mz 81 26) - 1) (by (exact zo_786 hFc_ r_26.1)) (by (exact zo_601 r_26.2)) Mz zFr.rf (show ((ze Mz 81 26) - 1) < F_ by first | with_reducible assumption | (exact zo_792 hFc_ r_26.2) | assumption) (show -1 ≤ ((ze Mz 81 26) - 1) by first | with_reducible assumption | (exact zo_2226 hFc_ r_26.1) | assumption) (show zUw 98 F_ Mz (zsq F_ K_ (fun j_ => zg Mz 99 j_)) ((ze Mz 81 26) - 1) by exact zUw_0 (by (exact zo_2227 hFc_))) (Nat.lt_succ_self _)
