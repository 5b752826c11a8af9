def zsb (i : Nat) : Nat → Int := fun j => ((zsB.getD i []).getD j 0).toInt
def zsl (i : Nat) : Nat := zsL.getD i 0
theorem zsl_6 {i : Nat} (hi : i < zsN) : 3 ≤ zsl i ∧ zsl i ≤ 6 := by
  have h : ∀ i, i < 4 → 3 ≤ zsl i ∧ zsl i ≤ 6 := by decide +kernel
  exact h i hi
theorem zsb_L {i j : Nat} (hi : i < zsN) (hj : j < zsl i) : zpL (zsb i j) = true := by
  have h : ∀ i, i < 4 → ∀ j, j < zsl i → zpL (zsb i j) = true := by decide +kernel
  exact h i hi j hj
theorem zsb_k {i : Nat} (hi : i < zsN) : zkw i = zw2 (zsb i) 0 (zsl i) := by
  have h : ∀ i, i < 4 → zkw i = zw2 (zsb i) 0 (zsl i) := by decide +kernel
  exact h i hi
theorem zsb_c {i j : Nat} (hi : i < zsN) (hj : j < zsl i) : ztc i (Int32.ofInt (j : Int)) = Int32.ofInt (zsb i j) := by
  have h : ∀ i, i < 4 → ∀ j, j < zsl i → ztc i (Int32.ofInt (j : Int)) = Int32.ofInt (zsb i j) := by decide +kernel
  exact h i hi j hj
theorem u_String_length (l : Launch) (M : zMem) (i : Nat) (hi : i < zsN) : zC l m_String_length 0 0 [.ref (zK i)] M (fun r M' => M' = M ∧ r = some (.int (nI (zsL.getD i 0)))) := by
  refine zC_of (L0 := [some (.ref (zK i))]) md_String_length (Nat.le_of_ble_eq_true rfl) rfl ?_ zQ0
  refine zw_aload_n (pc := 0) (n := 0) (x := zK i) rfl d_String_length_0 ?_
  refine zt_val (pc := 1) hi y_9 d_String_length_1 ?_
  refine zt_len (pc := 4) hi d_String_length_4 ?_
  refine zw_aload_n (pc := 5) (n := 0) (x := zK i) rfl d_String_length_5 ?_
  refine zw_callT (pc := 6) (i := i) [] [.int (nI (zsL.getD i 0))] l_String_335 (c_String_coder l M i hi) rfl rfl hi rfl (by decide) (Nat.le_of_ble_eq_true rfl) d_String_length_6 (fun r M' h _ _ => ?_)
  obtain ⟨rfl, rfl⟩ := h
  refine zw_ishr (pc := 9) d_String_length_9 ?_
  have e : nI (zsL.getD i 0) >>> ((0 : Int32) &&& 31) = nI (zsL.getD i 0) := by
    have h4 : i < 4 := hi
    match i, h4 with
    | 0, _ => decide
    | 1, _ => decide
    | 2, _ => decide
    | 3, _ => decide
  exact zw_iret (S := []) (pc := 10) (ty := .int) rfl rfl d_String_length_10 ⟨rfl, by rw [e]⟩
theorem u_String_charAt (l : Launch) (M : zMem) (i : Nat) (hi : i < zsN) (x : Int32) (hx : vp_in x (zsL.getD i 0)) : zC l m_String_charAt 0 0 [.ref (zK i), .int x] M (fun r M' => M' = M ∧ r = some (.int (ztc i x))) := by
  refine zC_of (L0 := [some (.ref (zK i)), some (.int x)]) md_String_charAt (Nat.le_of_ble_eq_true rfl) rfl ?_ zQ0
  refine zw_aload_n (pc := 0) (n := 0) (x := zK i) rfl d_String_charAt_0 ?_
  refine zw_callT (pc := 1) (i := i) [] [] l_String_492 (c_String_isLatin1 l M i hi) rfl rfl hi rfl (by decide) (Nat.le_of_ble_eq_true rfl) d_String_charAt_1 (fun r M' h _ _ => ?_)
  obtain ⟨rfl, rfl⟩ := h
  refine zw_if_eq (pc := 4) (x := 1) (S := []) (tgt := 16) (by decide) d_String_charAt_4 (fun hc => absurd hc (by decide)) (fun _ => ?_)
  refine zw_aload_n (pc := 7) (n := 0) (x := zK i) rfl d_String_charAt_7 ?_
  refine zt_val (pc := 8) hi y_9 d_String_charAt_8 ?_
  refine zw_iload_n (pc := 11) (n := 1) (x := x) rfl d_String_charAt_11 ?_
  refine zw_callS (pc := 12) [.ref (zK (200 + i)), .int x] [] l_String_495 (c_StringLatin1_charAt l M' i hi x hx) rfl rfl (by decide) ⟨Nat.le_refl _, Nat.le_refl _⟩ (Nat.le_of_ble_eq_true rfl) d_String_charAt_12 (fun r M' h _ _ => ?_)
  obtain ⟨rfl, rfl⟩ := h
  exact zw_iret (S := []) (pc := 15) (ty := .char) rfl (pk_nc _) d_String_charAt_15 ⟨rfl, rfl⟩
section ZKT
variable {l : Launch} {k : zMeth} {X : Nat × Nat} {Mz : zMem} {pc : Nat} {L : List (Option Value)} {S : List Value} {Q : Option Value → zMem → Prop}
theorem zk_len {ix i : Nat} (hi : i < zsN) (hl' : zMLV (zo k) ix m_String_length) (hR : zF m_String_length + 1 ≤ zF k ∧ 8 + (zl m_String_length + 11) + zLo m_String_length ≤ zLo k) (hc8 : (S.map fun v => v.category).sum ≤ 8) (hd : decode (zb k) pc = .ok (.invokevirtual ix, 3)) (kk : zW l k X Mz (pc + 3) L (.int (Int32.ofInt ((zsl i : Nat) : Int)) :: S) Q) : zW l k X Mz pc L (.ref (zK i) :: S) Q := by
  refine zw_callT (i := i) [] S hl' (u_String_length l Mz i hi) rfl rfl hi rfl hR hc8 hd (fun r M' h _ _ => ?_)
  obtain ⟨rfl, rfl⟩ := h
  have h6 := zsl_6 hi
  have e : nI (zsL.getD i 0) = Int32.ofInt ((zsl i : Nat) : Int) := zk_nI (n := zsl i) (by omega)
  rw [e]
  exact kk
theorem zk_chr {ix i : Nat} {x : Int} (hi : i < zsN) (h0 : 0 ≤ x) (h1 : x < zsl i) (hl' : zMLV (zo k) ix m_String_charAt) (hR : zF m_String_charAt + 1 ≤ zF k ∧ 8 + (zl m_String_charAt + 11) + zLo m_String_charAt ≤ zLo k) (hc8 : (S.map fun v => v.category).sum ≤ 8) (hd : decode (zb k) pc = .ok (.invokevirtual ix, 3)) (kk : ∀ v : Int, v = zsb i x.toNat → -2147483648 ≤ v → v < 2147483648 → zW l k X Mz (pc + 3) L (.int (Int32.ofInt v) :: S) Q) : zW l k X Mz pc L (.int (Int32.ofInt x) :: .ref (zK i) :: S) Q := by
  have h6 := zsl_6 hi
  have hx : vp_in (Int32.ofInt x) (zsL.getD i 0) := by
    rw [vp_in_iff, z32 ⟨by omega, by omega⟩]
    exact ⟨h0, h1⟩
  refine zw_callT (i := i) [.int (Int32.ofInt x)] S hl' (u_String_charAt l Mz i hi _ hx) rfl rfl hi rfl hR hc8 hd (fun r M' h _ _ => ?_)
  obtain ⟨rfl, rfl⟩ := h
  have e : ztc i (Int32.ofInt x) = Int32.ofInt (zsb i x.toNat) := by
    have h := zsb_c (i := i) (j := x.toNat) hi (by omega)
    rwa [Int.toNat_of_nonneg h0] at h
  have hl := zpL_t.mp (zsb_L (i := i) (j := x.toNat) hi (by omega))
  rw [e]
  exact kk _ rfl (by omega) (by omega)
end ZKT
theorem zw2_p {b : Nat → Int} {s : Nat} (k : Nat) (h : ∀ i, i < k → zpL (b (s + i)) = true) : 0 ≤ zw2 b s k :=
  (zw2_b (n := 0) (b := b) (s := s) k (fun i h1 h2 => by
    have := h (i - s) (by omega)
    rwa [show s + (i - s) = i by omega] at this)).1
theorem zw2_inj {b c : Nat → Int} {s t : Nat} : ∀ k m : Nat, (∀ i, i < k → zpL (b (s + i)) = true) → (∀ i, i < m → zpL (c (t + i)) = true) → zw2 b s k = zw2 c t m → k = m ∧ ∀ i, i < k → b (s + i) = c (t + i)
  | 0, 0, _, _, _ => ⟨rfl, fun i h => absurd h (by omega)⟩
  | 0, m + 1, _, h2, h => by
    have a1 := zw2_p (b := c) (s := t) m (fun i hi => h2 i (by omega))
    have a2 := zpL_t.mp (h2 m (by omega))
    have e : (0 : Int) = 27 * zw2 c t m + (c (t + m) - 96) := h
    exact absurd e (by omega)
  | k + 1, 0, h1, _, h => by
    have a1 := zw2_p (b := b) (s := s) k (fun i hi => h1 i (by omega))
    have a2 := zpL_t.mp (h1 k (by omega))
    have e : 27 * zw2 b s k + (b (s + k) - 96) = 0 := h
    exact absurd e (by omega)
  | k + 1, m + 1, h1, h2, h => by
    have a2 := zpL_t.mp (h1 k (by omega))
    have b2 := zpL_t.mp (h2 m (by omega))
    have e : 27 * zw2 b s k + (b (s + k) - 96) = 27 * zw2 c t m + (c (t + m) - 96) := h
    have e1 : zw2 b s k = zw2 c t m := by omega
    have e2 : b (s + k) = c (t + m) := by omega
    obtain ⟨r1, r2⟩ := zw2_inj k m (fun i hi => h1 i (by omega)) (fun i hi => h2 i (by omega)) e1
    refine ⟨by omega, fun i hi => ?_⟩
    by_cases g : i = k
    · subst g
      rw [e2, r1]
    · exact r2 i (by omega)
theorem zkd_1 {b : Nat → Int} {n s : Nat} (h : zkd b n s = 1) : s < n ∧ s < zen b n s ∧ zen b n s ≤ n ∧ zen b n s ≤ s + 6 ∧ ∀ j, s ≤ j → j < zen b n s → zpL (b j) = true := by
  by_cases h0 : n ≤ s
  · rw [(zkd_0 h0).1] at h
    exact absurd h (by decide)
  have hs : s < n := by omega
  cases hl : zpL (b s) with
  | true =>
    obtain ⟨k1, k2⟩ := zkd_L hs hl
    rw [k1] at h
    by_cases g : zru zpL b n s ≤ s + 6
    · rw [k2]
      exact ⟨hs, zru_gt hs hl, zru_le (by omega), g, fun j h1 h2 => (zru_in (j - s) s j (by omega) h1 h2).1⟩
    · rw [if_neg g] at h
      exact absurd h (by decide)
  | false =>
    cases hd : zpD (b s) with
    | true =>
      rw [(zkd_D hs hl hd).1] at h
      split at h <;> exact absurd h (by decide)
    | false =>
      rw [(zkd_S hs hl hd).1] at h
      split at h <;> exact absurd h (by decide)
theorem zkd_2 {b : Nat → Int} {n s : Nat} (h : zkd b n s = 2) : s < n ∧ s < zen b n s ∧ zen b n s ≤ n ∧ zen b n s ≤ s + 3 ∧ ∀ j, s ≤ j → j < zen b n s → zpD (b j) = true := by
  by_cases h0 : n ≤ s
  · rw [(zkd_0 h0).1] at h
    exact absurd h (by decide)
  have hs : s < n := by omega
  cases hl : zpL (b s) with
  | true =>
    rw [(zkd_L hs hl).1] at h
    split at h <;> exact absurd h (by decide)
  | false =>
    cases hd : zpD (b s) with
    | true =>
      obtain ⟨k1, k2⟩ := zkd_D hs hl hd
      rw [k1] at h
      by_cases g : zru zpD b n s ≤ s + 3 ∧ ¬ (zru zpD b n s < n ∧ zpL (b (zru zpD b n s)) = true)
      · rw [k2]
        exact ⟨hs, zru_gt hs hd, zru_le (by omega), g.1, fun j h1 h2 => (zru_in (j - s) s j (by omega) h1 h2).1⟩
      · rw [if_neg g] at h
        exact absurd h (by decide)
    | false =>
      rw [(zkd_S hs hl hd).1] at h
      split at h <;> exact absurd h (by decide)
theorem znu_b {b : Nat → Int} {n s : Nat} (h : zkd b n s = 2) : 0 ≤ znu b n s ∧ znu b n s ≤ 999 := by
  obtain ⟨h1, h2, h3, h4, h5⟩ := zkd_2 h
  have key : ∀ k : Nat, k ≤ zen b n s - s → 0 ≤ zvl b s k ∧ zvl b s k < (10 : Int) ^ k := by
    intro k
    induction k with
    | zero =>
      intro _
      show (0 : Int) ≤ 0 ∧ (0 : Int) < (10 : Int) ^ 0
      rw [Int.pow_zero]
      omega
    | succ k ih =>
      intro hk
      have i1 := ih (by omega)
      have i2 := zpD_t.mp (h5 (s + k) (by omega) (by omega))
      show 0 ≤ 10 * zvl b s k + (b (s + k) - 48) ∧ 10 * zvl b s k + (b (s + k) - 48) < (10 : Int) ^ (k + 1)
      rw [Int.pow_succ]
      generalize (10 : Int) ^ k = p at i1 ⊢
      omega
  have h6 := key (zen b n s - s) (Nat.le_refl _)
  unfold znu
  obtain g | g | g : zen b n s - s = 1 ∨ zen b n s - s = 2 ∨ zen b n s - s = 3 := by omega
  all_goals
    rw [g] at h6 ⊢
    have : (10 : Int) ^ 1 = 10 ∧ (10 : Int) ^ 2 = 100 ∧ (10 : Int) ^ 3 = 1000 := by decide
    omega
theorem zkey_w {b : Nat → Int} {n s i : Nat} (hi : i < zsN) (h : zkd b n s = 1) : zkey b n s = zkw i ↔ (zen b n s - s = zsl i ∧ ∀ j, j < zsl i → b (s + j) = zsb i j) := by
  obtain ⟨h1, h2, h3, h4, h5⟩ := zkd_1 h
  rw [zsb_k hi]
  unfold zkey
  constructor
  · intro e
    obtain ⟨r1, r2⟩ := zw2_inj _ _ (fun j hj => h5 (s + j) (by omega) (by omega)) (fun j hj => by rw [Nat.zero_add]; exact zsb_L hi hj) e
    refine ⟨r1, fun j hj => ?_⟩
    have := r2 j (by omega)
    rwa [Nat.zero_add] at this
  · rintro ⟨e1, e2⟩
    rw [e1]
    have key : ∀ k, k ≤ zsl i → zw2 b s k = zw2 (zsb i) 0 k := by
      intro k
      induction k with
      | zero => intro _; rfl
      | succ k ih =>
        intro hk
        show 27 * zw2 b s k + (b (s + k) - 96) = 27 * zw2 (zsb i) 0 k + (zsb i (0 + k) - 96)
        rw [ih (by omega), e2 k (by omega), Nat.zero_add]
    exact key _ (Nat.le_refl _)
theorem zYt.x {b : Nat → Int} {n : Nat} {M : zMem} (h : zYt b n M) : (0 ≤ ze M 1 2 ∧ ze M 1 2 ≤ n) ∧ 0 ≤ ze M 1 3 ∧ ze M 1 3 ≤ n := by
  have h1 := h.1
  have h2 := h.2.1
  have h3 := zen_le (b := b) (n := n) (s := (ze M 1 2).toNat) (by omega)
  omega
theorem zYt.n {b : Nat → Int} {n : Nat} {M N : zMem} (h : zYt b n M) (hp : ze N 1 2 = (zru zpB b n (ze M 1 3).toNat : Nat)) : ze N 1 2 = ((znx b n (ze M 1 2).toNat : Nat) : Int) ∧ (ze N 1 2).toNat = znx b n (ze M 1 2).toNat := by
  have h2 := h.2.1
  have e : (ze M 1 3).toNat = zen b n (ze M 1 2).toNat := by omega
  rw [e] at hp
  unfold znx
  exact ⟨hp, by omega⟩
theorem zYt.v2 {b : Nat → Int} {n : Nat} {M : zMem} (h : zYt b n M) (h2 : zkd b n (ze M 1 2).toNat = 2) : ze M 1 5 = znu b n (ze M 1 2).toNat ∧ 0 ≤ ze M 1 5 ∧ ze M 1 5 ≤ 999 := by
  have e : ze M 1 5 = znu b n (ze M 1 2).toNat := h.2.2.2.2.1 h2
  have := znu_b h2
  exact ⟨e, by omega, by omega⟩
theorem zYt.v1 {b : Nat → Int} {n : Nat} {M : zMem} (h : zYt b n M) (h2 : zkd b n (ze M 1 2).toNat = 1) : ze M 1 5 = zkey b n (ze M 1 2).toNat := h.2.2.2.1 h2
def zup {α : Type} (f : Nat → α) : Nat → Nat → List α
  | 0, _ => []
  | k + 1, i => f i :: zup f k (i + 1)
theorem zup_c {α : Type} {f g : Nat → α} : ∀ k i, (∀ j, i ≤ j → j < i + k → f j = g j) → zup f k i = zup g k i
  | 0, _, _ => rfl
  | k + 1, i, h => by
    show f i :: zup f k (i + 1) = g i :: zup g k (i + 1)
    rw [h i (by omega) (by omega), zup_c k (i + 1) (fun j h1 h2 => h j (by omega) (by omega))]
theorem zup_s {α : Type} {f : Nat → α} : ∀ k i, zup f (k + 1) i = zup f k i ++ [f (i + k)]
  | 0, _ => rfl
  | k + 1, i => by
    show f i :: zup f (k + 1) (i + 1) = f i :: (zup f k (i + 1) ++ [f (i + (k + 1))])
    rw [zup_s k (i + 1), show i + 1 + k = i + (k + 1) by omega]
theorem zup_l {α : Type} {f : Nat → α} : ∀ k i, (zup f k i).length = k
  | 0, _ => rfl
  | k + 1, i => by
    show (zup f k (i + 1)).length + 1 = k + 1
    rw [zup_l k (i + 1)]
def zNe (F d : Nat) (Mz : zMem) : Nat → Int × (Nat → Int) := fun k => (ze Mz (d + 37) k, zvc F d Mz (1 + k))
def zNl (F d : Nat) (Mz : zMem) : List (Int × (Nat → Int)) := zup (zNe F d Mz) (ze Mz (d + 0) 6).toNat 0
def zNm (nm : List (Int × (Nat → Int))) (F : Nat) (K : Nat → Nat → Int) (d : Nat) (Mz : zMem) : Prop := (0 ≤ ze Mz (d + 0) 6 ∧ ze Mz (d + 0) 6 ≤ 8) ∧ zNl F d Mz = nm ∧ ∀ k : Nat, (k : Int) < ze Mz (d + 0) 6 → zfit F K (zvc F d Mz (1 + k))
section ZKN
variable {d F : Nat} {K : Nat → Nat → Int} {FA : List (Nat × Nat)} {CA : List Nat} {FR : List (Nat × Nat)} {CR : List Nat} {Mz Nz Pz : zMem} {nm : List (Int × (Nat → Int))}
theorem zNm_e (h6 : ze Nz (d + 0) 6 = ze Mz (d + 0) 6) (h37 : ∀ k : Nat, ze Nz (d + 37) k = ze Mz (d + 37) k) (hv : ∀ k : Nat, k < 8 → zvc F d Nz (1 + k) = zvc F d Mz (1 + k)) (h : zNm nm F K d Mz) : zNm nm F K d Nz := by
  obtain ⟨a1, a2, a3⟩ := h
  unfold zNm
  rw [h6]
  refine ⟨a1, ?_, fun k hk => by rw [hv k (by omega)]; exact a3 k hk⟩
  rw [← a2]
  unfold zNl
  rw [h6]
  exact zup_c _ _ (fun j _ hj => by
    unfold zNe
    rw [h37, hv j (by omega)])
theorem zNm.fr (_ : zKW d Mz) (hf : zFc d FA CA FR CR Mz Nz) (h : zNm nm F K d Mz) (hd : (0 < 38 ∧ 0 ∉ CR ∧ (0, 6) ∉ FR) ∧ (37 < 38 ∧ 37 ∉ CR ∧ ∀ x ∈ FR, x.1 ≠ 37) ∧ 25 < 38 ∧ 25 ∉ CR ∧ ∀ x ∈ FR, x.1 ≠ 25) : zNm nm F K d Nz :=
  zNm_e (hf.e hd.1) (fun k => hf.r hd.2.1 k) (fun k _ => zvc_f hf hd.2.2 _) h
theorem zNm.l (hf : zFc d FA CA FR CR Mz Nz) (hl : zLow d Mz Nz) (hF : F ≤ 27) (h : zNm nm F K d Mz) (hd : (0 < 38 ∧ 0 ∉ CR ∧ (0, 6) ∉ FR) ∧ 37 < 38 ∧ 37 ∉ CR ∧ ∀ x ∈ FR, x.1 ≠ 37) : zNm nm F K d Nz :=
  zNm_e (hf.e hd.1) (fun k => hf.r hd.2 k) (fun k hk => hl.v hF (by omega) (by omega)) h
theorem zNm_0 (h : zNm nm F K d Mz) {x : Int} : zfd nm x = zfd (zup (zNe F d Mz) ((ze Mz (d + 0) 6).toNat - (0 : Int).toNat) (0 : Int).toNat) x := by
  rw [← h.2.1]
  rfl
theorem zNm_s {x u v : Int} {o : Option (Nat → Int)} (h : o = zfd (zup (zNe F d Mz) ((ze Mz (d + 0) 6).toNat - u.toNat) u.toNat) x) (u0 : 0 ≤ u) (u1 : u < ze Mz (d + 0) 6) (hv : v = ze Mz (d + 37) u.toNat) (hx : v ≠ x) : o = zfd (zup (zNe F d Mz) ((ze Mz (d + 0) 6).toNat - (u + 1).toNat) (u + 1).toNat) x := by
  rw [h, show (ze Mz (d + 0) 6).toNat - u.toNat = (ze Mz (d + 0) 6).toNat - (u + 1).toNat + 1 by omega, show (u + 1).toNat = u.toNat + 1 by omega]
  show (if ze Mz (d + 37) u.toNat = x then _ else _) = _
  rw [← hv, if_neg hx]
theorem zNm_f {x u v : Int} {o : Option (Nat → Int)} (h : o = zfd (zup (zNe F d Mz) ((ze Mz (d + 0) 6).toNat - u.toNat) u.toNat) x) (u0 : 0 ≤ u) (u1 : u < ze Mz (d + 0) 6) (hv : v = ze Mz (d + 37) u.toNat) (hx : v = x) : o = some (zvc F d Mz (1 + u)) := by
  rw [h, show (ze Mz (d + 0) 6).toNat - u.toNat = (ze Mz (d + 0) 6).toNat - u.toNat - 1 + 1 by omega]
  show (if ze Mz (d + 37) u.toNat = x then some (zvc F d Mz (1 + (u.toNat : Int))) else _) = _
  rw [← hv, if_pos hx, Int.toNat_of_nonneg u0]
theorem zNm_n {x u : Int} {o : Option (Nat → Int)} (h : o = zfd (zup (zNe F d Mz) ((ze Mz (d + 0) 6).toNat - u.toNat) u.toNat) x) (u1 : ze Mz (d + 0) 6 ≤ u) : o = none := by
  rw [h, show (ze Mz (d + 0) 6).toNat - u.toNat = 0 by omega]
  rfl
end ZKN
