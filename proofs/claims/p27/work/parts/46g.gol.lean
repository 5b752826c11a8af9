noncomputable def kexk (n : Nat) (p : Nat → Bool) : Bool := Nat.rec false (fun k ih => cond (p k) true ih) n
theorem kexk_s {p : Nat → Bool} : ∀ {n : Nat}, kexk n p = true → ∃ k, k < n ∧ p k = true
  | 0, h => by cases h
  | n + 1, h => by
    have h' : cond (p n) true (kexk n p) = true := h
    cases hp : p n with
    | true => exact ⟨n, by omega, hp⟩
    | false =>
      rw [hp] at h'
      obtain ⟨k, h1, h2⟩ := kexk_s (n := n) h'
      exact ⟨k, by omega, h2⟩
noncomputable def ksr (l : List Nat) : Nat → Bool := List.rec (fun _ => true) (fun x _ ih k => cond (Nat.ble (Nat.succ k) (kky x)) (ih (kky x)) false) l
theorem ksr_s : ∀ (l : List Nat) (k : Nat), ksr l k = true → (∀ i, i < l.length → k < kky (l.getD i 0)) ∧ ∀ i j, i < j → j < l.length → kky (l.getD i 0) < kky (l.getD j 0)
  | [], k, _ => ⟨fun i h => absurd h (Nat.not_lt_zero i), fun i j _ h => absurd h (Nat.not_lt_zero j)⟩
  | x :: l, k, h => by
    have h' : cond (Nat.ble (Nat.succ k) (kky x)) (ksr l (kky x)) false = true := h
    obtain ⟨h1, h2⟩ := kcd.mp h'
    have h1 := kbl.mp h1
    obtain ⟨r1, r2⟩ := ksr_s l _ h2
    have g0 : (x :: l).getD 0 0 = x := rfl
    have gs : ∀ i, (x :: l).getD (i + 1) 0 = l.getD i 0 := fun i => rfl
    refine ⟨fun i hi => ?_, fun i j hij hj => ?_⟩
    · cases i with
      | zero => rw [g0]; exact h1
      | succ i =>
        rw [gs]
        have := r1 i (by rw [List.length_cons] at hi; omega)
        omega
    · cases j with
      | zero => omega
      | succ j =>
        rw [List.length_cons] at hj
        cases i with
        | zero =>
          rw [g0, gs]
          exact r1 j (by omega)
        | succ i =>
          rw [gs, gs]
          exact r2 i j (by omega) (by omega)
noncomputable def kct (n P Fp Ip i j : Nat) : Nat := kup (fun g r => cond (Nat.beq (Nat.land (ktr n P Ip (kF Fp j) g) (kF Fp i)) (ktr n P Ip (kF Fp j) g)) (Nat.succ r) r) 0 n
def kbc3 (y : Nat) : Nat := Nat.land (Nat.add y (Nat.shiftRight y 4)) 252645135
def kbc4 (y : Nat) : Nat := Nat.add y (Nat.shiftRight y 8)
def kbc5 (y : Nat) : Nat := Nat.land (Nat.add y (Nat.shiftRight y 16)) 63
def kbc1 (x : Nat) : Nat := Nat.sub x (Nat.land (Nat.shiftRight x 1) 1431655765)
def kbc2 (y : Nat) : Nat := Nat.add (Nat.land y 858993459) (Nat.land (Nat.shiftRight y 2) 858993459)
def kbc (x : Nat) : Nat := kbc5 (kbc4 (kbc3 (kbc2 (kbc1 x))))
noncomputable def kchk2 (n P : Nat) (S L F : List Nat) (Fp Ip Kp : Nat) (KL : List Nat) : Bool := cond (cond (Nat.ble (klen S) 35) (Nat.ble (klen F) 27) false) (cond (cond (kall S (fun s => kmem L s)) (kall L (fun s => kmem S s)) false) (cond (cond (ksr L 0) (kall S (fun s => Nat.beq (kbc s) (kcb s))) false) (cond (kall F (fun f => klt n (fun g => cond (kmem S (ktr n P Ip f g)) (cond (kmem F (ktr n P Ip f g)) (Nat.beq (ktr n P Ip f g) f) true) false))) (cond (kall S (fun s => kexk n (fun g => Nat.beq (ktr n P Ip (kle n P Ip s) g) s))) (cond (klt (klen F) (fun i => klt (klen F) (fun j => Nat.beq (kct n P Fp Ip i j) (Nat.mul (kK Kp i j) (kcb (kF Fp i)))))) (kmem KL (Nat.add (Nat.mul Kp 64) (klen F))) false) false) false) false) false) false
def gct (T : zGT) (F H : Nat) : Nat := gup (fun g r => if gtr T H g &&& F = gtr T H g then r + 1 else r) 0 (gN T)
def gOL (T : zGT) (L : List Nat) (Kp : Nat) (KL : List Nat) : Prop := ((gS T).length ≤ 35 ∧ (gF T).length ≤ 27) ∧ (∀ s, s ∈ gS T ↔ s ∈ L) ∧ (∀ i j, i < j → j < L.length → gky (L.getD i 0) < gky (L.getD j 0)) ∧ (∀ f ∈ gF T, ∀ g, g < gN T → gtr T f g ∈ gS T ∧ (gtr T f g ∈ gF T → gtr T f g = f)) ∧ (∀ s ∈ gS T, ∃ g, g < gN T ∧ gtr T (glt T s) g = s) ∧ (∀ i j, i < (gF T).length → j < (gF T).length → gct T ((gF T).getD i 0) ((gF T).getD j 0) = gmk T ((gF T).getD i 0) ((gF T).getD j 0) * gcb ((gF T).getD i 0)) ∧ (∀ i j, i < (gF T).length → j < (gF T).length → gmk T ((gF T).getD i 0) ((gF T).getD j 0) = kK Kp i j) ∧ Kp * 64 + (gF T).length ∈ KL ∧ (∀ s ∈ gS T, gcb (glt T s) = gcb s) ∧ ∀ s ∈ gS T, kbc s = gcb s
theorem kchk2_s {n P : Nat} {S L F : List Nat} {Fp Ip Cp Kp Qp Dp : Nat} {KL B W E : List Nat} (h0 : kall4 n P S F Fp Ip Cp Kp Qp Dp B W E = true) (h2 : kchk2 n P S L F Fp Ip Kp KL = true) : gOL (n, P, S, F, []) L Kp KL := by
  have h : kchk n P S F Fp Ip Cp Kp Qp Dp = true := (kcd.mp h0).1
  obtain ⟨hA, hr⟩ := kcd.mp h
  obtain ⟨hB, hr⟩ := kcd.mp hr
  obtain ⟨hE, hr⟩ := kcd.mp hr
  obtain ⟨hg, hr⟩ := kcd.mp hr
  clear h hr hB
  generalize eT : ((n, P, S, F, []) : zGT) = T
  have tN : gN T = n := by rw [← eT]; rfl
  have tP : T.2.1 = P := by rw [← eT]
  have tS : gS T = S := by rw [← eT]; rfl
  have tF : gF T = F := by rw [← eT]; rfl
  have hgm : ∀ a b, kgm P a b = gm T a b := fun a b => by rw [← tP]; rfl
  obtain ⟨a1, a2⟩ := kcd.mp hA
  obtain ⟨a2, a3⟩ := kcd.mp a2
  have a1 := kbl.mp a1
  have a2 := kbl.mp a2
  have a3 := klt_s a3
  have hI : ∀ a, a < n → kI Ip a = gi T a := by
    intro a ha
    obtain ⟨-, b2⟩ := kcd.mp (a3 a ha)
    obtain ⟨b2, -⟩ := kcd.mp b2
    rw [← kbq.mp b2]
    unfold gi
    rw [tN]
    exact kup_c 0 n (fun k r _ => by rw [kif, hgm])
  have hG : gGd T := by
    refine ⟨by omega, by omega, fun a ha => ?_, fun a b ha hb => ?_⟩
    · rw [tN] at ha ⊢
      rw [← hI a ha]
      exact kbl.mp (kcd.mp (a3 a ha)).1
    · rw [tN] at ha hb ⊢
      rw [← hgm]
      exact kbl.mp (klt_s (kcd.mp (kcd.mp (a3 a ha)).2).2 b hb)
  have htr : ∀ X g, g < n → ktr n P Ip X g = gtr T X g := by
    intro X g hgn
    rw [gtr_e, tN]
    refine kup_c 0 n (fun k r _ => ?_)
    rw [kib, hgm, hgm, hI g hgn]
    rfl
  have hle : ∀ X, kle n P Ip X = glt T X := by
    intro X
    rw [glt_e, tN]
    refine kup_c X n (fun k r hk => ?_)
    rw [kil, htr X k hk]
    rfl
  have hcb : ∀ X, kcb X = gcb X := fun X => kup_e _ _ _
  have hky : ∀ X, kky X = gky X := fun X => by
    show kcb X * 16777216 + X = _
    rw [hcb]; rfl
  obtain ⟨e1, e2⟩ := kcd.mp hE
  obtain ⟨e2, -⟩ := kcd.mp e2
  have hFi : ∀ i, i < F.length → F.getD i 0 = kF Fp i := fun i hi => by
    have := kfl_s e1 i hi
    rwa [Nat.zero_add] at this
  obtain ⟨g1, g2⟩ := kcd.mp hg
  obtain ⟨g2, g3⟩ := kcd.mp g2
  obtain ⟨g3, -⟩ := kcd.mp g3
  rw [klen_e] at g2 g3
  have hC : ∀ i x, i < F.length → x < n → kC Cp i x = gcos T (F.getD i 0) x := by
    intro i x hi hx
    have := kbq.mp (klt_s (klt_s g2 i hi) x hx)
    rw [← this, gcos_e, tN, hFi i hi]
    refine kup_c x n (fun k r _ => ?_)
    rw [kib, kil, hgm]
    show _ = (if (kF Fp i).testBit k && decide (gm T k x < r) then gm T k x else r)
    cases (kF Fp i).testBit k <;> simp
  have hfx : ∀ i H x, i < F.length → x < n → kfx n P Cp i H x = gfx T (F.getD i 0) H x := by
    intro i H x hi hx
    refine Bool.eq_iff_iff.mpr ?_
    rw [gfx_t]
    unfold kfx
    rw [kcd, kbq, hC i x hi hx, tN]
    refine and_congr Iff.rfl ⟨fun h k hk hb => ?_, fun h => klt_i fun k hk => ?_⟩
    · have := klt_s h k hk
      rw [kib, if_pos hb, kbq, hgm, hC i _ hi (by have := hG.2.2.2 x k (by omega) (by omega); omega)] at this
      exact this
    · rw [kib]
      split
      · rename_i hb
        rw [kbq, hgm, hC i _ hi (by have := hG.2.2.2 x k (by omega) (by omega); omega)]
        exact h k hk hb
      · rfl
  have hmk : ∀ i k, i < F.length → k < F.length → kK Kp i k = gmk T (F.getD i 0) (F.getD k 0) := by
    intro i k hi hk
    rw [← kbq.mp (klt_s (klt_s g3 i hi) k hk), gmk_e, tN, ← hFi k hk]
    refine kup_c 0 n (fun x r hx => ?_)
    rw [hfx i _ x hi hx]
    show _ = r + (gfx T (F.getD i 0) (F.getD k 0) x).toNat
    cases gfx T (F.getD i 0) (F.getD k 0) x <;> rfl
  -- the second check
  obtain ⟨u1, hr⟩ := kcd.mp h2
  obtain ⟨u2, hr⟩ := kcd.mp hr
  obtain ⟨u3, hr⟩ := kcd.mp hr
  obtain ⟨u4, hr⟩ := kcd.mp hr
  obtain ⟨u5, hr⟩ := kcd.mp hr
  obtain ⟨u6, u7⟩ := kcd.mp hr
  have hnt : ∀ s, s ∈ S → ∃ g, g < n ∧ gtr T (glt T s) g = s := fun s hs => by
    obtain ⟨g, hg1, hg2⟩ := kexk_s (kall_s u5 s hs)
    rw [kbq, hle, htr _ _ hg1] at hg2
    exact ⟨g, hg1, hg2⟩
  unfold gOL
  rw [tN, tS, tF]
  obtain ⟨l1, l2⟩ := kcd.mp u1
  rw [klen_e] at l1 l2 u6 u7
  refine ⟨⟨kbl.mp l1, kbl.mp l2⟩, fun s => ⟨fun hs => kmem_s (kall_s (kcd.mp u2).1 s hs), fun hs => kmem_s (kall_s (kcd.mp u2).2 s hs)⟩, fun i j hij hj => ?_, fun f hf g hgn => ?_, hnt, fun i j hi hj => ?_, fun i j hi hj => (hmk i j hi hj).symm, kmem_s u7, fun s hs => ?_, fun s hs => ?_⟩
  · have := (ksr_s L 0 (kcd.mp u3).1).2 i j hij hj
    rwa [hky, hky] at this
  · have h4 := klt_s (kall_s u4 f hf) g hgn
    obtain ⟨h5, h6⟩ := kcd.mp h4
    rw [htr f g hgn] at h5 h6
    refine ⟨kmem_s h5, fun hm => ?_⟩
    cases hmm : kmem F (gtr T f g) with
    | true =>
      rw [hmm] at h6
      exact kbq.mp h6
    | false =>
      exact absurd (kmem_i hm) (by rw [hmm]; decide)
  · have h6 := kbq.mp (klt_s (klt_s u6 i hi) j hj)
    have h7 : kct n P Fp Ip i j = gct T (F.getD i 0) (F.getD j 0) := by
      unfold gct
      rw [tN]
      refine kup_c 0 n (fun g r hgn => ?_)
      rw [kif, htr _ g hgn, hFi i hi, hFi j hj]
      rfl
    rw [← h7, h6, ← hmk i j hi hj, hFi i hi, hcb]
    rfl
  · have h8 := kbq.mp (kcd.mp (kall_s e2 s hs)).2
    rwa [hle, hcb, hcb] at h8
  · have h8 := kbq.mp (kall_s (kcd.mp u3).2 s hs)
    rwa [hcb] at h8
