theorem zall_0 {P : Nat → Prop} : ∀ k : Nat, (k : Int) < 0 → P k := fun k h => absurd h (by omega)
theorem zall_s {P : Nat → Prop} {u : Int} (h0 : 0 ≤ u) (h : ∀ k : Nat, (k : Int) < u → P k) (hu : P u.toNat) : ∀ k : Nat, (k : Int) < u + 1 → P k := by
  intro k hk
  by_cases e : k = u.toNat
  · rw [e]; exact hu
  · exact h k (by omega)
theorem gup_s {α : Type} (f : Nat → α → α) (a : α) {u : Int} (h : 0 ≤ u) : gup f a (u + 1).toNat = f u.toNat (gup f a u.toNat) := by
  rw [show (u + 1).toNat = u.toNat + 1 by omega]
  rfl
def gtrF (T : zGT) (S g : Nat) : Nat → Nat → Nat := fun x r => if S.testBit x then r ||| 2 ^ gm T (gm T (gi T g) x) g else r
theorem gtr_e (T : zGT) (S g : Nat) : gtr T S g = gup (gtrF T S g) 0 (gN T) := rfl
theorem gtr_b {T : zGT} (hG : gGd T) {S g : Nat} (hg : g < gN T) : ∀ k, k ≤ gN T → gup (gtrF T S g) 0 k < 2 ^ gN T
  | 0, _ => Nat.two_pow_pos _
  | k + 1, h => by
    have ih := gtr_b hG (S := S) hg k (by omega)
    show gtrF T S g k _ < _
    unfold gtrF
    split
    · exact Nat.or_lt_two_pow ih (Nat.pow_lt_pow_right (by omega) (hG.2.2.2 _ _ (hG.2.2.2 _ _ (hG.2.2.1 g hg) (by omega)) hg))
    · exact ih
theorem gtr_lt {T : zGT} (hG : gGd T) {S g : Nat} (hg : g < gN T) : gtr T S g < 2 ^ gN T := gtr_b hG hg _ (Nat.le_refl _)
theorem gtr_s0 {T : zGT} {S g : Nat} {s x r : Int} (hS : S = s.toNat) (hx : 0 ≤ x) (h : r = ((gup (gtrF T S g) 0 x.toNat : Nat) : Int)) (hb : ¬ zbt s x) : r = ((gup (gtrF T S g) 0 (x + 1).toNat : Nat) : Int) := by
  rw [gup_s _ _ hx]
  unfold gtrF at h ⊢
  unfold zbt at hb
  rw [hS] at h ⊢
  rw [if_neg (by simpa using hb)]
  exact h
theorem gtr_s1 {T : zGT} (hG : gGd T) {S g : Nat} (hg : g < gN T) {s x r v w : Int} (hS : S = s.toNat) (hx : 0 ≤ x) (hxn : x.toNat < gN T) (h : r = ((gup (gtrF T S g) 0 x.toNat : Nat) : Int)) (hb : zbt s x) (hw : w = ((gm T (gi T g) x.toNat : Nat) : Int)) (hv : v = ((gm T w.toNat g : Nat) : Int)) : zor r (zshl 1 v) = ((gup (gtrF T S g) 0 (x + 1).toNat : Nat) : Int) := by
  have h2 := gtr_b hG (S := S) hg x.toNat (by omega)
  have h3 : (2 : Nat) ^ gN T ≤ 2 ^ 24 := Nat.pow_le_pow_right (by omega) hG.2.1
  have h4 : (2 : Nat) ^ 24 = 16777216 := rfl
  have hwn : w.toNat = gm T (gi T g) x.toNat := by omega
  have hgm := hG.2.2.2 _ g (hG.2.2.2 _ _ (hG.2.2.1 g hg) hxn) hg
  rw [hwn] at hv
  have h24 := hG.2.1
  rw [zorb (by omega) (by omega) (by omega) (by omega), gup_s _ _ hx]
  have e : v.toNat = gm T (gm T (gi T g) x.toNat) g := by omega
  rw [e, h]
  show _ = ((gtrF T S g x.toNat _ : Nat) : Int)
  unfold zbt at hb
  rw [← hS] at hb
  generalize gup (gtrF T S g) 0 x.toNat = q
  unfold gtrF
  rw [if_pos hb]
  rfl
def gltF (T : zGT) (S : Nat) : Nat → Nat → Nat := fun g r => if gtr T S g < r then gtr T S g else r
theorem glt_e (T : zGT) (S : Nat) : glt T S = gup (gltF T S) S (gN T) := rfl
theorem glt_s1 {T : zGT} {S : Nat} {r t g : Int} (hg : 0 ≤ g) (h : r = ((gup (gltF T S) S g.toNat : Nat) : Int)) (ht : t = ((gtr T S g.toNat : Nat) : Int)) (hc : t < r) : t = ((gup (gltF T S) S (g + 1).toNat : Nat) : Int) := by
  rw [gup_s _ _ hg]
  generalize gup (gltF T S) S g.toNat = q at h ⊢
  unfold gltF
  rw [if_pos (by omega), ht]
theorem glt_s0 {T : zGT} {S : Nat} {r t g : Int} (hg : 0 ≤ g) (h : r = ((gup (gltF T S) S g.toNat : Nat) : Int)) (ht : t = ((gtr T S g.toNat : Nat) : Int)) (hc : r ≤ t) : r = ((gup (gltF T S) S (g + 1).toNat : Nat) : Int) := by
  rw [gup_s _ _ hg]
  generalize gup (gltF T S) S g.toNat = q at h ⊢
  unfold gltF
  rw [if_neg (by omega), h]
def gcoF (T : zGT) (S x : Nat) : Nat → Nat → Nat := fun h r => if S.testBit h && decide (gm T h x < r) then gm T h x else r
theorem gcos_e (T : zGT) (S x : Nat) : gcos T S x = gup (gcoF T S x) x (gN T) := rfl
theorem gcos_b {T : zGT} (hG : gGd T) {S x : Nat} (hx : x < gN T) : ∀ k, k ≤ gN T → gup (gcoF T S x) x k ≤ x
  | 0, _ => Nat.le_refl _
  | k + 1, h => by
    have ih := gcos_b hG (S := S) hx k (by omega)
    show gcoF T S x k _ ≤ _
    generalize gup (gcoF T S x) x k = q at ih ⊢
    unfold gcoF
    split
    · rename_i h2
      simp only [Bool.and_eq_true, decide_eq_true_eq] at h2
      omega
    · exact ih
theorem gco_s1 {T : zGT} {S x : Nat} {s h r v : Int} (hS : S = s.toNat) (h0 : 0 ≤ h) (hr : r = ((gup (gcoF T S x) x h.toNat : Nat) : Int)) (hb : zbt s h) (hv : v = ((gm T h.toNat x : Nat) : Int)) (hc : v < r) : v = ((gup (gcoF T S x) x (h + 1).toNat : Nat) : Int) := by
  rw [gup_s _ _ h0]
  generalize gup (gcoF T S x) x h.toNat = q at hr ⊢
  unfold zbt at hb
  rw [← hS] at hb
  unfold gcoF
  rw [if_pos (by rw [hb, Bool.true_and, decide_eq_true_eq]; omega), hv]
theorem gco_s0 {T : zGT} {S x : Nat} {s h r v : Int} (hS : S = s.toNat) (h0 : 0 ≤ h) (hr : r = ((gup (gcoF T S x) x h.toNat : Nat) : Int)) (hc : ¬ zbt s h ∨ (v = ((gm T h.toNat x : Nat) : Int) ∧ r ≤ v)) : r = ((gup (gcoF T S x) x (h + 1).toNat : Nat) : Int) := by
  rw [gup_s _ _ h0]
  generalize gup (gcoF T S x) x h.toNat = q at hr ⊢
  unfold gcoF
  rw [if_neg, hr]
  rw [Bool.and_eq_true, decide_eq_true_eq]
  rintro ⟨h1, h2⟩
  rcases hc with hc | ⟨hc, hd⟩
  · unfold zbt at hc
    rw [← hS] at hc
    exact hc h1
  · omega
set_option maxHeartbeats 4000000 in
theorem c_M_subIndex (l : Launch) (Mz : zMem) (hW : zMt Mz) (a0_ : Int) (ha0_a : -2147483648 ≤ a0_) (ha0_b : a0_ < 2147483648) (p0_ : 0 ≤ ze Mz 81 25) (p1_ : ze Mz 81 25 ≤ 128) : zC l m_M_subIndex 0 0 [.ref 81, .int (Int32.ofInt a0_)] Mz (zpI [] [] Mz (fun v N => (((0 ≤ v ∧ v < ze Mz 81 25 ∧ ze Mz 89 (v).toNat = a0_) ∨ (v = -1 ∧ ∀ k : Nat, (k : Int) < ze Mz 81 25 → ze Mz 89 k ≠ a0_))))) := by
  refine zC_of (L0 := [some (.ref 81), some (.int (Int32.ofInt a0_)), none]) md_M_subIndex (Nat.le_of_ble_eq_true rfl) rfl ?_ zQ0
  have hf : zFr [] [] Mz Mz := zFr.rf
  have r_25 := ze_r Mz 81 25
  refine zw_iconst (pc := 0) (v := Int32.ofInt 0) (by decide) (zdal_p dlC_M_subIndex_33 (i := 0) rfl) ?_
  refine zw_istore_n (pc := 1) (i := 2) (L2 := [some (.ref 81), some (.int (Int32.ofInt a0_)), some (.int (Int32.ofInt 0))]) rfl (by decide) rfl (zdal_p dlC_M_subIndex_33 (i := 1) rfl) ?_
  have lp_2 : ∀ (n : Nat) (u1_ : Int) (hu1_a : -2147483648 ≤ u1_) (hu1_b : u1_ < 2147483648) (i2_ : 0 ≤ u1_) (i3_ : ∀ k : Nat, (k : Int) < u1_ → ze Mz 89 k ≠ a0_), (ze Mz 81 25 - u1_).toNat < n → zW l m_M_subIndex (zn Mz + 0, zw Mz + 0) Mz 2 [some (.ref 81), some (.int (Int32.ofInt a0_)), some (.int (Int32.ofInt u1_))] [] (zpI [] [] Mz (fun v N => (((0 ≤ v ∧ v < ze Mz 81 25 ∧ ze Mz 89 (v).toNat = a0_) ∨ (v = -1 ∧ ∀ k : Nat, (k : Int) < ze Mz 81 25 → ze Mz 89 k ≠ a0_))))) := by
    intro n
    induction n with
    | zero =>
      intro u1_ hu1_a hu1_b i2_ i3_ h0
      exact absurd h0 (Nat.not_lt_zero _)
    | succ n ih_2 =>
      intro u1_ hu1_a hu1_b i2_ i3_ hlt_2
      refine zw_iload_n (pc := 2) (n := 2) (x := Int32.ofInt u1_) rfl (zdal_p dlC_M_subIndex_33 (i := 2) rfl) ?_
      refine zw_aload_n (pc := 3) (n := 0) (x := 81) rfl (zdal_p dlC_M_subIndex_33 (i := 3) rfl) ?_
      refine zr_getI0 hf hW (pc := 4) (by decide) f_M_220 rfl (zdal_p dlC_M_subIndex_33 (i := 4) rfl) ?_
      refine zr_icmp_ge (pc := 7) (tgt := 28) ⟨hu1_a, hu1_b⟩ ⟨(ze_r Mz 81 25).1, (ze_r Mz 81 25).2⟩ (by decide) (zdal_p dlC_M_subIndex_33 (i := 5) rfl) (fun hc_7 => ?_) (fun hc_7 => ?_)
      · skip
        refine zw_iconst (pc := 28) (v := Int32.ofInt (-1)) (by decide) (zdal_p dlC_M_subIndex_33 (i := 16) rfl) ?_
        exact zr_iret (pc := 29) (ty := .int) rfl rfl ⟨by omega, by omega⟩ hf (show ((0 ≤ ((-1)) ∧ ((-1)) < ze Mz 81 25 ∧ ze Mz 89 (((-1))).toNat = a0_) ∨ (((-1)) = -1 ∧ ∀ k : Nat, (k : Int) < ze Mz 81 25 → ze Mz 89 k ≠ a0_)) from Or.inr (⟨(show ((-1)) = -1 by first | omega | (intro k hk; exact (show ∀ k : Nat, (k : Int) < u1_ → ze Mz 89 k ≠ a0_ by assumption) k (by omega))), (show ∀ k : Nat, (k : Int) < ze Mz 81 25 → ze Mz 89 k ≠ a0_ by first | omega | (intro k hk; exact (show ∀ k : Nat, (k : Int) < u1_ → ze Mz 89 k ≠ a0_ by assumption) k (by omega)))⟩)) (zdal_p dlC_M_subIndex_33 (i := 17) rfl)
      · skip
        refine zw_aload_n (pc := 10) (n := 0) (x := 81) rfl (zdal_p dlC_M_subIndex_33 (i := 6) rfl) ?_
        refine zr_getF (r := 89) (hf.w hW) (pc := 11) f_M_38 rfl (zh_89 (hf.w hW)).1 (zdal_p dlC_M_subIndex_33 (i := 7) rfl) ?_
        refine zw_iload_n (pc := 14) (n := 2) (x := Int32.ofInt u1_) rfl (zdal_p dlC_M_subIndex_33 (i := 8) rfl) ?_
        refine zr_ialdn (pc := 15) (zh_89 (hf.w hW)).2 (by decide) (by omega) (by omega) (zdal_p dlC_M_subIndex_33 (i := 9) rfl) (fun v4_ hv4_ hv4_a hv4_b => ?_)
        refine zw_iload_n (pc := 16) (n := 1) (x := Int32.ofInt a0_) rfl (zdal_p dlC_M_subIndex_33 (i := 10) rfl) ?_
        refine zr_icmp_ne (pc := 17) (tgt := 22) ⟨hv4_a, hv4_b⟩ ⟨ha0_a, ha0_b⟩ (by decide) (zdal_p dlC_M_subIndex_33 (i := 11) rfl) (fun hc_17 => ?_) (fun hc_17 => ?_)
        · skip
          refine zr_iinc (pc := 22) (i := 2) (a := u1_) (n := 1) (L2 := [some (.ref 81), some (.int (Int32.ofInt a0_)), some (.int (Int32.ofInt (u1_ + 1)))]) rfl (by decide) rfl (zdal_p dlC_M_subIndex_33 (i := 14) rfl) ?_
          refine zw_goto (pc := 25) (tgt := 2) (by decide) (zdal_p dlC_M_subIndex_33 (i := 15) rfl) ?_
          exact ih_2 (u1_ + 1) (by omega) (by omega) (show 0 ≤ (u1_ + 1) by first | assumption | omega) (show ∀ k : Nat, (k : Int) < (u1_ + 1) → ze Mz 89 k ≠ a0_ by exact zall_s (by omega) (by assumption) (by omega)) (by omega)
        · skip
          refine zw_iload_n (pc := 20) (n := 2) (x := Int32.ofInt u1_) rfl (zdal_p dlC_M_subIndex_33 (i := 12) rfl) ?_
          exact zr_iret (pc := 21) (ty := .int) rfl rfl ⟨by omega, by omega⟩ hf (show ((0 ≤ u1_ ∧ u1_ < ze Mz 81 25 ∧ ze Mz 89 (u1_).toNat = a0_) ∨ (u1_ = -1 ∧ ∀ k : Nat, (k : Int) < ze Mz 81 25 → ze Mz 89 k ≠ a0_)) from Or.inl (⟨(show 0 ≤ u1_ by first | assumption | omega), (show u1_ < ze Mz 81 25 by first | assumption | omega), (show ze Mz 89 (u1_).toNat = a0_ by first | assumption | omega)⟩)) (zdal_p dlC_M_subIndex_33 (i := 13) rfl)
  exact lp_2 _ 0 (by decide) (by decide) (show 0 ≤ (0 : Int) by first | assumption | omega) (show ∀ k : Nat, (k : Int) < (0 : Int) → ze Mz 89 k ≠ a0_ by exact zall_0) (Nat.lt_succ_self _)
set_option maxHeartbeats 4000000 in
theorem c_M_sortOfFirst (l : Launch) (Mz : zMem) (hW : zMt Mz) (a0_ : Int) (ha0_a : -2147483648 ≤ a0_) (ha0_b : a0_ < 2147483648) (p0_ : 0 ≤ ze Mz 81 26) (p1_ : ze Mz 81 26 ≤ 64) : zC l m_M_sortOfFirst 0 0 [.ref 81, .int (Int32.ofInt a0_)] Mz (zpI [] [] Mz (fun v N => (((0 ≤ v ∧ v < ze Mz 81 26 ∧ ze Mz 91 (v).toNat = a0_) ∨ (v = -1 ∧ ∀ k : Nat, (k : Int) < ze Mz 81 26 → ze Mz 91 k ≠ a0_))))) := by
  refine zC_of (L0 := [some (.ref 81), some (.int (Int32.ofInt a0_)), none]) md_M_sortOfFirst (Nat.le_of_ble_eq_true rfl) rfl ?_ zQ0
  have hf : zFr [] [] Mz Mz := zFr.rf
  have r_26 := ze_r Mz 81 26
  refine zw_iconst (pc := 0) (v := Int32.ofInt 0) (by decide) (zdal_p dlC_M_sortOfFirst_41 (i := 0) rfl) ?_
  refine zw_istore_n (pc := 1) (i := 2) (L2 := [some (.ref 81), some (.int (Int32.ofInt a0_)), some (.int (Int32.ofInt 0))]) rfl (by decide) rfl (zdal_p dlC_M_sortOfFirst_41 (i := 1) rfl) ?_
  have lp_2 : ∀ (n : Nat) (u1_ : Int) (hu1_a : -2147483648 ≤ u1_) (hu1_b : u1_ < 2147483648) (i2_ : 0 ≤ u1_) (i3_ : ∀ k : Nat, (k : Int) < u1_ → ze Mz 91 k ≠ a0_), (ze Mz 81 26 - u1_).toNat < n → zW l m_M_sortOfFirst (zn Mz + 0, zw Mz + 0) Mz 2 [some (.ref 81), some (.int (Int32.ofInt a0_)), some (.int (Int32.ofInt u1_))] [] (zpI [] [] Mz (fun v N => (((0 ≤ v ∧ v < ze Mz 81 26 ∧ ze Mz 91 (v).toNat = a0_) ∨ (v = -1 ∧ ∀ k : Nat, (k : Int) < ze Mz 81 26 → ze Mz 91 k ≠ a0_))))) := by
    intro n
    induction n with
    | zero =>
      intro u1_ hu1_a hu1_b i2_ i3_ h0
      exact absurd h0 (Nat.not_lt_zero _)
    | succ n ih_2 =>
      intro u1_ hu1_a hu1_b i2_ i3_ hlt_2
      refine zw_iload_n (pc := 2) (n := 2) (x := Int32.ofInt u1_) rfl (zdal_p dlC_M_sortOfFirst_41 (i := 2) rfl) ?_
      refine zw_aload_n (pc := 3) (n := 0) (x := 81) rfl (zdal_p dlC_M_sortOfFirst_41 (i := 3) rfl) ?_
      refine zr_getI0 hf hW (pc := 4) (by decide) f_M_235 rfl (zdal_p dlC_M_sortOfFirst_41 (i := 4) rfl) ?_
      refine zr_icmp_ge (pc := 7) (tgt := 28) ⟨hu1_a, hu1_b⟩ ⟨(ze_r Mz 81 26).1, (ze_r Mz 81 26).2⟩ (by decide) (zdal_p dlC_M_sortOfFirst_41 (i := 5) rfl) (fun hc_7 => ?_) (fun hc_7 => ?_)
      · skip
        refine zw_iconst (pc := 28) (v := Int32.ofInt (-1)) (by decide) (zdal_p dlC_M_sortOfFirst_41 (i := 16) rfl) ?_
        exact zr_iret (pc := 29) (ty := .int) rfl rfl ⟨by omega, by omega⟩ hf (show ((0 ≤ ((-1)) ∧ ((-1)) < ze Mz 81 26 ∧ ze Mz 91 (((-1))).toNat = a0_) ∨ (((-1)) = -1 ∧ ∀ k : Nat, (k : Int) < ze Mz 81 26 → ze Mz 91 k ≠ a0_)) from Or.inr (⟨(show ((-1)) = -1 by first | omega | (intro k hk; exact (show ∀ k : Nat, (k : Int) < u1_ → ze Mz 91 k ≠ a0_ by assumption) k (by omega))), (show ∀ k : Nat, (k : Int) < ze Mz 81 26 → ze Mz 91 k ≠ a0_ by first | omega | (intro k hk; exact (show ∀ k : Nat, (k : Int) < u1_ → ze Mz 91 k ≠ a0_ by assumption) k (by omega)))⟩)) (zdal_p dlC_M_sortOfFirst_41 (i := 17) rfl)
      · skip
        refine zw_aload_n (pc := 10) (n := 0) (x := 81) rfl (zdal_p dlC_M_sortOfFirst_41 (i := 6) rfl) ?_
        refine zr_getF (r := 91) (hf.w hW) (pc := 11) f_M_44 rfl (zh_91 (hf.w hW)).1 (zdal_p dlC_M_sortOfFirst_41 (i := 7) rfl) ?_
        refine zw_iload_n (pc := 14) (n := 2) (x := Int32.ofInt u1_) rfl (zdal_p dlC_M_sortOfFirst_41 (i := 8) rfl) ?_
        refine zr_ialdn (pc := 15) (zh_91 (hf.w hW)).2 (by decide) (by omega) (by omega) (zdal_p dlC_M_sortOfFirst_41 (i := 9) rfl) (fun v4_ hv4_ hv4_a hv4_b => ?_)
        refine zw_iload_n (pc := 16) (n := 1) (x := Int32.ofInt a0_) rfl (zdal_p dlC_M_sortOfFirst_41 (i := 10) rfl) ?_
        refine zr_icmp_ne (pc := 17) (tgt := 22) ⟨hv4_a, hv4_b⟩ ⟨ha0_a, ha0_b⟩ (by decide) (zdal_p dlC_M_sortOfFirst_41 (i := 11) rfl) (fun hc_17 => ?_) (fun hc_17 => ?_)
        · skip
          refine zr_iinc (pc := 22) (i := 2) (a := u1_) (n := 1) (L2 := [some (.ref 81), some (.int (Int32.ofInt a0_)), some (.int (Int32.ofInt (u1_ + 1)))]) rfl (by decide) rfl (zdal_p dlC_M_sortOfFirst_41 (i := 14) rfl) ?_
          refine zw_goto (pc := 25) (tgt := 2) (by decide) (zdal_p dlC_M_sortOfFirst_41 (i := 15) rfl) ?_
          exact ih_2 (u1_ + 1) (by omega) (by omega) (show 0 ≤ (u1_ + 1) by first | assumption | omega) (show ∀ k : Nat, (k : Int) < (u1_ + 1) → ze Mz 91 k ≠ a0_ by exact zall_s (by omega) (by assumption) (by omega)) (by omega)
        · skip
          refine zw_iload_n (pc := 20) (n := 2) (x := Int32.ofInt u1_) rfl (zdal_p dlC_M_sortOfFirst_41 (i := 12) rfl) ?_
          exact zr_iret (pc := 21) (ty := .int) rfl rfl ⟨by omega, by omega⟩ hf (show ((0 ≤ u1_ ∧ u1_ < ze Mz 81 26 ∧ ze Mz 91 (u1_).toNat = a0_) ∨ (u1_ = -1 ∧ ∀ k : Nat, (k : Int) < ze Mz 81 26 → ze Mz 91 k ≠ a0_)) from Or.inl (⟨(show 0 ≤ u1_ by first | assumption | omega), (show u1_ < ze Mz 81 26 by first | assumption | omega), (show ze Mz 91 (u1_).toNat = a0_ by first | assumption | omega)⟩)) (zdal_p dlC_M_sortOfFirst_41 (i := 13) rfl)
  exact lp_2 _ 0 (by decide) (by decide) (show 0 ≤ (0 : Int) by first | assumption | omega) (show ∀ k : Nat, (k : Int) < (0 : Int) → ze Mz 91 k ≠ a0_ by exact zall_0) (Nat.lt_succ_self _)
set_option maxHeartbeats 4000000 in
theorem c_M_turned (l : Launch) (Mz : zMem) (hW : zMt Mz) (a0_ : Int) (ha0_a : -2147483648 ≤ a0_) (ha0_b : a0_ < 2147483648) (a1_ : Int) (ha1_a : -2147483648 ≤ a1_) (ha1_b : a1_ < 2147483648) (T : zGT) (hG : gGd T) (p0_ : zTab T Mz) (p1_ : 0 ≤ a0_) (p2_ : 0 ≤ a1_) (p3_ : a1_ < ze Mz 81 20) : zC l m_M_turned 0 0 [.ref 81, .int (Int32.ofInt a0_), .int (Int32.ofInt a1_)] Mz (zpI [] [] Mz (fun v N => v = ((gtr T (a0_).toNat (a1_).toNat : Nat) : Int) ∧ 0 ≤ v ∧ v < 16777216)) := by
  refine zC_of (L0 := [some (.ref 81), some (.int (Int32.ofInt a0_)), some (.int (Int32.ofInt a1_)), none, none]) md_M_turned (Nat.le_of_ble_eq_true rfl) rfl ?_ zQ0
  have hf : zFr [] [] Mz Mz := zFr.rf
  have r_20 := ze_r Mz 81 20
  have gn := p0_.1
  have g1 := hG.1
  have g24 := hG.2.1
  have hg : (a1_).toNat < gN T := by omega
  have hu := hG.2.2.1 _ hg
  have hui := p0_.u (a := a1_) (by omega) (by omega)
  refine zw_iconst (pc := 0) (v := Int32.ofInt 0) (by decide) (zdal_p dlC_M_turned_35 (i := 0) rfl) ?_
  refine zw_istore_n (pc := 1) (i := 3) (L2 := [some (.ref 81), some (.int (Int32.ofInt a0_)), some (.int (Int32.ofInt a1_)), some (.int (Int32.ofInt 0)), none]) rfl (by decide) rfl (zdal_p dlC_M_turned_35 (i := 1) rfl) ?_
  refine zw_iconst (pc := 2) (v := Int32.ofInt 0) (by decide) (zdal_p dlC_M_turned_35 (i := 2) rfl) ?_
  refine zw_istore (pc := 3) (i := 4) (L2 := [some (.ref 81), some (.int (Int32.ofInt a0_)), some (.int (Int32.ofInt a1_)), some (.int (Int32.ofInt 0)), some (.int (Int32.ofInt 0))]) (by decide) rfl (zdal_p dlC_M_turned_35 (i := 3) rfl) ?_
  have lp_5 : ∀ (n : Nat) (u1_ : Int) (hu1_a : -2147483648 ≤ u1_) (hu1_b : u1_ < 2147483648) (u2_ : Int) (hu2_a : -2147483648 ≤ u2_) (hu2_b : u2_ < 2147483648) (i3_ : 0 ≤ u2_) (i4_ : 0 ≤ u1_) (i5_ : u1_ < 16777216) (i6_ : u1_ = ((gup (gtrF T (a0_).toNat (a1_).toNat) 0 (u2_).toNat : Nat) : Int)) (i7_ : u2_ ≤ ze Mz 81 20), (ze Mz 81 20 - u2_).toNat < n → zW l m_M_turned (zn Mz + 0, zw Mz + 0) Mz 5 [some (.ref 81), some (.int (Int32.ofInt a0_)), some (.int (Int32.ofInt a1_)), some (.int (Int32.ofInt u1_)), some (.int (Int32.ofInt u2_))] [] (zpI [] [] Mz (fun v N => v = ((gtr T (a0_).toNat (a1_).toNat : Nat) : Int) ∧ 0 ≤ v ∧ v < 16777216)) := by
    intro n
    induction n with
    | zero =>
      intro u1_ hu1_a hu1_b u2_ hu2_a hu2_b i3_ i4_ i5_ i6_ i7_ h0
      exact absurd h0 (Nat.not_lt_zero _)
    | succ n ih_5 =>
      intro u1_ hu1_a hu1_b u2_ hu2_a hu2_b i3_ i4_ i5_ i6_ i7_ hlt_5
      refine zw_iload (pc := 5) (i := 4) (x := Int32.ofInt u2_) rfl (zdal_p dlC_M_turned_35 (i := 4) rfl) ?_
      refine zw_aload_n (pc := 7) (n := 0) (x := 81) rfl (zdal_p dlC_M_turned_35 (i := 5) rfl) ?_
      refine zr_getI0 hf hW (pc := 8) (by decide) f_M_196 rfl (zdal_p dlC_M_turned_35 (i := 6) rfl) ?_
      refine zr_icmp_ge (pc := 11) (tgt := 51) ⟨hu2_a, hu2_b⟩ ⟨(ze_r Mz 81 20).1, (ze_r Mz 81 20).2⟩ (by decide) (zdal_p dlC_M_turned_35 (i := 7) rfl) (fun hc_11 => ?_) (fun hc_11 => ?_)
      · skip
        refine zw_iload_n (pc := 51) (n := 3) (x := Int32.ofInt u1_) rfl (zdal_p dlC_M_turned_36 (i := 5) rfl) ?_
        have he : (u2_).toNat = gN T := by omega
        exact zr_iret (pc := 52) (ty := .int) rfl rfl ⟨by omega, by omega⟩ hf ⟨(show u1_ = ((gtr T (a0_).toNat (a1_).toNat : Nat) : Int) by rw [gtr_e, ← he]; assumption), (show 0 ≤ u1_ by first | assumption | omega), (show u1_ < 16777216 by first | assumption | omega)⟩ (zdal_p dlC_M_turned_36 (i := 6) rfl)
      · skip
        refine zw_iload_n (pc := 14) (n := 1) (x := Int32.ofInt a0_) rfl (zdal_p dlC_M_turned_35 (i := 8) rfl) ?_
        refine zw_iload (pc := 15) (i := 4) (x := Int32.ofInt u2_) rfl (zdal_p dlC_M_turned_35 (i := 9) rfl) ?_
        refine zr_callS hf.x (pc := 17) [.int (Int32.ofInt a0_), .int (Int32.ofInt u2_)] [] l_M_213 (c_M_holds l Mz (hf.w hW) a0_ ha0_a ha0_b u2_ hu2_a hu2_b (show 0 ≤ a0_ by first | assumption | omega) (show 0 ≤ u2_ by first | assumption | omega) (show u2_ < 32 by first | assumption | omega)) rfl rfl (by decide) (Nat.le_of_ble_eq_true rfl) (zdal_p dlC_M_turned_35 (i := 10) rfl) ?_
        rintro _ N8_ ⟨v9_, rfl, ⟨hv9_a, hv9_b⟩, hsN8_, hp0_N8_⟩
        obtain rfl := hsN8_.eq.symm
        replace hp0_N8_ : ((v9_ = 1 ∧ zbt a0_ u2_) ∨ (v9_ = 0 ∧ ¬ zbt a0_ u2_)) := hp0_N8_
        rcases hp0_N8_ with ⟨rfl, ha17_0_hp0_N8_⟩ | ⟨rfl, ha17_0_hp0_N8_⟩
        · skip
          show zW l m_M_turned (zn Mz + 0, zw Mz + 0) Mz 20 [some (.ref 81), some (.int (Int32.ofInt a0_)), some (.int (Int32.ofInt a1_)), some (.int (Int32.ofInt u1_)), some (.int (Int32.ofInt u2_))] [.int (Int32.ofInt 1)] _
          refine zr_if_eq (pc := 20) (tgt := 45) ⟨(by decide), (by decide)⟩ (by decide) (zdal_p dlC_M_turned_35 (i := 11) rfl) (fun hc_20 => ?_) (fun hc_20 => ?_)
          · skip
            exact absurd hc_20 (by decide)
          · skip
            refine zw_iload_n (pc := 23) (n := 3) (x := Int32.ofInt u1_) rfl (zdal_p dlC_M_turned_35 (i := 12) rfl) ?_
            refine zw_iconst (pc := 24) (v := Int32.ofInt 1) (by decide) (zdal_p dlC_M_turned_35 (i := 13) rfl) ?_
            refine zw_aload_n (pc := 25) (n := 0) (x := 81) rfl (zdal_p dlC_M_turned_35 (i := 14) rfl) ?_
            refine zw_aload_n (pc := 26) (n := 0) (x := 81) rfl (zdal_p dlC_M_turned_35 (i := 15) rfl) ?_
            refine zw_aload_n (pc := 27) (n := 0) (x := 81) rfl (zdal_p dlC_M_turned_35 (i := 16) rfl) ?_
            refine zr_getF (r := 88) (hf.w hW) (pc := 28) f_M_35 rfl (zh_88 (hf.w hW)).1 (zdal_p dlC_M_turned_35 (i := 17) rfl) ?_
            refine zw_iload_n (pc := 31) (n := 2) (x := Int32.ofInt a1_) rfl (zdal_p dlC_M_turned_35 (i := 18) rfl) ?_
            refine zr_ialdn (pc := 32) (zh_88 (hf.w hW)).2 (by decide) (by omega) (by omega) (zdal_p dlC_M_turned_35 (i := 19) rfl) (fun v10_ hv10_ hv10_a hv10_b => ?_)
            have hu5 : (v10_).toNat = gi T (a1_).toNat := by omega
            refine zw_iload (pc := 33) (i := 4) (x := Int32.ofInt u2_) rfl (zdal_p dlC_M_turned_35 (i := 20) rfl) ?_
            refine zr_callV (hf.w hW) hf.x (pc := 35) [.int (Int32.ofInt v10_), .int (Int32.ofInt u2_)] [.ref 81, .int (Int32.ofInt 1), .int (Int32.ofInt u1_)] l_M_216 (c_M_by l Mz (hf.w hW) v10_ hv10_a hv10_b u2_ hu2_a hu2_b T hG p0_ (show 0 ≤ v10_ by first | assumption | omega) (show v10_ < ze Mz 81 20 by first | assumption | omega) (show 0 ≤ u2_ by first | assumption | omega) (show u2_ < ze Mz 81 20 by first | assumption | omega)) rfl rfl rfl (by decide) (Nat.le_of_ble_eq_true rfl) (zdal_p dlC_M_turned_35 (i := 21) rfl) ?_
            rintro _ N11_ ⟨v12_, rfl, ⟨hv12_a, hv12_b⟩, hsN11_, ⟨hp0_N11_, hp1_N11_, hp2_N11_⟩⟩
            obtain rfl := hsN11_.eq.symm
            show zW l m_M_turned (zn Mz + 0, zw Mz + 0) Mz 38 [some (.ref 81), some (.int (Int32.ofInt a0_)), some (.int (Int32.ofInt a1_)), some (.int (Int32.ofInt u1_)), some (.int (Int32.ofInt u2_))] [.int (Int32.ofInt v12_), .ref 81, .int (Int32.ofInt 1), .int (Int32.ofInt u1_)] _
            have hw1 : v12_ = ((gm T (gi T (a1_).toNat) (u2_).toNat : Nat) : Int) := by rw [← hu5]; assumption
            refine zw_iload_n (pc := 38) (n := 2) (x := Int32.ofInt a1_) rfl (zdal_p dlC_M_turned_35 (i := 22) rfl) ?_
            refine zr_callV (hf.w hW) hf.x (pc := 39) [.int (Int32.ofInt v12_), .int (Int32.ofInt a1_)] [.int (Int32.ofInt 1), .int (Int32.ofInt u1_)] l_M_216 (c_M_by l Mz (hf.w hW) v12_ hv12_a hv12_b a1_ ha1_a ha1_b T hG p0_ (show 0 ≤ v12_ by first | assumption | omega) (show v12_ < ze Mz 81 20 by first | assumption | omega) (show 0 ≤ a1_ by first | assumption | omega) (show a1_ < ze Mz 81 20 by first | assumption | omega)) rfl rfl rfl (by decide) (Nat.le_of_ble_eq_true rfl) (zdal_p dlC_M_turned_35 (i := 23) rfl) ?_
            rintro _ N13_ ⟨v14_, rfl, ⟨hv14_a, hv14_b⟩, hsN13_, ⟨hp0_N13_, hp1_N13_, hp2_N13_⟩⟩
            obtain rfl := hsN13_.eq.symm
            show zW l m_M_turned (zn Mz + 0, zw Mz + 0) Mz 42 [some (.ref 81), some (.int (Int32.ofInt a0_)), some (.int (Int32.ofInt a1_)), some (.int (Int32.ofInt u1_)), some (.int (Int32.ofInt u2_))] [.int (Int32.ofInt v14_), .int (Int32.ofInt 1), .int (Int32.ofInt u1_)] _
            refine zr_ishl (pc := 42) (zdal_p dlC_M_turned_36 (i := 0) rfl) ?_
            have hr15_ := zshl_r 1 v14_
            refine zr_ior (pc := 43) (zdal_p dlC_M_turned_36 (i := 1) rfl) ?_
            have hr16_ := zor_r u1_ (zshl 1 v14_)
            refine zw_istore_n (pc := 44) (i := 3) (L2 := [some (.ref 81), some (.int (Int32.ofInt a0_)), some (.int (Int32.ofInt a1_)), some (.int (Int32.ofInt (zor u1_ (zshl 1 v14_)))), some (.int (Int32.ofInt u2_))]) rfl (by decide) rfl (zdal_p dlC_M_turned_36 (i := 2) rfl) ?_
            refine zr_iinc (pc := 45) (i := 4) (a := u2_) (n := 1) (L2 := [some (.ref 81), some (.int (Int32.ofInt a0_)), some (.int (Int32.ofInt a1_)), some (.int (Int32.ofInt (zor u1_ (zshl 1 v14_)))), some (.int (Int32.ofInt (u2_ + 1)))]) rfl (by decide) rfl (zdal_p dlC_M_turned_36 (i := 3) rfl) ?_
            refine zw_goto (pc := 48) (tgt := 5) (by decide) (zdal_p dlC_M_turned_36 (i := 4) rfl) ?_
            have hv : (zor u1_ (zshl 1 v14_)) = ((gup (gtrF T (a0_).toNat (a1_).toNat) 0 ((u2_ + 1)).toNat : Nat) : Int) := by first | exact gtr_s0 rfl (by omega) (by assumption) (by assumption) | exact gtr_s1 hG hg rfl (by omega) (by omega) (by assumption) (by assumption) hw1 (by assumption)
            have hb := gtr_b hG (S := (a0_).toNat) hg ((u2_ + 1)).toNat (by omega)
            have hb2 : (2 : Nat) ^ gN T ≤ 2 ^ 24 := Nat.pow_le_pow_right (by omega) g24
            have hb3 : (2 : Nat) ^ 24 = 16777216 := rfl
            exact ih_5 (zor u1_ (zshl 1 v14_)) (by omega) (by omega) (u2_ + 1) (by omega) (by omega) (show 0 ≤ (u2_ + 1) by first | assumption | omega) (show 0 ≤ (zor u1_ (zshl 1 v14_)) by first | assumption | omega) (show (zor u1_ (zshl 1 v14_)) < 16777216 by first | assumption | omega) (show (zor u1_ (zshl 1 v14_)) = ((gup (gtrF T (a0_).toNat (a1_).toNat) 0 ((u2_ + 1)).toNat : Nat) : Int) by first | assumption | omega) (show (u2_ + 1) ≤ ze Mz 81 20 by first | assumption | omega) (by omega)
        · skip
          show zW l m_M_turned (zn Mz + 0, zw Mz + 0) Mz 20 [some (.ref 81), some (.int (Int32.ofInt a0_)), some (.int (Int32.ofInt a1_)), some (.int (Int32.ofInt u1_)), some (.int (Int32.ofInt u2_))] [.int (Int32.ofInt 0)] _
          refine zr_if_eq (pc := 20) (tgt := 45) ⟨(by decide), (by decide)⟩ (by decide) (zdal_p dlC_M_turned_35 (i := 11) rfl) (fun hc_20 => ?_) (fun hc_20 => ?_)
          · skip
            refine zr_iinc (pc := 45) (i := 4) (a := u2_) (n := 1) (L2 := [some (.ref 81), some (.int (Int32.ofInt a0_)), some (.int (Int32.ofInt a1_)), some (.int (Int32.ofInt u1_)), some (.int (Int32.ofInt (u2_ + 1)))]) rfl (by decide) rfl (zdal_p dlC_M_turned_36 (i := 3) rfl) ?_
            refine zw_goto (pc := 48) (tgt := 5) (by decide) (zdal_p dlC_M_turned_36 (i := 4) rfl) ?_
            have hv : u1_ = ((gup (gtrF T (a0_).toNat (a1_).toNat) 0 ((u2_ + 1)).toNat : Nat) : Int) := by first | exact gtr_s0 rfl (by omega) (by assumption) (by assumption) | exact gtr_s1 hG hg rfl (by omega) (by omega) (by assumption) (by assumption) hw1 (by assumption)
            have hb := gtr_b hG (S := (a0_).toNat) hg ((u2_ + 1)).toNat (by omega)
            have hb2 : (2 : Nat) ^ gN T ≤ 2 ^ 24 := Nat.pow_le_pow_right (by omega) g24
            have hb3 : (2 : Nat) ^ 24 = 16777216 := rfl
            exact ih_5 u1_ hu1_a hu1_b (u2_ + 1) (by omega) (by omega) (show 0 ≤ (u2_ + 1) by first | assumption | omega) (show 0 ≤ u1_ by first | assumption | omega) (show u1_ < 16777216 by first | assumption | omega) (show u1_ = ((gup (gtrF T (a0_).toNat (a1_).toNat) 0 ((u2_ + 1)).toNat : Nat) : Int) by first | assumption | omega) (show (u2_ + 1) ≤ ze Mz 81 20 by first | assumption | omega) (by omega)
          · skip
            exact absurd hc_20 (by decide)
  exact lp_5 _ 0 (by decide) (by decide) 0 (by decide) (by decide) (show 0 ≤ (0 : Int) by first | assumption | omega) (show 0 ≤ (0 : Int) by first | assumption | omega) (show (0 : Int) < 16777216 by first | assumption | omega) (show (0 : Int) = ((gup (gtrF T (a0_).toNat (a1_).toNat) 0 ((0 : Int)).toNat : Nat) : Int) by rfl) (show (0 : Int) ≤ ze Mz 81 20 by first | assumption | omega) (Nat.lt_succ_self _)
set_option maxHeartbeats 4000000 in
theorem c_M_leastTurned (l : Launch) (Mz : zMem) (hW : zMt Mz) (a0_ : Int) (ha0_a : -2147483648 ≤ a0_) (ha0_b : a0_ < 2147483648) (T : zGT) (hG : gGd T) (p0_ : zTab T Mz) (p1_ : 0 ≤ a0_) (p2_ : a0_ < 16777216) : zC l m_M_leastTurned 0 0 [.ref 81, .int (Int32.ofInt a0_)] Mz (zpI [] [] Mz (fun v N => v = ((glt T (a0_).toNat : Nat) : Int) ∧ 0 ≤ v ∧ v < 16777216)) := by
  refine zC_of (L0 := [some (.ref 81), some (.int (Int32.ofInt a0_)), none, none, none]) md_M_leastTurned (Nat.le_of_ble_eq_true rfl) rfl ?_ zQ0
  have hf : zFr [] [] Mz Mz := zFr.rf
  have r_20 := ze_r Mz 81 20
  have gn := p0_.1
  have g1 := hG.1
  have g24 := hG.2.1
  refine zw_iload_n (pc := 0) (n := 1) (x := Int32.ofInt a0_) rfl (zdal_p dlC_M_leastTurned_34 (i := 0) rfl) ?_
  refine zw_istore_n (pc := 1) (i := 2) (L2 := [some (.ref 81), some (.int (Int32.ofInt a0_)), some (.int (Int32.ofInt a0_)), none, none]) rfl (by decide) rfl (zdal_p dlC_M_leastTurned_34 (i := 1) rfl) ?_
  refine zw_iconst (pc := 2) (v := Int32.ofInt 0) (by decide) (zdal_p dlC_M_leastTurned_34 (i := 2) rfl) ?_
  refine zw_istore_n (pc := 3) (i := 3) (L2 := [some (.ref 81), some (.int (Int32.ofInt a0_)), some (.int (Int32.ofInt a0_)), some (.int (Int32.ofInt 0)), none]) rfl (by decide) rfl (zdal_p dlC_M_leastTurned_34 (i := 3) rfl) ?_
  have lp_4 : ∀ (n : Nat) (u1_ : Int) (hu1_a : -2147483648 ≤ u1_) (hu1_b : u1_ < 2147483648) (u2_ : Int) (hu2_a : -2147483648 ≤ u2_) (hu2_b : u2_ < 2147483648) (i3_ : 0 ≤ u2_) (i4_ : 0 ≤ u1_) (i5_ : u1_ < 16777216) (i6_ : u1_ = ((gup (gltF T (a0_).toNat) (a0_).toNat (u2_).toNat : Nat) : Int)) (i7_ : u2_ ≤ ze Mz 81 20), (ze Mz 81 20 - u2_).toNat < n → zW l m_M_leastTurned (zn Mz + 0, zw Mz + 0) Mz 4 [some (.ref 81), some (.int (Int32.ofInt a0_)), some (.int (Int32.ofInt u1_)), some (.int (Int32.ofInt u2_)), none] [] (zpI [] [] Mz (fun v N => v = ((glt T (a0_).toNat : Nat) : Int) ∧ 0 ≤ v ∧ v < 16777216)) := by
    intro n
    induction n with
    | zero =>
      intro u1_ hu1_a hu1_b u2_ hu2_a hu2_b i3_ i4_ i5_ i6_ i7_ h0
      exact absurd h0 (Nat.not_lt_zero _)
    | succ n ih_4 =>
      intro u1_ hu1_a hu1_b u2_ hu2_a hu2_b i3_ i4_ i5_ i6_ i7_ hlt_4
      refine zw_iload_n (pc := 4) (n := 3) (x := Int32.ofInt u2_) rfl (zdal_p dlC_M_leastTurned_34 (i := 4) rfl) ?_
      refine zw_aload_n (pc := 5) (n := 0) (x := 81) rfl (zdal_p dlC_M_leastTurned_34 (i := 5) rfl) ?_
      refine zr_getI0 hf hW (pc := 6) (by decide) f_M_196 rfl (zdal_p dlC_M_leastTurned_34 (i := 6) rfl) ?_
      refine zr_icmp_ge (pc := 9) (tgt := 39) ⟨hu2_a, hu2_b⟩ ⟨(ze_r Mz 81 20).1, (ze_r Mz 81 20).2⟩ (by decide) (zdal_p dlC_M_leastTurned_34 (i := 7) rfl) (fun hc_9 => ?_) (fun hc_9 => ?_)
      · skip
        refine zw_iload_n (pc := 39) (n := 2) (x := Int32.ofInt u1_) rfl (zdal_p dlC_M_leastTurned_34 (i := 22) rfl) ?_
        have he : (u2_).toNat = gN T := by omega
        exact zr_iret (pc := 40) (ty := .int) rfl rfl ⟨by omega, by omega⟩ hf ⟨(show u1_ = ((glt T (a0_).toNat : Nat) : Int) by rw [glt_e, ← he]; assumption), (show 0 ≤ u1_ by first | assumption | omega), (show u1_ < 16777216 by first | assumption | omega)⟩ (zdal_p dlC_M_leastTurned_34 (i := 23) rfl)
      · skip
        refine zw_aload_n (pc := 12) (n := 0) (x := 81) rfl (zdal_p dlC_M_leastTurned_34 (i := 8) rfl) ?_
        refine zw_iload_n (pc := 13) (n := 1) (x := Int32.ofInt a0_) rfl (zdal_p dlC_M_leastTurned_34 (i := 9) rfl) ?_
        refine zw_iload_n (pc := 14) (n := 3) (x := Int32.ofInt u2_) rfl (zdal_p dlC_M_leastTurned_34 (i := 10) rfl) ?_
        refine zr_callV (hf.w hW) hf.x (pc := 15) [.int (Int32.ofInt a0_), .int (Int32.ofInt u2_)] [] l_M_223 (c_M_turned l Mz (hf.w hW) a0_ ha0_a ha0_b u2_ hu2_a hu2_b T hG p0_ (show 0 ≤ a0_ by first | assumption | omega) (show 0 ≤ u2_ by first | assumption | omega) (show u2_ < ze Mz 81 20 by first | assumption | omega)) rfl rfl rfl (by decide) (Nat.le_of_ble_eq_true rfl) (zdal_p dlC_M_leastTurned_34 (i := 11) rfl) ?_
        rintro _ N8_ ⟨v9_, rfl, ⟨hv9_a, hv9_b⟩, hsN8_, ⟨hp0_N8_, hp1_N8_, hp2_N8_⟩⟩
        obtain rfl := hsN8_.eq.symm
        show zW l m_M_leastTurned (zn Mz + 0, zw Mz + 0) Mz 18 [some (.ref 81), some (.int (Int32.ofInt a0_)), some (.int (Int32.ofInt u1_)), some (.int (Int32.ofInt u2_)), none] [.int (Int32.ofInt v9_)] _
        refine zw_istore (pc := 18) (i := 4) (L2 := [some (.ref 81), some (.int (Int32.ofInt a0_)), some (.int (Int32.ofInt u1_)), some (.int (Int32.ofInt u2_)), some (.int (Int32.ofInt v9_))]) (by decide) rfl (zdal_p dlC_M_leastTurned_34 (i := 12) rfl) ?_
        refine zw_iload (pc := 20) (i := 4) (x := Int32.ofInt v9_) rfl (zdal_p dlC_M_leastTurned_34 (i := 13) rfl) ?_
        refine zw_iload_n (pc := 22) (n := 2) (x := Int32.ofInt u1_) rfl (zdal_p dlC_M_leastTurned_34 (i := 14) rfl) ?_
        refine zr_icmp_ge (pc := 23) (tgt := 31) ⟨hv9_a, hv9_b⟩ ⟨hu1_a, hu1_b⟩ (by decide) (zdal_p dlC_M_leastTurned_34 (i := 15) rfl) (fun hc_23 => ?_) (fun hc_23 => ?_)
        · skip
          refine zw_iload_n (pc := 31) (n := 2) (x := Int32.ofInt u1_) rfl (zdal_p dlC_M_leastTurned_34 (i := 18) rfl) ?_
          refine zw_istore_n (pc := 32) (i := 2) (L2 := [some (.ref 81), some (.int (Int32.ofInt a0_)), some (.int (Int32.ofInt u1_)), some (.int (Int32.ofInt u2_)), some (.int (Int32.ofInt v9_))]) rfl (by decide) rfl (zdal_p dlC_M_leastTurned_34 (i := 19) rfl) ?_
          refine zr_iinc (pc := 33) (i := 3) (a := u2_) (n := 1) (L2 := [some (.ref 81), some (.int (Int32.ofInt a0_)), some (.int (Int32.ofInt u1_)), some (.int (Int32.ofInt (u2_ + 1))), some (.int (Int32.ofInt v9_))]) rfl (by decide) rfl (zdal_p dlC_M_leastTurned_34 (i := 20) rfl) ?_
          refine zw_goto (pc := 36) (tgt := 4) (by decide) (zdal_p dlC_M_leastTurned_34 (i := 21) rfl) ?_
          have hv : u1_ = ((gup (gltF T (a0_).toNat) (a0_).toNat ((u2_ + 1)).toNat : Nat) : Int) := by first | exact glt_s1 (by omega) (by assumption) (by assumption) (by omega) | exact glt_s0 (by omega) (by assumption) (by assumption) (by omega)
          refine zW_le [some (.ref 81), some (.int (Int32.ofInt a0_)), some (.int (Int32.ofInt u1_)), some (.int (Int32.ofInt (u2_ + 1))), none] (⟨rfl, rfl, rfl, rfl, trivial⟩) ?_
          exact ih_4 u1_ hu1_a hu1_b (u2_ + 1) (by omega) (by omega) (show 0 ≤ (u2_ + 1) by first | assumption | omega) (show 0 ≤ u1_ by first | assumption | omega) (show u1_ < 16777216 by first | assumption | omega) (show u1_ = ((gup (gltF T (a0_).toNat) (a0_).toNat ((u2_ + 1)).toNat : Nat) : Int) by first | assumption | omega) (show (u2_ + 1) ≤ ze Mz 81 20 by first | assumption | omega) (by omega)
        · skip
          refine zw_iload (pc := 26) (i := 4) (x := Int32.ofInt v9_) rfl (zdal_p dlC_M_leastTurned_34 (i := 16) rfl) ?_
          refine zw_goto (pc := 28) (tgt := 32) (by decide) (zdal_p dlC_M_leastTurned_34 (i := 17) rfl) ?_
          refine zw_istore_n (pc := 32) (i := 2) (L2 := [some (.ref 81), some (.int (Int32.ofInt a0_)), some (.int (Int32.ofInt v9_)), some (.int (Int32.ofInt u2_)), some (.int (Int32.ofInt v9_))]) rfl (by decide) rfl (zdal_p dlC_M_leastTurned_34 (i := 19) rfl) ?_
          refine zr_iinc (pc := 33) (i := 3) (a := u2_) (n := 1) (L2 := [some (.ref 81), some (.int (Int32.ofInt a0_)), some (.int (Int32.ofInt v9_)), some (.int (Int32.ofInt (u2_ + 1))), some (.int (Int32.ofInt v9_))]) rfl (by decide) rfl (zdal_p dlC_M_leastTurned_34 (i := 20) rfl) ?_
          refine zw_goto (pc := 36) (tgt := 4) (by decide) (zdal_p dlC_M_leastTurned_34 (i := 21) rfl) ?_
          have hv : v9_ = ((gup (gltF T (a0_).toNat) (a0_).toNat ((u2_ + 1)).toNat : Nat) : Int) := by first | exact glt_s1 (by omega) (by assumption) (by assumption) (by omega) | exact glt_s0 (by omega) (by assumption) (by assumption) (by omega)
          refine zW_le [some (.ref 81), some (.int (Int32.ofInt a0_)), some (.int (Int32.ofInt v9_)), some (.int (Int32.ofInt (u2_ + 1))), none] (⟨rfl, rfl, rfl, rfl, trivial⟩) ?_
          exact ih_4 v9_ hv9_a hv9_b (u2_ + 1) (by omega) (by omega) (show 0 ≤ (u2_ + 1) by first | assumption | omega) (show 0 ≤ v9_ by first | assumption | omega) (show v9_ < 16777216 by first | assumption | omega) (show v9_ = ((gup (gltF T (a0_).toNat) (a0_).toNat ((u2_ + 1)).toNat : Nat) : Int) by first | assumption | omega) (show (u2_ + 1) ≤ ze Mz 81 20 by first | assumption | omega) (by omega)
  exact lp_4 _ a0_ ha0_a ha0_b 0 (by decide) (by decide) (show 0 ≤ (0 : Int) by first | assumption | omega) (show 0 ≤ a0_ by first | assumption | omega) (show a0_ < 16777216 by first | assumption | omega) (show a0_ = ((gup (gltF T (a0_).toNat) (a0_).toNat ((0 : Int)).toNat : Nat) : Int) by show a0_ = (((a0_).toNat : Nat) : Int); omega) (show (0 : Int) ≤ ze Mz 81 20 by first | assumption | omega) (Nat.lt_succ_self _)
set_option maxHeartbeats 4000000 in
theorem c_M_leastOf (l : Launch) (Mz : zMem) (hW : zMt Mz) (a0_ : Int) (ha0_a : -2147483648 ≤ a0_) (ha0_b : a0_ < 2147483648) (a1_ : Int) (ha1_a : -2147483648 ≤ a1_) (ha1_b : a1_ < 2147483648) (T : zGT) (hG : gGd T) (p0_ : zTab T Mz) (p1_ : 0 ≤ a0_) (p2_ : 0 ≤ a1_) (p3_ : a1_ < ze Mz 81 20) : zC l m_M_leastOf 0 0 [.ref 81, .int (Int32.ofInt a0_), .int (Int32.ofInt a1_)] Mz (zpI [] [] Mz (fun v N => v = ((gcos T (a0_).toNat (a1_).toNat : Nat) : Int) ∧ 0 ≤ v ∧ v ≤ a1_)) := by
  refine zC_of (L0 := [some (.ref 81), some (.int (Int32.ofInt a0_)), some (.int (Int32.ofInt a1_)), none, none]) md_M_leastOf (Nat.le_of_ble_eq_true rfl) rfl ?_ zQ0
  have hf : zFr [] [] Mz Mz := zFr.rf
  have r_20 := ze_r Mz 81 20
  have gn := p0_.1
  have g1 := hG.1
  have g24 := hG.2.1
  refine zw_iload_n (pc := 0) (n := 2) (x := Int32.ofInt a1_) rfl (zdal_p dlC_M_leastOf_42 (i := 0) rfl) ?_
  refine zw_istore_n (pc := 1) (i := 3) (L2 := [some (.ref 81), some (.int (Int32.ofInt a0_)), some (.int (Int32.ofInt a1_)), some (.int (Int32.ofInt a1_)), none]) rfl (by decide) rfl (zdal_p dlC_M_leastOf_42 (i := 1) rfl) ?_
  refine zw_iconst (pc := 2) (v := Int32.ofInt 0) (by decide) (zdal_p dlC_M_leastOf_42 (i := 2) rfl) ?_
  refine zw_istore (pc := 3) (i := 4) (L2 := [some (.ref 81), some (.int (Int32.ofInt a0_)), some (.int (Int32.ofInt a1_)), some (.int (Int32.ofInt a1_)), some (.int (Int32.ofInt 0))]) (by decide) rfl (zdal_p dlC_M_leastOf_42 (i := 3) rfl) ?_
  have lp_5 : ∀ (n : Nat) (u1_ : Int) (hu1_a : -2147483648 ≤ u1_) (hu1_b : u1_ < 2147483648) (u2_ : Int) (hu2_a : -2147483648 ≤ u2_) (hu2_b : u2_ < 2147483648) (i3_ : 0 ≤ u2_) (i4_ : 0 ≤ u1_) (i5_ : u1_ ≤ a1_) (i6_ : u1_ = ((gup (gcoF T (a0_).toNat (a1_).toNat) (a1_).toNat (u2_).toNat : Nat) : Int)) (i7_ : u2_ ≤ ze Mz 81 20), (ze Mz 81 20 - u2_).toNat < n → zW l m_M_leastOf (zn Mz + 0, zw Mz + 0) Mz 5 [some (.ref 81), some (.int (Int32.ofInt a0_)), some (.int (Int32.ofInt a1_)), some (.int (Int32.ofInt u1_)), some (.int (Int32.ofInt u2_))] [] (zpI [] [] Mz (fun v N => v = ((gcos T (a0_).toNat (a1_).toNat : Nat) : Int) ∧ 0 ≤ v ∧ v ≤ a1_)) := by
    intro n
    induction n with
    | zero =>
      intro u1_ hu1_a hu1_b u2_ hu2_a hu2_b i3_ i4_ i5_ i6_ i7_ h0
      exact absurd h0 (Nat.not_lt_zero _)
    | succ n ih_5 =>
      intro u1_ hu1_a hu1_b u2_ hu2_a hu2_b i3_ i4_ i5_ i6_ i7_ hlt_5
      refine zw_iload (pc := 5) (i := 4) (x := Int32.ofInt u2_) rfl (zdal_p dlC_M_leastOf_42 (i := 4) rfl) ?_
      refine zw_aload_n (pc := 7) (n := 0) (x := 81) rfl (zdal_p dlC_M_leastOf_42 (i := 5) rfl) ?_
      refine zr_getI0 hf hW (pc := 8) (by decide) f_M_196 rfl (zdal_p dlC_M_leastOf_42 (i := 6) rfl) ?_
      refine zr_icmp_ge (pc := 11) (tgt := 48) ⟨hu2_a, hu2_b⟩ ⟨(ze_r Mz 81 20).1, (ze_r Mz 81 20).2⟩ (by decide) (zdal_p dlC_M_leastOf_42 (i := 7) rfl) (fun hc_11 => ?_) (fun hc_11 => ?_)
      · skip
        refine zw_iload_n (pc := 48) (n := 3) (x := Int32.ofInt u1_) rfl (zdal_p dlC_M_leastOf_43 (i := 1) rfl) ?_
        have he : (u2_).toNat = gN T := by omega
        exact zr_iret (pc := 49) (ty := .int) rfl rfl ⟨by omega, by omega⟩ hf ⟨(show u1_ = ((gcos T (a0_).toNat (a1_).toNat : Nat) : Int) by rw [gcos_e, ← he]; assumption), (show 0 ≤ u1_ by first | assumption | omega), (show u1_ ≤ a1_ by first | assumption | omega)⟩ (zdal_p dlC_M_leastOf_43 (i := 2) rfl)
      · skip
        refine zw_iload_n (pc := 14) (n := 1) (x := Int32.ofInt a0_) rfl (zdal_p dlC_M_leastOf_42 (i := 8) rfl) ?_
        refine zw_iload (pc := 15) (i := 4) (x := Int32.ofInt u2_) rfl (zdal_p dlC_M_leastOf_42 (i := 9) rfl) ?_
        refine zr_callS hf.x (pc := 17) [.int (Int32.ofInt a0_), .int (Int32.ofInt u2_)] [] l_M_213 (c_M_holds l Mz (hf.w hW) a0_ ha0_a ha0_b u2_ hu2_a hu2_b (show 0 ≤ a0_ by first | assumption | omega) (show 0 ≤ u2_ by first | assumption | omega) (show u2_ < 32 by first | assumption | omega)) rfl rfl (by decide) (Nat.le_of_ble_eq_true rfl) (zdal_p dlC_M_leastOf_42 (i := 10) rfl) ?_
        rintro _ N8_ ⟨v9_, rfl, ⟨hv9_a, hv9_b⟩, hsN8_, hp0_N8_⟩
        obtain rfl := hsN8_.eq.symm
        replace hp0_N8_ : ((v9_ = 1 ∧ zbt a0_ u2_) ∨ (v9_ = 0 ∧ ¬ zbt a0_ u2_)) := hp0_N8_
        rcases hp0_N8_ with ⟨rfl, ha17_0_hp0_N8_⟩ | ⟨rfl, ha17_0_hp0_N8_⟩
        · skip
          show zW l m_M_leastOf (zn Mz + 0, zw Mz + 0) Mz 20 [some (.ref 81), some (.int (Int32.ofInt a0_)), some (.int (Int32.ofInt a1_)), some (.int (Int32.ofInt u1_)), some (.int (Int32.ofInt u2_))] [.int (Int32.ofInt 1)] _
          refine zr_if_eq (pc := 20) (tgt := 42) ⟨(by decide), (by decide)⟩ (by decide) (zdal_p dlC_M_leastOf_42 (i := 11) rfl) (fun hc_20 => ?_) (fun hc_20 => ?_)
          · skip
            exact absurd hc_20 (by decide)
          · skip
            refine zw_aload_n (pc := 23) (n := 0) (x := 81) rfl (zdal_p dlC_M_leastOf_42 (i := 12) rfl) ?_
            refine zw_iload (pc := 24) (i := 4) (x := Int32.ofInt u2_) rfl (zdal_p dlC_M_leastOf_42 (i := 13) rfl) ?_
            refine zw_iload_n (pc := 26) (n := 2) (x := Int32.ofInt a1_) rfl (zdal_p dlC_M_leastOf_42 (i := 14) rfl) ?_
            refine zr_callV (hf.w hW) hf.x (pc := 27) [.int (Int32.ofInt u2_), .int (Int32.ofInt a1_)] [] l_M_216 (c_M_by l Mz (hf.w hW) u2_ hu2_a hu2_b a1_ ha1_a ha1_b T hG p0_ (show 0 ≤ u2_ by first | assumption | omega) (show u2_ < ze Mz 81 20 by first | assumption | omega) (show 0 ≤ a1_ by first | assumption | omega) (show a1_ < ze Mz 81 20 by first | assumption | omega)) rfl rfl rfl (by decide) (Nat.le_of_ble_eq_true rfl) (zdal_p dlC_M_leastOf_42 (i := 15) rfl) ?_
            rintro _ N10_ ⟨v11_, rfl, ⟨hv11_a, hv11_b⟩, hsN10_, ⟨hp0_N10_, hp1_N10_, hp2_N10_⟩⟩
            obtain rfl := hsN10_.eq.symm
            show zW l m_M_leastOf (zn Mz + 0, zw Mz + 0) Mz 30 [some (.ref 81), some (.int (Int32.ofInt a0_)), some (.int (Int32.ofInt a1_)), some (.int (Int32.ofInt u1_)), some (.int (Int32.ofInt u2_))] [.int (Int32.ofInt v11_)] _
            refine zw_iload_n (pc := 30) (n := 3) (x := Int32.ofInt u1_) rfl (zdal_p dlC_M_leastOf_42 (i := 16) rfl) ?_
            refine zr_icmp_ge (pc := 31) (tgt := 42) ⟨hv11_a, hv11_b⟩ ⟨hu1_a, hu1_b⟩ (by decide) (zdal_p dlC_M_leastOf_42 (i := 17) rfl) (fun hc_31 => ?_) (fun hc_31 => ?_)
            · skip
              refine zr_iinc (pc := 42) (i := 4) (a := u2_) (n := 1) (L2 := [some (.ref 81), some (.int (Int32.ofInt a0_)), some (.int (Int32.ofInt a1_)), some (.int (Int32.ofInt u1_)), some (.int (Int32.ofInt (u2_ + 1)))]) rfl (by decide) rfl (zdal_p dlC_M_leastOf_42 (i := 23) rfl) ?_
              refine zw_goto (pc := 45) (tgt := 5) (by decide) (zdal_p dlC_M_leastOf_43 (i := 0) rfl) ?_
              have hv : u1_ = ((gup (gcoF T (a0_).toNat (a1_).toNat) (a1_).toNat ((u2_ + 1)).toNat : Nat) : Int) := by first | exact gco_s0 (v := 0) rfl (by omega) (by assumption) (Or.inl (by assumption)) | exact gco_s0 rfl (by omega) (by assumption) (Or.inr ⟨by assumption, by omega⟩) | exact gco_s1 rfl (by omega) (by assumption) (by assumption) (by assumption) (by omega)
              exact ih_5 u1_ hu1_a hu1_b (u2_ + 1) (by omega) (by omega) (show 0 ≤ (u2_ + 1) by first | assumption | omega) (show 0 ≤ u1_ by first | assumption | omega) (show u1_ ≤ a1_ by first | assumption | omega) (show u1_ = ((gup (gcoF T (a0_).toNat (a1_).toNat) (a1_).toNat ((u2_ + 1)).toNat : Nat) : Int) by first | assumption | omega) (show (u2_ + 1) ≤ ze Mz 81 20 by first | assumption | omega) (by omega)
            · skip
              refine zw_aload_n (pc := 34) (n := 0) (x := 81) rfl (zdal_p dlC_M_leastOf_42 (i := 18) rfl) ?_
              refine zw_iload (pc := 35) (i := 4) (x := Int32.ofInt u2_) rfl (zdal_p dlC_M_leastOf_42 (i := 19) rfl) ?_
              refine zw_iload_n (pc := 37) (n := 2) (x := Int32.ofInt a1_) rfl (zdal_p dlC_M_leastOf_42 (i := 20) rfl) ?_
              refine zr_callV (hf.w hW) hf.x (pc := 38) [.int (Int32.ofInt u2_), .int (Int32.ofInt a1_)] [] l_M_216 (c_M_by l Mz (hf.w hW) u2_ hu2_a hu2_b a1_ ha1_a ha1_b T hG p0_ (show 0 ≤ u2_ by first | assumption | omega) (show u2_ < ze Mz 81 20 by first | assumption | omega) (show 0 ≤ a1_ by first | assumption | omega) (show a1_ < ze Mz 81 20 by first | assumption | omega)) rfl rfl rfl (by decide) (Nat.le_of_ble_eq_true rfl) (zdal_p dlC_M_leastOf_42 (i := 21) rfl) ?_
              rintro _ N12_ ⟨v13_, rfl, ⟨hv13_a, hv13_b⟩, hsN12_, ⟨hp0_N12_, hp1_N12_, hp2_N12_⟩⟩
              obtain rfl := hsN12_.eq.symm
              show zW l m_M_leastOf (zn Mz + 0, zw Mz + 0) Mz 41 [some (.ref 81), some (.int (Int32.ofInt a0_)), some (.int (Int32.ofInt a1_)), some (.int (Int32.ofInt u1_)), some (.int (Int32.ofInt u2_))] [.int (Int32.ofInt v13_)] _
              refine zw_istore_n (pc := 41) (i := 3) (L2 := [some (.ref 81), some (.int (Int32.ofInt a0_)), some (.int (Int32.ofInt a1_)), some (.int (Int32.ofInt v13_)), some (.int (Int32.ofInt u2_))]) rfl (by decide) rfl (zdal_p dlC_M_leastOf_42 (i := 22) rfl) ?_
              refine zr_iinc (pc := 42) (i := 4) (a := u2_) (n := 1) (L2 := [some (.ref 81), some (.int (Int32.ofInt a0_)), some (.int (Int32.ofInt a1_)), some (.int (Int32.ofInt v13_)), some (.int (Int32.ofInt (u2_ + 1)))]) rfl (by decide) rfl (zdal_p dlC_M_leastOf_42 (i := 23) rfl) ?_
              refine zw_goto (pc := 45) (tgt := 5) (by decide) (zdal_p dlC_M_leastOf_43 (i := 0) rfl) ?_
              have hv : v13_ = ((gup (gcoF T (a0_).toNat (a1_).toNat) (a1_).toNat ((u2_ + 1)).toNat : Nat) : Int) := by first | exact gco_s0 (v := 0) rfl (by omega) (by assumption) (Or.inl (by assumption)) | exact gco_s0 rfl (by omega) (by assumption) (Or.inr ⟨by assumption, by omega⟩) | exact gco_s1 rfl (by omega) (by assumption) (by assumption) (by assumption) (by omega)
              exact ih_5 v13_ hv13_a hv13_b (u2_ + 1) (by omega) (by omega) (show 0 ≤ (u2_ + 1) by first | assumption | omega) (show 0 ≤ v13_ by first | assumption | omega) (show v13_ ≤ a1_ by first | assumption | omega) (show v13_ = ((gup (gcoF T (a0_).toNat (a1_).toNat) (a1_).toNat ((u2_ + 1)).toNat : Nat) : Int) by first | assumption | omega) (show (u2_ + 1) ≤ ze Mz 81 20 by first | assumption | omega) (by omega)
        · skip
          show zW l m_M_leastOf (zn Mz + 0, zw Mz + 0) Mz 20 [some (.ref 81), some (.int (Int32.ofInt a0_)), some (.int (Int32.ofInt a1_)), some (.int (Int32.ofInt u1_)), some (.int (Int32.ofInt u2_))] [.int (Int32.ofInt 0)] _
          refine zr_if_eq (pc := 20) (tgt := 42) ⟨(by decide), (by decide)⟩ (by decide) (zdal_p dlC_M_leastOf_42 (i := 11) rfl) (fun hc_20 => ?_) (fun hc_20 => ?_)
          · skip
            refine zr_iinc (pc := 42) (i := 4) (a := u2_) (n := 1) (L2 := [some (.ref 81), some (.int (Int32.ofInt a0_)), some (.int (Int32.ofInt a1_)), some (.int (Int32.ofInt u1_)), some (.int (Int32.ofInt (u2_ + 1)))]) rfl (by decide) rfl (zdal_p dlC_M_leastOf_42 (i := 23) rfl) ?_
            refine zw_goto (pc := 45) (tgt := 5) (by decide) (zdal_p dlC_M_leastOf_43 (i := 0) rfl) ?_
            have hv : u1_ = ((gup (gcoF T (a0_).toNat (a1_).toNat) (a1_).toNat ((u2_ + 1)).toNat : Nat) : Int) := by first | exact gco_s0 (v := 0) rfl (by omega) (by assumption) (Or.inl (by assumption)) | exact gco_s0 rfl (by omega) (by assumption) (Or.inr ⟨by assumption, by omega⟩) | exact gco_s1 rfl (by omega) (by assumption) (by assumption) (by assumption) (by omega)
            exact ih_5 u1_ hu1_a hu1_b (u2_ + 1) (by omega) (by omega) (show 0 ≤ (u2_ + 1) by first | assumption | omega) (show 0 ≤ u1_ by first | assumption | omega) (show u1_ ≤ a1_ by first | assumption | omega) (show u1_ = ((gup (gcoF T (a0_).toNat (a1_).toNat) (a1_).toNat ((u2_ + 1)).toNat : Nat) : Int) by first | assumption | omega) (show (u2_ + 1) ≤ ze Mz 81 20 by first | assumption | omega) (by omega)
          · skip
            exact absurd hc_20 (by decide)
  exact lp_5 _ a1_ ha1_a ha1_b 0 (by decide) (by decide) (show 0 ≤ (0 : Int) by first | assumption | omega) (show 0 ≤ a1_ by first | assumption | omega) (show a1_ ≤ a1_ by first | assumption | omega) (show a1_ = ((gup (gcoF T (a0_).toNat (a1_).toNat) (a1_).toNat ((0 : Int)).toNat : Nat) : Int) by show a1_ = (((a1_).toNat : Nat) : Int); omega) (show (0 : Int) ≤ ze Mz 81 20 by first | assumption | omega) (Nat.lt_succ_self _)
