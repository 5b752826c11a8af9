theorem kcd {a b : Bool} : cond a b false = true ↔ a = true ∧ b = true := by cases a <;> cases b <;> decide
noncomputable def kup (f : Nat → Nat → Nat) (a n : Nat) : Nat := Nat.rec a f n
theorem kup_e (f : Nat → Nat → Nat) (a : Nat) : ∀ n, kup f a n = gup f a n
  | 0 => rfl
  | n + 1 => by
    show f n (kup f a n) = f n (gup f a n)
    rw [kup_e f a n]
theorem kup_c {f g : Nat → Nat → Nat} (a : Nat) : ∀ n, (∀ k r, k < n → f k r = g k r) → kup f a n = gup g a n
  | 0, _ => rfl
  | n + 1, h => by
    show f n (kup f a n) = g n (gup g a n)
    rw [kup_c a n (fun k r hk => h k r (by omega)), h n _ (by omega)]
noncomputable def klt (n : Nat) (p : Nat → Bool) : Bool := Nat.rec true (fun k ih => cond (p k) ih false) n
theorem klt_s {p : Nat → Bool} : ∀ {n : Nat}, klt n p = true → ∀ k, k < n → p k = true
  | 0, _, k, hk => absurd hk (by omega)
  | n + 1, h, k, hk => by
    have h2 : p n = true ∧ klt n p = true := kcd.mp h
    by_cases e : k = n
    · rw [e]; exact h2.1
    · exact klt_s h2.2 k (by omega)
noncomputable def kall (l : List Nat) (p : Nat → Bool) : Bool := List.rec true (fun x _ ih => cond (p x) ih false) l
theorem kall_s {p : Nat → Bool} : ∀ {l : List Nat}, kall l p = true → ∀ x ∈ l, p x = true
  | [], _, x, hx => absurd hx List.not_mem_nil
  | y :: l, h, x, hx => by
    have h2 : p y = true ∧ kall l p = true := kcd.mp h
    rcases List.mem_cons.mp hx with rfl | hx
    · exact h2.1
    · exact kall_s h2.2 x hx
noncomputable def kmem (l : List Nat) (S : Nat) : Bool := List.rec false (fun x _ ih => cond (Nat.beq x S) true ih) l
theorem kmem_s {S : Nat} : ∀ {l : List Nat}, kmem l S = true → S ∈ l
  | [], h => by cases h
  | x :: l, h => by
    have h2 : cond (Nat.beq x S) true (kmem l S) = true := h
    cases hb : Nat.beq x S with
    | true => rw [Nat.eq_of_beq_eq_true hb]; exact List.mem_cons_self
    | false => rw [hb] at h2; exact List.mem_cons_of_mem _ (kmem_s h2)
noncomputable def klen (l : List Nat) : Nat := List.rec 0 (fun _ _ ih => Nat.succ ih) l
theorem klen_e : ∀ l : List Nat, klen l = l.length
  | [] => rfl
  | x :: l => by
    show Nat.succ (klen l) = _
    rw [klen_e l]; rfl
noncomputable def ktb (S k : Nat) : Bool := Nat.beq (Nat.mod (Nat.shiftRight S k) 2) 1
theorem kbq {a b : Nat} : Nat.beq a b = true ↔ a = b := ⟨Nat.eq_of_beq_eq_true, fun h => by rw [h]; exact Nat.beq_refl b⟩
theorem kbl {a b : Nat} : Nat.ble a b = true ↔ a ≤ b := ⟨Nat.le_of_ble_eq_true, Nat.ble_eq_true_of_le⟩
theorem ktb_e (S k : Nat) : ktb S k = S.testBit k := by
  rw [Nat.testBit_eq_decide_div_mod_eq, ← Nat.shiftRight_eq_div_pow]
  show Nat.beq ((S >>> k) % 2) 1 = _
  rcases Nat.mod_two_eq_zero_or_one (S >>> k) with h | h <;> rw [h] <;> rfl
theorem klg {S : Nat} (h : S ≠ 0) : S.testBit (Nat.log2 S) = true ∧ ∀ k, Nat.log2 S < k → S.testBit k = false := by
  have h1 := Nat.log2_self_le h
  have h2 := Nat.lt_log2_self (n := S)
  refine ⟨?_, fun k hk => Nat.testBit_lt_two_pow (Nat.lt_of_lt_of_le h2 (Nat.pow_le_pow_right (by omega) hk))⟩
  rw [Nat.testBit_eq_decide_div_mod_eq]
  have h3 : S / 2 ^ S.log2 = 1 := by
    refine Nat.div_eq_of_lt_le (by omega) ?_
    rw [Nat.pow_succ] at h2
    omega
  rw [h3]; rfl
noncomputable def kal (p : Nat → Bool) (fuel : Nat) : Nat → Bool := Nat.rec (fun S => Nat.beq S 0) (fun _ ih S => cond (Nat.beq S 0) true (cond (p (Nat.log2 S)) (ih (Nat.mod S (Nat.pow 2 (Nat.log2 S)))) false)) fuel
theorem kal_s {p : Nat → Bool} : ∀ {fuel S : Nat}, kal p fuel S = true → ∀ a, S.testBit a = true → p a = true
  | 0, S, h, a, ha => by
    have h0 : S = 0 := kbq.mp h
    rw [h0, Nat.zero_testBit] at ha
    cases ha
  | fuel + 1, S, h, a, ha => by
    have h2 : cond (Nat.beq S 0) true (cond (p (Nat.log2 S)) (kal p fuel (Nat.mod S (Nat.pow 2 (Nat.log2 S)))) false) = true := h
    cases hb : Nat.beq S 0 with
    | true =>
      rw [kbq.mp hb, Nat.zero_testBit] at ha
      cases ha
    | false =>
      rw [hb] at h2
      have h3 := kcd.mp h2
      have h0 : S ≠ 0 := fun e => by rw [kbq.mpr e] at hb; cases hb
      have hl := klg h0
      rcases Nat.lt_trichotomy a (Nat.log2 S) with g | g | g
      · refine kal_s h3.2 a ?_
        show (S % 2 ^ S.log2).testBit a = true
        rw [Nat.testBit_mod_two_pow, ha, decide_eq_true g]; rfl
      · rw [g]; exact h3.1
      · rw [hl.2 a g] at ha; cases ha
noncomputable def kfd (f : Nat → Nat → Nat) (fuel : Nat) : Nat → Nat → Nat := Nat.rec (fun _ r => r) (fun _ ih S r => cond (Nat.beq S 0) r (ih (Nat.mod S (Nat.pow 2 (Nat.log2 S))) (f (Nat.log2 S) r))) fuel
theorem kfd_i {f : Nat → Nat → Nat} {Q : Nat → Prop} : ∀ {fuel S r : Nat}, Q r → (∀ a r, S.testBit a = true → Q r → Q (f a r)) → Q (kfd f fuel S r)
  | 0, _, _, h, _ => h
  | fuel + 1, S, r, h, hf => by
    show Q (cond (Nat.beq S 0) r (kfd f fuel (Nat.mod S (Nat.pow 2 (Nat.log2 S))) (f (Nat.log2 S) r)))
    cases hb : Nat.beq S 0 with
    | true => exact h
    | false =>
      have h0 : S ≠ 0 := fun e => by rw [kbq.mpr e] at hb; cases hb
      have hl := klg h0
      refine kfd_i (hf _ _ hl.1 h) (fun a r ha hr => hf a r ?_ hr)
      have ha2 : (S % 2 ^ S.log2).testBit a = true := ha
      rw [Nat.testBit_mod_two_pow, Bool.and_eq_true] at ha2
      exact ha2.2
section KCK
variable (n P : Nat) (S F : List Nat) (Fp Ip Cp Kp Qp Dp : Nat)
noncomputable def kgm (a b : Nat) : Nat := Nat.mod (Nat.shiftRight P (Nat.mul 5 (Nat.add (Nat.mul 24 a) b))) 32
noncomputable def kI (a : Nat) : Nat := Nat.mod (Nat.shiftRight Ip (Nat.mul 5 a)) 32
noncomputable def kF (i : Nat) : Nat := Nat.mod (Nat.shiftRight Fp (Nat.mul 24 i)) 16777216
noncomputable def kC (i x : Nat) : Nat := Nat.mod (Nat.shiftRight Cp (Nat.mul 5 (Nat.add (Nat.mul 32 i) x))) 32
noncomputable def kK (i k : Nat) : Nat := Nat.mod (Nat.shiftRight Kp (Nat.mul 5 (Nat.add (Nat.mul 32 i) k))) 32
noncomputable def kQ (i k : Nat) : Nat := Nat.mod (Nat.shiftRight Qp (Nat.mul 5 (Nat.add (Nat.mul 32 i) k))) 32
noncomputable def kD (j k : Nat) : Nat := Nat.mod (Nat.shiftRight Dp (Nat.mul 11 (Nat.add (Nat.mul 32 j) k))) 2048
noncomputable def kps (X : Nat) : Nat := kfd (fun a r => kfd (fun b r => Nat.lor r (Nat.pow 2 (kgm P a b))) 24 X r) 24 X X
noncomputable def kc1 (X g : Nat) : Nat := kfd (fun a r => Nat.lor r (Nat.pow 2 (kgm P a g))) 24 X (Nat.lor X (Nat.pow 2 g))
noncomputable def kokF (s g fuel : Nat) : Nat → Bool := Nat.rec (fun X => cond (Nat.beq (Nat.mod X (Nat.pow 2 g)) (Nat.mod s (Nat.pow 2 g))) (kmem S X) true) (fun _ ih X => cond (Nat.beq (Nat.mod X (Nat.pow 2 g)) (Nat.mod s (Nat.pow 2 g))) (cond (kmem S X) true (ih (kps P X))) true) fuel
noncomputable def kok (s g : Nat) : Bool := kokF P S s g 3 (kc1 P s g)
noncomputable def kcs (X : Nat) : Bool := kal (fun a => kal (fun b => ktb X (kgm P a b)) 24 X) 24 X
noncomputable def kA : Bool := cond (Nat.ble 1 n) (cond (Nat.ble n 24) (klt n (fun a => cond (Nat.ble (Nat.succ (kI Ip a)) n) (cond (Nat.beq (kup (fun b r => cond (Nat.beq (kgm P a b) 0) b r) 0 n) (kI Ip a)) (klt n (fun b => Nat.ble (Nat.succ (kgm P a b)) n)) false) false)) false) false
noncomputable def kB : Bool := cond (Nat.ble (klen S) 64) (cond (kmem S 1) (cond (kall S (fun s => cond (Nat.ble (Nat.succ s) (Nat.pow 2 n)) (cond (ktb s 0) (kcs P s) false) false)) (kall S (fun s => klt n (fun g => cond (ktb s g) true (kok P S s g)))) false) false) false
noncomputable def ktr (X g : Nat) : Nat := kup (fun x r => cond (ktb X x) (Nat.lor r (Nat.pow 2 (kgm P (kgm P (kI Ip g) x) g))) r) 0 n
noncomputable def kle (X : Nat) : Nat := kup (fun g r => cond (Nat.ble (Nat.succ (ktr n P Ip X g)) r) (ktr n P Ip X g) r) X n
noncomputable def kcb (X : Nat) : Nat := kup (fun k r => Nat.add r (Nat.mod (Nat.shiftRight X k) 2)) 0 31
noncomputable def kky (X : Nat) : Nat := Nat.add (Nat.mul (kcb X) 16777216) X
noncomputable def kfl (l : List Nat) : Nat → Bool := List.rec (fun _ => true) (fun x _ ih i => cond (Nat.beq x (kF Fp i)) (ih (Nat.succ i)) false) l
noncomputable def kE : Bool := cond (kfl Fp F 0) (cond (kall S (fun s => cond (kmem F (kle n P Ip s)) (Nat.beq (kcb (kle n P Ip s)) (kcb s)) false)) (cond (kall F (fun f => cond (kmem S f) (Nat.beq (kle n P Ip f) f) false)) (klt (Nat.pred (klen F)) (fun i => Nat.ble (Nat.succ (kky (kF Fp i))) (kky (kF Fp (Nat.succ i))))) false) false) false
noncomputable def kcv (X x : Nat) : Nat := kup (fun h r => cond (ktb X h) (cond (Nat.ble (Nat.succ (kgm P h x)) r) (kgm P h x) r) r) x n
noncomputable def kfx (i H x : Nat) : Bool := cond (Nat.beq (kC Cp i x) x) (klt n (fun k => cond (ktb H k) (Nat.beq (kC Cp i (kgm P x k)) x) true)) false
noncomputable def kmk (i H : Nat) : Nat := kup (fun x r => cond (kfx n P Cp i H x) (Nat.succ r) r) 0 n
noncomputable def kG (m : Nat) : Bool := cond (Nat.ble m 30) (cond (klt m (fun i => klt n (fun x => Nat.beq (kcv n P (kF Fp i) x) (kC Cp i x)))) (cond (klt m (fun i => klt m (fun k => Nat.beq (kmk n P Cp i (kF Fp k)) (kK Kp i k)))) (cond (klt m (fun i => Nat.ble 1 (kK Kp i i))) (klt m (fun i => klt m (fun k => Nat.beq (Nat.mul (kQ Qp i k) (kK Kp i i)) (kK Kp i k)))) false) false) false) false
noncomputable def kds (j k c : Nat) : Nat := kup (fun i r => Nat.add r (Nat.mul (kD Dp j (Nat.add (Nat.add k 1) i)) (kQ Qp (Nat.add (Nat.add k 1) i) k))) 0 c
noncomputable def kqs (k c : Nat) : Nat := kup (fun i r => Nat.add r (kQ Qp (Nat.add (Nat.add k 1) i) k)) 0 c
noncomputable def kH (m : Nat) : Bool := klt m (fun j => klt m (fun k => cond (Nat.ble (kD Dp j k) 2000) (Nat.beq (Nat.add (kD Dp j k) (kds Qp Dp j k (Nat.sub (Nat.sub m 1) k))) (Nat.add (cond (Nat.beq k j) 1 0) (Nat.mul 1000 (Nat.succ (kqs Qp k (Nat.sub (Nat.sub m 1) k)))))) false))
noncomputable def kpw (m fuel : Nat) : Nat → Bool := Nat.rec (fun x => Nat.beq x 0) (fun _ ih x => cond (Nat.beq x 0) true (ih (kgm P x m))) fuel
noncomputable def kmm (i : Nat) : Nat := kup (fun x r => cond (Nat.beq (kC Cp i x) x) (cond (Nat.beq (ktr n P Ip (kF Fp i) x) (kF Fp i)) (Nat.succ r) r) r) 0 n
noncomputable def kJ (m : Nat) : Bool := cond (klt n (fun x => kpw P x 24 x)) (cond (klt m (fun i => Nat.beq (ktr n P Ip (kF Fp i) 0) (kF Fp i))) (cond (klt m (fun i => klt n (fun x => cond (ktb (kF Fp i) x) (cond (Nat.beq x 0) true (cond (Nat.beq (kC Cp i x) x) false true)) true))) (Nat.ble (kup (fun d r => Nat.add r (cond (Nat.ble (kmm n P Fp Ip Cp (Nat.sub (Nat.sub m 1) d)) 2) 1 0)) 0 m) 15) false) false) false
noncomputable def kchk : Bool := cond (kA n P Ip) (cond (kB n P S) (cond (kE n P S F Fp Ip) (cond (kG n P Fp Cp Kp Qp (klen F)) (cond (kH Qp Dp (klen F)) (kJ n P Fp Ip Cp (klen F)) false) false) false) false) false
end KCK
theorem kif {α : Type} (a b : Nat) (x y : α) : cond (Nat.beq a b) x y = if a = b then x else y := by
  cases h : Nat.beq a b with
  | true => rw [if_pos (kbq.mp h)]; rfl
  | false => rw [if_neg (fun e => by rw [kbq.mpr e] at h; cases h)]; rfl
theorem kil {α : Type} (a b : Nat) (x y : α) : cond (Nat.ble (Nat.succ a) b) x y = if a < b then x else y := by
  cases h : Nat.ble (Nat.succ a) b with
  | true => rw [if_pos (show a < b from kbl.mp h)]; rfl
  | false => rw [if_neg (fun e : a < b => by rw [kbl.mpr (show Nat.succ a ≤ b from e)] at h; cases h)]; rfl
theorem kib {α : Type} (a b : Nat) (x y : α) : cond (ktb a b) x y = if a.testBit b = true then x else y := by
  rw [ktb_e]
  cases a.testBit b <;> rfl
theorem klt_i {p : Nat → Bool} : ∀ {n : Nat}, (∀ k, k < n → p k = true) → klt n p = true
  | 0, _ => rfl
  | n + 1, h => kcd.mpr ⟨h n (by omega), klt_i (fun k hk => h k (by omega))⟩
theorem kfl_s {Fp : Nat} : ∀ {l : List Nat} {i0 : Nat}, kfl Fp l i0 = true → ∀ i, i < l.length → l.getD i 0 = kF Fp (i0 + i)
  | [], _, _, i, hi => absurd hi (Nat.not_lt_zero _)
  | x :: l, i0, h, i, hi => by
    have h2 : Nat.beq x (kF Fp i0) = true ∧ kfl Fp l (Nat.succ i0) = true := kcd.mp h
    match i with
    | 0 => exact kbq.mp h2.1
    | i + 1 =>
      have h3 := kfl_s h2.2 i (by simpa using hi)
      rw [show i0 + (i + 1) = Nat.succ i0 + i by omega]
      exact h3
theorem gSb_z {S C : Nat} {a : Nat} (h : gSb S C) (ha : C.testBit a = true) : gSb (Nat.lor S (Nat.pow 2 a)) C := gSb.or h (gSb.p2 ha)
theorem kc1_s {T : zGT} (hG : gGd T) {s g : Nat} (hs : s < 2 ^ gN T) (hg : g < gN T) : gSb (s ||| 2 ^ g) (kc1 T.2.1 s g) ∧ ∀ C, gCl T C → gSb (s ||| 2 ^ g) C → gSb (kc1 T.2.1 s g) C ∧ kc1 T.2.1 s g < 2 ^ gN T := by
  have h0 : s ||| 2 ^ g < 2 ^ gN T := Nat.or_lt_two_pow hs (Nat.pow_lt_pow_right (by omega) hg)
  constructor
  · exact kfd_i (Q := fun r => gSb (s ||| 2 ^ g) r) (gSb.rf _) (fun a r _ hr => hr.tr (gSb.ol _ _))
  · intro C hC hX
    refine kfd_i (Q := fun r => gSb r C ∧ r < 2 ^ gN T) ⟨hX, h0⟩ (fun a r ha hr => ?_)
    have han := gbit_lt hs ha
    have ha2 : C.testBit a = true := hX a (by rw [Nat.testBit_or, ha]; rfl)
    have hg2 : C.testBit g = true := hX g (by rw [Nat.testBit_or, Nat.testBit_two_pow_self, Bool.or_true])
    exact ⟨gSb_z hr.1 (hC.2 a g han hg ha2 hg2), Nat.or_lt_two_pow hr.2 (Nat.pow_lt_pow_right (by omega) (hG.2.2.2 a g han hg))⟩
theorem kps_s {T : zGT} (hG : gGd T) (X : Nat) : gSb X (kps T.2.1 X) ∧ ∀ C, gCl T C → gSb X C ∧ X < 2 ^ gN T → gSb (kps T.2.1 X) C ∧ kps T.2.1 X < 2 ^ gN T := by
  constructor
  · exact kfd_i (Q := fun r => gSb X r) (gSb.rf _) (fun a r _ hr => kfd_i (Q := fun r => gSb X r) hr (fun b r _ hr => hr.tr (gSb.ol _ _)))
  · intro C hC hX
    refine kfd_i (Q := fun r => gSb r C ∧ r < 2 ^ gN T) hX (fun a r ha hr => kfd_i (Q := fun r => gSb r C ∧ r < 2 ^ gN T) hr (fun b r hb hr => ?_))
    have han := gbit_lt hX.2 ha
    have hbn := gbit_lt hX.2 hb
    exact ⟨gSb_z hr.1 (hC.2 a b han hbn (hX.1 a ha) (hX.1 b hb)), Nat.or_lt_two_pow hr.2 (Nat.pow_lt_pow_right (by omega) (hG.2.2.2 a b han hbn))⟩
theorem gcb_lt {S R : Nat} (h : gSb S R) (hne : S ≠ R) (hR : R < 2147483648) : gcb S < gcb R := by
  have hb : ∀ k, (S >>> k) % 2 ≤ (R >>> k) % 2 ∧ (S.testBit k ≠ R.testBit k → (S >>> k) % 2 < (R >>> k) % 2) := by
    intro k
    have e1 := Nat.testBit_eq_decide_div_mod_eq (x := S) (i := k)
    have e2 := Nat.testBit_eq_decide_div_mod_eq (x := R) (i := k)
    rw [← Nat.shiftRight_eq_div_pow] at e1 e2
    have hk := h k
    have m1 := Nat.mod_two_eq_zero_or_one (S >>> k)
    have m2 := Nat.mod_two_eq_zero_or_one (R >>> k)
    rcases m1 with m1 | m1 <;> rcases m2 with m2 | m2 <;> rw [m1] at e1 <;> rw [m2] at e2 <;> rw [m1, m2]
    · exact ⟨by omega, fun q => absurd (by rw [e1, e2]) q⟩
    · exact ⟨by omega, fun _ => by omega⟩
    · rw [e1, e2] at hk
      exact absurd (hk rfl) (by decide)
    · exact ⟨by omega, fun q => absurd (by rw [e1, e2]) q⟩
  have key : ∀ n, gup (fun k r => r + (S >>> k) % 2) 0 n ≤ gup (fun k r => r + (R >>> k) % 2) 0 n ∧ ((∃ k, k < n ∧ S.testBit k ≠ R.testBit k) → gup (fun k r => r + (S >>> k) % 2) 0 n < gup (fun k r => r + (R >>> k) % 2) 0 n) := by
    intro n
    induction n with
    | zero => exact ⟨Nat.le_refl _, fun ⟨k, hk, _⟩ => absurd hk (Nat.not_lt_zero _)⟩
    | succ n ih =>
      have b := hb n
      have e1 : gup (fun k r => r + (S >>> k) % 2) 0 (n + 1) = gup (fun k r => r + (S >>> k) % 2) 0 n + (S >>> n) % 2 := rfl
      have e2 : gup (fun k r => r + (R >>> k) % 2) 0 (n + 1) = gup (fun k r => r + (R >>> k) % 2) 0 n + (R >>> n) % 2 := rfl
      rw [e1, e2]
      refine ⟨by omega, fun ⟨k, hk, hd⟩ => ?_⟩
      by_cases e : k = n
      · rw [e] at hd
        have := b.2 hd
        omega
      · have := ih.2 ⟨k, by omega, hd⟩
        omega
  refine (key 31).2 (Classical.byContradiction fun hx => hne (Nat.eq_of_testBit_eq fun i => ?_))
  by_cases hi : i < 31
  · exact Classical.byContradiction fun hd => hx ⟨i, hi, hd⟩
  · have h31 : (2 : Nat) ^ 31 ≤ 2 ^ i := Nat.pow_le_pow_right (by omega) (by omega)
    have h4 : (2 : Nat) ^ 31 = 2147483648 := rfl
    have h5 := h.le
    rw [Nat.testBit_lt_two_pow (show S < 2 ^ i by omega), Nat.testBit_lt_two_pow (show R < 2 ^ i by omega)]
set_option maxHeartbeats 4000000 in
theorem gmin {p : Nat → Prop} : ∀ m, p m → ∃ k, p k ∧ ∀ j, j < k → ¬ p j := by
  intro m
  induction m using Nat.strongRecOn with
  | ind m ih =>
    intro h
    by_cases g : ∃ j, j < m ∧ p j
    · obtain ⟨j, h1, h2⟩ := g
      exact ih j h1 h2
    · exact ⟨m, h, fun j hj hp => g ⟨j, hj, hp⟩⟩
theorem gcomp2 {T : zGT} {J : List Nat} (h1 : 1 ∈ J) (hJ : ∀ S ∈ J, ∀ g, g < gN T → ¬ S.testBit g = true → (∃ R ∈ J, gLC T (S ||| 2 ^ g) R) ∨ ∃ x, x < g ∧ ¬ S.testBit x = true ∧ ∀ C, gCl T C → gSb (S ||| 2 ^ g) C → C.testBit x = true) {C : Nat} (hn : C < 2 ^ gN T) (hC : gCl T C) : C ∈ J := by
  have key : ∀ (d S : Nat), S ∈ J → gSb S C → C - S = d → C ∈ J := by
    intro d
    induction d using Nat.strongRecOn with
    | ind d ih =>
      intro S hS hs hd
      by_cases he : gSb C S
      · rw [hs.an he] at hS
        exact hS
      · have : ∃ g, C.testBit g = true ∧ ¬ S.testBit g = true := by
          refine Classical.byContradiction fun hx => he fun k hk => ?_
          refine Classical.byContradiction fun hy => hx ⟨k, hk, hy⟩
        obtain ⟨g0, hg0⟩ := this
        obtain ⟨g, ⟨hg1, hg2⟩, hmin⟩ := gmin (p := fun g => C.testBit g = true ∧ ¬ S.testBit g = true) g0 hg0
        have hSg : gSb (S ||| 2 ^ g) C := hs.or (gSb.p2 hg1)
        rcases hJ S hS g (gbit_lt hn hg1) hg2 with ⟨R, hR, hLC⟩ | ⟨x, x1, x2, x3⟩
        · have hRC : gSb R C := hLC.2.2.2 C hC hSg
          have hSR : gSb S R := (gSb.ol S (2 ^ g)).tr hLC.2.1
          have hne : S ≠ R := by
            rintro rfl
            exact hg2 (hLC.2.1 g (by rw [Nat.testBit_or, Nat.testBit_two_pow_self, Bool.or_true]))
          have l1 := hSR.le
          have l2 := hRC.le
          exact ih (C - R) (by omega) R hR hRC rfl
        · exact absurd ⟨x3 C hC hSg, x2⟩ (hmin x x1)
  refine key (C - 1) 1 h1 (fun k hk => ?_) rfl
  have : k = 0 := Nat.testBit_one_eq_true_iff_self_eq_zero.mp hk
  rw [this]; exact hC.1
theorem gleast {T : zGT} (hG : gGd T) {X : Nat} (hX : X < 2 ^ gN T) : ∃ R, gLC T X R := by
  have hp := Nat.two_pow_pos (gN T)
  obtain ⟨R, ⟨r1, r2, r3⟩, hmin⟩ := gmin (p := fun C => C < 2 ^ gN T ∧ gSb X C ∧ gCl T C) (2 ^ gN T - 1) ⟨by omega, fun k hk => by
    rw [Nat.testBit_two_pow_sub_one, decide_eq_true_iff]
    exact gbit_lt hX hk, by
    rw [Nat.testBit_two_pow_sub_one, decide_eq_true_iff]
    exact hG.1, fun a b ha hb _ _ => by
    rw [Nat.testBit_two_pow_sub_one, decide_eq_true_iff]
    exact hG.2.2.2 a b ha hb⟩
  refine ⟨R, r1, r2, r3, fun C hC hXC => ?_⟩
  have hle : R &&& C ≤ R := Nat.and_le_left
  have hXR : gSb X (R &&& C) := fun k hk => by rw [Nat.testBit_and, r2 k hk, hXC k hk]; rfl
  rcases Nat.lt_or_ge (R &&& C) R with g | g
  · exact absurd ⟨Nat.lt_of_le_of_lt hle r1, hXR, r3.and hC⟩ (hmin _ g)
  · have e : R &&& C = R := by omega
    intro k hk
    rw [← e, Nat.testBit_and, Bool.and_eq_true] at hk
    exact hk.2
theorem klo_s {s g X : Nat} (hs : gSb s X) (h : Nat.beq (Nat.mod X (Nat.pow 2 g)) (Nat.mod s (Nat.pow 2 g)) = false) : ∃ x, x < g ∧ ¬ s.testBit x = true ∧ X.testBit x = true := by
  refine Classical.byContradiction fun hn => ?_
  have e : X % 2 ^ g = s % 2 ^ g := Nat.eq_of_testBit_eq fun i => by
    rw [Nat.testBit_mod_two_pow, Nat.testBit_mod_two_pow, Bool.eq_iff_iff, Bool.and_eq_true, Bool.and_eq_true, decide_eq_true_iff]
    constructor
    · rintro ⟨h1, h2⟩
      refine ⟨h1, Classical.byContradiction fun h3 => hn ⟨i, h1, h3, h2⟩⟩
    · rintro ⟨h1, h2⟩
      exact ⟨h1, hs i h2⟩
  have h2 : Nat.beq (X % 2 ^ g) (s % 2 ^ g) = false := h
  rw [e, Nat.beq_refl] at h2
  exact absurd h2 (by decide)
theorem kokF_s {T : zGT} (hG : gGd T) {P : Nat} (tP : T.2.1 = P) {S : List Nat} (hsub : ∀ R ∈ S, R < 2 ^ gN T ∧ gCl T R) {s g : Nat} : ∀ (fuel X : Nat), gSb (s ||| 2 ^ g) X → (∀ C, gCl T C → gSb (s ||| 2 ^ g) C → gSb X C ∧ X < 2 ^ gN T) → kokF P S s g fuel X = true → (∃ R ∈ S, gLC T (s ||| 2 ^ g) R) ∨ ∃ x, x < g ∧ ¬ s.testBit x = true ∧ ∀ C, gCl T C → gSb (s ||| 2 ^ g) C → C.testBit x = true := by
  have fin : ∀ X, kmem S X = true → gSb (s ||| 2 ^ g) X → (∀ C, gCl T C → gSb (s ||| 2 ^ g) C → gSb X C ∧ X < 2 ^ gN T) → ∃ R ∈ S, gLC T (s ||| 2 ^ g) R := fun X hm r1 r2 => ⟨X, kmem_s hm, (hsub X (kmem_s hm)).1, r1, (hsub X (kmem_s hm)).2, fun C hC hX => (r2 C hC hX).1⟩
  have low : ∀ X, Nat.beq (Nat.mod X (Nat.pow 2 g)) (Nat.mod s (Nat.pow 2 g)) = false → gSb (s ||| 2 ^ g) X → (∀ C, gCl T C → gSb (s ||| 2 ^ g) C → gSb X C ∧ X < 2 ^ gN T) → ∃ x, x < g ∧ ¬ s.testBit x = true ∧ ∀ C, gCl T C → gSb (s ||| 2 ^ g) C → C.testBit x = true := fun X hl r1 r2 => by
    obtain ⟨x, x1, x2, x3⟩ := klo_s ((gSb.ol s (2 ^ g)).tr r1) hl
    exact ⟨x, x1, x2, fun C hC hX => (r2 C hC hX).1 x x3⟩
  intro fuel
  induction fuel with
  | zero =>
    intro X r1 r2 h
    have h2 : cond (Nat.beq (Nat.mod X (Nat.pow 2 g)) (Nat.mod s (Nat.pow 2 g))) (kmem S X) true = true := h
    cases hl : Nat.beq (Nat.mod X (Nat.pow 2 g)) (Nat.mod s (Nat.pow 2 g)) with
    | false => exact Or.inr (low X hl r1 r2)
    | true =>
      rw [hl] at h2
      exact Or.inl (fin X h2 r1 r2)
  | succ fuel ih =>
    intro X r1 r2 h
    have h2 : cond (Nat.beq (Nat.mod X (Nat.pow 2 g)) (Nat.mod s (Nat.pow 2 g))) (cond (kmem S X) true (kokF P S s g fuel (kps P X))) true = true := h
    cases hl : Nat.beq (Nat.mod X (Nat.pow 2 g)) (Nat.mod s (Nat.pow 2 g)) with
    | false => exact Or.inr (low X hl r1 r2)
    | true =>
      rw [hl] at h2
      cases hm : kmem S X with
      | true => exact Or.inl (fin X hm r1 r2)
      | false =>
        rw [hm] at h2
        have k2 := kps_s hG X
        rw [tP] at k2
        exact ih _ (r1.tr k2.1) (fun C hC hX => k2.2 C hC (r2 C hC hX)) h2
theorem kchk_s {n P : Nat} {S F : List Nat} {Fp Ip Cp Kp Qp Dp : Nat} (h : kchk n P S F Fp Ip Cp Kp Qp Dp = true) : gOK (n, P, S, F, []) ∧ gEx (n, P, S, F, []) := by
  obtain ⟨hA, hr⟩ := kcd.mp h
  obtain ⟨hB, hr⟩ := kcd.mp hr
  obtain ⟨hE, hr⟩ := kcd.mp hr
  obtain ⟨hg, hr⟩ := kcd.mp hr
  obtain ⟨hH, hJ⟩ := kcd.mp hr
  clear h hr
  generalize eT : ((n, P, S, F, []) : zGT) = T
  have tN : gN T = n := by rw [← eT]; rfl
  have tP : T.2.1 = P := by rw [← eT]
  have tS : gS T = S := by rw [← eT]; rfl
  have tF : gF T = F := by rw [← eT]; rfl
  have hgm : ∀ a b, kgm P a b = gm T a b := fun a b => by rw [← tP]; rfl
  -- members
  obtain ⟨a1, a2⟩ := kcd.mp hA
  obtain ⟨a2, a3⟩ := kcd.mp a2
  have a1 := kbl.mp a1
  have a2 := kbl.mp a2
  have a3 := klt_s a3
  have hI : ∀ a, a < n → kI Ip a = gi T a := by
    intro a ha
    obtain ⟨-, b2⟩ := kcd.mp (a3 a ha)
    obtain ⟨b2, -⟩ := kcd.mp b2
    rw [← kbq.mp b2]
    unfold gi
    rw [tN]
    exact kup_c 0 n (fun k r _ => by rw [kif, hgm])
  have hG : gGd T := by
    refine ⟨by omega, by omega, fun a ha => ?_, fun a b ha hb => ?_⟩
    · rw [tN] at ha ⊢
      rw [← hI a ha]
      exact kbl.mp (kcd.mp (a3 a ha)).1
    · rw [tN] at ha hb ⊢
      rw [← hgm]
      exact kbl.mp (klt_s (kcd.mp (kcd.mp (a3 a ha)).2).2 b hb)
  have htr : ∀ X g, g < n → ktr n P Ip X g = gtr T X g := by
    intro X g hgn
    rw [gtr_e, tN]
    refine kup_c 0 n (fun k r _ => ?_)
    rw [kib, hgm, hgm, hI g hgn]
    rfl
  have hle : ∀ X, kle n P Ip X = glt T X := by
    intro X
    rw [glt_e, tN]
    refine kup_c X n (fun k r hk => ?_)
    rw [kil, htr X k hk]
    rfl
  have hcb : ∀ X, kcb X = gcb X := fun X => kup_e _ _ _
  have hky : ∀ X, kky X = gky X := fun X => by
    show kcb X * 16777216 + X = _
    rw [hcb]; rfl
  -- subgroups
  obtain ⟨b1, b2⟩ := kcd.mp hB
  obtain ⟨b2, b3⟩ := kcd.mp b2
  obtain ⟨b3, b4⟩ := kcd.mp b3
  have b1 := kbl.mp b1
  rw [klen_e] at b1
  have b2 := kmem_s b2
  have b3 := kall_s b3
  have b4 := kall_s b4
  have hsub : ∀ s ∈ S, gSub T s := by
    intro s hs
    obtain ⟨c1, c2⟩ := kcd.mp (b3 s hs)
    obtain ⟨c2, c3⟩ := kcd.mp c2
    have c1 : s < 2 ^ n := kbl.mp c1
    refine ⟨by rw [tS]; exact hs, by rw [tN]; exact c1, by rw [← ktb_e]; exact c2, fun a b _ _ ha hb => ?_⟩
    have := kal_s (kal_s c3 a ha) b hb
    rw [ktb_e, hgm] at this
    exact this
  have hJq : ∀ s ∈ S, ∀ g, g < gN T → ¬ s.testBit g = true → (∃ R ∈ S, gLC T (s ||| 2 ^ g) R) ∨ ∃ x, x < g ∧ ¬ s.testBit x = true ∧ ∀ C, gCl T C → gSb (s ||| 2 ^ g) C → C.testBit x = true := fun s hs g hgn ht => by
    obtain ⟨s1, s2, s3⟩ := hsub s hs
    have c := klt_s (b4 s hs) g (by omega)
    rw [ktb_e, Bool.eq_false_iff.mpr ht] at c
    have c : kokF P S s g 3 (kc1 P s g) = true := c
    have k1 := kc1_s hG s2 hgn
    rw [tP] at k1
    exact kokF_s hG tP (fun R hR => (hsub R hR).2) 3 _ k1.1 k1.2 c
  have hO2 : (gS T).length ≤ 64 ∧ 1 ∈ gS T ∧ ∀ S ∈ gS T, gSub T S ∧ ∀ g, g < gN T → ∃ R ∈ gS T, gLC T (S ||| 2 ^ g) R := by
    rw [tS]
    refine ⟨b1, b2, fun s hs => ⟨hsub s hs, fun g hgn => ?_⟩⟩
    obtain ⟨R, hR⟩ := gleast hG (X := s ||| 2 ^ g) (Nat.or_lt_two_pow (hsub s hs).2.1 (Nat.pow_lt_pow_right (by omega) hgn))
    exact ⟨R, gcomp2 b2 hJq hR.1 hR.2.2.1, hR⟩
  -- first ones
  obtain ⟨e1, e2⟩ := kcd.mp hE
  obtain ⟨e2, e3⟩ := kcd.mp e2
  obtain ⟨e3, e4⟩ := kcd.mp e3
  have hFi : ∀ i, i < F.length → F.getD i 0 = kF Fp i := fun i hi => by
    have := kfl_s e1 i hi
    rwa [Nat.zero_add] at this
  have e2 := kall_s e2
  have e3 := kall_s e3
  have e4 := klt_s e4
  rw [klen_e] at e4
  have hso : ∀ d i, i + d + 1 < F.length → gky (F.getD i 0) < gky (F.getD (i + d + 1) 0) := by
    intro d
    induction d with
    | zero =>
      intro i hi
      have := kbl.mp (e4 i (by have := Nat.pred_eq_sub_one (n := F.length); omega))
      rw [hky, hky, ← hFi i (by omega), ← hFi (Nat.succ i) (by omega)] at this
      exact this
    | succ d ih =>
      intro i hi
      have h1 := ih i (by omega)
      have := kbl.mp (e4 (i + d + 1) (by have := Nat.pred_eq_sub_one (n := F.length); omega))
      rw [hky, hky, ← hFi (i + d + 1) (by omega), ← hFi (Nat.succ (i + d + 1)) (by omega)] at this
      exact Nat.lt_trans h1 this
  -- marks
  obtain ⟨g1, g2⟩ := kcd.mp hg
  obtain ⟨g2, g3⟩ := kcd.mp g2
  obtain ⟨g3, g4⟩ := kcd.mp g3
  obtain ⟨g4, g5⟩ := kcd.mp g4
  have g1 := kbl.mp g1
  rw [klen_e] at g1 g2 g3 g4 g5
  have hC : ∀ i x, i < F.length → x < n → kC Cp i x = gcos T (F.getD i 0) x := by
    intro i x hi hx
    have := kbq.mp (klt_s (klt_s g2 i hi) x hx)
    rw [← this, gcos_e, tN, hFi i hi]
    refine kup_c x n (fun k r _ => ?_)
    rw [kib, kil, hgm]
    show _ = (if (kF Fp i).testBit k && decide (gm T k x < r) then gm T k x else r)
    cases (kF Fp i).testBit k <;> simp
  have hfx : ∀ i H x, i < F.length → x < n → kfx n P Cp i H x = gfx T (F.getD i 0) H x := by
    intro i H x hi hx
    refine Bool.eq_iff_iff.mpr ?_
    rw [gfx_t]
    unfold kfx
    rw [kcd, kbq, hC i x hi hx, tN]
    refine and_congr Iff.rfl ⟨fun h k hk hb => ?_, fun h => klt_i fun k hk => ?_⟩
    · have := klt_s h k hk
      rw [kib, if_pos hb, kbq, hgm, hC i _ hi (by have := hG.2.2.2 x k (by omega) (by omega); omega)] at this
      exact this
    · rw [kib]
      split
      · rename_i hb
        rw [kbq, hgm, hC i _ hi (by have := hG.2.2.2 x k (by omega) (by omega); omega)]
        exact h k hk hb
      · rfl
  have hmk : ∀ i k, i < F.length → k < F.length → kK Kp i k = gmk T (F.getD i 0) (F.getD k 0) := by
    intro i k hi hk
    rw [← kbq.mp (klt_s (klt_s g3 i hi) k hk), gmk_e, tN, ← hFi k hk]
    refine kup_c 0 n (fun x r hx => ?_)
    rw [hfx i _ x hi hx]
    show _ = r + (gfx T (F.getD i 0) (F.getD k 0) x).toNat
    cases gfx T (F.getD i 0) (F.getD k 0) x <;> rfl
  have hdg : ∀ i, i < F.length → 1 ≤ gmk T (F.getD i 0) (F.getD i 0) := fun i hi => by
    rw [← hmk i i hi hi]
    exact kbl.mp (klt_s g4 i hi)
  have hO : gOK T := by
    refine ⟨hG, hO2, ⟨?_, ?_, ?_⟩, ?_⟩
    · rw [tS, tF]
      intro s hs
      rw [← hle]
      exact kmem_s (kcd.mp (e2 s hs)).1
    · rw [tS, tF]
      intro f hf
      rw [← hle]
      exact ⟨kmem_s (kcd.mp (e3 f hf)).1, kbq.mp (kcd.mp (e3 f hf)).2⟩
    · rw [tF]
      intro i j hij hj
      have := hso (j - i - 1) i (by omega)
      rwa [show i + (j - i - 1) + 1 = j by omega] at this
    · rw [tF]
      exact hdg
  refine ⟨hO, ?_⟩
  obtain ⟨j1, j2⟩ := kcd.mp hJ
  obtain ⟨j2, j3⟩ := kcd.mp j2
  obtain ⟨j3, j4⟩ := kcd.mp j3
  rw [klen_e] at j2 j3 j4 hH
  have hFm : ∀ f ∈ F, ∃ i, i < F.length ∧ F.getD i 0 = f := by
    intro f hf
    obtain ⟨i, hi, e⟩ := List.mem_iff_getElem.mp hf
    exact ⟨i, hi, by rw [List.getD_eq_getElem?_getD, List.getElem?_eq_getElem hi]; exact e⟩
  refine ⟨fun m hm => ?_, by rw [tF]; exact g1, ?_, ?_, ?_, ?_⟩
  · rw [tN] at hm
    have key : ∀ fuel j, kpw P m fuel (gpw T m j) = true → ∃ k, k ≤ j + fuel ∧ gpw T m k = 0 := by
      intro fuel
      induction fuel with
      | zero => exact fun j h => ⟨j, by omega, kbq.mp h⟩
      | succ fuel ih =>
        intro j h
        have h2 : cond (Nat.beq (gpw T m j) 0) true (kpw P m fuel (kgm P (gpw T m j) m)) = true := h
        rw [kif] at h2
        split at h2
        · rename_i h0
          exact ⟨j, by omega, h0⟩
        · rw [hgm] at h2
          obtain ⟨k, hk, e⟩ := ih (j + 1) h2
          exact ⟨k, by omega, e⟩
    obtain ⟨k, hk, e⟩ := key 24 0 (klt_s j1 m hm)
    exact ⟨k, by omega, e⟩
  · rw [tF]
    intro f hf
    obtain ⟨i, hi, rfl⟩ := hFm f hf
    have := kbq.mp (klt_s j2 i hi)
    rw [htr _ 0 (by omega), ← hFi i hi] at this
    exact this
  · have hmm : ∀ i, i < F.length → kmm n P Fp Ip Cp i = gmm T (F.getD i 0) := by
      intro i hi
      unfold gmm
      rw [tN]
      refine kup_c 0 n (fun x r hx => ?_)
      rw [kif, kif, htr _ x hx, hC i x hi hx, ← hFi i hi]
      unfold gmmF
      by_cases q1 : gcos T (F.getD i 0) x = x
      · by_cases q2 : gtr T (F.getD i 0) x = F.getD i 0
        · rw [if_pos q1, if_pos q2, if_pos ⟨q2, q1⟩]
        · rw [if_pos q1, if_neg q2, if_neg (fun h => q2 h.1)]
      · rw [if_neg q1, if_neg (fun h => q1 h.2)]
    have hcu : ∀ d, d ≤ F.length → kup (fun d r => Nat.add r (cond (Nat.ble (kmm n P Fp Ip Cp (Nat.sub (Nat.sub F.length 1) d)) 2) 1 0)) 0 d = gcu T d := by
      intro d
      induction d with
      | zero => exact fun _ => rfl
      | succ d ih =>
        intro hd
        show Nat.add (kup _ 0 d) _ = gcu T d + _
        rw [ih (by omega), tF]
        show gcu T d + cond (Nat.ble (kmm n P Fp Ip Cp (F.length - 1 - d)) 2) 1 0 = _
        rw [hmm _ (by omega)]
        congr 1
        cases q : Nat.ble (gmm T (F.getD (F.length - 1 - d) 0)) 2 with
        | true => rw [if_pos (kbl.mp q)]; rfl
        | false => rw [if_neg (fun q2 => by rw [kbl.mpr q2] at q; cases q)]; rfl
    rw [tF, ← hcu F.length (Nat.le_refl _)]
    exact kbl.mp j4
  · rw [tF, tN]
    intro f hf x hx hx0 hcx R hR
    obtain ⟨i, hi, rfl⟩ := hFm f hf
    have hxf : (F.getD i 0).testBit x = false := by
      cases q : (F.getD i 0).testBit x with
      | false => rfl
      | true =>
        have := klt_s (klt_s j3 i hi) x hx
        rw [← hFi i hi, kib, if_pos q, kif, if_neg hx0, kif, hC i x hi hx, if_pos hcx] at this
        cases this
    have hRS := hO.mem hR
    have hRb := hO.sb hRS
    rw [tS] at hRS
    have hs := (gSb.ol (F.getD i 0) (2 ^ x)).tr hR.2.1
    have hne : F.getD i 0 ≠ R := by
      intro e
      have := hR.2.1 x (by rw [Nat.testBit_or, Nat.testBit_two_pow_self, Bool.or_true])
      rw [← e, hxf] at this
      cases this
    have h1 := gcb_lt hs hne (by omega)
    intro e
    have h2 := kbq.mp (kcd.mp (e2 R hRS)).2
    rw [hle, e, hcb, hcb] at h2
    omega
  · refine ⟨fun j k => (kD Dp j k : Int) - 1000, ?_, ?_⟩
    all_goals
      have hqI : ∀ i k, i < F.length → k < F.length → gqI T i k = (kQ Qp i k : Int) ∧ gmkI T i k = gqI T i k * gmkI T i i := by
        intro i k hi hk
        have h1 := kbq.mp (klt_s (klt_s g5 i hi) k hk)
        have h1 : kQ Qp i k * kK Kp i i = kK Kp i k := h1
        rw [hmk i i hi hi, hmk i k hi hk] at h1
        have h2 := hdg i hi
        have e1 : gmkI T i k = (kQ Qp i k : Int) * gmkI T i i := by
          unfold gmkI
          rw [tF, ← h1, Int.natCast_mul]
        have e3 : gmkI T i i ≠ 0 := by
          unfold gmkI
          rw [tF]
          omega
        have e2 : gqI T i k = (kQ Qp i k : Int) := by
          unfold gqI
          rw [e1, Int.mul_ediv_cancel _ e3]
        exact ⟨e2, by rw [e2, e1]⟩
    · rw [tF]
      intro j k hj hk
      have h1 := klt_s (klt_s hH j hj) k hk
      obtain ⟨h1, h2⟩ := kcd.mp h1
      have h1 := kbl.mp h1
      have h2 := kbq.mp h2
      have key : ∀ c, k + c < F.length → gds T (fun j k => (kD Dp j k : Int) - 1000) j k c + (kds Qp Dp j k c : Int) = (if k = j then 1 else 0) + 1000 * (kqs Qp k c : Int) := by
        intro c
        induction c with
        | zero =>
          intro _
          show (if k = j then 1 else 0) + ((0 : Nat) : Int) = (if k = j then 1 else 0) + 1000 * ((0 : Nat) : Int)
          omega
        | succ c ih =>
          intro hc
          have i1 := ih (by omega)
          have q1 := (hqI (k + 1 + c) k (by omega) hk).1
          have e1 : kds Qp Dp j k (c + 1) = kds Qp Dp j k c + kD Dp j (k + 1 + c) * kQ Qp (k + 1 + c) k := rfl
          have e2 : kqs Qp k (c + 1) = kqs Qp k c + kQ Qp (k + 1 + c) k := rfl
          have e3 : gds T (fun j k => (kD Dp j k : Int) - 1000) j k (c + 1) = gds T (fun j k => (kD Dp j k : Int) - 1000) j k c - ((kD Dp j (k + 1 + c) : Int) - 1000) * gqI T (k + 1 + c) k := rfl
          rw [e1, e2, e3, q1, Int.natCast_add, Int.natCast_add, Int.natCast_mul, Int.sub_mul]
          omega
      have hk2 := key (F.length - 1 - k) (by omega)
      have h2 : kD Dp j k + kds Qp Dp j k (F.length - 1 - k) = cond (Nat.beq k j) 1 0 + 1000 * (kqs Qp k (F.length - 1 - k) + 1) := h2
      rw [kif] at h2
      show (-1000 ≤ ((kD Dp j k : Int) - 1000) ∧ ((kD Dp j k : Int) - 1000) ≤ 1000) ∧ ((kD Dp j k : Int) - 1000) = _
      refine ⟨by omega, ?_⟩
      split at h2 <;> rename_i hkj
      · rw [if_pos hkj] at hk2
        omega
      · rw [if_neg hkj] at hk2
        omega
    · rw [tF]
      intro i k hi hk
      exact (hqI i k hi hk).2
noncomputable def kdg (c d : Nat) : Nat := Nat.mod (Nat.shiftRight c (Nat.mul 3 (Nat.sub 5 d))) 8
noncomputable def kco (a b : Nat) : Nat := Nat.add (Nat.add (Nat.add (Nat.add (Nat.add (Nat.mul (kdg b (Nat.mod (Nat.shiftRight a 15) 8)) 32768) (Nat.mul (kdg b (Nat.mod (Nat.shiftRight a 12) 8)) 4096)) (Nat.mul (kdg b (Nat.mod (Nat.shiftRight a 9) 8)) 512)) (Nat.mul (kdg b (Nat.mod (Nat.shiftRight a 6) 8)) 64)) (Nat.mul (kdg b (Nat.mod (Nat.shiftRight a 3) 8)) 8)) (kdg b (Nat.mod (Nat.shiftRight a 0) 8))
theorem kdg_e (c d : Nat) : kdg c d = gdg c d := rfl
noncomputable def kL (L i : Nat) : Nat := Nat.mod (Nat.shiftRight L (Nat.mul 18 i)) 262144
noncomputable def kex (n : Nat) (p : Nat → Bool) : Bool := Nat.rec false (fun k ih => cond (p k) true ih) n
theorem kex_s {p : Nat → Bool} : ∀ {n : Nat}, kex n p = true → ∃ k, k < n ∧ p k = true
  | 0, h => by cases h
  | n + 1, h => by
    have h2 : cond (p n) true (kex n p) = true := h
    cases hb : p n with
    | true => exact ⟨n, by omega, hb⟩
    | false =>
      rw [hb] at h2
      obtain ⟨k, hk, e⟩ := kex_s h2
      exact ⟨k, by omega, e⟩
noncomputable def en (e : Nat) : Nat := Nat.mod e 32
noncomputable def eL (e : Nat) : Nat := Nat.shiftRight e 5
def gMem (e x : Nat) : Prop := ∃ i, i < en e ∧ kL (eL e) i = x
noncomputable def kin (e x : Nat) : Bool := kex (en e) (fun j => Nat.beq (kL (eL e) j) x)
theorem kin_s {e x : Nat} (h : kin e x = true) : gMem e x := by
  obtain ⟨k, hk, h⟩ := kex_s h
  exact ⟨k, hk, kbq.mp h⟩
noncomputable def knth : List Nat → Nat → Nat := List.rec (fun _ => 0) (fun x _ ih i => cond (Nat.beq i 0) x (ih (Nat.pred i)))
theorem knth_m : ∀ (l : List Nat) (i : Nat), knth l i ∈ l ∨ knth l i = 0
  | [], _ => Or.inr rfl
  | x :: l, i => by
    show cond (Nat.beq i 0) x (knth l (Nat.pred i)) ∈ x :: l ∨ cond (Nat.beq i 0) x (knth l (Nat.pred i)) = 0
    cases Nat.beq i 0 with
    | true => exact Or.inl List.mem_cons_self
    | false => exact (knth_m l (Nat.pred i)).imp (List.mem_cons_of_mem _) id
noncomputable def k2 (p : Nat → Nat → Bool) : List Nat → List Nat → Bool := List.rec (fun _ => true) (fun e _ ih l' => List.rec false (fun q t _ => cond (p e q) (ih t) false) l')
theorem k2_s {p : Nat → Nat → Bool} : ∀ {l l' : List Nat}, k2 p l l' = true → ∀ e ∈ l, ∃ q, p e q = true
  | [], _, _, e, he => absurd he List.not_mem_nil
  | x :: l, [], h, _, _ => by cases h
  | x :: l, q :: t, h, e, he => by
    have h2 : p x q = true ∧ k2 p l t = true := kcd.mp h
    rcases List.mem_cons.mp he with rfl | he
    · exact ⟨q, h2.1⟩
    · exact k2_s h2.2 e he
noncomputable def kpb (c : Nat) : Bool := cond (Nat.ble (Nat.succ c) 262144) (klt 6 (fun p => cond (Nat.ble (Nat.succ (kdg c p)) 6) (klt p (fun q => cond (Nat.beq (kdg c p) (kdg c q)) false true)) false)) false
theorem kpb_s {c : Nat} (h : kpb c = true) : gpm c := by
  obtain ⟨h1, h2⟩ := kcd.mp h
  have h2 := klt_s h2
  have hd : ∀ p q, p < 6 → q < p → gdg c p ≠ gdg c q := fun p q hp hq e => by
    have := klt_s (kcd.mp (h2 p hp)).2 q hq
    rw [kdg_e, kdg_e, kif, if_pos e] at this
    cases this
  refine ⟨kbl.mp h1, fun p hp => kbl.mp (kcd.mp (h2 p hp)).1, fun p q hp hq e => ?_⟩
  rcases Nat.lt_trichotomy p q with g | g | g
  · exact absurd e.symm (hd q p hq g)
  · exact g
  · exact absurd e (hd p q hp g)
theorem kmem_i {S : Nat} : ∀ {l : List Nat}, S ∈ l → kmem l S = true
  | [], h => absurd h List.not_mem_nil
  | x :: l, h => by
    show cond (Nat.beq x S) true (kmem l S) = true
    rw [kif]
    split
    · rfl
    · rename_i hne
      rcases List.mem_cons.mp h with rfl | h
      · exact absurd rfl hne
      · exact kmem_i h
noncomputable def kst (n P Ip e : Nat) : Bool := cond (Nat.beq (en e) n) (cond (Nat.beq (kL (eL e) 0) gid) (cond (klt (Nat.pred n) (fun i => Nat.ble (Nat.succ (kL (eL e) i)) (kL (eL e) (Nat.succ i)))) (cond (klt n (fun i => kpb (kL (eL e) i))) (klt n (fun a => klt n (fun b => Nat.beq (kL (eL e) (kgm P a b)) (kco (kL (eL e) a) (kL (eL e) b))))) false) false) false) false
noncomputable def kiv (n P Ip : Nat) : Bool := klt n (fun a => Nat.beq (kgm P a (kI Ip a)) 0)
def gGdE (gT : List zGT) (e : Nat) : Prop := (1 ≤ en e ∧ en e ≤ 24) ∧ kL (eL e) 0 = gid ∧ (∀ i j, i < j → j < en e → kL (eL e) i < kL (eL e) j) ∧ (∀ i, i < en e → gpm (kL (eL e) i)) ∧ ∃ T ∈ gT, gN T = en e ∧ (∀ a b, a < en e → b < en e → gm T a b < en e ∧ kL (eL e) (gm T a b) = gco (kL (eL e) a) (kL (eL e) b)) ∧ ∀ a, a < en e → gi T a < en e ∧ gm T a (gi T a) = 0
def gcj (c ci x : Nat) : Nat := gco (gco ci x) c
noncomputable def kcj (c ci x : Nat) : Nat := kco (kco ci x) c
def gIv (c ci : Nat) : Prop := gpm c ∧ gpm ci ∧ gco c ci = gid ∧ gco ci c = gid
noncomputable def kiv2 (c ci : Nat) : Bool := cond (kpb c) (cond (kpb ci) (cond (Nat.beq (kco c ci) gid) (Nat.beq (kco ci c) gid) false) false) false
theorem kiv2_s {c ci : Nat} (h : kiv2 c ci = true) : gIv c ci := by
  obtain ⟨h1, h2⟩ := kcd.mp h
  obtain ⟨h2, h3⟩ := kcd.mp h2
  obtain ⟨h3, h4⟩ := kcd.mp h3
  exact ⟨kpb_s h1, kpb_s h2, kbq.mp h3, kbq.mp h4⟩
theorem gcj_pm {c ci x : Nat} (h : gIv c ci) (hx : gpm x) : gpm (gcj c ci x) := (h.2.1.co hx).co h.1
theorem gcj_co {c ci x y : Nat} (h : gIv c ci) (hx : gpm x) (hy : gpm y) : gcj c ci (gco x y) = gco (gcj c ci x) (gcj c ci y) := by
  obtain ⟨h1, h2, h3, h4⟩ := h
  unfold gcj
  rw [gco_as (h2.co hx) c, ← gco_as h1 (gco ci y) c, ← gco_as h1 ci y, h3, gco_1 hy.1, ← gco_as (h2.co hx) y c, gco_as h2 x y]
theorem gcj_id {c ci : Nat} (h : gIv c ci) : gcj c ci gid = gid := by
  unfold gcj
  rw [gco_2 h.2.1]
  exact h.2.2.2
theorem gIv.sym {c ci : Nat} (h : gIv c ci) : gIv ci c := ⟨h.2.1, h.1, h.2.2.2, h.2.2.1⟩
theorem gcj_b {c ci x : Nat} (h : gIv c ci) (hx : gpm x) : gcj ci c (gcj c ci x) = x := by
  obtain ⟨h1, h2, h3, h4⟩ := h
  unfold gcj
  rw [← gco_as h1 (gco ci x) c, ← gco_as h1 ci x, h3, gco_1 hx.1, gco_as hx c ci, h3, gco_2 hx]
theorem gIv.co {c ci s si : Nat} (h : gIv c ci) (h2 : gIv s si) : gIv (gco c s) (gco si ci) := by
  obtain ⟨a1, a2, a3, a4⟩ := h
  obtain ⟨b1, b2, b3, b4⟩ := h2
  refine ⟨a1.co b1, b2.co a2, ?_, ?_⟩
  · rw [gco_as a1, ← gco_as b1 si ci, b3, gco_1 a2.1, a3]
  · rw [gco_as b2, ← gco_as a2 c s, a4, gco_1 b1.1, b4]
theorem gcj_2 {c ci s si x : Nat} (h : gIv c ci) (h2 : gIv s si) (hx : gpm x) : gcj (gco c s) (gco si ci) x = gcj s si (gcj c ci x) := by
  obtain ⟨a1, a2, a3, a4⟩ := h
  obtain ⟨b1, b2, b3, b4⟩ := h2
  unfold gcj
  rw [gco_as b2 ci x, ← gco_as b2 (gco ci x) c, gco_as (b2.co (a2.co hx)) c s]
def gTn (c ci e e' : Nat) : Prop := ∀ x, gMem e' x ↔ ∃ y, gMem e y ∧ x = gcj c ci y
theorem nodup_eq {l1 l2 : List Nat} (h1 : l1.Nodup) (hs : ∀ x ∈ l1, x ∈ l2) (hl : l2.length ≤ l1.length) : ∀ x ∈ l2, x ∈ l1 := by
  intro x hx
  refine Classical.byContradiction fun hn => ?_
  have := nodup_len (x :: l1) l2 (List.nodup_cons.mpr ⟨hn, h1⟩) (fun y hy => by
    rcases List.mem_cons.mp hy with rfl | hy
    · exact hx
    · exact hs y hy)
  rw [List.length_cons] at this
  omega
noncomputable def gLs (e : Nat) : List Nat := (List.range (en e)).map (kL (eL e))
theorem gLs_m {e x : Nat} : x ∈ gLs e ↔ gMem e x := by
  unfold gLs gMem
  rw [List.mem_map]
  exact ⟨fun ⟨i, hi, h⟩ => ⟨i, List.mem_range.mp hi, h⟩, fun ⟨i, hi, h⟩ => ⟨i, List.mem_range.mpr hi, h⟩⟩
theorem gLs_l (e : Nat) : (gLs e).length = en e := by unfold gLs; rw [List.length_map, List.length_range]
theorem gGdE.nd {gT : List zGT} {e : Nat} (h : gGdE gT e) : (gLs e).Nodup := by
  unfold gLs
  rw [List.Nodup, List.pairwise_map]
  refine List.Pairwise.imp_of_mem ?_ (List.pairwise_lt_range (n := en e))
  intro i j hi hj hij e2
  rw [List.mem_range] at hi hj
  have := h.2.2.1 i j hij hj
  omega
theorem gGdE.pm {gT : List zGT} {e x : Nat} (h : gGdE gT e) (hx : gMem e x) : gpm x := by
  obtain ⟨i, hi, rfl⟩ := hx
  exact h.2.2.2.1 i hi
theorem gGdE.id {gT : List zGT} {e : Nat} (h : gGdE gT e) : gMem e gid := ⟨0, by have := h.1.1; omega, h.2.1⟩
theorem gGdE.cl {gT : List zGT} {e x y : Nat} (h : gGdE gT e) (hx : gMem e x) (hy : gMem e y) : gMem e (gco x y) := by
  obtain ⟨i, hi, rfl⟩ := hx
  obtain ⟨j, hj, rfl⟩ := hy
  obtain ⟨T, _, -, h2, -⟩ := h.2.2.2.2
  exact ⟨gm T i j, (h2 i j hi hj).1, (h2 i j hi hj).2⟩
theorem gGdE.iv {gT : List zGT} {e x : Nat} (h : gGdE gT e) (hx : gMem e x) : ∃ y, gMem e y ∧ gco x y = gid ∧ gco y x = gid := by
  have hr : ∀ x, gMem e x → ∃ y, gMem e y ∧ gco x y = gid := by
    rintro _ ⟨i, hi, rfl⟩
    obtain ⟨T, _, -, h2, h3⟩ := h.2.2.2.2
    have h4 := (h2 i (gi T i) hi (h3 i hi).1).2
    rw [(h3 i hi).2, h.2.1] at h4
    exact ⟨_, ⟨gi T i, (h3 i hi).1, rfl⟩, h4.symm⟩
  obtain ⟨y, hy, e1⟩ := hr x hx
  obtain ⟨z, hz, e2⟩ := hr y hy
  have hxp := h.pm hx
  have hyp := h.pm hy
  have hzp := h.pm hz
  have : x = z := by
    rw [← gco_2 hxp, ← e2, ← gco_as hxp, e1, gco_1 hzp.1]
  exact ⟨y, hy, e1, by rw [this]; exact e2⟩
def gOut (gl : List Nat) (e d : Nat) : Prop := ∃ G : List Nat, (∀ g ∈ G, gMem e g) ∧ ((∃ l : List Nat, l.Nodup ∧ l.length = 25 ∧ ∀ y ∈ l, gGen (d :: G) y) ∨ ∃ t ∈ gl, (∀ x, gMem e x → gMem t x) ∧ gMem t d ∧ ∀ x, gMem t x → gGen (d :: G) x)
noncomputable def qd (q : Nat) : Nat := Nat.mod q 262144
noncomputable def qo (q : Nat) : Nat := Nat.mod (Nat.shiftRight q 18) 2048
noncomputable def qm (q : Nat) : Nat := Nat.mod (Nat.shiftRight q 29) 32
noncomputable def qw (q : Nat) : Nat := Nat.shiftRight q 34
def gRp (gl : List Nat) (e : Nat) : Prop := e ∈ gl ∧ ∀ x, gpm x → ∃ a b d, gMem e a ∧ gMem e b ∧ x = gco (gco a d) b ∧ gpm d ∧ gOut gl e d
def gWh (gT : List zGT) (gl : List Nat) : Prop := (∀ e ∈ gl, gGdE gT e) ∧ (∃ e ∈ gl, ∀ x, gMem e x ↔ x = gid) ∧ (∀ c, gpm c → ∃ ci, gIv c ci ∧ ∀ e ∈ gl, ∃ e' ∈ gl, gTn c ci e e') ∧ ∀ e ∈ gl, ∃ r c ci, gRp gl r ∧ gIv c ci ∧ gTn c ci r e
def gIsL (gl : List Nat) (gs : List Nat) : Prop := ∃ e ∈ gl, ∀ x, gGen gs x ↔ gMem e x
theorem gGen.mono {gs hs : List Nat} (h : ∀ g ∈ gs, g ∈ hs) {x : Nat} (hx : gGen gs x) : gGen hs x := fun C h0 hC => hx C h0 (fun c g hc hg => hC c g hc (h g hg))
theorem gstep {gT : List zGT} {gl gs : List Nat} (hw : gWh gT gl) (hgs : ∀ g ∈ gs, gpm g) (h : gIsL gl gs) {g : Nat} (hg : gpm g) {C : List Nat} (hC : C.length ≤ 24) (hC0 : gid ∈ C) (hC1 : ∀ c ∈ C, ∀ x ∈ g :: gs, gco c x ∈ C) : gIsL gl (g :: gs) := by
  obtain ⟨e, he, hex⟩ := h
  obtain ⟨w1, -, w3, w4⟩ := hw
  obtain ⟨r, c, ci, hr, hc, hrt⟩ := w4 e he
  have hgg : ∀ x ∈ g :: gs, gpm x := fun x hx => by
    rcases List.mem_cons.mp hx with rfl | hx
    · exact hg
    · exact hgs x hx
  have gr := w1 r hr.1
  -- the move seen from the representative
  obtain ⟨a, b, d, ha, hb, hgd, hd, G, hG, ho⟩ := hr.2 (gcj ci c g) (gcj_pm hc.sym hg)
  have tn : ∀ y, gMem r y → gGen (g :: gs) (gcj c ci y) := fun y hy => ((hex _).mpr ((hrt _).mpr ⟨y, hy, rfl⟩)).mono (fun z hz => List.mem_cons_of_mem _ hz)
  have hgc : gcj c ci (gcj ci c g) = g := gcj_b hc.sym hg
  obtain ⟨ai, hai, -, a2⟩ := gr.iv ha
  obtain ⟨bi, hbi, b1, -⟩ := gr.iv hb
  have pa := gr.pm ha
  have pb := gr.pm hb
  have pai := gr.pm hai
  have pbi := gr.pm hbi
  have hde : d = gco (gco ai (gcj ci c g)) bi := by
    rw [hgd, ← gco_as pai (gco a d) b, ← gco_as pai a d, a2, gco_1 hd.1, gco_as hd b bi, b1, gco_2 hd]
  have hgen : gGen (g :: gs) (gcj c ci d) := by
    rw [hde, gcj_co hc (pai.co (gcj_pm hc.sym hg)) pbi, gcj_co hc pai (gcj_pm hc.sym hg), hgc]
    refine gGen.mul hgg (gGen.mul hgg (tn ai hai) ?_) (tn bi hbi)
    have := (gGen.id (g :: gs)).g (g := g) List.mem_cons_self
    rwa [gco_1 hg.1] at this
  have hdG : ∀ y ∈ d :: G, gpm y := fun y hy => by
    rcases List.mem_cons.mp hy with rfl | hy
    · exact hd
    · exact gr.pm (hG y hy)
  have turn : ∀ y, gGen (d :: G) y → gpm y ∧ gGen (g :: gs) (gcj c ci y) := by
    intro y hy
    refine hy (fun y => gpm y ∧ gGen (g :: gs) (gcj c ci y)) ⟨gid_pm, by rw [gcj_id hc]; exact gGen.id _⟩ (fun x z hx hz => ?_)
    refine ⟨hx.1.co (hdG z hz), ?_⟩
    rw [gcj_co hc hx.1 (hdG z hz)]
    refine gGen.mul hgg hx.2 ?_
    rcases List.mem_cons.mp hz with rfl | hz
    · exact hgen
    · exact tn z (hG z hz)
  rcases ho with ⟨l, l1, l2, l3⟩ | ⟨t, ht, t1, t2, t3⟩
  · -- more than 24
    exfalso
    have hin : ∀ x, gGen (g :: gs) x → x ∈ C := fun x hx => hx (fun y => y ∈ C) hC0 (fun y z hy hz => hC1 y hy z hz)
    have := nodup_len (l.map (gcj c ci)) C (by
      rw [List.Nodup, List.pairwise_map]
      refine List.Pairwise.imp_of_mem ?_ l1
      intro x y hx hy hxy e2
      have g1 := gcj_b hc (turn x (l3 x hx)).1
      have g2 := gcj_b hc (turn y (l3 y hy)).1
      rw [e2, g2] at g1
      exact hxy g1.symm) (by
      intro x hx
      obtain ⟨y, hy, rfl⟩ := List.mem_map.mp hx
      exact hin _ (turn y (l3 y hy)).2)
    rw [List.length_map] at this
    omega
  · obtain ⟨ci2, hc2, hall⟩ := w3 c hc.1
    have hci : ci2 = ci := by
      rw [← gco_1 hc2.2.1.1, ← hc.2.2.2, gco_as hc.2.1, hc2.2.2.1, gco_2 hc.2.1]
    rw [hci] at hc2 hall
    obtain ⟨e', he', htn⟩ := hall t ht
    have gt := w1 t ht
    refine ⟨e', he', fun x => ⟨fun hx => ?_, fun hx => ?_⟩⟩
    · refine hx (fun x => gMem e' x) ((htn _).mpr ⟨gid, gt.id, (gcj_id hc).symm⟩) (fun y z hy hz => ?_)
      obtain ⟨y', hy', rfl⟩ := (htn _).mp hy
      have hz' : ∃ z', gMem t z' ∧ z = gcj c ci z' := by
        rcases List.mem_cons.mp hz with rfl | hz
        · refine ⟨gcj ci c z, ?_, hgc.symm⟩
          rw [hgd]
          exact gt.cl (gt.cl (t1 a ha) t2) (t1 b hb)
        · have : gGen gs z := by
            have := (gGen.id gs).g hz
            rwa [gco_1 (hgs z hz).1] at this
          obtain ⟨y, hy, e2⟩ := (hrt _).mp ((hex _).mp this)
          exact ⟨y, t1 y hy, e2⟩
      obtain ⟨z', hz', rfl⟩ := hz'
      exact (htn _).mpr ⟨gco y' z', gt.cl hy' hz', (gcj_co hc (gt.pm hy') (gt.pm hz')).symm⟩
    · obtain ⟨y, hy, rfl⟩ := (htn _).mp hx
      exact (turn y (t3 y hy)).2
theorem gcls {gT : List zGT} {gl : List Nat} (hw : gWh gT gl) : ∀ (gs : List Nat), (∀ g ∈ gs, gpm g) → (∃ C : List Nat, C.length ≤ 24 ∧ gid ∈ C ∧ ∀ c ∈ C, ∀ x ∈ gs, gco c x ∈ C) → gIsL gl gs
  | [], _, _ => by
    obtain ⟨e, he, h⟩ := hw.2.1
    refine ⟨e, he, fun x => ⟨fun hx => (h x).mpr (hx (fun y => y = gid) rfl (fun _ _ _ hg => absurd hg List.not_mem_nil)), fun hx => ?_⟩⟩
    rw [(h x).mp hx]
    exact gGen.id _
  | g :: gs, hgs, ⟨C, h1, h2, h3⟩ => gstep hw (fun x hx => hgs x (List.mem_cons_of_mem _ hx)) (gcls hw gs (fun x hx => hgs x (List.mem_cons_of_mem _ hx)) ⟨C, h1, h2, fun c hc x hx => h3 c hc x (List.mem_cons_of_mem _ hx)⟩) (hgs g List.mem_cons_self) h1 h2 h3
theorem gall {gT : List zGT} {gl : List Nat} (h1 : ∀ e ∈ gl, gGdE gT e) {s : List Nat} (hs : ∀ x ∈ s, ∃ xi, gIv x xi ∧ ∀ e ∈ gl, ∃ e' ∈ gl, gTn x xi e e') (hg : ∀ c, gpm c → gGen s c) : ∀ c, gpm c → ∃ ci, gIv c ci ∧ ∀ e ∈ gl, ∃ e' ∈ gl, gTn c ci e e' := by
  intro c hc
  refine hg c hc (fun c => ∃ ci, gIv c ci ∧ ∀ e ∈ gl, ∃ e' ∈ gl, gTn c ci e e') ?_ ?_
  · refine ⟨gid, ⟨gid_pm, gid_pm, gco_2 gid_pm, gco_2 gid_pm⟩, fun e he => ⟨e, he, fun x => ?_⟩⟩
    have e1 : ∀ y, gMem e y → gcj gid gid y = y := fun y hy => by
      have hp := (h1 e he).pm hy
      unfold gcj
      rw [gco_1 hp.1, gco_2 hp]
    exact ⟨fun hx => ⟨x, hx, (e1 x hx).symm⟩, fun ⟨y, hy, e2⟩ => by rw [e2, e1 y hy]; exact hy⟩
  · rintro c g ⟨ci, hci, hc2⟩ hgm
    obtain ⟨gi', hgi, hg2⟩ := hs g hgm
    refine ⟨gco gi' ci, hci.co hgi, fun e he => ?_⟩
    obtain ⟨e1, he1, t1⟩ := hc2 e he
    obtain ⟨e2, he2, t2⟩ := hg2 e1 he1
    refine ⟨e2, he2, fun x => ?_⟩
    rw [t2 x]
    constructor
    · rintro ⟨y, hy, rfl⟩
      obtain ⟨z, hz, rfl⟩ := (t1 y).mp hy
      exact ⟨z, hz, (gcj_2 hci hgi ((h1 e he).pm hz)).symm⟩
    · rintro ⟨z, hz, rfl⟩
      exact ⟨gcj c ci z, (t1 _).mpr ⟨z, hz, rfl⟩, gcj_2 hci hgi ((h1 e he).pm hz)⟩
noncomputable def keql : List Nat → List Nat → Bool := List.rec (fun l' => List.rec true (fun _ _ _ => false) l') (fun x _ ih l' => List.rec false (fun y t _ => cond (Nat.beq x y) (ih t) false) l')
theorem keql_s : ∀ {l l' : List Nat}, keql l l' = true → l = l'
  | [], [], _ => rfl
  | [], _ :: _, h => by cases h
  | _ :: _, [], h => by cases h
  | x :: l, y :: t, h => by
    have h2 : Nat.beq x y = true ∧ keql l t = true := kcd.mp h
    rw [kbq.mp h2.1, keql_s h2.2]
noncomputable def kwd (P n : Nat) (B : List Nat) (W : List Nat) : Nat → Bool := List.rec (fun X => Nat.beq (Nat.succ X) (Nat.pow 2 n)) (fun w _ ih X => cond (kmem B (Nat.shiftRight w 5)) (cond (ktb X (Nat.mod w 32)) (ih (Nat.lor X (Nat.pow 2 (kgm P (Nat.mod w 32) (Nat.shiftRight w 5))))) false) false) W
theorem kwd_s {P n : Nat} {B : List Nat} {Q : Nat → Prop} (hQ : ∀ a g, Q a → g ∈ B → Q (kgm P a g)) : ∀ {W : List Nat} {X : Nat}, (∀ k, X.testBit k = true → Q k) → kwd P n B W X = true → ∀ k, k < n → Q k
  | [], X, hX, h, k, hk => by
    have h2 : X + 1 = 2 ^ n := kbq.mp h
    refine hX k ?_
    rw [show X = 2 ^ n - 1 by omega, Nat.testBit_two_pow_sub_one, decide_eq_true_iff]
    exact hk
  | w :: W, X, hX, h, k, hk => by
    have h2 : cond (kmem B (w >>> 5)) (cond (ktb X (w % 32)) (kwd P n B W (X ||| 2 ^ kgm P (w % 32) (w >>> 5))) false) false = true := h
    obtain ⟨h3, h4⟩ := kcd.mp h2
    obtain ⟨h4, h5⟩ := kcd.mp h4
    refine kwd_s hQ (W := W) (fun j hj => ?_) h5 k hk
    rw [Nat.testBit_or, Bool.or_eq_true, Nat.testBit_two_pow, decide_eq_true_iff] at hj
    rcases hj with hj | hj
    · exact hX j hj
    · rw [← hj]
      exact hQ _ _ (hX _ (by rw [← ktb_e]; exact h4)) (kmem_s h3)
noncomputable def eB (e : Nat) : Nat := Nat.shiftRight e (Nat.add 5 (Nat.mul 18 (en e)))
def gGn (e : Nat) : Prop := ∀ Q : Nat → Prop, Q gid → (∀ x b, gMem e x → Q x → b < en e → (eB e).testBit b = true → Q (gco x (kL (eL e) b))) → ∀ x, gMem e x → Q x
noncomputable def kst2 (n P : Nat) (B : List Nat) (e : Nat) : Bool := cond (Nat.beq (en e) n) (cond (Nat.beq (kL (eL e) 0) gid) (cond (klt (Nat.pred n) (fun i => Nat.ble (Nat.succ (kL (eL e) i)) (kL (eL e) (Nat.succ i)))) (kall B (fun b => cond (cond (Nat.ble (Nat.succ b) n) (ktb (eB e) b) false) (cond (kpb (kL (eL e) b)) (klt n (fun a => Nat.beq (kL (eL e) (kgm P a b)) (kco (kL (eL e) a) (kL (eL e) b)))) false) false)) false) false) false
section KST
variable {gT : List zGT} {n P Ip e : Nat} {S F B W : List Nat}
theorem kso_s (h : klt (Nat.pred n) (fun i => Nat.ble (Nat.succ (kL (eL e) i)) (kL (eL e) (Nat.succ i))) = true) : ∀ i j, i < j → j < n → kL (eL e) i < kL (eL e) j := by
  have h3 := klt_s h
  have hp := Nat.pred_eq_sub_one (n := n)
  have key : ∀ d i, i + d + 1 < n → kL (eL e) i < kL (eL e) (i + d + 1) := by
    intro d
    induction d with
    | zero => exact fun i hi => kbl.mp (h3 i (by omega))
    | succ d ih =>
      intro i hi
      exact Nat.lt_trans (ih i (by omega)) (kbl.mp (h3 (i + d + 1) (by omega)))
  intro i j hij hj
  have := key (j - i - 1) i (by omega)
  rwa [show i + (j - i - 1) + 1 = j by omega] at this
def kAs (P n : Nat) : Prop := (∀ a b c, a < n → b < n → c < n → kgm P (kgm P a b) c = kgm P a (kgm P b c)) ∧ ∀ a, a < n → kgm P a 0 = a
theorem kA_m (hA : kA n P Ip = true) : (1 ≤ n ∧ n ≤ 24) ∧ ∀ a b, a < n → b < n → kgm P a b < n := by
  obtain ⟨a1, a2⟩ := kcd.mp hA
  obtain ⟨a2, a3⟩ := kcd.mp a2
  exact ⟨⟨kbl.mp a1, kbl.mp a2⟩, fun a b ha hb => kbl.mp (klt_s (kcd.mp (kcd.mp (klt_s a3 a ha)).2).2 b hb)⟩
theorem kst_as (hA : kA n P Ip = true) (h : kst n P Ip e = true) : kAs P n := by
  have hm := kA_m hA
  obtain ⟨h1, h2⟩ := kcd.mp h
  obtain ⟨h2, h3⟩ := kcd.mp h2
  obtain ⟨h3, h4⟩ := kcd.mp h3
  obtain ⟨h4, h5⟩ := kcd.mp h4
  have hs := kso_s h3
  have hpm : ∀ i, i < n → gpm (kL (eL e) i) := fun i hi => kpb_s (klt_s h4 i hi)
  have hc : ∀ a b, a < n → b < n → kL (eL e) (kgm P a b) = gco (kL (eL e) a) (kL (eL e) b) := fun a b ha hb => kbq.mp (klt_s (klt_s h5 a ha) b hb)
  have inj : ∀ i j, i < n → j < n → kL (eL e) i = kL (eL e) j → i = j := fun i j hi hj eq => by
    rcases Nat.lt_trichotomy i j with g | g | g
    · have := hs i j g hj; omega
    · exact g
    · have := hs j i g hi; omega
  refine ⟨fun a b c ha hb hd => ?_, fun a ha => ?_⟩
  · have m1 := hm.2 a b ha hb
    have m2 := hm.2 b c hb hd
    refine inj _ _ (hm.2 _ _ m1 hd) (hm.2 _ _ ha m2) ?_
    rw [hc _ _ m1 hd, hc _ _ ha m2, hc _ _ ha hb, hc _ _ hb hd, gco_as (hpm a ha)]
  · refine inj _ _ (hm.2 _ _ ha (by omega)) ha ?_
    rw [hc _ _ ha (by omega), kbq.mp h2, gco_2 (hpm a ha)]
theorem kst2_s (hT : (n, P, S, F, []) ∈ gT) (hA : kA n P Ip = true) (hi : kiv n P Ip = true) (hAs : kAs P n) (hw : kwd P n B W 1 = true) (h : kst2 n P B e = true) : gGdE gT e ∧ gGn e := by
  have hm := kA_m hA
  obtain ⟨h1, h2⟩ := kcd.mp h
  obtain ⟨h2, h3⟩ := kcd.mp h2
  obtain ⟨h3, h4⟩ := kcd.mp h3
  have h1 := kbq.mp h1
  have h2 := kbq.mp h2
  have hs := kso_s h3
  have h4 := kall_s h4
  have hg : ∀ g ∈ B, g < n ∧ (eB e).testBit g = true ∧ gpm (kL (eL e) g) ∧ ∀ a, a < n → kL (eL e) (kgm P a g) = gco (kL (eL e) a) (kL (eL e) g) := fun g hg => by
    obtain ⟨g1, g2⟩ := kcd.mp (h4 g hg)
    obtain ⟨g0, g1⟩ := kcd.mp g1
    obtain ⟨g2, g3⟩ := kcd.mp g2
    exact ⟨kbl.mp g0, by rw [← ktb_e]; exact g1, kpb_s g2, fun a ha => kbq.mp (klt_s g3 a ha)⟩
  have h00 : ∀ k, Nat.testBit 1 k = true → k = 0 := fun k hk => Nat.testBit_one_eq_true_iff_self_eq_zero.mp hk
  have n0 : 0 < n := by have := hm.1.1; omega
  have q1 : ∀ k, k < n → k < n ∧ gpm (kL (eL e) k) := kwd_s (P := P) (B := B) (W := W) (X := 1) (Q := fun k => k < n ∧ gpm (kL (eL e) k)) (fun a g ha hgB => by
    obtain ⟨g1, g2, g3, g4⟩ := hg g hgB
    refine ⟨hm.2 a g ha.1 g1, ?_⟩
    rw [g4 a ha.1]
    exact ha.2.co g3) (fun k hk => by
    rw [h00 k hk, h2]
    exact ⟨n0, gid_pm⟩) hw
  have q2 : ∀ k, k < n → k < n ∧ ∀ x, x < n → kL (eL e) (kgm P x k) = gco (kL (eL e) x) (kL (eL e) k) := kwd_s (P := P) (B := B) (W := W) (X := 1) (Q := fun k => k < n ∧ ∀ x, x < n → kL (eL e) (kgm P x k) = gco (kL (eL e) x) (kL (eL e) k)) (fun a g ha hgB => by
    obtain ⟨g1, g2, g3, g4⟩ := hg g hgB
    refine ⟨hm.2 a g ha.1 g1, fun x hx => ?_⟩
    rw [← hAs.1 x a g hx ha.1 g1, g4 _ (hm.2 x a hx ha.1), ha.2 x hx, gco_as (q1 x hx).2, g4 a ha.1]) (fun k hk => by
    rw [h00 k hk]
    exact ⟨n0, fun x hx => by rw [hAs.2 x hx, h2, gco_2 (q1 x hx).2]⟩) hw
  refine ⟨⟨by omega, h2, fun i j hij hj => hs i j hij (by omega), fun i hi => (q1 i (by omega)).2, (n, P, S, F, []), hT, h1.symm, fun a b ha hb => ⟨?_, (q2 b (by omega)).2 a (by omega)⟩, fun a ha => ?_⟩, ?_⟩
  · have := hm.2 a b (by omega) (by omega)
    show kgm P a b < en e
    omega
  · obtain ⟨-, a2⟩ := kcd.mp hA
    obtain ⟨-, a3⟩ := kcd.mp a2
    have a3 := klt_s a3
    have b1 := kbl.mp (kcd.mp (a3 a (by omega))).1
    have b2 := kbq.mp (kcd.mp (kcd.mp (a3 a (by omega))).2).1
    have b3 := kbq.mp (klt_s hi a (by omega))
    have e1 : kI Ip a = gi (n, P, S, F, []) a := by
      rw [← b2]
      unfold gi
      exact kup_c 0 n (fun k r _ => by rw [kif]; rfl)
    rw [e1] at b1 b3
    have b1 : gi (n, P, S, F, []) a < n := b1
    exact ⟨by omega, b3⟩
  · rintro Q hQ0 hQs x ⟨i, hi2, rfl⟩
    have q3 : ∀ k, k < n → k < n ∧ Q (kL (eL e) k) := kwd_s (P := P) (B := B) (W := W) (X := 1) (Q := fun k => k < n ∧ Q (kL (eL e) k)) (fun a g ha hgB => by
      obtain ⟨g1, g2, g3, g4⟩ := hg g hgB
      refine ⟨hm.2 a g ha.1 g1, ?_⟩
      rw [g4 a ha.1]
      exact hQs _ g ⟨a, by have := ha.1; omega, rfl⟩ ha.2 (by omega) g2) (fun k hk => by
      rw [h00 k hk, h2]
      exact ⟨n0, hQ0⟩) hw
    exact (q3 i (by omega)).2
end KST
noncomputable def kall4 (n P : Nat) (S F : List Nat) (Fp Ip Cp Kp Qp Dp : Nat) (B W E : List Nat) : Bool := cond (kchk n P S F Fp Ip Cp Kp Qp Dp) (cond (kiv n P Ip) (cond (kwd P n B W 1) (cond (List.rec false (fun e _ _ => kst n P Ip e) E) (kall E (fun e => kst2 n P B e)) false) false) false) false
def kTab (T : zGT) (E : List Nat) : Prop := (gOK T ∧ gEx T) ∧ ∀ gT : List zGT, T ∈ gT → ∀ e ∈ E, gGdE gT e ∧ gGn e
theorem kall4_s {n P : Nat} {S F : List Nat} {Fp Ip Cp Kp Qp Dp : Nat} {B W E : List Nat} (h : kall4 n P S F Fp Ip Cp Kp Qp Dp B W E = true) : kTab (n, P, S, F, []) E := by
  obtain ⟨h1, h2⟩ := kcd.mp h
  obtain ⟨h2, h3⟩ := kcd.mp h2
  obtain ⟨h3, h4⟩ := kcd.mp h3
  obtain ⟨h4, h5⟩ := kcd.mp h4
  have hA := (kcd.mp h1).1
  have hAs : kAs P n := by
    cases E with
    | nil => cases h4
    | cons e E' => exact kst_as hA h4
  exact ⟨kchk_s h1, fun gT hT e he => kst2_s hT hA h2 hAs h3 (kall_s h5 e he)⟩
noncomputable def kfla (L : List (List Nat)) : List Nat := List.rec [] (fun l _ ih => List.append l ih) L
noncomputable def knl (L : List (List Nat)) : Nat → List Nat := List.rec (fun _ => []) (fun x _ ih i => cond (Nat.beq i 0) x (ih (Nat.pred i))) L
theorem knl_m {y : Nat} : ∀ (L : List (List Nat)) (i : Nat), y ∈ knl L i → y ∈ kfla L
  | [], _, h => absurd h List.not_mem_nil
  | x :: L, i, h => by
    have h2 : y ∈ cond (Nat.beq i 0) x (knl L (Nat.pred i)) := h
    show y ∈ x ++ kfla L
    cases hb : Nat.beq i 0 with
    | true =>
      rw [hb] at h2
      exact List.mem_append_left _ h2
    | false =>
      rw [hb] at h2
      exact List.mem_append_right _ (knl_m L _ h2)
noncomputable def kat (L : List (List Nat)) (j : Nat) : Nat := knth (knl L (Nat.shiftRight j 5)) (Nat.mod j 32)
theorem kat_m (L : List (List Nat)) (j : Nat) : kat L j ∈ kfla L ∨ kat L j = 0 := (knth_m (knl L (j >>> 5)) (j % 32)).imp (knl_m L _) id
noncomputable def ktn2 (c ci e e' : Nat) : Bool := cond (Nat.beq (en e) (en e')) (kal (fun b => kin e' (kcj c ci (kL (eL e) b))) 24 (eB e)) false
theorem ktn2_s {gT : List zGT} {c ci e e' : Nat} (hc : gIv c ci) (he : gGdE gT e) (hn : gGn e) (he' : gGdE gT e') (h : ktn2 c ci e e' = true) : gTn c ci e e' := by
  obtain ⟨h1, h2⟩ := kcd.mp h
  have h1 := kbq.mp h1
  have hin : ∀ y, gMem e y → gMem e' (gcj c ci y) := hn (fun y => gMem e' (gcj c ci y)) (by rw [gcj_id hc]; exact he'.id) (fun x b hx hq hb hb2 => by
    have hxp := he.pm hx
    have hbp := he.pm ⟨b, hb, rfl⟩
    rw [gcj_co hc hxp hbp]
    exact he'.cl hq (kin_s (kal_s h2 b hb2)))
  intro x
  constructor
  · intro hx
    have hnd : ((gLs e).map (gcj c ci)).Nodup := by
      rw [List.Nodup, List.pairwise_map]
      refine List.Pairwise.imp_of_mem ?_ he.nd
      intro a b ha hb hab e2
      have g1 := gcj_b hc (he.pm (gLs_m.mp ha))
      have g2 := gcj_b hc (he.pm (gLs_m.mp hb))
      rw [e2, g2] at g1
      exact hab g1.symm
    have := nodup_eq hnd (l2 := gLs e') (fun z hz => by
      obtain ⟨y, hy, rfl⟩ := List.mem_map.mp hz
      exact gLs_m.mpr (hin y (gLs_m.mp hy))) (by rw [List.length_map, gLs_l, gLs_l]; omega) x (gLs_m.mpr hx)
    obtain ⟨y, hy, rfl⟩ := List.mem_map.mp this
    exact ⟨y, gLs_m.mp hy, rfl⟩
  · rintro ⟨y, hy, rfl⟩
    exact hin y hy
noncomputable def kce2 (gl2 : List (List Nat)) (rl : List Nat) (s1 s1i s2 s2i : Nat) (e q : Nat) : Bool := cond (ktn2 s1 s1i e (kat gl2 (Nat.mod q 2048))) (cond (ktn2 s2 s2i e (kat gl2 (Nat.mod (Nat.shiftRight q 11) 2048))) (cond (kmem rl (knth rl (Nat.mod (Nat.shiftRight q 22) 64))) (cond (kiv2 (Nat.mod (Nat.shiftRight q 28) 262144) (Nat.mod (Nat.shiftRight q 46) 262144)) (ktn2 (Nat.mod (Nat.shiftRight q 28) 262144) (Nat.mod (Nat.shiftRight q 46) 262144) (knth rl (Nat.mod (Nat.shiftRight q 22) 64)) e) false) false) false) false
theorem kat_e {gT : List zGT} {L : List (List Nat)} {e c ci j : Nat} (he : gGdE gT e) (h : ktn2 c ci e (kat L j) = true) : kat L j ∈ kfla L := by
  rcases kat_m L j with g | g
  · exact g
  · have h1 := kbq.mp (kcd.mp h).1
    rw [g] at h1
    have h2 : en 0 = 0 := by decide +kernel
    have := he.1
    omega
theorem kce2_s {gT : List zGT} {gl rl : List Nat} {L : List (List Nat)} {s1 s1i s2 s2i e q : Nat} (hL : kfla L = gl) (h1 : ∀ e ∈ gl, gGdE gT e ∧ gGn e) (hr : ∀ r ∈ rl, gRp gl r) (i1 : gIv s1 s1i) (i2 : gIv s2 s2i) (he : e ∈ gl) (h : kce2 L rl s1 s1i s2 s2i e q = true) : (∃ e' ∈ gl, gTn s1 s1i e e') ∧ (∃ e' ∈ gl, gTn s2 s2i e e') ∧ ∃ r c ci, gRp gl r ∧ gIv c ci ∧ gTn c ci r e := by
  obtain ⟨a1, a2⟩ := kcd.mp h
  obtain ⟨a2, a3⟩ := kcd.mp a2
  obtain ⟨a3, a4⟩ := kcd.mp a3
  obtain ⟨a4, a5⟩ := kcd.mp a4
  have hE := h1 e he
  have b1 := kat_e hE.1 a1
  have c1 := kat_e hE.1 a2
  rw [hL] at b1 c1
  have hrr := hr _ (kmem_s a3)
  have hR := h1 _ hrr.1
  have hiv := kiv2_s a4
  exact ⟨⟨_, b1, ktn2_s i1 hE.1 hE.2 (h1 _ b1).1 a1⟩, ⟨_, c1, ktn2_s i2 hE.1 hE.2 (h1 _ c1).1 a2⟩, _, _, _, hrr, hiv, ktn2_s hiv hR.1 hR.2 hE.1 a5⟩
noncomputable def kw3 (G : List Nat) (fin : Nat → Nat → Bool) (w : Nat) (fuel : Nat) : Nat → Nat → Nat → Bool := Nat.rec (fun k L _ => fin k L) (fun _ ih k L M => cond (kmem G (knth G (Nat.mod (Nat.shiftRight w (Nat.add (Nat.mul 12 k) 10)) 4))) ((fun y => cond (Nat.ble (Nat.succ y) 262144) (cond (ktb M (Nat.mod y 5350)) false (ih (Nat.succ k) (Nat.add L (Nat.mul y (Nat.pow 2 (Nat.mul 18 (Nat.succ k))))) (Nat.lor M (Nat.pow 2 (Nat.mod y 5350))))) false) (kco (kL L (Nat.sub k (Nat.mod (Nat.shiftRight w (Nat.mul 12 k)) 1024))) (knth G (Nat.mod (Nat.shiftRight w (Nat.add (Nat.mul 12 k) 10)) 4)))) false) fuel
theorem kL_lo {L y k i : Nat} (hi : i ≤ k) : kL (L + y * 2 ^ (18 * (k + 1))) i = kL L i := by
  show ((L + y * 2 ^ (18 * (k + 1))) >>> (18 * i)) % 262144 = (L >>> (18 * i)) % 262144
  have e : y * 2 ^ (18 * (k + 1)) = (y * 2 ^ (18 * (k - i)) * 262144) * 2 ^ (18 * i) := by
    rw [show 18 * (k + 1) = 18 * (k - i) + 18 + 18 * i by omega, Nat.pow_add, Nat.pow_add, show (2 : Nat) ^ 18 = 262144 from by decide, Nat.mul_assoc, Nat.mul_assoc, Nat.mul_assoc]
  rw [Nat.shiftRight_eq_div_pow, Nat.shiftRight_eq_div_pow, e, Nat.add_mul_div_right _ _ (Nat.two_pow_pos _), Nat.add_mul_mod_self_right]
theorem kL_hi {L y k : Nat} (hL : L < 2 ^ (18 * (k + 1))) (hy : y < 262144) : kL (L + y * 2 ^ (18 * (k + 1))) (k + 1) = y := by
  show ((L + y * 2 ^ (18 * (k + 1))) >>> (18 * (k + 1))) % 262144 = y
  rw [Nat.shiftRight_eq_div_pow, Nat.add_mul_div_right _ _ (Nat.two_pow_pos _), Nat.div_eq_of_lt hL, Nat.zero_add, Nat.mod_eq_of_lt hy]
theorem kL_bd {L y k : Nat} (hL : L < 2 ^ (18 * (k + 1))) (hy : y < 262144) : L + y * 2 ^ (18 * (k + 1)) < 2 ^ (18 * (k + 1 + 1)) := by
  rw [show 18 * (k + 1 + 1) = 18 + 18 * (k + 1) by omega, Nat.pow_add, show (2 : Nat) ^ 18 = 262144 from by decide]
  have h1 : (y + 1) * 2 ^ (18 * (k + 1)) ≤ 262144 * 2 ^ (18 * (k + 1)) := Nat.mul_le_mul_right _ hy
  rw [Nat.add_mul, Nat.one_mul] at h1
  omega
def K3 (G : List Nat) (k L M : Nat) : Prop := L < 2 ^ (18 * (k + 1)) ∧ ∃ l : List Nat, l.Nodup ∧ l.length = k + 1 ∧ (∀ x ∈ l, gGen G x) ∧ (∀ i, i ≤ k → kL L i ∈ l) ∧ ∀ x ∈ l, M.testBit (x % 5350) = true
theorem kw3_s {G : List Nat} {fin : Nat → Nat → Bool} {w : Nat} : ∀ {fuel k L M : Nat}, kw3 G fin w fuel k L M = true → K3 G k L M → ∃ L' M' : Nat, fin (k + fuel) L' = true ∧ K3 G (k + fuel) L' M'
  | 0, k, L, M, h, h1 => ⟨L, M, h, h1⟩
  | fuel + 1, k, L, M, h, h1 => by
    have h3 : cond (kmem G (knth G (Nat.mod (Nat.shiftRight w (Nat.add (Nat.mul 12 k) 10)) 4))) ((fun y => cond (Nat.ble (Nat.succ y) 262144) (cond (ktb M (Nat.mod y 5350)) false (kw3 G fin w fuel (Nat.succ k) (Nat.add L (Nat.mul y (Nat.pow 2 (Nat.mul 18 (Nat.succ k))))) (Nat.lor M (Nat.pow 2 (Nat.mod y 5350))))) false) (kco (kL L (Nat.sub k (Nat.mod (Nat.shiftRight w (Nat.mul 12 k)) 1024))) (knth G (Nat.mod (Nat.shiftRight w (Nat.add (Nat.mul 12 k) 10)) 4)))) false = true := h
    have hik : Nat.sub k (Nat.mod (Nat.shiftRight w (Nat.mul 12 k)) 1024) ≤ k := Nat.sub_le _ _
    generalize Nat.sub k (Nat.mod (Nat.shiftRight w (Nat.mul 12 k)) 1024) = i at h3 hik
    generalize knth G (Nat.mod (Nat.shiftRight w (Nat.add (Nat.mul 12 k) 10)) 4) = g at h3
    obtain ⟨h4, h5⟩ := kcd.mp h3
    have h6 : cond (Nat.ble (Nat.succ (kco (kL L i) g)) 262144) (cond (ktb M (Nat.mod (kco (kL L i) g) 5350)) false (kw3 G fin w fuel (Nat.succ k) (Nat.add L (Nat.mul (kco (kL L i) g) (Nat.pow 2 (Nat.mul 18 (Nat.succ k))))) (Nat.lor M (Nat.pow 2 (Nat.mod (kco (kL L i) g) 5350))))) false = true := h5
    have hg : ∀ x, gGen G x → gGen G (kco x g) := fun x hx => hx.g (kmem_s h4)
    obtain ⟨hL, l, l1, l2, l3, l4, l5⟩ := h1
    have hy : gGen G (kco (kL L i) g) := hg _ (l3 _ (l4 i hik))
    generalize kco (kL L i) g = y at h6 hy
    obtain ⟨h7, h8⟩ := kcd.mp h6
    have h7 : y < 262144 := kbl.mp h7
    cases hb : ktb M (Nat.mod y 5350) with
    | true => rw [hb] at h8; cases h8
    | false =>
      rw [hb] at h8
      have h9 : kw3 G fin w fuel (k + 1) (L + y * 2 ^ (18 * (k + 1))) (M ||| 2 ^ (y % 5350)) = true := h8
      have hn : M.testBit (y % 5350) = false := by
        rw [ktb_e] at hb
        exact hb
      have hK : K3 G (k + 1) (L + y * 2 ^ (18 * (k + 1))) (M ||| 2 ^ (y % 5350)) := by
        refine ⟨kL_bd hL h7, y :: l, List.nodup_cons.mpr ⟨fun hm => (by rw [l5 y hm] at hn; cases hn), l1⟩, by rw [List.length_cons, l2], fun x hx => ?_, fun j hj => ?_, fun x hx => ?_⟩
        · rcases List.mem_cons.mp hx with rfl | hx
          · exact hy
          · exact l3 x hx
        · by_cases e : j = k + 1
          · rw [e, kL_hi hL h7]
            exact List.mem_cons_self
          · rw [kL_lo (show j ≤ k by omega)]
            exact List.mem_cons_of_mem _ (l4 j (by omega))
        · rw [Nat.testBit_or]
          rcases List.mem_cons.mp hx with rfl | hx
          · rw [Nat.testBit_two_pow_self, Bool.or_true]
          · rw [l5 x hx]
            rfl
      obtain ⟨L', M', f1, f2⟩ := kw3_s h9 hK
      rw [show k + 1 + fuel = k + (fuel + 1) by omega] at f1 f2
      exact ⟨L', M', f1, f2⟩
theorem k2p3 (n : Nat) : (Nat.pow 2 n).testBit n = true := Nat.testBit_two_pow_self
theorem kw3_0 {G : List Nat} {fin : Nat → Nat → Bool} {w m : Nat} (h : kw3 G fin w m 0 gid (Nat.pow 2 (Nat.mod gid 5350)) = true) : ∃ L' : Nat, fin m L' = true ∧ ∃ l : List Nat, l.Nodup ∧ l.length = m + 1 ∧ (∀ x ∈ l, gGen G x) ∧ ∀ i, i ≤ m → kL L' i ∈ l := by
  obtain ⟨L', M', f1, f2⟩ := kw3_s h ⟨by decide +kernel, [gid], List.nodup_cons.mpr ⟨List.not_mem_nil, List.nodup_nil⟩, rfl, fun x hx => (by rw [List.mem_singleton.mp hx]; exact gGen.id G), fun i hi => (by
    have e : i = 0 := by omega
    rw [e, show kL gid 0 = gid from by decide +kernel]
    exact List.mem_cons_self), fun x hx => (by
    rw [List.mem_singleton.mp hx]
    exact k2p3 (Nat.mod gid 5350))⟩
  rw [Nat.zero_add] at f1 f2
  obtain ⟨-, l, l1, l2, l3, l4, -⟩ := f2
  exact ⟨L', f1, l, l1, l2, l3, l4⟩
noncomputable def kp3 (q i : Nat) : Nat := Nat.mod (Nat.shiftRight q (Nat.add (Nat.add 34 (Nat.mul 12 (qm q))) (Nat.mul 5 i))) 32
noncomputable def kw3f (t e d q k L : Nat) : Bool := cond (Nat.ble 1 (en t)) (cond (klt (en t) (fun i => cond (Nat.ble (kp3 q i) k) (Nat.beq (kL L (kp3 q i)) (kL (eL t) i)) false)) (cond (klt (en e) (fun i => kin t (kL (eL e) i))) (kin t d) false) false) false
noncomputable def ko3 (L2 : List (List Nat)) (G : List Nat) (e q : Nat) : Bool := cond (Nat.beq (qo q) 2047) (cond (Nat.beq (qm q) 24) (kw3 (qd q :: G) (fun _ _ => true) (qw q) 24 0 gid (Nat.pow 2 (Nat.mod gid 5350))) false) (kw3 (qd q :: G) (kw3f (kat L2 (qo q)) e (qd q) q) (qw q) (qm q) 0 gid (Nat.pow 2 (Nat.mod gid 5350)))
theorem ko3_s {gl : List Nat} {L2 : List (List Nat)} (hL : kfla L2 = gl) {G : List Nat} {e q : Nat} (hG : ∀ g ∈ G, gMem e g) (h : ko3 L2 G e q = true) : gOut gl e (qd q) := by
  refine ⟨G, hG, ?_⟩
  unfold ko3 at h
  cases hb : Nat.beq (qo q) 2047 with
  | true =>
    rw [hb] at h
    obtain ⟨-, h2⟩ := kcd.mp h
    obtain ⟨L', -, l, l2, l3, l4, -⟩ := kw3_0 h2
    exact Or.inl ⟨l, l2, l3, l4⟩
  | false =>
    rw [hb] at h
    obtain ⟨L', l1, l, -, -, l4, l5⟩ := kw3_0 h
    obtain ⟨f1, f2⟩ := kcd.mp l1
    obtain ⟨f2, f3⟩ := kcd.mp f2
    obtain ⟨f3, f4⟩ := kcd.mp f3
    have f1 := kbl.mp f1
    have hm : kat L2 (qo q) ∈ gl := by
      rcases kat_m L2 (qo q) with hm | hm
      · rw [hL] at hm
        exact hm
      · rw [hm] at f1
        exact absurd f1 (by decide)
    refine Or.inr ⟨_, hm, ?_, kin_s f4, ?_⟩
    · rintro _ ⟨i, hi, rfl⟩
      exact kin_s (klt_s f3 i hi)
    · rintro _ ⟨i, hi, rfl⟩
      obtain ⟨g1, g2⟩ := kcd.mp (klt_s f2 i hi)
      rw [← kbq.mp g2]
      exact l4 _ (l5 _ (kbl.mp g1))
noncomputable def kd3 (n : Nat) (p : Nat → Nat → Bool) : List Nat → Nat → Bool := List.rec (fun i => Nat.beq i n) (fun q _ ih i => cond (p i q) (ih (Nat.succ i)) false)
theorem kd3_s {n : Nat} {p : Nat → Nat → Bool} : ∀ {l : List Nat} {i : Nat}, kd3 n p l i = true → ∀ j, i ≤ j → j < n → ∃ q, p j q = true
  | [], i, h, j, h1, h2 => by
    have h3 : i = n := kbq.mp h
    omega
  | q :: l, i, h, j, h1, h2 => by
    have h3 : p i q = true ∧ kd3 n p l (i + 1) = true := kcd.mp h
    by_cases e : j = i
    · rw [e]
      exact ⟨q, h3.1⟩
    · exact kd3_s h3.2 j (by omega) h2
noncomputable def kr3 (L2 : List (List Nat)) (l720 G D : List Nat) (n Dp e : Nat) (Q : List Nat) : Bool := cond (kall G (fun g => kin e g)) (cond (kd3 n (fun i q => cond (Nat.beq (qd q) (kL Dp i)) (cond (kpb (qd q)) (ko3 L2 G e q) false) false) D 0) (k2 (fun x q => cond (Nat.ble (Nat.succ (Nat.mod q 32)) (en e)) (cond (Nat.ble (Nat.succ (Nat.mod (Nat.shiftRight q 5) 32)) (en e)) (cond (Nat.ble (Nat.succ (Nat.shiftRight q 10)) n) (Nat.beq (kco (kco (kL (eL e) (Nat.mod q 32)) (kL Dp (Nat.shiftRight q 10))) (kL (eL e) (Nat.mod (Nat.shiftRight q 5) 32))) x) false) false) false) l720 Q) false) false
theorem kr3_s {gl l720 G D : List Nat} {L2 : List (List Nat)} {n Dp e : Nat} {Q : List Nat} (hL : kfla L2 = gl) (hl : ∀ x, gpm x → x ∈ l720) (he : e ∈ gl) (h : kr3 L2 l720 G D n Dp e Q = true) : gRp gl e := by
  obtain ⟨h1, h2⟩ := kcd.mp h
  obtain ⟨h2, h3⟩ := kcd.mp h2
  have h1 := kall_s h1
  refine ⟨he, fun x hx => ?_⟩
  obtain ⟨q, hq⟩ := k2_s h3 x (hl x hx)
  obtain ⟨q1, q2⟩ := kcd.mp hq
  obtain ⟨q2, q3⟩ := kcd.mp q2
  obtain ⟨q3, q4⟩ := kcd.mp q3
  obtain ⟨r, hr⟩ := kd3_s h2 (Nat.shiftRight q 10) (Nat.zero_le _) (show Nat.shiftRight q 10 < n from kbl.mp q3)
  obtain ⟨d1, d2⟩ := kcd.mp hr
  obtain ⟨d2, d3⟩ := kcd.mp d2
  have d1 := kbq.mp d1
  have q4 := kbq.mp q4
  rw [← d1] at q4
  exact ⟨_, _, _, ⟨_, kbl.mp q1, rfl⟩, ⟨_, kbl.mp q2, rfl⟩, q4.symm, kpb_s d2, ko3_s hL (fun g hg => kin_s (h1 g hg)) d3⟩
noncomputable def kmk3 (l : List Nat) : Nat := List.rec 0 (fun x _ ih => Nat.lor (Nat.pow 2 x) ih) l
theorem kmk3_s {c : Nat} : ∀ {l : List Nat}, (kmk3 l).testBit c = true → c ∈ l
  | [], h => by
    have h2 : (0 : Nat).testBit c = true := h
    rw [Nat.zero_testBit] at h2
    cases h2
  | x :: l, h => by
    have h2 : (2 ^ x ||| kmk3 l).testBit c = true := h
    rw [Nat.testBit_or, Nat.testBit_two_pow, Bool.or_eq_true, decide_eq_true_iff] at h2
    rcases h2 with h2 | h2
    · rw [h2]
      exact List.mem_cons_self
    · exact List.mem_cons_of_mem _ (kmk3_s h2)
theorem kmkb {l : List Nat} {c : Nat} (h : ktb (kmk3 l) c = true) : kmem l c = true := by
  rw [ktb_e] at h
  exact kmem_i (kmk3_s h)
noncomputable def kpl3 (l : List Nat) : Bool := klt 6 (fun a => klt 6 (fun b => cond (Nat.beq a b) true (klt 6 (fun c => cond (Nat.beq a c) true (cond (Nat.beq b c) true (klt 6 (fun d => cond (Nat.beq a d) true (cond (Nat.beq b d) true (cond (Nat.beq c d) true (klt 6 (fun e => cond (Nat.beq a e) true (cond (Nat.beq b e) true (cond (Nat.beq c e) true (cond (Nat.beq d e) true (klt 6 (fun f => cond (Nat.beq a f) true (cond (Nat.beq b f) true (cond (Nat.beq c f) true (cond (Nat.beq d f) true (cond (Nat.beq e f) true (ktb (kmk3 l) (Nat.add (Nat.add (Nat.add (Nat.add (Nat.add (Nat.mul a 32768) (Nat.mul b 4096)) (Nat.mul c 512)) (Nat.mul d 64)) (Nat.mul e 8)) f))))))))))))))))))))))
theorem kpl3_s {l : List Nat} (h : kpl3 l = true) {c : Nat} (hc : gpm c) : c ∈ l := by
  obtain ⟨h1, h2, h3⟩ := hc
  have ne : ∀ p q, p < 6 → q < 6 → p ≠ q → gdg c p ≠ gdg c q := fun p q hp hq hn e => hn (h3 p q hp hq e)
  have a0 := klt_s (klt_s h (gdg c 0) (h2 0 (by omega))) (gdg c 1) (h2 1 (by omega))
  rw [kif, if_neg (ne 0 1 (by omega) (by omega) (by omega))] at a0
  have a1 := klt_s a0 (gdg c 2) (h2 2 (by omega))
  rw [kif, if_neg (ne 0 2 (by omega) (by omega) (by omega)), kif, if_neg (ne 1 2 (by omega) (by omega) (by omega))] at a1
  have a2 := klt_s a1 (gdg c 3) (h2 3 (by omega))
  rw [kif, if_neg (ne 0 3 (by omega) (by omega) (by omega)), kif, if_neg (ne 1 3 (by omega) (by omega) (by omega)), kif, if_neg (ne 2 3 (by omega) (by omega) (by omega))] at a2
  have a3 := klt_s a2 (gdg c 4) (h2 4 (by omega))
  rw [kif, if_neg (ne 0 4 (by omega) (by omega) (by omega)), kif, if_neg (ne 1 4 (by omega) (by omega) (by omega)), kif, if_neg (ne 2 4 (by omega) (by omega) (by omega)), kif, if_neg (ne 3 4 (by omega) (by omega) (by omega))] at a3
  have a4 := klt_s a3 (gdg c 5) (h2 5 (by omega))
  rw [kif, if_neg (ne 0 5 (by omega) (by omega) (by omega)), kif, if_neg (ne 1 5 (by omega) (by omega) (by omega)), kif, if_neg (ne 2 5 (by omega) (by omega) (by omega)), kif, if_neg (ne 3 5 (by omega) (by omega) (by omega)), kif, if_neg (ne 4 5 (by omega) (by omega) (by omega))] at a4
  have a5 := kmem_s (kmkb a4)
  have e : gmkc (gdg c) = c := gmkc_e h1
  unfold gmkc at e
  have a6 : gdg c 0 * 32768 + gdg c 1 * 4096 + gdg c 2 * 512 + gdg c 3 * 64 + gdg c 4 * 8 + gdg c 5 ∈ l := a5
  rw [e] at a6
  exact a6
