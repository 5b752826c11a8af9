def lw_At (p : Program) (s : State) (m : MethodId) (meth : Method) (c : Code) (b L : Nat) (xs : Nat → Int32) : Prop :=
  p.tables.exec = Jvm.exec ∧ c.code = code ∧ meth.sig.returnType = ret ∧ c.maxLocals = 4 ∧ s.vm.findClass R_law = some m.cls ∧ (∀ w ∈ lw_tbl, w.before #[Value.ref b] s = true) ∧ va_X b L xs s s.heap ∧ b < s.heap.size ∧ meth.locks = false ∧ (Jvm.Cond.and given_1 narrow_1).before #[Value.ref b] s = true
def lw_tm : Nat → Term
  | 0 => .string "TroupeSums$Reader" 47
  | 1 => .string "TroupeSums$Reader" 69
  | 2 => .string "TroupeSums$Reader" 96
  | _ => .string "TroupeSums$Tokens" 95
def lw_ad (z : Nat) (aK aV : Nat → Nat) (t : Nat) : Nat → Nat := fun q => if q < 1000000 then z + q else if q < 1000100 then aK (q - 1000000) else if q = 1000100 then t else aV (q - 1000200)
theorem lw_ad0 {z : Nat} {aK aV : Nat → Nat} {t q : Nat} (h : q < 1000000) : lw_ad z aK aV t q = z + q := if_pos h
theorem lw_adK {z : Nat} {aK aV : Nat → Nat} {t i : Nat} (h : i < 100) : lw_ad z aK aV t (zK i) = aK i := by
  unfold lw_ad zK
  rw [if_neg (by omega), if_pos (by omega), show 1000000 + i - 1000000 = i by omega]
theorem lw_adT {z : Nat} {aK aV : Nat → Nat} {t : Nat} : lw_ad z aK aV t (zK 100) = t := by
  unfold lw_ad zK
  rw [if_neg (by omega), if_neg (by omega), if_pos (by omega)]
theorem lw_adV {z : Nat} {aK aV : Nat → Nat} {t i : Nat} : lw_ad z aK aV t (zK (200 + i)) = aV i := by
  unfold lw_ad zK
  rw [if_neg (by omega), if_neg (by omega), if_neg (by omega), show 1000000 + (200 + i) - 1000200 = i by omega]
set_option maxHeartbeats 4000000 in
theorem lw_env {s : State} {b : Nat} (hts : ∀ w ∈ lw_tbl, w.before #[Value.ref b] s = true) (hgv : (Jvm.Cond.and given_1 narrow_1).before #[Value.ref b] s = true) : ∃ (D : va_G) (cI cJ : ClassId) (ad adV : Nat → Nat), zEnv D cI cJ ad adV s s.heap ∧ ad 0 = s.heap.size ∧ ∀ i, i < 1000000 → ad i = ad 0 + i := by
  have htz : ∀ w ∈ z_tbl, w.before #[Value.ref b] s = true := fun w hw => hts w (List.mem_filter.mp hw).1
  have hs := flat_of_before _ hgv
  have hkn : ∀ ci : Nat, ∃ q : ClassId × (Nat → Nat), ci < 12 → u_Kn s (zR ci) (zT ci) (zN ci) q.1 q.2 := by
    intro ci
    by_cases h : ci < 12
    · obtain ⟨c1, i1, h1⟩ := u_known htz (z_in ci h) (htz _ (z_ia ci h))
      exact ⟨(c1, i1), fun _ => h1⟩
    · exact ⟨(0, fun _ => 0), fun h2 => absurd h2 h⟩
  obtain ⟨cI, kI, pI, i1, i2, i3⟩ := Cond.arrayClass_spec (htz _ z_ac.1)
  obtain ⟨cJ, kJ, pJ, j1, j2, j3⟩ := Cond.arrayClass_spec (htz _ z_ac.2)
  have hA : ∀ a : Nat, a < s.heap.size → ¬ (fun q : Nat => s.heap.size ≤ q) a := fun a h => Nat.not_le.mpr h
  obtain ⟨aK, aV, hS, hev⟩ := vk_Sof (N := zsN) (tm := lw_tm) (len := zsL) (byt := zsB) (args := #[Value.ref b]) (s := s) (A := fun q : Nat => s.heap.size ≤ q)
    (fun i hi => by match i, hi with | 0, _ => decide | 1, _ => decide | 2, _ => decide | 3, _ => decide)
    (fun i hi => by match i, hi with | 0, _ => exact hs _ (by decide +kernel) | 1, _ => exact hs _ (by decide +kernel) | 2, _ => exact hs _ (by decide +kernel) | 3, _ => exact hs _ (by decide +kernel))
    (fun i hi => by match i, hi with | 0, _ => exact hs _ (by decide +kernel) | 1, _ => exact hs _ (by decide +kernel) | 2, _ => exact hs _ (by decide +kernel) | 3, _ => exact hs _ (by decide +kernel))
    (fun i hi => by match i, hi with | 0, _ => exact hs _ (by decide +kernel) | 1, _ => exact hs _ (by decide +kernel) | 2, _ => exact hs _ (by decide +kernel) | 3, _ => exact hs _ (by decide +kernel))
    (fun i hi => by match i, hi with | 0, _ => exact hs _ (by decide +kernel) | 1, _ => exact hs _ (by decide +kernel) | 2, _ => exact hs _ (by decide +kernel) | 3, _ => exact hs _ (by decide +kernel))
    (fun i hi j hj => by
      match i, hi with
      | 0, _ => match j, hj with
        | 0, _ => exact hs _ (by decide +kernel)
        | 1, _ => exact hs _ (by decide +kernel)
        | 2, _ => exact hs _ (by decide +kernel)
        | 3, _ => exact hs _ (by decide +kernel)
        | 4, _ => exact hs _ (by decide +kernel)
        | 5, _ => exact hs _ (by decide +kernel)
      | 1, _ => match j, hj with
        | 0, _ => exact hs _ (by decide +kernel)
        | 1, _ => exact hs _ (by decide +kernel)
        | 2, _ => exact hs _ (by decide +kernel)
        | 3, _ => exact hs _ (by decide +kernel)
      | 2, _ => match j, hj with
        | 0, _ => exact hs _ (by decide +kernel)
        | 1, _ => exact hs _ (by decide +kernel)
        | 2, _ => exact hs _ (by decide +kernel)
      | 3, _ => match j, hj with
        | 0, _ => exact hs _ (by decide +kernel)
        | 1, _ => exact hs _ (by decide +kernel)
        | 2, _ => exact hs _ (by decide +kernel)
        | 3, _ => exact hs _ (by decide +kernel))
    (fun i j hi hj hij => by
      match i, j, hi, hj, hij with
      | 0, 0, _, _, h => exact absurd rfl h
      | 1, 1, _, _, h => exact absurd rfl h
      | 2, 2, _, _, h => exact absurd rfl h
      | 3, 3, _, _, h => exact absurd rfl h
      | 0, 1, _, _, _ => exact Or.inl (hs _ (by decide +kernel))
      | 0, 2, _, _, _ => exact Or.inl (hs _ (by decide +kernel))
      | 0, 3, _, _, _ => exact Or.inl (hs _ (by decide +kernel))
      | 1, 2, _, _, _ => exact Or.inl (hs _ (by decide +kernel))
      | 1, 3, _, _, _ => exact Or.inl (hs _ (by decide +kernel))
      | 2, 3, _, _, _ => exact Or.inl (hs _ (by decide +kernel))
      | 1, 0, _, _, _ => exact Or.inr (hs _ (by decide +kernel))
      | 2, 0, _, _, _ => exact Or.inr (hs _ (by decide +kernel))
      | 3, 0, _, _, _ => exact Or.inr (hs _ (by decide +kernel))
      | 2, 1, _, _, _ => exact Or.inr (hs _ (by decide +kernel))
      | 3, 1, _, _, _ => exact Or.inr (hs _ (by decide +kernel))
      | 3, 2, _, _, _ => exact Or.inr (hs _ (by decide +kernel))) hA
  have e0 := hev 0 (by decide)
  have e1 := hev 1 (by decide)
  have e2 := hev 2 (by decide)
  have e3 := hev 3 (by decide)
  have tw : ∀ {x y : Term} {v : Nat}, (Cond.eq x y).before #[Value.ref b] s = true → x.eval #[Value.ref b] s none [] s = some (.ref v) → y.eval #[Value.ref b] s none [] s = some (.ref v) := by
    intro x y v h hx
    obtain ⟨z, z1, z2⟩ := Cond.eq_one h
    rw [hx] at z1
    rw [z2, ← z1]
  have e4 := tw (x := .string "TroupeSums$Reader" 47) (y := .string "TroupeSums$Tokens" 85) (hs _ (by decide +kernel)) e0
  have e5 := tw (x := .string "TroupeSums$Reader" 69) (y := .string "TroupeSums$Tokens" 91) (hs _ (by decide +kernel)) e1
  have e6 := tw (x := .string "TroupeSums$Reader" 96) (y := .string "TroupeSums$Tokens" 93) (hs _ (by decide +kernel)) e2
  have e7 := tw (x := .string "TroupeSums$Tokens" 95) (y := .string "TroupeSums$Reader" 167) (hs _ (by decide +kernel)) e3
  have hZ : va_Z "java/lang/String" "COMPACT_STRINGS" "Z" (.int 1) (fun q : Nat => s.heap.size ≤ q) s s.heap := by
    refine va_Zof (hts _ (by decide +kernel)) (hts _ (by decide +kernel)) ?_ hA
    obtain ⟨z, z1, z2⟩ := Cond.eq_one (a := .static "java/lang/String" "COMPACT_STRINGS" "Z") (b := .int 1) (hs _ (by decide +kernel))
    rw [z1]
    have : (Term.int 1).eval #[Value.ref b] s none [] s = some (.int 1) := rfl
    rw [this] at z2
    exact z2.symm
  have hq : va_Zq "jdk/internal/util/Preconditions" "SIOOBE_FORMATTER" "Ljava/util/function/BiFunction;" (fun q : Nat => s.heap.size ≤ q) s s.heap := va_Zqof (args := #[Value.ref b]) (hts _ (by decide +kernel)) (hts _ (by decide +kernel)) (hs _ (by decide +kernel)) hA
  have fin : ∀ t : Nat, (va_Z "jdk/internal/util/Preconditions" "SIOOBE_FORMATTER" "Ljava/util/function/BiFunction;" .null (fun q : Nat => s.heap.size ≤ q) s s.heap ∨ va_Z "jdk/internal/util/Preconditions" "SIOOBE_FORMATTER" "Ljava/util/function/BiFunction;" (.ref t) (fun q : Nat => s.heap.size ≤ q) s s.heap) → ∃ (D : va_G) (cI cJ : ClassId) (ad adV : Nat → Nat), zEnv D cI cJ ad adV s s.heap ∧ ad 0 = s.heap.size ∧ ∀ i, i < 1000000 → ad i = ad 0 + i := by
    intro t ht
    have a0 : lw_ad s.heap.size aK aV t 0 = s.heap.size := lw_ad0 (by decide)
    refine ⟨(fun ci => (Classical.choose (hkn ci)).1, fun ci => (Classical.choose (hkn ci)).2), cI, cJ, lw_ad s.heap.size aK aV t, aV, ⟨⟨fun k q hk => ?_, fun k q hk => ?_⟩, fun w hw => ?_, fun q hq => ?_, ⟨?_, ?_⟩, ?_, ?_⟩, a0, fun i hi => by rw [a0, lw_ad0 hi]⟩
    · have hk12 : k < 12 := (List.getElem?_eq_some_iff.mp hk).1
      rw [z_cl k hk12] at hk
      cases hk
      exact Classical.choose_spec (hkn k) hk12
    · match k, hk with
      | 0, hk => cases hk; exact ⟨fun n z => ⟨fun k h => (by cases h), kI, i2, pI, i3⟩, i1⟩
      | 1, hk => cases hk; exact ⟨fun n z => ⟨fun k h => (by cases h), kJ, j2, pJ, j3⟩, j1⟩
      | k + 2, hk => simp at hk
    · have h1 := hts w (List.mem_filter.mp hw).1
      have h2 := (List.mem_filter.mp hw).2
      cases w <;> first | (cases h2; done) | exact va_Nw.of rfl h1
    · rcases List.mem_cons.mp hq with rfl | hq
      · rw [lw_adK (by decide)]; exact vk_R.of (hts _ (by decide +kernel)) e0
      rcases List.mem_cons.mp hq with rfl | hq
      · rw [lw_adK (by decide)]; exact vk_R.of (hts _ (by decide +kernel)) e1
      rcases List.mem_cons.mp hq with rfl | hq
      · rw [lw_adK (by decide)]; exact vk_R.of (hts _ (by decide +kernel)) e2
      rcases List.mem_cons.mp hq with rfl | hq
      · rw [lw_adK (by decide)]; exact vk_R.of (hts _ (by decide +kernel)) e4
      rcases List.mem_cons.mp hq with rfl | hq
      · rw [lw_adK (by decide)]; exact vk_R.of (hts _ (by decide +kernel)) e5
      rcases List.mem_cons.mp hq with rfl | hq
      · rw [lw_adK (by decide)]; exact vk_R.of (hts _ (by decide +kernel)) e6
      rcases List.mem_cons.mp hq with rfl | hq
      · rw [lw_adK (by decide)]; exact vk_R.of (hts _ (by decide +kernel)) e3
      rcases List.mem_cons.mp hq with rfl | hq
      · rw [lw_adK (by decide)]; exact vk_R.of (hts _ (by decide +kernel)) e7
      · cases hq
    · intro i hi
      have k1 : lw_ad s.heap.size aK aV t (zK i) = aK i := lw_adK (by unfold zsN at hi; omega)
      have k2 : lw_ad s.heap.size aK aV t (zK (200 + i)) = aV i := lw_adV
      dsimp only
      rw [k1, k2, a0]
      exact hS.1 i hi
    · intro i j hi hj hij
      have k1 : lw_ad s.heap.size aK aV t (zK i) = aK i := lw_adK (by unfold zsN at hi; omega)
      have k2 : lw_ad s.heap.size aK aV t (zK j) = aK j := lw_adK (by unfold zsN at hj; omega)
      dsimp only at hij
      rw [k1, k2] at hij
      exact hS.2 i j hi hj hij
    · rw [a0]; exact hZ
    · rw [a0, lw_adT]; exact ht
  rcases hq with hq | ⟨t, hq⟩
  · exact fin 0 (Or.inl hq)
  · exact fin t (Or.inr hq)
