theorem zsm_le {f : Nat → Int} {B : Int} : ∀ k : Nat, (∀ i, i < k → -B ≤ f i ∧ f i ≤ B) → -(B * k) ≤ zsm f k ∧ zsm f k ≤ B * k
  | 0, _ => by
    show -(B * ((0 : Nat) : Int)) ≤ 0 ∧ (0 : Int) ≤ B * ((0 : Nat) : Int)
    have e : B * ((0 : Nat) : Int) = 0 := Int.mul_zero B
    omega
  | k + 1, h => by
    have ih := zsm_le k (fun i hi => h i (by omega))
    have hk := h k (by omega)
    have e : B * ((k + 1 : Nat) : Int) = B * (k : Int) + B := by
      rw [Int.natCast_add, Int.mul_add]
      show B * (k : Int) + B * 1 = _
      rw [Int.mul_one]
    show -(B * ((k + 1 : Nat) : Int)) ≤ zsm f k + f k ∧ zsm f k + f k ≤ B * ((k + 1 : Nat) : Int)
    omega
theorem gTabs_ol : ∀ T ∈ gTabs, ∃ l Kp, gOL T l Kp gKL := (List.forall_mem_append.mpr ⟨kqO_A, (List.forall_mem_append.mpr ⟨kqO_B, (List.forall_mem_append.mpr ⟨kqO_C, (List.forall_mem_append.mpr ⟨kqO_D, (List.forall_mem_append.mpr ⟨kqO_E, kqO_F⟩)⟩)⟩)⟩)⟩)
theorem gds_z (T : zGT) (D : Nat → Nat → Int) (j k : Nat) : ∀ n, gds T D j k n = (if k = j then 1 else 0) - zsm (fun t => D j (k + 1 + t) * gqI T (k + 1 + t) k) n
  | 0 => by
    show (if k = j then 1 else 0) = (if k = j then 1 else 0) - (0 : Int)
    rw [Int.sub_zero]
  | n + 1 => by
    show gds T D j k n - D j (k + 1 + n) * gqI T (k + 1 + n) k = (if k = j then 1 else 0) - (zsm (fun t => D j (k + 1 + t) * gqI T (k + 1 + t) k) n + D j (k + 1 + n) * gqI T (k + 1 + n) k)
    rw [gds_z T D j k n]
    omega
theorem gT_in {T : zGT} {D : Nat → Nat → Int} (hD : gDs T D) (h3 : ∀ i j, i < j → j < (gF T).length → gmkI T i j = 0) (u : Nat → Int) : ∀ d k, (gF T).length - k ≤ d → k < (gF T).length → u k * gmkI T k k = zsm (fun j => zmq (gF T).length (gmkI T) u j * D j k) (gF T).length
  | 0, k, h1, h2 => absurd h1 (by omega)
  | d + 1, k, h1, h2 => by
    have ht := zsm_tail (f := fun i => u i * gmkI T i k) (j := k) (fun i hi => by
      show u i * gmkI T i k = 0
      rw [h3 i k hi h2, Int.mul_zero]) ((gF T).length - 1 - k)
    rw [show k + 1 + ((gF T).length - 1 - k) = (gF T).length by omega] at ht
    have hm : zmq (gF T).length (gmkI T) u k = u k * gmkI T k k + zsm (fun t => u (k + 1 + t) * gmkI T (k + 1 + t) k) ((gF T).length - 1 - k) := ht
    have e1 : zsm (fun t => u (k + 1 + t) * gmkI T (k + 1 + t) k) ((gF T).length - 1 - k) = zsm (fun t => zsm (fun j => zmq (gF T).length (gmkI T) u j * D j (k + 1 + t) * gqI T (k + 1 + t) k) (gF T).length) ((gF T).length - 1 - k) := by
      refine zsm_c _ (fun t ht => ?_)
      have ih := gT_in hD h3 u d (k + 1 + t) (by omega) (by omega)
      rw [hD.2 (k + 1 + t) k (by omega) h2, Int.mul_comm (gqI T (k + 1 + t) k), ← Int.mul_assoc, ih, Int.mul_comm, ← zsm_mul]
      exact zsm_c _ (fun j _ => Int.mul_comm _ _)
    have e2 : zsm (fun j => zmq (gF T).length (gmkI T) u j * D j k) (gF T).length = zsm (fun j => (if k = j then zmq (gF T).length (gmkI T) u j else 0) + (-1) * zsm (fun t => zmq (gF T).length (gmkI T) u j * D j (k + 1 + t) * gqI T (k + 1 + t) k) ((gF T).length - 1 - k)) (gF T).length := by
      refine zsm_c _ (fun j hj => ?_)
      rw [(hD.1 j k hj h2).2, gds_z, Int.mul_sub, ← zsm_mul, Int.neg_one_mul, Int.sub_eq_add_neg]
      congr 1
      · split
        · exact Int.mul_one _
        · exact Int.mul_zero _
      · congr 1
        exact zsm_c _ (fun t _ => (Int.mul_assoc _ _ _).symm)
    rw [e2, zsm_add, zsm_1 (f := fun j => if k = j then zmq (gF T).length (gmkI T) u j else 0) (a := k) h2 (fun i _ hi => if_neg (fun g => hi g.symm)), zsm_mul, zsm_sw, ← e1]
    show _ = (if k = k then zmq (gF T).length (gmkI T) u k else 0) + _
    rw [if_pos rfl, hm]
    omega
theorem gT_zTA {T : zGT} (hT : T ∈ gTabs) : zTA (gF T).length (gmkI T) := by
  obtain ⟨l, Kp, ⟨o1, o1b⟩, o2, o3, o4, o5, o6, o7, o8, -⟩ := gTabs_ol T hT
  obtain ⟨m, Kp', ek, hm, hP⟩ := gKL_s _ o8
  have em : m = (gF T).length := by omega
  have eK : Kp' = Kp := by omega
  subst em
  subst eK
  have hO := gTabs_ok T hT
  obtain ⟨-, -, -, -, -, D, hD⟩ := gTabs_ex T hT
  obtain ⟨p1, p2, p3, p4⟩ := hP
  have hK : ∀ i j, i < (gF T).length → j < (gF T).length → gmkI T i j = ((kK Kp' i j : Nat) : Int) := fun i j hi hj => by
    unfold gmkI
    rw [o7 i j hi hj]
  have h3 : ∀ i j, i < j → j < (gF T).length → gmkI T i j = 0 := fun i j hij hj => by
    rw [hK i j (by omega) hj, p3 i j hij hj]
    rfl
  refine ⟨⟨p1.1, p1.2⟩, fun i j _ _ => ?_, h3, fun j hj => ?_, fun i j hi hj => ?_, fun u hu i hi => ?_, fun i hi => ?_⟩
  · have := gmk_b T ((gF T).getD i 0) ((gF T).getD j 0)
    have h24 := hO.1.2.1
    unfold gmkI
    omega
  · have := hO.2.2.2 j hj
    unfold gmkI
    omega
  · obtain ⟨c, hc⟩ := p4 i j hi hj
    refine ⟨c, fun k hk => ?_⟩
    rw [hK i k hi hk, hK j k hj hk, ← hc k hk]
    unfold zmq
    exact zsm_c _ (fun q hq => by rw [hK q k hq hk])
  · rw [gT_in hD h3 u _ i (Nat.le_refl _) hi]
    have hb := zsm_le (f := fun j => zmq (gF T).length (gmkI T) u j * D j i) (B := 1000000000000000) (gF T).length (fun j hj => by
      have h1 := hu j hj
      have h2 := (hD.1 j i hj hi).1
      unfold zLim at h1
      have h4 : (zmq (gF T).length (gmkI T) u j * D j i).natAbs ≤ 1000000000000 * 1000 := by
        rw [Int.natAbs_mul]
        exact Nat.mul_le_mul (by omega) (by omega)
      show -1000000000000000 ≤ zmq (gF T).length (gmkI T) u j * D j i ∧ zmq (gF T).length (gmkI T) u j * D j i ≤ 1000000000000000
      omega)
    have h27 := p1.2
    omega
  · rw [hK _ i (by omega) hi, p2 i hi]
    rfl
