theorem zk_gen (a : Int) : ∃ v : Int, -2147483648 ≤ v ∧ v < 2147483648 ∧ Int32.ofInt a = Int32.ofInt v ∧ (v = a ∨ a < -2147483648 ∨ 2147483648 ≤ a) := by
  refine ⟨(Int32.ofInt a).toInt, (z32r _).1, (z32r _).2, (Int32.ofInt_toInt _).symm, ?_⟩
  by_cases h : -2147483648 ≤ a ∧ a < 2147483648
  · exact Or.inl (z32 ⟨h.1, h.2⟩)
  · omega
theorem zFc.now {d : Nat} {FA : List (Nat × Nat)} {CA : List Nat} {FR : List (Nat × Nat)} {CR : List Nat} {M N : zMem} (h : zFc d FA CA FR CR M N) (h2 : zf M 0 2 = some (d + 0)) : zf N 0 2 = some (d + 0) := by
  rw [h.2.2.1]
  exact h2
section ZKX
variable {l : Launch} {k : zMeth} {X : Nat × Nat} {M : zMem} {pc : Nat} {L : List (Option Value)} {S : List Value} {Q : Option Value → zMem → Prop} {a b : Int} {d : Nat}
theorem zk_atGJ (hX : zn M ≤ X.1 ∧ zw M ≤ X.2) {ix q r n : Nat} {x : Int} (hl' : zMLV (zo k) ix m_LongRow_at) (hk : (zsh M q).1 = 8 + 3) (hl : zf M q 0 = some r) (hr : zsh M r = (2, n)) (hn : n ≤ 65536) (hx : zn32 x) (hR : zF m_LongRow_at + 1 ≤ zF k ∧ 8 + (zl m_LongRow_at + 11) + zLo m_LongRow_at ≤ zLo k) (hc8 : (S.map fun v => v.category).sum ≤ 8) (hd : decode (zb k) pc = .ok (.invokevirtual ix, 3))
    (kk : ∀ v : Int, v = zatJ M r n x → -9223372036854775808 ≤ v → v < 9223372036854775808 → zW l k X M (pc + 3) L (.long (Int64.ofInt v) :: S) Q) : zW l k X M pc L (.int (Int32.ofInt x) :: .ref q :: S) Q := by
  refine zk_callV hX [.int (Int32.ofInt x)] S hl' (k_LongRow_at l M q r n hk hl hr hn x hx) rfl rfl hk (by decide) hR hc8 hd ?_
  rintro _ N1_ ⟨rfl, e1_⟩
  rw [e1_]
  have e : -9223372036854775808 ≤ zatJ M r n x ∧ zatJ M r n x < 9223372036854775808 := by
    unfold zatJ
    split
    · exact zg_r M r _
    · omega
  exact kk _ rfl e.1 e.2
theorem zk_stG (hX : zn M ≤ X.1 ∧ zw M ≤ X.2) {ix q o n : Nat} {x v : Int} (ho : o < 38) (hl' : zMLV (zo k) ix m_IntRow_put) (hk : (zsh M q).1 = 2 + 3) (hl : zf M q 0 = some (d + o)) (hr : zsh M (d + o) = (1, n)) (hn : n ≤ 65536) (hx : zn32 x) (hR : zF m_IntRow_put + 1 ≤ zF k ∧ 8 + (zl m_IntRow_put + 11) + zLo m_IntRow_put ≤ zLo k) (hc8 : (S.map fun v => v.category).sum ≤ 8) (hd : decode (zb k) pc = .ok (.invokevirtual ix, 3))
    (kk : ∀ N : zMem, zFc d [] [] [] [o] M N → zW l k X N (pc + 3) L S Q) : zW l k X M pc L (.int (Int32.ofInt v) :: .int (Int32.ofInt x) :: .ref q :: S) Q := by
  refine zk_callV hX [.int (Int32.ofInt x), .int (Int32.ofInt v)] S hl' (k_IntRow_put l M q (d + o) n hk hl hr hn x hx v) rfl rfl hk (by decide) hR hc8 hd ?_
  rintro _ _ ⟨rfl, rfl⟩
  refine kk _ ?_
  unfold zpt
  split
  · exact zFc.sR ho
  · exact zFc.rf
theorem zk_stGJ (hX : zn M ≤ X.1 ∧ zw M ≤ X.2) {ix q o n : Nat} {x v : Int} (ho : o < 38) (hl' : zMLV (zo k) ix m_LongRow_put) (hk : (zsh M q).1 = 8 + 3) (hl : zf M q 0 = some (d + o)) (hr : zsh M (d + o) = (2, n)) (hn : n ≤ 65536) (hx : zn32 x) (hR : zF m_LongRow_put + 1 ≤ zF k ∧ 8 + (zl m_LongRow_put + 11) + zLo m_LongRow_put ≤ zLo k) (hc8 : (S.map fun v => v.category).sum ≤ 8) (hd : decode (zb k) pc = .ok (.invokevirtual ix, 3))
    (kk : ∀ N : zMem, zFc d [] [] [] [o] M N → zW l k X N (pc + 3) L S Q) : zW l k X M pc L (.long (Int64.ofInt v) :: .int (Int32.ofInt x) :: .ref q :: S) Q := by
  refine zk_callV hX [.int (Int32.ofInt x), .long (Int64.ofInt v)] S hl' (k_LongRow_put l M q (d + o) n hk hl hr hn x hx v) rfl rfl hk (by decide) hR hc8 hd ?_
  rintro _ _ ⟨rfl, rfl⟩
  refine kk _ ?_
  unfold zptJ
  split
  · exact zFc.sRJ ho
  · exact zFc.rf
theorem zk_mmin {ix : Nat} (hlk : Cond.methodLink (zR (zo k)) ix Lib.Math.min.name ∈ z_tbl) (hR : 1 ≤ zF k ∧ 30 ≤ zLo k) (hc8 : (S.map fun v => v.category).sum ≤ 8) (hd : decode (zb k) pc = .ok (.invokestatic ix, 3)) (ha : zn32 a) (hb : zn32 b) (kk : ∀ v : Int, ((b < a ∧ v = b) ∨ (a ≤ b ∧ v = a)) → zW l k X M (pc + 3) L (.int (Int32.ofInt v) :: S) Q) : zW l k X M pc L (.int (Int32.ofInt b) :: .int (Int32.ofInt a) :: S) Q := by
  refine zw_mmin hlk hR hc8 hd (fun v hv => ?_)
  rw [hv]
  have e : Int32.ofInt b < Int32.ofInt a ↔ b < a := by rw [Int32.lt_iff_toInt_lt, z32 hb, z32 ha]
  by_cases h : b < a
  · rw [if_pos (e.mpr h)]
    exact kk b (Or.inl ⟨h, rfl⟩)
  · rw [if_neg (fun q => h (e.mp q))]
    exact kk a (Or.inr ⟨by omega, rfl⟩)
theorem zk_mabs {ix : Nat} (hlk : Cond.methodLink (zR (zo k)) ix Lib.Math.abs.name ∈ z_tbl) (hR : 1 ≤ zF k ∧ 30 ≤ zLo k) (hc8 : (S.map fun v => v.category).sum ≤ 8) (hd : decode (zb k) pc = .ok (.invokestatic ix, 3)) (ha : zn32 a) (kk : ∀ v : Int, zn32 v → (-2147483648 < a → (0 ≤ a ∧ v = a) ∨ (a < 0 ∧ v = -a)) → zW l k X M (pc + 3) L (.int (Int32.ofInt v) :: S) Q) : zW l k X M pc L (.int (Int32.ofInt a) :: S) Q := by
  refine zw_mabs hlk hR hc8 hd (fun v hv => ?_)
  have e : (0 : Int32) ≤ Int32.ofInt a ↔ 0 ≤ a := by
    rw [Int32.le_iff_toInt_le, z32 ha]
    exact Iff.rfl
  have e2 : v = Int32.ofInt (if 0 ≤ a then a else 0 - a) := by
    rw [hv]
    by_cases h : 0 ≤ a
    · rw [if_pos (e.mpr h), if_pos h]
    · rw [if_neg (fun q => h (e.mp q)), if_neg h, Int32.ofInt_sub]
      rfl
  have hk := kk v.toInt (z32r _) (fun h => by
    rw [e2]
    by_cases g : 0 ≤ a
    · rw [if_pos g, z32 ha]
      exact Or.inl ⟨g, rfl⟩
    · have h1 := ha.2
      rw [if_neg g, z32 ⟨by omega, by omega⟩]
      exact Or.inr ⟨by omega, by omega⟩)
  rwa [Int32.ofInt_toInt] at hk
end ZKX
theorem zand63 (x : Int) : 0 ≤ zand x 63 ∧ zand x 63 ≤ 63 := by
  have h1 : ((Int32.ofInt x &&& Int32.ofInt 63).toBitVec).toNat ≤ 63 := by
    rw [Int32.toBitVec_and, BitVec.toNat_and]
    exact Nat.le_trans Nat.and_le_right (by decide)
  have h2 : zand x 63 = (((Int32.ofInt x &&& Int32.ofInt 63).toBitVec).toNat : Int) := by
    show ((Int32.ofInt x &&& Int32.ofInt 63).toBitVec).toInt = _
    rw [BitVec.toInt_eq_toNat_of_lt (by omega)]
  omega
