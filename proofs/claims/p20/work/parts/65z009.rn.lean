/-! more of the base, 9 -/
section ZCPJ
variable {q r : Nat} {M0 M N : zMem} {n m i v : Int} {S C : List Nat}
end ZCPJ
section ZRNI
variable {F n : Nat} {K : Nat → Nat → Int} {b : Nat → Int} {nm : List (Int × (Nat → Int))} {S C : List Nat} {M N : zMem}
end ZRNI
section ZTRN
variable {b : Nat → Int} {n s P P' : Nat} {mv mv' : List Nat} {T T' : zGT} {nm nm' : List (Int × (Nat → Int))}
theorem zTrN_u (h : zTrN b n s P mv T nm) (h' : zTrN b n s P' mv' T' nm') : P = P' ∧ mv = mv' ∧ T = T' ∧ nm = nm' := by
  obtain ⟨rfl, rfl, rfl⟩ := zTrP_u h.p h'.p
  obtain ⟨q, q2, q3, a1, a2, a3, a4, a5⟩ := h
  obtain ⟨r, r2, r3, b1, b2, b3, b4, b5⟩ := h'
  obtain ⟨-, rfl⟩ := zHd_u a1 b1
  have e2 := (zTrG_m (s := s) a2 b2).1
  rw [← e2] at b5
  have e3 := zRg.end a5 b5 zls_1 zls_1
  have e4 : nm = nm' := congrArg (fun x : zLst => x.2.2) e3
  exact ⟨rfl, rfl, rfl, e4⟩
end ZTRN
theorem zMkR_u {b : Nat → Int} {n F : Nat} {K : Nat → Nat → Int} {nm : List (Int × (Nat → Int))} {v w : Nat → Int} (h : zMkR b n F K nm v) (h' : zMkR b n F K nm w) : v = w := by
  obtain ⟨q, un, e, -⟩ := h
  obtain ⟨q', un', e', -⟩ := h'
  rw [e] at e'
  have e2 : [v] = [w] := congrArg (fun x : zFst => x.2.2.2.1) e'
  exact (List.cons.inj e2).1
