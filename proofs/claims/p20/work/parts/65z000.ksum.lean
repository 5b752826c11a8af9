/-! more of the base, 0 -/
theorem zq_td (a : Int) {b : Int} (b0 : 1 ≤ b) : (a.tdiv b).natAbs ≤ a.natAbs := by
  rw [Int.natAbs_tdiv]
  exact Nat.div_le_self _ _
section ZKS
variable {l : Launch} {k : zMeth} {X : Nat × Nat} {Mz : zMem} {pc : Nat} {L : List (Option Value)} {S : List Value} {Q : Option Value → zMem → Prop} {a b : Int} {d : Nat}
end ZKS
section ZKF
variable {d : Nat} {FA : List (Nat × Nat)} {CA : List Nat} {FR : List (Nat × Nat)} {CR : List Nat} {Mz Nz : zMem} {F : Nat} {K : Nat → Nat → Int}
end ZKF
