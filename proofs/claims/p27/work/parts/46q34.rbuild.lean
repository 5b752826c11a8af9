def zCsL (T : zGT) (M : zMem) : Prop := zCs T M ((gF T).length : Int)
theorem zCsL.fr {T : zGT} {S C : List Nat} {M N : zMem} (hf : zFr S C M N) (h : zCsL T M) (_ : True) (hc : 94 ∉ C) : zCsL T N := zCs.fr hf h trivial hc
def zSSm (T : zGT) (M : zMem) : Prop := zSS T M (ze M 81 25)
theorem zSSm.fr {T : zGT} {S C : List Nat} {M N : zMem} (hf : zFr S C M N) (h : zSSm T M) (hs : 25 ∉ S ∧ 26 ∉ S) (hc : 89 ∉ C ∧ 90 ∉ C ∧ 91 ∉ C) : zSSm T N := by
  unfold zSSm
  rw [hf.e hs.1]
  exact zSS.fr hf h hs.2 hc
