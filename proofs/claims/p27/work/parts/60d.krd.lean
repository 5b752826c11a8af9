noncomputable def zPi (p : Prop) (a b : Nat) : Nat := @ite Nat p (Classical.propDecidable p) a b
theorem zPi_t {p : Prop} {a b : Nat} (h : p) : zPi p a b = a := by
  unfold zPi
  exact if_pos h
theorem zPi_f {p : Prop} {a b : Nat} (h : ¬ p) : zPi p a b = b := by
  unfold zPi
  exact if_neg h
noncomputable def zct (p : Nat → Prop) : Nat → Nat
  | 0 => 0
  | k + 1 => zPi (p k) (zct p k + 1) (zct p k)
theorem zct_t {p : Nat → Prop} {k : Nat} (h : p k) : zct p (k + 1) = zct p k + 1 := zPi_t h
theorem zct_f {p : Nat → Prop} {k : Nat} (h : ¬ p k) : zct p (k + 1) = zct p k := zPi_f h
