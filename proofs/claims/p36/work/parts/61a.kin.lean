def zTrP (b : Nat → Int) (n s P : Nat) (mv : List Nat) (T : zGT) : Prop := ∃ q q2 q3 : Nat, ∃ nm : List (Int × (Nat → Int)), zHd b n s P q ∧ zRg (zbs b n P) (0, q, []) (1, q2, mv) ∧ T ∈ gTabs ∧ zTm mv T ∧ zRg (zls b n (gF T).length (gmkI T)) (0, q2, []) (1, q3, nm)
theorem zTrP.g {b : Nat → Int} {n s P : Nat} {mv : List Nat} {T : zGT} (h : zTrP b n s P mv T) : zTrG b n s mv T := by
  obtain ⟨q, q2, q3, nm, h⟩ := h
  exact ⟨P, q, q2, q3, nm, h⟩
theorem zTrP_u {b : Nat → Int} {n s P P' : Nat} {mv mv' : List Nat} {T T' : zGT} (h : zTrP b n s P mv T) (h' : zTrP b n s P' mv' T') : P = P' ∧ mv = mv' ∧ T = T' := by
  have hT := zTrG_u h.g h'.g
  obtain ⟨q, q2, q3, nm, a1, a2, -⟩ := h
  obtain ⟨q', q2', q3', nm', b1, b2, -⟩ := h'
  obtain ⟨rfl, rfl⟩ := zHd_u a1 b1
  exact ⟨rfl, (zTrG_m (s := s) a2 b2).2, hT⟩
def zKS (P : Nat) (mv : List Nat) (T : zGT) (d : Nat) (M : zMem) : Prop := zMvK mv P d M ∧ zGc mv P T d M ∧ zTt T d M ∧ zFir T d M ∧ zKm (gF T).length (gmkI T) d M ∧ zSbK T d M
