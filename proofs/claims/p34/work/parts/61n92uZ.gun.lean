theorem gTabs_un {T : zGT} (hT : T ∈ gTabs) : ∃ D, kunT T.1 T.2.1 T.2.2.1 T.2.2.2.1 D = true := by
  have h : T ∈ gTc_A ++ (gTc_B ++ (gTc_C ++ (gTc_D ++ (gTc_E ++ (gTc_F))))) := hT
  rcases List.mem_append.mp h with h | h
  · exact kuT_A T h
  rcases List.mem_append.mp h with h | h
  · exact kuT_B T h
  rcases List.mem_append.mp h with h | h
  · exact kuT_C T h
  rcases List.mem_append.mp h with h | h
  · exact kuT_D T h
  rcases List.mem_append.mp h with h | h
  · exact kuT_E T h
  exact kuT_F T h
theorem gun {T : zGT} (hT : T ∈ gTabs) (hA : gGr T) {r j : Nat} : (∀ i, j ≤ i → i < (gF T).length → zyR T i r) ↔ ∀ i, j ≤ i → i < (gF T).length → zyC T i r := by
  obtain ⟨D, hD⟩ := gTabs_un hT
  exact gun_a hT hA hD _ j rfl
theorem gun_ge {T : zGT} (hT : T ∈ gTabs) (hA : gGr T) {j x : Nat} (hj : j < (gF T).length) (hx : gUr T j x) : j ≤ gUs T j x ∧ gUs T j x < (gF T).length := by
  obtain ⟨D, hD⟩ := gTabs_un hT
  exact (((kun_d hT hA hD hj).2 x hx.1).1 hx.2.1).2
