/-! texts that the landed part asks for their length and their letters: the JDK's own methods -/
section ZT
variable {l : Launch} {k : zMeth} {B : Nat} {Sm : List (Nat × Nat)} {M0 M : zMem} {pc : Nat} {L : List (Option Value)} {S : List Value} {Q : Option Value → zMem → Prop}
theorem zw_callT {k' : zMeth} {X : Nat × Nat} {Q' : Option Value → zMem → Prop} {ix i : Nat} (vs rest : List Value) (hl' : zMLV (zo k) ix k') (hC : zC l k' 0 0 (.ref (zK i) :: vs) M Q') (hS : S = vs.reverse ++ .ref (zK i) :: rest) (hn : vs.length = zna k') (hi : i < zsN) (h15 : zo k' = 15) (hR : zF k' + 1 ≤ zF k ∧ 8 + (zl k' + 11) + zLo k' ≤ zLo k) (hc8 : (rest.map fun v => v.category).sum ≤ 8) (hd : decode (zb k) pc = .ok (.invokevirtual ix, 3))
    (kk : ∀ (r : Option Value) (M' : zMem), Q' r M' → zn M' = zn M + 0 → zw M' = zw M + 0 → zW l k X M' (pc + 3) L (r.toList ++ rest) Q) : zW l k X M pc L S Q := by
  intro p e R s m args below meth c D cI cJ ad adV n0 w0 H locs ls Qm C I hl hc hf
  subst hS
  obtain ⟨hlk, hin, hse, hM⟩ := hl'
  have hrec : ∃ cell : Cell, H[ad (zK i)]? = some cell ∧ cell.vm.isStatics = false ∧ s.vm.findClass (zR (zo k')) = some cell.cls := by
    rw [h15]
    exact vk_recv (adK := fun i => ad (zK i)) (i := i) I.1.2.2.2.1 hi I.2.2.2.1
  have hPre : PreV s H (zR (zo k')) (ad (zK i)) (va_Pc ((.ref (zK i) :: vs : List Value).map (zv ad)) (zIe D cI cJ ad adV M)) (vs.map (zv ad)) := ⟨zIe_blind, hrec, fun U hU hW => ⟨rfl, zIe_of I hU hW⟩⟩
  have fin : ∀ (r : Option Value) (M' : zMem) (H1 : Heap) (locs1 : List Loc), Q' r M' → zn M' = zn M + 0 → zw M' = zw M + 0 → zI D cI cJ ad adV M' s H1 locs1 → W p l e R s m args below meth c H1 locs1 (zn M - n0 + 0) (zw M - w0 + 0) Qm (F0 m (pc + 3) ls ((r.map (zv ad)).toList ++ rest.map (zv ad))) := by
    intro r M' H1 locs1 q1 q2 q3 q4
    have hk := kk r M' q1 q2 q3 p e R s m args below meth c D cI cJ ad adV n0 w0 H1 locs1 ls Qm C q4 hl (by omega) (fun r M' H' locs' pc' ls' b1 b2 b3 b4 => hf r M' H' locs' pc' ls' b1 b2 b3 (by omega))
    rw [z_top, show zn M - n0 + 0 = zn M' - n0 by omega, show zw M - w0 + 0 = zw M' - w0 by omega]
    exact hk
  rw [z_stk]
  rcases hlk with hlk | ⟨host, hlk⟩
  · exact z_ran (va_runV (Ts := z_tbl) (C := zR (zo k')) ⟨C.1, C.2.1, C.2.2.1, C.2.2.2.1, C.2.2.2.2.1⟩ (hC D cI cJ ad adV) ⟨z_callB C hlk hM hR, C.2.2.2.2.1 _ hin, C.2.2.2.2.1 _ hse⟩ hPre rfl (by rw [List.length_map]; exact hn) hl.1 rfl (lv_room (by rw [zv_cats]; exact hc8)) hd ⟨by omega, by omega⟩) I fin
  · exact z_ran (va_runVN (Ts := z_tbl) (C := zR (zo k')) ⟨C.1, C.2.1, C.2.2.1, C.2.2.2.1, C.2.2.2.2.1⟩ (hC D cI cJ ad adV) ⟨z_callN C (I.1.2.1 _ hlk) hM hR, C.2.2.2.2.1 _ hin, C.2.2.2.2.1 _ hse⟩ hPre rfl (by rw [List.length_map]; exact hn) hl.1 rfl (lv_room (by rw [zv_cats]; exact hc8)) hd ⟨by omega, by omega⟩) I fin
theorem zc_callT (hm : zMod B Sm M0 M) {k' : zMeth} {Q' : Option Value → zMem → Prop} {ix i : Nat} (vs rest : List Value) (hl' : zMLV (zo k) ix k') (hC : zC l k' 0 0 (.ref (zK i) :: vs) M Q') (hS : S = vs.reverse ++ .ref (zK i) :: rest) (hn : vs.length = zna k') (hi : i < zsN) (hR : zF k' + 1 ≤ zF k ∧ 8 + (zl k' + 11) + zLo k' ≤ zLo k) (hc8 : (rest.map fun v => v.category).sum ≤ 8) (hd : decode (zb k) pc = .ok (.invokevirtual ix, 3)) (kk : ∀ (r : Option Value) (M' : zMem), Q' r M' → zW l k (zn M0 + 0, zw M0 + 0) M' (pc + 3) L (r.toList ++ rest) Q) (h15 : zo k' = 15 := by rfl) : zW l k (zn M0 + 0, zw M0 + 0) M pc L S Q :=
  zw_callT vs rest hl' hC hS hn hi h15 hR hc8 hd (fun r M' h _ _ => kk r M' h)
end ZT
theorem c_String_length (l : Launch) (B : Nat) (M : zMem) (hT : zTy B M) (i : Nat) (hi : i < zsN) : zC l m_String_length 0 0 [.ref (zK i)] M (fun r M' => zMod B [] M M' ∧ r = some (.int (nI (zsL.getD i 0)))) := by
  sorry
theorem c_String_charAt (l : Launch) (B : Nat) (M : zMem) (hT : zTy B M) (i : Nat) (hi : i < zsN) (x : Int32) (hx : vp_in x (zsL.getD i 0)) : zC l m_String_charAt 0 0 [.ref (zK i), .int x] M (fun r M' => zMod B [] M M' ∧ ∃ v : Int32, r = some (.int v)) := by
  sorry
