def mLaw (nm : String) : zMeth := (⟨"TroupeSumsLaw", nm, "([I)Z"⟩, code, 4, ret, 12, 1, 14, 528)
section LAW
variable {p : Program} {l : Launch} {e : Env} {R : Room} {s : State} {m : MethodId} {args : Array Value} {below : List Frame} {meth : Method} {c : Code} {D : va_G} {cI cJ : ClassId} {ad adV : Nat → Nat} {nm : String} {H : Heap} {locs : List Loc} {ls : Array Slot} {M : zMem} {Qm : State → Prop}
theorem lw_callV {k' : zMeth} {Q' : Option Value → zMem → Prop} {ix pc q nn ww : Nat} {st : List Value} {lv : List (Nat × Value)} (C : zCtx p R s m args meth c (mLaw nm)) (I : zI D cI cJ ad adV M s H locs) (hl : lv_has ls 4 lv) (vs rest : List Value) (hl' : zMLV 12 ix k') (hC : zC l k' 0 0 (.ref q :: vs) M Q') (hSt : st = (vs.map (zv ad)).reverse ++ .ref (ad q) :: rest) (hn : vs.length = zna k') (hb : (zsh M q).1 = zo k' + 3) (h12 : zo k' < 12) (hR : zF k' + 1 ≤ 14 ∧ 8 + (zl k' + 11) + zLo k' ≤ 528) (hc8 : (rest.map fun v => v.category).sum ≤ 8) (hd : decode code pc = .ok (.invokevirtual ix, 3)) (hnn : zn M = nn) (hww : zw M = ww) (hRr : nn ≤ R.cells ∧ ww ≤ R.slots)
    (kk : ∀ (r : Option Value) (M' : zMem) (H1 : Heap) (locs1 : List Loc), Q' r M' → zn M' = nn → zw M' = ww → zI D cI cJ ad adV M' s H1 locs1 → W p l e R s m args below meth c H1 locs1 nn ww Qm (F0 m (pc + 3) ls ((r.map (zv ad)).toList ++ rest))) : W p l e R s m args below meth c H locs nn ww Qm (F0 m pc ls st) := by
  subst hSt
  obtain ⟨hlk, hin, hse, hM⟩ := hl'
  have hlt : q < zn M := zOK_lt I.2.2.2.2.2 (t := zo k' + 2) (by omega)
  have he : (zws cI cJ ad M)[q]? = some (ad q, .inr (zo k', zFs ad M q (zo k'))) := by rw [zws_get hlt, zE_obj hb]
  have hrec := va_recv I.1.1 I.2.2.1 (z_cl _ h12) he
  have hPre : PreV s H (zR (zo k')) (ad q) (va_Pc ((.ref q :: vs : List Value).map (zv ad)) (zIe D cI cJ ad adV M)) (vs.map (zv ad)) := ⟨zIe_blind, hrec, fun U hU hW => ⟨rfl, zIe_of I hU hW⟩⟩
  have fin : ∀ (r : Option Value) (M' : zMem) (H1 : Heap) (locs1 : List Loc), Q' r M' → zn M' = zn M + 0 → zw M' = zw M + 0 → zI D cI cJ ad adV M' s H1 locs1 → W p l e R s m args below meth c H1 locs1 (nn + 0) (ww + 0) Qm (F0 m (pc + 3) ls ((r.map (zv ad)).toList ++ rest)) := fun r M' H1 locs1 q1 q2 q3 q4 => kk r M' H1 locs1 q1 (by omega) (by omega) q4
  rcases hlk with hlk | ⟨host, hlk⟩
  · exact z_ran (va_runV (Ts := z_tbl) (C := zR (zo k')) ⟨C.1, C.2.1, C.2.2.1, C.2.2.2.1, C.2.2.2.2.1⟩ (hC D cI cJ ad adV) ⟨z_callB C hlk hM hR, C.2.2.2.2.1 _ hin, C.2.2.2.2.1 _ hse⟩ hPre rfl (by rw [List.length_map]; exact hn) hl.1 rfl (lv_room hc8) hd ⟨by omega, by omega⟩) I fin
  · exact z_ran (va_runVN (Ts := z_tbl) (C := zR (zo k')) ⟨C.1, C.2.1, C.2.2.1, C.2.2.2.1, C.2.2.2.2.1⟩ (hC D cI cJ ad adV) ⟨z_callN C (I.1.2.1 _ hlk) hM hR, C.2.2.2.2.1 _ hin, C.2.2.2.2.1 _ hse⟩ hPre rfl (by rw [List.length_map]; exact hn) hl.1 rfl (lv_room hc8) hd ⟨by omega, by omega⟩) I fin
theorem lw_callI {k' : zMeth} {Q' : Option Value → zMem → Prop} {ix pc q mc ms nn ww : Nat} {st : List Value} {lv : List (Nat × Value)} (C : zCtx p R s m args meth c (mLaw nm)) (I : zI D cI cJ ad adV M s H locs) (hl : lv_has ls 4 lv) (vs rest : List Value) (hl' : zMLI 12 ix k') (hC : zC l k' mc ms (.ref q :: vs) M Q') (hSt : st = (vs.map (zv ad)).reverse ++ .ref (ad q) :: rest) (hn : vs.length = zna k') (hR : zF k' + 1 ≤ 14 ∧ 8 + (zl k' + 11) + zLo k' ≤ 528) (hc8 : (rest.map fun v => v.category).sum ≤ 8) (hd : decode code pc = .ok (.invokespecial ix, 3)) (hnn : zn M = nn) (hww : zw M = ww) (hRr : nn + mc ≤ R.cells ∧ ww + ms ≤ R.slots)
    (kk : ∀ (r : Option Value) (M' : zMem) (H1 : Heap) (locs1 : List Loc), Q' r M' → zn M' = nn + mc → zw M' = ww + ms → zI D cI cJ ad adV M' s H1 locs1 → W p l e R s m args below meth c H1 locs1 (nn + mc) (ww + ms) Qm (F0 m (pc + 3) ls ((r.map (zv ad)).toList ++ rest))) : W p l e R s m args below meth c H locs nn ww Qm (F0 m pc ls st) := by
  subst hSt
  obtain ⟨hlk, hin, hy1, hret, hM⟩ := hl'
  have hPre : PreS s H (va_Pc ((.ref q :: vs : List Value).map (zv ad)) (zIe D cI cJ ad adV M)) (.ref (ad q) :: vs.map (zv ad)) := ⟨zIe_blind, fun U hU hW => ⟨rfl, zIe_of I hU hW⟩⟩
  have fin : ∀ (r : Option Value) (M' : zMem) (H1 : Heap) (locs1 : List Loc), Q' r M' → zn M' = zn M + mc → zw M' = zw M + ms → zI D cI cJ ad adV M' s H1 locs1 → W p l e R s m args below meth c H1 locs1 (nn + mc) (ww + ms) Qm (F0 m (pc + 3) ls ((r.map (zv ad)).toList ++ rest)) := fun r M' H1 locs1 q1 q2 q3 q4 => kk r M' H1 locs1 q1 (by omega) (by omega) q4
  rcases hlk with hlk | ⟨host, hlk⟩
  · have hB := z_callB (mc := mc) (ms := ms) C hlk hM hR
    rw [hret] at hB
    exact z_ran (va_runI (Ts := z_tbl) ⟨C.1, C.2.1, C.2.2.1, C.2.2.2.1, C.2.2.2.2.1⟩ (hC D cI cJ ad adV) ⟨hB, hy1, C.2.2.2.2.1 _ hin⟩ hPre rfl (by rw [List.length_map]; exact hn) hl.1 rfl (lv_room hc8) hd ⟨by omega, by omega⟩) I fin
  · have hB := z_callN (mc := mc) (ms := ms) C (I.1.2.1 _ hlk) hM hR
    rw [hret] at hB
    exact z_ran (va_runIN (Ts := z_tbl) ⟨C.1, C.2.1, C.2.2.1, C.2.2.2.1, C.2.2.2.2.1⟩ (hC D cI cJ ad adV) ⟨hB, hy1, C.2.2.2.2.1 _ hin⟩ hPre rfl (by rw [List.length_map]; exact hn) hl.1 rfl (lv_room hc8) hd ⟨by omega, by omega⟩) I fin
theorem lw_new {ix ci pc nn ww : Nat} {st : List Value} (C : zCtx p R s m args meth c (mLaw nm)) (I : zI D cI cJ ad adV M s H locs) (hci : ci < 12) (hcl : Cond.classLink (zR 12) ix (zR ci) ∈ z_tbl) (hdf : ∀ j, j < zN ci → defaultValue (zY ci j) = if zG ci j = 0 then .int 0 else if zG ci j = 1 then .long 0 else .null) (hd : decode code pc = .ok (.new ix, 3)) (hnn : zn M = nn) (hww : zw M = ww) (hm : nn < 1000000) (hRr : nn + 1 ≤ R.cells ∧ ww + zN ci ≤ R.slots)
    (kk : ∀ H', zI D cI cJ ad adV (zal M (ci + 3) (zN ci)) s H' locs → W p l e R s m args below meth c H' locs (nn + 1) (ww + zN ci) Qm (F0 m (pc + 3) ls (.ref (ad nn) :: st))) : W p l e R s m args below meth c H locs nn ww Qm (F0 m pc ls st) := by
  subst hnn hww
  have hb' : ad (zn M) = H.size := by rw [I.2.2.2.2.2.2.1 _ hm, I.2.2.2.2.1]
  have hsz : zsh (zal M (ci + 3) (zN ci)) (zn M) = (ci + 3, zN ci) := zal_sh
  have hKn := I.1.1.1 ci _ (z_cl ci hci)
  refine W.newcK C.1 C.2.1 C.2.2.2.1 (C.2.2.2.2.1 _ hcl) (C.2.2.2.2.1 _ (z_ia ci hci)) (C.2.2.2.2.1 _ (z_ini ci (by omega))) rfl hd (by omega) (by omega) hKn.2.1 rfl (fun H' kC hkC g1 g2 g3 => ?_)
  have hk := kk H' (zI_push I hm (by
      rw [zE_obj (by rw [hsz])]
      refine ⟨_, z_cl ci hci, (u_born (zY ci) C.2.2.2.2.1 (z_in ci hci) hKn hkC g1 (z_ty ci hci)).to (fun j hj => ?_)⟩
      rw [hdf j hj]
      show _ = (zFs ad _ _ ci).getD j .null
      rw [List.getD_eq_getElem?_getD, zFs_get hj]
      simp [zV, zi, zj, zf, zal, zn, va_rf]) g2 g3)
  rw [hb'] at hk
  exact hk
end LAW
