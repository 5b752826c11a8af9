/-! the law: its own rows over one start -/
def mLaw (nm : String) : zMeth := (⟨"TroupeSumsLaw", nm, "([I)Z"⟩, code, 4, ret, 12, 1, 14, 528)
section LAW
variable {p : Program} {l : Launch} {e : Env} {R : Room} {s : State} {m : MethodId} {args : Array Value} {below : List Frame} {meth : Method} {c : Code} {D : va_G} {cI cJ : ClassId} {ad adV : Nat → Nat} {nm : String} {H : Heap} {locs : List Loc} {ls : Array Slot} {M : zMem} {Qm : State → Prop}
theorem lw_callV {k' : zMeth} {Q' : Option Value → zMem → Prop} {ix pc q nn ww : Nat} {st : List Value} {lv : List (Nat × Value)} (C : zCtx p R s m args meth c (mLaw nm)) (I : zI D cI cJ ad adV M s H locs) (hl : lv_has ls 4 lv) (vs rest : List Value) (hl' : zMLV 12 ix k') (hC : zC l k' 0 0 (.ref q :: vs) M Q') (hSt : st = (vs.map (zv ad)).reverse ++ .ref (ad q) :: rest) (hn : vs.length = zna k') (hb : (zsh M q).1 = zo k' + 3) (h12 : zo k' < 12) (hR : zF k' + 1 ≤ 14 ∧ 8 + (zl k' + 11) + zLo k' ≤ 528) (hc8 : (rest.map fun v => v.category).sum ≤ 8) (hd : decode code pc = .ok (.invokevirtual ix, 3)) (hnn : zn M = nn) (hww : zw M = ww) (hRr : nn ≤ R.cells ∧ ww ≤ R.slots)
    (kk : ∀ (r : Option Value) (M' : zMem) (H1 : Heap) (locs1 : List Loc), Q' r M' → zn M' = nn → zw M' = ww → zI D cI cJ ad adV M' s H1 locs1 → W p l e R s m args below meth c H1 locs1 nn ww Qm (F0 m (pc + 3) ls ((r.map (zv ad)).toList ++ rest))) : W p l e R s m args below meth c H locs nn ww Qm (F0 m pc ls st) := by
  subst hSt
  obtain ⟨hlk, hin, hse, hM⟩ := hl'
  have hlt : q < zn M := zOK_lt I.2.2.2.2.2 (t := zo k' + 2) (by omega)
  have he : (zws cI cJ ad M)[q]? = some (ad q, .inr (zo k', zFs ad M q (zo k'))) := by rw [zws_get hlt, zE_obj hb]
  have hrec := va_recv I.1.1 I.2.2.1 (z_cl _ h12) he
  have hPre : PreV s H (zR (zo k')) (ad q) (va_Pc ((.ref q :: vs : List Value).map (zv ad)) (zIe D cI cJ ad adV M)) (vs.map (zv ad)) := ⟨zIe_blind, hrec, fun U hU hW => ⟨rfl, zIe_of I hU hW⟩⟩
  have fin : ∀ (r : Option Value) (M' : zMem) (H1 : Heap) (locs1 : List Loc), Q' r M' → zn M' = zn M + 0 → zw M' = zw M + 0 → zI D cI cJ ad adV M' s H1 locs1 → W p l e R s m args below meth c H1 locs1 (nn + 0) (ww + 0) Qm (F0 m (pc + 3) ls ((r.map (zv ad)).toList ++ rest)) := fun r M' H1 locs1 q1 q2 q3 q4 => kk r M' H1 locs1 q1 (by omega) (by omega) q4
  rcases hlk with hlk | ⟨host, hlk⟩
  · exact z_ran (va_runV (Ts := z_tbl) (C := zR (zo k')) ⟨C.1, C.2.1, C.2.2.1, C.2.2.2.1, C.2.2.2.2.1⟩ (hC D cI cJ ad adV) ⟨z_callB C hlk hM hR, C.2.2.2.2.1 _ hin, C.2.2.2.2.1 _ hse⟩ hPre rfl (by rw [List.length_map]; exact hn) hl.1 rfl (lv_room hc8) hd ⟨by omega, by omega⟩) I fin
  · exact z_ran (va_runVN (Ts := z_tbl) (C := zR (zo k')) ⟨C.1, C.2.1, C.2.2.1, C.2.2.2.1, C.2.2.2.2.1⟩ (hC D cI cJ ad adV) ⟨z_callN C (I.1.2.1 _ hlk) hM hR, C.2.2.2.2.1 _ hin, C.2.2.2.2.1 _ hse⟩ hPre rfl (by rw [List.length_map]; exact hn) hl.1 rfl (lv_room hc8) hd ⟨by omega, by omega⟩) I fin
theorem lw_callI {k' : zMeth} {Q' : Option Value → zMem → Prop} {ix pc q mc ms nn ww : Nat} {st : List Value} {lv : List (Nat × Value)} (C : zCtx p R s m args meth c (mLaw nm)) (I : zI D cI cJ ad adV M s H locs) (hl : lv_has ls 4 lv) (vs rest : List Value) (hl' : zMLI 12 ix k') (hC : zC l k' mc ms (.ref q :: vs) M Q') (hSt : st = (vs.map (zv ad)).reverse ++ .ref (ad q) :: rest) (hn : vs.length = zna k') (hR : zF k' + 1 ≤ 14 ∧ 8 + (zl k' + 11) + zLo k' ≤ 528) (hc8 : (rest.map fun v => v.category).sum ≤ 8) (hd : decode code pc = .ok (.invokespecial ix, 3)) (hnn : zn M = nn) (hww : zw M = ww) (hRr : nn + mc ≤ R.cells ∧ ww + ms ≤ R.slots)
    (kk : ∀ (r : Option Value) (M' : zMem) (H1 : Heap) (locs1 : List Loc), Q' r M' → zn M' = nn + mc → zw M' = ww + ms → zI D cI cJ ad adV M' s H1 locs1 → W p l e R s m args below meth c H1 locs1 (nn + mc) (ww + ms) Qm (F0 m (pc + 3) ls ((r.map (zv ad)).toList ++ rest))) : W p l e R s m args below meth c H locs nn ww Qm (F0 m pc ls st) := by
  subst hSt
  obtain ⟨hlk, hin, hy1, hret, hM⟩ := hl'
  have hPre : PreS s H (va_Pc ((.ref q :: vs : List Value).map (zv ad)) (zIe D cI cJ ad adV M)) (.ref (ad q) :: vs.map (zv ad)) := ⟨zIe_blind, fun U hU hW => ⟨rfl, zIe_of I hU hW⟩⟩
  have fin : ∀ (r : Option Value) (M' : zMem) (H1 : Heap) (locs1 : List Loc), Q' r M' → zn M' = zn M + mc → zw M' = zw M + ms → zI D cI cJ ad adV M' s H1 locs1 → W p l e R s m args below meth c H1 locs1 (nn + mc) (ww + ms) Qm (F0 m (pc + 3) ls ((r.map (zv ad)).toList ++ rest)) := fun r M' H1 locs1 q1 q2 q3 q4 => kk r M' H1 locs1 q1 (by omega) (by omega) q4
  rcases hlk with hlk | ⟨host, hlk⟩
  · have hB := z_callB (mc := mc) (ms := ms) C hlk hM hR
    rw [hret] at hB
    exact z_ran (va_runI (Ts := z_tbl) ⟨C.1, C.2.1, C.2.2.1, C.2.2.2.1, C.2.2.2.2.1⟩ (hC D cI cJ ad adV) ⟨hB, hy1, C.2.2.2.2.1 _ hin⟩ hPre rfl (by rw [List.length_map]; exact hn) hl.1 rfl (lv_room hc8) hd ⟨by omega, by omega⟩) I fin
  · have hB := z_callN (mc := mc) (ms := ms) C (I.1.2.1 _ hlk) hM hR
    rw [hret] at hB
    exact z_ran (va_runIN (Ts := z_tbl) ⟨C.1, C.2.1, C.2.2.1, C.2.2.2.1, C.2.2.2.2.1⟩ (hC D cI cJ ad adV) ⟨hB, hy1, C.2.2.2.2.1 _ hin⟩ hPre rfl (by rw [List.length_map]; exact hn) hl.1 rfl (lv_room hc8) hd ⟨by omega, by omega⟩) I fin
theorem lw_new {ix ci pc nn ww : Nat} {st : List Value} (C : zCtx p R s m args meth c (mLaw nm)) (I : zI D cI cJ ad adV M s H locs) (hci : ci < 12) (hcl : Cond.classLink (zR 12) ix (zR ci) ∈ z_tbl) (hdf : ∀ j, j < zN ci → defaultValue (zY ci j) = if zG ci j = 0 then .int 0 else if zG ci j = 1 then .long 0 else .null) (hd : decode code pc = .ok (.new ix, 3)) (hnn : zn M = nn) (hww : zw M = ww) (hm : nn < 1000000) (hRr : nn + 1 ≤ R.cells ∧ ww + zN ci ≤ R.slots)
    (kk : ∀ H', zI D cI cJ ad adV (zal M (ci + 3) (zN ci)) s H' locs → W p l e R s m args below meth c H' locs (nn + 1) (ww + zN ci) Qm (F0 m (pc + 3) ls (.ref (ad nn) :: st))) : W p l e R s m args below meth c H locs nn ww Qm (F0 m pc ls st) := by
  subst hnn hww
  have hb' : ad (zn M) = H.size := by rw [I.2.2.2.2.2.2.1 _ hm, I.2.2.2.2.1]
  have hsz : zsh (zal M (ci + 3) (zN ci)) (zn M) = (ci + 3, zN ci) := zal_sh
  have hKn := I.1.1.1 ci _ (z_cl ci hci)
  refine W.newcK C.1 C.2.1 C.2.2.2.1 (C.2.2.2.2.1 _ hcl) (C.2.2.2.2.1 _ (z_ia ci hci)) (C.2.2.2.2.1 _ (z_ini ci (by omega))) rfl hd (by omega) (by omega) hKn.2.1 rfl (fun H' kC hkC g1 g2 g3 => ?_)
  have hk := kk H' (zI_push I hm (by
      rw [zE_obj (by rw [hsz])]
      refine ⟨_, z_cl ci hci, (u_born (zY ci) C.2.2.2.2.1 (z_in ci hci) hKn hkC g1 (z_ty ci hci)).to (fun j hj => ?_)⟩
      rw [hdf j hj]
      show _ = (zFs ad _ _ ci).getD j .null
      rw [List.getD_eq_getElem?_getD, zFs_get hj]
      simp [zV, zi, zj, zf, zal, zn, va_rf]) g2 g3)
  rw [hb'] at hk
  exact hk
end LAW
/-! the world of the law -/
def zLb (a d : Int32) (M : zMem) : Prop := zn M = 114 ∧ zw M = 84410 ∧ zTy 81 M ∧ (zsh M 0).1 = 3 ∧ (zsh M 1).1 = 4 ∧ zf M 0 0 = some 1 ∧ zMt M ∧ zWd M ∧ zi M 1 1 = a ∧ zi M 81 1 = d
theorem zLb.ref {a d : Int32} {M N : zMem} {k : Int} (h : zLb a d M) (hg : zGo M N k) : zLb a (Int32.ofInt k) N := by
  obtain ⟨h1, h2, h3, h4, h5, h6, h7, h8, h9, h10⟩ := h
  obtain ⟨⟨o1, o2, o3, o4⟩, g2, g3, g4⟩ := hg
  refine ⟨by unfold zn at h1 ⊢; rw [o1]; exact h1, by unfold zw at h2 ⊢; rw [o1]; exact h2, ?_, by rw [o2]; exact h4, by rw [o2]; exact h5, by rw [o3]; exact h6, g2, g3, by rw [(o4 1 (by omega)).1]; exact h9, by rw [← g4, ze_of]⟩
  unfold zTy
  rw [o2, o3]
  exact h3
/-- the class's calls leave the reference's cells alone -/
theorem zLb.out {a d : Int32} {M N : zMem} (h : zLb a d M) (h1 : N.1 = M.1) (h2 : zsh N = zsh M) (h3 : ∀ r, 81 ≤ r → zi N r = zi M r ∧ zj N r = zj M r ∧ zf N r = zf M r) (hT : zTy 81 N) (hf : zf N 0 0 = some 1) : zLb (zi N 1 1) d N := by
  obtain ⟨g1, g2, -, g4, g5, -, g7, g8, -, g10⟩ := h
  have hfr : zFr [] (List.range 81) M (N.1, N.2.1, N.2.2.1, N.2.2.2.1, M.2.2.2.2) := by
    refine ⟨h1, h2, rfl, fun q hq hc => ?_, fun j _ => ?_⟩
    · have h81 : 81 ≤ q := by
        rcases Nat.lt_or_ge q 81 with g | g
        · exact absurd (List.mem_range.mpr g) hc
        · exact g
      exact ⟨(h3 q h81).1, (h3 q h81).2.1⟩
    · exact ⟨congrFun (h3 81 (by omega)).1 j, congrFun (h3 81 (by omega)).2.1 j⟩
  have hw : zWd (N.1, N.2.1, N.2.2.1, N.2.2.2.1, M.2.2.2.2) := zWd.b g8 hfr (by decide) (by decide) (by rw [hfr.e (by decide)]; exact g8.1) (by rw [hfr.e (by decide)]; exact g8.2.2.2.1) (by rw [hfr.e (by decide)]; exact g8.2.2.2.2.1) (zB.fr hfr g8.2.2.2.2.2.2.2.1 (by decide) (by decide))
  have hm : zMt N := by
    obtain ⟨m1, m2, m3⟩ := g7
    refine ⟨by unfold zn at m1 ⊢; rw [h1]; exact m1, by rw [h2]; exact m2, fun x hx => ?_⟩
    rw [h2, (h3 81 (by omega)).2.2]
    exact m3 x hx
  exact ⟨by unfold zn at g1 ⊢; rw [h1]; exact g1, by unfold zw at g2 ⊢; rw [h1]; exact g2, hT, by rw [h2]; exact g4, by rw [h2]; exact g5, hf, hm, hw, rfl, by rw [(h3 81 (by omega)).1]; exact g10⟩
theorem zLb.mod {a d : Int32} {M N : zMem} {S : List (Nat × Nat)} (h : zLb a d M) (hm : zMod 81 S M N) : zLb (zi N 1 1) d N := by
  obtain ⟨m1, m2, m3, m4, m5⟩ := id hm
  exact h.out m1 m2 (fun r hr => ⟨(m4 r hr).1, (m4 r hr).2, by rw [m3]⟩) (h.2.2.1.mod hm) (by rw [m3]; exact h.2.2.2.2.2.1)
theorem zLb.cls {a d : Int32} {M N : zMem} {S : List (Nat × Nat)} (h : zLb a d M) (hm : zMod 81 S M N) (hS : (1, 1) ∉ S) : zLb a d N := by
  have h2 := h.mod hm
  rwa [hm.2.2.2.2 1 1 1 h.2.2.2.2.1 hS, h.2.2.2.2.2.2.2.2.1] at h2
theorem zLb.zT {a d : Int32} {M N : zMem} {r : Option Value} (h : zLb a d M) (hq : zqT 81 M 0 r N) : (∃ v : Int32, r = some (.int v)) ∧ zLb 0 d N := by
  obtain ⟨q1, q2, q3, q4, q5, q6⟩ := hq
  obtain ⟨f1, f2⟩ := q5 1 h.2.2.2.2.2.1
  have h2 := h.out q2 q3 q4 q1 f1
  rw [f2] at h2
  exact ⟨q6, h2⟩
theorem zLb.c0 {a d : Int32} {M : zMem} (h : zLb a d M) : zTy 81 M ∧ 0 < 81 ∧ (zsh M 0).1 = 0 + 3 := ⟨h.2.2.1, by decide, h.2.2.2.1⟩
theorem zLb_e {a d : Int32} {M : zMem} (h : zLb a d M) : ze M 81 1 = d.toInt := congrArg Int32.toInt h.2.2.2.2.2.2.2.2.2
