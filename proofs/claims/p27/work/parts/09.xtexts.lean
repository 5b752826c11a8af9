section ZTR
variable {l : Launch} {k : zMeth} {X : Nat × Nat} {M : zMem} {pc : Nat} {L : List (Option Value)} {S : List Value} {Q : Option Value → zMem → Prop}
theorem zt_cs (hlk : Cond.fieldLink (zR (zo k)) 38 "java/lang/String" "COMPACT_STRINGS" "Z" ∈ z_tbl) (hd : decode (zb k) pc = .ok (.getstatic 38, 3)) (kk : zW l k X M (pc + 3) L (.int 1 :: S) Q) : zW l k X M pc L S Q := by
  intro p e R s m args below meth c D cI cJ ad adV n0 w0 H locs ls Qm C I hl hc hf
  exact va_gets C.1 C.2.1 I.1.2.2.2.2.1 I.2.2.2.1 C.2.2.2.1 (C.2.2.2.2.1 _ hlk) (fun x hx => hx) hd (kk p e R s m args below meth c D cI cJ ad adV n0 w0 H locs ls Qm C I hl hc hf)
theorem zt_sf {ix : Nat} (hlk : Cond.fieldLink (zR (zo k)) ix "jdk/internal/util/Preconditions" "SIOOBE_FORMATTER" "Ljava/util/function/BiFunction;" ∈ z_tbl) (hd : decode (zb k) pc = .ok (.getstatic ix, 3)) (kk : ∀ v, v = .null ∨ v = .ref (zK 100) → zW l k X M (pc + 3) L (v :: S) Q) : zW l k X M pc L S Q := by
  intro p e R s m args below meth c D cI cJ ad adV n0 w0 H locs ls Qm C I hl hc hf
  rcases I.1.2.2.2.2.2 with h | h
  · exact va_gets C.1 C.2.1 h I.2.2.2.1 C.2.2.2.1 (C.2.2.2.2.1 _ hlk) (fun x hx => hx) hd (kk .null (Or.inl rfl) p e R s m args below meth c D cI cJ ad adV n0 w0 H locs ls Qm C I hl hc hf)
  · exact va_gets C.1 C.2.1 h I.2.2.2.1 C.2.2.2.1 (C.2.2.2.2.1 _ hlk) (fun x hx => hx) hd (kk (.ref (zK 100)) (Or.inr rfl) p e R s m args below meth c D cI cJ ad adV n0 w0 H locs ls Qm C I hl hc hf)
theorem zt_val {ix i : Nat} (hi : i < zsN) (hlk : Cond.fieldLink (zR (zo k)) ix "java/lang/String" "value" "[B" ∈ z_tbl) (hd : decode (zb k) pc = .ok (.getfield ix, 3)) (kk : zW l k X M (pc + 3) L (.ref (zK (200 + i)) :: S) Q) : zW l k X M pc L (.ref (zK i) :: S) Q := by
  intro p e R s m args below meth c D cI cJ ad adV n0 w0 H locs ls Qm C I hl hc hf
  exact vk_getf C.1 C.2.1 (I.1.2.2.2.1.1 i hi).2.2.1 I.2.2.2.1 C.2.2.2.1 (C.2.2.2.2.1 _ hlk) (fun x hx => hx) hd (kk p e R s m args below meth c D cI cJ ad adV n0 w0 H locs ls Qm C I hl hc hf)
theorem zt_co {ix i : Nat} (hi : i < zsN) (hlk : Cond.fieldLink (zR (zo k)) ix "java/lang/String" "coder" "B" ∈ z_tbl) (hd : decode (zb k) pc = .ok (.getfield ix, 3)) (kk : zW l k X M (pc + 3) L (.int 0 :: S) Q) : zW l k X M pc L (.ref (zK i) :: S) Q := by
  intro p e R s m args below meth c D cI cJ ad adV n0 w0 H locs ls Qm C I hl hc hf
  exact vk_getf C.1 C.2.1 (I.1.2.2.2.1.1 i hi).2.1 I.2.2.2.1 C.2.2.2.1 (C.2.2.2.2.1 _ hlk) (fun x hx => hx) hd (kk p e R s m args below meth c D cI cJ ad adV n0 w0 H locs ls Qm C I hl hc hf)
theorem zt_len {i : Nat} (hi : i < zsN) (hd : decode (zb k) pc = .ok (.arraylength, 1)) (kk : zW l k X M (pc + 1) L (.int (nI (zsL.getD i 0)) :: S) Q) : zW l k X M pc L (.ref (zK (200 + i)) :: S) Q := by
  intro p e R s m args below meth c D cI cJ ad adV n0 w0 H locs ls Qm C I hl hc hf
  obtain ⟨cell, h1, h2, h3, h4, h5, h6, h7⟩ := (I.1.2.2.2.1.1 i hi).2.2.2
  have hcell : H[ad (zK (200 + i))]? = some cell := by rw [I.2.2.2.1.2.1 _ (Array.getElem?_eq_some_iff.mp h1).1 h7]; exact h1
  exact W.alen (n := nI (zsL.getD i 0)) C.1 C.2.1 hcell h2 h5 rfl rfl hd (kk p e R s m args below meth c D cI cJ ad adV n0 w0 H locs ls Qm C I hl hc hf)
theorem zt_bald {i : Nat} {x : Int32} (hi : i < zsN) (hin : vp_in x (zsL.getD i 0)) (hd : decode (zb k) pc = .ok (.baload, 1)) (kk : zW l k X M (pc + 1) L (.int ((zsB.getD i []).getD x.toNatClampNeg 0) :: S) Q) : zW l k X M pc L (.int x :: .ref (zK (200 + i)) :: S) Q := by
  intro p e R s m args below meth c D cI cJ ad adV n0 w0 H locs ls Qm C I hl hc hf
  exact va_tb C.1 C.2.1 (I.1.2.2.2.1.1 i hi).2.2.2 I.2.2.2.1 hin rfl hd (kk p e R s m args below meth c D cI cJ ad adV n0 w0 H locs ls Qm C I hl hc hf)
theorem zt_i2c {x : Int32} (hd : decode (zb k) pc = .ok (.i2c, 1)) (kk : zW l k X M (pc + 1) L (.int (x.toUInt32 % 65536).toInt32 :: S) Q) : zW l k X M pc L (.int x :: S) Q := by
  intro p e R s m args below meth c D cI cJ ad adV n0 w0 H locs ls Qm C I hl hc hf
  exact lv_i2c C.1 C.2.1 hd rfl (kk p e R s m args below meth c D cI cJ ad adV n0 w0 H locs ls Qm C I hl hc hf)
end ZTR
section ZT
variable {l : Launch} {k : zMeth} {B : Nat} {Sm : List (Nat × Nat)} {M0 M : zMem} {pc : Nat} {L : List (Option Value)} {S : List Value} {Q : Option Value → zMem → Prop}
theorem zw_callT {k' : zMeth} {X : Nat × Nat} {Q' : Option Value → zMem → Prop} {ix i : Nat} (vs rest : List Value) (hl' : zMLV (zo k) ix k') (hC : zC l k' 0 0 (.ref (zK i) :: vs) M Q') (hS : S = vs.reverse ++ .ref (zK i) :: rest) (hn : vs.length = zna k') (hi : i < zsN) (h15 : zo k' = 15) (hR : zF k' + 1 ≤ zF k ∧ 8 + (zl k' + 11) + zLo k' ≤ zLo k) (hc8 : (rest.map fun v => v.category).sum ≤ 8) (hd : decode (zb k) pc = .ok (.invokevirtual ix, 3))
    (kk : ∀ (r : Option Value) (M' : zMem), Q' r M' → zn M' = zn M + 0 → zw M' = zw M + 0 → zW l k X M' (pc + 3) L (r.toList ++ rest) Q) : zW l k X M pc L S Q := by
  intro p e R s m args below meth c D cI cJ ad adV n0 w0 H locs ls Qm C I hl hc hf
  subst hS
  obtain ⟨hlk, hin, hse, hM⟩ := hl'
  have hrec : ∃ cell : Cell, H[ad (zK i)]? = some cell ∧ cell.vm.isStatics = false ∧ s.vm.findClass (zR (zo k')) = some cell.cls := by
    rw [h15]
    exact vk_recv (adK := fun i => ad (zK i)) (i := i) I.1.2.2.2.1 hi I.2.2.2.1
  have hPre : PreV s H (zR (zo k')) (ad (zK i)) (va_Pc ((.ref (zK i) :: vs : List Value).map (zv ad)) (zIe D cI cJ ad adV M)) (vs.map (zv ad)) := ⟨zIe_blind, hrec, fun U hU hW => ⟨rfl, zIe_of I hU hW⟩⟩
  have fin : ∀ (r : Option Value) (M' : zMem) (H1 : Heap) (locs1 : List Loc), Q' r M' → zn M' = zn M + 0 → zw M' = zw M + 0 → zI D cI cJ ad adV M' s H1 locs1 → W p l e R s m args below meth c H1 locs1 (zn M - n0 + 0) (zw M - w0 + 0) Qm (F0 m (pc + 3) ls ((r.map (zv ad)).toList ++ rest.map (zv ad))) := by
    intro r M' H1 locs1 q1 q2 q3 q4
    have hk := kk r M' q1 q2 q3 p e R s m args below meth c D cI cJ ad adV n0 w0 H1 locs1 ls Qm C q4 hl (by omega) (fun r M' H' locs' pc' ls' b1 b2 b3 b4 => hf r M' H' locs' pc' ls' b1 b2 b3 (by omega))
    rw [z_top, show zn M - n0 + 0 = zn M' - n0 by omega, show zw M - w0 + 0 = zw M' - w0 by omega]
    exact hk
  rw [z_stk]
  rcases hlk with hlk | ⟨host, hlk⟩
  · exact z_ran (va_runV (Ts := z_tbl) (C := zR (zo k')) ⟨C.1, C.2.1, C.2.2.1, C.2.2.2.1, C.2.2.2.2.1⟩ (hC D cI cJ ad adV) ⟨z_callB C hlk hM hR, C.2.2.2.2.1 _ hin, C.2.2.2.2.1 _ hse⟩ hPre rfl (by rw [List.length_map]; exact hn) hl.1 rfl (lv_room (by rw [zv_cats]; exact hc8)) hd ⟨by omega, by omega⟩) I fin
  · exact z_ran (va_runVN (Ts := z_tbl) (C := zR (zo k')) ⟨C.1, C.2.1, C.2.2.1, C.2.2.2.1, C.2.2.2.2.1⟩ (hC D cI cJ ad adV) ⟨z_callN C (I.1.2.1 _ hlk) hM hR, C.2.2.2.2.1 _ hin, C.2.2.2.2.1 _ hse⟩ hPre rfl (by rw [List.length_map]; exact hn) hl.1 rfl (lv_room (by rw [zv_cats]; exact hc8)) hd ⟨by omega, by omega⟩) I fin
end ZT
theorem d_String_length_0 : decode (zb m_String_length) 0 = .ok (.aload_n 0, 1) := by decide +kernel
theorem d_String_length_1 : decode (zb m_String_length) 1 = .ok (.getfield 9, 3) := by decide +kernel
theorem d_String_length_4 : decode (zb m_String_length) 4 = .ok (.arraylength, 1) := by decide +kernel
theorem d_String_length_5 : decode (zb m_String_length) 5 = .ok (.aload_n 0, 1) := by decide +kernel
theorem d_String_length_6 : decode (zb m_String_length) 6 = .ok (.invokevirtual 335, 3) := by decide +kernel
theorem d_String_length_9 : decode (zb m_String_length) 9 = .ok (.ishr, 1) := by decide +kernel
theorem d_String_length_10 : decode (zb m_String_length) 10 = .ok (.ireturn, 1) := by decide +kernel
theorem d_String_coder_0 : decode (zb m_String_coder) 0 = .ok (.getstatic 38, 3) := by decide +kernel
theorem d_String_coder_3 : decode (zb m_String_coder) 3 = .ok (.ifCond .eq 10, 3) := by decide +kernel
theorem d_String_coder_6 : decode (zb m_String_coder) 6 = .ok (.aload_n 0, 1) := by decide +kernel
theorem d_String_coder_7 : decode (zb m_String_coder) 7 = .ok (.getfield 15, 3) := by decide +kernel
theorem d_String_coder_10 : decode (zb m_String_coder) 10 = .ok (.goto 4, 3) := by decide +kernel
theorem d_String_coder_14 : decode (zb m_String_coder) 14 = .ok (.ireturn, 1) := by decide +kernel
theorem d_String_charAt_0 : decode (zb m_String_charAt) 0 = .ok (.aload_n 0, 1) := by decide +kernel
theorem d_String_charAt_1 : decode (zb m_String_charAt) 1 = .ok (.invokevirtual 492, 3) := by decide +kernel
theorem d_String_charAt_4 : decode (zb m_String_charAt) 4 = .ok (.ifCond .eq 12, 3) := by decide +kernel
theorem d_String_charAt_7 : decode (zb m_String_charAt) 7 = .ok (.aload_n 0, 1) := by decide +kernel
theorem d_String_charAt_8 : decode (zb m_String_charAt) 8 = .ok (.getfield 9, 3) := by decide +kernel
theorem d_String_charAt_11 : decode (zb m_String_charAt) 11 = .ok (.iload_n 1, 1) := by decide +kernel
theorem d_String_charAt_12 : decode (zb m_String_charAt) 12 = .ok (.invokestatic 495, 3) := by decide +kernel
theorem d_String_charAt_15 : decode (zb m_String_charAt) 15 = .ok (.ireturn, 1) := by decide +kernel
theorem d_String_isLatin1_0 : decode (zb m_String_isLatin1) 0 = .ok (.getstatic 38, 3) := by decide +kernel
theorem d_String_isLatin1_3 : decode (zb m_String_isLatin1) 3 = .ok (.ifCond .eq 14, 3) := by decide +kernel
theorem d_String_isLatin1_6 : decode (zb m_String_isLatin1) 6 = .ok (.aload_n 0, 1) := by decide +kernel
theorem d_String_isLatin1_7 : decode (zb m_String_isLatin1) 7 = .ok (.getfield 15, 3) := by decide +kernel
theorem d_String_isLatin1_10 : decode (zb m_String_isLatin1) 10 = .ok (.ifCond .ne 7, 3) := by decide +kernel
theorem d_String_isLatin1_13 : decode (zb m_String_isLatin1) 13 = .ok (.iconst 1, 1) := by decide +kernel
theorem d_String_isLatin1_14 : decode (zb m_String_isLatin1) 14 = .ok (.goto 4, 3) := by decide +kernel
theorem d_String_isLatin1_18 : decode (zb m_String_isLatin1) 18 = .ok (.ireturn, 1) := by decide +kernel
theorem d_String_checkIndex_0 : decode (zb m_String_checkIndex) 0 = .ok (.iload_n 0, 1) := by decide +kernel
theorem d_String_checkIndex_1 : decode (zb m_String_checkIndex) 1 = .ok (.iload_n 1, 1) := by decide +kernel
theorem d_String_checkIndex_2 : decode (zb m_String_checkIndex) 2 = .ok (.getstatic 1053, 3) := by decide +kernel
theorem d_String_checkIndex_5 : decode (zb m_String_checkIndex) 5 = .ok (.invokestatic 1059, 3) := by decide +kernel
theorem d_String_checkIndex_8 : decode (zb m_String_checkIndex) 8 = .ok (.pop, 1) := by decide +kernel
theorem d_String_checkIndex_9 : decode (zb m_String_checkIndex) 9 = .ok (.return_, 1) := by decide +kernel
theorem d_StringLatin1_charAt_0 : decode (zb m_StringLatin1_charAt) 0 = .ok (.iload_n 1, 1) := by decide +kernel
theorem d_StringLatin1_charAt_1 : decode (zb m_StringLatin1_charAt) 1 = .ok (.aload_n 0, 1) := by decide +kernel
theorem d_StringLatin1_charAt_2 : decode (zb m_StringLatin1_charAt) 2 = .ok (.arraylength, 1) := by decide +kernel
theorem d_StringLatin1_charAt_3 : decode (zb m_StringLatin1_charAt) 3 = .ok (.invokestatic 9, 3) := by decide +kernel
theorem d_StringLatin1_charAt_6 : decode (zb m_StringLatin1_charAt) 6 = .ok (.aload_n 0, 1) := by decide +kernel
theorem d_StringLatin1_charAt_7 : decode (zb m_StringLatin1_charAt) 7 = .ok (.iload_n 1, 1) := by decide +kernel
theorem d_StringLatin1_charAt_8 : decode (zb m_StringLatin1_charAt) 8 = .ok (.baload, 1) := by decide +kernel
theorem d_StringLatin1_charAt_9 : decode (zb m_StringLatin1_charAt) 9 = .ok (.sipush 255, 3) := by decide +kernel
theorem d_StringLatin1_charAt_12 : decode (zb m_StringLatin1_charAt) 12 = .ok (.iand, 1) := by decide +kernel
theorem d_StringLatin1_charAt_13 : decode (zb m_StringLatin1_charAt) 13 = .ok (.i2c, 1) := by decide +kernel
theorem d_StringLatin1_charAt_14 : decode (zb m_StringLatin1_charAt) 14 = .ok (.ireturn, 1) := by decide +kernel
theorem d_Precond_checkIndex_0 : decode (zb m_Precond_checkIndex) 0 = .ok (.iload_n 0, 1) := by decide +kernel
theorem d_Precond_checkIndex_1 : decode (zb m_Precond_checkIndex) 1 = .ok (.ifCond .lt 8, 3) := by decide +kernel
theorem d_Precond_checkIndex_4 : decode (zb m_Precond_checkIndex) 4 = .ok (.iload_n 0, 1) := by decide +kernel
theorem d_Precond_checkIndex_5 : decode (zb m_Precond_checkIndex) 5 = .ok (.iload_n 1, 1) := by decide +kernel
theorem d_Precond_checkIndex_6 : decode (zb m_Precond_checkIndex) 6 = .ok (.if_icmp .lt 10, 3) := by decide +kernel
theorem d_Precond_checkIndex_16 : decode (zb m_Precond_checkIndex) 16 = .ok (.iload_n 0, 1) := by decide +kernel
theorem d_Precond_checkIndex_17 : decode (zb m_Precond_checkIndex) 17 = .ok (.ireturn, 1) := by decide +kernel
theorem y_9 : Cond.fieldLink (zR 15) 9 "java/lang/String" "value" "[B" ∈ z_tbl := z_mem (zt_9 (List.mem_of_getElem? (i := 30) (by decide +kernel))) rfl
theorem y_15 : Cond.fieldLink (zR 15) 15 "java/lang/String" "coder" "B" ∈ z_tbl := z_mem (zt_9 (List.mem_of_getElem? (i := 31) (by decide +kernel))) rfl
theorem y_38 : Cond.fieldLink (zR 15) 38 "java/lang/String" "COMPACT_STRINGS" "Z" ∈ z_tbl := z_mem (zt_3 (List.mem_of_getElem? (i := 42) (by decide +kernel))) rfl
theorem y_1053 : Cond.fieldLink (zR 15) 1053 "jdk/internal/util/Preconditions" "SIOOBE_FORMATTER" "Ljava/util/function/BiFunction;" ∈ z_tbl := z_mem (zt_3 (List.mem_of_getElem? (i := 58) (by decide +kernel))) rfl

theorem c_Precond_checkIndex (l : Launch) (M : zMem) (x n : Int32) (v : Value) (hv : v = .null ∨ v = .ref (zK 100)) (h1 : ¬ x < 0) (h2 : x < n) : zC l m_Precond_checkIndex 0 0 [.int x, .int n, v] M (fun r M' => M' = M ∧ r = some (.int x)) := by
  have go : ∀ L0 : List (Option Value), L0 = [some (.int x), some (.int n), some v] → zW l m_Precond_checkIndex (zn M + 0, zw M + 0) M 0 L0 [] (fun r M' => M' = M ∧ r = some (.int x)) := by
    rintro L0 rfl
    refine zw_iload_n (pc := 0) (n := 0) (x := x) rfl d_Precond_checkIndex_0 ?_
    refine zw_if_lt (pc := 1) (tgt := 9) (by decide) d_Precond_checkIndex_1 (fun hc => absurd hc h1) (fun _ => ?_)
    refine zw_iload_n (pc := 4) (n := 0) (x := x) rfl d_Precond_checkIndex_4 ?_
    refine zw_iload_n (pc := 5) (n := 1) (x := n) rfl d_Precond_checkIndex_5 ?_
    refine zw_icmp_lt (pc := 6) (tgt := 16) (by decide) d_Precond_checkIndex_6 (fun _ => ?_) (fun hc => absurd h2 hc)
    refine zw_iload_n (pc := 16) (n := 0) (x := x) rfl d_Precond_checkIndex_16 ?_
    exact zw_iret (S := []) (pc := 17) (ty := .int) rfl rfl d_Precond_checkIndex_17 ⟨rfl, rfl⟩
  rcases hv with rfl | rfl
  · exact zC_of md_Precond_checkIndex (Nat.le_of_ble_eq_true rfl) rfl (go _ rfl) zQ0
  · exact zC_of md_Precond_checkIndex (Nat.le_of_ble_eq_true rfl) rfl (go _ rfl) zQ0
theorem c_String_checkIndex (l : Launch) (M : zMem) (x n : Int32) (h1 : ¬ x < 0) (h2 : x < n) : zC l m_String_checkIndex 0 0 [.int x, .int n] M (fun r M' => M' = M ∧ r = none) := by
  refine zC_of (L0 := [some (.int x), some (.int n)]) md_String_checkIndex (Nat.le_of_ble_eq_true rfl) rfl ?_ zQ0
  refine zw_iload_n (pc := 0) (n := 0) (x := x) rfl d_String_checkIndex_0 ?_
  refine zw_iload_n (pc := 1) (n := 1) (x := n) rfl d_String_checkIndex_1 ?_
  refine zt_sf (pc := 2) y_1053 d_String_checkIndex_2 (fun v hv => ?_)
  refine zw_callS (pc := 5) [.int x, .int n, v] [] l_String_1059 (c_Precond_checkIndex l M x n v hv h1 h2) rfl rfl (by decide) ⟨Nat.le_refl _, Nat.le_refl _⟩ (Nat.le_of_ble_eq_true rfl) d_String_checkIndex_5 (fun r M' h _ _ => ?_)
  obtain ⟨rfl, rfl⟩ := h
  refine zw_pop (pc := 8) (va := .int x) (S := []) rfl d_String_checkIndex_8 ?_
  exact zw_vret (S := []) (pc := 9) rfl d_String_checkIndex_9 ⟨rfl, rfl⟩
def ztc (i : Nat) (x : Int32) : Int32 := ((((zsB.getD i []).getD x.toNatClampNeg 0) &&& 255).toUInt32 % 65536).toInt32
theorem z_vinn {x : Int32} {n : Nat} (h : vp_in x n) (hn : n ≤ 1000000) : ¬ x < 0 ∧ x < nI n := by
  have h2 := vp_in_iff.mp h
  constructor
  · intro z
    have := Int32.lt_iff_toInt_lt.mp z
    simp at this
    omega
  · rw [Int32.lt_iff_toInt_lt, nI_toInt (by omega)]
    exact h2.2
theorem c_StringLatin1_charAt (l : Launch) (M : zMem) (i : Nat) (hi : i < zsN) (x : Int32) (hx : vp_in x (zsL.getD i 0)) : zC l m_StringLatin1_charAt 0 0 [.ref (zK (200 + i)), .int x] M (fun r M' => M' = M ∧ r = some (.int (ztc i x))) := by
  refine zC_of (L0 := [some (.ref (zK (200 + i))), some (.int x)]) md_StringLatin1_charAt (Nat.le_of_ble_eq_true rfl) rfl ?_ zQ0
  have hxx := z_vinn hx (zsL_le i)
  refine zw_iload_n (pc := 0) (n := 1) (x := x) rfl d_StringLatin1_charAt_0 ?_
  refine zw_aload_n (pc := 1) (n := 0) (x := zK (200 + i)) rfl d_StringLatin1_charAt_1 ?_
  refine zt_len (pc := 2) hi d_StringLatin1_charAt_2 ?_
  refine zw_callS (pc := 3) [.int x, .int (nI (zsL.getD i 0))] [] l_StringLatin1_9 (c_String_checkIndex l M x _ hxx.1 hxx.2) rfl rfl (by decide) ⟨Nat.le_refl _, Nat.le_refl _⟩ (Nat.le_of_ble_eq_true rfl) d_StringLatin1_charAt_3 (fun r M' h _ _ => ?_)
  obtain ⟨rfl, rfl⟩ := h
  refine zw_aload_n (pc := 6) (n := 0) (x := zK (200 + i)) rfl d_StringLatin1_charAt_6 ?_
  refine zw_iload_n (pc := 7) (n := 1) (x := x) rfl d_StringLatin1_charAt_7 ?_
  refine zt_bald (pc := 8) hi hx d_StringLatin1_charAt_8 ?_
  refine zw_sipush (pc := 9) (v := 255) (by decide) d_StringLatin1_charAt_9 ?_
  refine zw_iand (pc := 12) d_StringLatin1_charAt_12 ?_
  refine zt_i2c (pc := 13) d_StringLatin1_charAt_13 ?_
  exact zw_iret (S := []) (pc := 14) (ty := .char) rfl (pk_nc _) d_StringLatin1_charAt_14 ⟨rfl, rfl⟩
theorem c_String_coder (l : Launch) (M : zMem) (i : Nat) (hi : i < zsN) : zC l m_String_coder 0 0 [.ref (zK i)] M (fun r M' => M' = M ∧ r = some (.int 0)) := by
  refine zC_of (L0 := [some (.ref (zK i))]) md_String_coder (Nat.le_of_ble_eq_true rfl) rfl ?_ zQ0
  refine zt_cs (pc := 0) y_38 d_String_coder_0 ?_
  refine zw_if_eq (pc := 3) (tgt := 13) (by decide) d_String_coder_3 (fun hc => absurd hc (by decide)) (fun _ => ?_)
  refine zw_aload_n (pc := 6) (n := 0) (x := zK i) rfl d_String_coder_6 ?_
  refine zt_co (pc := 7) hi y_15 d_String_coder_7 ?_
  refine zw_goto (pc := 10) (tgt := 14) (by decide) d_String_coder_10 ?_
  exact zw_iret (S := []) (pc := 14) (ty := .byte) rfl rfl d_String_coder_14 ⟨rfl, rfl⟩
theorem c_String_isLatin1 (l : Launch) (M : zMem) (i : Nat) (hi : i < zsN) : zC l m_String_isLatin1 0 0 [.ref (zK i)] M (fun r M' => M' = M ∧ r = some (.int 1)) := by
  refine zC_of (L0 := [some (.ref (zK i))]) md_String_isLatin1 (Nat.le_of_ble_eq_true rfl) rfl ?_ zQ0
  refine zt_cs (pc := 0) y_38 d_String_isLatin1_0 ?_
  refine zw_if_eq (pc := 3) (tgt := 17) (by decide) d_String_isLatin1_3 (fun hc => absurd hc (by decide)) (fun _ => ?_)
  refine zw_aload_n (pc := 6) (n := 0) (x := zK i) rfl d_String_isLatin1_6 ?_
  refine zt_co (pc := 7) hi y_15 d_String_isLatin1_7 ?_
  refine zw_if_ne (pc := 10) (tgt := 17) (by decide) d_String_isLatin1_10 (fun hc => absurd rfl hc) (fun _ => ?_)
  refine zw_iconst (pc := 13) (v := 1) (by decide) d_String_isLatin1_13 ?_
  refine zw_goto (pc := 14) (tgt := 18) (by decide) d_String_isLatin1_14 ?_
  exact zw_iret (S := []) (pc := 18) (ty := .boolean) rfl rfl d_String_isLatin1_18 ⟨rfl, rfl⟩
