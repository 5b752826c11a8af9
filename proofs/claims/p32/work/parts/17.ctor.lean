def zExt (M M' : zMem) (c s q : Nat) : Prop := zn M' = zn M + c ∧ zw M' = zw M + s ∧ (∀ r, r < zn M → zsh M' r = zsh M r) ∧ ∀ r, r < zn M → r ≠ q → zf M' r = zf M r
theorem zExt.rf {M : zMem} {q : Nat} : zExt M M 0 0 q := ⟨rfl, rfl, fun _ _ => rfl, fun _ _ _ => rfl⟩
theorem zal_old {M : zMem} {t n r : Nat} (h : r < zn M) : zsh (zal M t n) r = zsh M r ∧ zf (zal M t n) r = zf M r := by
  have hne : ¬ r = M.1.1 := by
    have : zn M = M.1.1 := rfl
    omega
  simp [zsh, zf, zal, hne]
theorem zExt.al {M M1 : zMem} {c s q t n : Nat} (h : zExt M M1 c s q) : zExt M (zal M1 t n) (c + 1) (s + n) q := by
  obtain ⟨a1, a2, a3, a4⟩ := h
  refine ⟨by show zn M1 + 1 = _; omega, by show zw M1 + n = _; omega, fun r hr => ?_, fun r hr hq => ?_⟩
  · rw [(zal_old (by (exact zo_1441 a1 hr))).1]; exact a3 r hr
  · rw [(zal_old (by (exact zo_1441 a1 hr))).2]; exact a4 r hr hq
theorem zExt.put {M M1 : zMem} {c s q j : Nat} {v : Option Nat} (h : zExt M M1 c s q) : zExt M (zsF M1 q j v) c s q := by
  obtain ⟨a1, a2, a3, a4⟩ := h
  refine ⟨a1, a2, a3, fun r hr hq => ?_⟩
  show zup2 (zf M1) q j v r = _
  rw [zup2_q hq]
  exact a4 r hr hq
theorem zExt.putI {M M1 : zMem} {c s q j : Nat} {v : Int32} (h : zExt M M1 c s q) : zExt M (zsI M1 q j v) c s q := h
theorem zExt.call {M M1 M2 : zMem} {c s q c' s' a : Nat} (h : zExt M M1 c s q) (g : zExt M1 M2 c' s' a) (ha : zn M ≤ a) : zExt M M2 (c + c') (s + s') q := by
  obtain ⟨a1, a2, a3, a4⟩ := h
  obtain ⟨b1, b2, b3, b4⟩ := g
  refine ⟨by omega, by omega, fun r hr => ?_, fun r hr hq => ?_⟩
  · rw [b3 r (by (exact zo_1441 a1 hr))]; exact a3 r hr
  · rw [b4 r (by (exact zo_1441 a1 hr)) (by omega)]; exact a4 r hr hq
theorem zExt.q {M M' : zMem} {c s q t : Nat} (h : zExt M M' c s q) {r : Nat} (hr : r < zn M) (hk : (zsh M r).1 = t) : (zsh M' r).1 = t := by rw [h.2.2.1 r hr]; exact hk
def zk_IntRow_1 (M : zMem) (q : Nat) (x0 : Nat) : zMem := zal (M) 1 x0
def zk_IntRow_2 (M : zMem) (q : Nat) (x0 : Nat) : zMem := zsF (zk_IntRow_1 M q x0) q 0 (some (zn (M)))
def zk_IntRow (M : zMem) (q : Nat) (x0 : Nat) : zMem := zk_IntRow_2 M q x0
set_option maxRecDepth 20000 in
theorem ext_IntRow (M : zMem) (q : Nat) (x0 : Nat) : zExt M (zk_IntRow M q x0) 1 (0 + x0) q := by
  have he0 : zExt M M 0 0 q := zExt.rf
  have he1 : zExt M (zk_IntRow_1 M q x0) 1 (0 + x0) q := he0.al
  have he2 : zExt M (zk_IntRow_2 M q x0) 1 (0 + x0) q := he1.put
  exact he2
set_option maxRecDepth 20000 in
set_option maxHeartbeats 4000000 in
theorem k_IntRow (l : Launch) (M : zMem) (q : Nat) (hq : q < zn M) (hqk : (zsh M q).1 = 2 + 3) (x0 : Nat) (hx : x0 ≤ 65536) (hm : zn M + 1 < 1000000) : zC l m_IntRow_init 1 (0 + x0) [.ref q, .int (nI x0)] M (fun r M' => r = none ∧ M' = zk_IntRow M q x0) := by
  have hex := ext_IntRow M q x0
  refine zC_of (L0 := [some (.ref q), some (.int (nI x0))]) md_IntRow_init (Nat.le_of_ble_eq_true rfl) rfl ?_ (fun r M' h _ => by obtain ⟨-, rfl⟩ := h; exact ⟨hex.1, hex.2.1⟩)
  have he0 : zExt M M 0 0 q := zExt.rf
  refine zw_aload_n (pc := 0) (n := 0) (x := q) rfl (zdal_p dlA_IntRow_init_3 (i := 0) rfl) ?_
  refine zw_objInit (pc := 1) o_IntRow_1 o_in o_co (by decide) (Nat.le_of_ble_eq_true rfl) (zdal_p dlA_IntRow_init_3 (i := 1) rfl) ?_
  refine zw_aload_n (pc := 4) (n := 0) (x := q) rfl (zdal_p dlA_IntRow_init_3 (i := 2) rfl) ?_
  refine zw_iload_n (pc := 5) (n := 1) (x := nI x0) rfl (zdal_p dlA_IntRow_init_3 (i := 3) rfl) ?_
  refine zw_iconst (pc := 6) (v := 0) (by decide) (zdal_p dlA_IntRow_init_3 (i := 4) rfl) ?_
  refine zw_mmax (pc := 7) x_IntRow_7 (by decide) (Nat.le_of_ble_eq_true rfl) (zdal_p dlA_IntRow_init_3 (i := 5) rfl) (fun v hv => ?_)
  have hv2 : v = nI x0 := by
    rw [hv, if_neg (nI_pos (by omega))]
  subst hv2
  refine zw_newa (pc := 10) (t := 1) (N := x0) (Or.inl ⟨rfl, rfl⟩) (nI_pos (by omega)) (nI_clamp (by omega)) hx (by have := he0.1; omega) (by have := he0.1; show _ ≤ zn M + 1; omega) (by have := he0.2.1; show _ + x0 ≤ zw M + (0 + x0); omega) (zdal_p dlA_IntRow_init_3 (i := 6) rfl) ?_
  have he1 : zExt M (zk_IntRow_1 M q x0) 1 (0 + x0) q := he0.al
  show zW l m_IntRow_init (zn M + 1, zw M + (0 + x0)) (zk_IntRow_1 M q x0) 12 [some (.ref q), some (.int (nI x0))] [.ref (zn (M)), .ref q] _
  refine zw_putR (pc := 12) (x := zn (M)) (Or.inr ⟨g_IntRow_13, rfl, rfl, rfl⟩) rfl (he1.q hq hqk) (fun _ => rfl) (fun _ => rfl) (zdal_p dlA_IntRow_init_3 (i := 7) rfl) ?_
  have he2 : zExt M (zk_IntRow_2 M q x0) 1 (0 + x0) q := he1.put
  show zW l m_IntRow_init (zn M + 1, zw M + (0 + x0)) (zk_IntRow_2 M q x0) 15 [some (.ref q), some (.int (nI x0))] [] _
  have kn2 : zf (zk_IntRow_2 M q x0) q 0 = some (zn (M)) := zup2_s
  exact zw_vret (S := []) (pc := 15) rfl (zdal_p dlA_IntRow_init_3 (i := 8) rfl) ⟨rfl, rfl⟩
def zk_LongRow_1 (M : zMem) (q : Nat) (x0 : Nat) : zMem := zal (M) 2 x0
def zk_LongRow_2 (M : zMem) (q : Nat) (x0 : Nat) : zMem := zsF (zk_LongRow_1 M q x0) q 0 (some (zn (M)))
def zk_LongRow (M : zMem) (q : Nat) (x0 : Nat) : zMem := zk_LongRow_2 M q x0
set_option maxRecDepth 20000 in
theorem ext_LongRow (M : zMem) (q : Nat) (x0 : Nat) : zExt M (zk_LongRow M q x0) 1 (0 + x0) q := by
  have he0 : zExt M M 0 0 q := zExt.rf
  have he1 : zExt M (zk_LongRow_1 M q x0) 1 (0 + x0) q := he0.al
  have he2 : zExt M (zk_LongRow_2 M q x0) 1 (0 + x0) q := he1.put
  exact he2
set_option maxRecDepth 20000 in
set_option maxHeartbeats 4000000 in
theorem k_LongRow (l : Launch) (M : zMem) (q : Nat) (hq : q < zn M) (hqk : (zsh M q).1 = 8 + 3) (x0 : Nat) (hx : x0 ≤ 65536) (hm : zn M + 1 < 1000000) : zC l m_LongRow_init 1 (0 + x0) [.ref q, .int (nI x0)] M (fun r M' => r = none ∧ M' = zk_LongRow M q x0) := by
  have hex := ext_LongRow M q x0
  refine zC_of (L0 := [some (.ref q), some (.int (nI x0))]) md_LongRow_init (Nat.le_of_ble_eq_true rfl) rfl ?_ (fun r M' h _ => by obtain ⟨-, rfl⟩ := h; exact ⟨hex.1, hex.2.1⟩)
  have he0 : zExt M M 0 0 q := zExt.rf
  refine zw_aload_n (pc := 0) (n := 0) (x := q) rfl (zdal_p dlA_LongRow_init_12 (i := 0) rfl) ?_
  refine zw_objInit (pc := 1) o_LongRow_1 o_in o_co (by decide) (Nat.le_of_ble_eq_true rfl) (zdal_p dlA_LongRow_init_12 (i := 1) rfl) ?_
  refine zw_aload_n (pc := 4) (n := 0) (x := q) rfl (zdal_p dlA_LongRow_init_12 (i := 2) rfl) ?_
  refine zw_iload_n (pc := 5) (n := 1) (x := nI x0) rfl (zdal_p dlA_LongRow_init_12 (i := 3) rfl) ?_
  refine zw_iconst (pc := 6) (v := 0) (by decide) (zdal_p dlA_LongRow_init_12 (i := 4) rfl) ?_
  refine zw_mmax (pc := 7) x_LongRow_7 (by decide) (Nat.le_of_ble_eq_true rfl) (zdal_p dlA_LongRow_init_12 (i := 5) rfl) (fun v hv => ?_)
  have hv2 : v = nI x0 := by
    rw [hv, if_neg (nI_pos (by omega))]
  subst hv2
  refine zw_newa (pc := 10) (t := 2) (N := x0) (Or.inr ⟨rfl, rfl⟩) (nI_pos (by omega)) (nI_clamp (by omega)) hx (by have := he0.1; omega) (by have := he0.1; show _ ≤ zn M + 1; omega) (by have := he0.2.1; show _ + x0 ≤ zw M + (0 + x0); omega) (zdal_p dlA_LongRow_init_12 (i := 6) rfl) ?_
  have he1 : zExt M (zk_LongRow_1 M q x0) 1 (0 + x0) q := he0.al
  show zW l m_LongRow_init (zn M + 1, zw M + (0 + x0)) (zk_LongRow_1 M q x0) 12 [some (.ref q), some (.int (nI x0))] [.ref (zn (M)), .ref q] _
  refine zw_putR (pc := 12) (x := zn (M)) (Or.inr ⟨g_LongRow_13, rfl, rfl, rfl⟩) rfl (he1.q hq hqk) (fun _ => rfl) (fun _ => rfl) (zdal_p dlA_LongRow_init_12 (i := 7) rfl) ?_
  have he2 : zExt M (zk_LongRow_2 M q x0) 1 (0 + x0) q := he1.put
  show zW l m_LongRow_init (zn M + 1, zw M + (0 + x0)) (zk_LongRow_2 M q x0) 15 [some (.ref q), some (.int (nI x0))] [] _
  have kn2 : zf (zk_LongRow_2 M q x0) q 0 = some (zn (M)) := zup2_s
  exact zw_vret (S := []) (pc := 15) rfl (zdal_p dlA_LongRow_init_12 (i := 8) rfl) ⟨rfl, rfl⟩
def zk_Tokens_1 (M : zMem) (q : Nat)  : zMem := zal (M) 5 1
def zk_Tokens_2 (M : zMem) (q : Nat)  : zMem := zk_IntRow (zk_Tokens_1 M q ) (zn (M)) 700
def zk_Tokens_3 (M : zMem) (q : Nat)  : zMem := zsF (zk_Tokens_2 M q ) q 0 (some (zn (M)))
def zk_Tokens (M : zMem) (q : Nat)  : zMem := zk_Tokens_3 M q 
set_option maxRecDepth 20000 in
theorem ext_Tokens (M : zMem) (q : Nat)  : zExt M (zk_Tokens M q ) 2 (0 + 1 + (0 + 700)) q := by
  have he0 : zExt M M 0 0 q := zExt.rf
  have he1 : zExt M (zk_Tokens_1 M q ) 1 (0 + 1) q := he0.al
  have he2 : zExt M (zk_Tokens_2 M q ) 2 (0 + 1 + (0 + 700)) q := he1.call (ext_IntRow (zk_Tokens_1 M q ) (zn (M)) 700) (by have := he0.1; (exact zo_1447))
  have he3 : zExt M (zk_Tokens_3 M q ) 2 (0 + 1 + (0 + 700)) q := he2.put
  exact he3
set_option maxRecDepth 20000 in
set_option maxHeartbeats 4000000 in
theorem k_Tokens (l : Launch) (M : zMem) (q : Nat) (hq : q < zn M) (hqk : (zsh M q).1 = 1 + 3)  (hm : zn M + 2 < 1000000) : zC l m_Tokens_init 2 (0 + 1 + (0 + 700)) [.ref q] M (fun r M' => r = none ∧ M' = zk_Tokens M q ) := by
  have hex := ext_Tokens M q 
  refine zC_of (L0 := [some (.ref q)]) md_Tokens_init (Nat.le_of_ble_eq_true rfl) rfl ?_ (fun r M' h _ => by obtain ⟨-, rfl⟩ := h; exact ⟨hex.1, hex.2.1⟩)
  have he0 : zExt M M 0 0 q := zExt.rf
  refine zw_aload_n (pc := 0) (n := 0) (x := q) rfl (zdal_p dlA_Tokens_init_2 (i := 0) rfl) ?_
  refine zw_objInit (pc := 1) o_Tokens_3 o_in o_co (by decide) (Nat.le_of_ble_eq_true rfl) (zdal_p dlA_Tokens_init_2 (i := 1) rfl) ?_
  refine zw_aload_n (pc := 4) (n := 0) (x := q) rfl (zdal_p dlA_Tokens_init_2 (i := 2) rfl) ?_
  refine zw_new (pc := 5) (ci := 2) (by decide) n_Tokens_9 (by have := he0.1; omega) (by have := he0.1; show _ ≤ zn M + 2; omega) (by have := he0.2.1; show _ + 1 ≤ zw M + (0 + 1 + (0 + 700)); omega) (by decide) (zdal_p dlA_Tokens_init_2 (i := 3) rfl) ?_
  have he1 : zExt M (zk_Tokens_1 M q ) 1 (0 + 1) q := he0.al
  show zW l m_Tokens_init (zn M + 2, zw M + (0 + 1 + (0 + 700))) (zk_Tokens_1 M q ) 8 [some (.ref q)] [.ref (zn (M)), .ref q] _
  refine zw_dup (pc := 8) rfl (zdal_p dlA_Tokens_init_2 (i := 4) rfl) ?_
  refine zw_sipush (pc := 9) (v := nI 700) (by decide) (zdal_p dlA_Tokens_init_2 (i := 5) rfl) ?_
  refine zw_callI (pc := 12) (mc := 1) (ms := (0 + 700)) (b := zn (M)) [.int (nI 700)] [.ref (zn (M)), .ref q] l_Tokens_11 (k_IntRow l (zk_Tokens_1 M q ) (zn (M)) (by have := he1.1; show zn (M) < zn (M) + 1; (exact zo_1083)) (congrArg Prod.fst (zal_sh (M := M) (t := 5) (n := 1))) 700 (by decide) (by have := he1.1; omega)) rfl rfl (by decide) ⟨by have := he1.1; show _ ≤ zn M + 2; omega, by have := he1.2.1; show _ ≤ zw M + (0 + 1 + (0 + 700)); omega⟩ (Nat.le_of_ble_eq_true rfl) (zdal_p dlA_Tokens_init_2 (i := 6) rfl) (fun r M9 h9 _ _ => ?_)
  obtain ⟨rfl, rfl⟩ := h9
  have he2 : zExt M (zk_Tokens_2 M q ) 2 (0 + 1 + (0 + 700)) q := he1.call (ext_IntRow (zk_Tokens_1 M q ) (zn (M)) 700) (by have := he0.1; (exact zo_1447))
  show zW l m_Tokens_init (zn M + 2, zw M + (0 + 1 + (0 + 700))) (zk_Tokens_2 M q ) 15 [some (.ref q)] [.ref (zn (M)), .ref q] _
  refine zw_putR (pc := 15) (x := zn (M)) (Or.inr ⟨g_Tokens_14, rfl, rfl, rfl⟩) rfl (he2.q hq hqk) (fun _ => rfl) (fun _ => rfl) (zdal_p dlA_Tokens_init_2 (i := 7) rfl) ?_
  have he3 : zExt M (zk_Tokens_3 M q ) 2 (0 + 1 + (0 + 700)) q := he2.put
  show zW l m_Tokens_init (zn M + 2, zw M + (0 + 1 + (0 + 700))) (zk_Tokens_3 M q ) 18 [some (.ref q)] [] _
  have kn3 : zf (zk_Tokens_3 M q ) q 0 = some (zn (M)) := zup2_s
  exact zw_vret (S := []) (pc := 18) rfl (zdal_p dlA_Tokens_init_2 (i := 8) rfl) ⟨rfl, rfl⟩
def zk_Reader_1 (M : zMem) (q : Nat) (a0 : Nat) : zMem := zsI (M) q 3 (-1)
def zk_Reader_2 (M : zMem) (q : Nat) (a0 : Nat) : zMem := zsF (zk_Reader_1 M q a0) q 0 (some (a0))
def zk_Reader (M : zMem) (q : Nat) (a0 : Nat) : zMem := zk_Reader_2 M q a0
set_option maxRecDepth 20000 in
theorem ext_Reader (M : zMem) (q : Nat) (a0 : Nat) : zExt M (zk_Reader M q a0) 0 (0) q := by
  have he0 : zExt M M 0 0 q := zExt.rf
  have he1 : zExt M (zk_Reader_1 M q a0) 0 (0) q := he0.putI
  have he2 : zExt M (zk_Reader_2 M q a0) 0 (0) q := he1.put
  exact he2
set_option maxRecDepth 20000 in
set_option maxHeartbeats 4000000 in
theorem k_Reader (l : Launch) (M : zMem) (q : Nat) (hq : q < zn M) (hqk : (zsh M q).1 = 3 + 3) (a0 : Nat) (hm : zn M + 0 < 1000000) : zC l m_Reader_init 0 (0) [.ref q, .ref a0] M (fun r M' => r = none ∧ M' = zk_Reader M q a0) := by
  have hex := ext_Reader M q a0
  refine zC_of (L0 := [some (.ref q), some (.ref a0)]) md_Reader_init (Nat.le_of_ble_eq_true rfl) rfl ?_ (fun r M' h _ => by obtain ⟨-, rfl⟩ := h; exact ⟨hex.1, hex.2.1⟩)
  have he0 : zExt M M 0 0 q := zExt.rf
  refine zw_aload_n (pc := 0) (n := 0) (x := q) rfl (zdal_p dlA_Reader_init_4 (i := 0) rfl) ?_
  refine zw_objInit (pc := 1) o_Reader_3 o_in o_co (by decide) (Nat.le_of_ble_eq_true rfl) (zdal_p dlA_Reader_init_4 (i := 1) rfl) ?_
  refine zw_aload_n (pc := 4) (n := 0) (x := q) rfl (zdal_p dlA_Reader_init_4 (i := 2) rfl) ?_
  refine zw_iconst (pc := 5) (v := (-1)) (by decide) (zdal_p dlA_Reader_init_4 (i := 3) rfl) ?_
  refine zw_putI (pc := 6) f_Reader_9 rfl rfl (he0.q hq hqk) rfl rfl (zdal_p dlA_Reader_init_4 (i := 4) rfl) ?_
  have he1 : zExt M (zk_Reader_1 M q a0) 0 (0) q := he0.putI
  show zW l m_Reader_init (zn M + 0, zw M + (0)) (zk_Reader_1 M q a0) 9 [some (.ref q), some (.ref a0)] [] _
  refine zw_aload_n (pc := 9) (n := 0) (x := q) rfl (zdal_p dlA_Reader_init_4 (i := 5) rfl) ?_
  refine zw_aload_n (pc := 10) (n := 1) (x := a0) rfl (zdal_p dlA_Reader_init_4 (i := 6) rfl) ?_
  refine zw_putR (pc := 11) (x := a0) (Or.inr ⟨g_Reader_15, rfl, rfl, rfl⟩) rfl (he1.q hq hqk) (fun _ => rfl) (fun _ => rfl) (zdal_p dlA_Reader_init_4 (i := 7) rfl) ?_
  have he2 : zExt M (zk_Reader_2 M q a0) 0 (0) q := he1.put
  show zW l m_Reader_init (zn M + 0, zw M + (0)) (zk_Reader_2 M q a0) 14 [some (.ref q), some (.ref a0)] [] _
  have kn2 : zf (zk_Reader_2 M q a0) q 0 = some (a0) := zup2_s
  exact zw_vret (S := []) (pc := 14) rfl (zdal_p dlA_Reader_init_4 (i := 8) rfl) ⟨rfl, rfl⟩
def zk_Group_1 (M : zMem) (q : Nat)  : zMem := zal (M) 5 1
def zk_Group_2 (M : zMem) (q : Nat)  : zMem := zk_IntRow (zk_Group_1 M q ) (zn (M)) 4
def zk_Group_3 (M : zMem) (q : Nat)  : zMem := zsF (zk_Group_2 M q ) q 0 (some (zn (M)))
def zk_Group_4 (M : zMem) (q : Nat)  : zMem := zal (zk_Group_3 M q ) 5 1
def zk_Group_5 (M : zMem) (q : Nat)  : zMem := zk_IntRow (zk_Group_4 M q ) (zn (zk_Group_3 M q )) 24
def zk_Group_6 (M : zMem) (q : Nat)  : zMem := zsF (zk_Group_5 M q ) q 1 (some (zn (zk_Group_3 M q )))
def zk_Group_7 (M : zMem) (q : Nat)  : zMem := zal (zk_Group_6 M q ) 5 1
def zk_Group_8 (M : zMem) (q : Nat)  : zMem := zk_IntRow (zk_Group_7 M q ) (zn (zk_Group_6 M q )) 576
def zk_Group_9 (M : zMem) (q : Nat)  : zMem := zsF (zk_Group_8 M q ) q 2 (some (zn (zk_Group_6 M q )))
def zk_Group_10 (M : zMem) (q : Nat)  : zMem := zal (zk_Group_9 M q ) 5 1
def zk_Group_11 (M : zMem) (q : Nat)  : zMem := zk_IntRow (zk_Group_10 M q ) (zn (zk_Group_9 M q )) 24
def zk_Group_12 (M : zMem) (q : Nat)  : zMem := zsF (zk_Group_11 M q ) q 3 (some (zn (zk_Group_9 M q )))
def zk_Group_13 (M : zMem) (q : Nat)  : zMem := zal (zk_Group_12 M q ) 5 1
def zk_Group_14 (M : zMem) (q : Nat)  : zMem := zk_IntRow (zk_Group_13 M q ) (zn (zk_Group_12 M q )) 24
def zk_Group_15 (M : zMem) (q : Nat)  : zMem := zsF (zk_Group_14 M q ) q 4 (some (zn (zk_Group_12 M q )))
def zk_Group (M : zMem) (q : Nat)  : zMem := zk_Group_15 M q 
set_option maxRecDepth 20000 in
theorem ext_Group (M : zMem) (q : Nat)  : zExt M (zk_Group M q ) 10 (0 + 1 + (0 + 4) + 1 + (0 + 24) + 1 + (0 + 576) + 1 + (0 + 24) + 1 + (0 + 24)) q := by
  have he0 : zExt M M 0 0 q := zExt.rf
  have he1 : zExt M (zk_Group_1 M q ) 1 (0 + 1) q := he0.al
  have he2 : zExt M (zk_Group_2 M q ) 2 (0 + 1 + (0 + 4)) q := he1.call (ext_IntRow (zk_Group_1 M q ) (zn (M)) 4) (by have := he0.1; (exact zo_1447))
  have he3 : zExt M (zk_Group_3 M q ) 2 (0 + 1 + (0 + 4)) q := he2.put
  have he4 : zExt M (zk_Group_4 M q ) 3 (0 + 1 + (0 + 4) + 1) q := he3.al
  have he5 : zExt M (zk_Group_5 M q ) 4 (0 + 1 + (0 + 4) + 1 + (0 + 24)) q := he4.call (ext_IntRow (zk_Group_4 M q ) (zn (zk_Group_3 M q )) 24) (by have := he3.1; (exact zo_1454 this))
  have he6 : zExt M (zk_Group_6 M q ) 4 (0 + 1 + (0 + 4) + 1 + (0 + 24)) q := he5.put
  have he7 : zExt M (zk_Group_7 M q ) 5 (0 + 1 + (0 + 4) + 1 + (0 + 24) + 1) q := he6.al
  have he8 : zExt M (zk_Group_8 M q ) 6 (0 + 1 + (0 + 4) + 1 + (0 + 24) + 1 + (0 + 576)) q := he7.call (ext_IntRow (zk_Group_7 M q ) (zn (zk_Group_6 M q )) 576) (by have := he6.1; omega)
  have he9 : zExt M (zk_Group_9 M q ) 6 (0 + 1 + (0 + 4) + 1 + (0 + 24) + 1 + (0 + 576)) q := he8.put
  have he10 : zExt M (zk_Group_10 M q ) 7 (0 + 1 + (0 + 4) + 1 + (0 + 24) + 1 + (0 + 576) + 1) q := he9.al
  have he11 : zExt M (zk_Group_11 M q ) 8 (0 + 1 + (0 + 4) + 1 + (0 + 24) + 1 + (0 + 576) + 1 + (0 + 24)) q := he10.call (ext_IntRow (zk_Group_10 M q ) (zn (zk_Group_9 M q )) 24) (by have := he9.1; omega)
  have he12 : zExt M (zk_Group_12 M q ) 8 (0 + 1 + (0 + 4) + 1 + (0 + 24) + 1 + (0 + 576) + 1 + (0 + 24)) q := he11.put
  have he13 : zExt M (zk_Group_13 M q ) 9 (0 + 1 + (0 + 4) + 1 + (0 + 24) + 1 + (0 + 576) + 1 + (0 + 24) + 1) q := he12.al
  have he14 : zExt M (zk_Group_14 M q ) 10 (0 + 1 + (0 + 4) + 1 + (0 + 24) + 1 + (0 + 576) + 1 + (0 + 24) + 1 + (0 + 24)) q := he13.call (ext_IntRow (zk_Group_13 M q ) (zn (zk_Group_12 M q )) 24) (by have := he12.1; omega)
  have he15 : zExt M (zk_Group_15 M q ) 10 (0 + 1 + (0 + 4) + 1 + (0 + 24) + 1 + (0 + 576) + 1 + (0 + 24) + 1 + (0 + 24)) q := he14.put
  exact he15
set_option maxRecDepth 20000 in
set_option maxHeartbeats 4000000 in
theorem k_Group (l : Launch) (M : zMem) (q : Nat) (hq : q < zn M) (hqk : (zsh M q).1 = 5 + 3)  (hm : zn M + 10 < 1000000) : zC l m_Group_init 10 (0 + 1 + (0 + 4) + 1 + (0 + 24) + 1 + (0 + 576) + 1 + (0 + 24) + 1 + (0 + 24)) [.ref q] M (fun r M' => r = none ∧ M' = zk_Group M q ) := by
  have hex := ext_Group M q 
  refine zC_of (L0 := [some (.ref q)]) md_Group_init (Nat.le_of_ble_eq_true rfl) rfl ?_ (fun r M' h _ => by obtain ⟨-, rfl⟩ := h; exact ⟨hex.1, hex.2.1⟩)
  have he0 : zExt M M 0 0 q := zExt.rf
  refine zw_aload_n (pc := 0) (n := 0) (x := q) rfl (zdal_p dlA_Group_init_7 (i := 0) rfl) ?_
  refine zw_objInit (pc := 1) o_Group_3 o_in o_co (by decide) (Nat.le_of_ble_eq_true rfl) (zdal_p dlA_Group_init_7 (i := 1) rfl) ?_
  refine zw_aload_n (pc := 4) (n := 0) (x := q) rfl (zdal_p dlA_Group_init_7 (i := 2) rfl) ?_
  refine zw_new (pc := 5) (ci := 2) (by decide) n_Group_9 (by have := he0.1; omega) (by have := he0.1; show _ ≤ zn M + 10; omega) (by have := he0.2.1; show _ + 1 ≤ zw M + (0 + 1 + (0 + 4) + 1 + (0 + 24) + 1 + (0 + 576) + 1 + (0 + 24) + 1 + (0 + 24)); omega) (by decide) (zdal_p dlA_Group_init_7 (i := 3) rfl) ?_
  have he1 : zExt M (zk_Group_1 M q ) 1 (0 + 1) q := he0.al
  show zW l m_Group_init (zn M + 10, zw M + (0 + 1 + (0 + 4) + 1 + (0 + 24) + 1 + (0 + 576) + 1 + (0 + 24) + 1 + (0 + 24))) (zk_Group_1 M q ) 8 [some (.ref q)] [.ref (zn (M)), .ref q] _
  refine zw_dup (pc := 8) rfl (zdal_p dlA_Group_init_7 (i := 4) rfl) ?_
  refine zw_iconst (pc := 9) (v := nI 4) (by decide) (zdal_p dlA_Group_init_7 (i := 5) rfl) ?_
  refine zw_callI (pc := 10) (mc := 1) (ms := (0 + 4)) (b := zn (M)) [.int (nI 4)] [.ref (zn (M)), .ref q] l_Group_11 (k_IntRow l (zk_Group_1 M q ) (zn (M)) (by have := he1.1; show zn (M) < zn (M) + 1; (exact zo_1083)) (congrArg Prod.fst (zal_sh (M := M) (t := 5) (n := 1))) 4 (by decide) (by have := he1.1; omega)) rfl rfl (by decide) ⟨by have := he1.1; show _ ≤ zn M + 10; omega, by have := he1.2.1; show _ ≤ zw M + (0 + 1 + (0 + 4) + 1 + (0 + 24) + 1 + (0 + 576) + 1 + (0 + 24) + 1 + (0 + 24)); omega⟩ (Nat.le_of_ble_eq_true rfl) (zdal_p dlA_Group_init_7 (i := 6) rfl) (fun r M9 h9 _ _ => ?_)
  obtain ⟨rfl, rfl⟩ := h9
  have he2 : zExt M (zk_Group_2 M q ) 2 (0 + 1 + (0 + 4)) q := he1.call (ext_IntRow (zk_Group_1 M q ) (zn (M)) 4) (by have := he0.1; (exact zo_1447))
  show zW l m_Group_init (zn M + 10, zw M + (0 + 1 + (0 + 4) + 1 + (0 + 24) + 1 + (0 + 576) + 1 + (0 + 24) + 1 + (0 + 24))) (zk_Group_2 M q ) 13 [some (.ref q)] [.ref (zn (M)), .ref q] _
  refine zw_putR (pc := 13) (x := zn (M)) (Or.inr ⟨g_Group_14, rfl, rfl, rfl⟩) rfl (he2.q hq hqk) (fun _ => rfl) (fun _ => rfl) (zdal_p dlA_Group_init_7 (i := 7) rfl) ?_
  have he3 : zExt M (zk_Group_3 M q ) 2 (0 + 1 + (0 + 4)) q := he2.put
  show zW l m_Group_init (zn M + 10, zw M + (0 + 1 + (0 + 4) + 1 + (0 + 24) + 1 + (0 + 576) + 1 + (0 + 24) + 1 + (0 + 24))) (zk_Group_3 M q ) 16 [some (.ref q)] [] _
  have kn3 : zf (zk_Group_3 M q ) q 0 = some (zn (M)) := zup2_s
  refine zw_aload_n (pc := 16) (n := 0) (x := q) rfl (zdal_p dlA_Group_init_7 (i := 8) rfl) ?_
  refine zw_new (pc := 17) (ci := 2) (by decide) n_Group_9 (by have := he3.1; omega) (by have := he3.1; show _ ≤ zn M + 10; omega) (by have := he3.2.1; show _ + 1 ≤ zw M + (0 + 1 + (0 + 4) + 1 + (0 + 24) + 1 + (0 + 576) + 1 + (0 + 24) + 1 + (0 + 24)); omega) (by decide) (zdal_p dlA_Group_init_7 (i := 9) rfl) ?_
  have he4 : zExt M (zk_Group_4 M q ) 3 (0 + 1 + (0 + 4) + 1) q := he3.al
  have kf4_0 : zf (zk_Group_4 M q ) q 0 = some (zn (M)) := (congrFun (zal_old (by have := he3.1; omega)).2 0).trans kn3
  show zW l m_Group_init (zn M + 10, zw M + (0 + 1 + (0 + 4) + 1 + (0 + 24) + 1 + (0 + 576) + 1 + (0 + 24) + 1 + (0 + 24))) (zk_Group_4 M q ) 20 [some (.ref q)] [.ref (zn (zk_Group_3 M q )), .ref q] _
  refine zw_dup (pc := 20) rfl (zdal_p dlA_Group_init_7 (i := 10) rfl) ?_
  refine zw_bipush (pc := 21) (v := nI 24) (by decide) (zdal_p dlA_Group_init_7 (i := 11) rfl) ?_
  refine zw_callI (pc := 23) (mc := 1) (ms := (0 + 24)) (b := zn (zk_Group_3 M q )) [.int (nI 24)] [.ref (zn (zk_Group_3 M q )), .ref q] l_Group_11 (k_IntRow l (zk_Group_4 M q ) (zn (zk_Group_3 M q )) (by have := he4.1; show zn (zk_Group_3 M q ) < zn (zk_Group_3 M q ) + 1; (exact zo_1083)) (congrArg Prod.fst (zal_sh (M := zk_Group_3 M q ) (t := 5) (n := 1))) 24 (by decide) (by have := he4.1; omega)) rfl rfl (by decide) ⟨by have := he4.1; show _ ≤ zn M + 10; omega, by have := he4.2.1; show _ ≤ zw M + (0 + 1 + (0 + 4) + 1 + (0 + 24) + 1 + (0 + 576) + 1 + (0 + 24) + 1 + (0 + 24)); omega⟩ (Nat.le_of_ble_eq_true rfl) (zdal_p dlA_Group_init_7 (i := 12) rfl) (fun r M9 h9 _ _ => ?_)
  obtain ⟨rfl, rfl⟩ := h9
  have he5 : zExt M (zk_Group_5 M q ) 4 (0 + 1 + (0 + 4) + 1 + (0 + 24)) q := he4.call (ext_IntRow (zk_Group_4 M q ) (zn (zk_Group_3 M q )) 24) (by have := he3.1; omega)
  have kf5_0 : zf (zk_Group_5 M q ) q 0 = some (zn (M)) := (congrFun ((ext_IntRow (zk_Group_4 M q ) (zn (zk_Group_3 M q )) 24).2.2.2 q (by have := he4.1; omega) (by have := he3.1; (exact zo_1473 hq this))) 0).trans kf4_0
  show zW l m_Group_init (zn M + 10, zw M + (0 + 1 + (0 + 4) + 1 + (0 + 24) + 1 + (0 + 576) + 1 + (0 + 24) + 1 + (0 + 24))) (zk_Group_5 M q ) 26 [some (.ref q)] [.ref (zn (zk_Group_3 M q )), .ref q] _
  refine zw_putR (pc := 26) (x := zn (zk_Group_3 M q )) (Or.inr ⟨g_Group_20, rfl, rfl, rfl⟩) rfl (he5.q hq hqk) (fun _ => rfl) (fun _ => rfl) (zdal_p dlA_Group_init_7 (i := 13) rfl) ?_
  have he6 : zExt M (zk_Group_6 M q ) 4 (0 + 1 + (0 + 4) + 1 + (0 + 24)) q := he5.put
  have kf6_0 : zf (zk_Group_6 M q ) q 0 = some (zn (M)) := (zup2_n (fun z => absurd z.2 (by decide))).trans kf5_0
  show zW l m_Group_init (zn M + 10, zw M + (0 + 1 + (0 + 4) + 1 + (0 + 24) + 1 + (0 + 576) + 1 + (0 + 24) + 1 + (0 + 24))) (zk_Group_6 M q ) 29 [some (.ref q)] [] _
  have kn6 : zf (zk_Group_6 M q ) q 1 = some (zn (zk_Group_3 M q )) := zup2_s
  refine zw_aload_n (pc := 29) (n := 0) (x := q) rfl (zdal_p dlA_Group_init_7 (i := 14) rfl) ?_
  refine zw_new (pc := 30) (ci := 2) (by decide) n_Group_9 (by have := he6.1; omega) (by have := he6.1; show _ ≤ zn M + 10; omega) (by have := he6.2.1; show _ + 1 ≤ zw M + (0 + 1 + (0 + 4) + 1 + (0 + 24) + 1 + (0 + 576) + 1 + (0 + 24) + 1 + (0 + 24)); omega) (by decide) (zdal_p dlA_Group_init_7 (i := 15) rfl) ?_
  have he7 : zExt M (zk_Group_7 M q ) 5 (0 + 1 + (0 + 4) + 1 + (0 + 24) + 1) q := he6.al
  have kf7_0 : zf (zk_Group_7 M q ) q 0 = some (zn (M)) := (congrFun (zal_old (by have := he6.1; (exact zo_1477 hm hq this))).2 0).trans kf6_0
  have kf7_1 : zf (zk_Group_7 M q ) q 1 = some (zn (zk_Group_3 M q )) := (congrFun (zal_old (by have := he6.1; (exact zo_1477 hm hq this))).2 1).trans kn6
  show zW l m_Group_init (zn M + 10, zw M + (0 + 1 + (0 + 4) + 1 + (0 + 24) + 1 + (0 + 576) + 1 + (0 + 24) + 1 + (0 + 24))) (zk_Group_7 M q ) 33 [some (.ref q)] [.ref (zn (zk_Group_6 M q )), .ref q] _
  refine zw_dup (pc := 33) rfl (zdal_p dlA_Group_init_7 (i := 16) rfl) ?_
  refine zw_sipush (pc := 34) (v := nI 576) (by decide) (zdal_p dlA_Group_init_7 (i := 17) rfl) ?_
  refine zw_callI (pc := 37) (mc := 1) (ms := (0 + 576)) (b := zn (zk_Group_6 M q )) [.int (nI 576)] [.ref (zn (zk_Group_6 M q )), .ref q] l_Group_11 (k_IntRow l (zk_Group_7 M q ) (zn (zk_Group_6 M q )) (by have := he7.1; show zn (zk_Group_6 M q ) < zn (zk_Group_6 M q ) + 1; (exact zo_1083)) (congrArg Prod.fst (zal_sh (M := zk_Group_6 M q ) (t := 5) (n := 1))) 576 (by decide) (by have := he7.1; omega)) rfl rfl (by decide) ⟨by have := he7.1; show _ ≤ zn M + 10; omega, by have := he7.2.1; show _ ≤ zw M + (0 + 1 + (0 + 4) + 1 + (0 + 24) + 1 + (0 + 576) + 1 + (0 + 24) + 1 + (0 + 24)); omega⟩ (Nat.le_of_ble_eq_true rfl) (zdal_p dlA_Group_init_7 (i := 18) rfl) (fun r M9 h9 _ _ => ?_)
  obtain ⟨rfl, rfl⟩ := h9
  have he8 : zExt M (zk_Group_8 M q ) 6 (0 + 1 + (0 + 4) + 1 + (0 + 24) + 1 + (0 + 576)) q := he7.call (ext_IntRow (zk_Group_7 M q ) (zn (zk_Group_6 M q )) 576) (by have := he6.1; omega)
  have kf8_0 : zf (zk_Group_8 M q ) q 0 = some (zn (M)) := (congrFun ((ext_IntRow (zk_Group_7 M q ) (zn (zk_Group_6 M q )) 576).2.2.2 q (by have := he7.1; (exact zo_1482 hm hq this)) (by have := he6.1; (exact zo_1483 hq this))) 0).trans kf7_0
  have kf8_1 : zf (zk_Group_8 M q ) q 1 = some (zn (zk_Group_3 M q )) := (congrFun ((ext_IntRow (zk_Group_7 M q ) (zn (zk_Group_6 M q )) 576).2.2.2 q (by have := he7.1; (exact zo_1482 hm hq this)) (by have := he6.1; (exact zo_1483 hq this))) 1).trans kf7_1
  show zW l m_Group_init (zn M + 10, zw M + (0 + 1 + (0 + 4) + 1 + (0 + 24) + 1 + (0 + 576) + 1 + (0 + 24) + 1 + (0 + 24))) (zk_Group_8 M q ) 40 [some (.ref q)] [.ref (zn (zk_Group_6 M q )), .ref q] _
  refine zw_putR (pc := 40) (x := zn (zk_Group_6 M q )) (Or.inr ⟨g_Group_23, rfl, rfl, rfl⟩) rfl (he8.q hq hqk) (fun _ => rfl) (fun _ => rfl) (zdal_p dlA_Group_init_7 (i := 19) rfl) ?_
  have he9 : zExt M (zk_Group_9 M q ) 6 (0 + 1 + (0 + 4) + 1 + (0 + 24) + 1 + (0 + 576)) q := he8.put
  have kf9_0 : zf (zk_Group_9 M q ) q 0 = some (zn (M)) := (zup2_n (fun z => absurd z.2 (by decide))).trans kf8_0
  have kf9_1 : zf (zk_Group_9 M q ) q 1 = some (zn (zk_Group_3 M q )) := (zup2_n (fun z => absurd z.2 (by decide))).trans kf8_1
  show zW l m_Group_init (zn M + 10, zw M + (0 + 1 + (0 + 4) + 1 + (0 + 24) + 1 + (0 + 576) + 1 + (0 + 24) + 1 + (0 + 24))) (zk_Group_9 M q ) 43 [some (.ref q)] [] _
  have kn9 : zf (zk_Group_9 M q ) q 2 = some (zn (zk_Group_6 M q )) := zup2_s
  refine zw_aload_n (pc := 43) (n := 0) (x := q) rfl (zdal_p dlA_Group_init_7 (i := 20) rfl) ?_
  refine zw_new (pc := 44) (ci := 2) (by decide) n_Group_9 (by have := he9.1; omega) (by have := he9.1; show _ ≤ zn M + 10; omega) (by have := he9.2.1; show _ + 1 ≤ zw M + (0 + 1 + (0 + 4) + 1 + (0 + 24) + 1 + (0 + 576) + 1 + (0 + 24) + 1 + (0 + 24)); omega) (by decide) (zdal_p dlA_Group_init_7 (i := 21) rfl) ?_
  have he10 : zExt M (zk_Group_10 M q ) 7 (0 + 1 + (0 + 4) + 1 + (0 + 24) + 1 + (0 + 576) + 1) q := he9.al
  have kf10_0 : zf (zk_Group_10 M q ) q 0 = some (zn (M)) := (congrFun (zal_old (by have := he9.1; (exact zo_1487 hm hq this))).2 0).trans kf9_0
  have kf10_1 : zf (zk_Group_10 M q ) q 1 = some (zn (zk_Group_3 M q )) := (congrFun (zal_old (by have := he9.1; (exact zo_1487 hm hq this))).2 1).trans kf9_1
  have kf10_2 : zf (zk_Group_10 M q ) q 2 = some (zn (zk_Group_6 M q )) := (congrFun (zal_old (by have := he9.1; (exact zo_1487 hm hq this))).2 2).trans kn9
  show zW l m_Group_init (zn M + 10, zw M + (0 + 1 + (0 + 4) + 1 + (0 + 24) + 1 + (0 + 576) + 1 + (0 + 24) + 1 + (0 + 24))) (zk_Group_10 M q ) 47 [some (.ref q)] [.ref (zn (zk_Group_9 M q )), .ref q] _
  refine zw_dup (pc := 47) rfl (zdal_p dlA_Group_init_7 (i := 22) rfl) ?_
  refine zw_bipush (pc := 48) (v := nI 24) (by decide) (zdal_p dlA_Group_init_7 (i := 23) rfl) ?_
  refine zw_callI (pc := 50) (mc := 1) (ms := (0 + 24)) (b := zn (zk_Group_9 M q )) [.int (nI 24)] [.ref (zn (zk_Group_9 M q )), .ref q] l_Group_11 (k_IntRow l (zk_Group_10 M q ) (zn (zk_Group_9 M q )) (by have := he10.1; show zn (zk_Group_9 M q ) < zn (zk_Group_9 M q ) + 1; (exact zo_1083)) (congrArg Prod.fst (zal_sh (M := zk_Group_9 M q ) (t := 5) (n := 1))) 24 (by decide) (by have := he10.1; omega)) rfl rfl (by decide) ⟨by have := he10.1; show _ ≤ zn M + 10; omega, by have := he10.2.1; show _ ≤ zw M + (0 + 1 + (0 + 4) + 1 + (0 + 24) + 1 + (0 + 576) + 1 + (0 + 24) + 1 + (0 + 24)); omega⟩ (Nat.le_of_ble_eq_true rfl) (zdal_p dlA_Group_init_8 (i := 0) rfl) (fun r M9 h9 _ _ => ?_)
  obtain ⟨rfl, rfl⟩ := h9
  have he11 : zExt M (zk_Group_11 M q ) 8 (0 + 1 + (0 + 4) + 1 + (0 + 24) + 1 + (0 + 576) + 1 + (0 + 24)) q := he10.call (ext_IntRow (zk_Group_10 M q ) (zn (zk_Group_9 M q )) 24) (by have := he9.1; omega)
  have kf11_0 : zf (zk_Group_11 M q ) q 0 = some (zn (M)) := (congrFun ((ext_IntRow (zk_Group_10 M q ) (zn (zk_Group_9 M q )) 24).2.2.2 q (by have := he10.1; (exact zo_1492 hm hq this)) (by have := he9.1; (exact zo_1493 hq this))) 0).trans kf10_0
  have kf11_1 : zf (zk_Group_11 M q ) q 1 = some (zn (zk_Group_3 M q )) := (congrFun ((ext_IntRow (zk_Group_10 M q ) (zn (zk_Group_9 M q )) 24).2.2.2 q (by have := he10.1; (exact zo_1492 hm hq this)) (by have := he9.1; (exact zo_1493 hq this))) 1).trans kf10_1
  have kf11_2 : zf (zk_Group_11 M q ) q 2 = some (zn (zk_Group_6 M q )) := (congrFun ((ext_IntRow (zk_Group_10 M q ) (zn (zk_Group_9 M q )) 24).2.2.2 q (by have := he10.1; (exact zo_1492 hm hq this)) (by have := he9.1; (exact zo_1493 hq this))) 2).trans kf10_2
  show zW l m_Group_init (zn M + 10, zw M + (0 + 1 + (0 + 4) + 1 + (0 + 24) + 1 + (0 + 576) + 1 + (0 + 24) + 1 + (0 + 24))) (zk_Group_11 M q ) 53 [some (.ref q)] [.ref (zn (zk_Group_9 M q )), .ref q] _
  refine zw_putR (pc := 53) (x := zn (zk_Group_9 M q )) (Or.inr ⟨g_Group_26, rfl, rfl, rfl⟩) rfl (he11.q hq hqk) (fun _ => rfl) (fun _ => rfl) (zdal_p dlA_Group_init_8 (i := 1) rfl) ?_
  have he12 : zExt M (zk_Group_12 M q ) 8 (0 + 1 + (0 + 4) + 1 + (0 + 24) + 1 + (0 + 576) + 1 + (0 + 24)) q := he11.put
  have kf12_0 : zf (zk_Group_12 M q ) q 0 = some (zn (M)) := (zup2_n (fun z => absurd z.2 (by decide))).trans kf11_0
  have kf12_1 : zf (zk_Group_12 M q ) q 1 = some (zn (zk_Group_3 M q )) := (zup2_n (fun z => absurd z.2 (by decide))).trans kf11_1
  have kf12_2 : zf (zk_Group_12 M q ) q 2 = some (zn (zk_Group_6 M q )) := (zup2_n (fun z => absurd z.2 (by decide))).trans kf11_2
  show zW l m_Group_init (zn M + 10, zw M + (0 + 1 + (0 + 4) + 1 + (0 + 24) + 1 + (0 + 576) + 1 + (0 + 24) + 1 + (0 + 24))) (zk_Group_12 M q ) 56 [some (.ref q)] [] _
  have kn12 : zf (zk_Group_12 M q ) q 3 = some (zn (zk_Group_9 M q )) := zup2_s
  refine zw_aload_n (pc := 56) (n := 0) (x := q) rfl (zdal_p dlA_Group_init_8 (i := 2) rfl) ?_
  refine zw_new (pc := 57) (ci := 2) (by decide) n_Group_9 (by have := he12.1; omega) (by have := he12.1; show _ ≤ zn M + 10; omega) (by have := he12.2.1; show _ + 1 ≤ zw M + (0 + 1 + (0 + 4) + 1 + (0 + 24) + 1 + (0 + 576) + 1 + (0 + 24) + 1 + (0 + 24)); omega) (by decide) (zdal_p dlA_Group_init_8 (i := 3) rfl) ?_
  have he13 : zExt M (zk_Group_13 M q ) 9 (0 + 1 + (0 + 4) + 1 + (0 + 24) + 1 + (0 + 576) + 1 + (0 + 24) + 1) q := he12.al
  have kf13_0 : zf (zk_Group_13 M q ) q 0 = some (zn (M)) := (congrFun (zal_old (by have := he12.1; (exact zo_1497 hm hq this))).2 0).trans kf12_0
  have kf13_1 : zf (zk_Group_13 M q ) q 1 = some (zn (zk_Group_3 M q )) := (congrFun (zal_old (by have := he12.1; (exact zo_1497 hm hq this))).2 1).trans kf12_1
  have kf13_2 : zf (zk_Group_13 M q ) q 2 = some (zn (zk_Group_6 M q )) := (congrFun (zal_old (by have := he12.1; (exact zo_1497 hm hq this))).2 2).trans kf12_2
  have kf13_3 : zf (zk_Group_13 M q ) q 3 = some (zn (zk_Group_9 M q )) := (congrFun (zal_old (by have := he12.1; (exact zo_1497 hm hq this))).2 3).trans kn12
  show zW l m_Group_init (zn M + 10, zw M + (0 + 1 + (0 + 4) + 1 + (0 + 24) + 1 + (0 + 576) + 1 + (0 + 24) + 1 + (0 + 24))) (zk_Group_13 M q ) 60 [some (.ref q)] [.ref (zn (zk_Group_12 M q )), .ref q] _
  refine zw_dup (pc := 60) rfl (zdal_p dlA_Group_init_8 (i := 4) rfl) ?_
  refine zw_bipush (pc := 61) (v := nI 24) (by decide) (zdal_p dlA_Group_init_8 (i := 5) rfl) ?_
  refine zw_callI (pc := 63) (mc := 1) (ms := (0 + 24)) (b := zn (zk_Group_12 M q )) [.int (nI 24)] [.ref (zn (zk_Group_12 M q )), .ref q] l_Group_11 (k_IntRow l (zk_Group_13 M q ) (zn (zk_Group_12 M q )) (by have := he13.1; show zn (zk_Group_12 M q ) < zn (zk_Group_12 M q ) + 1; (exact zo_1083)) (congrArg Prod.fst (zal_sh (M := zk_Group_12 M q ) (t := 5) (n := 1))) 24 (by decide) (by have := he13.1; omega)) rfl rfl (by decide) ⟨by have := he13.1; show _ ≤ zn M + 10; omega, by have := he13.2.1; show _ ≤ zw M + (0 + 1 + (0 + 4) + 1 + (0 + 24) + 1 + (0 + 576) + 1 + (0 + 24) + 1 + (0 + 24)); omega⟩ (Nat.le_of_ble_eq_true rfl) (zdal_p dlA_Group_init_8 (i := 6) rfl) (fun r M9 h9 _ _ => ?_)
  obtain ⟨rfl, rfl⟩ := h9
  have he14 : zExt M (zk_Group_14 M q ) 10 (0 + 1 + (0 + 4) + 1 + (0 + 24) + 1 + (0 + 576) + 1 + (0 + 24) + 1 + (0 + 24)) q := he13.call (ext_IntRow (zk_Group_13 M q ) (zn (zk_Group_12 M q )) 24) (by have := he12.1; omega)
  have kf14_0 : zf (zk_Group_14 M q ) q 0 = some (zn (M)) := (congrFun ((ext_IntRow (zk_Group_13 M q ) (zn (zk_Group_12 M q )) 24).2.2.2 q (by have := he13.1; (exact zo_1502 hm hq this)) (by have := he12.1; (exact zo_1503 hq this))) 0).trans kf13_0
  have kf14_1 : zf (zk_Group_14 M q ) q 1 = some (zn (zk_Group_3 M q )) := (congrFun ((ext_IntRow (zk_Group_13 M q ) (zn (zk_Group_12 M q )) 24).2.2.2 q (by have := he13.1; (exact zo_1502 hm hq this)) (by have := he12.1; (exact zo_1503 hq this))) 1).trans kf13_1
  have kf14_2 : zf (zk_Group_14 M q ) q 2 = some (zn (zk_Group_6 M q )) := (congrFun ((ext_IntRow (zk_Group_13 M q ) (zn (zk_Group_12 M q )) 24).2.2.2 q (by have := he13.1; (exact zo_1502 hm hq this)) (by have := he12.1; (exact zo_1503 hq this))) 2).trans kf13_2
  have kf14_3 : zf (zk_Group_14 M q ) q 3 = some (zn (zk_Group_9 M q )) := (congrFun ((ext_IntRow (zk_Group_13 M q ) (zn (zk_Group_12 M q )) 24).2.2.2 q (by have := he13.1; (exact zo_1502 hm hq this)) (by have := he12.1; (exact zo_1503 hq this))) 3).trans kf13_3
  show zW l m_Group_init (zn M + 10, zw M + (0 + 1 + (0 + 4) + 1 + (0 + 24) + 1 + (0 + 576) + 1 + (0 + 24) + 1 + (0 + 24))) (zk_Group_14 M q ) 66 [some (.ref q)] [.ref (zn (zk_Group_12 M q )), .ref q] _
  refine zw_putR (pc := 66) (x := zn (zk_Group_12 M q )) (Or.inr ⟨g_Group_29, rfl, rfl, rfl⟩) rfl (he14.q hq hqk) (fun _ => rfl) (fun _ => rfl) (zdal_p dlA_Group_init_8 (i := 7) rfl) ?_
  have he15 : zExt M (zk_Group_15 M q ) 10 (0 + 1 + (0 + 4) + 1 + (0 + 24) + 1 + (0 + 576) + 1 + (0 + 24) + 1 + (0 + 24)) q := he14.put
  have kf15_0 : zf (zk_Group_15 M q ) q 0 = some (zn (M)) := (zup2_n (fun z => absurd z.2 (by decide))).trans kf14_0
  have kf15_1 : zf (zk_Group_15 M q ) q 1 = some (zn (zk_Group_3 M q )) := (zup2_n (fun z => absurd z.2 (by decide))).trans kf14_1
  have kf15_2 : zf (zk_Group_15 M q ) q 2 = some (zn (zk_Group_6 M q )) := (zup2_n (fun z => absurd z.2 (by decide))).trans kf14_2
  have kf15_3 : zf (zk_Group_15 M q ) q 3 = some (zn (zk_Group_9 M q )) := (zup2_n (fun z => absurd z.2 (by decide))).trans kf14_3
  show zW l m_Group_init (zn M + 10, zw M + (0 + 1 + (0 + 4) + 1 + (0 + 24) + 1 + (0 + 576) + 1 + (0 + 24) + 1 + (0 + 24))) (zk_Group_15 M q ) 69 [some (.ref q)] [] _
  have kn15 : zf (zk_Group_15 M q ) q 4 = some (zn (zk_Group_12 M q )) := zup2_s
  exact zw_vret (S := []) (pc := 69) rfl (zdal_p dlA_Group_init_8 (i := 8) rfl) ⟨rfl, rfl⟩
def zk_Sorts_1 (M : zMem) (q : Nat) (a0 : Nat) : zMem := zal (M) 5 1
def zk_Sorts_2 (M : zMem) (q : Nat) (a0 : Nat) : zMem := zk_IntRow (zk_Sorts_1 M q a0) (zn (M)) 35
def zk_Sorts_3 (M : zMem) (q : Nat) (a0 : Nat) : zMem := zsF (zk_Sorts_2 M q a0) q 1 (some (zn (M)))
def zk_Sorts_4 (M : zMem) (q : Nat) (a0 : Nat) : zMem := zal (zk_Sorts_3 M q a0) 5 1
def zk_Sorts_5 (M : zMem) (q : Nat) (a0 : Nat) : zMem := zk_IntRow (zk_Sorts_4 M q a0) (zn (zk_Sorts_3 M q a0)) 35
def zk_Sorts_6 (M : zMem) (q : Nat) (a0 : Nat) : zMem := zsF (zk_Sorts_5 M q a0) q 2 (some (zn (zk_Sorts_3 M q a0)))
def zk_Sorts_7 (M : zMem) (q : Nat) (a0 : Nat) : zMem := zal (zk_Sorts_6 M q a0) 5 1
def zk_Sorts_8 (M : zMem) (q : Nat) (a0 : Nat) : zMem := zk_IntRow (zk_Sorts_7 M q a0) (zn (zk_Sorts_6 M q a0)) 35
def zk_Sorts_9 (M : zMem) (q : Nat) (a0 : Nat) : zMem := zsF (zk_Sorts_8 M q a0) q 3 (some (zn (zk_Sorts_6 M q a0)))
def zk_Sorts_10 (M : zMem) (q : Nat) (a0 : Nat) : zMem := zal (zk_Sorts_9 M q a0) 5 1
def zk_Sorts_11 (M : zMem) (q : Nat) (a0 : Nat) : zMem := zk_IntRow (zk_Sorts_10 M q a0) (zn (zk_Sorts_9 M q a0)) 27
def zk_Sorts_12 (M : zMem) (q : Nat) (a0 : Nat) : zMem := zsF (zk_Sorts_11 M q a0) q 4 (some (zn (zk_Sorts_9 M q a0)))
def zk_Sorts_13 (M : zMem) (q : Nat) (a0 : Nat) : zMem := zal (zk_Sorts_12 M q a0) 5 1
def zk_Sorts_14 (M : zMem) (q : Nat) (a0 : Nat) : zMem := zk_IntRow (zk_Sorts_13 M q a0) (zn (zk_Sorts_12 M q a0)) 729
def zk_Sorts_15 (M : zMem) (q : Nat) (a0 : Nat) : zMem := zsF (zk_Sorts_14 M q a0) q 5 (some (zn (zk_Sorts_12 M q a0)))
def zk_Sorts_16 (M : zMem) (q : Nat) (a0 : Nat) : zMem := zsF (zk_Sorts_15 M q a0) q 0 (some (a0))
def zk_Sorts (M : zMem) (q : Nat) (a0 : Nat) : zMem := zk_Sorts_16 M q a0
set_option maxRecDepth 20000 in
theorem ext_Sorts (M : zMem) (q : Nat) (a0 : Nat) : zExt M (zk_Sorts M q a0) 10 (0 + 1 + (0 + 35) + 1 + (0 + 35) + 1 + (0 + 35) + 1 + (0 + 27) + 1 + (0 + 729)) q := by
  have he0 : zExt M M 0 0 q := zExt.rf
  have he1 : zExt M (zk_Sorts_1 M q a0) 1 (0 + 1) q := he0.al
  have he2 : zExt M (zk_Sorts_2 M q a0) 2 (0 + 1 + (0 + 35)) q := he1.call (ext_IntRow (zk_Sorts_1 M q a0) (zn (M)) 35) (by have := he0.1; (exact zo_1447))
  have he3 : zExt M (zk_Sorts_3 M q a0) 2 (0 + 1 + (0 + 35)) q := he2.put
  have he4 : zExt M (zk_Sorts_4 M q a0) 3 (0 + 1 + (0 + 35) + 1) q := he3.al
  have he5 : zExt M (zk_Sorts_5 M q a0) 4 (0 + 1 + (0 + 35) + 1 + (0 + 35)) q := he4.call (ext_IntRow (zk_Sorts_4 M q a0) (zn (zk_Sorts_3 M q a0)) 35) (by have := he3.1; (exact zo_1454 this))
  have he6 : zExt M (zk_Sorts_6 M q a0) 4 (0 + 1 + (0 + 35) + 1 + (0 + 35)) q := he5.put
  have he7 : zExt M (zk_Sorts_7 M q a0) 5 (0 + 1 + (0 + 35) + 1 + (0 + 35) + 1) q := he6.al
  have he8 : zExt M (zk_Sorts_8 M q a0) 6 (0 + 1 + (0 + 35) + 1 + (0 + 35) + 1 + (0 + 35)) q := he7.call (ext_IntRow (zk_Sorts_7 M q a0) (zn (zk_Sorts_6 M q a0)) 35) (by have := he6.1; omega)
  have he9 : zExt M (zk_Sorts_9 M q a0) 6 (0 + 1 + (0 + 35) + 1 + (0 + 35) + 1 + (0 + 35)) q := he8.put
  have he10 : zExt M (zk_Sorts_10 M q a0) 7 (0 + 1 + (0 + 35) + 1 + (0 + 35) + 1 + (0 + 35) + 1) q := he9.al
  have he11 : zExt M (zk_Sorts_11 M q a0) 8 (0 + 1 + (0 + 35) + 1 + (0 + 35) + 1 + (0 + 35) + 1 + (0 + 27)) q := he10.call (ext_IntRow (zk_Sorts_10 M q a0) (zn (zk_Sorts_9 M q a0)) 27) (by have := he9.1; omega)
  have he12 : zExt M (zk_Sorts_12 M q a0) 8 (0 + 1 + (0 + 35) + 1 + (0 + 35) + 1 + (0 + 35) + 1 + (0 + 27)) q := he11.put
  have he13 : zExt M (zk_Sorts_13 M q a0) 9 (0 + 1 + (0 + 35) + 1 + (0 + 35) + 1 + (0 + 35) + 1 + (0 + 27) + 1) q := he12.al
  have he14 : zExt M (zk_Sorts_14 M q a0) 10 (0 + 1 + (0 + 35) + 1 + (0 + 35) + 1 + (0 + 35) + 1 + (0 + 27) + 1 + (0 + 729)) q := he13.call (ext_IntRow (zk_Sorts_13 M q a0) (zn (zk_Sorts_12 M q a0)) 729) (by have := he12.1; omega)
  have he15 : zExt M (zk_Sorts_15 M q a0) 10 (0 + 1 + (0 + 35) + 1 + (0 + 35) + 1 + (0 + 35) + 1 + (0 + 27) + 1 + (0 + 729)) q := he14.put
  have he16 : zExt M (zk_Sorts_16 M q a0) 10 (0 + 1 + (0 + 35) + 1 + (0 + 35) + 1 + (0 + 35) + 1 + (0 + 27) + 1 + (0 + 729)) q := he15.put
  exact he16
set_option maxRecDepth 20000 in
set_option maxHeartbeats 4000000 in
theorem k_Sorts (l : Launch) (M : zMem) (q : Nat) (hq : q < zn M) (hqk : (zsh M q).1 = 6 + 3) (a0 : Nat) (hm : zn M + 10 < 1000000) : zC l m_Sorts_init 10 (0 + 1 + (0 + 35) + 1 + (0 + 35) + 1 + (0 + 35) + 1 + (0 + 27) + 1 + (0 + 729)) [.ref q, .ref a0] M (fun r M' => r = none ∧ M' = zk_Sorts M q a0) := by
  have hex := ext_Sorts M q a0
  refine zC_of (L0 := [some (.ref q), some (.ref a0)]) md_Sorts_init (Nat.le_of_ble_eq_true rfl) rfl ?_ (fun r M' h _ => by obtain ⟨-, rfl⟩ := h; exact ⟨hex.1, hex.2.1⟩)
  have he0 : zExt M M 0 0 q := zExt.rf
  refine zw_aload_n (pc := 0) (n := 0) (x := q) rfl (zdal_p dlA_Sorts_init_9 (i := 0) rfl) ?_
  refine zw_objInit (pc := 1) o_Sorts_3 o_in o_co (by decide) (Nat.le_of_ble_eq_true rfl) (zdal_p dlA_Sorts_init_9 (i := 1) rfl) ?_
  refine zw_aload_n (pc := 4) (n := 0) (x := q) rfl (zdal_p dlA_Sorts_init_9 (i := 2) rfl) ?_
  refine zw_new (pc := 5) (ci := 2) (by decide) n_Sorts_9 (by have := he0.1; omega) (by have := he0.1; show _ ≤ zn M + 10; omega) (by have := he0.2.1; show _ + 1 ≤ zw M + (0 + 1 + (0 + 35) + 1 + (0 + 35) + 1 + (0 + 35) + 1 + (0 + 27) + 1 + (0 + 729)); omega) (by decide) (zdal_p dlA_Sorts_init_9 (i := 3) rfl) ?_
  have he1 : zExt M (zk_Sorts_1 M q a0) 1 (0 + 1) q := he0.al
  show zW l m_Sorts_init (zn M + 10, zw M + (0 + 1 + (0 + 35) + 1 + (0 + 35) + 1 + (0 + 35) + 1 + (0 + 27) + 1 + (0 + 729))) (zk_Sorts_1 M q a0) 8 [some (.ref q), some (.ref a0)] [.ref (zn (M)), .ref q] _
  refine zw_dup (pc := 8) rfl (zdal_p dlA_Sorts_init_9 (i := 4) rfl) ?_
  refine zw_bipush (pc := 9) (v := nI 35) (by decide) (zdal_p dlA_Sorts_init_9 (i := 5) rfl) ?_
  refine zw_callI (pc := 11) (mc := 1) (ms := (0 + 35)) (b := zn (M)) [.int (nI 35)] [.ref (zn (M)), .ref q] l_Sorts_11 (k_IntRow l (zk_Sorts_1 M q a0) (zn (M)) (by have := he1.1; show zn (M) < zn (M) + 1; (exact zo_1083)) (congrArg Prod.fst (zal_sh (M := M) (t := 5) (n := 1))) 35 (by decide) (by have := he1.1; omega)) rfl rfl (by decide) ⟨by have := he1.1; show _ ≤ zn M + 10; omega, by have := he1.2.1; show _ ≤ zw M + (0 + 1 + (0 + 35) + 1 + (0 + 35) + 1 + (0 + 35) + 1 + (0 + 27) + 1 + (0 + 729)); omega⟩ (Nat.le_of_ble_eq_true rfl) (zdal_p dlA_Sorts_init_9 (i := 6) rfl) (fun r M9 h9 _ _ => ?_)
  obtain ⟨rfl, rfl⟩ := h9
  have he2 : zExt M (zk_Sorts_2 M q a0) 2 (0 + 1 + (0 + 35)) q := he1.call (ext_IntRow (zk_Sorts_1 M q a0) (zn (M)) 35) (by have := he0.1; (exact zo_1447))
  show zW l m_Sorts_init (zn M + 10, zw M + (0 + 1 + (0 + 35) + 1 + (0 + 35) + 1 + (0 + 35) + 1 + (0 + 27) + 1 + (0 + 729))) (zk_Sorts_2 M q a0) 14 [some (.ref q), some (.ref a0)] [.ref (zn (M)), .ref q] _
  refine zw_putR (pc := 14) (x := zn (M)) (Or.inr ⟨g_Sorts_14, rfl, rfl, rfl⟩) rfl (he2.q hq hqk) (fun _ => rfl) (fun _ => rfl) (zdal_p dlA_Sorts_init_9 (i := 7) rfl) ?_
  have he3 : zExt M (zk_Sorts_3 M q a0) 2 (0 + 1 + (0 + 35)) q := he2.put
  show zW l m_Sorts_init (zn M + 10, zw M + (0 + 1 + (0 + 35) + 1 + (0 + 35) + 1 + (0 + 35) + 1 + (0 + 27) + 1 + (0 + 729))) (zk_Sorts_3 M q a0) 17 [some (.ref q), some (.ref a0)] [] _
  have kn3 : zf (zk_Sorts_3 M q a0) q 1 = some (zn (M)) := zup2_s
  refine zw_aload_n (pc := 17) (n := 0) (x := q) rfl (zdal_p dlA_Sorts_init_9 (i := 8) rfl) ?_
  refine zw_new (pc := 18) (ci := 2) (by decide) n_Sorts_9 (by have := he3.1; omega) (by have := he3.1; show _ ≤ zn M + 10; omega) (by have := he3.2.1; show _ + 1 ≤ zw M + (0 + 1 + (0 + 35) + 1 + (0 + 35) + 1 + (0 + 35) + 1 + (0 + 27) + 1 + (0 + 729)); omega) (by decide) (zdal_p dlA_Sorts_init_9 (i := 9) rfl) ?_
  have he4 : zExt M (zk_Sorts_4 M q a0) 3 (0 + 1 + (0 + 35) + 1) q := he3.al
  have kf4_1 : zf (zk_Sorts_4 M q a0) q 1 = some (zn (M)) := (congrFun (zal_old (by have := he3.1; omega)).2 1).trans kn3
  show zW l m_Sorts_init (zn M + 10, zw M + (0 + 1 + (0 + 35) + 1 + (0 + 35) + 1 + (0 + 35) + 1 + (0 + 27) + 1 + (0 + 729))) (zk_Sorts_4 M q a0) 21 [some (.ref q), some (.ref a0)] [.ref (zn (zk_Sorts_3 M q a0)), .ref q] _
  refine zw_dup (pc := 21) rfl (zdal_p dlA_Sorts_init_9 (i := 10) rfl) ?_
  refine zw_bipush (pc := 22) (v := nI 35) (by decide) (zdal_p dlA_Sorts_init_9 (i := 11) rfl) ?_
  refine zw_callI (pc := 24) (mc := 1) (ms := (0 + 35)) (b := zn (zk_Sorts_3 M q a0)) [.int (nI 35)] [.ref (zn (zk_Sorts_3 M q a0)), .ref q] l_Sorts_11 (k_IntRow l (zk_Sorts_4 M q a0) (zn (zk_Sorts_3 M q a0)) (by have := he4.1; show zn (zk_Sorts_3 M q a0) < zn (zk_Sorts_3 M q a0) + 1; (exact zo_1083)) (congrArg Prod.fst (zal_sh (M := zk_Sorts_3 M q a0) (t := 5) (n := 1))) 35 (by decide) (by have := he4.1; omega)) rfl rfl (by decide) ⟨by have := he4.1; show _ ≤ zn M + 10; omega, by have := he4.2.1; show _ ≤ zw M + (0 + 1 + (0 + 35) + 1 + (0 + 35) + 1 + (0 + 35) + 1 + (0 + 27) + 1 + (0 + 729)); omega⟩ (Nat.le_of_ble_eq_true rfl) (zdal_p dlA_Sorts_init_9 (i := 12) rfl) (fun r M9 h9 _ _ => ?_)
  obtain ⟨rfl, rfl⟩ := h9
  have he5 : zExt M (zk_Sorts_5 M q a0) 4 (0 + 1 + (0 + 35) + 1 + (0 + 35)) q := he4.call (ext_IntRow (zk_Sorts_4 M q a0) (zn (zk_Sorts_3 M q a0)) 35) (by have := he3.1; omega)
  have kf5_1 : zf (zk_Sorts_5 M q a0) q 1 = some (zn (M)) := (congrFun ((ext_IntRow (zk_Sorts_4 M q a0) (zn (zk_Sorts_3 M q a0)) 35).2.2.2 q (by have := he4.1; omega) (by have := he3.1; (exact zo_1473 hq this))) 1).trans kf4_1
  show zW l m_Sorts_init (zn M + 10, zw M + (0 + 1 + (0 + 35) + 1 + (0 + 35) + 1 + (0 + 35) + 1 + (0 + 27) + 1 + (0 + 729))) (zk_Sorts_5 M q a0) 27 [some (.ref q), some (.ref a0)] [.ref (zn (zk_Sorts_3 M q a0)), .ref q] _
  refine zw_putR (pc := 27) (x := zn (zk_Sorts_3 M q a0)) (Or.inr ⟨g_Sorts_20, rfl, rfl, rfl⟩) rfl (he5.q hq hqk) (fun _ => rfl) (fun _ => rfl) (zdal_p dlA_Sorts_init_9 (i := 13) rfl) ?_
  have he6 : zExt M (zk_Sorts_6 M q a0) 4 (0 + 1 + (0 + 35) + 1 + (0 + 35)) q := he5.put
  have kf6_1 : zf (zk_Sorts_6 M q a0) q 1 = some (zn (M)) := (zup2_n (fun z => absurd z.2 (by decide))).trans kf5_1
  show zW l m_Sorts_init (zn M + 10, zw M + (0 + 1 + (0 + 35) + 1 + (0 + 35) + 1 + (0 + 35) + 1 + (0 + 27) + 1 + (0 + 729))) (zk_Sorts_6 M q a0) 30 [some (.ref q), some (.ref a0)] [] _
  have kn6 : zf (zk_Sorts_6 M q a0) q 2 = some (zn (zk_Sorts_3 M q a0)) := zup2_s
  refine zw_aload_n (pc := 30) (n := 0) (x := q) rfl (zdal_p dlA_Sorts_init_9 (i := 14) rfl) ?_
  refine zw_new (pc := 31) (ci := 2) (by decide) n_Sorts_9 (by have := he6.1; omega) (by have := he6.1; show _ ≤ zn M + 10; omega) (by have := he6.2.1; show _ + 1 ≤ zw M + (0 + 1 + (0 + 35) + 1 + (0 + 35) + 1 + (0 + 35) + 1 + (0 + 27) + 1 + (0 + 729)); omega) (by decide) (zdal_p dlA_Sorts_init_9 (i := 15) rfl) ?_
  have he7 : zExt M (zk_Sorts_7 M q a0) 5 (0 + 1 + (0 + 35) + 1 + (0 + 35) + 1) q := he6.al
  have kf7_1 : zf (zk_Sorts_7 M q a0) q 1 = some (zn (M)) := (congrFun (zal_old (by have := he6.1; (exact zo_1477 hm hq this))).2 1).trans kf6_1
  have kf7_2 : zf (zk_Sorts_7 M q a0) q 2 = some (zn (zk_Sorts_3 M q a0)) := (congrFun (zal_old (by have := he6.1; (exact zo_1477 hm hq this))).2 2).trans kn6
  show zW l m_Sorts_init (zn M + 10, zw M + (0 + 1 + (0 + 35) + 1 + (0 + 35) + 1 + (0 + 35) + 1 + (0 + 27) + 1 + (0 + 729))) (zk_Sorts_7 M q a0) 34 [some (.ref q), some (.ref a0)] [.ref (zn (zk_Sorts_6 M q a0)), .ref q] _
  refine zw_dup (pc := 34) rfl (zdal_p dlA_Sorts_init_9 (i := 16) rfl) ?_
  refine zw_bipush (pc := 35) (v := nI 35) (by decide) (zdal_p dlA_Sorts_init_9 (i := 17) rfl) ?_
  refine zw_callI (pc := 37) (mc := 1) (ms := (0 + 35)) (b := zn (zk_Sorts_6 M q a0)) [.int (nI 35)] [.ref (zn (zk_Sorts_6 M q a0)), .ref q] l_Sorts_11 (k_IntRow l (zk_Sorts_7 M q a0) (zn (zk_Sorts_6 M q a0)) (by have := he7.1; show zn (zk_Sorts_6 M q a0) < zn (zk_Sorts_6 M q a0) + 1; (exact zo_1083)) (congrArg Prod.fst (zal_sh (M := zk_Sorts_6 M q a0) (t := 5) (n := 1))) 35 (by decide) (by have := he7.1; omega)) rfl rfl (by decide) ⟨by have := he7.1; show _ ≤ zn M + 10; omega, by have := he7.2.1; show _ ≤ zw M + (0 + 1 + (0 + 35) + 1 + (0 + 35) + 1 + (0 + 35) + 1 + (0 + 27) + 1 + (0 + 729)); omega⟩ (Nat.le_of_ble_eq_true rfl) (zdal_p dlA_Sorts_init_9 (i := 18) rfl) (fun r M9 h9 _ _ => ?_)
  obtain ⟨rfl, rfl⟩ := h9
  have he8 : zExt M (zk_Sorts_8 M q a0) 6 (0 + 1 + (0 + 35) + 1 + (0 + 35) + 1 + (0 + 35)) q := he7.call (ext_IntRow (zk_Sorts_7 M q a0) (zn (zk_Sorts_6 M q a0)) 35) (by have := he6.1; omega)
  have kf8_1 : zf (zk_Sorts_8 M q a0) q 1 = some (zn (M)) := (congrFun ((ext_IntRow (zk_Sorts_7 M q a0) (zn (zk_Sorts_6 M q a0)) 35).2.2.2 q (by have := he7.1; (exact zo_1482 hm hq this)) (by have := he6.1; (exact zo_1483 hq this))) 1).trans kf7_1
  have kf8_2 : zf (zk_Sorts_8 M q a0) q 2 = some (zn (zk_Sorts_3 M q a0)) := (congrFun ((ext_IntRow (zk_Sorts_7 M q a0) (zn (zk_Sorts_6 M q a0)) 35).2.2.2 q (by have := he7.1; (exact zo_1482 hm hq this)) (by have := he6.1; (exact zo_1483 hq this))) 2).trans kf7_2
  show zW l m_Sorts_init (zn M + 10, zw M + (0 + 1 + (0 + 35) + 1 + (0 + 35) + 1 + (0 + 35) + 1 + (0 + 27) + 1 + (0 + 729))) (zk_Sorts_8 M q a0) 40 [some (.ref q), some (.ref a0)] [.ref (zn (zk_Sorts_6 M q a0)), .ref q] _
  refine zw_putR (pc := 40) (x := zn (zk_Sorts_6 M q a0)) (Or.inr ⟨g_Sorts_23, rfl, rfl, rfl⟩) rfl (he8.q hq hqk) (fun _ => rfl) (fun _ => rfl) (zdal_p dlA_Sorts_init_9 (i := 19) rfl) ?_
  have he9 : zExt M (zk_Sorts_9 M q a0) 6 (0 + 1 + (0 + 35) + 1 + (0 + 35) + 1 + (0 + 35)) q := he8.put
  have kf9_1 : zf (zk_Sorts_9 M q a0) q 1 = some (zn (M)) := (zup2_n (fun z => absurd z.2 (by decide))).trans kf8_1
  have kf9_2 : zf (zk_Sorts_9 M q a0) q 2 = some (zn (zk_Sorts_3 M q a0)) := (zup2_n (fun z => absurd z.2 (by decide))).trans kf8_2
  show zW l m_Sorts_init (zn M + 10, zw M + (0 + 1 + (0 + 35) + 1 + (0 + 35) + 1 + (0 + 35) + 1 + (0 + 27) + 1 + (0 + 729))) (zk_Sorts_9 M q a0) 43 [some (.ref q), some (.ref a0)] [] _
  have kn9 : zf (zk_Sorts_9 M q a0) q 3 = some (zn (zk_Sorts_6 M q a0)) := zup2_s
  refine zw_aload_n (pc := 43) (n := 0) (x := q) rfl (zdal_p dlA_Sorts_init_9 (i := 20) rfl) ?_
  refine zw_new (pc := 44) (ci := 2) (by decide) n_Sorts_9 (by have := he9.1; omega) (by have := he9.1; show _ ≤ zn M + 10; omega) (by have := he9.2.1; show _ + 1 ≤ zw M + (0 + 1 + (0 + 35) + 1 + (0 + 35) + 1 + (0 + 35) + 1 + (0 + 27) + 1 + (0 + 729)); omega) (by decide) (zdal_p dlA_Sorts_init_9 (i := 21) rfl) ?_
  have he10 : zExt M (zk_Sorts_10 M q a0) 7 (0 + 1 + (0 + 35) + 1 + (0 + 35) + 1 + (0 + 35) + 1) q := he9.al
  have kf10_1 : zf (zk_Sorts_10 M q a0) q 1 = some (zn (M)) := (congrFun (zal_old (by have := he9.1; (exact zo_1487 hm hq this))).2 1).trans kf9_1
  have kf10_2 : zf (zk_Sorts_10 M q a0) q 2 = some (zn (zk_Sorts_3 M q a0)) := (congrFun (zal_old (by have := he9.1; (exact zo_1487 hm hq this))).2 2).trans kf9_2
  have kf10_3 : zf (zk_Sorts_10 M q a0) q 3 = some (zn (zk_Sorts_6 M q a0)) := (congrFun (zal_old (by have := he9.1; (exact zo_1487 hm hq this))).2 3).trans kn9
  show zW l m_Sorts_init (zn M + 10, zw M + (0 + 1 + (0 + 35) + 1 + (0 + 35) + 1 + (0 + 35) + 1 + (0 + 27) + 1 + (0 + 729))) (zk_Sorts_10 M q a0) 47 [some (.ref q), some (.ref a0)] [.ref (zn (zk_Sorts_9 M q a0)), .ref q] _
  refine zw_dup (pc := 47) rfl (zdal_p dlA_Sorts_init_9 (i := 22) rfl) ?_
  refine zw_bipush (pc := 48) (v := nI 27) (by decide) (zdal_p dlA_Sorts_init_9 (i := 23) rfl) ?_
  refine zw_callI (pc := 50) (mc := 1) (ms := (0 + 27)) (b := zn (zk_Sorts_9 M q a0)) [.int (nI 27)] [.ref (zn (zk_Sorts_9 M q a0)), .ref q] l_Sorts_11 (k_IntRow l (zk_Sorts_10 M q a0) (zn (zk_Sorts_9 M q a0)) (by have := he10.1; show zn (zk_Sorts_9 M q a0) < zn (zk_Sorts_9 M q a0) + 1; (exact zo_1083)) (congrArg Prod.fst (zal_sh (M := zk_Sorts_9 M q a0) (t := 5) (n := 1))) 27 (by decide) (by have := he10.1; omega)) rfl rfl (by decide) ⟨by have := he10.1; show _ ≤ zn M + 10; omega, by have := he10.2.1; show _ ≤ zw M + (0 + 1 + (0 + 35) + 1 + (0 + 35) + 1 + (0 + 35) + 1 + (0 + 27) + 1 + (0 + 729)); omega⟩ (Nat.le_of_ble_eq_true rfl) (zdal_p dlA_Sorts_init_10 (i := 0) rfl) (fun r M9 h9 _ _ => ?_)
  obtain ⟨rfl, rfl⟩ := h9
  have he11 : zExt M (zk_Sorts_11 M q a0) 8 (0 + 1 + (0 + 35) + 1 + (0 + 35) + 1 + (0 + 35) + 1 + (0 + 27)) q := he10.call (ext_IntRow (zk_Sorts_10 M q a0) (zn (zk_Sorts_9 M q a0)) 27) (by have := he9.1; omega)
  have kf11_1 : zf (zk_Sorts_11 M q a0) q 1 = some (zn (M)) := (congrFun ((ext_IntRow (zk_Sorts_10 M q a0) (zn (zk_Sorts_9 M q a0)) 27).2.2.2 q (by have := he10.1; (exact zo_1492 hm hq this)) (by have := he9.1; (exact zo_1493 hq this))) 1).trans kf10_1
  have kf11_2 : zf (zk_Sorts_11 M q a0) q 2 = some (zn (zk_Sorts_3 M q a0)) := (congrFun ((ext_IntRow (zk_Sorts_10 M q a0) (zn (zk_Sorts_9 M q a0)) 27).2.2.2 q (by have := he10.1; (exact zo_1492 hm hq this)) (by have := he9.1; (exact zo_1493 hq this))) 2).trans kf10_2
  have kf11_3 : zf (zk_Sorts_11 M q a0) q 3 = some (zn (zk_Sorts_6 M q a0)) := (congrFun ((ext_IntRow (zk_Sorts_10 M q a0) (zn (zk_Sorts_9 M q a0)) 27).2.2.2 q (by have := he10.1; (exact zo_1492 hm hq this)) (by have := he9.1; (exact zo_1493 hq this))) 3).trans kf10_3
  show zW l m_Sorts_init (zn M + 10, zw M + (0 + 1 + (0 + 35) + 1 + (0 + 35) + 1 + (0 + 35) + 1 + (0 + 27) + 1 + (0 + 729))) (zk_Sorts_11 M q a0) 53 [some (.ref q), some (.ref a0)] [.ref (zn (zk_Sorts_9 M q a0)), .ref q] _
  refine zw_putR (pc := 53) (x := zn (zk_Sorts_9 M q a0)) (Or.inr ⟨g_Sorts_26, rfl, rfl, rfl⟩) rfl (he11.q hq hqk) (fun _ => rfl) (fun _ => rfl) (zdal_p dlA_Sorts_init_10 (i := 1) rfl) ?_
  have he12 : zExt M (zk_Sorts_12 M q a0) 8 (0 + 1 + (0 + 35) + 1 + (0 + 35) + 1 + (0 + 35) + 1 + (0 + 27)) q := he11.put
  have kf12_1 : zf (zk_Sorts_12 M q a0) q 1 = some (zn (M)) := (zup2_n (fun z => absurd z.2 (by decide))).trans kf11_1
  have kf12_2 : zf (zk_Sorts_12 M q a0) q 2 = some (zn (zk_Sorts_3 M q a0)) := (zup2_n (fun z => absurd z.2 (by decide))).trans kf11_2
  have kf12_3 : zf (zk_Sorts_12 M q a0) q 3 = some (zn (zk_Sorts_6 M q a0)) := (zup2_n (fun z => absurd z.2 (by decide))).trans kf11_3
  show zW l m_Sorts_init (zn M + 10, zw M + (0 + 1 + (0 + 35) + 1 + (0 + 35) + 1 + (0 + 35) + 1 + (0 + 27) + 1 + (0 + 729))) (zk_Sorts_12 M q a0) 56 [some (.ref q), some (.ref a0)] [] _
  have kn12 : zf (zk_Sorts_12 M q a0) q 4 = some (zn (zk_Sorts_9 M q a0)) := zup2_s
  refine zw_aload_n (pc := 56) (n := 0) (x := q) rfl (zdal_p dlA_Sorts_init_10 (i := 2) rfl) ?_
  refine zw_new (pc := 57) (ci := 2) (by decide) n_Sorts_9 (by have := he12.1; omega) (by have := he12.1; show _ ≤ zn M + 10; omega) (by have := he12.2.1; show _ + 1 ≤ zw M + (0 + 1 + (0 + 35) + 1 + (0 + 35) + 1 + (0 + 35) + 1 + (0 + 27) + 1 + (0 + 729)); omega) (by decide) (zdal_p dlA_Sorts_init_10 (i := 3) rfl) ?_
  have he13 : zExt M (zk_Sorts_13 M q a0) 9 (0 + 1 + (0 + 35) + 1 + (0 + 35) + 1 + (0 + 35) + 1 + (0 + 27) + 1) q := he12.al
  have kf13_1 : zf (zk_Sorts_13 M q a0) q 1 = some (zn (M)) := (congrFun (zal_old (by have := he12.1; (exact zo_1497 hm hq this))).2 1).trans kf12_1
  have kf13_2 : zf (zk_Sorts_13 M q a0) q 2 = some (zn (zk_Sorts_3 M q a0)) := (congrFun (zal_old (by have := he12.1; (exact zo_1497 hm hq this))).2 2).trans kf12_2
  have kf13_3 : zf (zk_Sorts_13 M q a0) q 3 = some (zn (zk_Sorts_6 M q a0)) := (congrFun (zal_old (by have := he12.1; (exact zo_1497 hm hq this))).2 3).trans kf12_3
  have kf13_4 : zf (zk_Sorts_13 M q a0) q 4 = some (zn (zk_Sorts_9 M q a0)) := (congrFun (zal_old (by have := he12.1; (exact zo_1497 hm hq this))).2 4).trans kn12
  show zW l m_Sorts_init (zn M + 10, zw M + (0 + 1 + (0 + 35) + 1 + (0 + 35) + 1 + (0 + 35) + 1 + (0 + 27) + 1 + (0 + 729))) (zk_Sorts_13 M q a0) 60 [some (.ref q), some (.ref a0)] [.ref (zn (zk_Sorts_12 M q a0)), .ref q] _
  refine zw_dup (pc := 60) rfl (zdal_p dlA_Sorts_init_10 (i := 4) rfl) ?_
  refine zw_sipush (pc := 61) (v := nI 729) (by decide) (zdal_p dlA_Sorts_init_10 (i := 5) rfl) ?_
  refine zw_callI (pc := 64) (mc := 1) (ms := (0 + 729)) (b := zn (zk_Sorts_12 M q a0)) [.int (nI 729)] [.ref (zn (zk_Sorts_12 M q a0)), .ref q] l_Sorts_11 (k_IntRow l (zk_Sorts_13 M q a0) (zn (zk_Sorts_12 M q a0)) (by have := he13.1; show zn (zk_Sorts_12 M q a0) < zn (zk_Sorts_12 M q a0) + 1; (exact zo_1083)) (congrArg Prod.fst (zal_sh (M := zk_Sorts_12 M q a0) (t := 5) (n := 1))) 729 (by decide) (by have := he13.1; omega)) rfl rfl (by decide) ⟨by have := he13.1; show _ ≤ zn M + 10; omega, by have := he13.2.1; show _ ≤ zw M + (0 + 1 + (0 + 35) + 1 + (0 + 35) + 1 + (0 + 35) + 1 + (0 + 27) + 1 + (0 + 729)); omega⟩ (Nat.le_of_ble_eq_true rfl) (zdal_p dlA_Sorts_init_10 (i := 6) rfl) (fun r M9 h9 _ _ => ?_)
  obtain ⟨rfl, rfl⟩ := h9
  have he14 : zExt M (zk_Sorts_14 M q a0) 10 (0 + 1 + (0 + 35) + 1 + (0 + 35) + 1 + (0 + 35) + 1 + (0 + 27) + 1 + (0 + 729)) q := he13.call (ext_IntRow (zk_Sorts_13 M q a0) (zn (zk_Sorts_12 M q a0)) 729) (by have := he12.1; omega)
  have kf14_1 : zf (zk_Sorts_14 M q a0) q 1 = some (zn (M)) := (congrFun ((ext_IntRow (zk_Sorts_13 M q a0) (zn (zk_Sorts_12 M q a0)) 729).2.2.2 q (by have := he13.1; (exact zo_1502 hm hq this)) (by have := he12.1; (exact zo_1503 hq this))) 1).trans kf13_1
  have kf14_2 : zf (zk_Sorts_14 M q a0) q 2 = some (zn (zk_Sorts_3 M q a0)) := (congrFun ((ext_IntRow (zk_Sorts_13 M q a0) (zn (zk_Sorts_12 M q a0)) 729).2.2.2 q (by have := he13.1; (exact zo_1502 hm hq this)) (by have := he12.1; (exact zo_1503 hq this))) 2).trans kf13_2
  have kf14_3 : zf (zk_Sorts_14 M q a0) q 3 = some (zn (zk_Sorts_6 M q a0)) := (congrFun ((ext_IntRow (zk_Sorts_13 M q a0) (zn (zk_Sorts_12 M q a0)) 729).2.2.2 q (by have := he13.1; (exact zo_1502 hm hq this)) (by have := he12.1; (exact zo_1503 hq this))) 3).trans kf13_3
  have kf14_4 : zf (zk_Sorts_14 M q a0) q 4 = some (zn (zk_Sorts_9 M q a0)) := (congrFun ((ext_IntRow (zk_Sorts_13 M q a0) (zn (zk_Sorts_12 M q a0)) 729).2.2.2 q (by have := he13.1; (exact zo_1502 hm hq this)) (by have := he12.1; (exact zo_1503 hq this))) 4).trans kf13_4
  show zW l m_Sorts_init (zn M + 10, zw M + (0 + 1 + (0 + 35) + 1 + (0 + 35) + 1 + (0 + 35) + 1 + (0 + 27) + 1 + (0 + 729))) (zk_Sorts_14 M q a0) 67 [some (.ref q), some (.ref a0)] [.ref (zn (zk_Sorts_12 M q a0)), .ref q] _
  refine zw_putR (pc := 67) (x := zn (zk_Sorts_12 M q a0)) (Or.inr ⟨g_Sorts_29, rfl, rfl, rfl⟩) rfl (he14.q hq hqk) (fun _ => rfl) (fun _ => rfl) (zdal_p dlA_Sorts_init_10 (i := 7) rfl) ?_
  have he15 : zExt M (zk_Sorts_15 M q a0) 10 (0 + 1 + (0 + 35) + 1 + (0 + 35) + 1 + (0 + 35) + 1 + (0 + 27) + 1 + (0 + 729)) q := he14.put
  have kf15_1 : zf (zk_Sorts_15 M q a0) q 1 = some (zn (M)) := (zup2_n (fun z => absurd z.2 (by decide))).trans kf14_1
  have kf15_2 : zf (zk_Sorts_15 M q a0) q 2 = some (zn (zk_Sorts_3 M q a0)) := (zup2_n (fun z => absurd z.2 (by decide))).trans kf14_2
  have kf15_3 : zf (zk_Sorts_15 M q a0) q 3 = some (zn (zk_Sorts_6 M q a0)) := (zup2_n (fun z => absurd z.2 (by decide))).trans kf14_3
  have kf15_4 : zf (zk_Sorts_15 M q a0) q 4 = some (zn (zk_Sorts_9 M q a0)) := (zup2_n (fun z => absurd z.2 (by decide))).trans kf14_4
  show zW l m_Sorts_init (zn M + 10, zw M + (0 + 1 + (0 + 35) + 1 + (0 + 35) + 1 + (0 + 35) + 1 + (0 + 27) + 1 + (0 + 729))) (zk_Sorts_15 M q a0) 70 [some (.ref q), some (.ref a0)] [] _
  have kn15 : zf (zk_Sorts_15 M q a0) q 5 = some (zn (zk_Sorts_12 M q a0)) := zup2_s
  refine zw_aload_n (pc := 70) (n := 0) (x := q) rfl (zdal_p dlA_Sorts_init_10 (i := 8) rfl) ?_
  refine zw_aload_n (pc := 71) (n := 1) (x := a0) rfl (zdal_p dlA_Sorts_init_10 (i := 9) rfl) ?_
  refine zw_putR (pc := 72) (x := a0) (Or.inr ⟨g_Sorts_32, rfl, rfl, rfl⟩) rfl (he15.q hq hqk) (fun _ => rfl) (fun _ => rfl) (zdal_p dlA_Sorts_init_10 (i := 10) rfl) ?_
  have he16 : zExt M (zk_Sorts_16 M q a0) 10 (0 + 1 + (0 + 35) + 1 + (0 + 35) + 1 + (0 + 35) + 1 + (0 + 27) + 1 + (0 + 729)) q := he15.put
  have kf16_1 : zf (zk_Sorts_16 M q a0) q 1 = some (zn (M)) := (zup2_n (fun z => absurd z.2 (by decide))).trans kf15_1
  have kf16_2 : zf (zk_Sorts_16 M q a0) q 2 = some (zn (zk_Sorts_3 M q a0)) := (zup2_n (fun z => absurd z.2 (by decide))).trans kf15_2
  have kf16_3 : zf (zk_Sorts_16 M q a0) q 3 = some (zn (zk_Sorts_6 M q a0)) := (zup2_n (fun z => absurd z.2 (by decide))).trans kf15_3
  have kf16_4 : zf (zk_Sorts_16 M q a0) q 4 = some (zn (zk_Sorts_9 M q a0)) := (zup2_n (fun z => absurd z.2 (by decide))).trans kf15_4
  have kf16_5 : zf (zk_Sorts_16 M q a0) q 5 = some (zn (zk_Sorts_12 M q a0)) := (zup2_n (fun z => absurd z.2 (by decide))).trans kn15
  show zW l m_Sorts_init (zn M + 10, zw M + (0 + 1 + (0 + 35) + 1 + (0 + 35) + 1 + (0 + 35) + 1 + (0 + 27) + 1 + (0 + 729))) (zk_Sorts_16 M q a0) 75 [some (.ref q), some (.ref a0)] [] _
  have kn16 : zf (zk_Sorts_16 M q a0) q 0 = some (a0) := zup2_s
  exact zw_vret (S := []) (pc := 75) rfl (zdal_p dlA_Sorts_init_10 (i := 11) rfl) ⟨rfl, rfl⟩
def zk_Sums_1 (M : zMem) (q : Nat) (a0 : Nat) : zMem := zal (M) 11 1
def zk_Sums_2 (M : zMem) (q : Nat) (a0 : Nat) : zMem := zk_LongRow (zk_Sums_1 M q a0) (zn (M)) 1080
def zk_Sums_3 (M : zMem) (q : Nat) (a0 : Nat) : zMem := zsF (zk_Sums_2 M q a0) q 1 (some (zn (M)))
def zk_Sums_4 (M : zMem) (q : Nat) (a0 : Nat) : zMem := zal (zk_Sums_3 M q a0) 11 1
def zk_Sums_5 (M : zMem) (q : Nat) (a0 : Nat) : zMem := zk_LongRow (zk_Sums_4 M q a0) (zn (zk_Sums_3 M q a0)) 27
def zk_Sums_6 (M : zMem) (q : Nat) (a0 : Nat) : zMem := zsF (zk_Sums_5 M q a0) q 2 (some (zn (zk_Sums_3 M q a0)))
def zk_Sums_7 (M : zMem) (q : Nat) (a0 : Nat) : zMem := zsF (zk_Sums_6 M q a0) q 0 (some (a0))
def zk_Sums (M : zMem) (q : Nat) (a0 : Nat) : zMem := zk_Sums_7 M q a0
set_option maxRecDepth 20000 in
theorem ext_Sums (M : zMem) (q : Nat) (a0 : Nat) : zExt M (zk_Sums M q a0) 4 (0 + 1 + (0 + 1080) + 1 + (0 + 27)) q := by
  have he0 : zExt M M 0 0 q := zExt.rf
  have he1 : zExt M (zk_Sums_1 M q a0) 1 (0 + 1) q := he0.al
  have he2 : zExt M (zk_Sums_2 M q a0) 2 (0 + 1 + (0 + 1080)) q := he1.call (ext_LongRow (zk_Sums_1 M q a0) (zn (M)) 1080) (by have := he0.1; (exact zo_1447))
  have he3 : zExt M (zk_Sums_3 M q a0) 2 (0 + 1 + (0 + 1080)) q := he2.put
  have he4 : zExt M (zk_Sums_4 M q a0) 3 (0 + 1 + (0 + 1080) + 1) q := he3.al
  have he5 : zExt M (zk_Sums_5 M q a0) 4 (0 + 1 + (0 + 1080) + 1 + (0 + 27)) q := he4.call (ext_LongRow (zk_Sums_4 M q a0) (zn (zk_Sums_3 M q a0)) 27) (by have := he3.1; (exact zo_1454 this))
  have he6 : zExt M (zk_Sums_6 M q a0) 4 (0 + 1 + (0 + 1080) + 1 + (0 + 27)) q := he5.put
  have he7 : zExt M (zk_Sums_7 M q a0) 4 (0 + 1 + (0 + 1080) + 1 + (0 + 27)) q := he6.put
  exact he7
set_option maxRecDepth 20000 in
set_option maxHeartbeats 4000000 in
theorem k_Sums (l : Launch) (M : zMem) (q : Nat) (hq : q < zn M) (hqk : (zsh M q).1 = 7 + 3) (a0 : Nat) (hm : zn M + 4 < 1000000) : zC l m_Sums_init 4 (0 + 1 + (0 + 1080) + 1 + (0 + 27)) [.ref q, .ref a0] M (fun r M' => r = none ∧ M' = zk_Sums M q a0) := by
  have hex := ext_Sums M q a0
  refine zC_of (L0 := [some (.ref q), some (.ref a0)]) md_Sums_init (Nat.le_of_ble_eq_true rfl) rfl ?_ (fun r M' h _ => by obtain ⟨-, rfl⟩ := h; exact ⟨hex.1, hex.2.1⟩)
  have he0 : zExt M M 0 0 q := zExt.rf
  refine zw_aload_n (pc := 0) (n := 0) (x := q) rfl (zdal_p dlA_Sums_init_11 (i := 0) rfl) ?_
  refine zw_objInit (pc := 1) o_Sums_5 o_in o_co (by decide) (Nat.le_of_ble_eq_true rfl) (zdal_p dlA_Sums_init_11 (i := 1) rfl) ?_
  refine zw_aload_n (pc := 4) (n := 0) (x := q) rfl (zdal_p dlA_Sums_init_11 (i := 2) rfl) ?_
  refine zw_new (pc := 5) (ci := 8) (by decide) n_Sums_11 (by have := he0.1; omega) (by have := he0.1; show _ ≤ zn M + 4; omega) (by have := he0.2.1; show _ + 1 ≤ zw M + (0 + 1 + (0 + 1080) + 1 + (0 + 27)); omega) (by decide) (zdal_p dlA_Sums_init_11 (i := 3) rfl) ?_
  have he1 : zExt M (zk_Sums_1 M q a0) 1 (0 + 1) q := he0.al
  show zW l m_Sums_init (zn M + 4, zw M + (0 + 1 + (0 + 1080) + 1 + (0 + 27))) (zk_Sums_1 M q a0) 8 [some (.ref q), some (.ref a0)] [.ref (zn (M)), .ref q] _
  refine zw_dup (pc := 8) rfl (zdal_p dlA_Sums_init_11 (i := 4) rfl) ?_
  refine zw_sipush (pc := 9) (v := nI 1080) (by decide) (zdal_p dlA_Sums_init_11 (i := 5) rfl) ?_
  refine zw_callI (pc := 12) (mc := 1) (ms := (0 + 1080)) (b := zn (M)) [.int (nI 1080)] [.ref (zn (M)), .ref q] l_Sums_13 (k_LongRow l (zk_Sums_1 M q a0) (zn (M)) (by have := he1.1; show zn (M) < zn (M) + 1; (exact zo_1083)) (congrArg Prod.fst (zal_sh (M := M) (t := 11) (n := 1))) 1080 (by decide) (by have := he1.1; omega)) rfl rfl (by decide) ⟨by have := he1.1; show _ ≤ zn M + 4; omega, by have := he1.2.1; show _ ≤ zw M + (0 + 1 + (0 + 1080) + 1 + (0 + 27)); omega⟩ (Nat.le_of_ble_eq_true rfl) (zdal_p dlA_Sums_init_11 (i := 6) rfl) (fun r M9 h9 _ _ => ?_)
  obtain ⟨rfl, rfl⟩ := h9
  have he2 : zExt M (zk_Sums_2 M q a0) 2 (0 + 1 + (0 + 1080)) q := he1.call (ext_LongRow (zk_Sums_1 M q a0) (zn (M)) 1080) (by have := he0.1; (exact zo_1447))
  show zW l m_Sums_init (zn M + 4, zw M + (0 + 1 + (0 + 1080) + 1 + (0 + 27))) (zk_Sums_2 M q a0) 15 [some (.ref q), some (.ref a0)] [.ref (zn (M)), .ref q] _
  refine zw_putR (pc := 15) (x := zn (M)) (Or.inr ⟨g_Sums_16, rfl, rfl, rfl⟩) rfl (he2.q hq hqk) (fun _ => rfl) (fun _ => rfl) (zdal_p dlA_Sums_init_11 (i := 7) rfl) ?_
  have he3 : zExt M (zk_Sums_3 M q a0) 2 (0 + 1 + (0 + 1080)) q := he2.put
  show zW l m_Sums_init (zn M + 4, zw M + (0 + 1 + (0 + 1080) + 1 + (0 + 27))) (zk_Sums_3 M q a0) 18 [some (.ref q), some (.ref a0)] [] _
  have kn3 : zf (zk_Sums_3 M q a0) q 1 = some (zn (M)) := zup2_s
  refine zw_aload_n (pc := 18) (n := 0) (x := q) rfl (zdal_p dlA_Sums_init_11 (i := 8) rfl) ?_
  refine zw_new (pc := 19) (ci := 8) (by decide) n_Sums_11 (by have := he3.1; omega) (by have := he3.1; show _ ≤ zn M + 4; omega) (by have := he3.2.1; show _ + 1 ≤ zw M + (0 + 1 + (0 + 1080) + 1 + (0 + 27)); omega) (by decide) (zdal_p dlA_Sums_init_11 (i := 9) rfl) ?_
  have he4 : zExt M (zk_Sums_4 M q a0) 3 (0 + 1 + (0 + 1080) + 1) q := he3.al
  have kf4_1 : zf (zk_Sums_4 M q a0) q 1 = some (zn (M)) := (congrFun (zal_old (by have := he3.1; omega)).2 1).trans kn3
  show zW l m_Sums_init (zn M + 4, zw M + (0 + 1 + (0 + 1080) + 1 + (0 + 27))) (zk_Sums_4 M q a0) 22 [some (.ref q), some (.ref a0)] [.ref (zn (zk_Sums_3 M q a0)), .ref q] _
  refine zw_dup (pc := 22) rfl (zdal_p dlA_Sums_init_11 (i := 10) rfl) ?_
  refine zw_bipush (pc := 23) (v := nI 27) (by decide) (zdal_p dlA_Sums_init_11 (i := 11) rfl) ?_
  refine zw_callI (pc := 25) (mc := 1) (ms := (0 + 27)) (b := zn (zk_Sums_3 M q a0)) [.int (nI 27)] [.ref (zn (zk_Sums_3 M q a0)), .ref q] l_Sums_13 (k_LongRow l (zk_Sums_4 M q a0) (zn (zk_Sums_3 M q a0)) (by have := he4.1; show zn (zk_Sums_3 M q a0) < zn (zk_Sums_3 M q a0) + 1; (exact zo_1083)) (congrArg Prod.fst (zal_sh (M := zk_Sums_3 M q a0) (t := 11) (n := 1))) 27 (by decide) (by have := he4.1; omega)) rfl rfl (by decide) ⟨by have := he4.1; show _ ≤ zn M + 4; omega, by have := he4.2.1; show _ ≤ zw M + (0 + 1 + (0 + 1080) + 1 + (0 + 27)); omega⟩ (Nat.le_of_ble_eq_true rfl) (zdal_p dlA_Sums_init_11 (i := 12) rfl) (fun r M9 h9 _ _ => ?_)
  obtain ⟨rfl, rfl⟩ := h9
  have he5 : zExt M (zk_Sums_5 M q a0) 4 (0 + 1 + (0 + 1080) + 1 + (0 + 27)) q := he4.call (ext_LongRow (zk_Sums_4 M q a0) (zn (zk_Sums_3 M q a0)) 27) (by have := he3.1; omega)
  have kf5_1 : zf (zk_Sums_5 M q a0) q 1 = some (zn (M)) := (congrFun ((ext_LongRow (zk_Sums_4 M q a0) (zn (zk_Sums_3 M q a0)) 27).2.2.2 q (by have := he4.1; omega) (by have := he3.1; (exact zo_1473 hq this))) 1).trans kf4_1
  show zW l m_Sums_init (zn M + 4, zw M + (0 + 1 + (0 + 1080) + 1 + (0 + 27))) (zk_Sums_5 M q a0) 28 [some (.ref q), some (.ref a0)] [.ref (zn (zk_Sums_3 M q a0)), .ref q] _
  refine zw_putR (pc := 28) (x := zn (zk_Sums_3 M q a0)) (Or.inr ⟨g_Sums_20, rfl, rfl, rfl⟩) rfl (he5.q hq hqk) (fun _ => rfl) (fun _ => rfl) (zdal_p dlA_Sums_init_11 (i := 13) rfl) ?_
  have he6 : zExt M (zk_Sums_6 M q a0) 4 (0 + 1 + (0 + 1080) + 1 + (0 + 27)) q := he5.put
  have kf6_1 : zf (zk_Sums_6 M q a0) q 1 = some (zn (M)) := (zup2_n (fun z => absurd z.2 (by decide))).trans kf5_1
  show zW l m_Sums_init (zn M + 4, zw M + (0 + 1 + (0 + 1080) + 1 + (0 + 27))) (zk_Sums_6 M q a0) 31 [some (.ref q), some (.ref a0)] [] _
  have kn6 : zf (zk_Sums_6 M q a0) q 2 = some (zn (zk_Sums_3 M q a0)) := zup2_s
  refine zw_aload_n (pc := 31) (n := 0) (x := q) rfl (zdal_p dlA_Sums_init_11 (i := 14) rfl) ?_
  refine zw_aload_n (pc := 32) (n := 1) (x := a0) rfl (zdal_p dlA_Sums_init_11 (i := 15) rfl) ?_
  refine zw_putR (pc := 33) (x := a0) (Or.inr ⟨g_Sums_23, rfl, rfl, rfl⟩) rfl (he6.q hq hqk) (fun _ => rfl) (fun _ => rfl) (zdal_p dlA_Sums_init_11 (i := 16) rfl) ?_
  have he7 : zExt M (zk_Sums_7 M q a0) 4 (0 + 1 + (0 + 1080) + 1 + (0 + 27)) q := he6.put
  have kf7_1 : zf (zk_Sums_7 M q a0) q 1 = some (zn (M)) := (zup2_n (fun z => absurd z.2 (by decide))).trans kf6_1
  have kf7_2 : zf (zk_Sums_7 M q a0) q 2 = some (zn (zk_Sums_3 M q a0)) := (zup2_n (fun z => absurd z.2 (by decide))).trans kn6
  show zW l m_Sums_init (zn M + 4, zw M + (0 + 1 + (0 + 1080) + 1 + (0 + 27))) (zk_Sums_7 M q a0) 36 [some (.ref q), some (.ref a0)] [] _
  have kn7 : zf (zk_Sums_7 M q a0) q 0 = some (a0) := zup2_s
  exact zw_vret (S := []) (pc := 36) rfl (zdal_p dlA_Sums_init_11 (i := 17) rfl) ⟨rfl, rfl⟩
def zk_Units_1 (M : zMem) (q : Nat) (a0 : Nat) : zMem := zal (M) 5 1
def zk_Units_2 (M : zMem) (q : Nat) (a0 : Nat) : zMem := zk_IntRow (zk_Units_1 M q a0) (zn (M)) 27
def zk_Units_3 (M : zMem) (q : Nat) (a0 : Nat) : zMem := zsF (zk_Units_2 M q a0) q 1 (some (zn (M)))
def zk_Units_4 (M : zMem) (q : Nat) (a0 : Nat) : zMem := zal (zk_Units_3 M q a0) 5 1
def zk_Units_5 (M : zMem) (q : Nat) (a0 : Nat) : zMem := zk_IntRow (zk_Units_4 M q a0) (zn (zk_Units_3 M q a0)) 24
def zk_Units_6 (M : zMem) (q : Nat) (a0 : Nat) : zMem := zsF (zk_Units_5 M q a0) q 2 (some (zn (zk_Units_3 M q a0)))
def zk_Units_7 (M : zMem) (q : Nat) (a0 : Nat) : zMem := zsF (zk_Units_6 M q a0) q 0 (some (a0))
def zk_Units (M : zMem) (q : Nat) (a0 : Nat) : zMem := zk_Units_7 M q a0
set_option maxRecDepth 20000 in
theorem ext_Units (M : zMem) (q : Nat) (a0 : Nat) : zExt M (zk_Units M q a0) 4 (0 + 1 + (0 + 27) + 1 + (0 + 24)) q := by
  have he0 : zExt M M 0 0 q := zExt.rf
  have he1 : zExt M (zk_Units_1 M q a0) 1 (0 + 1) q := he0.al
  have he2 : zExt M (zk_Units_2 M q a0) 2 (0 + 1 + (0 + 27)) q := he1.call (ext_IntRow (zk_Units_1 M q a0) (zn (M)) 27) (by have := he0.1; (exact zo_1447))
  have he3 : zExt M (zk_Units_3 M q a0) 2 (0 + 1 + (0 + 27)) q := he2.put
  have he4 : zExt M (zk_Units_4 M q a0) 3 (0 + 1 + (0 + 27) + 1) q := he3.al
  have he5 : zExt M (zk_Units_5 M q a0) 4 (0 + 1 + (0 + 27) + 1 + (0 + 24)) q := he4.call (ext_IntRow (zk_Units_4 M q a0) (zn (zk_Units_3 M q a0)) 24) (by have := he3.1; (exact zo_1454 this))
  have he6 : zExt M (zk_Units_6 M q a0) 4 (0 + 1 + (0 + 27) + 1 + (0 + 24)) q := he5.put
  have he7 : zExt M (zk_Units_7 M q a0) 4 (0 + 1 + (0 + 27) + 1 + (0 + 24)) q := he6.put
  exact he7
set_option maxRecDepth 20000 in
set_option maxHeartbeats 4000000 in
theorem k_Units (l : Launch) (M : zMem) (q : Nat) (hq : q < zn M) (hqk : (zsh M q).1 = 9 + 3) (a0 : Nat) (hm : zn M + 4 < 1000000) : zC l m_Units_init 4 (0 + 1 + (0 + 27) + 1 + (0 + 24)) [.ref q, .ref a0] M (fun r M' => r = none ∧ M' = zk_Units M q a0) := by
  have hex := ext_Units M q a0
  refine zC_of (L0 := [some (.ref q), some (.ref a0)]) md_Units_init (Nat.le_of_ble_eq_true rfl) rfl ?_ (fun r M' h _ => by obtain ⟨-, rfl⟩ := h; exact ⟨hex.1, hex.2.1⟩)
  have he0 : zExt M M 0 0 q := zExt.rf
  refine zw_aload_n (pc := 0) (n := 0) (x := q) rfl (zdal_p dlA_Units_init_13 (i := 0) rfl) ?_
  refine zw_objInit (pc := 1) o_Units_3 o_in o_co (by decide) (Nat.le_of_ble_eq_true rfl) (zdal_p dlA_Units_init_13 (i := 1) rfl) ?_
  refine zw_aload_n (pc := 4) (n := 0) (x := q) rfl (zdal_p dlA_Units_init_13 (i := 2) rfl) ?_
  refine zw_new (pc := 5) (ci := 2) (by decide) n_Units_9 (by have := he0.1; omega) (by have := he0.1; show _ ≤ zn M + 4; omega) (by have := he0.2.1; show _ + 1 ≤ zw M + (0 + 1 + (0 + 27) + 1 + (0 + 24)); omega) (by decide) (zdal_p dlA_Units_init_13 (i := 3) rfl) ?_
  have he1 : zExt M (zk_Units_1 M q a0) 1 (0 + 1) q := he0.al
  show zW l m_Units_init (zn M + 4, zw M + (0 + 1 + (0 + 27) + 1 + (0 + 24))) (zk_Units_1 M q a0) 8 [some (.ref q), some (.ref a0)] [.ref (zn (M)), .ref q] _
  refine zw_dup (pc := 8) rfl (zdal_p dlA_Units_init_13 (i := 4) rfl) ?_
  refine zw_bipush (pc := 9) (v := nI 27) (by decide) (zdal_p dlA_Units_init_13 (i := 5) rfl) ?_
  refine zw_callI (pc := 11) (mc := 1) (ms := (0 + 27)) (b := zn (M)) [.int (nI 27)] [.ref (zn (M)), .ref q] l_Units_11 (k_IntRow l (zk_Units_1 M q a0) (zn (M)) (by have := he1.1; show zn (M) < zn (M) + 1; (exact zo_1083)) (congrArg Prod.fst (zal_sh (M := M) (t := 5) (n := 1))) 27 (by decide) (by have := he1.1; omega)) rfl rfl (by decide) ⟨by have := he1.1; show _ ≤ zn M + 4; omega, by have := he1.2.1; show _ ≤ zw M + (0 + 1 + (0 + 27) + 1 + (0 + 24)); omega⟩ (Nat.le_of_ble_eq_true rfl) (zdal_p dlA_Units_init_13 (i := 6) rfl) (fun r M9 h9 _ _ => ?_)
  obtain ⟨rfl, rfl⟩ := h9
  have he2 : zExt M (zk_Units_2 M q a0) 2 (0 + 1 + (0 + 27)) q := he1.call (ext_IntRow (zk_Units_1 M q a0) (zn (M)) 27) (by have := he0.1; (exact zo_1447))
  show zW l m_Units_init (zn M + 4, zw M + (0 + 1 + (0 + 27) + 1 + (0 + 24))) (zk_Units_2 M q a0) 14 [some (.ref q), some (.ref a0)] [.ref (zn (M)), .ref q] _
  refine zw_putR (pc := 14) (x := zn (M)) (Or.inr ⟨g_Units_14, rfl, rfl, rfl⟩) rfl (he2.q hq hqk) (fun _ => rfl) (fun _ => rfl) (zdal_p dlA_Units_init_13 (i := 7) rfl) ?_
  have he3 : zExt M (zk_Units_3 M q a0) 2 (0 + 1 + (0 + 27)) q := he2.put
  show zW l m_Units_init (zn M + 4, zw M + (0 + 1 + (0 + 27) + 1 + (0 + 24))) (zk_Units_3 M q a0) 17 [some (.ref q), some (.ref a0)] [] _
  have kn3 : zf (zk_Units_3 M q a0) q 1 = some (zn (M)) := zup2_s
  refine zw_aload_n (pc := 17) (n := 0) (x := q) rfl (zdal_p dlA_Units_init_13 (i := 8) rfl) ?_
  refine zw_new (pc := 18) (ci := 2) (by decide) n_Units_9 (by have := he3.1; omega) (by have := he3.1; show _ ≤ zn M + 4; omega) (by have := he3.2.1; show _ + 1 ≤ zw M + (0 + 1 + (0 + 27) + 1 + (0 + 24)); omega) (by decide) (zdal_p dlA_Units_init_13 (i := 9) rfl) ?_
  have he4 : zExt M (zk_Units_4 M q a0) 3 (0 + 1 + (0 + 27) + 1) q := he3.al
  have kf4_1 : zf (zk_Units_4 M q a0) q 1 = some (zn (M)) := (congrFun (zal_old (by have := he3.1; omega)).2 1).trans kn3
  show zW l m_Units_init (zn M + 4, zw M + (0 + 1 + (0 + 27) + 1 + (0 + 24))) (zk_Units_4 M q a0) 21 [some (.ref q), some (.ref a0)] [.ref (zn (zk_Units_3 M q a0)), .ref q] _
  refine zw_dup (pc := 21) rfl (zdal_p dlA_Units_init_13 (i := 10) rfl) ?_
  refine zw_bipush (pc := 22) (v := nI 24) (by decide) (zdal_p dlA_Units_init_13 (i := 11) rfl) ?_
  refine zw_callI (pc := 24) (mc := 1) (ms := (0 + 24)) (b := zn (zk_Units_3 M q a0)) [.int (nI 24)] [.ref (zn (zk_Units_3 M q a0)), .ref q] l_Units_11 (k_IntRow l (zk_Units_4 M q a0) (zn (zk_Units_3 M q a0)) (by have := he4.1; show zn (zk_Units_3 M q a0) < zn (zk_Units_3 M q a0) + 1; (exact zo_1083)) (congrArg Prod.fst (zal_sh (M := zk_Units_3 M q a0) (t := 5) (n := 1))) 24 (by decide) (by have := he4.1; omega)) rfl rfl (by decide) ⟨by have := he4.1; show _ ≤ zn M + 4; omega, by have := he4.2.1; show _ ≤ zw M + (0 + 1 + (0 + 27) + 1 + (0 + 24)); omega⟩ (Nat.le_of_ble_eq_true rfl) (zdal_p dlA_Units_init_13 (i := 12) rfl) (fun r M9 h9 _ _ => ?_)
  obtain ⟨rfl, rfl⟩ := h9
  have he5 : zExt M (zk_Units_5 M q a0) 4 (0 + 1 + (0 + 27) + 1 + (0 + 24)) q := he4.call (ext_IntRow (zk_Units_4 M q a0) (zn (zk_Units_3 M q a0)) 24) (by have := he3.1; omega)
  have kf5_1 : zf (zk_Units_5 M q a0) q 1 = some (zn (M)) := (congrFun ((ext_IntRow (zk_Units_4 M q a0) (zn (zk_Units_3 M q a0)) 24).2.2.2 q (by have := he4.1; omega) (by have := he3.1; (exact zo_1473 hq this))) 1).trans kf4_1
  show zW l m_Units_init (zn M + 4, zw M + (0 + 1 + (0 + 27) + 1 + (0 + 24))) (zk_Units_5 M q a0) 27 [some (.ref q), some (.ref a0)] [.ref (zn (zk_Units_3 M q a0)), .ref q] _
  refine zw_putR (pc := 27) (x := zn (zk_Units_3 M q a0)) (Or.inr ⟨g_Units_20, rfl, rfl, rfl⟩) rfl (he5.q hq hqk) (fun _ => rfl) (fun _ => rfl) (zdal_p dlA_Units_init_13 (i := 13) rfl) ?_
  have he6 : zExt M (zk_Units_6 M q a0) 4 (0 + 1 + (0 + 27) + 1 + (0 + 24)) q := he5.put
  have kf6_1 : zf (zk_Units_6 M q a0) q 1 = some (zn (M)) := (zup2_n (fun z => absurd z.2 (by decide))).trans kf5_1
  show zW l m_Units_init (zn M + 4, zw M + (0 + 1 + (0 + 27) + 1 + (0 + 24))) (zk_Units_6 M q a0) 30 [some (.ref q), some (.ref a0)] [] _
  have kn6 : zf (zk_Units_6 M q a0) q 2 = some (zn (zk_Units_3 M q a0)) := zup2_s
  refine zw_aload_n (pc := 30) (n := 0) (x := q) rfl (zdal_p dlA_Units_init_13 (i := 14) rfl) ?_
  refine zw_aload_n (pc := 31) (n := 1) (x := a0) rfl (zdal_p dlA_Units_init_13 (i := 15) rfl) ?_
  refine zw_putR (pc := 32) (x := a0) (Or.inr ⟨g_Units_23, rfl, rfl, rfl⟩) rfl (he6.q hq hqk) (fun _ => rfl) (fun _ => rfl) (zdal_p dlA_Units_init_13 (i := 16) rfl) ?_
  have he7 : zExt M (zk_Units_7 M q a0) 4 (0 + 1 + (0 + 27) + 1 + (0 + 24)) q := he6.put
  have kf7_1 : zf (zk_Units_7 M q a0) q 1 = some (zn (M)) := (zup2_n (fun z => absurd z.2 (by decide))).trans kf6_1
  have kf7_2 : zf (zk_Units_7 M q a0) q 2 = some (zn (zk_Units_3 M q a0)) := (zup2_n (fun z => absurd z.2 (by decide))).trans kn6
  show zW l m_Units_init (zn M + 4, zw M + (0 + 1 + (0 + 27) + 1 + (0 + 24))) (zk_Units_7 M q a0) 35 [some (.ref q), some (.ref a0)] [] _
  have kn7 : zf (zk_Units_7 M q a0) q 0 = some (a0) := zup2_s
  exact zw_vret (S := []) (pc := 35) rfl (zdal_p dlA_Units_init_13 (i := 17) rfl) ⟨rfl, rfl⟩
def zk_Calc_1 (M : zMem) (q : Nat) (a0 : Nat) : zMem := zal (M) 5 1
def zk_Calc_2 (M : zMem) (q : Nat) (a0 : Nat) : zMem := zk_IntRow (zk_Calc_1 M q a0) (zn (M)) 24
def zk_Calc_3 (M : zMem) (q : Nat) (a0 : Nat) : zMem := zsF (zk_Calc_2 M q a0) q 1 (some (zn (M)))
def zk_Calc_4 (M : zMem) (q : Nat) (a0 : Nat) : zMem := zsF (zk_Calc_3 M q a0) q 0 (some (a0))
def zk_Calc (M : zMem) (q : Nat) (a0 : Nat) : zMem := zk_Calc_4 M q a0
set_option maxRecDepth 20000 in
theorem ext_Calc (M : zMem) (q : Nat) (a0 : Nat) : zExt M (zk_Calc M q a0) 2 (0 + 1 + (0 + 24)) q := by
  have he0 : zExt M M 0 0 q := zExt.rf
  have he1 : zExt M (zk_Calc_1 M q a0) 1 (0 + 1) q := he0.al
  have he2 : zExt M (zk_Calc_2 M q a0) 2 (0 + 1 + (0 + 24)) q := he1.call (ext_IntRow (zk_Calc_1 M q a0) (zn (M)) 24) (by have := he0.1; (exact zo_1447))
  have he3 : zExt M (zk_Calc_3 M q a0) 2 (0 + 1 + (0 + 24)) q := he2.put
  have he4 : zExt M (zk_Calc_4 M q a0) 2 (0 + 1 + (0 + 24)) q := he3.put
  exact he4
set_option maxRecDepth 20000 in
set_option maxHeartbeats 4000000 in
theorem k_Calc (l : Launch) (M : zMem) (q : Nat) (hq : q < zn M) (hqk : (zsh M q).1 = 10 + 3) (a0 : Nat) (hm : zn M + 2 < 1000000) : zC l m_Calc_init 2 (0 + 1 + (0 + 24)) [.ref q, .ref a0] M (fun r M' => r = none ∧ M' = zk_Calc M q a0) := by
  have hex := ext_Calc M q a0
  refine zC_of (L0 := [some (.ref q), some (.ref a0)]) md_Calc_init (Nat.le_of_ble_eq_true rfl) rfl ?_ (fun r M' h _ => by obtain ⟨-, rfl⟩ := h; exact ⟨hex.1, hex.2.1⟩)
  have he0 : zExt M M 0 0 q := zExt.rf
  refine zw_aload_n (pc := 0) (n := 0) (x := q) rfl (zdal_p dlA_Calc_init_14 (i := 0) rfl) ?_
  refine zw_objInit (pc := 1) o_Calc_3 o_in o_co (by decide) (Nat.le_of_ble_eq_true rfl) (zdal_p dlA_Calc_init_14 (i := 1) rfl) ?_
  refine zw_aload_n (pc := 4) (n := 0) (x := q) rfl (zdal_p dlA_Calc_init_14 (i := 2) rfl) ?_
  refine zw_new (pc := 5) (ci := 2) (by decide) n_Calc_9 (by have := he0.1; omega) (by have := he0.1; show _ ≤ zn M + 2; omega) (by have := he0.2.1; show _ + 1 ≤ zw M + (0 + 1 + (0 + 24)); omega) (by decide) (zdal_p dlA_Calc_init_14 (i := 3) rfl) ?_
  have he1 : zExt M (zk_Calc_1 M q a0) 1 (0 + 1) q := he0.al
  show zW l m_Calc_init (zn M + 2, zw M + (0 + 1 + (0 + 24))) (zk_Calc_1 M q a0) 8 [some (.ref q), some (.ref a0)] [.ref (zn (M)), .ref q] _
  refine zw_dup (pc := 8) rfl (zdal_p dlA_Calc_init_14 (i := 4) rfl) ?_
  refine zw_bipush (pc := 9) (v := nI 24) (by decide) (zdal_p dlA_Calc_init_14 (i := 5) rfl) ?_
  refine zw_callI (pc := 11) (mc := 1) (ms := (0 + 24)) (b := zn (M)) [.int (nI 24)] [.ref (zn (M)), .ref q] l_Calc_11 (k_IntRow l (zk_Calc_1 M q a0) (zn (M)) (by have := he1.1; show zn (M) < zn (M) + 1; (exact zo_1083)) (congrArg Prod.fst (zal_sh (M := M) (t := 5) (n := 1))) 24 (by decide) (by have := he1.1; omega)) rfl rfl (by decide) ⟨by have := he1.1; show _ ≤ zn M + 2; omega, by have := he1.2.1; show _ ≤ zw M + (0 + 1 + (0 + 24)); omega⟩ (Nat.le_of_ble_eq_true rfl) (zdal_p dlA_Calc_init_14 (i := 6) rfl) (fun r M9 h9 _ _ => ?_)
  obtain ⟨rfl, rfl⟩ := h9
  have he2 : zExt M (zk_Calc_2 M q a0) 2 (0 + 1 + (0 + 24)) q := he1.call (ext_IntRow (zk_Calc_1 M q a0) (zn (M)) 24) (by have := he0.1; (exact zo_1447))
  show zW l m_Calc_init (zn M + 2, zw M + (0 + 1 + (0 + 24))) (zk_Calc_2 M q a0) 14 [some (.ref q), some (.ref a0)] [.ref (zn (M)), .ref q] _
  refine zw_putR (pc := 14) (x := zn (M)) (Or.inr ⟨g_Calc_14, rfl, rfl, rfl⟩) rfl (he2.q hq hqk) (fun _ => rfl) (fun _ => rfl) (zdal_p dlA_Calc_init_14 (i := 7) rfl) ?_
  have he3 : zExt M (zk_Calc_3 M q a0) 2 (0 + 1 + (0 + 24)) q := he2.put
  show zW l m_Calc_init (zn M + 2, zw M + (0 + 1 + (0 + 24))) (zk_Calc_3 M q a0) 17 [some (.ref q), some (.ref a0)] [] _
  have kn3 : zf (zk_Calc_3 M q a0) q 1 = some (zn (M)) := zup2_s
  refine zw_aload_n (pc := 17) (n := 0) (x := q) rfl (zdal_p dlA_Calc_init_14 (i := 8) rfl) ?_
  refine zw_aload_n (pc := 18) (n := 1) (x := a0) rfl (zdal_p dlA_Calc_init_14 (i := 9) rfl) ?_
  refine zw_putR (pc := 19) (x := a0) (Or.inr ⟨g_Calc_20, rfl, rfl, rfl⟩) rfl (he3.q hq hqk) (fun _ => rfl) (fun _ => rfl) (zdal_p dlA_Calc_init_14 (i := 10) rfl) ?_
  have he4 : zExt M (zk_Calc_4 M q a0) 2 (0 + 1 + (0 + 24)) q := he3.put
  have kf4_1 : zf (zk_Calc_4 M q a0) q 1 = some (zn (M)) := (zup2_n (fun z => absurd z.2 (by decide))).trans kn3
  show zW l m_Calc_init (zn M + 2, zw M + (0 + 1 + (0 + 24))) (zk_Calc_4 M q a0) 22 [some (.ref q), some (.ref a0)] [] _
  have kn4 : zf (zk_Calc_4 M q a0) q 0 = some (a0) := zup2_s
  exact zw_vret (S := []) (pc := 22) rfl (zdal_p dlA_Calc_init_14 (i := 11) rfl) ⟨rfl, rfl⟩
def zk_Troupe_1 (M : zMem) (q : Nat)  : zMem := zal (M) 8 8
def zk_Troupe_2 (M : zMem) (q : Nat)  : zMem := zk_Group (zk_Troupe_1 M q ) (zn (M))
def zk_Troupe_3 (M : zMem) (q : Nat)  : zMem := zsF (zk_Troupe_2 M q ) q 0 (some (zn (M)))
def zk_Troupe_4 (M : zMem) (q : Nat)  : zMem := zal (zk_Troupe_3 M q ) 9 8
def zk_Troupe_5 (M : zMem) (q : Nat)  : zMem := zk_Sorts (zk_Troupe_4 M q ) (zn (zk_Troupe_3 M q )) (zn (M))
def zk_Troupe_6 (M : zMem) (q : Nat)  : zMem := zsF (zk_Troupe_5 M q ) q 1 (some (zn (zk_Troupe_3 M q )))
def zk_Troupe_7 (M : zMem) (q : Nat)  : zMem := zal (zk_Troupe_6 M q ) 10 3
def zk_Troupe_8 (M : zMem) (q : Nat)  : zMem := zk_Sums (zk_Troupe_7 M q ) (zn (zk_Troupe_6 M q )) (zn (zk_Troupe_3 M q ))
def zk_Troupe_9 (M : zMem) (q : Nat)  : zMem := zsF (zk_Troupe_8 M q ) q 2 (some (zn (zk_Troupe_6 M q )))
def zk_Troupe_10 (M : zMem) (q : Nat)  : zMem := zal (zk_Troupe_9 M q ) 12 5
def zk_Troupe_11 (M : zMem) (q : Nat)  : zMem := zk_Units (zk_Troupe_10 M q ) (zn (zk_Troupe_9 M q )) (zn (zk_Troupe_3 M q ))
def zk_Troupe_12 (M : zMem) (q : Nat)  : zMem := zsF (zk_Troupe_11 M q ) q 3 (some (zn (zk_Troupe_9 M q )))
def zk_Troupe_13 (M : zMem) (q : Nat)  : zMem := zal (zk_Troupe_12 M q ) 13 7
def zk_Troupe_14 (M : zMem) (q : Nat)  : zMem := zk_Calc (zk_Troupe_13 M q ) (zn (zk_Troupe_12 M q )) (zn (zk_Troupe_6 M q ))
def zk_Troupe_15 (M : zMem) (q : Nat)  : zMem := zsF (zk_Troupe_14 M q ) q 4 (some (zn (zk_Troupe_12 M q )))
def zk_Troupe_16 (M : zMem) (q : Nat)  : zMem := zal (zk_Troupe_15 M q ) 5 1
def zk_Troupe_17 (M : zMem) (q : Nat)  : zMem := zk_IntRow (zk_Troupe_16 M q ) (zn (zk_Troupe_15 M q )) 8
def zk_Troupe_18 (M : zMem) (q : Nat)  : zMem := zsF (zk_Troupe_17 M q ) q 5 (some (zn (zk_Troupe_15 M q )))
def zk_Troupe (M : zMem) (q : Nat)  : zMem := zk_Troupe_18 M q 
set_option maxRecDepth 20000 in
theorem ext_Troupe (M : zMem) (q : Nat)  : zExt M (zk_Troupe M q ) 37 (0 + 8 + (0 + 1 + (0 + 4) + 1 + (0 + 24) + 1 + (0 + 576) + 1 + (0 + 24) + 1 + (0 + 24)) + 8 + (0 + 1 + (0 + 35) + 1 + (0 + 35) + 1 + (0 + 35) + 1 + (0 + 27) + 1 + (0 + 729)) + 3 + (0 + 1 + (0 + 1080) + 1 + (0 + 27)) + 5 + (0 + 1 + (0 + 27) + 1 + (0 + 24)) + 7 + (0 + 1 + (0 + 24)) + 1 + (0 + 8)) q := by
  have he0 : zExt M M 0 0 q := zExt.rf
  have he1 : zExt M (zk_Troupe_1 M q ) 1 (0 + 8) q := he0.al
  have he2 : zExt M (zk_Troupe_2 M q ) 11 (0 + 8 + (0 + 1 + (0 + 4) + 1 + (0 + 24) + 1 + (0 + 576) + 1 + (0 + 24) + 1 + (0 + 24))) q := he1.call (ext_Group (zk_Troupe_1 M q ) (zn (M))) (by have := he0.1; (exact zo_1447))
  have he3 : zExt M (zk_Troupe_3 M q ) 11 (0 + 8 + (0 + 1 + (0 + 4) + 1 + (0 + 24) + 1 + (0 + 576) + 1 + (0 + 24) + 1 + (0 + 24))) q := he2.put
  have he4 : zExt M (zk_Troupe_4 M q ) 12 (0 + 8 + (0 + 1 + (0 + 4) + 1 + (0 + 24) + 1 + (0 + 576) + 1 + (0 + 24) + 1 + (0 + 24)) + 8) q := he3.al
  have he5 : zExt M (zk_Troupe_5 M q ) 22 (0 + 8 + (0 + 1 + (0 + 4) + 1 + (0 + 24) + 1 + (0 + 576) + 1 + (0 + 24) + 1 + (0 + 24)) + 8 + (0 + 1 + (0 + 35) + 1 + (0 + 35) + 1 + (0 + 35) + 1 + (0 + 27) + 1 + (0 + 729))) q := he4.call (ext_Sorts (zk_Troupe_4 M q ) (zn (zk_Troupe_3 M q )) (zn (M))) (by have := he3.1; omega)
  have he6 : zExt M (zk_Troupe_6 M q ) 22 (0 + 8 + (0 + 1 + (0 + 4) + 1 + (0 + 24) + 1 + (0 + 576) + 1 + (0 + 24) + 1 + (0 + 24)) + 8 + (0 + 1 + (0 + 35) + 1 + (0 + 35) + 1 + (0 + 35) + 1 + (0 + 27) + 1 + (0 + 729))) q := he5.put
  have he7 : zExt M (zk_Troupe_7 M q ) 23 (0 + 8 + (0 + 1 + (0 + 4) + 1 + (0 + 24) + 1 + (0 + 576) + 1 + (0 + 24) + 1 + (0 + 24)) + 8 + (0 + 1 + (0 + 35) + 1 + (0 + 35) + 1 + (0 + 35) + 1 + (0 + 27) + 1 + (0 + 729)) + 3) q := he6.al
  have he8 : zExt M (zk_Troupe_8 M q ) 27 (0 + 8 + (0 + 1 + (0 + 4) + 1 + (0 + 24) + 1 + (0 + 576) + 1 + (0 + 24) + 1 + (0 + 24)) + 8 + (0 + 1 + (0 + 35) + 1 + (0 + 35) + 1 + (0 + 35) + 1 + (0 + 27) + 1 + (0 + 729)) + 3 + (0 + 1 + (0 + 1080) + 1 + (0 + 27))) q := he7.call (ext_Sums (zk_Troupe_7 M q ) (zn (zk_Troupe_6 M q )) (zn (zk_Troupe_3 M q ))) (by have := he6.1; omega)
  have he9 : zExt M (zk_Troupe_9 M q ) 27 (0 + 8 + (0 + 1 + (0 + 4) + 1 + (0 + 24) + 1 + (0 + 576) + 1 + (0 + 24) + 1 + (0 + 24)) + 8 + (0 + 1 + (0 + 35) + 1 + (0 + 35) + 1 + (0 + 35) + 1 + (0 + 27) + 1 + (0 + 729)) + 3 + (0 + 1 + (0 + 1080) + 1 + (0 + 27))) q := he8.put
  have he10 : zExt M (zk_Troupe_10 M q ) 28 (0 + 8 + (0 + 1 + (0 + 4) + 1 + (0 + 24) + 1 + (0 + 576) + 1 + (0 + 24) + 1 + (0 + 24)) + 8 + (0 + 1 + (0 + 35) + 1 + (0 + 35) + 1 + (0 + 35) + 1 + (0 + 27) + 1 + (0 + 729)) + 3 + (0 + 1 + (0 + 1080) + 1 + (0 + 27)) + 5) q := he9.al
  have he11 : zExt M (zk_Troupe_11 M q ) 32 (0 + 8 + (0 + 1 + (0 + 4) + 1 + (0 + 24) + 1 + (0 + 576) + 1 + (0 + 24) + 1 + (0 + 24)) + 8 + (0 + 1 + (0 + 35) + 1 + (0 + 35) + 1 + (0 + 35) + 1 + (0 + 27) + 1 + (0 + 729)) + 3 + (0 + 1 + (0 + 1080) + 1 + (0 + 27)) + 5 + (0 + 1 + (0 + 27) + 1 + (0 + 24))) q := he10.call (ext_Units (zk_Troupe_10 M q ) (zn (zk_Troupe_9 M q )) (zn (zk_Troupe_3 M q ))) (by have := he9.1; omega)
  have he12 : zExt M (zk_Troupe_12 M q ) 32 (0 + 8 + (0 + 1 + (0 + 4) + 1 + (0 + 24) + 1 + (0 + 576) + 1 + (0 + 24) + 1 + (0 + 24)) + 8 + (0 + 1 + (0 + 35) + 1 + (0 + 35) + 1 + (0 + 35) + 1 + (0 + 27) + 1 + (0 + 729)) + 3 + (0 + 1 + (0 + 1080) + 1 + (0 + 27)) + 5 + (0 + 1 + (0 + 27) + 1 + (0 + 24))) q := he11.put
  have he13 : zExt M (zk_Troupe_13 M q ) 33 (0 + 8 + (0 + 1 + (0 + 4) + 1 + (0 + 24) + 1 + (0 + 576) + 1 + (0 + 24) + 1 + (0 + 24)) + 8 + (0 + 1 + (0 + 35) + 1 + (0 + 35) + 1 + (0 + 35) + 1 + (0 + 27) + 1 + (0 + 729)) + 3 + (0 + 1 + (0 + 1080) + 1 + (0 + 27)) + 5 + (0 + 1 + (0 + 27) + 1 + (0 + 24)) + 7) q := he12.al
  have he14 : zExt M (zk_Troupe_14 M q ) 35 (0 + 8 + (0 + 1 + (0 + 4) + 1 + (0 + 24) + 1 + (0 + 576) + 1 + (0 + 24) + 1 + (0 + 24)) + 8 + (0 + 1 + (0 + 35) + 1 + (0 + 35) + 1 + (0 + 35) + 1 + (0 + 27) + 1 + (0 + 729)) + 3 + (0 + 1 + (0 + 1080) + 1 + (0 + 27)) + 5 + (0 + 1 + (0 + 27) + 1 + (0 + 24)) + 7 + (0 + 1 + (0 + 24))) q := he13.call (ext_Calc (zk_Troupe_13 M q ) (zn (zk_Troupe_12 M q )) (zn (zk_Troupe_6 M q ))) (by have := he12.1; omega)
  have he15 : zExt M (zk_Troupe_15 M q ) 35 (0 + 8 + (0 + 1 + (0 + 4) + 1 + (0 + 24) + 1 + (0 + 576) + 1 + (0 + 24) + 1 + (0 + 24)) + 8 + (0 + 1 + (0 + 35) + 1 + (0 + 35) + 1 + (0 + 35) + 1 + (0 + 27) + 1 + (0 + 729)) + 3 + (0 + 1 + (0 + 1080) + 1 + (0 + 27)) + 5 + (0 + 1 + (0 + 27) + 1 + (0 + 24)) + 7 + (0 + 1 + (0 + 24))) q := he14.put
  have he16 : zExt M (zk_Troupe_16 M q ) 36 (0 + 8 + (0 + 1 + (0 + 4) + 1 + (0 + 24) + 1 + (0 + 576) + 1 + (0 + 24) + 1 + (0 + 24)) + 8 + (0 + 1 + (0 + 35) + 1 + (0 + 35) + 1 + (0 + 35) + 1 + (0 + 27) + 1 + (0 + 729)) + 3 + (0 + 1 + (0 + 1080) + 1 + (0 + 27)) + 5 + (0 + 1 + (0 + 27) + 1 + (0 + 24)) + 7 + (0 + 1 + (0 + 24)) + 1) q := he15.al
  have he17 : zExt M (zk_Troupe_17 M q ) 37 (0 + 8 + (0 + 1 + (0 + 4) + 1 + (0 + 24) + 1 + (0 + 576) + 1 + (0 + 24) + 1 + (0 + 24)) + 8 + (0 + 1 + (0 + 35) + 1 + (0 + 35) + 1 + (0 + 35) + 1 + (0 + 27) + 1 + (0 + 729)) + 3 + (0 + 1 + (0 + 1080) + 1 + (0 + 27)) + 5 + (0 + 1 + (0 + 27) + 1 + (0 + 24)) + 7 + (0 + 1 + (0 + 24)) + 1 + (0 + 8)) q := he16.call (ext_IntRow (zk_Troupe_16 M q ) (zn (zk_Troupe_15 M q )) 8) (by have := he15.1; omega)
  have he18 : zExt M (zk_Troupe_18 M q ) 37 (0 + 8 + (0 + 1 + (0 + 4) + 1 + (0 + 24) + 1 + (0 + 576) + 1 + (0 + 24) + 1 + (0 + 24)) + 8 + (0 + 1 + (0 + 35) + 1 + (0 + 35) + 1 + (0 + 35) + 1 + (0 + 27) + 1 + (0 + 729)) + 3 + (0 + 1 + (0 + 1080) + 1 + (0 + 27)) + 5 + (0 + 1 + (0 + 27) + 1 + (0 + 24)) + 7 + (0 + 1 + (0 + 24)) + 1 + (0 + 8)) q := he17.put
  exact he18
set_option maxRecDepth 20000 in
set_option maxHeartbeats 4000000 in
theorem k_Troupe (l : Launch) (M : zMem) (q : Nat) (hq : q < zn M) (hqk : (zsh M q).1 = 4 + 3)  (hm : zn M + 37 < 1000000) : zC l m_Troupe_init 37 (0 + 8 + (0 + 1 + (0 + 4) + 1 + (0 + 24) + 1 + (0 + 576) + 1 + (0 + 24) + 1 + (0 + 24)) + 8 + (0 + 1 + (0 + 35) + 1 + (0 + 35) + 1 + (0 + 35) + 1 + (0 + 27) + 1 + (0 + 729)) + 3 + (0 + 1 + (0 + 1080) + 1 + (0 + 27)) + 5 + (0 + 1 + (0 + 27) + 1 + (0 + 24)) + 7 + (0 + 1 + (0 + 24)) + 1 + (0 + 8)) [.ref q] M (fun r M' => r = none ∧ M' = zk_Troupe M q ) := by
  have hex := ext_Troupe M q 
  refine zC_of (L0 := [some (.ref q)]) md_Troupe_init (Nat.le_of_ble_eq_true rfl) rfl ?_ (fun r M' h _ => by obtain ⟨-, rfl⟩ := h; exact ⟨hex.1, hex.2.1⟩)
  have he0 : zExt M M 0 0 q := zExt.rf
  refine zw_aload_n (pc := 0) (n := 0) (x := q) rfl (zdal_p dlA_Troupe_init_5 (i := 0) rfl) ?_
  refine zw_objInit (pc := 1) o_Troupe_3 o_in o_co (by decide) (Nat.le_of_ble_eq_true rfl) (zdal_p dlA_Troupe_init_5 (i := 1) rfl) ?_
  refine zw_aload_n (pc := 4) (n := 0) (x := q) rfl (zdal_p dlA_Troupe_init_5 (i := 2) rfl) ?_
  refine zw_new (pc := 5) (ci := 5) (by decide) n_Troupe_9 (by have := he0.1; omega) (by have := he0.1; show _ ≤ zn M + 37; omega) (by have := he0.2.1; show _ + 8 ≤ zw M + (0 + 8 + (0 + 1 + (0 + 4) + 1 + (0 + 24) + 1 + (0 + 576) + 1 + (0 + 24) + 1 + (0 + 24)) + 8 + (0 + 1 + (0 + 35) + 1 + (0 + 35) + 1 + (0 + 35) + 1 + (0 + 27) + 1 + (0 + 729)) + 3 + (0 + 1 + (0 + 1080) + 1 + (0 + 27)) + 5 + (0 + 1 + (0 + 27) + 1 + (0 + 24)) + 7 + (0 + 1 + (0 + 24)) + 1 + (0 + 8)); omega) (by decide) (zdal_p dlA_Troupe_init_5 (i := 3) rfl) ?_
  have he1 : zExt M (zk_Troupe_1 M q ) 1 (0 + 8) q := he0.al
  show zW l m_Troupe_init (zn M + 37, zw M + (0 + 8 + (0 + 1 + (0 + 4) + 1 + (0 + 24) + 1 + (0 + 576) + 1 + (0 + 24) + 1 + (0 + 24)) + 8 + (0 + 1 + (0 + 35) + 1 + (0 + 35) + 1 + (0 + 35) + 1 + (0 + 27) + 1 + (0 + 729)) + 3 + (0 + 1 + (0 + 1080) + 1 + (0 + 27)) + 5 + (0 + 1 + (0 + 27) + 1 + (0 + 24)) + 7 + (0 + 1 + (0 + 24)) + 1 + (0 + 8))) (zk_Troupe_1 M q ) 8 [some (.ref q)] [.ref (zn (M)), .ref q] _
  refine zw_dup (pc := 8) rfl (zdal_p dlA_Troupe_init_5 (i := 4) rfl) ?_
  refine zw_callI (pc := 9) (mc := 10) (ms := (0 + 1 + (0 + 4) + 1 + (0 + 24) + 1 + (0 + 576) + 1 + (0 + 24) + 1 + (0 + 24))) (b := zn (M)) [] [.ref (zn (M)), .ref q] l_Troupe_11 (k_Group l (zk_Troupe_1 M q ) (zn (M)) (by have := he1.1; show zn (M) < zn (M) + 1; (exact zo_1083)) (congrArg Prod.fst (zal_sh (M := M) (t := 8) (n := 8)))  (by have := he1.1; omega)) rfl rfl (by decide) ⟨by have := he1.1; show _ ≤ zn M + 37; omega, by have := he1.2.1; show _ ≤ zw M + (0 + 8 + (0 + 1 + (0 + 4) + 1 + (0 + 24) + 1 + (0 + 576) + 1 + (0 + 24) + 1 + (0 + 24)) + 8 + (0 + 1 + (0 + 35) + 1 + (0 + 35) + 1 + (0 + 35) + 1 + (0 + 27) + 1 + (0 + 729)) + 3 + (0 + 1 + (0 + 1080) + 1 + (0 + 27)) + 5 + (0 + 1 + (0 + 27) + 1 + (0 + 24)) + 7 + (0 + 1 + (0 + 24)) + 1 + (0 + 8)); omega⟩ (Nat.le_of_ble_eq_true rfl) (zdal_p dlA_Troupe_init_5 (i := 5) rfl) (fun r M9 h9 _ _ => ?_)
  obtain ⟨rfl, rfl⟩ := h9
  have he2 : zExt M (zk_Troupe_2 M q ) 11 (0 + 8 + (0 + 1 + (0 + 4) + 1 + (0 + 24) + 1 + (0 + 576) + 1 + (0 + 24) + 1 + (0 + 24))) q := he1.call (ext_Group (zk_Troupe_1 M q ) (zn (M))) (by have := he0.1; (exact zo_1447))
  show zW l m_Troupe_init (zn M + 37, zw M + (0 + 8 + (0 + 1 + (0 + 4) + 1 + (0 + 24) + 1 + (0 + 576) + 1 + (0 + 24) + 1 + (0 + 24)) + 8 + (0 + 1 + (0 + 35) + 1 + (0 + 35) + 1 + (0 + 35) + 1 + (0 + 27) + 1 + (0 + 729)) + 3 + (0 + 1 + (0 + 1080) + 1 + (0 + 27)) + 5 + (0 + 1 + (0 + 27) + 1 + (0 + 24)) + 7 + (0 + 1 + (0 + 24)) + 1 + (0 + 8))) (zk_Troupe_2 M q ) 12 [some (.ref q)] [.ref (zn (M)), .ref q] _
  refine zw_putR (pc := 12) (x := zn (M)) (Or.inr ⟨g_Troupe_12, rfl, rfl, rfl⟩) rfl (he2.q hq hqk) (fun _ => rfl) (fun _ => rfl) (zdal_p dlA_Troupe_init_5 (i := 6) rfl) ?_
  have he3 : zExt M (zk_Troupe_3 M q ) 11 (0 + 8 + (0 + 1 + (0 + 4) + 1 + (0 + 24) + 1 + (0 + 576) + 1 + (0 + 24) + 1 + (0 + 24))) q := he2.put
  show zW l m_Troupe_init (zn M + 37, zw M + (0 + 8 + (0 + 1 + (0 + 4) + 1 + (0 + 24) + 1 + (0 + 576) + 1 + (0 + 24) + 1 + (0 + 24)) + 8 + (0 + 1 + (0 + 35) + 1 + (0 + 35) + 1 + (0 + 35) + 1 + (0 + 27) + 1 + (0 + 729)) + 3 + (0 + 1 + (0 + 1080) + 1 + (0 + 27)) + 5 + (0 + 1 + (0 + 27) + 1 + (0 + 24)) + 7 + (0 + 1 + (0 + 24)) + 1 + (0 + 8))) (zk_Troupe_3 M q ) 15 [some (.ref q)] [] _
  have kn3 : zf (zk_Troupe_3 M q ) q 0 = some (zn (M)) := zup2_s
  refine zw_aload_n (pc := 15) (n := 0) (x := q) rfl (zdal_p dlA_Troupe_init_5 (i := 7) rfl) ?_
  refine zw_new (pc := 16) (ci := 6) (by decide) n_Troupe_18 (by have := he3.1; omega) (by have := he3.1; show _ ≤ zn M + 37; omega) (by have := he3.2.1; show _ + 8 ≤ zw M + (0 + 8 + (0 + 1 + (0 + 4) + 1 + (0 + 24) + 1 + (0 + 576) + 1 + (0 + 24) + 1 + (0 + 24)) + 8 + (0 + 1 + (0 + 35) + 1 + (0 + 35) + 1 + (0 + 35) + 1 + (0 + 27) + 1 + (0 + 729)) + 3 + (0 + 1 + (0 + 1080) + 1 + (0 + 27)) + 5 + (0 + 1 + (0 + 27) + 1 + (0 + 24)) + 7 + (0 + 1 + (0 + 24)) + 1 + (0 + 8)); omega) (by decide) (zdal_p dlA_Troupe_init_5 (i := 8) rfl) ?_
  have he4 : zExt M (zk_Troupe_4 M q ) 12 (0 + 8 + (0 + 1 + (0 + 4) + 1 + (0 + 24) + 1 + (0 + 576) + 1 + (0 + 24) + 1 + (0 + 24)) + 8) q := he3.al
  have kf4_0 : zf (zk_Troupe_4 M q ) q 0 = some (zn (M)) := (congrFun (zal_old (by have := he3.1; omega)).2 0).trans kn3
  show zW l m_Troupe_init (zn M + 37, zw M + (0 + 8 + (0 + 1 + (0 + 4) + 1 + (0 + 24) + 1 + (0 + 576) + 1 + (0 + 24) + 1 + (0 + 24)) + 8 + (0 + 1 + (0 + 35) + 1 + (0 + 35) + 1 + (0 + 35) + 1 + (0 + 27) + 1 + (0 + 729)) + 3 + (0 + 1 + (0 + 1080) + 1 + (0 + 27)) + 5 + (0 + 1 + (0 + 27) + 1 + (0 + 24)) + 7 + (0 + 1 + (0 + 24)) + 1 + (0 + 8))) (zk_Troupe_4 M q ) 19 [some (.ref q)] [.ref (zn (zk_Troupe_3 M q )), .ref q] _
  refine zw_dup (pc := 19) rfl (zdal_p dlA_Troupe_init_5 (i := 9) rfl) ?_
  refine zw_aload_n (pc := 20) (n := 0) (x := q) rfl (zdal_p dlA_Troupe_init_5 (i := 10) rfl) ?_
  refine zw_getF (pc := 21) f_Troupe_12 rfl (he4.q hq hqk) kf4_0 (zdal_p dlA_Troupe_init_5 (i := 11) rfl) ?_
  refine zw_callI (pc := 24) (mc := 10) (ms := (0 + 1 + (0 + 35) + 1 + (0 + 35) + 1 + (0 + 35) + 1 + (0 + 27) + 1 + (0 + 729))) (b := zn (zk_Troupe_3 M q )) [.ref (zn (M))] [.ref (zn (zk_Troupe_3 M q )), .ref q] l_Troupe_20 (k_Sorts l (zk_Troupe_4 M q ) (zn (zk_Troupe_3 M q )) (by have := he4.1; show zn (zk_Troupe_3 M q ) < zn (zk_Troupe_3 M q ) + 1; (exact zo_1083)) (congrArg Prod.fst (zal_sh (M := zk_Troupe_3 M q ) (t := 9) (n := 8))) (zn (M)) (by have := he4.1; omega)) rfl rfl (by decide) ⟨by have := he4.1; show _ ≤ zn M + 37; omega, by have := he4.2.1; show _ ≤ zw M + (0 + 8 + (0 + 1 + (0 + 4) + 1 + (0 + 24) + 1 + (0 + 576) + 1 + (0 + 24) + 1 + (0 + 24)) + 8 + (0 + 1 + (0 + 35) + 1 + (0 + 35) + 1 + (0 + 35) + 1 + (0 + 27) + 1 + (0 + 729)) + 3 + (0 + 1 + (0 + 1080) + 1 + (0 + 27)) + 5 + (0 + 1 + (0 + 27) + 1 + (0 + 24)) + 7 + (0 + 1 + (0 + 24)) + 1 + (0 + 8)); omega⟩ (Nat.le_of_ble_eq_true rfl) (zdal_p dlA_Troupe_init_5 (i := 12) rfl) (fun r M9 h9 _ _ => ?_)
  obtain ⟨rfl, rfl⟩ := h9
  have he5 : zExt M (zk_Troupe_5 M q ) 22 (0 + 8 + (0 + 1 + (0 + 4) + 1 + (0 + 24) + 1 + (0 + 576) + 1 + (0 + 24) + 1 + (0 + 24)) + 8 + (0 + 1 + (0 + 35) + 1 + (0 + 35) + 1 + (0 + 35) + 1 + (0 + 27) + 1 + (0 + 729))) q := he4.call (ext_Sorts (zk_Troupe_4 M q ) (zn (zk_Troupe_3 M q )) (zn (M))) (by have := he3.1; omega)
  have kf5_0 : zf (zk_Troupe_5 M q ) q 0 = some (zn (M)) := (congrFun ((ext_Sorts (zk_Troupe_4 M q ) (zn (zk_Troupe_3 M q )) (zn (M))).2.2.2 q (by have := he4.1; omega) (by have := he3.1; omega)) 0).trans kf4_0
  show zW l m_Troupe_init (zn M + 37, zw M + (0 + 8 + (0 + 1 + (0 + 4) + 1 + (0 + 24) + 1 + (0 + 576) + 1 + (0 + 24) + 1 + (0 + 24)) + 8 + (0 + 1 + (0 + 35) + 1 + (0 + 35) + 1 + (0 + 35) + 1 + (0 + 27) + 1 + (0 + 729)) + 3 + (0 + 1 + (0 + 1080) + 1 + (0 + 27)) + 5 + (0 + 1 + (0 + 27) + 1 + (0 + 24)) + 7 + (0 + 1 + (0 + 24)) + 1 + (0 + 8))) (zk_Troupe_5 M q ) 27 [some (.ref q)] [.ref (zn (zk_Troupe_3 M q )), .ref q] _
  refine zw_putR (pc := 27) (x := zn (zk_Troupe_3 M q )) (Or.inr ⟨g_Troupe_23, rfl, rfl, rfl⟩) rfl (he5.q hq hqk) (fun _ => rfl) (fun _ => rfl) (zdal_p dlA_Troupe_init_5 (i := 13) rfl) ?_
  have he6 : zExt M (zk_Troupe_6 M q ) 22 (0 + 8 + (0 + 1 + (0 + 4) + 1 + (0 + 24) + 1 + (0 + 576) + 1 + (0 + 24) + 1 + (0 + 24)) + 8 + (0 + 1 + (0 + 35) + 1 + (0 + 35) + 1 + (0 + 35) + 1 + (0 + 27) + 1 + (0 + 729))) q := he5.put
  have kf6_0 : zf (zk_Troupe_6 M q ) q 0 = some (zn (M)) := (zup2_n (fun z => absurd z.2 (by decide))).trans kf5_0
  show zW l m_Troupe_init (zn M + 37, zw M + (0 + 8 + (0 + 1 + (0 + 4) + 1 + (0 + 24) + 1 + (0 + 576) + 1 + (0 + 24) + 1 + (0 + 24)) + 8 + (0 + 1 + (0 + 35) + 1 + (0 + 35) + 1 + (0 + 35) + 1 + (0 + 27) + 1 + (0 + 729)) + 3 + (0 + 1 + (0 + 1080) + 1 + (0 + 27)) + 5 + (0 + 1 + (0 + 27) + 1 + (0 + 24)) + 7 + (0 + 1 + (0 + 24)) + 1 + (0 + 8))) (zk_Troupe_6 M q ) 30 [some (.ref q)] [] _
  have kn6 : zf (zk_Troupe_6 M q ) q 1 = some (zn (zk_Troupe_3 M q )) := zup2_s
  refine zw_aload_n (pc := 30) (n := 0) (x := q) rfl (zdal_p dlA_Troupe_init_5 (i := 14) rfl) ?_
  refine zw_new (pc := 31) (ci := 7) (by decide) n_Troupe_27 (by have := he6.1; omega) (by have := he6.1; show _ ≤ zn M + 37; omega) (by have := he6.2.1; show _ + 3 ≤ zw M + (0 + 8 + (0 + 1 + (0 + 4) + 1 + (0 + 24) + 1 + (0 + 576) + 1 + (0 + 24) + 1 + (0 + 24)) + 8 + (0 + 1 + (0 + 35) + 1 + (0 + 35) + 1 + (0 + 35) + 1 + (0 + 27) + 1 + (0 + 729)) + 3 + (0 + 1 + (0 + 1080) + 1 + (0 + 27)) + 5 + (0 + 1 + (0 + 27) + 1 + (0 + 24)) + 7 + (0 + 1 + (0 + 24)) + 1 + (0 + 8)); omega) (by decide) (zdal_p dlA_Troupe_init_5 (i := 15) rfl) ?_
  have he7 : zExt M (zk_Troupe_7 M q ) 23 (0 + 8 + (0 + 1 + (0 + 4) + 1 + (0 + 24) + 1 + (0 + 576) + 1 + (0 + 24) + 1 + (0 + 24)) + 8 + (0 + 1 + (0 + 35) + 1 + (0 + 35) + 1 + (0 + 35) + 1 + (0 + 27) + 1 + (0 + 729)) + 3) q := he6.al
  have kf7_0 : zf (zk_Troupe_7 M q ) q 0 = some (zn (M)) := (congrFun (zal_old (by have := he6.1; omega)).2 0).trans kf6_0
  have kf7_1 : zf (zk_Troupe_7 M q ) q 1 = some (zn (zk_Troupe_3 M q )) := (congrFun (zal_old (by have := he6.1; omega)).2 1).trans kn6
  show zW l m_Troupe_init (zn M + 37, zw M + (0 + 8 + (0 + 1 + (0 + 4) + 1 + (0 + 24) + 1 + (0 + 576) + 1 + (0 + 24) + 1 + (0 + 24)) + 8 + (0 + 1 + (0 + 35) + 1 + (0 + 35) + 1 + (0 + 35) + 1 + (0 + 27) + 1 + (0 + 729)) + 3 + (0 + 1 + (0 + 1080) + 1 + (0 + 27)) + 5 + (0 + 1 + (0 + 27) + 1 + (0 + 24)) + 7 + (0 + 1 + (0 + 24)) + 1 + (0 + 8))) (zk_Troupe_7 M q ) 34 [some (.ref q)] [.ref (zn (zk_Troupe_6 M q )), .ref q] _
  refine zw_dup (pc := 34) rfl (zdal_p dlA_Troupe_init_5 (i := 16) rfl) ?_
  refine zw_aload_n (pc := 35) (n := 0) (x := q) rfl (zdal_p dlA_Troupe_init_5 (i := 17) rfl) ?_
  refine zw_getF (pc := 36) f_Troupe_23 rfl (he7.q hq hqk) kf7_1 (zdal_p dlA_Troupe_init_5 (i := 18) rfl) ?_
  refine zw_callI (pc := 39) (mc := 4) (ms := (0 + 1 + (0 + 1080) + 1 + (0 + 27))) (b := zn (zk_Troupe_6 M q )) [.ref (zn (zk_Troupe_3 M q ))] [.ref (zn (zk_Troupe_6 M q )), .ref q] l_Troupe_29 (k_Sums l (zk_Troupe_7 M q ) (zn (zk_Troupe_6 M q )) (by have := he7.1; show zn (zk_Troupe_6 M q ) < zn (zk_Troupe_6 M q ) + 1; (exact zo_1083)) (congrArg Prod.fst (zal_sh (M := zk_Troupe_6 M q ) (t := 10) (n := 3))) (zn (zk_Troupe_3 M q )) (by have := he7.1; omega)) rfl rfl (by decide) ⟨by have := he7.1; show _ ≤ zn M + 37; omega, by have := he7.2.1; show _ ≤ zw M + (0 + 8 + (0 + 1 + (0 + 4) + 1 + (0 + 24) + 1 + (0 + 576) + 1 + (0 + 24) + 1 + (0 + 24)) + 8 + (0 + 1 + (0 + 35) + 1 + (0 + 35) + 1 + (0 + 35) + 1 + (0 + 27) + 1 + (0 + 729)) + 3 + (0 + 1 + (0 + 1080) + 1 + (0 + 27)) + 5 + (0 + 1 + (0 + 27) + 1 + (0 + 24)) + 7 + (0 + 1 + (0 + 24)) + 1 + (0 + 8)); omega⟩ (Nat.le_of_ble_eq_true rfl) (zdal_p dlA_Troupe_init_5 (i := 19) rfl) (fun r M9 h9 _ _ => ?_)
  obtain ⟨rfl, rfl⟩ := h9
  have he8 : zExt M (zk_Troupe_8 M q ) 27 (0 + 8 + (0 + 1 + (0 + 4) + 1 + (0 + 24) + 1 + (0 + 576) + 1 + (0 + 24) + 1 + (0 + 24)) + 8 + (0 + 1 + (0 + 35) + 1 + (0 + 35) + 1 + (0 + 35) + 1 + (0 + 27) + 1 + (0 + 729)) + 3 + (0 + 1 + (0 + 1080) + 1 + (0 + 27))) q := he7.call (ext_Sums (zk_Troupe_7 M q ) (zn (zk_Troupe_6 M q )) (zn (zk_Troupe_3 M q ))) (by have := he6.1; omega)
  have kf8_0 : zf (zk_Troupe_8 M q ) q 0 = some (zn (M)) := (congrFun ((ext_Sums (zk_Troupe_7 M q ) (zn (zk_Troupe_6 M q )) (zn (zk_Troupe_3 M q ))).2.2.2 q (by have := he7.1; omega) (by have := he6.1; omega)) 0).trans kf7_0
  have kf8_1 : zf (zk_Troupe_8 M q ) q 1 = some (zn (zk_Troupe_3 M q )) := (congrFun ((ext_Sums (zk_Troupe_7 M q ) (zn (zk_Troupe_6 M q )) (zn (zk_Troupe_3 M q ))).2.2.2 q (by have := he7.1; omega) (by have := he6.1; omega)) 1).trans kf7_1
  show zW l m_Troupe_init (zn M + 37, zw M + (0 + 8 + (0 + 1 + (0 + 4) + 1 + (0 + 24) + 1 + (0 + 576) + 1 + (0 + 24) + 1 + (0 + 24)) + 8 + (0 + 1 + (0 + 35) + 1 + (0 + 35) + 1 + (0 + 35) + 1 + (0 + 27) + 1 + (0 + 729)) + 3 + (0 + 1 + (0 + 1080) + 1 + (0 + 27)) + 5 + (0 + 1 + (0 + 27) + 1 + (0 + 24)) + 7 + (0 + 1 + (0 + 24)) + 1 + (0 + 8))) (zk_Troupe_8 M q ) 42 [some (.ref q)] [.ref (zn (zk_Troupe_6 M q )), .ref q] _
  refine zw_putR (pc := 42) (x := zn (zk_Troupe_6 M q )) (Or.inr ⟨g_Troupe_32, rfl, rfl, rfl⟩) rfl (he8.q hq hqk) (fun _ => rfl) (fun _ => rfl) (zdal_p dlA_Troupe_init_5 (i := 20) rfl) ?_
  have he9 : zExt M (zk_Troupe_9 M q ) 27 (0 + 8 + (0 + 1 + (0 + 4) + 1 + (0 + 24) + 1 + (0 + 576) + 1 + (0 + 24) + 1 + (0 + 24)) + 8 + (0 + 1 + (0 + 35) + 1 + (0 + 35) + 1 + (0 + 35) + 1 + (0 + 27) + 1 + (0 + 729)) + 3 + (0 + 1 + (0 + 1080) + 1 + (0 + 27))) q := he8.put
  have kf9_0 : zf (zk_Troupe_9 M q ) q 0 = some (zn (M)) := (zup2_n (fun z => absurd z.2 (by decide))).trans kf8_0
  have kf9_1 : zf (zk_Troupe_9 M q ) q 1 = some (zn (zk_Troupe_3 M q )) := (zup2_n (fun z => absurd z.2 (by decide))).trans kf8_1
  show zW l m_Troupe_init (zn M + 37, zw M + (0 + 8 + (0 + 1 + (0 + 4) + 1 + (0 + 24) + 1 + (0 + 576) + 1 + (0 + 24) + 1 + (0 + 24)) + 8 + (0 + 1 + (0 + 35) + 1 + (0 + 35) + 1 + (0 + 35) + 1 + (0 + 27) + 1 + (0 + 729)) + 3 + (0 + 1 + (0 + 1080) + 1 + (0 + 27)) + 5 + (0 + 1 + (0 + 27) + 1 + (0 + 24)) + 7 + (0 + 1 + (0 + 24)) + 1 + (0 + 8))) (zk_Troupe_9 M q ) 45 [some (.ref q)] [] _
  have kn9 : zf (zk_Troupe_9 M q ) q 2 = some (zn (zk_Troupe_6 M q )) := zup2_s
  refine zw_aload_n (pc := 45) (n := 0) (x := q) rfl (zdal_p dlA_Troupe_init_5 (i := 21) rfl) ?_
  refine zw_new (pc := 46) (ci := 9) (by decide) n_Troupe_36 (by have := he9.1; omega) (by have := he9.1; show _ ≤ zn M + 37; omega) (by have := he9.2.1; show _ + 5 ≤ zw M + (0 + 8 + (0 + 1 + (0 + 4) + 1 + (0 + 24) + 1 + (0 + 576) + 1 + (0 + 24) + 1 + (0 + 24)) + 8 + (0 + 1 + (0 + 35) + 1 + (0 + 35) + 1 + (0 + 35) + 1 + (0 + 27) + 1 + (0 + 729)) + 3 + (0 + 1 + (0 + 1080) + 1 + (0 + 27)) + 5 + (0 + 1 + (0 + 27) + 1 + (0 + 24)) + 7 + (0 + 1 + (0 + 24)) + 1 + (0 + 8)); omega) (by decide) (zdal_p dlA_Troupe_init_5 (i := 22) rfl) ?_
  have he10 : zExt M (zk_Troupe_10 M q ) 28 (0 + 8 + (0 + 1 + (0 + 4) + 1 + (0 + 24) + 1 + (0 + 576) + 1 + (0 + 24) + 1 + (0 + 24)) + 8 + (0 + 1 + (0 + 35) + 1 + (0 + 35) + 1 + (0 + 35) + 1 + (0 + 27) + 1 + (0 + 729)) + 3 + (0 + 1 + (0 + 1080) + 1 + (0 + 27)) + 5) q := he9.al
  have kf10_0 : zf (zk_Troupe_10 M q ) q 0 = some (zn (M)) := (congrFun (zal_old (by have := he9.1; (exact zo_1569 hm hq this))).2 0).trans kf9_0
  have kf10_1 : zf (zk_Troupe_10 M q ) q 1 = some (zn (zk_Troupe_3 M q )) := (congrFun (zal_old (by have := he9.1; (exact zo_1569 hm hq this))).2 1).trans kf9_1
  have kf10_2 : zf (zk_Troupe_10 M q ) q 2 = some (zn (zk_Troupe_6 M q )) := (congrFun (zal_old (by have := he9.1; (exact zo_1569 hm hq this))).2 2).trans kn9
  show zW l m_Troupe_init (zn M + 37, zw M + (0 + 8 + (0 + 1 + (0 + 4) + 1 + (0 + 24) + 1 + (0 + 576) + 1 + (0 + 24) + 1 + (0 + 24)) + 8 + (0 + 1 + (0 + 35) + 1 + (0 + 35) + 1 + (0 + 35) + 1 + (0 + 27) + 1 + (0 + 729)) + 3 + (0 + 1 + (0 + 1080) + 1 + (0 + 27)) + 5 + (0 + 1 + (0 + 27) + 1 + (0 + 24)) + 7 + (0 + 1 + (0 + 24)) + 1 + (0 + 8))) (zk_Troupe_10 M q ) 49 [some (.ref q)] [.ref (zn (zk_Troupe_9 M q )), .ref q] _
  refine zw_dup (pc := 49) rfl (zdal_p dlA_Troupe_init_5 (i := 23) rfl) ?_
  refine zw_aload_n (pc := 50) (n := 0) (x := q) rfl (zdal_p dlA_Troupe_init_6 (i := 0) rfl) ?_
  refine zw_getF (pc := 51) f_Troupe_23 rfl (he10.q hq hqk) kf10_1 (zdal_p dlA_Troupe_init_6 (i := 1) rfl) ?_
  refine zw_callI (pc := 54) (mc := 4) (ms := (0 + 1 + (0 + 27) + 1 + (0 + 24))) (b := zn (zk_Troupe_9 M q )) [.ref (zn (zk_Troupe_3 M q ))] [.ref (zn (zk_Troupe_9 M q )), .ref q] l_Troupe_38 (k_Units l (zk_Troupe_10 M q ) (zn (zk_Troupe_9 M q )) (by have := he10.1; show zn (zk_Troupe_9 M q ) < zn (zk_Troupe_9 M q ) + 1; (exact zo_1083)) (congrArg Prod.fst (zal_sh (M := zk_Troupe_9 M q ) (t := 12) (n := 5))) (zn (zk_Troupe_3 M q )) (by have := he10.1; omega)) rfl rfl (by decide) ⟨by have := he10.1; show _ ≤ zn M + 37; omega, by have := he10.2.1; show _ ≤ zw M + (0 + 8 + (0 + 1 + (0 + 4) + 1 + (0 + 24) + 1 + (0 + 576) + 1 + (0 + 24) + 1 + (0 + 24)) + 8 + (0 + 1 + (0 + 35) + 1 + (0 + 35) + 1 + (0 + 35) + 1 + (0 + 27) + 1 + (0 + 729)) + 3 + (0 + 1 + (0 + 1080) + 1 + (0 + 27)) + 5 + (0 + 1 + (0 + 27) + 1 + (0 + 24)) + 7 + (0 + 1 + (0 + 24)) + 1 + (0 + 8)); omega⟩ (Nat.le_of_ble_eq_true rfl) (zdal_p dlA_Troupe_init_6 (i := 2) rfl) (fun r M9 h9 _ _ => ?_)
  obtain ⟨rfl, rfl⟩ := h9
  have he11 : zExt M (zk_Troupe_11 M q ) 32 (0 + 8 + (0 + 1 + (0 + 4) + 1 + (0 + 24) + 1 + (0 + 576) + 1 + (0 + 24) + 1 + (0 + 24)) + 8 + (0 + 1 + (0 + 35) + 1 + (0 + 35) + 1 + (0 + 35) + 1 + (0 + 27) + 1 + (0 + 729)) + 3 + (0 + 1 + (0 + 1080) + 1 + (0 + 27)) + 5 + (0 + 1 + (0 + 27) + 1 + (0 + 24))) q := he10.call (ext_Units (zk_Troupe_10 M q ) (zn (zk_Troupe_9 M q )) (zn (zk_Troupe_3 M q ))) (by have := he9.1; omega)
  have kf11_0 : zf (zk_Troupe_11 M q ) q 0 = some (zn (M)) := (congrFun ((ext_Units (zk_Troupe_10 M q ) (zn (zk_Troupe_9 M q )) (zn (zk_Troupe_3 M q ))).2.2.2 q (by have := he10.1; (exact zo_1574 hm hq this)) (by have := he9.1; (exact zo_1575 hq this))) 0).trans kf10_0
  have kf11_1 : zf (zk_Troupe_11 M q ) q 1 = some (zn (zk_Troupe_3 M q )) := (congrFun ((ext_Units (zk_Troupe_10 M q ) (zn (zk_Troupe_9 M q )) (zn (zk_Troupe_3 M q ))).2.2.2 q (by have := he10.1; (exact zo_1574 hm hq this)) (by have := he9.1; (exact zo_1575 hq this))) 1).trans kf10_1
  have kf11_2 : zf (zk_Troupe_11 M q ) q 2 = some (zn (zk_Troupe_6 M q )) := (congrFun ((ext_Units (zk_Troupe_10 M q ) (zn (zk_Troupe_9 M q )) (zn (zk_Troupe_3 M q ))).2.2.2 q (by have := he10.1; (exact zo_1574 hm hq this)) (by have := he9.1; (exact zo_1575 hq this))) 2).trans kf10_2
  show zW l m_Troupe_init (zn M + 37, zw M + (0 + 8 + (0 + 1 + (0 + 4) + 1 + (0 + 24) + 1 + (0 + 576) + 1 + (0 + 24) + 1 + (0 + 24)) + 8 + (0 + 1 + (0 + 35) + 1 + (0 + 35) + 1 + (0 + 35) + 1 + (0 + 27) + 1 + (0 + 729)) + 3 + (0 + 1 + (0 + 1080) + 1 + (0 + 27)) + 5 + (0 + 1 + (0 + 27) + 1 + (0 + 24)) + 7 + (0 + 1 + (0 + 24)) + 1 + (0 + 8))) (zk_Troupe_11 M q ) 57 [some (.ref q)] [.ref (zn (zk_Troupe_9 M q )), .ref q] _
  refine zw_putR (pc := 57) (x := zn (zk_Troupe_9 M q )) (Or.inr ⟨g_Troupe_39, rfl, rfl, rfl⟩) rfl (he11.q hq hqk) (fun _ => rfl) (fun _ => rfl) (zdal_p dlA_Troupe_init_6 (i := 3) rfl) ?_
  have he12 : zExt M (zk_Troupe_12 M q ) 32 (0 + 8 + (0 + 1 + (0 + 4) + 1 + (0 + 24) + 1 + (0 + 576) + 1 + (0 + 24) + 1 + (0 + 24)) + 8 + (0 + 1 + (0 + 35) + 1 + (0 + 35) + 1 + (0 + 35) + 1 + (0 + 27) + 1 + (0 + 729)) + 3 + (0 + 1 + (0 + 1080) + 1 + (0 + 27)) + 5 + (0 + 1 + (0 + 27) + 1 + (0 + 24))) q := he11.put
  have kf12_0 : zf (zk_Troupe_12 M q ) q 0 = some (zn (M)) := (zup2_n (fun z => absurd z.2 (by decide))).trans kf11_0
  have kf12_1 : zf (zk_Troupe_12 M q ) q 1 = some (zn (zk_Troupe_3 M q )) := (zup2_n (fun z => absurd z.2 (by decide))).trans kf11_1
  have kf12_2 : zf (zk_Troupe_12 M q ) q 2 = some (zn (zk_Troupe_6 M q )) := (zup2_n (fun z => absurd z.2 (by decide))).trans kf11_2
  show zW l m_Troupe_init (zn M + 37, zw M + (0 + 8 + (0 + 1 + (0 + 4) + 1 + (0 + 24) + 1 + (0 + 576) + 1 + (0 + 24) + 1 + (0 + 24)) + 8 + (0 + 1 + (0 + 35) + 1 + (0 + 35) + 1 + (0 + 35) + 1 + (0 + 27) + 1 + (0 + 729)) + 3 + (0 + 1 + (0 + 1080) + 1 + (0 + 27)) + 5 + (0 + 1 + (0 + 27) + 1 + (0 + 24)) + 7 + (0 + 1 + (0 + 24)) + 1 + (0 + 8))) (zk_Troupe_12 M q ) 60 [some (.ref q)] [] _
  have kn12 : zf (zk_Troupe_12 M q ) q 3 = some (zn (zk_Troupe_9 M q )) := zup2_s
  refine zw_aload_n (pc := 60) (n := 0) (x := q) rfl (zdal_p dlA_Troupe_init_6 (i := 4) rfl) ?_
  refine zw_new (pc := 61) (ci := 10) (by decide) n_Troupe_43 (by have := he12.1; omega) (by have := he12.1; show _ ≤ zn M + 37; omega) (by have := he12.2.1; show _ + 7 ≤ zw M + (0 + 8 + (0 + 1 + (0 + 4) + 1 + (0 + 24) + 1 + (0 + 576) + 1 + (0 + 24) + 1 + (0 + 24)) + 8 + (0 + 1 + (0 + 35) + 1 + (0 + 35) + 1 + (0 + 35) + 1 + (0 + 27) + 1 + (0 + 729)) + 3 + (0 + 1 + (0 + 1080) + 1 + (0 + 27)) + 5 + (0 + 1 + (0 + 27) + 1 + (0 + 24)) + 7 + (0 + 1 + (0 + 24)) + 1 + (0 + 8)); omega) (by decide) (zdal_p dlA_Troupe_init_6 (i := 5) rfl) ?_
  have he13 : zExt M (zk_Troupe_13 M q ) 33 (0 + 8 + (0 + 1 + (0 + 4) + 1 + (0 + 24) + 1 + (0 + 576) + 1 + (0 + 24) + 1 + (0 + 24)) + 8 + (0 + 1 + (0 + 35) + 1 + (0 + 35) + 1 + (0 + 35) + 1 + (0 + 27) + 1 + (0 + 729)) + 3 + (0 + 1 + (0 + 1080) + 1 + (0 + 27)) + 5 + (0 + 1 + (0 + 27) + 1 + (0 + 24)) + 7) q := he12.al
  have kf13_0 : zf (zk_Troupe_13 M q ) q 0 = some (zn (M)) := (congrFun (zal_old (by have := he12.1; (exact zo_1579 hm hq this))).2 0).trans kf12_0
  have kf13_1 : zf (zk_Troupe_13 M q ) q 1 = some (zn (zk_Troupe_3 M q )) := (congrFun (zal_old (by have := he12.1; (exact zo_1579 hm hq this))).2 1).trans kf12_1
  have kf13_2 : zf (zk_Troupe_13 M q ) q 2 = some (zn (zk_Troupe_6 M q )) := (congrFun (zal_old (by have := he12.1; (exact zo_1579 hm hq this))).2 2).trans kf12_2
  have kf13_3 : zf (zk_Troupe_13 M q ) q 3 = some (zn (zk_Troupe_9 M q )) := (congrFun (zal_old (by have := he12.1; (exact zo_1579 hm hq this))).2 3).trans kn12
  show zW l m_Troupe_init (zn M + 37, zw M + (0 + 8 + (0 + 1 + (0 + 4) + 1 + (0 + 24) + 1 + (0 + 576) + 1 + (0 + 24) + 1 + (0 + 24)) + 8 + (0 + 1 + (0 + 35) + 1 + (0 + 35) + 1 + (0 + 35) + 1 + (0 + 27) + 1 + (0 + 729)) + 3 + (0 + 1 + (0 + 1080) + 1 + (0 + 27)) + 5 + (0 + 1 + (0 + 27) + 1 + (0 + 24)) + 7 + (0 + 1 + (0 + 24)) + 1 + (0 + 8))) (zk_Troupe_13 M q ) 64 [some (.ref q)] [.ref (zn (zk_Troupe_12 M q )), .ref q] _
  refine zw_dup (pc := 64) rfl (zdal_p dlA_Troupe_init_6 (i := 6) rfl) ?_
  refine zw_aload_n (pc := 65) (n := 0) (x := q) rfl (zdal_p dlA_Troupe_init_6 (i := 7) rfl) ?_
  refine zw_getF (pc := 66) f_Troupe_32 rfl (he13.q hq hqk) kf13_2 (zdal_p dlA_Troupe_init_6 (i := 8) rfl) ?_
  refine zw_callI (pc := 69) (mc := 2) (ms := (0 + 1 + (0 + 24))) (b := zn (zk_Troupe_12 M q )) [.ref (zn (zk_Troupe_6 M q ))] [.ref (zn (zk_Troupe_12 M q )), .ref q] l_Troupe_45 (k_Calc l (zk_Troupe_13 M q ) (zn (zk_Troupe_12 M q )) (by have := he13.1; show zn (zk_Troupe_12 M q ) < zn (zk_Troupe_12 M q ) + 1; (exact zo_1083)) (congrArg Prod.fst (zal_sh (M := zk_Troupe_12 M q ) (t := 13) (n := 7))) (zn (zk_Troupe_6 M q )) (by have := he13.1; omega)) rfl rfl (by decide) ⟨by have := he13.1; show _ ≤ zn M + 37; omega, by have := he13.2.1; show _ ≤ zw M + (0 + 8 + (0 + 1 + (0 + 4) + 1 + (0 + 24) + 1 + (0 + 576) + 1 + (0 + 24) + 1 + (0 + 24)) + 8 + (0 + 1 + (0 + 35) + 1 + (0 + 35) + 1 + (0 + 35) + 1 + (0 + 27) + 1 + (0 + 729)) + 3 + (0 + 1 + (0 + 1080) + 1 + (0 + 27)) + 5 + (0 + 1 + (0 + 27) + 1 + (0 + 24)) + 7 + (0 + 1 + (0 + 24)) + 1 + (0 + 8)); omega⟩ (Nat.le_of_ble_eq_true rfl) (zdal_p dlA_Troupe_init_6 (i := 9) rfl) (fun r M9 h9 _ _ => ?_)
  obtain ⟨rfl, rfl⟩ := h9
  have he14 : zExt M (zk_Troupe_14 M q ) 35 (0 + 8 + (0 + 1 + (0 + 4) + 1 + (0 + 24) + 1 + (0 + 576) + 1 + (0 + 24) + 1 + (0 + 24)) + 8 + (0 + 1 + (0 + 35) + 1 + (0 + 35) + 1 + (0 + 35) + 1 + (0 + 27) + 1 + (0 + 729)) + 3 + (0 + 1 + (0 + 1080) + 1 + (0 + 27)) + 5 + (0 + 1 + (0 + 27) + 1 + (0 + 24)) + 7 + (0 + 1 + (0 + 24))) q := he13.call (ext_Calc (zk_Troupe_13 M q ) (zn (zk_Troupe_12 M q )) (zn (zk_Troupe_6 M q ))) (by have := he12.1; omega)
  have kf14_0 : zf (zk_Troupe_14 M q ) q 0 = some (zn (M)) := (congrFun ((ext_Calc (zk_Troupe_13 M q ) (zn (zk_Troupe_12 M q )) (zn (zk_Troupe_6 M q ))).2.2.2 q (by have := he13.1; (exact zo_1584 hm hq this)) (by have := he12.1; (exact zo_1585 hq this))) 0).trans kf13_0
  have kf14_1 : zf (zk_Troupe_14 M q ) q 1 = some (zn (zk_Troupe_3 M q )) := (congrFun ((ext_Calc (zk_Troupe_13 M q ) (zn (zk_Troupe_12 M q )) (zn (zk_Troupe_6 M q ))).2.2.2 q (by have := he13.1; (exact zo_1584 hm hq this)) (by have := he12.1; (exact zo_1585 hq this))) 1).trans kf13_1
  have kf14_2 : zf (zk_Troupe_14 M q ) q 2 = some (zn (zk_Troupe_6 M q )) := (congrFun ((ext_Calc (zk_Troupe_13 M q ) (zn (zk_Troupe_12 M q )) (zn (zk_Troupe_6 M q ))).2.2.2 q (by have := he13.1; (exact zo_1584 hm hq this)) (by have := he12.1; (exact zo_1585 hq this))) 2).trans kf13_2
  have kf14_3 : zf (zk_Troupe_14 M q ) q 3 = some (zn (zk_Troupe_9 M q )) := (congrFun ((ext_Calc (zk_Troupe_13 M q ) (zn (zk_Troupe_12 M q )) (zn (zk_Troupe_6 M q ))).2.2.2 q (by have := he13.1; (exact zo_1584 hm hq this)) (by have := he12.1; (exact zo_1585 hq this))) 3).trans kf13_3
  show zW l m_Troupe_init (zn M + 37, zw M + (0 + 8 + (0 + 1 + (0 + 4) + 1 + (0 + 24) + 1 + (0 + 576) + 1 + (0 + 24) + 1 + (0 + 24)) + 8 + (0 + 1 + (0 + 35) + 1 + (0 + 35) + 1 + (0 + 35) + 1 + (0 + 27) + 1 + (0 + 729)) + 3 + (0 + 1 + (0 + 1080) + 1 + (0 + 27)) + 5 + (0 + 1 + (0 + 27) + 1 + (0 + 24)) + 7 + (0 + 1 + (0 + 24)) + 1 + (0 + 8))) (zk_Troupe_14 M q ) 72 [some (.ref q)] [.ref (zn (zk_Troupe_12 M q )), .ref q] _
  refine zw_putR (pc := 72) (x := zn (zk_Troupe_12 M q )) (Or.inr ⟨g_Troupe_48, rfl, rfl, rfl⟩) rfl (he14.q hq hqk) (fun _ => rfl) (fun _ => rfl) (zdal_p dlA_Troupe_init_6 (i := 10) rfl) ?_
  have he15 : zExt M (zk_Troupe_15 M q ) 35 (0 + 8 + (0 + 1 + (0 + 4) + 1 + (0 + 24) + 1 + (0 + 576) + 1 + (0 + 24) + 1 + (0 + 24)) + 8 + (0 + 1 + (0 + 35) + 1 + (0 + 35) + 1 + (0 + 35) + 1 + (0 + 27) + 1 + (0 + 729)) + 3 + (0 + 1 + (0 + 1080) + 1 + (0 + 27)) + 5 + (0 + 1 + (0 + 27) + 1 + (0 + 24)) + 7 + (0 + 1 + (0 + 24))) q := he14.put
  have kf15_0 : zf (zk_Troupe_15 M q ) q 0 = some (zn (M)) := (zup2_n (fun z => absurd z.2 (by decide))).trans kf14_0
  have kf15_1 : zf (zk_Troupe_15 M q ) q 1 = some (zn (zk_Troupe_3 M q )) := (zup2_n (fun z => absurd z.2 (by decide))).trans kf14_1
  have kf15_2 : zf (zk_Troupe_15 M q ) q 2 = some (zn (zk_Troupe_6 M q )) := (zup2_n (fun z => absurd z.2 (by decide))).trans kf14_2
  have kf15_3 : zf (zk_Troupe_15 M q ) q 3 = some (zn (zk_Troupe_9 M q )) := (zup2_n (fun z => absurd z.2 (by decide))).trans kf14_3
  show zW l m_Troupe_init (zn M + 37, zw M + (0 + 8 + (0 + 1 + (0 + 4) + 1 + (0 + 24) + 1 + (0 + 576) + 1 + (0 + 24) + 1 + (0 + 24)) + 8 + (0 + 1 + (0 + 35) + 1 + (0 + 35) + 1 + (0 + 35) + 1 + (0 + 27) + 1 + (0 + 729)) + 3 + (0 + 1 + (0 + 1080) + 1 + (0 + 27)) + 5 + (0 + 1 + (0 + 27) + 1 + (0 + 24)) + 7 + (0 + 1 + (0 + 24)) + 1 + (0 + 8))) (zk_Troupe_15 M q ) 75 [some (.ref q)] [] _
  have kn15 : zf (zk_Troupe_15 M q ) q 4 = some (zn (zk_Troupe_12 M q )) := zup2_s
  refine zw_aload_n (pc := 75) (n := 0) (x := q) rfl (zdal_p dlA_Troupe_init_6 (i := 11) rfl) ?_
  refine zw_new (pc := 76) (ci := 2) (by decide) n_Troupe_52 (by have := he15.1; omega) (by have := he15.1; show _ ≤ zn M + 37; omega) (by have := he15.2.1; show _ + 1 ≤ zw M + (0 + 8 + (0 + 1 + (0 + 4) + 1 + (0 + 24) + 1 + (0 + 576) + 1 + (0 + 24) + 1 + (0 + 24)) + 8 + (0 + 1 + (0 + 35) + 1 + (0 + 35) + 1 + (0 + 35) + 1 + (0 + 27) + 1 + (0 + 729)) + 3 + (0 + 1 + (0 + 1080) + 1 + (0 + 27)) + 5 + (0 + 1 + (0 + 27) + 1 + (0 + 24)) + 7 + (0 + 1 + (0 + 24)) + 1 + (0 + 8)); omega) (by decide) (zdal_p dlA_Troupe_init_6 (i := 12) rfl) ?_
  have he16 : zExt M (zk_Troupe_16 M q ) 36 (0 + 8 + (0 + 1 + (0 + 4) + 1 + (0 + 24) + 1 + (0 + 576) + 1 + (0 + 24) + 1 + (0 + 24)) + 8 + (0 + 1 + (0 + 35) + 1 + (0 + 35) + 1 + (0 + 35) + 1 + (0 + 27) + 1 + (0 + 729)) + 3 + (0 + 1 + (0 + 1080) + 1 + (0 + 27)) + 5 + (0 + 1 + (0 + 27) + 1 + (0 + 24)) + 7 + (0 + 1 + (0 + 24)) + 1) q := he15.al
  have kf16_0 : zf (zk_Troupe_16 M q ) q 0 = some (zn (M)) := (congrFun (zal_old (by have := he15.1; (exact zo_1589 hm hq this))).2 0).trans kf15_0
  have kf16_1 : zf (zk_Troupe_16 M q ) q 1 = some (zn (zk_Troupe_3 M q )) := (congrFun (zal_old (by have := he15.1; (exact zo_1589 hm hq this))).2 1).trans kf15_1
  have kf16_2 : zf (zk_Troupe_16 M q ) q 2 = some (zn (zk_Troupe_6 M q )) := (congrFun (zal_old (by have := he15.1; (exact zo_1589 hm hq this))).2 2).trans kf15_2
  have kf16_3 : zf (zk_Troupe_16 M q ) q 3 = some (zn (zk_Troupe_9 M q )) := (congrFun (zal_old (by have := he15.1; (exact zo_1589 hm hq this))).2 3).trans kf15_3
  have kf16_4 : zf (zk_Troupe_16 M q ) q 4 = some (zn (zk_Troupe_12 M q )) := (congrFun (zal_old (by have := he15.1; (exact zo_1589 hm hq this))).2 4).trans kn15
  show zW l m_Troupe_init (zn M + 37, zw M + (0 + 8 + (0 + 1 + (0 + 4) + 1 + (0 + 24) + 1 + (0 + 576) + 1 + (0 + 24) + 1 + (0 + 24)) + 8 + (0 + 1 + (0 + 35) + 1 + (0 + 35) + 1 + (0 + 35) + 1 + (0 + 27) + 1 + (0 + 729)) + 3 + (0 + 1 + (0 + 1080) + 1 + (0 + 27)) + 5 + (0 + 1 + (0 + 27) + 1 + (0 + 24)) + 7 + (0 + 1 + (0 + 24)) + 1 + (0 + 8))) (zk_Troupe_16 M q ) 79 [some (.ref q)] [.ref (zn (zk_Troupe_15 M q )), .ref q] _
  refine zw_dup (pc := 79) rfl (zdal_p dlA_Troupe_init_6 (i := 13) rfl) ?_
  refine zw_bipush (pc := 80) (v := nI 8) (by decide) (zdal_p dlA_Troupe_init_6 (i := 14) rfl) ?_
  refine zw_callI (pc := 82) (mc := 1) (ms := (0 + 8)) (b := zn (zk_Troupe_15 M q )) [.int (nI 8)] [.ref (zn (zk_Troupe_15 M q )), .ref q] l_Troupe_54 (k_IntRow l (zk_Troupe_16 M q ) (zn (zk_Troupe_15 M q )) (by have := he16.1; show zn (zk_Troupe_15 M q ) < zn (zk_Troupe_15 M q ) + 1; (exact zo_1083)) (congrArg Prod.fst (zal_sh (M := zk_Troupe_15 M q ) (t := 5) (n := 1))) 8 (by decide) (by have := he16.1; omega)) rfl rfl (by decide) ⟨by have := he16.1; show _ ≤ zn M + 37; omega, by have := he16.2.1; show _ ≤ zw M + (0 + 8 + (0 + 1 + (0 + 4) + 1 + (0 + 24) + 1 + (0 + 576) + 1 + (0 + 24) + 1 + (0 + 24)) + 8 + (0 + 1 + (0 + 35) + 1 + (0 + 35) + 1 + (0 + 35) + 1 + (0 + 27) + 1 + (0 + 729)) + 3 + (0 + 1 + (0 + 1080) + 1 + (0 + 27)) + 5 + (0 + 1 + (0 + 27) + 1 + (0 + 24)) + 7 + (0 + 1 + (0 + 24)) + 1 + (0 + 8)); omega⟩ (Nat.le_of_ble_eq_true rfl) (zdal_p dlA_Troupe_init_6 (i := 15) rfl) (fun r M9 h9 _ _ => ?_)
  obtain ⟨rfl, rfl⟩ := h9
  have he17 : zExt M (zk_Troupe_17 M q ) 37 (0 + 8 + (0 + 1 + (0 + 4) + 1 + (0 + 24) + 1 + (0 + 576) + 1 + (0 + 24) + 1 + (0 + 24)) + 8 + (0 + 1 + (0 + 35) + 1 + (0 + 35) + 1 + (0 + 35) + 1 + (0 + 27) + 1 + (0 + 729)) + 3 + (0 + 1 + (0 + 1080) + 1 + (0 + 27)) + 5 + (0 + 1 + (0 + 27) + 1 + (0 + 24)) + 7 + (0 + 1 + (0 + 24)) + 1 + (0 + 8)) q := he16.call (ext_IntRow (zk_Troupe_16 M q ) (zn (zk_Troupe_15 M q )) 8) (by have := he15.1; omega)
  have kf17_0 : zf (zk_Troupe_17 M q ) q 0 = some (zn (M)) := (congrFun ((ext_IntRow (zk_Troupe_16 M q ) (zn (zk_Troupe_15 M q )) 8).2.2.2 q (by have := he16.1; (exact zo_1594 hm hq this)) (by have := he15.1; (exact zo_1595 hq this))) 0).trans kf16_0
  have kf17_1 : zf (zk_Troupe_17 M q ) q 1 = some (zn (zk_Troupe_3 M q )) := (congrFun ((ext_IntRow (zk_Troupe_16 M q ) (zn (zk_Troupe_15 M q )) 8).2.2.2 q (by have := he16.1; (exact zo_1594 hm hq this)) (by have := he15.1; (exact zo_1595 hq this))) 1).trans kf16_1
  have kf17_2 : zf (zk_Troupe_17 M q ) q 2 = some (zn (zk_Troupe_6 M q )) := (congrFun ((ext_IntRow (zk_Troupe_16 M q ) (zn (zk_Troupe_15 M q )) 8).2.2.2 q (by have := he16.1; (exact zo_1594 hm hq this)) (by have := he15.1; (exact zo_1595 hq this))) 2).trans kf16_2
  have kf17_3 : zf (zk_Troupe_17 M q ) q 3 = some (zn (zk_Troupe_9 M q )) := (congrFun ((ext_IntRow (zk_Troupe_16 M q ) (zn (zk_Troupe_15 M q )) 8).2.2.2 q (by have := he16.1; (exact zo_1594 hm hq this)) (by have := he15.1; (exact zo_1595 hq this))) 3).trans kf16_3
  have kf17_4 : zf (zk_Troupe_17 M q ) q 4 = some (zn (zk_Troupe_12 M q )) := (congrFun ((ext_IntRow (zk_Troupe_16 M q ) (zn (zk_Troupe_15 M q )) 8).2.2.2 q (by have := he16.1; (exact zo_1594 hm hq this)) (by have := he15.1; (exact zo_1595 hq this))) 4).trans kf16_4
  show zW l m_Troupe_init (zn M + 37, zw M + (0 + 8 + (0 + 1 + (0 + 4) + 1 + (0 + 24) + 1 + (0 + 576) + 1 + (0 + 24) + 1 + (0 + 24)) + 8 + (0 + 1 + (0 + 35) + 1 + (0 + 35) + 1 + (0 + 35) + 1 + (0 + 27) + 1 + (0 + 729)) + 3 + (0 + 1 + (0 + 1080) + 1 + (0 + 27)) + 5 + (0 + 1 + (0 + 27) + 1 + (0 + 24)) + 7 + (0 + 1 + (0 + 24)) + 1 + (0 + 8))) (zk_Troupe_17 M q ) 85 [some (.ref q)] [.ref (zn (zk_Troupe_15 M q )), .ref q] _
  refine zw_putR (pc := 85) (x := zn (zk_Troupe_15 M q )) (Or.inr ⟨g_Troupe_57, rfl, rfl, rfl⟩) rfl (he17.q hq hqk) (fun _ => rfl) (fun _ => rfl) (zdal_p dlA_Troupe_init_6 (i := 16) rfl) ?_
  have he18 : zExt M (zk_Troupe_18 M q ) 37 (0 + 8 + (0 + 1 + (0 + 4) + 1 + (0 + 24) + 1 + (0 + 576) + 1 + (0 + 24) + 1 + (0 + 24)) + 8 + (0 + 1 + (0 + 35) + 1 + (0 + 35) + 1 + (0 + 35) + 1 + (0 + 27) + 1 + (0 + 729)) + 3 + (0 + 1 + (0 + 1080) + 1 + (0 + 27)) + 5 + (0 + 1 + (0 + 27) + 1 + (0 + 24)) + 7 + (0 + 1 + (0 + 24)) + 1 + (0 + 8)) q := he17.put
  have kf18_0 : zf (zk_Troupe_18 M q ) q 0 = some (zn (M)) := (zup2_n (fun z => absurd z.2 (by decide))).trans kf17_0
  have kf18_1 : zf (zk_Troupe_18 M q ) q 1 = some (zn (zk_Troupe_3 M q )) := (zup2_n (fun z => absurd z.2 (by decide))).trans kf17_1
  have kf18_2 : zf (zk_Troupe_18 M q ) q 2 = some (zn (zk_Troupe_6 M q )) := (zup2_n (fun z => absurd z.2 (by decide))).trans kf17_2
  have kf18_3 : zf (zk_Troupe_18 M q ) q 3 = some (zn (zk_Troupe_9 M q )) := (zup2_n (fun z => absurd z.2 (by decide))).trans kf17_3
  have kf18_4 : zf (zk_Troupe_18 M q ) q 4 = some (zn (zk_Troupe_12 M q )) := (zup2_n (fun z => absurd z.2 (by decide))).trans kf17_4
  show zW l m_Troupe_init (zn M + 37, zw M + (0 + 8 + (0 + 1 + (0 + 4) + 1 + (0 + 24) + 1 + (0 + 576) + 1 + (0 + 24) + 1 + (0 + 24)) + 8 + (0 + 1 + (0 + 35) + 1 + (0 + 35) + 1 + (0 + 35) + 1 + (0 + 27) + 1 + (0 + 729)) + 3 + (0 + 1 + (0 + 1080) + 1 + (0 + 27)) + 5 + (0 + 1 + (0 + 27) + 1 + (0 + 24)) + 7 + (0 + 1 + (0 + 24)) + 1 + (0 + 8))) (zk_Troupe_18 M q ) 88 [some (.ref q)] [] _
  have kn18 : zf (zk_Troupe_18 M q ) q 5 = some (zn (zk_Troupe_15 M q )) := zup2_s
  exact zw_vret (S := []) (pc := 88) rfl (zdal_p dlA_Troupe_init_6 (i := 17) rfl) ⟨rfl, rfl⟩
def zk_T_1 (M : zMem) (q : Nat)  : zMem := zal (M) 4 6
def zk_T_2 (M : zMem) (q : Nat)  : zMem := zk_Tokens (zk_T_1 M q ) (zn (M))
def zk_T_3 (M : zMem) (q : Nat)  : zMem := zsF (zk_T_2 M q ) q 0 (some (zn (M)))
def zk_T_4 (M : zMem) (q : Nat)  : zMem := zal (zk_T_3 M q ) 6 4
def zk_T_5 (M : zMem) (q : Nat)  : zMem := zk_Reader (zk_T_4 M q ) (zn (zk_T_3 M q )) (zn (M))
def zk_T_6 (M : zMem) (q : Nat)  : zMem := zsF (zk_T_5 M q ) q 1 (some (zn (zk_T_3 M q )))
def zk_T_7 (M : zMem) (q : Nat)  : zMem := zal (zk_T_6 M q ) 7 9
def zk_T_8 (M : zMem) (q : Nat)  : zMem := zk_Troupe (zk_T_7 M q ) (zn (zk_T_6 M q ))
def zk_T_9 (M : zMem) (q : Nat)  : zMem := zsF (zk_T_8 M q ) q 2 (some (zn (zk_T_6 M q )))
def zk_T_10 (M : zMem) (q : Nat)  : zMem := zal (zk_T_9 M q ) 7 9
def zk_T_11 (M : zMem) (q : Nat)  : zMem := zk_Troupe (zk_T_10 M q ) (zn (zk_T_9 M q ))
def zk_T_12 (M : zMem) (q : Nat)  : zMem := zsF (zk_T_11 M q ) q 3 (some (zn (zk_T_9 M q )))
set_option maxRecDepth 20000 in
set_option maxHeartbeats 4000000 in
theorem k_Tpre (l : Launch) (X : Nat × Nat) (Q : Option Value → zMem → Prop) (M : zMem) (q : Nat) (hq : q < zn M) (hqk : (zsh M q).1 = 0 + 3) (hm : zn M + 80 < 1000000) (hX : zn M + 80 ≤ X.1 ∧ zw M + (0 + 6 + (0 + 1 + (0 + 700)) + 4 + (0) + 9 + (0 + 8 + (0 + 1 + (0 + 4) + 1 + (0 + 24) + 1 + (0 + 576) + 1 + (0 + 24) + 1 + (0 + 24)) + 8 + (0 + 1 + (0 + 35) + 1 + (0 + 35) + 1 + (0 + 35) + 1 + (0 + 27) + 1 + (0 + 729)) + 3 + (0 + 1 + (0 + 1080) + 1 + (0 + 27)) + 5 + (0 + 1 + (0 + 27) + 1 + (0 + 24)) + 7 + (0 + 1 + (0 + 24)) + 1 + (0 + 8)) + 9 + (0 + 8 + (0 + 1 + (0 + 4) + 1 + (0 + 24) + 1 + (0 + 576) + 1 + (0 + 24) + 1 + (0 + 24)) + 8 + (0 + 1 + (0 + 35) + 1 + (0 + 35) + 1 + (0 + 35) + 1 + (0 + 27) + 1 + (0 + 729)) + 3 + (0 + 1 + (0 + 1080) + 1 + (0 + 27)) + 5 + (0 + 1 + (0 + 27) + 1 + (0 + 24)) + 7 + (0 + 1 + (0 + 24)) + 1 + (0 + 8))) ≤ X.2) (kk : zW l m_T_init X (zk_T_12 M q ) 57 [some (.ref q)] [.int (nI 1), .ref (zn (zk_T_6 M q ))] Q) : zW l m_T_init X M 0 [some (.ref q)] [] Q := by
  have he0 : zExt M M 0 0 q := zExt.rf
  refine zw_aload_n (pc := 0) (n := 0) (x := q) rfl (zdal_p dlA_T_init_0 (i := 0) rfl) ?_
  refine zw_objInit (pc := 1) o_T_1 o_in o_co (by decide) (Nat.le_of_ble_eq_true rfl) (zdal_p dlA_T_init_0 (i := 1) rfl) ?_
  refine zw_aload_n (pc := 4) (n := 0) (x := q) rfl (zdal_p dlA_T_init_0 (i := 2) rfl) ?_
  refine zw_new (pc := 5) (ci := 1) (by decide) n_T_7 (by have := he0.1; omega) (by have := he0.1; have := hX.1; omega) (by have := he0.2.1; show _ + 6 ≤ X.2; have := hX.2; omega) (by decide) (zdal_p dlA_T_init_0 (i := 3) rfl) ?_
  have he1 : zExt M (zk_T_1 M q ) 1 (0 + 6) q := he0.al
  show zW l m_T_init X (zk_T_1 M q ) 8 [some (.ref q)] [.ref (zn (M)), .ref q] _
  refine zw_dup (pc := 8) rfl (zdal_p dlA_T_init_0 (i := 4) rfl) ?_
  refine zw_callI (pc := 9) (mc := 2) (ms := (0 + 1 + (0 + 700))) (b := zn (M)) [] [.ref (zn (M)), .ref q] l_T_9 (k_Tokens l (zk_T_1 M q ) (zn (M)) (by have := he1.1; show zn (M) < zn (M) + 1; (exact zo_1083)) (congrArg Prod.fst (zal_sh (M := M) (t := 4) (n := 6)))  (by have := he1.1; omega)) rfl rfl (by decide) ⟨by have := he1.1; have := hX.1; omega, by have := he1.2.1; show _ ≤ X.2; have := hX.2; omega⟩ (Nat.le_of_ble_eq_true rfl) (zdal_p dlA_T_init_0 (i := 5) rfl) (fun r M9 h9 _ _ => ?_)
  obtain ⟨rfl, rfl⟩ := h9
  have he2 : zExt M (zk_T_2 M q ) 3 (0 + 6 + (0 + 1 + (0 + 700))) q := he1.call (ext_Tokens (zk_T_1 M q ) (zn (M))) (by have := he0.1; (exact zo_1447))
  show zW l m_T_init X (zk_T_2 M q ) 12 [some (.ref q)] [.ref (zn (M)), .ref q] _
  refine zw_putR (pc := 12) (x := zn (M)) (Or.inr ⟨g_T_10, rfl, rfl, rfl⟩) rfl (he2.q hq hqk) (fun _ => rfl) (fun _ => rfl) (zdal_p dlA_T_init_0 (i := 6) rfl) ?_
  have he3 : zExt M (zk_T_3 M q ) 3 (0 + 6 + (0 + 1 + (0 + 700))) q := he2.put
  show zW l m_T_init X (zk_T_3 M q ) 15 [some (.ref q)] [] _
  have kn3 : zf (zk_T_3 M q ) q 0 = some (zn (M)) := zup2_s
  refine zw_aload_n (pc := 15) (n := 0) (x := q) rfl (zdal_p dlA_T_init_0 (i := 7) rfl) ?_
  refine zw_new (pc := 16) (ci := 3) (by decide) n_T_16 (by have := he3.1; omega) (by have := he3.1; have := hX.1; omega) (by have := he3.2.1; show _ + 4 ≤ X.2; have := hX.2; omega) (by decide) (zdal_p dlA_T_init_0 (i := 8) rfl) ?_
  have he4 : zExt M (zk_T_4 M q ) 4 (0 + 6 + (0 + 1 + (0 + 700)) + 4) q := he3.al
  have kf4_0 : zf (zk_T_4 M q ) q 0 = some (zn (M)) := (congrFun (zal_old (by have := he3.1; omega)).2 0).trans kn3
  show zW l m_T_init X (zk_T_4 M q ) 19 [some (.ref q)] [.ref (zn (zk_T_3 M q )), .ref q] _
  refine zw_dup (pc := 19) rfl (zdal_p dlA_T_init_0 (i := 9) rfl) ?_
  refine zw_aload_n (pc := 20) (n := 0) (x := q) rfl (zdal_p dlA_T_init_0 (i := 10) rfl) ?_
  refine zw_getF (pc := 21) f_T_10 rfl (he4.q hq hqk) kf4_0 (zdal_p dlA_T_init_0 (i := 11) rfl) ?_
  refine zw_callI (pc := 24) (mc := 0) (ms := (0)) (b := zn (zk_T_3 M q )) [.ref (zn (M))] [.ref (zn (zk_T_3 M q )), .ref q] l_T_18 (k_Reader l (zk_T_4 M q ) (zn (zk_T_3 M q )) (by have := he4.1; show zn (zk_T_3 M q ) < zn (zk_T_3 M q ) + 1; (exact zo_1083)) (congrArg Prod.fst (zal_sh (M := zk_T_3 M q ) (t := 6) (n := 4))) (zn (M)) (by have := he4.1; omega)) rfl rfl (by decide) ⟨by have := he4.1; have := hX.1; omega, by have := he4.2.1; show _ ≤ X.2; have := hX.2; omega⟩ (Nat.le_of_ble_eq_true rfl) (zdal_p dlA_T_init_0 (i := 12) rfl) (fun r M9 h9 _ _ => ?_)
  obtain ⟨rfl, rfl⟩ := h9
  have he5 : zExt M (zk_T_5 M q ) 4 (0 + 6 + (0 + 1 + (0 + 700)) + 4 + (0)) q := he4.call (ext_Reader (zk_T_4 M q ) (zn (zk_T_3 M q )) (zn (M))) (by have := he3.1; omega)
  have kf5_0 : zf (zk_T_5 M q ) q 0 = some (zn (M)) := (congrFun ((ext_Reader (zk_T_4 M q ) (zn (zk_T_3 M q )) (zn (M))).2.2.2 q (by have := he4.1; (exact zo_1604 hm hq this)) (by have := he3.1; omega)) 0).trans kf4_0
  show zW l m_T_init X (zk_T_5 M q ) 27 [some (.ref q)] [.ref (zn (zk_T_3 M q )), .ref q] _
  refine zw_putR (pc := 27) (x := zn (zk_T_3 M q )) (Or.inr ⟨g_T_21, rfl, rfl, rfl⟩) rfl (he5.q hq hqk) (fun _ => rfl) (fun _ => rfl) (zdal_p dlA_T_init_0 (i := 13) rfl) ?_
  have he6 : zExt M (zk_T_6 M q ) 4 (0 + 6 + (0 + 1 + (0 + 700)) + 4 + (0)) q := he5.put
  have kf6_0 : zf (zk_T_6 M q ) q 0 = some (zn (M)) := (zup2_n (fun z => absurd z.2 (by decide))).trans kf5_0
  show zW l m_T_init X (zk_T_6 M q ) 30 [some (.ref q)] [] _
  have kn6 : zf (zk_T_6 M q ) q 1 = some (zn (zk_T_3 M q )) := zup2_s
  refine zw_aload_n (pc := 30) (n := 0) (x := q) rfl (zdal_p dlA_T_init_0 (i := 14) rfl) ?_
  refine zw_new (pc := 31) (ci := 4) (by decide) n_T_25 (by have := he6.1; omega) (by have := he6.1; have := hX.1; omega) (by have := he6.2.1; show _ + 9 ≤ X.2; have := hX.2; omega) (by decide) (zdal_p dlA_T_init_0 (i := 15) rfl) ?_
  have he7 : zExt M (zk_T_7 M q ) 5 (0 + 6 + (0 + 1 + (0 + 700)) + 4 + (0) + 9) q := he6.al
  have kf7_0 : zf (zk_T_7 M q ) q 0 = some (zn (M)) := (congrFun (zal_old (by have := he6.1; (exact zo_1604 hm hq this))).2 0).trans kf6_0
  have kf7_1 : zf (zk_T_7 M q ) q 1 = some (zn (zk_T_3 M q )) := (congrFun (zal_old (by have := he6.1; (exact zo_1604 hm hq this))).2 1).trans kn6
  show zW l m_T_init X (zk_T_7 M q ) 34 [some (.ref q)] [.ref (zn (zk_T_6 M q )), .ref q] _
  refine zw_dup (pc := 34) rfl (zdal_p dlA_T_init_0 (i := 16) rfl) ?_
  refine zw_callI (pc := 35) (mc := 37) (ms := (0 + 8 + (0 + 1 + (0 + 4) + 1 + (0 + 24) + 1 + (0 + 576) + 1 + (0 + 24) + 1 + (0 + 24)) + 8 + (0 + 1 + (0 + 35) + 1 + (0 + 35) + 1 + (0 + 35) + 1 + (0 + 27) + 1 + (0 + 729)) + 3 + (0 + 1 + (0 + 1080) + 1 + (0 + 27)) + 5 + (0 + 1 + (0 + 27) + 1 + (0 + 24)) + 7 + (0 + 1 + (0 + 24)) + 1 + (0 + 8))) (b := zn (zk_T_6 M q )) [] [.ref (zn (zk_T_6 M q )), .ref q] l_T_27 (k_Troupe l (zk_T_7 M q ) (zn (zk_T_6 M q )) (by have := he7.1; show zn (zk_T_6 M q ) < zn (zk_T_6 M q ) + 1; (exact zo_1083)) (congrArg Prod.fst (zal_sh (M := zk_T_6 M q ) (t := 7) (n := 9)))  (by have := he7.1; omega)) rfl rfl (by decide) ⟨by have := he7.1; have := hX.1; omega, by have := he7.2.1; show _ ≤ X.2; have := hX.2; omega⟩ (Nat.le_of_ble_eq_true rfl) (zdal_p dlA_T_init_0 (i := 17) rfl) (fun r M9 h9 _ _ => ?_)
  obtain ⟨rfl, rfl⟩ := h9
  have he8 : zExt M (zk_T_8 M q ) 42 (0 + 6 + (0 + 1 + (0 + 700)) + 4 + (0) + 9 + (0 + 8 + (0 + 1 + (0 + 4) + 1 + (0 + 24) + 1 + (0 + 576) + 1 + (0 + 24) + 1 + (0 + 24)) + 8 + (0 + 1 + (0 + 35) + 1 + (0 + 35) + 1 + (0 + 35) + 1 + (0 + 27) + 1 + (0 + 729)) + 3 + (0 + 1 + (0 + 1080) + 1 + (0 + 27)) + 5 + (0 + 1 + (0 + 27) + 1 + (0 + 24)) + 7 + (0 + 1 + (0 + 24)) + 1 + (0 + 8))) q := he7.call (ext_Troupe (zk_T_7 M q ) (zn (zk_T_6 M q ))) (by have := he6.1; omega)
  have kf8_0 : zf (zk_T_8 M q ) q 0 = some (zn (M)) := (congrFun ((ext_Troupe (zk_T_7 M q ) (zn (zk_T_6 M q ))).2.2.2 q (by have := he7.1; omega) (by have := he6.1; (exact zo_1483 hq this))) 0).trans kf7_0
  have kf8_1 : zf (zk_T_8 M q ) q 1 = some (zn (zk_T_3 M q )) := (congrFun ((ext_Troupe (zk_T_7 M q ) (zn (zk_T_6 M q ))).2.2.2 q (by have := he7.1; omega) (by have := he6.1; (exact zo_1483 hq this))) 1).trans kf7_1
  show zW l m_T_init X (zk_T_8 M q ) 38 [some (.ref q)] [.ref (zn (zk_T_6 M q )), .ref q] _
  refine zw_putR (pc := 38) (x := zn (zk_T_6 M q )) (Or.inl ⟨f_T_28, rfl⟩) rfl (he8.q hq hqk) (fun _ => rfl) (fun _ => rfl) (zdal_p dlA_T_init_0 (i := 18) rfl) ?_
  have he9 : zExt M (zk_T_9 M q ) 42 (0 + 6 + (0 + 1 + (0 + 700)) + 4 + (0) + 9 + (0 + 8 + (0 + 1 + (0 + 4) + 1 + (0 + 24) + 1 + (0 + 576) + 1 + (0 + 24) + 1 + (0 + 24)) + 8 + (0 + 1 + (0 + 35) + 1 + (0 + 35) + 1 + (0 + 35) + 1 + (0 + 27) + 1 + (0 + 729)) + 3 + (0 + 1 + (0 + 1080) + 1 + (0 + 27)) + 5 + (0 + 1 + (0 + 27) + 1 + (0 + 24)) + 7 + (0 + 1 + (0 + 24)) + 1 + (0 + 8))) q := he8.put
  have kf9_0 : zf (zk_T_9 M q ) q 0 = some (zn (M)) := (zup2_n (fun z => absurd z.2 (by decide))).trans kf8_0
  have kf9_1 : zf (zk_T_9 M q ) q 1 = some (zn (zk_T_3 M q )) := (zup2_n (fun z => absurd z.2 (by decide))).trans kf8_1
  show zW l m_T_init X (zk_T_9 M q ) 41 [some (.ref q)] [] _
  have kn9 : zf (zk_T_9 M q ) q 2 = some (zn (zk_T_6 M q )) := zup2_s
  refine zw_aload_n (pc := 41) (n := 0) (x := q) rfl (zdal_p dlA_T_init_0 (i := 19) rfl) ?_
  refine zw_new (pc := 42) (ci := 4) (by decide) n_T_25 (by have := he9.1; omega) (by have := he9.1; have := hX.1; omega) (by have := he9.2.1; show _ + 9 ≤ X.2; have := hX.2; omega) (by decide) (zdal_p dlA_T_init_0 (i := 20) rfl) ?_
  have he10 : zExt M (zk_T_10 M q ) 43 (0 + 6 + (0 + 1 + (0 + 700)) + 4 + (0) + 9 + (0 + 8 + (0 + 1 + (0 + 4) + 1 + (0 + 24) + 1 + (0 + 576) + 1 + (0 + 24) + 1 + (0 + 24)) + 8 + (0 + 1 + (0 + 35) + 1 + (0 + 35) + 1 + (0 + 35) + 1 + (0 + 27) + 1 + (0 + 729)) + 3 + (0 + 1 + (0 + 1080) + 1 + (0 + 27)) + 5 + (0 + 1 + (0 + 27) + 1 + (0 + 24)) + 7 + (0 + 1 + (0 + 24)) + 1 + (0 + 8)) + 9) q := he9.al
  have kf10_0 : zf (zk_T_10 M q ) q 0 = some (zn (M)) := (congrFun (zal_old (by have := he9.1; (exact zo_1611 hm hq this))).2 0).trans kf9_0
  have kf10_1 : zf (zk_T_10 M q ) q 1 = some (zn (zk_T_3 M q )) := (congrFun (zal_old (by have := he9.1; (exact zo_1611 hm hq this))).2 1).trans kf9_1
  have kf10_2 : zf (zk_T_10 M q ) q 2 = some (zn (zk_T_6 M q )) := (congrFun (zal_old (by have := he9.1; (exact zo_1611 hm hq this))).2 2).trans kn9
  show zW l m_T_init X (zk_T_10 M q ) 45 [some (.ref q)] [.ref (zn (zk_T_9 M q )), .ref q] _
  refine zw_dup (pc := 45) rfl (zdal_p dlA_T_init_0 (i := 21) rfl) ?_
  refine zw_callI (pc := 46) (mc := 37) (ms := (0 + 8 + (0 + 1 + (0 + 4) + 1 + (0 + 24) + 1 + (0 + 576) + 1 + (0 + 24) + 1 + (0 + 24)) + 8 + (0 + 1 + (0 + 35) + 1 + (0 + 35) + 1 + (0 + 35) + 1 + (0 + 27) + 1 + (0 + 729)) + 3 + (0 + 1 + (0 + 1080) + 1 + (0 + 27)) + 5 + (0 + 1 + (0 + 27) + 1 + (0 + 24)) + 7 + (0 + 1 + (0 + 24)) + 1 + (0 + 8))) (b := zn (zk_T_9 M q )) [] [.ref (zn (zk_T_9 M q )), .ref q] l_T_27 (k_Troupe l (zk_T_10 M q ) (zn (zk_T_9 M q )) (by have := he10.1; show zn (zk_T_9 M q ) < zn (zk_T_9 M q ) + 1; (exact zo_1083)) (congrArg Prod.fst (zal_sh (M := zk_T_9 M q ) (t := 7) (n := 9)))  (by have := he10.1; omega)) rfl rfl (by decide) ⟨by have := he10.1; have := hX.1; omega, by have := he10.2.1; show _ ≤ X.2; have := hX.2; omega⟩ (Nat.le_of_ble_eq_true rfl) (zdal_p dlA_T_init_0 (i := 22) rfl) (fun r M9 h9 _ _ => ?_)
  obtain ⟨rfl, rfl⟩ := h9
  have he11 : zExt M (zk_T_11 M q ) 80 (0 + 6 + (0 + 1 + (0 + 700)) + 4 + (0) + 9 + (0 + 8 + (0 + 1 + (0 + 4) + 1 + (0 + 24) + 1 + (0 + 576) + 1 + (0 + 24) + 1 + (0 + 24)) + 8 + (0 + 1 + (0 + 35) + 1 + (0 + 35) + 1 + (0 + 35) + 1 + (0 + 27) + 1 + (0 + 729)) + 3 + (0 + 1 + (0 + 1080) + 1 + (0 + 27)) + 5 + (0 + 1 + (0 + 27) + 1 + (0 + 24)) + 7 + (0 + 1 + (0 + 24)) + 1 + (0 + 8)) + 9 + (0 + 8 + (0 + 1 + (0 + 4) + 1 + (0 + 24) + 1 + (0 + 576) + 1 + (0 + 24) + 1 + (0 + 24)) + 8 + (0 + 1 + (0 + 35) + 1 + (0 + 35) + 1 + (0 + 35) + 1 + (0 + 27) + 1 + (0 + 729)) + 3 + (0 + 1 + (0 + 1080) + 1 + (0 + 27)) + 5 + (0 + 1 + (0 + 27) + 1 + (0 + 24)) + 7 + (0 + 1 + (0 + 24)) + 1 + (0 + 8))) q := he10.call (ext_Troupe (zk_T_10 M q ) (zn (zk_T_9 M q ))) (by have := he9.1; omega)
  have kf11_0 : zf (zk_T_11 M q ) q 0 = some (zn (M)) := (congrFun ((ext_Troupe (zk_T_10 M q ) (zn (zk_T_9 M q ))).2.2.2 q (by have := he10.1; (exact zo_1614 hm hq this)) (by have := he9.1; (exact zo_1615 hq this))) 0).trans kf10_0
  have kf11_1 : zf (zk_T_11 M q ) q 1 = some (zn (zk_T_3 M q )) := (congrFun ((ext_Troupe (zk_T_10 M q ) (zn (zk_T_9 M q ))).2.2.2 q (by have := he10.1; (exact zo_1614 hm hq this)) (by have := he9.1; (exact zo_1615 hq this))) 1).trans kf10_1
  have kf11_2 : zf (zk_T_11 M q ) q 2 = some (zn (zk_T_6 M q )) := (congrFun ((ext_Troupe (zk_T_10 M q ) (zn (zk_T_9 M q ))).2.2.2 q (by have := he10.1; (exact zo_1614 hm hq this)) (by have := he9.1; (exact zo_1615 hq this))) 2).trans kf10_2
  show zW l m_T_init X (zk_T_11 M q ) 49 [some (.ref q)] [.ref (zn (zk_T_9 M q )), .ref q] _
  refine zw_putR (pc := 49) (x := zn (zk_T_9 M q )) (Or.inl ⟨f_T_32, rfl⟩) rfl (he11.q hq hqk) (fun _ => rfl) (fun _ => rfl) (zdal_p dlA_T_init_0 (i := 23) rfl) ?_
  have he12 : zExt M (zk_T_12 M q ) 80 (0 + 6 + (0 + 1 + (0 + 700)) + 4 + (0) + 9 + (0 + 8 + (0 + 1 + (0 + 4) + 1 + (0 + 24) + 1 + (0 + 576) + 1 + (0 + 24) + 1 + (0 + 24)) + 8 + (0 + 1 + (0 + 35) + 1 + (0 + 35) + 1 + (0 + 35) + 1 + (0 + 27) + 1 + (0 + 729)) + 3 + (0 + 1 + (0 + 1080) + 1 + (0 + 27)) + 5 + (0 + 1 + (0 + 27) + 1 + (0 + 24)) + 7 + (0 + 1 + (0 + 24)) + 1 + (0 + 8)) + 9 + (0 + 8 + (0 + 1 + (0 + 4) + 1 + (0 + 24) + 1 + (0 + 576) + 1 + (0 + 24) + 1 + (0 + 24)) + 8 + (0 + 1 + (0 + 35) + 1 + (0 + 35) + 1 + (0 + 35) + 1 + (0 + 27) + 1 + (0 + 729)) + 3 + (0 + 1 + (0 + 1080) + 1 + (0 + 27)) + 5 + (0 + 1 + (0 + 27) + 1 + (0 + 24)) + 7 + (0 + 1 + (0 + 24)) + 1 + (0 + 8))) q := he11.put
  have kf12_0 : zf (zk_T_12 M q ) q 0 = some (zn (M)) := (zup2_n (fun z => absurd z.2 (by decide))).trans kf11_0
  have kf12_1 : zf (zk_T_12 M q ) q 1 = some (zn (zk_T_3 M q )) := (zup2_n (fun z => absurd z.2 (by decide))).trans kf11_1
  have kf12_2 : zf (zk_T_12 M q ) q 2 = some (zn (zk_T_6 M q )) := (zup2_n (fun z => absurd z.2 (by decide))).trans kf11_2
  show zW l m_T_init X (zk_T_12 M q ) 52 [some (.ref q)] [] _
  have kn12 : zf (zk_T_12 M q ) q 3 = some (zn (zk_T_9 M q )) := zup2_s
  refine zw_aload_n (pc := 52) (n := 0) (x := q) rfl (zdal_p dlA_T_init_1 (i := 0) rfl) ?_
  refine zw_getF (pc := 53) f_T_28 rfl (he12.q hq hqk) kf12_2 (zdal_p dlA_T_init_1 (i := 1) rfl) ?_
  refine zw_iconst (pc := 56) (v := nI 1) (by decide) (zdal_p dlA_T_init_1 (i := 2) rfl) ?_
  exact kk
def zM0 : zMem := ((0, 0), fun _ => (0, 0), fun _ _ => 0, fun _ _ => 0, fun _ _ => none)
def zMT : zMem := zk_T_12 (zal zM0 3 4) 0 
def zTyB (B : Nat) (M : zMem) : Bool := (List.range B).all fun q => ((zsh M q).2 ≤ 1000000) && (((zsh M q).1 < 3) || ((zsh M q).1 ≥ 14) || ((List.range (zN ((zsh M q).1 - 3))).all fun j => (zG ((zsh M q).1 - 3) j != 2) || (match zf M q j with | some r => (r < B) && ((zsh M r).1 == zH ((zsh M q).1 - 3) j) | none => false)))
theorem zTy_of {B : Nat} {M : zMem} (h : zTyB B M = true) : zTy B M := by
  have key : ∀ q, q < B → _ := fun q hq => List.all_eq_true.mp h q (List.mem_range.mpr hq)
  refine ⟨fun q ci j h1 h2 h3 h4 h5 => ?_, fun q h1 => ?_⟩
  · have h6 := key q h1
    rw [h2, Nat.add_sub_cancel] at h6
    simp only [Bool.and_eq_true, Bool.or_eq_true, decide_eq_true_eq] at h6
    rcases h6.2 with (h7 | h7) | h7
    · omega
    · omega
    · have h8 := List.all_eq_true.mp h7 j (List.mem_range.mpr h4)
      rw [h5] at h8
      cases hz : zf M q j with
      | none => rw [hz] at h8; simp at h8
      | some r =>
        rw [hz] at h8
        simp only [bne_self_eq_false, Bool.false_or, Bool.and_eq_true, decide_eq_true_eq, beq_iff_eq] at h8
        exact ⟨r, rfl, h8.1, h8.2⟩
  · have h6 := key q h1
    simp only [Bool.and_eq_true, decide_eq_true_eq] at h6
    exact h6.1
set_option maxRecDepth 100000 in
theorem zMT_ty : zTyB 81 zMT = true := by decide +kernel
set_option maxRecDepth 100000 in
theorem zMT_facts : zn zMT = 81 ∧ zw zMT = 6233 ∧ (zsh zMT 0).1 = 3 ∧ zf zMT 0 0 = some 1 ∧ (zsh zMT 1).1 = 4 ∧ zi zMT 1 1 = 0 ∧ zf zMT 0 2 = some 5 ∧ (zsh zMT 5).1 = 7 := by decide +kernel
theorem zw_al (M : zMem) (t n : Nat) : zw (zal M t n) = zw M + n := rfl
theorem zn_al (M : zMem) (t n : Nat) : zn (zal M t n) = zn M + 1 := rfl
theorem zw_sF (M : zMem) (q j : Nat) (v : Option Nat) : zw (zsF M q j v) = zw M := rfl
theorem zn_sF (M : zMem) (q j : Nat) (v : Option Nat) : zn (zsF M q j v) = zn M := rfl
def zMtab : List (Nat × Nat × Nat × Nat) := [(0, 82, 1, 700), (15, 83, 1, 24), (19, 84, 1, 24), (21, 85, 1, 144), (22, 86, 1, 6), (23, 87, 1, 576), (24, 88, 1, 24), (27, 89, 1, 128), (28, 90, 1, 128), (29, 91, 1, 64), (30, 92, 1, 64), (31, 93, 1, 4096), (32, 94, 1, 1536), (33, 95, 2, 2560), (34, 96, 2, 64), (35, 97, 2, 64), (36, 98, 2, 64), (37, 99, 2, 64), (40, 100, 1, 80), (44, 101, 2, 8), (45, 102, 2, 512), (46, 103, 2, 8), (47, 104, 2, 512), (48, 105, 2, 64), (49, 106, 1, 128), (50, 107, 2, 64), (51, 108, 2, 64), (54, 109, 1, 24), (56, 110, 1, 65536), (59, 111, 2, 768), (61, 112, 1, 6), (62, 113, 1, 7)]
def zMt (M : zMem) : Prop := zn M = 114 ∧ (zsh M 81).1 = 14 ∧ ∀ e ∈ zMtab, zf M 81 e.1 = some e.2.1 ∧ zsh M e.2.1 = (e.2.2.1, e.2.2.2)
def zmk_1 (M : zMem) : zMem := zsF (zal M 1 700) 81 0 (some (zn M))
def zmk_2 (M : zMem) : zMem := zsI (zmk_1 M) 81 8 (-1)
def zmk_3 (M : zMem) : zMem := zsI (zmk_2 M) 81 10 (-1)
def zmk_4 (M : zMem) : zMem := zsF (zal (zmk_3 M) 1 24) 81 15 (some (zn (zmk_3 M)))
def zmk_5 (M : zMem) : zMem := zsF (zal (zmk_4 M) 1 24) 81 19 (some (zn (zmk_4 M)))
def zmk_6 (M : zMem) : zMem := zsF (zal (zmk_5 M) 1 144) 81 21 (some (zn (zmk_5 M)))
def zmk_7 (M : zMem) : zMem := zsF (zal (zmk_6 M) 1 6) 81 22 (some (zn (zmk_6 M)))
def zmk_8 (M : zMem) : zMem := zsF (zal (zmk_7 M) 1 576) 81 23 (some (zn (zmk_7 M)))
def zmk_9 (M : zMem) : zMem := zsF (zal (zmk_8 M) 1 24) 81 24 (some (zn (zmk_8 M)))
def zmk_10 (M : zMem) : zMem := zsF (zal (zmk_9 M) 1 128) 81 27 (some (zn (zmk_9 M)))
def zmk_11 (M : zMem) : zMem := zsF (zal (zmk_10 M) 1 128) 81 28 (some (zn (zmk_10 M)))
def zmk_12 (M : zMem) : zMem := zsF (zal (zmk_11 M) 1 64) 81 29 (some (zn (zmk_11 M)))
def zmk_13 (M : zMem) : zMem := zsF (zal (zmk_12 M) 1 64) 81 30 (some (zn (zmk_12 M)))
def zmk_14 (M : zMem) : zMem := zsF (zal (zmk_13 M) 1 4096) 81 31 (some (zn (zmk_13 M)))
def zmk_15 (M : zMem) : zMem := zsF (zal (zmk_14 M) 1 1536) 81 32 (some (zn (zmk_14 M)))
def zmk_16 (M : zMem) : zMem := zsF (zal (zmk_15 M) 2 2560) 81 33 (some (zn (zmk_15 M)))
def zmk_17 (M : zMem) : zMem := zsF (zal (zmk_16 M) 2 64) 81 34 (some (zn (zmk_16 M)))
def zmk_18 (M : zMem) : zMem := zsF (zal (zmk_17 M) 2 64) 81 35 (some (zn (zmk_17 M)))
def zmk_19 (M : zMem) : zMem := zsF (zal (zmk_18 M) 2 64) 81 36 (some (zn (zmk_18 M)))
def zmk_20 (M : zMem) : zMem := zsF (zal (zmk_19 M) 2 64) 81 37 (some (zn (zmk_19 M)))
def zmk_21 (M : zMem) : zMem := zsF (zal (zmk_20 M) 1 80) 81 40 (some (zn (zmk_20 M)))
def zmk_22 (M : zMem) : zMem := zsF (zal (zmk_21 M) 2 8) 81 44 (some (zn (zmk_21 M)))
def zmk_23 (M : zMem) : zMem := zsF (zal (zmk_22 M) 2 512) 81 45 (some (zn (zmk_22 M)))
def zmk_24 (M : zMem) : zMem := zsF (zal (zmk_23 M) 2 8) 81 46 (some (zn (zmk_23 M)))
def zmk_25 (M : zMem) : zMem := zsF (zal (zmk_24 M) 2 512) 81 47 (some (zn (zmk_24 M)))
def zmk_26 (M : zMem) : zMem := zsF (zal (zmk_25 M) 2 64) 81 48 (some (zn (zmk_25 M)))
def zmk_27 (M : zMem) : zMem := zsF (zal (zmk_26 M) 1 128) 81 49 (some (zn (zmk_26 M)))
def zmk_28 (M : zMem) : zMem := zsF (zal (zmk_27 M) 2 64) 81 50 (some (zn (zmk_27 M)))
def zmk_29 (M : zMem) : zMem := zsF (zal (zmk_28 M) 2 64) 81 51 (some (zn (zmk_28 M)))
def zmk_30 (M : zMem) : zMem := zsF (zal (zmk_29 M) 1 24) 81 54 (some (zn (zmk_29 M)))
def zmk_31 (M : zMem) : zMem := zsF (zal (zmk_30 M) 1 65536) 81 56 (some (zn (zmk_30 M)))
def zmk_32 (M : zMem) : zMem := zsF (zal (zmk_31 M) 2 768) 81 59 (some (zn (zmk_31 M)))
def zmk_33 (M : zMem) : zMem := zsF (zal (zmk_32 M) 1 6) 81 61 (some (zn (zmk_32 M)))
def zmk_34 (M : zMem) : zMem := zsF (zal (zmk_33 M) 1 7) 81 62 (some (zn (zmk_33 M)))
def zmk_35 (M : zMem) : zMem := zsI (zmk_34 M) 81 12 1
def zmk (M : zMem) : zMem := zmk_35 M
theorem zmk_nw (M : zMem) : zn (zmk M) = zn M + 32 ∧ zw (zmk M) = zw M + 78111 := by
  have a1 : zn (zmk_1 M) = zn M + 1 := (zn_sF (zal M 1 700) 81 0 _).trans (zn_al M 1 700)
  have b1 : zw (zmk_1 M) = zw M + 700 := (zw_sF (zal M 1 700) 81 0 _).trans (zw_al M 1 700)
  have a2 : zn (zmk_2 M) = zn (zmk_1 M) := rfl
  have b2 : zw (zmk_2 M) = zw (zmk_1 M) := rfl
  have a3 : zn (zmk_3 M) = zn (zmk_2 M) := rfl
  have b3 : zw (zmk_3 M) = zw (zmk_2 M) := rfl
  have a4 : zn (zmk_4 M) = zn (zmk_3 M) + 1 := (zn_sF (zal (zmk_3 M) 1 24) 81 15 _).trans (zn_al (zmk_3 M) 1 24)
  have b4 : zw (zmk_4 M) = zw (zmk_3 M) + 24 := (zw_sF (zal (zmk_3 M) 1 24) 81 15 _).trans (zw_al (zmk_3 M) 1 24)
  have a5 : zn (zmk_5 M) = zn (zmk_4 M) + 1 := (zn_sF (zal (zmk_4 M) 1 24) 81 19 _).trans (zn_al (zmk_4 M) 1 24)
  have b5 : zw (zmk_5 M) = zw (zmk_4 M) + 24 := (zw_sF (zal (zmk_4 M) 1 24) 81 19 _).trans (zw_al (zmk_4 M) 1 24)
  have a6 : zn (zmk_6 M) = zn (zmk_5 M) + 1 := (zn_sF (zal (zmk_5 M) 1 144) 81 21 _).trans (zn_al (zmk_5 M) 1 144)
  have b6 : zw (zmk_6 M) = zw (zmk_5 M) + 144 := (zw_sF (zal (zmk_5 M) 1 144) 81 21 _).trans (zw_al (zmk_5 M) 1 144)
  have a7 : zn (zmk_7 M) = zn (zmk_6 M) + 1 := (zn_sF (zal (zmk_6 M) 1 6) 81 22 _).trans (zn_al (zmk_6 M) 1 6)
  have b7 : zw (zmk_7 M) = zw (zmk_6 M) + 6 := (zw_sF (zal (zmk_6 M) 1 6) 81 22 _).trans (zw_al (zmk_6 M) 1 6)
  have a8 : zn (zmk_8 M) = zn (zmk_7 M) + 1 := (zn_sF (zal (zmk_7 M) 1 576) 81 23 _).trans (zn_al (zmk_7 M) 1 576)
  have b8 : zw (zmk_8 M) = zw (zmk_7 M) + 576 := (zw_sF (zal (zmk_7 M) 1 576) 81 23 _).trans (zw_al (zmk_7 M) 1 576)
  have a9 : zn (zmk_9 M) = zn (zmk_8 M) + 1 := (zn_sF (zal (zmk_8 M) 1 24) 81 24 _).trans (zn_al (zmk_8 M) 1 24)
  have b9 : zw (zmk_9 M) = zw (zmk_8 M) + 24 := (zw_sF (zal (zmk_8 M) 1 24) 81 24 _).trans (zw_al (zmk_8 M) 1 24)
  have a10 : zn (zmk_10 M) = zn (zmk_9 M) + 1 := (zn_sF (zal (zmk_9 M) 1 128) 81 27 _).trans (zn_al (zmk_9 M) 1 128)
  have b10 : zw (zmk_10 M) = zw (zmk_9 M) + 128 := (zw_sF (zal (zmk_9 M) 1 128) 81 27 _).trans (zw_al (zmk_9 M) 1 128)
  have a11 : zn (zmk_11 M) = zn (zmk_10 M) + 1 := (zn_sF (zal (zmk_10 M) 1 128) 81 28 _).trans (zn_al (zmk_10 M) 1 128)
  have b11 : zw (zmk_11 M) = zw (zmk_10 M) + 128 := (zw_sF (zal (zmk_10 M) 1 128) 81 28 _).trans (zw_al (zmk_10 M) 1 128)
  have a12 : zn (zmk_12 M) = zn (zmk_11 M) + 1 := (zn_sF (zal (zmk_11 M) 1 64) 81 29 _).trans (zn_al (zmk_11 M) 1 64)
  have b12 : zw (zmk_12 M) = zw (zmk_11 M) + 64 := (zw_sF (zal (zmk_11 M) 1 64) 81 29 _).trans (zw_al (zmk_11 M) 1 64)
  have a13 : zn (zmk_13 M) = zn (zmk_12 M) + 1 := (zn_sF (zal (zmk_12 M) 1 64) 81 30 _).trans (zn_al (zmk_12 M) 1 64)
  have b13 : zw (zmk_13 M) = zw (zmk_12 M) + 64 := (zw_sF (zal (zmk_12 M) 1 64) 81 30 _).trans (zw_al (zmk_12 M) 1 64)
  have a14 : zn (zmk_14 M) = zn (zmk_13 M) + 1 := (zn_sF (zal (zmk_13 M) 1 4096) 81 31 _).trans (zn_al (zmk_13 M) 1 4096)
  have b14 : zw (zmk_14 M) = zw (zmk_13 M) + 4096 := (zw_sF (zal (zmk_13 M) 1 4096) 81 31 _).trans (zw_al (zmk_13 M) 1 4096)
  have a15 : zn (zmk_15 M) = zn (zmk_14 M) + 1 := (zn_sF (zal (zmk_14 M) 1 1536) 81 32 _).trans (zn_al (zmk_14 M) 1 1536)
  have b15 : zw (zmk_15 M) = zw (zmk_14 M) + 1536 := (zw_sF (zal (zmk_14 M) 1 1536) 81 32 _).trans (zw_al (zmk_14 M) 1 1536)
  have a16 : zn (zmk_16 M) = zn (zmk_15 M) + 1 := (zn_sF (zal (zmk_15 M) 2 2560) 81 33 _).trans (zn_al (zmk_15 M) 2 2560)
  have b16 : zw (zmk_16 M) = zw (zmk_15 M) + 2560 := (zw_sF (zal (zmk_15 M) 2 2560) 81 33 _).trans (zw_al (zmk_15 M) 2 2560)
  have a17 : zn (zmk_17 M) = zn (zmk_16 M) + 1 := (zn_sF (zal (zmk_16 M) 2 64) 81 34 _).trans (zn_al (zmk_16 M) 2 64)
  have b17 : zw (zmk_17 M) = zw (zmk_16 M) + 64 := (zw_sF (zal (zmk_16 M) 2 64) 81 34 _).trans (zw_al (zmk_16 M) 2 64)
  have a18 : zn (zmk_18 M) = zn (zmk_17 M) + 1 := (zn_sF (zal (zmk_17 M) 2 64) 81 35 _).trans (zn_al (zmk_17 M) 2 64)
  have b18 : zw (zmk_18 M) = zw (zmk_17 M) + 64 := (zw_sF (zal (zmk_17 M) 2 64) 81 35 _).trans (zw_al (zmk_17 M) 2 64)
  have a19 : zn (zmk_19 M) = zn (zmk_18 M) + 1 := (zn_sF (zal (zmk_18 M) 2 64) 81 36 _).trans (zn_al (zmk_18 M) 2 64)
  have b19 : zw (zmk_19 M) = zw (zmk_18 M) + 64 := (zw_sF (zal (zmk_18 M) 2 64) 81 36 _).trans (zw_al (zmk_18 M) 2 64)
  have a20 : zn (zmk_20 M) = zn (zmk_19 M) + 1 := (zn_sF (zal (zmk_19 M) 2 64) 81 37 _).trans (zn_al (zmk_19 M) 2 64)
  have b20 : zw (zmk_20 M) = zw (zmk_19 M) + 64 := (zw_sF (zal (zmk_19 M) 2 64) 81 37 _).trans (zw_al (zmk_19 M) 2 64)
  have a21 : zn (zmk_21 M) = zn (zmk_20 M) + 1 := (zn_sF (zal (zmk_20 M) 1 80) 81 40 _).trans (zn_al (zmk_20 M) 1 80)
  have b21 : zw (zmk_21 M) = zw (zmk_20 M) + 80 := (zw_sF (zal (zmk_20 M) 1 80) 81 40 _).trans (zw_al (zmk_20 M) 1 80)
  have a22 : zn (zmk_22 M) = zn (zmk_21 M) + 1 := (zn_sF (zal (zmk_21 M) 2 8) 81 44 _).trans (zn_al (zmk_21 M) 2 8)
  have b22 : zw (zmk_22 M) = zw (zmk_21 M) + 8 := (zw_sF (zal (zmk_21 M) 2 8) 81 44 _).trans (zw_al (zmk_21 M) 2 8)
  have a23 : zn (zmk_23 M) = zn (zmk_22 M) + 1 := (zn_sF (zal (zmk_22 M) 2 512) 81 45 _).trans (zn_al (zmk_22 M) 2 512)
  have b23 : zw (zmk_23 M) = zw (zmk_22 M) + 512 := (zw_sF (zal (zmk_22 M) 2 512) 81 45 _).trans (zw_al (zmk_22 M) 2 512)
  have a24 : zn (zmk_24 M) = zn (zmk_23 M) + 1 := (zn_sF (zal (zmk_23 M) 2 8) 81 46 _).trans (zn_al (zmk_23 M) 2 8)
  have b24 : zw (zmk_24 M) = zw (zmk_23 M) + 8 := (zw_sF (zal (zmk_23 M) 2 8) 81 46 _).trans (zw_al (zmk_23 M) 2 8)
  have a25 : zn (zmk_25 M) = zn (zmk_24 M) + 1 := (zn_sF (zal (zmk_24 M) 2 512) 81 47 _).trans (zn_al (zmk_24 M) 2 512)
  have b25 : zw (zmk_25 M) = zw (zmk_24 M) + 512 := (zw_sF (zal (zmk_24 M) 2 512) 81 47 _).trans (zw_al (zmk_24 M) 2 512)
  have a26 : zn (zmk_26 M) = zn (zmk_25 M) + 1 := (zn_sF (zal (zmk_25 M) 2 64) 81 48 _).trans (zn_al (zmk_25 M) 2 64)
  have b26 : zw (zmk_26 M) = zw (zmk_25 M) + 64 := (zw_sF (zal (zmk_25 M) 2 64) 81 48 _).trans (zw_al (zmk_25 M) 2 64)
  have a27 : zn (zmk_27 M) = zn (zmk_26 M) + 1 := (zn_sF (zal (zmk_26 M) 1 128) 81 49 _).trans (zn_al (zmk_26 M) 1 128)
  have b27 : zw (zmk_27 M) = zw (zmk_26 M) + 128 := (zw_sF (zal (zmk_26 M) 1 128) 81 49 _).trans (zw_al (zmk_26 M) 1 128)
  have a28 : zn (zmk_28 M) = zn (zmk_27 M) + 1 := (zn_sF (zal (zmk_27 M) 2 64) 81 50 _).trans (zn_al (zmk_27 M) 2 64)
  have b28 : zw (zmk_28 M) = zw (zmk_27 M) + 64 := (zw_sF (zal (zmk_27 M) 2 64) 81 50 _).trans (zw_al (zmk_27 M) 2 64)
  have a29 : zn (zmk_29 M) = zn (zmk_28 M) + 1 := (zn_sF (zal (zmk_28 M) 2 64) 81 51 _).trans (zn_al (zmk_28 M) 2 64)
  have b29 : zw (zmk_29 M) = zw (zmk_28 M) + 64 := (zw_sF (zal (zmk_28 M) 2 64) 81 51 _).trans (zw_al (zmk_28 M) 2 64)
  have a30 : zn (zmk_30 M) = zn (zmk_29 M) + 1 := (zn_sF (zal (zmk_29 M) 1 24) 81 54 _).trans (zn_al (zmk_29 M) 1 24)
  have b30 : zw (zmk_30 M) = zw (zmk_29 M) + 24 := (zw_sF (zal (zmk_29 M) 1 24) 81 54 _).trans (zw_al (zmk_29 M) 1 24)
  have a31 : zn (zmk_31 M) = zn (zmk_30 M) + 1 := (zn_sF (zal (zmk_30 M) 1 65536) 81 56 _).trans (zn_al (zmk_30 M) 1 65536)
  have b31 : zw (zmk_31 M) = zw (zmk_30 M) + 65536 := (zw_sF (zal (zmk_30 M) 1 65536) 81 56 _).trans (zw_al (zmk_30 M) 1 65536)
  have a32 : zn (zmk_32 M) = zn (zmk_31 M) + 1 := (zn_sF (zal (zmk_31 M) 2 768) 81 59 _).trans (zn_al (zmk_31 M) 2 768)
  have b32 : zw (zmk_32 M) = zw (zmk_31 M) + 768 := (zw_sF (zal (zmk_31 M) 2 768) 81 59 _).trans (zw_al (zmk_31 M) 2 768)
  have a33 : zn (zmk_33 M) = zn (zmk_32 M) + 1 := (zn_sF (zal (zmk_32 M) 1 6) 81 61 _).trans (zn_al (zmk_32 M) 1 6)
  have b33 : zw (zmk_33 M) = zw (zmk_32 M) + 6 := (zw_sF (zal (zmk_32 M) 1 6) 81 61 _).trans (zw_al (zmk_32 M) 1 6)
  have a34 : zn (zmk_34 M) = zn (zmk_33 M) + 1 := (zn_sF (zal (zmk_33 M) 1 7) 81 62 _).trans (zn_al (zmk_33 M) 1 7)
  have b34 : zw (zmk_34 M) = zw (zmk_33 M) + 7 := (zw_sF (zal (zmk_33 M) 1 7) 81 62 _).trans (zw_al (zmk_33 M) 1 7)
  have a35 : zn (zmk_35 M) = zn (zmk_34 M) := rfl
  have b35 : zw (zmk_35 M) = zw (zmk_34 M) := rfl
  show zn (zmk_35 M) = _ ∧ zw (zmk_35 M) = _
  (exact zo_291 a1 a10 a11 a12 a13 a14 a15 a16 a17 a18 a19 a2 a20 a21 a22 a23 a24 a25 a26 a27 a28 a29 a3 a30 a31 a32 a33 a34 a35 a4 a5 a6 a7 a8 a9 b1 b10 b11 b12 b13 b14 b15 b16 b17 b18 b19 b2 b20 b21 b22 b23 b24 b25 b26 b27 b28 b29 b3 b30 b31 b32 b33 b34 b35 b4 b5 b6 b7 b8 b9)
theorem zmk_s {M : zMem} {q t n j : Nat} {v : Option Nat} (h : 82 ≤ zn M) (hq : q < 81) : zsh (zsF (zal M t n) 81 j v) q = zsh M q ∧ zf (zsF (zal M t n) 81 j v) q = zf M q ∧ zi (zsF (zal M t n) 81 j v) q = zi M q ∧ zj (zsF (zal M t n) 81 j v) q = zj M q := by
  have hne : ¬ q = M.1.1 := by
    have : zn M = M.1.1 := rfl
    (exact zo_292 h hq this)
  refine ⟨?_, ?_, ?_, ?_⟩
  · show (zal M t n).2.1 q = _
    simp [zal, zsh, hne]
  · show zup2 (zf (zal M t n)) 81 j v q = _
    rw [zup2_q (by (exact zo_293 hq))]
    simp [zal, zf, hne]
  · show (zal M t n).2.2.1 q = _
    simp [zal, zi, hne]
  · show (zal M t n).2.2.2.1 q = _
    simp [zal, zj, hne]
theorem zmk_i {M : zMem} {q j : Nat} {v : Int32} (hq : q < 81) : zsh (zsI M 81 j v) q = zsh M q ∧ zf (zsI M 81 j v) q = zf M q ∧ zi (zsI M 81 j v) q = zi M q ∧ zj (zsI M 81 j v) q = zj M q := ⟨rfl, rfl, zup2_q (by (exact zo_293 hq)), rfl⟩
theorem zmk_tr {M N P : zMem} {q : Nat} (a : zsh N q = zsh M q ∧ zf N q = zf M q ∧ zi N q = zi M q ∧ zj N q = zj M q) (b : zsh P q = zsh N q ∧ zf P q = zf N q ∧ zi P q = zi N q ∧ zj P q = zj N q) : zsh P q = zsh M q ∧ zf P q = zf M q ∧ zi P q = zi M q ∧ zj P q = zj M q := ⟨b.1.trans a.1, b.2.1.trans a.2.1, b.2.2.1.trans a.2.2.1, b.2.2.2.trans a.2.2.2⟩
set_option maxRecDepth 100000 in
theorem zmk_old (M : zMem) (h : zn M = 82) (q : Nat) (hq : q < 81) : zsh (zmk M) q = zsh M q ∧ zf (zmk M) q = zf M q ∧ zi (zmk M) q = zi M q ∧ zj (zmk M) q = zj M q := by
  have e1 : zsh (zmk_1 M) q = zsh M q ∧ zf (zmk_1 M) q = zf M q ∧ zi (zmk_1 M) q = zi M q ∧ zj (zmk_1 M) q = zj M q := (zmk_s (M := M) (by show 82 ≤ zn M + 0; (exact zo_294 h)) hq)
  have e2 : zsh (zmk_2 M) q = zsh M q ∧ zf (zmk_2 M) q = zf M q ∧ zi (zmk_2 M) q = zi M q ∧ zj (zmk_2 M) q = zj M q := zmk_tr e1 (zmk_i hq)
  have e3 : zsh (zmk_3 M) q = zsh M q ∧ zf (zmk_3 M) q = zf M q ∧ zi (zmk_3 M) q = zi M q ∧ zj (zmk_3 M) q = zj M q := zmk_tr e2 (zmk_i hq)
  have e4 : zsh (zmk_4 M) q = zsh M q ∧ zf (zmk_4 M) q = zf M q ∧ zi (zmk_4 M) q = zi M q ∧ zj (zmk_4 M) q = zj M q := zmk_tr e3 (zmk_s (M := (zmk_3 M)) (by show 82 ≤ zn M + 1; (exact zo_295 h)) hq)
  have e5 : zsh (zmk_5 M) q = zsh M q ∧ zf (zmk_5 M) q = zf M q ∧ zi (zmk_5 M) q = zi M q ∧ zj (zmk_5 M) q = zj M q := zmk_tr e4 (zmk_s (M := (zmk_4 M)) (by show 82 ≤ zn M + 2; (exact zo_296 h)) hq)
  have e6 : zsh (zmk_6 M) q = zsh M q ∧ zf (zmk_6 M) q = zf M q ∧ zi (zmk_6 M) q = zi M q ∧ zj (zmk_6 M) q = zj M q := zmk_tr e5 (zmk_s (M := (zmk_5 M)) (by show 82 ≤ zn M + 3; (exact zo_297 h)) hq)
  have e7 : zsh (zmk_7 M) q = zsh M q ∧ zf (zmk_7 M) q = zf M q ∧ zi (zmk_7 M) q = zi M q ∧ zj (zmk_7 M) q = zj M q := zmk_tr e6 (zmk_s (M := (zmk_6 M)) (by show 82 ≤ zn M + 4; (exact zo_298 h)) hq)
  have e8 : zsh (zmk_8 M) q = zsh M q ∧ zf (zmk_8 M) q = zf M q ∧ zi (zmk_8 M) q = zi M q ∧ zj (zmk_8 M) q = zj M q := zmk_tr e7 (zmk_s (M := (zmk_7 M)) (by show 82 ≤ zn M + 5; (exact zo_299 h)) hq)
  have e9 : zsh (zmk_9 M) q = zsh M q ∧ zf (zmk_9 M) q = zf M q ∧ zi (zmk_9 M) q = zi M q ∧ zj (zmk_9 M) q = zj M q := zmk_tr e8 (zmk_s (M := (zmk_8 M)) (by show 82 ≤ zn M + 6; (exact zo_300 h)) hq)
  have e10 : zsh (zmk_10 M) q = zsh M q ∧ zf (zmk_10 M) q = zf M q ∧ zi (zmk_10 M) q = zi M q ∧ zj (zmk_10 M) q = zj M q := zmk_tr e9 (zmk_s (M := (zmk_9 M)) (by show 82 ≤ zn M + 7; (exact zo_301 h)) hq)
  have e11 : zsh (zmk_11 M) q = zsh M q ∧ zf (zmk_11 M) q = zf M q ∧ zi (zmk_11 M) q = zi M q ∧ zj (zmk_11 M) q = zj M q := zmk_tr e10 (zmk_s (M := (zmk_10 M)) (by show 82 ≤ zn M + 8; (exact zo_302 h)) hq)
  have e12 : zsh (zmk_12 M) q = zsh M q ∧ zf (zmk_12 M) q = zf M q ∧ zi (zmk_12 M) q = zi M q ∧ zj (zmk_12 M) q = zj M q := zmk_tr e11 (zmk_s (M := (zmk_11 M)) (by show 82 ≤ zn M + 9; (exact zo_303 h)) hq)
  have e13 : zsh (zmk_13 M) q = zsh M q ∧ zf (zmk_13 M) q = zf M q ∧ zi (zmk_13 M) q = zi M q ∧ zj (zmk_13 M) q = zj M q := zmk_tr e12 (zmk_s (M := (zmk_12 M)) (by show 82 ≤ zn M + 10; (exact zo_304 h)) hq)
  have e14 : zsh (zmk_14 M) q = zsh M q ∧ zf (zmk_14 M) q = zf M q ∧ zi (zmk_14 M) q = zi M q ∧ zj (zmk_14 M) q = zj M q := zmk_tr e13 (zmk_s (M := (zmk_13 M)) (by show 82 ≤ zn M + 11; (exact zo_305 h)) hq)
  have e15 : zsh (zmk_15 M) q = zsh M q ∧ zf (zmk_15 M) q = zf M q ∧ zi (zmk_15 M) q = zi M q ∧ zj (zmk_15 M) q = zj M q := zmk_tr e14 (zmk_s (M := (zmk_14 M)) (by show 82 ≤ zn M + 12; (exact zo_306 h)) hq)
  have e16 : zsh (zmk_16 M) q = zsh M q ∧ zf (zmk_16 M) q = zf M q ∧ zi (zmk_16 M) q = zi M q ∧ zj (zmk_16 M) q = zj M q := zmk_tr e15 (zmk_s (M := (zmk_15 M)) (by show 82 ≤ zn M + 13; (exact zo_307 h)) hq)
  have e17 : zsh (zmk_17 M) q = zsh M q ∧ zf (zmk_17 M) q = zf M q ∧ zi (zmk_17 M) q = zi M q ∧ zj (zmk_17 M) q = zj M q := zmk_tr e16 (zmk_s (M := (zmk_16 M)) (by show 82 ≤ zn M + 14; (exact zo_308 h)) hq)
  have e18 : zsh (zmk_18 M) q = zsh M q ∧ zf (zmk_18 M) q = zf M q ∧ zi (zmk_18 M) q = zi M q ∧ zj (zmk_18 M) q = zj M q := zmk_tr e17 (zmk_s (M := (zmk_17 M)) (by show 82 ≤ zn M + 15; (exact zo_309 h)) hq)
  have e19 : zsh (zmk_19 M) q = zsh M q ∧ zf (zmk_19 M) q = zf M q ∧ zi (zmk_19 M) q = zi M q ∧ zj (zmk_19 M) q = zj M q := zmk_tr e18 (zmk_s (M := (zmk_18 M)) (by show 82 ≤ zn M + 16; (exact zo_310 h)) hq)
  have e20 : zsh (zmk_20 M) q = zsh M q ∧ zf (zmk_20 M) q = zf M q ∧ zi (zmk_20 M) q = zi M q ∧ zj (zmk_20 M) q = zj M q := zmk_tr e19 (zmk_s (M := (zmk_19 M)) (by show 82 ≤ zn M + 17; (exact zo_311 h)) hq)
  have e21 : zsh (zmk_21 M) q = zsh M q ∧ zf (zmk_21 M) q = zf M q ∧ zi (zmk_21 M) q = zi M q ∧ zj (zmk_21 M) q = zj M q := zmk_tr e20 (zmk_s (M := (zmk_20 M)) (by show 82 ≤ zn M + 18; (exact zo_312 h)) hq)
  have e22 : zsh (zmk_22 M) q = zsh M q ∧ zf (zmk_22 M) q = zf M q ∧ zi (zmk_22 M) q = zi M q ∧ zj (zmk_22 M) q = zj M q := zmk_tr e21 (zmk_s (M := (zmk_21 M)) (by show 82 ≤ zn M + 19; (exact zo_313 h)) hq)
  have e23 : zsh (zmk_23 M) q = zsh M q ∧ zf (zmk_23 M) q = zf M q ∧ zi (zmk_23 M) q = zi M q ∧ zj (zmk_23 M) q = zj M q := zmk_tr e22 (zmk_s (M := (zmk_22 M)) (by show 82 ≤ zn M + 20; (exact zo_314 h)) hq)
  have e24 : zsh (zmk_24 M) q = zsh M q ∧ zf (zmk_24 M) q = zf M q ∧ zi (zmk_24 M) q = zi M q ∧ zj (zmk_24 M) q = zj M q := zmk_tr e23 (zmk_s (M := (zmk_23 M)) (by show 82 ≤ zn M + 21; (exact zo_315 h)) hq)
  have e25 : zsh (zmk_25 M) q = zsh M q ∧ zf (zmk_25 M) q = zf M q ∧ zi (zmk_25 M) q = zi M q ∧ zj (zmk_25 M) q = zj M q := zmk_tr e24 (zmk_s (M := (zmk_24 M)) (by show 82 ≤ zn M + 22; (exact zo_316 h)) hq)
  have e26 : zsh (zmk_26 M) q = zsh M q ∧ zf (zmk_26 M) q = zf M q ∧ zi (zmk_26 M) q = zi M q ∧ zj (zmk_26 M) q = zj M q := zmk_tr e25 (zmk_s (M := (zmk_25 M)) (by show 82 ≤ zn M + 23; (exact zo_317 h)) hq)
  have e27 : zsh (zmk_27 M) q = zsh M q ∧ zf (zmk_27 M) q = zf M q ∧ zi (zmk_27 M) q = zi M q ∧ zj (zmk_27 M) q = zj M q := zmk_tr e26 (zmk_s (M := (zmk_26 M)) (by show 82 ≤ zn M + 24; (exact zo_318 h)) hq)
  have e28 : zsh (zmk_28 M) q = zsh M q ∧ zf (zmk_28 M) q = zf M q ∧ zi (zmk_28 M) q = zi M q ∧ zj (zmk_28 M) q = zj M q := zmk_tr e27 (zmk_s (M := (zmk_27 M)) (by show 82 ≤ zn M + 25; (exact zo_319 h)) hq)
  have e29 : zsh (zmk_29 M) q = zsh M q ∧ zf (zmk_29 M) q = zf M q ∧ zi (zmk_29 M) q = zi M q ∧ zj (zmk_29 M) q = zj M q := zmk_tr e28 (zmk_s (M := (zmk_28 M)) (by show 82 ≤ zn M + 26; (exact zo_320 h)) hq)
  have e30 : zsh (zmk_30 M) q = zsh M q ∧ zf (zmk_30 M) q = zf M q ∧ zi (zmk_30 M) q = zi M q ∧ zj (zmk_30 M) q = zj M q := zmk_tr e29 (zmk_s (M := (zmk_29 M)) (by show 82 ≤ zn M + 27; (exact zo_321 h)) hq)
  have e31 : zsh (zmk_31 M) q = zsh M q ∧ zf (zmk_31 M) q = zf M q ∧ zi (zmk_31 M) q = zi M q ∧ zj (zmk_31 M) q = zj M q := zmk_tr e30 (zmk_s (M := (zmk_30 M)) (by show 82 ≤ zn M + 28; (exact zo_322 h)) hq)
  have e32 : zsh (zmk_32 M) q = zsh M q ∧ zf (zmk_32 M) q = zf M q ∧ zi (zmk_32 M) q = zi M q ∧ zj (zmk_32 M) q = zj M q := zmk_tr e31 (zmk_s (M := (zmk_31 M)) (by show 82 ≤ zn M + 29; (exact zo_323 h)) hq)
  have e33 : zsh (zmk_33 M) q = zsh M q ∧ zf (zmk_33 M) q = zf M q ∧ zi (zmk_33 M) q = zi M q ∧ zj (zmk_33 M) q = zj M q := zmk_tr e32 (zmk_s (M := (zmk_32 M)) (by show 82 ≤ zn M + 30; (exact zo_324 h)) hq)
  have e34 : zsh (zmk_34 M) q = zsh M q ∧ zf (zmk_34 M) q = zf M q ∧ zi (zmk_34 M) q = zi M q ∧ zj (zmk_34 M) q = zj M q := zmk_tr e33 (zmk_s (M := (zmk_33 M)) (by show 82 ≤ zn M + 31; (exact zo_325 h)) hq)
  have e35 : zsh (zmk_35 M) q = zsh M q ∧ zf (zmk_35 M) q = zf M q ∧ zi (zmk_35 M) q = zi M q ∧ zj (zmk_35 M) q = zj M q := zmk_tr e34 (zmk_i hq)
  exact e35
set_option maxRecDepth 100000 in
set_option maxHeartbeats 8000000 in
theorem k_Mpre (l : Launch) (X : Nat × Nat) (Q : Option Value → zMem → Prop) (M : zMem) (h : zn M = 82) (h2 : (zsh M 81).1 = 11 + 3) (hX1 : 114 ≤ X.1) (hX2 : zw M + 78111 ≤ X.2) (kk : zW l m_M_init X (zmk M) 287 [some (.ref 81)] [] Q) : zW l m_M_init X M 0 [some (.ref 81)] [] Q := by
  refine zw_aload_n (pc := 0) (n := 0) (x := 81) rfl (zdal_p dlC_M_init_0 (i := 0) rfl) ?_
  refine zw_objInit (pc := 1) o_M_1 o_in o_co (by decide) (Nat.le_of_ble_eq_true rfl) (zdal_p dlC_M_init_0 (i := 1) rfl) ?_
  have h0 : zn M = 82 := h
  refine zw_aload_n (pc := 4) (n := 0) (x := 81) rfl (zdal_p dlC_M_init_0 (i := 2) rfl) ?_
  refine zw_sipush (pc := 5) (v := nI 700) (by decide) (zdal_p dlC_M_init_0 (i := 3) rfl) ?_
  have hz : zn M = 82 + 0 := h0
  have hw : zw M = zw M + 0 := rfl
  refine zw_newa (pc := 8) (t := 1) (N := 700) (Or.inl ⟨rfl, rfl⟩) (by decide) (by decide) (by decide) (by (exact zo_326 h)) (by (exact zo_327 h hX1)) (by (exact zo_328 hX2)) (zdal_p dlC_M_init_0 (i := 4) rfl) ?_
  have ha : (zsh (zal M 1 700) 81).1 = 11 + 3 := by rw [(zal_old (by (exact zo_329 h))).1]; exact (h2)
  refine zw_putR (pc := 10) (x := zn M) (Or.inr ⟨g_M_7, rfl, rfl, rfl⟩) rfl ha (fun _ => rfl) (fun _ => rfl) (zdal_p dlC_M_init_0 (i := 5) rfl) ?_
  have hk_1 : (zsh (zmk_1 M) 81).1 = 11 + 3 := ha
  show zW l m_M_init X (zmk_1 M) 13 [some (.ref 81)] [] Q
  have a1 : zn (zmk_1 M) = zn M + 1 := (zn_sF (zal M 1 700) 81 0 _).trans (zn_al M 1 700)
  have b1 : zw (zmk_1 M) = zw M + 700 := (zw_sF (zal M 1 700) 81 0 _).trans (zw_al M 1 700)
  refine zw_aload_n (pc := 13) (n := 0) (x := 81) rfl (zdal_p dlC_M_init_0 (i := 6) rfl) ?_
  refine zw_iconst (pc := 14) (v := (-1)) (by decide) (zdal_p dlC_M_init_0 (i := 7) rfl) ?_
  refine zw_putI (pc := 15) f_M_13 rfl rfl (hk_1) rfl rfl (zdal_p dlC_M_init_0 (i := 8) rfl) ?_
  have hk_2 : (zsh (zmk_2 M) 81).1 = 11 + 3 := (hk_1)
  show zW l m_M_init X (zmk_2 M) 18 [some (.ref 81)] [] Q
  have a2 : zn (zmk_2 M) = zn (zmk_1 M) := rfl
  have b2 : zw (zmk_2 M) = zw (zmk_1 M) := rfl
  refine zw_aload_n (pc := 18) (n := 0) (x := 81) rfl (zdal_p dlC_M_init_0 (i := 9) rfl) ?_
  refine zw_iconst (pc := 19) (v := (-1)) (by decide) (zdal_p dlC_M_init_0 (i := 10) rfl) ?_
  refine zw_putI (pc := 20) f_M_17 rfl rfl (hk_2) rfl rfl (zdal_p dlC_M_init_0 (i := 11) rfl) ?_
  have hk_3 : (zsh (zmk_3 M) 81).1 = 11 + 3 := (hk_2)
  show zW l m_M_init X (zmk_3 M) 23 [some (.ref 81)] [] Q
  have a3 : zn (zmk_3 M) = zn (zmk_2 M) := rfl
  have b3 : zw (zmk_3 M) = zw (zmk_2 M) := rfl
  refine zw_aload_n (pc := 23) (n := 0) (x := 81) rfl (zdal_p dlC_M_init_0 (i := 12) rfl) ?_
  refine zw_bipush (pc := 24) (v := nI 24) (by decide) (zdal_p dlC_M_init_0 (i := 13) rfl) ?_
  have hz : zn (zmk_3 M) = 82 + 1 := by (exact zo_330 a1 a2 a3 h)
  have hw : zw (zmk_3 M) = zw M + 700 := by (exact zo_331 b1 b2 b3)
  refine zw_newa (pc := 26) (t := 1) (N := 24) (Or.inl ⟨rfl, rfl⟩) (by decide) (by decide) (by decide) (by (exact zo_332 hz)) (by (exact zo_333 hX1 hz)) (by (exact zo_334 hX2 hw)) (zdal_p dlC_M_init_0 (i := 14) rfl) ?_
  have ha : (zsh (zal (zmk_3 M) 1 24) 81).1 = 11 + 3 := by rw [(zal_old (by (exact zo_335 hz))).1]; exact (hk_3)
  refine zw_putR (pc := 28) (x := zn (zmk_3 M)) (Or.inr ⟨g_M_20, rfl, rfl, rfl⟩) rfl ha (fun _ => rfl) (fun _ => rfl) (zdal_p dlC_M_init_0 (i := 15) rfl) ?_
  have hk_4 : (zsh (zmk_4 M) 81).1 = 11 + 3 := ha
  show zW l m_M_init X (zmk_4 M) 31 [some (.ref 81)] [] Q
  have a4 : zn (zmk_4 M) = zn (zmk_3 M) + 1 := (zn_sF (zal (zmk_3 M) 1 24) 81 15 _).trans (zn_al (zmk_3 M) 1 24)
  have b4 : zw (zmk_4 M) = zw (zmk_3 M) + 24 := (zw_sF (zal (zmk_3 M) 1 24) 81 15 _).trans (zw_al (zmk_3 M) 1 24)
  refine zw_aload_n (pc := 31) (n := 0) (x := 81) rfl (zdal_p dlC_M_init_0 (i := 16) rfl) ?_
  refine zw_bipush (pc := 32) (v := nI 24) (by decide) (zdal_p dlC_M_init_0 (i := 17) rfl) ?_
  have hz : zn (zmk_4 M) = 82 + 2 := by (exact zo_336 a4 hz)
  have hw : zw (zmk_4 M) = zw M + 724 := by (exact zo_337 b4 hw)
  refine zw_newa (pc := 34) (t := 1) (N := 24) (Or.inl ⟨rfl, rfl⟩) (by decide) (by decide) (by decide) (by (exact zo_338 hz)) (by (exact zo_339 hX1 hz)) (by (exact zo_340 hX2 hw)) (zdal_p dlC_M_init_0 (i := 18) rfl) ?_
  have ha : (zsh (zal (zmk_4 M) 1 24) 81).1 = 11 + 3 := by rw [(zal_old (by (exact zo_341 hz))).1]; exact (hk_4)
  refine zw_putR (pc := 36) (x := zn (zmk_4 M)) (Or.inr ⟨g_M_23, rfl, rfl, rfl⟩) rfl ha (fun _ => rfl) (fun _ => rfl) (zdal_p dlC_M_init_0 (i := 19) rfl) ?_
  have hk_5 : (zsh (zmk_5 M) 81).1 = 11 + 3 := ha
  show zW l m_M_init X (zmk_5 M) 39 [some (.ref 81)] [] Q
  have a5 : zn (zmk_5 M) = zn (zmk_4 M) + 1 := (zn_sF (zal (zmk_4 M) 1 24) 81 19 _).trans (zn_al (zmk_4 M) 1 24)
  have b5 : zw (zmk_5 M) = zw (zmk_4 M) + 24 := (zw_sF (zal (zmk_4 M) 1 24) 81 19 _).trans (zw_al (zmk_4 M) 1 24)
  refine zw_aload_n (pc := 39) (n := 0) (x := 81) rfl (zdal_p dlC_M_init_0 (i := 20) rfl) ?_
  refine zw_sipush (pc := 40) (v := nI 144) (by decide) (zdal_p dlC_M_init_0 (i := 21) rfl) ?_
  have hz : zn (zmk_5 M) = 82 + 3 := by (exact zo_342 a5 hz)
  have hw : zw (zmk_5 M) = zw M + 748 := by (exact zo_343 b5 hw)
  refine zw_newa (pc := 43) (t := 1) (N := 144) (Or.inl ⟨rfl, rfl⟩) (by decide) (by decide) (by decide) (by (exact zo_344 hz)) (by (exact zo_345 hX1 hz)) (by (exact zo_346 hX2 hw)) (zdal_p dlC_M_init_0 (i := 22) rfl) ?_
  have ha : (zsh (zal (zmk_5 M) 1 144) 81).1 = 11 + 3 := by rw [(zal_old (by (exact zo_347 hz))).1]; exact (hk_5)
  refine zw_putR (pc := 45) (x := zn (zmk_5 M)) (Or.inr ⟨g_M_26, rfl, rfl, rfl⟩) rfl ha (fun _ => rfl) (fun _ => rfl) (zdal_p dlC_M_init_0 (i := 23) rfl) ?_
  have hk_6 : (zsh (zmk_6 M) 81).1 = 11 + 3 := ha
  show zW l m_M_init X (zmk_6 M) 48 [some (.ref 81)] [] Q
  have a6 : zn (zmk_6 M) = zn (zmk_5 M) + 1 := (zn_sF (zal (zmk_5 M) 1 144) 81 21 _).trans (zn_al (zmk_5 M) 1 144)
  have b6 : zw (zmk_6 M) = zw (zmk_5 M) + 144 := (zw_sF (zal (zmk_5 M) 1 144) 81 21 _).trans (zw_al (zmk_5 M) 1 144)
  refine zw_aload_n (pc := 48) (n := 0) (x := 81) rfl (zdal_p dlC_M_init_1 (i := 0) rfl) ?_
  refine zw_bipush (pc := 49) (v := nI 6) (by decide) (zdal_p dlC_M_init_1 (i := 1) rfl) ?_
  have hz : zn (zmk_6 M) = 82 + 4 := by (exact zo_348 a6 hz)
  have hw : zw (zmk_6 M) = zw M + 892 := by (exact zo_349 b6 hw)
  refine zw_newa (pc := 51) (t := 1) (N := 6) (Or.inl ⟨rfl, rfl⟩) (by decide) (by decide) (by decide) (by (exact zo_350 hz)) (by (exact zo_351 hX1 hz)) (by (exact zo_352 hX2 hw)) (zdal_p dlC_M_init_1 (i := 2) rfl) ?_
  have ha : (zsh (zal (zmk_6 M) 1 6) 81).1 = 11 + 3 := by rw [(zal_old (by (exact zo_353 hz))).1]; exact (hk_6)
  refine zw_putR (pc := 53) (x := zn (zmk_6 M)) (Or.inr ⟨g_M_29, rfl, rfl, rfl⟩) rfl ha (fun _ => rfl) (fun _ => rfl) (zdal_p dlC_M_init_1 (i := 3) rfl) ?_
  have hk_7 : (zsh (zmk_7 M) 81).1 = 11 + 3 := ha
  show zW l m_M_init X (zmk_7 M) 56 [some (.ref 81)] [] Q
  have a7 : zn (zmk_7 M) = zn (zmk_6 M) + 1 := (zn_sF (zal (zmk_6 M) 1 6) 81 22 _).trans (zn_al (zmk_6 M) 1 6)
  have b7 : zw (zmk_7 M) = zw (zmk_6 M) + 6 := (zw_sF (zal (zmk_6 M) 1 6) 81 22 _).trans (zw_al (zmk_6 M) 1 6)
  refine zw_aload_n (pc := 56) (n := 0) (x := 81) rfl (zdal_p dlC_M_init_1 (i := 4) rfl) ?_
  refine zw_sipush (pc := 57) (v := nI 576) (by decide) (zdal_p dlC_M_init_1 (i := 5) rfl) ?_
  have hz : zn (zmk_7 M) = 82 + 5 := by (exact zo_354 a7 hz)
  have hw : zw (zmk_7 M) = zw M + 898 := by (exact zo_355 b7 hw)
  refine zw_newa (pc := 60) (t := 1) (N := 576) (Or.inl ⟨rfl, rfl⟩) (by decide) (by decide) (by decide) (by (exact zo_356 hz)) (by (exact zo_357 hX1 hz)) (by (exact zo_358 hX2 hw)) (zdal_p dlC_M_init_1 (i := 6) rfl) ?_
  have ha : (zsh (zal (zmk_7 M) 1 576) 81).1 = 11 + 3 := by rw [(zal_old (by (exact zo_359 hz))).1]; exact (hk_7)
  refine zw_putR (pc := 62) (x := zn (zmk_7 M)) (Or.inr ⟨g_M_32, rfl, rfl, rfl⟩) rfl ha (fun _ => rfl) (fun _ => rfl) (zdal_p dlC_M_init_1 (i := 7) rfl) ?_
  have hk_8 : (zsh (zmk_8 M) 81).1 = 11 + 3 := ha
  show zW l m_M_init X (zmk_8 M) 65 [some (.ref 81)] [] Q
  have a8 : zn (zmk_8 M) = zn (zmk_7 M) + 1 := (zn_sF (zal (zmk_7 M) 1 576) 81 23 _).trans (zn_al (zmk_7 M) 1 576)
  have b8 : zw (zmk_8 M) = zw (zmk_7 M) + 576 := (zw_sF (zal (zmk_7 M) 1 576) 81 23 _).trans (zw_al (zmk_7 M) 1 576)
  refine zw_aload_n (pc := 65) (n := 0) (x := 81) rfl (zdal_p dlC_M_init_1 (i := 8) rfl) ?_
  refine zw_bipush (pc := 66) (v := nI 24) (by decide) (zdal_p dlC_M_init_1 (i := 9) rfl) ?_
  have hz : zn (zmk_8 M) = 82 + 6 := by (exact zo_360 a8 hz)
  have hw : zw (zmk_8 M) = zw M + 1474 := by (exact zo_361 b8 hw)
  refine zw_newa (pc := 68) (t := 1) (N := 24) (Or.inl ⟨rfl, rfl⟩) (by decide) (by decide) (by decide) (by (exact zo_362 hz)) (by (exact zo_363 hX1 hz)) (by (exact zo_364 hX2 hw)) (zdal_p dlC_M_init_1 (i := 10) rfl) ?_
  have ha : (zsh (zal (zmk_8 M) 1 24) 81).1 = 11 + 3 := by rw [(zal_old (by (exact zo_365 hz))).1]; exact (hk_8)
  refine zw_putR (pc := 70) (x := zn (zmk_8 M)) (Or.inr ⟨g_M_35, rfl, rfl, rfl⟩) rfl ha (fun _ => rfl) (fun _ => rfl) (zdal_p dlC_M_init_1 (i := 11) rfl) ?_
  have hk_9 : (zsh (zmk_9 M) 81).1 = 11 + 3 := ha
  show zW l m_M_init X (zmk_9 M) 73 [some (.ref 81)] [] Q
  have a9 : zn (zmk_9 M) = zn (zmk_8 M) + 1 := (zn_sF (zal (zmk_8 M) 1 24) 81 24 _).trans (zn_al (zmk_8 M) 1 24)
  have b9 : zw (zmk_9 M) = zw (zmk_8 M) + 24 := (zw_sF (zal (zmk_8 M) 1 24) 81 24 _).trans (zw_al (zmk_8 M) 1 24)
  refine zw_aload_n (pc := 73) (n := 0) (x := 81) rfl (zdal_p dlC_M_init_1 (i := 12) rfl) ?_
  refine zw_sipush (pc := 74) (v := nI 128) (by decide) (zdal_p dlC_M_init_1 (i := 13) rfl) ?_
  have hz : zn (zmk_9 M) = 82 + 7 := by (exact zo_366 a9 hz)
  have hw : zw (zmk_9 M) = zw M + 1498 := by (exact zo_367 b9 hw)
  refine zw_newa (pc := 77) (t := 1) (N := 128) (Or.inl ⟨rfl, rfl⟩) (by decide) (by decide) (by decide) (by (exact zo_368 hz)) (by (exact zo_369 hX1 hz)) (by (exact zo_370 hX2 hw)) (zdal_p dlC_M_init_1 (i := 14) rfl) ?_
  have ha : (zsh (zal (zmk_9 M) 1 128) 81).1 = 11 + 3 := by rw [(zal_old (by (exact zo_371 hz))).1]; exact (hk_9)
  refine zw_putR (pc := 79) (x := zn (zmk_9 M)) (Or.inr ⟨g_M_38, rfl, rfl, rfl⟩) rfl ha (fun _ => rfl) (fun _ => rfl) (zdal_p dlC_M_init_1 (i := 15) rfl) ?_
  have hk_10 : (zsh (zmk_10 M) 81).1 = 11 + 3 := ha
  show zW l m_M_init X (zmk_10 M) 82 [some (.ref 81)] [] Q
  have a10 : zn (zmk_10 M) = zn (zmk_9 M) + 1 := (zn_sF (zal (zmk_9 M) 1 128) 81 27 _).trans (zn_al (zmk_9 M) 1 128)
  have b10 : zw (zmk_10 M) = zw (zmk_9 M) + 128 := (zw_sF (zal (zmk_9 M) 1 128) 81 27 _).trans (zw_al (zmk_9 M) 1 128)
  refine zw_aload_n (pc := 82) (n := 0) (x := 81) rfl (zdal_p dlC_M_init_1 (i := 16) rfl) ?_
  refine zw_sipush (pc := 83) (v := nI 128) (by decide) (zdal_p dlC_M_init_1 (i := 17) rfl) ?_
  have hz : zn (zmk_10 M) = 82 + 8 := by (exact zo_372 a10 hz)
  have hw : zw (zmk_10 M) = zw M + 1626 := by (exact zo_373 b10 hw)
  refine zw_newa (pc := 86) (t := 1) (N := 128) (Or.inl ⟨rfl, rfl⟩) (by decide) (by decide) (by decide) (by (exact zo_374 hz)) (by (exact zo_375 hX1 hz)) (by (exact zo_376 hX2 hw)) (zdal_p dlC_M_init_1 (i := 18) rfl) ?_
  have ha : (zsh (zal (zmk_10 M) 1 128) 81).1 = 11 + 3 := by rw [(zal_old (by (exact zo_377 hz))).1]; exact (hk_10)
  refine zw_putR (pc := 88) (x := zn (zmk_10 M)) (Or.inr ⟨g_M_41, rfl, rfl, rfl⟩) rfl ha (fun _ => rfl) (fun _ => rfl) (zdal_p dlC_M_init_1 (i := 19) rfl) ?_
  have hk_11 : (zsh (zmk_11 M) 81).1 = 11 + 3 := ha
  show zW l m_M_init X (zmk_11 M) 91 [some (.ref 81)] [] Q
  have a11 : zn (zmk_11 M) = zn (zmk_10 M) + 1 := (zn_sF (zal (zmk_10 M) 1 128) 81 28 _).trans (zn_al (zmk_10 M) 1 128)
  have b11 : zw (zmk_11 M) = zw (zmk_10 M) + 128 := (zw_sF (zal (zmk_10 M) 1 128) 81 28 _).trans (zw_al (zmk_10 M) 1 128)
  refine zw_aload_n (pc := 91) (n := 0) (x := 81) rfl (zdal_p dlC_M_init_1 (i := 20) rfl) ?_
  refine zw_bipush (pc := 92) (v := nI 64) (by decide) (zdal_p dlC_M_init_1 (i := 21) rfl) ?_
  have hz : zn (zmk_11 M) = 82 + 9 := by (exact zo_378 a11 hz)
  have hw : zw (zmk_11 M) = zw M + 1754 := by (exact zo_379 b11 hw)
  refine zw_newa (pc := 94) (t := 1) (N := 64) (Or.inl ⟨rfl, rfl⟩) (by decide) (by decide) (by decide) (by (exact zo_380 hz)) (by (exact zo_381 hX1 hz)) (by (exact zo_382 hX2 hw)) (zdal_p dlC_M_init_1 (i := 22) rfl) ?_
  have ha : (zsh (zal (zmk_11 M) 1 64) 81).1 = 11 + 3 := by rw [(zal_old (by (exact zo_383 hz))).1]; exact (hk_11)
  refine zw_putR (pc := 96) (x := zn (zmk_11 M)) (Or.inr ⟨g_M_44, rfl, rfl, rfl⟩) rfl ha (fun _ => rfl) (fun _ => rfl) (zdal_p dlC_M_init_1 (i := 23) rfl) ?_
  have hk_12 : (zsh (zmk_12 M) 81).1 = 11 + 3 := ha
  show zW l m_M_init X (zmk_12 M) 99 [some (.ref 81)] [] Q
  have a12 : zn (zmk_12 M) = zn (zmk_11 M) + 1 := (zn_sF (zal (zmk_11 M) 1 64) 81 29 _).trans (zn_al (zmk_11 M) 1 64)
  have b12 : zw (zmk_12 M) = zw (zmk_11 M) + 64 := (zw_sF (zal (zmk_11 M) 1 64) 81 29 _).trans (zw_al (zmk_11 M) 1 64)
  refine zw_aload_n (pc := 99) (n := 0) (x := 81) rfl (zdal_p dlC_M_init_2 (i := 0) rfl) ?_
  refine zw_bipush (pc := 100) (v := nI 64) (by decide) (zdal_p dlC_M_init_2 (i := 1) rfl) ?_
  have hz : zn (zmk_12 M) = 82 + 10 := by (exact zo_384 a12 hz)
  have hw : zw (zmk_12 M) = zw M + 1818 := by (exact zo_385 b12 hw)
  refine zw_newa (pc := 102) (t := 1) (N := 64) (Or.inl ⟨rfl, rfl⟩) (by decide) (by decide) (by decide) (by (exact zo_386 hz)) (by (exact zo_387 hX1 hz)) (by (exact zo_388 hX2 hw)) (zdal_p dlC_M_init_2 (i := 2) rfl) ?_
  have ha : (zsh (zal (zmk_12 M) 1 64) 81).1 = 11 + 3 := by rw [(zal_old (by (exact zo_389 hz))).1]; exact (hk_12)
  refine zw_putR (pc := 104) (x := zn (zmk_12 M)) (Or.inr ⟨g_M_47, rfl, rfl, rfl⟩) rfl ha (fun _ => rfl) (fun _ => rfl) (zdal_p dlC_M_init_2 (i := 3) rfl) ?_
  have hk_13 : (zsh (zmk_13 M) 81).1 = 11 + 3 := ha
  show zW l m_M_init X (zmk_13 M) 107 [some (.ref 81)] [] Q
  have a13 : zn (zmk_13 M) = zn (zmk_12 M) + 1 := (zn_sF (zal (zmk_12 M) 1 64) 81 30 _).trans (zn_al (zmk_12 M) 1 64)
  have b13 : zw (zmk_13 M) = zw (zmk_12 M) + 64 := (zw_sF (zal (zmk_12 M) 1 64) 81 30 _).trans (zw_al (zmk_12 M) 1 64)
  refine zw_aload_n (pc := 107) (n := 0) (x := 81) rfl (zdal_p dlC_M_init_2 (i := 4) rfl) ?_
  refine zw_sipush (pc := 108) (v := nI 4096) (by decide) (zdal_p dlC_M_init_2 (i := 5) rfl) ?_
  have hz : zn (zmk_13 M) = 82 + 11 := by (exact zo_390 a13 hz)
  have hw : zw (zmk_13 M) = zw M + 1882 := by (exact zo_391 b13 hw)
  refine zw_newa (pc := 111) (t := 1) (N := 4096) (Or.inl ⟨rfl, rfl⟩) (by decide) (by decide) (by decide) (by (exact zo_392 hz)) (by (exact zo_393 hX1 hz)) (by (exact zo_394 hX2 hw)) (zdal_p dlC_M_init_2 (i := 6) rfl) ?_
  have ha : (zsh (zal (zmk_13 M) 1 4096) 81).1 = 11 + 3 := by rw [(zal_old (by (exact zo_395 hz))).1]; exact (hk_13)
  refine zw_putR (pc := 113) (x := zn (zmk_13 M)) (Or.inr ⟨g_M_50, rfl, rfl, rfl⟩) rfl ha (fun _ => rfl) (fun _ => rfl) (zdal_p dlC_M_init_2 (i := 7) rfl) ?_
  have hk_14 : (zsh (zmk_14 M) 81).1 = 11 + 3 := ha
  show zW l m_M_init X (zmk_14 M) 116 [some (.ref 81)] [] Q
  have a14 : zn (zmk_14 M) = zn (zmk_13 M) + 1 := (zn_sF (zal (zmk_13 M) 1 4096) 81 31 _).trans (zn_al (zmk_13 M) 1 4096)
  have b14 : zw (zmk_14 M) = zw (zmk_13 M) + 4096 := (zw_sF (zal (zmk_13 M) 1 4096) 81 31 _).trans (zw_al (zmk_13 M) 1 4096)
  refine zw_aload_n (pc := 116) (n := 0) (x := 81) rfl (zdal_p dlC_M_init_2 (i := 8) rfl) ?_
  refine zw_sipush (pc := 117) (v := nI 1536) (by decide) (zdal_p dlC_M_init_2 (i := 9) rfl) ?_
  have hz : zn (zmk_14 M) = 82 + 12 := by (exact zo_396 a14 hz)
  have hw : zw (zmk_14 M) = zw M + 5978 := by (exact zo_397 b14 hw)
  refine zw_newa (pc := 120) (t := 1) (N := 1536) (Or.inl ⟨rfl, rfl⟩) (by decide) (by decide) (by decide) (by (exact zo_398 hz)) (by (exact zo_399 hX1 hz)) (by (exact zo_400 hX2 hw)) (zdal_p dlC_M_init_2 (i := 10) rfl) ?_
  have ha : (zsh (zal (zmk_14 M) 1 1536) 81).1 = 11 + 3 := by rw [(zal_old (by (exact zo_401 hz))).1]; exact (hk_14)
  refine zw_putR (pc := 122) (x := zn (zmk_14 M)) (Or.inr ⟨g_M_53, rfl, rfl, rfl⟩) rfl ha (fun _ => rfl) (fun _ => rfl) (zdal_p dlC_M_init_2 (i := 11) rfl) ?_
  have hk_15 : (zsh (zmk_15 M) 81).1 = 11 + 3 := ha
  show zW l m_M_init X (zmk_15 M) 125 [some (.ref 81)] [] Q
  have a15 : zn (zmk_15 M) = zn (zmk_14 M) + 1 := (zn_sF (zal (zmk_14 M) 1 1536) 81 32 _).trans (zn_al (zmk_14 M) 1 1536)
  have b15 : zw (zmk_15 M) = zw (zmk_14 M) + 1536 := (zw_sF (zal (zmk_14 M) 1 1536) 81 32 _).trans (zw_al (zmk_14 M) 1 1536)
  refine zw_aload_n (pc := 125) (n := 0) (x := 81) rfl (zdal_p dlC_M_init_2 (i := 12) rfl) ?_
  refine zw_sipush (pc := 126) (v := nI 2560) (by decide) (zdal_p dlC_M_init_2 (i := 13) rfl) ?_
  have hz : zn (zmk_15 M) = 82 + 13 := by (exact zo_402 a15 hz)
  have hw : zw (zmk_15 M) = zw M + 7514 := by (exact zo_403 b15 hw)
  refine zw_newa (pc := 129) (t := 2) (N := 2560) (Or.inr ⟨rfl, rfl⟩) (by decide) (by decide) (by decide) (by (exact zo_404 hz)) (by (exact zo_405 hX1 hz)) (by (exact zo_406 hX2 hw)) (zdal_p dlC_M_init_2 (i := 14) rfl) ?_
  have ha : (zsh (zal (zmk_15 M) 2 2560) 81).1 = 11 + 3 := by rw [(zal_old (by (exact zo_407 hz))).1]; exact (hk_15)
  refine zw_putR (pc := 131) (x := zn (zmk_15 M)) (Or.inr ⟨g_M_56, rfl, rfl, rfl⟩) rfl ha (fun _ => rfl) (fun _ => rfl) (zdal_p dlC_M_init_2 (i := 15) rfl) ?_
  have hk_16 : (zsh (zmk_16 M) 81).1 = 11 + 3 := ha
  show zW l m_M_init X (zmk_16 M) 134 [some (.ref 81)] [] Q
  have a16 : zn (zmk_16 M) = zn (zmk_15 M) + 1 := (zn_sF (zal (zmk_15 M) 2 2560) 81 33 _).trans (zn_al (zmk_15 M) 2 2560)
  have b16 : zw (zmk_16 M) = zw (zmk_15 M) + 2560 := (zw_sF (zal (zmk_15 M) 2 2560) 81 33 _).trans (zw_al (zmk_15 M) 2 2560)
  refine zw_aload_n (pc := 134) (n := 0) (x := 81) rfl (zdal_p dlC_M_init_2 (i := 16) rfl) ?_
  refine zw_bipush (pc := 135) (v := nI 64) (by decide) (zdal_p dlC_M_init_2 (i := 17) rfl) ?_
  have hz : zn (zmk_16 M) = 82 + 14 := by (exact zo_408 a16 hz)
  have hw : zw (zmk_16 M) = zw M + 10074 := by (exact zo_409 b16 hw)
  refine zw_newa (pc := 137) (t := 2) (N := 64) (Or.inr ⟨rfl, rfl⟩) (by decide) (by decide) (by decide) (by (exact zo_410 hz)) (by (exact zo_411 hX1 hz)) (by (exact zo_412 hX2 hw)) (zdal_p dlC_M_init_2 (i := 18) rfl) ?_
  have ha : (zsh (zal (zmk_16 M) 2 64) 81).1 = 11 + 3 := by rw [(zal_old (by (exact zo_413 hz))).1]; exact (hk_16)
  refine zw_putR (pc := 139) (x := zn (zmk_16 M)) (Or.inr ⟨g_M_60, rfl, rfl, rfl⟩) rfl ha (fun _ => rfl) (fun _ => rfl) (zdal_p dlC_M_init_2 (i := 19) rfl) ?_
  have hk_17 : (zsh (zmk_17 M) 81).1 = 11 + 3 := ha
  show zW l m_M_init X (zmk_17 M) 142 [some (.ref 81)] [] Q
  have a17 : zn (zmk_17 M) = zn (zmk_16 M) + 1 := (zn_sF (zal (zmk_16 M) 2 64) 81 34 _).trans (zn_al (zmk_16 M) 2 64)
  have b17 : zw (zmk_17 M) = zw (zmk_16 M) + 64 := (zw_sF (zal (zmk_16 M) 2 64) 81 34 _).trans (zw_al (zmk_16 M) 2 64)
  refine zw_aload_n (pc := 142) (n := 0) (x := 81) rfl (zdal_p dlC_M_init_2 (i := 20) rfl) ?_
  refine zw_bipush (pc := 143) (v := nI 64) (by decide) (zdal_p dlC_M_init_2 (i := 21) rfl) ?_
  have hz : zn (zmk_17 M) = 82 + 15 := by (exact zo_414 a17 hz)
  have hw : zw (zmk_17 M) = zw M + 10138 := by (exact zo_415 b17 hw)
  refine zw_newa (pc := 145) (t := 2) (N := 64) (Or.inr ⟨rfl, rfl⟩) (by decide) (by decide) (by decide) (by (exact zo_416 hz)) (by (exact zo_417 hX1 hz)) (by (exact zo_418 hX2 hw)) (zdal_p dlC_M_init_2 (i := 22) rfl) ?_
  have ha : (zsh (zal (zmk_17 M) 2 64) 81).1 = 11 + 3 := by rw [(zal_old (by (exact zo_419 hz))).1]; exact (hk_17)
  refine zw_putR (pc := 147) (x := zn (zmk_17 M)) (Or.inr ⟨g_M_63, rfl, rfl, rfl⟩) rfl ha (fun _ => rfl) (fun _ => rfl) (zdal_p dlC_M_init_2 (i := 23) rfl) ?_
  have hk_18 : (zsh (zmk_18 M) 81).1 = 11 + 3 := ha
  show zW l m_M_init X (zmk_18 M) 150 [some (.ref 81)] [] Q
  have a18 : zn (zmk_18 M) = zn (zmk_17 M) + 1 := (zn_sF (zal (zmk_17 M) 2 64) 81 35 _).trans (zn_al (zmk_17 M) 2 64)
  have b18 : zw (zmk_18 M) = zw (zmk_17 M) + 64 := (zw_sF (zal (zmk_17 M) 2 64) 81 35 _).trans (zw_al (zmk_17 M) 2 64)
  refine zw_aload_n (pc := 150) (n := 0) (x := 81) rfl (zdal_p dlC_M_init_3 (i := 0) rfl) ?_
  refine zw_bipush (pc := 151) (v := nI 64) (by decide) (zdal_p dlC_M_init_3 (i := 1) rfl) ?_
  have hz : zn (zmk_18 M) = 82 + 16 := by (exact zo_420 a18 hz)
  have hw : zw (zmk_18 M) = zw M + 10202 := by (exact zo_421 b18 hw)
  refine zw_newa (pc := 153) (t := 2) (N := 64) (Or.inr ⟨rfl, rfl⟩) (by decide) (by decide) (by decide) (by (exact zo_422 hz)) (by (exact zo_423 hX1 hz)) (by (exact zo_424 hX2 hw)) (zdal_p dlC_M_init_3 (i := 2) rfl) ?_
  have ha : (zsh (zal (zmk_18 M) 2 64) 81).1 = 11 + 3 := by rw [(zal_old (by (exact zo_425 hz))).1]; exact (hk_18)
  refine zw_putR (pc := 155) (x := zn (zmk_18 M)) (Or.inr ⟨g_M_66, rfl, rfl, rfl⟩) rfl ha (fun _ => rfl) (fun _ => rfl) (zdal_p dlC_M_init_3 (i := 3) rfl) ?_
  have hk_19 : (zsh (zmk_19 M) 81).1 = 11 + 3 := ha
  show zW l m_M_init X (zmk_19 M) 158 [some (.ref 81)] [] Q
  have a19 : zn (zmk_19 M) = zn (zmk_18 M) + 1 := (zn_sF (zal (zmk_18 M) 2 64) 81 36 _).trans (zn_al (zmk_18 M) 2 64)
  have b19 : zw (zmk_19 M) = zw (zmk_18 M) + 64 := (zw_sF (zal (zmk_18 M) 2 64) 81 36 _).trans (zw_al (zmk_18 M) 2 64)
  refine zw_aload_n (pc := 158) (n := 0) (x := 81) rfl (zdal_p dlC_M_init_3 (i := 4) rfl) ?_
  refine zw_bipush (pc := 159) (v := nI 64) (by decide) (zdal_p dlC_M_init_3 (i := 5) rfl) ?_
  have hz : zn (zmk_19 M) = 82 + 17 := by (exact zo_426 a19 hz)
  have hw : zw (zmk_19 M) = zw M + 10266 := by (exact zo_427 b19 hw)
  refine zw_newa (pc := 161) (t := 2) (N := 64) (Or.inr ⟨rfl, rfl⟩) (by decide) (by decide) (by decide) (by (exact zo_428 hz)) (by (exact zo_429 hX1 hz)) (by (exact zo_430 hX2 hw)) (zdal_p dlC_M_init_3 (i := 6) rfl) ?_
  have ha : (zsh (zal (zmk_19 M) 2 64) 81).1 = 11 + 3 := by rw [(zal_old (by (exact zo_431 hz))).1]; exact (hk_19)
  refine zw_putR (pc := 163) (x := zn (zmk_19 M)) (Or.inr ⟨g_M_69, rfl, rfl, rfl⟩) rfl ha (fun _ => rfl) (fun _ => rfl) (zdal_p dlC_M_init_3 (i := 7) rfl) ?_
  have hk_20 : (zsh (zmk_20 M) 81).1 = 11 + 3 := ha
  show zW l m_M_init X (zmk_20 M) 166 [some (.ref 81)] [] Q
  have a20 : zn (zmk_20 M) = zn (zmk_19 M) + 1 := (zn_sF (zal (zmk_19 M) 2 64) 81 37 _).trans (zn_al (zmk_19 M) 2 64)
  have b20 : zw (zmk_20 M) = zw (zmk_19 M) + 64 := (zw_sF (zal (zmk_19 M) 2 64) 81 37 _).trans (zw_al (zmk_19 M) 2 64)
  refine zw_aload_n (pc := 166) (n := 0) (x := 81) rfl (zdal_p dlC_M_init_3 (i := 8) rfl) ?_
  refine zw_bipush (pc := 167) (v := nI 80) (by decide) (zdal_p dlC_M_init_3 (i := 9) rfl) ?_
  have hz : zn (zmk_20 M) = 82 + 18 := by (exact zo_432 a20 hz)
  have hw : zw (zmk_20 M) = zw M + 10330 := by (exact zo_433 b20 hw)
  refine zw_newa (pc := 169) (t := 1) (N := 80) (Or.inl ⟨rfl, rfl⟩) (by decide) (by decide) (by decide) (by (exact zo_434 hz)) (by (exact zo_435 hX1 hz)) (by (exact zo_436 hX2 hw)) (zdal_p dlC_M_init_3 (i := 10) rfl) ?_
  have ha : (zsh (zal (zmk_20 M) 1 80) 81).1 = 11 + 3 := by rw [(zal_old (by (exact zo_437 hz))).1]; exact (hk_20)
  refine zw_putR (pc := 171) (x := zn (zmk_20 M)) (Or.inr ⟨g_M_72, rfl, rfl, rfl⟩) rfl ha (fun _ => rfl) (fun _ => rfl) (zdal_p dlC_M_init_3 (i := 11) rfl) ?_
  have hk_21 : (zsh (zmk_21 M) 81).1 = 11 + 3 := ha
  show zW l m_M_init X (zmk_21 M) 174 [some (.ref 81)] [] Q
  have a21 : zn (zmk_21 M) = zn (zmk_20 M) + 1 := (zn_sF (zal (zmk_20 M) 1 80) 81 40 _).trans (zn_al (zmk_20 M) 1 80)
  have b21 : zw (zmk_21 M) = zw (zmk_20 M) + 80 := (zw_sF (zal (zmk_20 M) 1 80) 81 40 _).trans (zw_al (zmk_20 M) 1 80)
  refine zw_aload_n (pc := 174) (n := 0) (x := 81) rfl (zdal_p dlC_M_init_3 (i := 12) rfl) ?_
  refine zw_bipush (pc := 175) (v := nI 8) (by decide) (zdal_p dlC_M_init_3 (i := 13) rfl) ?_
  have hz : zn (zmk_21 M) = 82 + 19 := by (exact zo_438 a21 hz)
  have hw : zw (zmk_21 M) = zw M + 10410 := by (exact zo_439 b21 hw)
  refine zw_newa (pc := 177) (t := 2) (N := 8) (Or.inr ⟨rfl, rfl⟩) (by decide) (by decide) (by decide) (by (exact zo_440 hz)) (by (exact zo_441 hX1 hz)) (by (exact zo_442 hX2 hw)) (zdal_p dlC_M_init_3 (i := 14) rfl) ?_
  have ha : (zsh (zal (zmk_21 M) 2 8) 81).1 = 11 + 3 := by rw [(zal_old (by (exact zo_443 hz))).1]; exact (hk_21)
  refine zw_putR (pc := 179) (x := zn (zmk_21 M)) (Or.inr ⟨g_M_75, rfl, rfl, rfl⟩) rfl ha (fun _ => rfl) (fun _ => rfl) (zdal_p dlC_M_init_3 (i := 15) rfl) ?_
  have hk_22 : (zsh (zmk_22 M) 81).1 = 11 + 3 := ha
  show zW l m_M_init X (zmk_22 M) 182 [some (.ref 81)] [] Q
  have a22 : zn (zmk_22 M) = zn (zmk_21 M) + 1 := (zn_sF (zal (zmk_21 M) 2 8) 81 44 _).trans (zn_al (zmk_21 M) 2 8)
  have b22 : zw (zmk_22 M) = zw (zmk_21 M) + 8 := (zw_sF (zal (zmk_21 M) 2 8) 81 44 _).trans (zw_al (zmk_21 M) 2 8)
  refine zw_aload_n (pc := 182) (n := 0) (x := 81) rfl (zdal_p dlC_M_init_3 (i := 16) rfl) ?_
  refine zw_sipush (pc := 183) (v := nI 512) (by decide) (zdal_p dlC_M_init_3 (i := 17) rfl) ?_
  have hz : zn (zmk_22 M) = 82 + 20 := by (exact zo_444 a22 hz)
  have hw : zw (zmk_22 M) = zw M + 10418 := by (exact zo_445 b22 hw)
  refine zw_newa (pc := 186) (t := 2) (N := 512) (Or.inr ⟨rfl, rfl⟩) (by decide) (by decide) (by decide) (by (exact zo_446 hz)) (by (exact zo_447 hX1 hz)) (by (exact zo_448 hX2 hw)) (zdal_p dlC_M_init_3 (i := 18) rfl) ?_
  have ha : (zsh (zal (zmk_22 M) 2 512) 81).1 = 11 + 3 := by rw [(zal_old (by (exact zo_449 hz))).1]; exact (hk_22)
  refine zw_putR (pc := 188) (x := zn (zmk_22 M)) (Or.inr ⟨g_M_78, rfl, rfl, rfl⟩) rfl ha (fun _ => rfl) (fun _ => rfl) (zdal_p dlC_M_init_3 (i := 19) rfl) ?_
  have hk_23 : (zsh (zmk_23 M) 81).1 = 11 + 3 := ha
  show zW l m_M_init X (zmk_23 M) 191 [some (.ref 81)] [] Q
  have a23 : zn (zmk_23 M) = zn (zmk_22 M) + 1 := (zn_sF (zal (zmk_22 M) 2 512) 81 45 _).trans (zn_al (zmk_22 M) 2 512)
  have b23 : zw (zmk_23 M) = zw (zmk_22 M) + 512 := (zw_sF (zal (zmk_22 M) 2 512) 81 45 _).trans (zw_al (zmk_22 M) 2 512)
  refine zw_aload_n (pc := 191) (n := 0) (x := 81) rfl (zdal_p dlC_M_init_3 (i := 20) rfl) ?_
  refine zw_bipush (pc := 192) (v := nI 8) (by decide) (zdal_p dlC_M_init_3 (i := 21) rfl) ?_
  have hz : zn (zmk_23 M) = 82 + 21 := by (exact zo_450 a23 hz)
  have hw : zw (zmk_23 M) = zw M + 10930 := by (exact zo_451 b23 hw)
  refine zw_newa (pc := 194) (t := 2) (N := 8) (Or.inr ⟨rfl, rfl⟩) (by decide) (by decide) (by decide) (by (exact zo_452 hz)) (by (exact zo_453 hX1 hz)) (by (exact zo_454 hX2 hw)) (zdal_p dlC_M_init_3 (i := 22) rfl) ?_
  have ha : (zsh (zal (zmk_23 M) 2 8) 81).1 = 11 + 3 := by rw [(zal_old (by (exact zo_455 hz))).1]; exact (hk_23)
  refine zw_putR (pc := 196) (x := zn (zmk_23 M)) (Or.inr ⟨g_M_81, rfl, rfl, rfl⟩) rfl ha (fun _ => rfl) (fun _ => rfl) (zdal_p dlC_M_init_3 (i := 23) rfl) ?_
  have hk_24 : (zsh (zmk_24 M) 81).1 = 11 + 3 := ha
  show zW l m_M_init X (zmk_24 M) 199 [some (.ref 81)] [] Q
  have a24 : zn (zmk_24 M) = zn (zmk_23 M) + 1 := (zn_sF (zal (zmk_23 M) 2 8) 81 46 _).trans (zn_al (zmk_23 M) 2 8)
  have b24 : zw (zmk_24 M) = zw (zmk_23 M) + 8 := (zw_sF (zal (zmk_23 M) 2 8) 81 46 _).trans (zw_al (zmk_23 M) 2 8)
  refine zw_aload_n (pc := 199) (n := 0) (x := 81) rfl (zdal_p dlC_M_init_4 (i := 0) rfl) ?_
  refine zw_sipush (pc := 200) (v := nI 512) (by decide) (zdal_p dlC_M_init_4 (i := 1) rfl) ?_
  have hz : zn (zmk_24 M) = 82 + 22 := by (exact zo_456 a24 hz)
  have hw : zw (zmk_24 M) = zw M + 10938 := by (exact zo_457 b24 hw)
  refine zw_newa (pc := 203) (t := 2) (N := 512) (Or.inr ⟨rfl, rfl⟩) (by decide) (by decide) (by decide) (by (exact zo_458 hz)) (by (exact zo_459 hX1 hz)) (by (exact zo_460 hX2 hw)) (zdal_p dlC_M_init_4 (i := 2) rfl) ?_
  have ha : (zsh (zal (zmk_24 M) 2 512) 81).1 = 11 + 3 := by rw [(zal_old (by (exact zo_461 hz))).1]; exact (hk_24)
  refine zw_putR (pc := 205) (x := zn (zmk_24 M)) (Or.inr ⟨g_M_84, rfl, rfl, rfl⟩) rfl ha (fun _ => rfl) (fun _ => rfl) (zdal_p dlC_M_init_4 (i := 3) rfl) ?_
  have hk_25 : (zsh (zmk_25 M) 81).1 = 11 + 3 := ha
  show zW l m_M_init X (zmk_25 M) 208 [some (.ref 81)] [] Q
  have a25 : zn (zmk_25 M) = zn (zmk_24 M) + 1 := (zn_sF (zal (zmk_24 M) 2 512) 81 47 _).trans (zn_al (zmk_24 M) 2 512)
  have b25 : zw (zmk_25 M) = zw (zmk_24 M) + 512 := (zw_sF (zal (zmk_24 M) 2 512) 81 47 _).trans (zw_al (zmk_24 M) 2 512)
  refine zw_aload_n (pc := 208) (n := 0) (x := 81) rfl (zdal_p dlC_M_init_4 (i := 4) rfl) ?_
  refine zw_bipush (pc := 209) (v := nI 64) (by decide) (zdal_p dlC_M_init_4 (i := 5) rfl) ?_
  have hz : zn (zmk_25 M) = 82 + 23 := by (exact zo_462 a25 hz)
  have hw : zw (zmk_25 M) = zw M + 11450 := by (exact zo_463 b25 hw)
  refine zw_newa (pc := 211) (t := 2) (N := 64) (Or.inr ⟨rfl, rfl⟩) (by decide) (by decide) (by decide) (by (exact zo_464 hz)) (by (exact zo_465 hX1 hz)) (by (exact zo_466 hX2 hw)) (zdal_p dlC_M_init_4 (i := 6) rfl) ?_
  have ha : (zsh (zal (zmk_25 M) 2 64) 81).1 = 11 + 3 := by rw [(zal_old (by (exact zo_467 hz))).1]; exact (hk_25)
  refine zw_putR (pc := 213) (x := zn (zmk_25 M)) (Or.inr ⟨g_M_87, rfl, rfl, rfl⟩) rfl ha (fun _ => rfl) (fun _ => rfl) (zdal_p dlC_M_init_4 (i := 7) rfl) ?_
  have hk_26 : (zsh (zmk_26 M) 81).1 = 11 + 3 := ha
  show zW l m_M_init X (zmk_26 M) 216 [some (.ref 81)] [] Q
  have a26 : zn (zmk_26 M) = zn (zmk_25 M) + 1 := (zn_sF (zal (zmk_25 M) 2 64) 81 48 _).trans (zn_al (zmk_25 M) 2 64)
  have b26 : zw (zmk_26 M) = zw (zmk_25 M) + 64 := (zw_sF (zal (zmk_25 M) 2 64) 81 48 _).trans (zw_al (zmk_25 M) 2 64)
  refine zw_aload_n (pc := 216) (n := 0) (x := 81) rfl (zdal_p dlC_M_init_4 (i := 8) rfl) ?_
  refine zw_sipush (pc := 217) (v := nI 128) (by decide) (zdal_p dlC_M_init_4 (i := 9) rfl) ?_
  have hz : zn (zmk_26 M) = 82 + 24 := by (exact zo_468 a26 hz)
  have hw : zw (zmk_26 M) = zw M + 11514 := by (exact zo_469 b26 hw)
  refine zw_newa (pc := 220) (t := 1) (N := 128) (Or.inl ⟨rfl, rfl⟩) (by decide) (by decide) (by decide) (by (exact zo_470 hz)) (by (exact zo_471 hX1 hz)) (by (exact zo_472 hX2 hw)) (zdal_p dlC_M_init_4 (i := 10) rfl) ?_
  have ha : (zsh (zal (zmk_26 M) 1 128) 81).1 = 11 + 3 := by rw [(zal_old (by (exact zo_473 hz))).1]; exact (hk_26)
  refine zw_putR (pc := 222) (x := zn (zmk_26 M)) (Or.inr ⟨g_M_90, rfl, rfl, rfl⟩) rfl ha (fun _ => rfl) (fun _ => rfl) (zdal_p dlC_M_init_4 (i := 11) rfl) ?_
  have hk_27 : (zsh (zmk_27 M) 81).1 = 11 + 3 := ha
  show zW l m_M_init X (zmk_27 M) 225 [some (.ref 81)] [] Q
  have a27 : zn (zmk_27 M) = zn (zmk_26 M) + 1 := (zn_sF (zal (zmk_26 M) 1 128) 81 49 _).trans (zn_al (zmk_26 M) 1 128)
  have b27 : zw (zmk_27 M) = zw (zmk_26 M) + 128 := (zw_sF (zal (zmk_26 M) 1 128) 81 49 _).trans (zw_al (zmk_26 M) 1 128)
  refine zw_aload_n (pc := 225) (n := 0) (x := 81) rfl (zdal_p dlC_M_init_4 (i := 12) rfl) ?_
  refine zw_bipush (pc := 226) (v := nI 64) (by decide) (zdal_p dlC_M_init_4 (i := 13) rfl) ?_
  have hz : zn (zmk_27 M) = 82 + 25 := by (exact zo_474 a27 hz)
  have hw : zw (zmk_27 M) = zw M + 11642 := by (exact zo_475 b27 hw)
  refine zw_newa (pc := 228) (t := 2) (N := 64) (Or.inr ⟨rfl, rfl⟩) (by decide) (by decide) (by decide) (by (exact zo_476 hz)) (by (exact zo_477 hX1 hz)) (by (exact zo_478 hX2 hw)) (zdal_p dlC_M_init_4 (i := 14) rfl) ?_
  have ha : (zsh (zal (zmk_27 M) 2 64) 81).1 = 11 + 3 := by rw [(zal_old (by (exact zo_479 hz))).1]; exact (hk_27)
  refine zw_putR (pc := 230) (x := zn (zmk_27 M)) (Or.inr ⟨g_M_93, rfl, rfl, rfl⟩) rfl ha (fun _ => rfl) (fun _ => rfl) (zdal_p dlC_M_init_4 (i := 15) rfl) ?_
  have hk_28 : (zsh (zmk_28 M) 81).1 = 11 + 3 := ha
  show zW l m_M_init X (zmk_28 M) 233 [some (.ref 81)] [] Q
  have a28 : zn (zmk_28 M) = zn (zmk_27 M) + 1 := (zn_sF (zal (zmk_27 M) 2 64) 81 50 _).trans (zn_al (zmk_27 M) 2 64)
  have b28 : zw (zmk_28 M) = zw (zmk_27 M) + 64 := (zw_sF (zal (zmk_27 M) 2 64) 81 50 _).trans (zw_al (zmk_27 M) 2 64)
  refine zw_aload_n (pc := 233) (n := 0) (x := 81) rfl (zdal_p dlC_M_init_4 (i := 16) rfl) ?_
  refine zw_bipush (pc := 234) (v := nI 64) (by decide) (zdal_p dlC_M_init_4 (i := 17) rfl) ?_
  have hz : zn (zmk_28 M) = 82 + 26 := by (exact zo_480 a28 hz)
  have hw : zw (zmk_28 M) = zw M + 11706 := by (exact zo_481 b28 hw)
  refine zw_newa (pc := 236) (t := 2) (N := 64) (Or.inr ⟨rfl, rfl⟩) (by decide) (by decide) (by decide) (by (exact zo_482 hz)) (by (exact zo_483 hX1 hz)) (by (exact zo_484 hX2 hw)) (zdal_p dlC_M_init_4 (i := 18) rfl) ?_
  have ha : (zsh (zal (zmk_28 M) 2 64) 81).1 = 11 + 3 := by rw [(zal_old (by (exact zo_485 hz))).1]; exact (hk_28)
  refine zw_putR (pc := 238) (x := zn (zmk_28 M)) (Or.inr ⟨g_M_96, rfl, rfl, rfl⟩) rfl ha (fun _ => rfl) (fun _ => rfl) (zdal_p dlC_M_init_4 (i := 19) rfl) ?_
  have hk_29 : (zsh (zmk_29 M) 81).1 = 11 + 3 := ha
  show zW l m_M_init X (zmk_29 M) 241 [some (.ref 81)] [] Q
  have a29 : zn (zmk_29 M) = zn (zmk_28 M) + 1 := (zn_sF (zal (zmk_28 M) 2 64) 81 51 _).trans (zn_al (zmk_28 M) 2 64)
  have b29 : zw (zmk_29 M) = zw (zmk_28 M) + 64 := (zw_sF (zal (zmk_28 M) 2 64) 81 51 _).trans (zw_al (zmk_28 M) 2 64)
  refine zw_aload_n (pc := 241) (n := 0) (x := 81) rfl (zdal_p dlC_M_init_4 (i := 20) rfl) ?_
  refine zw_bipush (pc := 242) (v := nI 24) (by decide) (zdal_p dlC_M_init_4 (i := 21) rfl) ?_
  have hz : zn (zmk_29 M) = 82 + 27 := by (exact zo_486 a29 hz)
  have hw : zw (zmk_29 M) = zw M + 11770 := by (exact zo_487 b29 hw)
  refine zw_newa (pc := 244) (t := 1) (N := 24) (Or.inl ⟨rfl, rfl⟩) (by decide) (by decide) (by decide) (by (exact zo_488 hz)) (by (exact zo_489 hX1 hz)) (by (exact zo_490 hX2 hw)) (zdal_p dlC_M_init_4 (i := 22) rfl) ?_
  have ha : (zsh (zal (zmk_29 M) 1 24) 81).1 = 11 + 3 := by rw [(zal_old (by (exact zo_491 hz))).1]; exact (hk_29)
  refine zw_putR (pc := 246) (x := zn (zmk_29 M)) (Or.inr ⟨g_M_99, rfl, rfl, rfl⟩) rfl ha (fun _ => rfl) (fun _ => rfl) (zdal_p dlC_M_init_4 (i := 23) rfl) ?_
  have hk_30 : (zsh (zmk_30 M) 81).1 = 11 + 3 := ha
  show zW l m_M_init X (zmk_30 M) 249 [some (.ref 81)] [] Q
  have a30 : zn (zmk_30 M) = zn (zmk_29 M) + 1 := (zn_sF (zal (zmk_29 M) 1 24) 81 54 _).trans (zn_al (zmk_29 M) 1 24)
  have b30 : zw (zmk_30 M) = zw (zmk_29 M) + 24 := (zw_sF (zal (zmk_29 M) 1 24) 81 54 _).trans (zw_al (zmk_29 M) 1 24)
  refine zw_aload_n (pc := 249) (n := 0) (x := 81) rfl (zdal_p dlC_M_init_5 (i := 0) rfl) ?_
  refine zw_ldc (pc := 250) (v := nI 65536) k_M_102 (zdal_p dlC_M_init_5 (i := 1) rfl) ?_
  have hz : zn (zmk_30 M) = 82 + 28 := by (exact zo_492 a30 hz)
  have hw : zw (zmk_30 M) = zw M + 11794 := by (exact zo_493 b30 hw)
  refine zw_newa (pc := 252) (t := 1) (N := 65536) (Or.inl ⟨rfl, rfl⟩) (by decide) (by decide) (by decide) (by (exact zo_494 hz)) (by (exact zo_495 hX1 hz)) (by (exact zo_496 hX2 hw)) (zdal_p dlC_M_init_5 (i := 2) rfl) ?_
  have ha : (zsh (zal (zmk_30 M) 1 65536) 81).1 = 11 + 3 := by rw [(zal_old (by (exact zo_497 hz))).1]; exact (hk_30)
  refine zw_putR (pc := 254) (x := zn (zmk_30 M)) (Or.inr ⟨g_M_103, rfl, rfl, rfl⟩) rfl ha (fun _ => rfl) (fun _ => rfl) (zdal_p dlC_M_init_5 (i := 3) rfl) ?_
  have hk_31 : (zsh (zmk_31 M) 81).1 = 11 + 3 := ha
  show zW l m_M_init X (zmk_31 M) 257 [some (.ref 81)] [] Q
  have a31 : zn (zmk_31 M) = zn (zmk_30 M) + 1 := (zn_sF (zal (zmk_30 M) 1 65536) 81 56 _).trans (zn_al (zmk_30 M) 1 65536)
  have b31 : zw (zmk_31 M) = zw (zmk_30 M) + 65536 := (zw_sF (zal (zmk_30 M) 1 65536) 81 56 _).trans (zw_al (zmk_30 M) 1 65536)
  refine zw_aload_n (pc := 257) (n := 0) (x := 81) rfl (zdal_p dlC_M_init_5 (i := 4) rfl) ?_
  refine zw_sipush (pc := 258) (v := nI 768) (by decide) (zdal_p dlC_M_init_5 (i := 5) rfl) ?_
  have hz : zn (zmk_31 M) = 82 + 29 := by (exact zo_498 a31 hz)
  have hw : zw (zmk_31 M) = zw M + 77330 := by (exact zo_499 b31 hw)
  refine zw_newa (pc := 261) (t := 2) (N := 768) (Or.inr ⟨rfl, rfl⟩) (by decide) (by decide) (by decide) (by (exact zo_500 hz)) (by (exact zo_501 hX1 hz)) (by (exact zo_502 hX2 hw)) (zdal_p dlC_M_init_5 (i := 6) rfl) ?_
  have ha : (zsh (zal (zmk_31 M) 2 768) 81).1 = 11 + 3 := by rw [(zal_old (by (exact zo_503 hz))).1]; exact (hk_31)
  refine zw_putR (pc := 263) (x := zn (zmk_31 M)) (Or.inr ⟨g_M_106, rfl, rfl, rfl⟩) rfl ha (fun _ => rfl) (fun _ => rfl) (zdal_p dlC_M_init_5 (i := 7) rfl) ?_
  have hk_32 : (zsh (zmk_32 M) 81).1 = 11 + 3 := ha
  show zW l m_M_init X (zmk_32 M) 266 [some (.ref 81)] [] Q
  have a32 : zn (zmk_32 M) = zn (zmk_31 M) + 1 := (zn_sF (zal (zmk_31 M) 2 768) 81 59 _).trans (zn_al (zmk_31 M) 2 768)
  have b32 : zw (zmk_32 M) = zw (zmk_31 M) + 768 := (zw_sF (zal (zmk_31 M) 2 768) 81 59 _).trans (zw_al (zmk_31 M) 2 768)
  refine zw_aload_n (pc := 266) (n := 0) (x := 81) rfl (zdal_p dlC_M_init_5 (i := 8) rfl) ?_
  refine zw_bipush (pc := 267) (v := nI 6) (by decide) (zdal_p dlC_M_init_5 (i := 9) rfl) ?_
  have hz : zn (zmk_32 M) = 82 + 30 := by (exact zo_504 a32 hz)
  have hw : zw (zmk_32 M) = zw M + 78098 := by (exact zo_505 b32 hw)
  refine zw_newa (pc := 269) (t := 1) (N := 6) (Or.inl ⟨rfl, rfl⟩) (by decide) (by decide) (by decide) (by (exact zo_506 hz)) (by (exact zo_507 hX1 hz)) (by (exact zo_508 hX2 hw)) (zdal_p dlC_M_init_5 (i := 10) rfl) ?_
  have ha : (zsh (zal (zmk_32 M) 1 6) 81).1 = 11 + 3 := by rw [(zal_old (by (exact zo_509 hz))).1]; exact (hk_32)
  refine zw_putR (pc := 271) (x := zn (zmk_32 M)) (Or.inr ⟨g_M_109, rfl, rfl, rfl⟩) rfl ha (fun _ => rfl) (fun _ => rfl) (zdal_p dlC_M_init_5 (i := 11) rfl) ?_
  have hk_33 : (zsh (zmk_33 M) 81).1 = 11 + 3 := ha
  show zW l m_M_init X (zmk_33 M) 274 [some (.ref 81)] [] Q
  have a33 : zn (zmk_33 M) = zn (zmk_32 M) + 1 := (zn_sF (zal (zmk_32 M) 1 6) 81 61 _).trans (zn_al (zmk_32 M) 1 6)
  have b33 : zw (zmk_33 M) = zw (zmk_32 M) + 6 := (zw_sF (zal (zmk_32 M) 1 6) 81 61 _).trans (zw_al (zmk_32 M) 1 6)
  refine zw_aload_n (pc := 274) (n := 0) (x := 81) rfl (zdal_p dlC_M_init_5 (i := 12) rfl) ?_
  refine zw_bipush (pc := 275) (v := nI 7) (by decide) (zdal_p dlC_M_init_5 (i := 13) rfl) ?_
  have hz : zn (zmk_33 M) = 82 + 31 := by (exact zo_510 a33 hz)
  have hw : zw (zmk_33 M) = zw M + 78104 := by (exact zo_511 b33 hw)
  refine zw_newa (pc := 277) (t := 1) (N := 7) (Or.inl ⟨rfl, rfl⟩) (by decide) (by decide) (by decide) (by (exact zo_512 hz)) (by (exact zo_513 hX1 hz)) (by (exact zo_514 hX2 hw)) (zdal_p dlC_M_init_5 (i := 14) rfl) ?_
  have ha : (zsh (zal (zmk_33 M) 1 7) 81).1 = 11 + 3 := by rw [(zal_old (by (exact zo_515 hz))).1]; exact (hk_33)
  refine zw_putR (pc := 279) (x := zn (zmk_33 M)) (Or.inr ⟨g_M_112, rfl, rfl, rfl⟩) rfl ha (fun _ => rfl) (fun _ => rfl) (zdal_p dlC_M_init_5 (i := 15) rfl) ?_
  have hk_34 : (zsh (zmk_34 M) 81).1 = 11 + 3 := ha
  show zW l m_M_init X (zmk_34 M) 282 [some (.ref 81)] [] Q
  have a34 : zn (zmk_34 M) = zn (zmk_33 M) + 1 := (zn_sF (zal (zmk_33 M) 1 7) 81 62 _).trans (zn_al (zmk_33 M) 1 7)
  have b34 : zw (zmk_34 M) = zw (zmk_33 M) + 7 := (zw_sF (zal (zmk_33 M) 1 7) 81 62 _).trans (zw_al (zmk_33 M) 1 7)
  refine zw_aload_n (pc := 282) (n := 0) (x := 81) rfl (zdal_p dlC_M_init_5 (i := 16) rfl) ?_
  refine zw_iconst (pc := 283) (v := 1) (by decide) (zdal_p dlC_M_init_5 (i := 17) rfl) ?_
  refine zw_putI (pc := 284) f_M_115 rfl rfl (hk_34) rfl rfl (zdal_p dlC_M_init_5 (i := 18) rfl) ?_
  have hk_35 : (zsh (zmk_35 M) 81).1 = 11 + 3 := (hk_34)
  show zW l m_M_init X (zmk_35 M) 287 [some (.ref 81)] [] Q
  have a35 : zn (zmk_35 M) = zn (zmk_34 M) := rfl
  have b35 : zw (zmk_35 M) = zw (zmk_34 M) := rfl
  exact kk
