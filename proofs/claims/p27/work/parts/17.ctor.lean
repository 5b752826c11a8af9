def zExt (M M' : zMem) (c s q : Nat) : Prop := zn M' = zn M + c ∧ zw M' = zw M + s ∧ (∀ r, r < zn M → zsh M' r = zsh M r) ∧ ∀ r, r < zn M → r ≠ q → zf M' r = zf M r
theorem zExt.rf {M : zMem} {q : Nat} : zExt M M 0 0 q := ⟨rfl, rfl, fun _ _ => rfl, fun _ _ _ => rfl⟩
theorem zal_old {M : zMem} {t n r : Nat} (h : r < zn M) : zsh (zal M t n) r = zsh M r ∧ zf (zal M t n) r = zf M r := by
  have hne : ¬ r = M.1.1 := by
    have : zn M = M.1.1 := rfl
    omega
  simp [zsh, zf, zal, hne]
theorem zExt.al {M M1 : zMem} {c s q t n : Nat} (h : zExt M M1 c s q) : zExt M (zal M1 t n) (c + 1) (s + n) q := by
  obtain ⟨a1, a2, a3, a4⟩ := h
  refine ⟨by show zn M1 + 1 = _; omega, by show zw M1 + n = _; omega, fun r hr => ?_, fun r hr hq => ?_⟩
  · rw [(zal_old (by omega)).1]; exact a3 r hr
  · rw [(zal_old (by omega)).2]; exact a4 r hr hq
theorem zExt.put {M M1 : zMem} {c s q j : Nat} {v : Option Nat} (h : zExt M M1 c s q) : zExt M (zsF M1 q j v) c s q := by
  obtain ⟨a1, a2, a3, a4⟩ := h
  refine ⟨a1, a2, a3, fun r hr hq => ?_⟩
  show zup2 (zf M1) q j v r = _
  rw [zup2_q hq]
  exact a4 r hr hq
theorem zExt.putI {M M1 : zMem} {c s q j : Nat} {v : Int32} (h : zExt M M1 c s q) : zExt M (zsI M1 q j v) c s q := h
theorem zExt.call {M M1 M2 : zMem} {c s q c' s' a : Nat} (h : zExt M M1 c s q) (g : zExt M1 M2 c' s' a) (ha : zn M ≤ a) : zExt M M2 (c + c') (s + s') q := by
  obtain ⟨a1, a2, a3, a4⟩ := h
  obtain ⟨b1, b2, b3, b4⟩ := g
  refine ⟨by omega, by omega, fun r hr => ?_, fun r hr hq => ?_⟩
  · rw [b3 r (by omega)]; exact a3 r hr
  · rw [b4 r (by omega) (by omega)]; exact a4 r hr hq
theorem zExt.q {M M' : zMem} {c s q t : Nat} (h : zExt M M' c s q) {r : Nat} (hr : r < zn M) (hk : (zsh M r).1 = t) : (zsh M' r).1 = t := by rw [h.2.2.1 r hr]; exact hk
def zk_IntRow_1 (M : zMem) (q : Nat) (x0 : Nat) : zMem := zal (M) 1 x0
def zk_IntRow_2 (M : zMem) (q : Nat) (x0 : Nat) : zMem := zsF (zk_IntRow_1 M q x0) q 0 (some (zn (M)))
def zk_IntRow (M : zMem) (q : Nat) (x0 : Nat) : zMem := zk_IntRow_2 M q x0
set_option maxRecDepth 20000 in
theorem ext_IntRow (M : zMem) (q : Nat) (x0 : Nat) : zExt M (zk_IntRow M q x0) 1 (0 + x0) q := by
  have he0 : zExt M M 0 0 q := zExt.rf
  have he1 : zExt M (zk_IntRow_1 M q x0) 1 (0 + x0) q := he0.al
  have he2 : zExt M (zk_IntRow_2 M q x0) 1 (0 + x0) q := he1.put
  exact he2
set_option maxRecDepth 20000 in
set_option maxHeartbeats 4000000 in
theorem k_IntRow (l : Launch) (M : zMem) (q : Nat) (hq : q < zn M) (hqk : (zsh M q).1 = 2 + 3) (x0 : Nat) (hx : x0 ≤ 65536) (hm : zn M + 1 < 1000000) : zC l m_IntRow_init 1 (0 + x0) [.ref q, .int (nI x0)] M (fun r M' => r = none ∧ M' = zk_IntRow M q x0) := by
  have hex := ext_IntRow M q x0
  refine zC_of (L0 := [some (.ref q), some (.int (nI x0))]) md_IntRow_init (Nat.le_of_ble_eq_true rfl) rfl ?_ (fun r M' h _ => by obtain ⟨-, rfl⟩ := h; exact ⟨hex.1, hex.2.1⟩)
  have he0 : zExt M M 0 0 q := zExt.rf
  refine zw_aload_n (pc := 0) (n := 0) (x := q) rfl (zdal_p dlA_IntRow_init_3 (i := 0) rfl) ?_
  refine zw_objInit (pc := 1) o_IntRow_1 o_in o_co (by decide) (Nat.le_of_ble_eq_true rfl) (zdal_p dlA_IntRow_init_3 (i := 1) rfl) ?_
  refine zw_aload_n (pc := 4) (n := 0) (x := q) rfl (zdal_p dlA_IntRow_init_3 (i := 2) rfl) ?_
  refine zw_iload_n (pc := 5) (n := 1) (x := nI x0) rfl (zdal_p dlA_IntRow_init_3 (i := 3) rfl) ?_
  refine zw_iconst (pc := 6) (v := 0) (by decide) (zdal_p dlA_IntRow_init_3 (i := 4) rfl) ?_
  refine zw_mmax (pc := 7) x_IntRow_7 (by decide) (Nat.le_of_ble_eq_true rfl) (zdal_p dlA_IntRow_init_3 (i := 5) rfl) (fun v hv => ?_)
  have hv2 : v = nI x0 := by
    rw [hv, if_neg (nI_pos (by omega))]
  subst hv2
  refine zw_newa (pc := 10) (t := 1) (N := x0) (Or.inl ⟨rfl, rfl⟩) (nI_pos (by omega)) (nI_clamp (by omega)) hx (by have := he0.1; omega) (by have := he0.1; show _ ≤ zn M + 1; omega) (by have := he0.2.1; show _ + x0 ≤ zw M + (0 + x0); omega) (zdal_p dlA_IntRow_init_3 (i := 6) rfl) ?_
  have he1 : zExt M (zk_IntRow_1 M q x0) 1 (0 + x0) q := he0.al
  show zW l m_IntRow_init (zn M + 1, zw M + (0 + x0)) (zk_IntRow_1 M q x0) 12 [some (.ref q), some (.int (nI x0))] [.ref (zn (M)), .ref q] _
  refine zw_putR (pc := 12) (x := zn (M)) (Or.inr ⟨g_IntRow_13, rfl, rfl, rfl⟩) rfl (he1.q hq hqk) (fun _ => rfl) (fun _ => rfl) (zdal_p dlA_IntRow_init_3 (i := 7) rfl) ?_
  have he2 : zExt M (zk_IntRow_2 M q x0) 1 (0 + x0) q := he1.put
  show zW l m_IntRow_init (zn M + 1, zw M + (0 + x0)) (zk_IntRow_2 M q x0) 15 [some (.ref q), some (.int (nI x0))] [] _
  have kn2 : zf (zk_IntRow_2 M q x0) q 0 = some (zn (M)) := zup2_s
  exact zw_vret (S := []) (pc := 15) rfl (zdal_p dlA_IntRow_init_3 (i := 8) rfl) ⟨rfl, rfl⟩
def zk_LongRow_1 (M : zMem) (q : Nat) (x0 : Nat) : zMem := zal (M) 2 x0
def zk_LongRow_2 (M : zMem) (q : Nat) (x0 : Nat) : zMem := zsF (zk_LongRow_1 M q x0) q 0 (some (zn (M)))
def zk_LongRow (M : zMem) (q : Nat) (x0 : Nat) : zMem := zk_LongRow_2 M q x0
set_option maxRecDepth 20000 in
theorem ext_LongRow (M : zMem) (q : Nat) (x0 : Nat) : zExt M (zk_LongRow M q x0) 1 (0 + x0) q := by
  have he0 : zExt M M 0 0 q := zExt.rf
  have he1 : zExt M (zk_LongRow_1 M q x0) 1 (0 + x0) q := he0.al
  have he2 : zExt M (zk_LongRow_2 M q x0) 1 (0 + x0) q := he1.put
  exact he2
set_option maxRecDepth 20000 in
set_option maxHeartbeats 4000000 in
theorem k_LongRow (l : Launch) (M : zMem) (q : Nat) (hq : q < zn M) (hqk : (zsh M q).1 = 8 + 3) (x0 : Nat) (hx : x0 ≤ 65536) (hm : zn M + 1 < 1000000) : zC l m_LongRow_init 1 (0 + x0) [.ref q, .int (nI x0)] M (fun r M' => r = none ∧ M' = zk_LongRow M q x0) := by
  have hex := ext_LongRow M q x0
  refine zC_of (L0 := [some (.ref q), some (.int (nI x0))]) md_LongRow_init (Nat.le_of_ble_eq_true rfl) rfl ?_ (fun r M' h _ => by obtain ⟨-, rfl⟩ := h; exact ⟨hex.1, hex.2.1⟩)
  have he0 : zExt M M 0 0 q := zExt.rf
  refine zw_aload_n (pc := 0) (n := 0) (x := q) rfl (zdal_p dlA_LongRow_init_12 (i := 0) rfl) ?_
  refine zw_objInit (pc := 1) o_LongRow_1 o_in o_co (by decide) (Nat.le_of_ble_eq_true rfl) (zdal_p dlA_LongRow_init_12 (i := 1) rfl) ?_
  refine zw_aload_n (pc := 4) (n := 0) (x := q) rfl (zdal_p dlA_LongRow_init_12 (i := 2) rfl) ?_
  refine zw_iload_n (pc := 5) (n := 1) (x := nI x0) rfl (zdal_p dlA_LongRow_init_12 (i := 3) rfl) ?_
  refine zw_iconst (pc := 6) (v := 0) (by decide) (zdal_p dlA_LongRow_init_12 (i := 4) rfl) ?_
  refine zw_mmax (pc := 7) x_LongRow_7 (by decide) (Nat.le_of_ble_eq_true rfl) (zdal_p dlA_LongRow_init_12 (i := 5) rfl) (fun v hv => ?_)
  have hv2 : v = nI x0 := by
    rw [hv, if_neg (nI_pos (by omega))]
  subst hv2
  refine zw_newa (pc := 10) (t := 2) (N := x0) (Or.inr ⟨rfl, rfl⟩) (nI_pos (by omega)) (nI_clamp (by omega)) hx (by have := he0.1; omega) (by have := he0.1; show _ ≤ zn M + 1; omega) (by have := he0.2.1; show _ + x0 ≤ zw M + (0 + x0); omega) (zdal_p dlA_LongRow_init_12 (i := 6) rfl) ?_
  have he1 : zExt M (zk_LongRow_1 M q x0) 1 (0 + x0) q := he0.al
  show zW l m_LongRow_init (zn M + 1, zw M + (0 + x0)) (zk_LongRow_1 M q x0) 12 [some (.ref q), some (.int (nI x0))] [.ref (zn (M)), .ref q] _
  refine zw_putR (pc := 12) (x := zn (M)) (Or.inr ⟨g_LongRow_13, rfl, rfl, rfl⟩) rfl (he1.q hq hqk) (fun _ => rfl) (fun _ => rfl) (zdal_p dlA_LongRow_init_12 (i := 7) rfl) ?_
  have he2 : zExt M (zk_LongRow_2 M q x0) 1 (0 + x0) q := he1.put
  show zW l m_LongRow_init (zn M + 1, zw M + (0 + x0)) (zk_LongRow_2 M q x0) 15 [some (.ref q), some (.int (nI x0))] [] _
  have kn2 : zf (zk_LongRow_2 M q x0) q 0 = some (zn (M)) := zup2_s
  exact zw_vret (S := []) (pc := 15) rfl (zdal_p dlA_LongRow_init_12 (i := 8) rfl) ⟨rfl, rfl⟩
def zk_Tokens_1 (M : zMem) (q : Nat)  : zMem := zal (M) 5 1
def zk_Tokens_2 (M : zMem) (q : Nat)  : zMem := zk_IntRow (zk_Tokens_1 M q ) (zn (M)) 700
def zk_Tokens_3 (M : zMem) (q : Nat)  : zMem := zsF (zk_Tokens_2 M q ) q 0 (some (zn (M)))
def zk_Tokens (M : zMem) (q : Nat)  : zMem := zk_Tokens_3 M q 
set_option maxRecDepth 20000 in
theorem ext_Tokens (M : zMem) (q : Nat)  : zExt M (zk_Tokens M q ) 2 (0 + 1 + (0 + 700)) q := by
  have he0 : zExt M M 0 0 q := zExt.rf
  have he1 : zExt M (zk_Tokens_1 M q ) 1 (0 + 1) q := he0.al
  have he2 : zExt M (zk_Tokens_2 M q ) 2 (0 + 1 + (0 + 700)) q := he1.call (ext_IntRow (zk_Tokens_1 M q ) (zn (M)) 700) (by have := he0.1; omega)
  have he3 : zExt M (zk_Tokens_3 M q ) 2 (0 + 1 + (0 + 700)) q := he2.put
  exact he3
set_option maxRecDepth 20000 in
set_option maxHeartbeats 4000000 in
theorem k_Tokens (l : Launch) (M : zMem) (q : Nat) (hq : q < zn M) (hqk : (zsh M q).1 = 1 + 3)  (hm : zn M + 2 < 1000000) : zC l m_Tokens_init 2 (0 + 1 + (0 + 700)) [.ref q] M (fun r M' => r = none ∧ M' = zk_Tokens M q ) := by
  have hex := ext_Tokens M q 
  refine zC_of (L0 := [some (.ref q)]) md_Tokens_init (Nat.le_of_ble_eq_true rfl) rfl ?_ (fun r M' h _ => by obtain ⟨-, rfl⟩ := h; exact ⟨hex.1, hex.2.1⟩)
  have he0 : zExt M M 0 0 q := zExt.rf
  refine zw_aload_n (pc := 0) (n := 0) (x := q) rfl (zdal_p dlA_Tokens_init_2 (i := 0) rfl) ?_
  refine zw_objInit (pc := 1) o_Tokens_3 o_in o_co (by decide) (Nat.le_of_ble_eq_true rfl) (zdal_p dlA_Tokens_init_2 (i := 1) rfl) ?_
  refine zw_aload_n (pc := 4) (n := 0) (x := q) rfl (zdal_p dlA_Tokens_init_2 (i := 2) rfl) ?_
  refine zw_new (pc := 5) (ci := 2) (by decide) n_Tokens_9 (by have := he0.1; omega) (by have := he0.1; show _ ≤ zn M + 2; omega) (by have := he0.2.1; show _ + 1 ≤ zw M + (0 + 1 + (0 + 700)); omega) (by decide) (zdal_p dlA_Tokens_init_2 (i := 3) rfl) ?_
  have he1 : zExt M (zk_Tokens_1 M q ) 1 (0 + 1) q := he0.al
  show zW l m_Tokens_init (zn M + 2, zw M + (0 + 1 + (0 + 700))) (zk_Tokens_1 M q ) 8 [some (.ref q)] [.ref (zn (M)), .ref q] _
  refine zw_dup (pc := 8) rfl (zdal_p dlA_Tokens_init_2 (i := 4) rfl) ?_
  refine zw_sipush (pc := 9) (v := nI 700) (by decide) (zdal_p dlA_Tokens_init_2 (i := 5) rfl) ?_
  refine zw_callI (pc := 12) (mc := 1) (ms := (0 + 700)) (b := zn (M)) [.int (nI 700)] [.ref (zn (M)), .ref q] l_Tokens_11 (k_IntRow l (zk_Tokens_1 M q ) (zn (M)) (by have := he1.1; show zn (M) < zn (M) + 1; omega) (congrArg Prod.fst (zal_sh (M := M) (t := 5) (n := 1))) 700 (by decide) (by have := he1.1; omega)) rfl rfl (by decide) ⟨by have := he1.1; show _ ≤ zn M + 2; omega, by have := he1.2.1; show _ ≤ zw M + (0 + 1 + (0 + 700)); omega⟩ (Nat.le_of_ble_eq_true rfl) (zdal_p dlA_Tokens_init_2 (i := 6) rfl) (fun r M9 h9 _ _ => ?_)
  obtain ⟨rfl, rfl⟩ := h9
  have he2 : zExt M (zk_Tokens_2 M q ) 2 (0 + 1 + (0 + 700)) q := he1.call (ext_IntRow (zk_Tokens_1 M q ) (zn (M)) 700) (by have := he0.1; omega)
  show zW l m_Tokens_init (zn M + 2, zw M + (0 + 1 + (0 + 700))) (zk_Tokens_2 M q ) 15 [some (.ref q)] [.ref (zn (M)), .ref q] _
  refine zw_putR (pc := 15) (x := zn (M)) (Or.inr ⟨g_Tokens_14, rfl, rfl, rfl⟩) rfl (he2.q hq hqk) (fun _ => rfl) (fun _ => rfl) (zdal_p dlA_Tokens_init_2 (i := 7) rfl) ?_
  have he3 : zExt M (zk_Tokens_3 M q ) 2 (0 + 1 + (0 + 700)) q := he2.put
  show zW l m_Tokens_init (zn M + 2, zw M + (0 + 1 + (0 + 700))) (zk_Tokens_3 M q ) 18 [some (.ref q)] [] _
  have kn3 : zf (zk_Tokens_3 M q ) q 0 = some (zn (M)) := zup2_s
  exact zw_vret (S := []) (pc := 18) rfl (zdal_p dlA_Tokens_init_2 (i := 8) rfl) ⟨rfl, rfl⟩
def zk_Reader_1 (M : zMem) (q : Nat) (a0 : Nat) : zMem := zsI (M) q 3 (-1)
def zk_Reader_2 (M : zMem) (q : Nat) (a0 : Nat) : zMem := zsF (zk_Reader_1 M q a0) q 0 (some (a0))
def zk_Reader (M : zMem) (q : Nat) (a0 : Nat) : zMem := zk_Reader_2 M q a0
set_option maxRecDepth 20000 in
theorem ext_Reader (M : zMem) (q : Nat) (a0 : Nat) : zExt M (zk_Reader M q a0) 0 (0) q := by
  have he0 : zExt M M 0 0 q := zExt.rf
  have he1 : zExt M (zk_Reader_1 M q a0) 0 (0) q := he0.putI
  have he2 : zExt M (zk_Reader_2 M q a0) 0 (0) q := he1.put
  exact he2
set_option maxRecDepth 20000 in
set_option maxHeartbeats 4000000 in
theorem k_Reader (l : Launch) (M : zMem) (q : Nat) (hq : q < zn M) (hqk : (zsh M q).1 = 3 + 3) (a0 : Nat) (hm : zn M + 0 < 1000000) : zC l m_Reader_init 0 (0) [.ref q, .ref a0] M (fun r M' => r = none ∧ M' = zk_Reader M q a0) := by
  have hex := ext_Reader M q a0
  refine zC_of (L0 := [some (.ref q), some (.ref a0)]) md_Reader_init (Nat.le_of_ble_eq_true rfl) rfl ?_ (fun r M' h _ => by obtain ⟨-, rfl⟩ := h; exact ⟨hex.1, hex.2.1⟩)
  have he0 : zExt M M 0 0 q := zExt.rf
  refine zw_aload_n (pc := 0) (n := 0) (x := q) rfl (zdal_p dlA_Reader_init_4 (i := 0) rfl) ?_
  refine zw_objInit (pc := 1) o_Reader_3 o_in o_co (by decide) (Nat.le_of_ble_eq_true rfl) (zdal_p dlA_Reader_init_4 (i := 1) rfl) ?_
  refine zw_aload_n (pc := 4) (n := 0) (x := q) rfl (zdal_p dlA_Reader_init_4 (i := 2) rfl) ?_
  refine zw_iconst (pc := 5) (v := (-1)) (by decide) (zdal_p dlA_Reader_init_4 (i := 3) rfl) ?_
  refine zw_putI (pc := 6) f_Reader_9 rfl rfl (he0.q hq hqk) rfl rfl (zdal_p dlA_Reader_init_4 (i := 4) rfl) ?_
  have he1 : zExt M (zk_Reader_1 M q a0) 0 (0) q := he0.putI
  show zW l m_Reader_init (zn M + 0, zw M + (0)) (zk_Reader_1 M q a0) 9 [some (.ref q), some (.ref a0)] [] _
  refine zw_aload_n (pc := 9) (n := 0) (x := q) rfl (zdal_p dlA_Reader_init_4 (i := 5) rfl) ?_
  refine zw_aload_n (pc := 10) (n := 1) (x := a0) rfl (zdal_p dlA_Reader_init_4 (i := 6) rfl) ?_
  refine zw_putR (pc := 11) (x := a0) (Or.inr ⟨g_Reader_15, rfl, rfl, rfl⟩) rfl (he1.q hq hqk) (fun _ => rfl) (fun _ => rfl) (zdal_p dlA_Reader_init_4 (i := 7) rfl) ?_
  have he2 : zExt M (zk_Reader_2 M q a0) 0 (0) q := he1.put
  show zW l m_Reader_init (zn M + 0, zw M + (0)) (zk_Reader_2 M q a0) 14 [some (.ref q), some (.ref a0)] [] _
  have kn2 : zf (zk_Reader_2 M q a0) q 0 = some (a0) := zup2_s
  exact zw_vret (S := []) (pc := 14) rfl (zdal_p dlA_Reader_init_4 (i := 8) rfl) ⟨rfl, rfl⟩
def zk_Group_1 (M : zMem) (q : Nat)  : zMem := zal (M) 5 1
def zk_Group_2 (M : zMem) (q : Nat)  : zMem := zk_IntRow (zk_Group_1 M q ) (zn (M)) 4
def zk_Group_3 (M : zMem) (q : Nat)  : zMem := zsF (zk_Group_2 M q ) q 0 (some (zn (M)))
def zk_Group_4 (M : zMem) (q : Nat)  : zMem := zal (zk_Group_3 M q ) 5 1
def zk_Group_5 (M : zMem) (q : Nat)  : zMem := zk_IntRow (zk_Group_4 M q ) (zn (zk_Group_3 M q )) 24
def zk_Group_6 (M : zMem) (q : Nat)  : zMem := zsF (zk_Group_5 M q ) q 1 (some (zn (zk_Group_3 M q )))
def zk_Group_7 (M : zMem) (q : Nat)  : zMem := zal (zk_Group_6 M q ) 5 1
def zk_Group_8 (M : zMem) (q : Nat)  : zMem := zk_IntRow (zk_Group_7 M q ) (zn (zk_Group_6 M q )) 576
def zk_Group_9 (M : zMem) (q : Nat)  : zMem := zsF (zk_Group_8 M q ) q 2 (some (zn (zk_Group_6 M q )))
def zk_Group_10 (M : zMem) (q : Nat)  : zMem := zal (zk_Group_9 M q ) 5 1
def zk_Group_11 (M : zMem) (q : Nat)  : zMem := zk_IntRow (zk_Group_10 M q ) (zn (zk_Group_9 M q )) 24
def zk_Group_12 (M : zMem) (q : Nat)  : zMem := zsF (zk_Group_11 M q ) q 3 (some (zn (zk_Group_9 M q )))
def zk_Group_13 (M : zMem) (q : Nat)  : zMem := zal (zk_Group_12 M q ) 5 1
def zk_Group_14 (M : zMem) (q : Nat)  : zMem := zk_IntRow (zk_Group_13 M q ) (zn (zk_Group_12 M q )) 24
def zk_Group_15 (M : zMem) (q : Nat)  : zMem := zsF (zk_Group_14 M q ) q 4 (some (zn (zk_Group_12 M q )))
def zk_Group (M : zMem) (q : Nat)  : zMem := zk_Group_15 M q 
set_option maxRecDepth 20000 in
theorem ext_Group (M : zMem) (q : Nat)  : zExt M (zk_Group M q ) 10 (0 + 1 + (0 + 4) + 1 + (0 + 24) + 1 + (0 + 576) + 1 + (0 + 24) + 1 + (0 + 24)) q := by
  have he0 : zExt M M 0 0 q := zExt.rf
  have he1 : zExt M (zk_Group_1 M q ) 1 (0 + 1) q := he0.al
  have he2 : zExt M (zk_Group_2 M q ) 2 (0 + 1 + (0 + 4)) q := he1.call (ext_IntRow (zk_Group_1 M q ) (zn (M)) 4) (by have := he0.1; omega)
  have he3 : zExt M (zk_Group_3 M q ) 2 (0 + 1 + (0 + 4)) q := he2.put
  have he4 : zExt M (zk_Group_4 M q ) 3 (0 + 1 + (0 + 4) + 1) q := he3.al
  have he5 : zExt M (zk_Group_5 M q ) 4 (0 + 1 + (0 + 4) + 1 + (0 + 24)) q := he4.call (ext_IntRow (zk_Group_4 M q ) (zn (zk_Group_3 M q )) 24) (by have := he3.1; omega)
  have he6 : zExt M (zk_Group_6 M q ) 4 (0 + 1 + (0 + 4) + 1 + (0 + 24)) q := he5.put
  have he7 : zExt M (zk_Group_7 M q ) 5 (0 + 1 + (0 + 4) + 1 + (0 + 24) + 1) q := he6.al
  have he8 : zExt M (zk_Group_8 M q ) 6 (0 + 1 + (0 + 4) + 1 + (0 + 24) + 1 + (0 + 576)) q := he7.call (ext_IntRow (zk_Group_7 M q ) (zn (zk_Group_6 M q )) 576) (by have := he6.1; omega)
  have he9 : zExt M (zk_Group_9 M q ) 6 (0 + 1 + (0 + 4) + 1 + (0 + 24) + 1 + (0 + 576)) q := he8.put
  have he10 : zExt M (zk_Group_10 M q ) 7 (0 + 1 + (0 + 4) + 1 + (0 + 24) + 1 + (0 + 576) + 1) q := he9.al
  have he11 : zExt M (zk_Group_11 M q ) 8 (0 + 1 + (0 + 4) + 1 + (0 + 24) + 1 + (0 + 576) + 1 + (0 + 24)) q := he10.call (ext_IntRow (zk_Group_10 M q ) (zn (zk_Group_9 M q )) 24) (by have := he9.1; omega)
  have he12 : zExt M (zk_Group_12 M q ) 8 (0 + 1 + (0 + 4) + 1 + (0 + 24) + 1 + (0 + 576) + 1 + (0 + 24)) q := he11.put
  have he13 : zExt M (zk_Group_13 M q ) 9 (0 + 1 + (0 + 4) + 1 + (0 + 24) + 1 + (0 + 576) + 1 + (0 + 24) + 1) q := he12.al
  have he14 : zExt M (zk_Group_14 M q ) 10 (0 + 1 + (0 + 4) + 1 + (0 + 24) + 1 + (0 + 576) + 1 + (0 + 24) + 1 + (0 + 24)) q := he13.call (ext_IntRow (zk_Group_13 M q ) (zn (zk_Group_12 M q )) 24) (by have := he12.1; omega)
  have he15 : zExt M (zk_Group_15 M q ) 10 (0 + 1 + (0 + 4) + 1 + (0 + 24) + 1 + (0 + 576) + 1 + (0 + 24) + 1 + (0 + 24)) q := he14.put
  exact he15
set_option maxRecDepth 20000 in
set_option maxHeartbeats 4000000 in
theorem k_Group (l : Launch) (M : zMem) (q : Nat) (hq : q < zn M) (hqk : (zsh M q).1 = 5 + 3)  (hm : zn M + 10 < 1000000) : zC l m_Group_init 10 (0 + 1 + (0 + 4) + 1 + (0 + 24) + 1 + (0 + 576) + 1 + (0 + 24) + 1 + (0 + 24)) [.ref q] M (fun r M' => r = none ∧ M' = zk_Group M q ) := by
  have hex := ext_Group M q 
  refine zC_of (L0 := [some (.ref q)]) md_Group_init (Nat.le_of_ble_eq_true rfl) rfl ?_ (fun r M' h _ => by obtain ⟨-, rfl⟩ := h; exact ⟨hex.1, hex.2.1⟩)
  have he0 : zExt M M 0 0 q := zExt.rf
  refine zw_aload_n (pc := 0) (n := 0) (x := q) rfl (zdal_p dlA_Group_init_7 (i := 0) rfl) ?_
  refine zw_objInit (pc := 1) o_Group_3 o_in o_co (by decide) (Nat.le_of_ble_eq_true rfl) (zdal_p dlA_Group_init_7 (i := 1) rfl) ?_
  refine zw_aload_n (pc := 4) (n := 0) (x := q) rfl (zdal_p dlA_Group_init_7 (i := 2) rfl) ?_
  refine zw_new (pc := 5) (ci := 2) (by decide) n_Group_9 (by have := he0.1; omega) (by have := he0.1; show _ ≤ zn M + 10; omega) (by have := he0.2.1; show _ + 1 ≤ zw M + (0 + 1 + (0 + 4) + 1 + (0 + 24) + 1 + (0 + 576) + 1 + (0 + 24) + 1 + (0 + 24)); omega) (by decide) (zdal_p dlA_Group_init_7 (i := 3) rfl) ?_
  have he1 : zExt M (zk_Group_1 M q ) 1 (0 + 1) q := he0.al
  show zW l m_Group_init (zn M + 10, zw M + (0 + 1 + (0 + 4) + 1 + (0 + 24) + 1 + (0 + 576) + 1 + (0 + 24) + 1 + (0 + 24))) (zk_Group_1 M q ) 8 [some (.ref q)] [.ref (zn (M)), .ref q] _
  refine zw_dup (pc := 8) rfl (zdal_p dlA_Group_init_7 (i := 4) rfl) ?_
  refine zw_iconst (pc := 9) (v := nI 4) (by decide) (zdal_p dlA_Group_init_7 (i := 5) rfl) ?_
  refine zw_callI (pc := 10) (mc := 1) (ms := (0 + 4)) (b := zn (M)) [.int (nI 4)] [.ref (zn (M)), .ref q] l_Group_11 (k_IntRow l (zk_Group_1 M q ) (zn (M)) (by have := he1.1; show zn (M) < zn (M) + 1; omega) (congrArg Prod.fst (zal_sh (M := M) (t := 5) (n := 1))) 4 (by decide) (by have := he1.1; omega)) rfl rfl (by decide) ⟨by have := he1.1; show _ ≤ zn M + 10; omega, by have := he1.2.1; show _ ≤ zw M + (0 + 1 + (0 + 4) + 1 + (0 + 24) + 1 + (0 + 576) + 1 + (0 + 24) + 1 + (0 + 24)); omega⟩ (Nat.le_of_ble_eq_true rfl) (zdal_p dlA_Group_init_7 (i := 6) rfl) (fun r M9 h9 _ _ => ?_)
  obtain ⟨rfl, rfl⟩ := h9
  have he2 : zExt M (zk_Group_2 M q ) 2 (0 + 1 + (0 + 4)) q := he1.call (ext_IntRow (zk_Group_1 M q ) (zn (M)) 4) (by have := he0.1; omega)
  show zW l m_Group_init (zn M + 10, zw M + (0 + 1 + (0 + 4) + 1 + (0 + 24) + 1 + (0 + 576) + 1 + (0 + 24) + 1 + (0 + 24))) (zk_Group_2 M q ) 13 [some (.ref q)] [.ref (zn (M)), .ref q] _
  refine zw_putR (pc := 13) (x := zn (M)) (Or.inr ⟨g_Group_14, rfl, rfl, rfl⟩) rfl (he2.q hq hqk) (fun _ => rfl) (fun _ => rfl) (zdal_p dlA_Group_init_7 (i := 7) rfl) ?_
  have he3 : zExt M (zk_Group_3 M q ) 2 (0 + 1 + (0 + 4)) q := he2.put
  show zW l m_Group_init (zn M + 10, zw M + (0 + 1 + (0 + 4) + 1 + (0 + 24) + 1 + (0 + 576) + 1 + (0 + 24) + 1 + (0 + 24))) (zk_Group_3 M q ) 16 [some (.ref q)] [] _
  have kn3 : zf (zk_Group_3 M q ) q 0 = some (zn (M)) := zup2_s
  refine zw_aload_n (pc := 16) (n := 0) (x := q) rfl (zdal_p dlA_Group_init_7 (i := 8) rfl) ?_
  refine zw_new (pc := 17) (ci := 2) (by decide) n_Group_9 (by have := he3.1; omega) (by have := he3.1; show _ ≤ zn M + 10; omega) (by have := he3.2.1; show _ + 1 ≤ zw M + (0 + 1 + (0 + 4) + 1 + (0 + 24) + 1 + (0 + 576) + 1 + (0 + 24) + 1 + (0 + 24)); omega) (by decide) (zdal_p dlA_Group_init_7 (i := 9) rfl) ?_
  have he4 : zExt M (zk_Group_4 M q ) 3 (0 + 1 + (0 + 4) + 1) q := he3.al
  have kf4_0 : zf (zk_Group_4 M q ) q 0 = some (zn (M)) := (congrFun (zal_old (by have := he3.1; omega)).2 0).trans kn3
  show zW l m_Group_init (zn M + 10, zw M + (0 + 1 + (0 + 4) + 1 + (0 + 24) + 1 + (0 + 576) + 1 + (0 + 24) + 1 + (0 + 24))) (zk_Group_4 M q ) 20 [some (.ref q)] [.ref (zn (zk_Group_3 M q )), .ref q] _
  refine zw_dup (pc := 20) rfl (zdal_p dlA_Group_init_7 (i := 10) rfl) ?_
  refine zw_bipush (pc := 21) (v := nI 24) (by decide) (zdal_p dlA_Group_init_7 (i := 11) rfl) ?_
  refine zw_callI (pc := 23) (mc := 1) (ms := (0 + 24)) (b := zn (zk_Group_3 M q )) [.int (nI 24)] [.ref (zn (zk_Group_3 M q )), .ref q] l_Group_11 (k_IntRow l (zk_Group_4 M q ) (zn (zk_Group_3 M q )) (by have := he4.1; show zn (zk_Group_3 M q ) < zn (zk_Group_3 M q ) + 1; omega) (congrArg Prod.fst (zal_sh (M := zk_Group_3 M q ) (t := 5) (n := 1))) 24 (by decide) (by have := he4.1; omega)) rfl rfl (by decide) ⟨by have := he4.1; show _ ≤ zn M + 10; omega, by have := he4.2.1; show _ ≤ zw M + (0 + 1 + (0 + 4) + 1 + (0 + 24) + 1 + (0 + 576) + 1 + (0 + 24) + 1 + (0 + 24)); omega⟩ (Nat.le_of_ble_eq_true rfl) (zdal_p dlA_Group_init_7 (i := 12) rfl) (fun r M9 h9 _ _ => ?_)
  obtain ⟨rfl, rfl⟩ := h9
  have he5 : zExt M (zk_Group_5 M q ) 4 (0 + 1 + (0 + 4) + 1 + (0 + 24)) q := he4.call (ext_IntRow (zk_Group_4 M q ) (zn (zk_Group_3 M q )) 24) (by have := he3.1; omega)
  have kf5_0 : zf (zk_Group_5 M q ) q 0 = some (zn (M)) := (congrFun ((ext_IntRow (zk_Group_4 M q ) (zn (zk_Group_3 M q )) 24).2.2.2 q (by have := he4.1; omega) (by have := he3.1; omega)) 0).trans kf4_0
  show zW l m_Group_init (zn M + 10, zw M + (0 + 1 + (0 + 4) + 1 + (0 + 24) + 1 + (0 + 576) + 1 + (0 + 24) + 1 + (0 + 24))) (zk_Group_5 M q ) 26 [some (.ref q)] [.ref (zn (zk_Group_3 M q )), .ref q] _
  refine zw_putR (pc := 26) (x := zn (zk_Group_3 M q )) (Or.inr ⟨g_Group_20, rfl, rfl, rfl⟩) rfl (he5.q hq hqk) (fun _ => rfl) (fun _ => rfl) (zdal_p dlA_Group_init_7 (i := 13) rfl) ?_
  have he6 : zExt M (zk_Group_6 M q ) 4 (0 + 1 + (0 + 4) + 1 + (0 + 24)) q := he5.put
  have kf6_0 : zf (zk_Group_6 M q ) q 0 = some (zn (M)) := (zup2_n (fun z => absurd z.2 (by decide))).trans kf5_0
  show zW l m_Group_init (zn M + 10, zw M + (0 + 1 + (0 + 4) + 1 + (0 + 24) + 1 + (0 + 576) + 1 + (0 + 24) + 1 + (0 + 24))) (zk_Group_6 M q ) 29 [some (.ref q)] [] _
  have kn6 : zf (zk_Group_6 M q ) q 1 = some (zn (zk_Group_3 M q )) := zup2_s
  refine zw_aload_n (pc := 29) (n := 0) (x := q) rfl (zdal_p dlA_Group_init_7 (i := 14) rfl) ?_
  refine zw_new (pc := 30) (ci := 2) (by decide) n_Group_9 (by have := he6.1; omega) (by have := he6.1; show _ ≤ zn M + 10; omega) (by have := he6.2.1; show _ + 1 ≤ zw M + (0 + 1 + (0 + 4) + 1 + (0 + 24) + 1 + (0 + 576) + 1 + (0 + 24) + 1 + (0 + 24)); omega) (by decide) (zdal_p dlA_Group_init_7 (i := 15) rfl) ?_
  have he7 : zExt M (zk_Group_7 M q ) 5 (0 + 1 + (0 + 4) + 1 + (0 + 24) + 1) q := he6.al
  have kf7_0 : zf (zk_Group_7 M q ) q 0 = some (zn (M)) := (congrFun (zal_old (by have := he6.1; omega)).2 0).trans kf6_0
  have kf7_1 : zf (zk_Group_7 M q ) q 1 = some (zn (zk_Group_3 M q )) := (congrFun (zal_old (by have := he6.1; omega)).2 1).trans kn6
  show zW l m_Group_init (zn M + 10, zw M + (0 + 1 + (0 + 4) + 1 + (0 + 24) + 1 + (0 + 576) + 1 + (0 + 24) + 1 + (0 + 24))) (zk_Group_7 M q ) 33 [some (.ref q)] [.ref (zn (zk_Group_6 M q )), .ref q] _
  refine zw_dup (pc := 33) rfl (zdal_p dlA_Group_init_7 (i := 16) rfl) ?_
  refine zw_sipush (pc := 34) (v := nI 576) (by decide) (zdal_p dlA_Group_init_7 (i := 17) rfl) ?_
  refine zw_callI (pc := 37) (mc := 1) (ms := (0 + 576)) (b := zn (zk_Group_6 M q )) [.int (nI 576)] [.ref (zn (zk_Group_6 M q )), .ref q] l_Group_11 (k_IntRow l (zk_Group_7 M q ) (zn (zk_Group_6 M q )) (by have := he7.1; show zn (zk_Group_6 M q ) < zn (zk_Group_6 M q ) + 1; omega) (congrArg Prod.fst (zal_sh (M := zk_Group_6 M q ) (t := 5) (n := 1))) 576 (by decide) (by have := he7.1; omega)) rfl rfl (by decide) ⟨by have := he7.1; show _ ≤ zn M + 10; omega, by have := he7.2.1; show _ ≤ zw M + (0 + 1 + (0 + 4) + 1 + (0 + 24) + 1 + (0 + 576) + 1 + (0 + 24) + 1 + (0 + 24)); omega⟩ (Nat.le_of_ble_eq_true rfl) (zdal_p dlA_Group_init_7 (i := 18) rfl) (fun r M9 h9 _ _ => ?_)
  obtain ⟨rfl, rfl⟩ := h9
  have he8 : zExt M (zk_Group_8 M q ) 6 (0 + 1 + (0 + 4) + 1 + (0 + 24) + 1 + (0 + 576)) q := he7.call (ext_IntRow (zk_Group_7 M q ) (zn (zk_Group_6 M q )) 576) (by have := he6.1; omega)
  have kf8_0 : zf (zk_Group_8 M q ) q 0 = some (zn (M)) := (congrFun ((ext_IntRow (zk_Group_7 M q ) (zn (zk_Group_6 M q )) 576).2.2.2 q (by have := he7.1; omega) (by have := he6.1; omega)) 0).trans kf7_0
  have kf8_1 : zf (zk_Group_8 M q ) q 1 = some (zn (zk_Group_3 M q )) := (congrFun ((ext_IntRow (zk_Group_7 M q ) (zn (zk_Group_6 M q )) 576).2.2.2 q (by have := he7.1; omega) (by have := he6.1; omega)) 1).trans kf7_1
  show zW l m_Group_init (zn M + 10, zw M + (0 + 1 + (0 + 4) + 1 + (0 + 24) + 1 + (0 + 576) + 1 + (0 + 24) + 1 + (0 + 24))) (zk_Group_8 M q ) 40 [some (.ref q)] [.ref (zn (zk_Group_6 M q )), .ref q] _
  refine zw_putR (pc := 40) (x := zn (zk_Group_6 M q )) (Or.inr ⟨g_Group_23, rfl, rfl, rfl⟩) rfl (he8.q hq hqk) (fun _ => rfl) (fun _ => rfl) (zdal_p dlA_Group_init_7 (i := 19) rfl) ?_
  have he9 : zExt M (zk_Group_9 M q ) 6 (0 + 1 + (0 + 4) + 1 + (0 + 24) + 1 + (0 + 576)) q := he8.put
  have kf9_0 : zf (zk_Group_9 M q ) q 0 = some (zn (M)) := (zup2_n (fun z => absurd z.2 (by decide))).trans kf8_0
  have kf9_1 : zf (zk_Group_9 M q ) q 1 = some (zn (zk_Group_3 M q )) := (zup2_n (fun z => absurd z.2 (by decide))).trans kf8_1
  show zW l m_Group_init (zn M + 10, zw M + (0 + 1 + (0 + 4) + 1 + (0 + 24) + 1 + (0 + 576) + 1 + (0 + 24) + 1 + (0 + 24))) (zk_Group_9 M q ) 43 [some (.ref q)] [] _
  have kn9 : zf (zk_Group_9 M q ) q 2 = some (zn (zk_Group_6 M q )) := zup2_s
  refine zw_aload_n (pc := 43) (n := 0) (x := q) rfl (zdal_p dlA_Group_init_7 (i := 20) rfl) ?_
  refine zw_new (pc := 44) (ci := 2) (by decide) n_Group_9 (by have := he9.1; omega) (by have := he9.1; show _ ≤ zn M + 10; omega) (by have := he9.2.1; show _ + 1 ≤ zw M + (0 + 1 + (0 + 4) + 1 + (0 + 24) + 1 + (0 + 576) + 1 + (0 + 24) + 1 + (0 + 24)); omega) (by decide) (zdal_p dlA_Group_init_7 (i := 21) rfl) ?_
  have he10 : zExt M (zk_Group_10 M q ) 7 (0 + 1 + (0 + 4) + 1 + (0 + 24) + 1 + (0 + 576) + 1) q := he9.al
  have kf10_0 : zf (zk_Group_10 M q ) q 0 = some (zn (M)) := (congrFun (zal_old (by have := he9.1; omega)).2 0).trans kf9_0
  have kf10_1 : zf (zk_Group_10 M q ) q 1 = some (zn (zk_Group_3 M q )) := (congrFun (zal_old (by have := he9.1; omega)).2 1).trans kf9_1
  have kf10_2 : zf (zk_Group_10 M q ) q 2 = some (zn (zk_Group_6 M q )) := (congrFun (zal_old (by have := he9.1; omega)).2 2).trans kn9
  show zW l m_Group_init (zn M + 10, zw M + (0 + 1 + (0 + 4) + 1 + (0 + 24) + 1 + (0 + 576) + 1 + (0 + 24) + 1 + (0 + 24))) (zk_Group_10 M q ) 47 [some (.ref q)] [.ref (zn (zk_Group_9 M q )), .ref q] _
  refine zw_dup (pc := 47) rfl (zdal_p dlA_Group_init_7 (i := 22) rfl) ?_
  refine zw_bipush (pc := 48) (v := nI 24) (by decide) (zdal_p dlA_Group_init_7 (i := 23) rfl) ?_
  refine zw_callI (pc := 50) (mc := 1) (ms := (0 + 24)) (b := zn (zk_Group_9 M q )) [.int (nI 24)] [.ref (zn (zk_Group_9 M q )), .ref q] l_Group_11 (k_IntRow l (zk_Group_10 M q ) (zn (zk_Group_9 M q )) (by have := he10.1; show zn (zk_Group_9 M q ) < zn (zk_Group_9 M q ) + 1; omega) (congrArg Prod.fst (zal_sh (M := zk_Group_9 M q ) (t := 5) (n := 1))) 24 (by decide) (by have := he10.1; omega)) rfl rfl (by decide) ⟨by have := he10.1; show _ ≤ zn M + 10; omega, by have := he10.2.1; show _ ≤ zw M + (0 + 1 + (0 + 4) + 1 + (0 + 24) + 1 + (0 + 576) + 1 + (0 + 24) + 1 + (0 + 24)); omega⟩ (Nat.le_of_ble_eq_true rfl) (zdal_p dlA_Group_init_8 (i := 0) rfl) (fun r M9 h9 _ _ => ?_)
  obtain ⟨rfl, rfl⟩ := h9
  have he11 : zExt M (zk_Group_11 M q ) 8 (0 + 1 + (0 + 4) + 1 + (0 + 24) + 1 + (0 + 576) + 1 + (0 + 24)) q := he10.call (ext_IntRow (zk_Group_10 M q ) (zn (zk_Group_9 M q )) 24) (by have := he9.1; omega)
  have kf11_0 : zf (zk_Group_11 M q ) q 0 = some (zn (M)) := (congrFun ((ext_IntRow (zk_Group_10 M q ) (zn (zk_Group_9 M q )) 24).2.2.2 q (by have := he10.1; omega) (by have := he9.1; omega)) 0).trans kf10_0
  have kf11_1 : zf (zk_Group_11 M q ) q 1 = some (zn (zk_Group_3 M q )) := (congrFun ((ext_IntRow (zk_Group_10 M q ) (zn (zk_Group_9 M q )) 24).2.2.2 q (by have := he10.1; omega) (by have := he9.1; omega)) 1).trans kf10_1
  have kf11_2 : zf (zk_Group_11 M q ) q 2 = some (zn (zk_Group_6 M q )) := (congrFun ((ext_IntRow (zk_Group_10 M q ) (zn (zk_Group_9 M q )) 24).2.2.2 q (by have := he10.1; omega) (by have := he9.1; omega)) 2).trans kf10_2
  show zW l m_Group_init (zn M + 10, zw M + (0 + 1 + (0 + 4) + 1 + (0 + 24) + 1 + (0 + 576) + 1 + (0 + 24) + 1 + (0 + 24))) (zk_Group_11 M q ) 53 [some (.ref q)] [.ref (zn (zk_Group_9 M q )), .ref q] _
  refine zw_putR (pc := 53) (x := zn (zk_Group_9 M q )) (Or.inr ⟨g_Group_26, rfl, rfl, rfl⟩) rfl (he11.q hq hqk) (fun _ => rfl) (fun _ => rfl) (zdal_p dlA_Group_init_8 (i := 1) rfl) ?_
  have he12 : zExt M (zk_Group_12 M q ) 8 (0 + 1 + (0 + 4) + 1 + (0 + 24) + 1 + (0 + 576) + 1 + (0 + 24)) q := he11.put
  have kf12_0 : zf (zk_Group_12 M q ) q 0 = some (zn (M)) := (zup2_n (fun z => absurd z.2 (by decide))).trans kf11_0
  have kf12_1 : zf (zk_Group_12 M q ) q 1 = some (zn (zk_Group_3 M q )) := (zup2_n (fun z => absurd z.2 (by decide))).trans kf11_1
  have kf12_2 : zf (zk_Group_12 M q ) q 2 = some (zn (zk_Group_6 M q )) := (zup2_n (fun z => absurd z.2 (by decide))).trans kf11_2
  show zW l m_Group_init (zn M + 10, zw M + (0 + 1 + (0 + 4) + 1 + (0 + 24) + 1 + (0 + 576) + 1 + (0 + 24) + 1 + (0 + 24))) (zk_Group_12 M q ) 56 [some (.ref q)] [] _
  have kn12 : zf (zk_Group_12 M q ) q 3 = some (zn (zk_Group_9 M q )) := zup2_s
  refine zw_aload_n (pc := 56) (n := 0) (x := q) rfl (zdal_p dlA_Group_init_8 (i := 2) rfl) ?_
  refine zw_new (pc := 57) (ci := 2) (by decide) n_Group_9 (by have := he12.1; omega) (by have := he12.1; show _ ≤ zn M + 10; omega) (by have := he12.2.1; show _ + 1 ≤ zw M + (0 + 1 + (0 + 4) + 1 + (0 + 24) + 1 + (0 + 576) + 1 + (0 + 24) + 1 + (0 + 24)); omega) (by decide) (zdal_p dlA_Group_init_8 (i := 3) rfl) ?_
  have he13 : zExt M (zk_Group_13 M q ) 9 (0 + 1 + (0 + 4) + 1 + (0 + 24) + 1 + (0 + 576) + 1 + (0 + 24) + 1) q := he12.al
  have kf13_0 : zf (zk_Group_13 M q ) q 0 = some (zn (M)) := (congrFun (zal_old (by have := he12.1; omega)).2 0).trans kf12_0
  have kf13_1 : zf (zk_Group_13 M q ) q 1 = some (zn (zk_Group_3 M q )) := (congrFun (zal_old (by have := he12.1; omega)).2 1).trans kf12_1
  have kf13_2 : zf (zk_Group_13 M q ) q 2 = some (zn (zk_Group_6 M q )) := (congrFun (zal_old (by have := he12.1; omega)).2 2).trans kf12_2
  have kf13_3 : zf (zk_Group_13 M q ) q 3 = some (zn (zk_Group_9 M q )) := (congrFun (zal_old (by have := he12.1; omega)).2 3).trans kn12
  show zW l m_Group_init (zn M + 10, zw M + (0 + 1 + (0 + 4) + 1 + (0 + 24) + 1 + (0 + 576) + 1 + (0 + 24) + 1 + (0 + 24))) (zk_Group_13 M q ) 60 [some (.ref q)] [.ref (zn (zk_Group_12 M q )), .ref q] _
  refine zw_dup (pc := 60) rfl (zdal_p dlA_Group_init_8 (i := 4) rfl) ?_
  refine zw_bipush (pc := 61) (v := nI 24) (by decide) (zdal_p dlA_Group_init_8 (i := 5) rfl) ?_
  refine zw_callI (pc := 63) (mc := 1) (ms := (0 + 24)) (b := zn (zk_Group_12 M q )) [.int (nI 24)] [.ref (zn (zk_Group_12 M q )), .ref q] l_Group_11 (k_IntRow l (zk_Group_13 M q ) (zn (zk_Group_12 M q )) (by have := he13.1; show zn (zk_Group_12 M q ) < zn (zk_Group_12 M q ) + 1; omega) (congrArg Prod.fst (zal_sh (M := zk_Group_12 M q ) (t := 5) (n := 1))) 24 (by decide) (by have := he13.1; omega)) rfl rfl (by decide) ⟨by have := he13.1; show _ ≤ zn M + 10; omega, by have := he13.2.1; show _ ≤ zw M + (0 + 1 + (0 + 4) + 1 + (0 + 24) + 1 + (0 + 576) + 1 + (0 + 24) + 1 + (0 + 24)); omega⟩ (Nat.le_of_ble_eq_true rfl) (zdal_p dlA_Group_init_8 (i := 6) rfl) (fun r M9 h9 _ _ => ?_)
  obtain ⟨rfl, rfl⟩ := h9
  have he14 : zExt M (zk_Group_14 M q ) 10 (0 + 1 + (0 + 4) + 1 + (0 + 24) + 1 + (0 + 576) + 1 + (0 + 24) + 1 + (0 + 24)) q := he13.call (ext_IntRow (zk_Group_13 M q ) (zn (zk_Group_12 M q )) 24) (by have := he12.1; omega)
  have kf14_0 : zf (zk_Group_14 M q ) q 0 = some (zn (M)) := (congrFun ((ext_IntRow (zk_Group_13 M q ) (zn (zk_Group_12 M q )) 24).2.2.2 q (by have := he13.1; omega) (by have := he12.1; omega)) 0).trans kf13_0
  have kf14_1 : zf (zk_Group_14 M q ) q 1 = some (zn (zk_Group_3 M q )) := (congrFun ((ext_IntRow (zk_Group_13 M q ) (zn (zk_Group_12 M q )) 24).2.2.2 q (by have := he13.1; omega) (by have := he12.1; omega)) 1).trans kf13_1
  have kf14_2 : zf (zk_Group_14 M q ) q 2 = some (zn (zk_Group_6 M q )) := (congrFun ((ext_IntRow (zk_Group_13 M q ) (zn (zk_Group_12 M q )) 24).2.2.2 q (by have := he13.1; omega) (by have := he12.1; omega)) 2).trans kf13_2
  have kf14_3 : zf (zk_Group_14 M q ) q 3 = some (zn (zk_Group_9 M q )) := (congrFun ((ext_IntRow (zk_Group_13 M q ) (zn (zk_Group_12 M q )) 24).2.2.2 q (by have := he13.1; omega) (by have := he12.1; omega)) 3).trans kf13_3
  show zW l m_Group_init (zn M + 10, zw M + (0 + 1 + (0 + 4) + 1 + (0 + 24) + 1 + (0 + 576) + 1 + (0 + 24) + 1 + (0 + 24))) (zk_Group_14 M q ) 66 [some (.ref q)] [.ref (zn (zk_Group_12 M q )), .ref q] _
  refine zw_putR (pc := 66) (x := zn (zk_Group_12 M q )) (Or.inr ⟨g_Group_29, rfl, rfl, rfl⟩) rfl (he14.q hq hqk) (fun _ => rfl) (fun _ => rfl) (zdal_p dlA_Group_init_8 (i := 7) rfl) ?_
  have he15 : zExt M (zk_Group_15 M q ) 10 (0 + 1 + (0 + 4) + 1 + (0 + 24) + 1 + (0 + 576) + 1 + (0 + 24) + 1 + (0 + 24)) q := he14.put
  have kf15_0 : zf (zk_Group_15 M q ) q 0 = some (zn (M)) := (zup2_n (fun z => absurd z.2 (by decide))).trans kf14_0
  have kf15_1 : zf (zk_Group_15 M q ) q 1 = some (zn (zk_Group_3 M q )) := (zup2_n (fun z => absurd z.2 (by decide))).trans kf14_1
  have kf15_2 : zf (zk_Group_15 M q ) q 2 = some (zn (zk_Group_6 M q )) := (zup2_n (fun z => absurd z.2 (by decide))).trans kf14_2
  have kf15_3 : zf (zk_Group_15 M q ) q 3 = some (zn (zk_Group_9 M q )) := (zup2_n (fun z => absurd z.2 (by decide))).trans kf14_3
  show zW l m_Group_init (zn M + 10, zw M + (0 + 1 + (0 + 4) + 1 + (0 + 24) + 1 + (0 + 576) + 1 + (0 + 24) + 1 + (0 + 24))) (zk_Group_15 M q ) 69 [some (.ref q)] [] _
  have kn15 : zf (zk_Group_15 M q ) q 4 = some (zn (zk_Group_12 M q )) := zup2_s
  exact zw_vret (S := []) (pc := 69) rfl (zdal_p dlA_Group_init_8 (i := 8) rfl) ⟨rfl, rfl⟩
def zk_Sorts_1 (M : zMem) (q : Nat) (a0 : Nat) : zMem := zal (M) 5 1
def zk_Sorts_2 (M : zMem) (q : Nat) (a0 : Nat) : zMem := zk_IntRow (zk_Sorts_1 M q a0) (zn (M)) 35
def zk_Sorts_3 (M : zMem) (q : Nat) (a0 : Nat) : zMem := zsF (zk_Sorts_2 M q a0) q 1 (some (zn (M)))
def zk_Sorts_4 (M : zMem) (q : Nat) (a0 : Nat) : zMem := zal (zk_Sorts_3 M q a0) 5 1
def zk_Sorts_5 (M : zMem) (q : Nat) (a0 : Nat) : zMem := zk_IntRow (zk_Sorts_4 M q a0) (zn (zk_Sorts_3 M q a0)) 35
def zk_Sorts_6 (M : zMem) (q : Nat) (a0 : Nat) : zMem := zsF (zk_Sorts_5 M q a0) q 2 (some (zn (zk_Sorts_3 M q a0)))
def zk_Sorts_7 (M : zMem) (q : Nat) (a0 : Nat) : zMem := zal (zk_Sorts_6 M q a0) 5 1
def zk_Sorts_8 (M : zMem) (q : Nat) (a0 : Nat) : zMem := zk_IntRow (zk_Sorts_7 M q a0) (zn (zk_Sorts_6 M q a0)) 35
def zk_Sorts_9 (M : zMem) (q : Nat) (a0 : Nat) : zMem := zsF (zk_Sorts_8 M q a0) q 3 (some (zn (zk_Sorts_6 M q a0)))
def zk_Sorts_10 (M : zMem) (q : Nat) (a0 : Nat) : zMem := zal (zk_Sorts_9 M q a0) 5 1
def zk_Sorts_11 (M : zMem) (q : Nat) (a0 : Nat) : zMem := zk_IntRow (zk_Sorts_10 M q a0) (zn (zk_Sorts_9 M q a0)) 27
def zk_Sorts_12 (M : zMem) (q : Nat) (a0 : Nat) : zMem := zsF (zk_Sorts_11 M q a0) q 4 (some (zn (zk_Sorts_9 M q a0)))
def zk_Sorts_13 (M : zMem) (q : Nat) (a0 : Nat) : zMem := zal (zk_Sorts_12 M q a0) 5 1
def zk_Sorts_14 (M : zMem) (q : Nat) (a0 : Nat) : zMem := zk_IntRow (zk_Sorts_13 M q a0) (zn (zk_Sorts_12 M q a0)) 729
def zk_Sorts_15 (M : zMem) (q : Nat) (a0 : Nat) : zMem := zsF (zk_Sorts_14 M q a0) q 5 (some (zn (zk_Sorts_12 M q a0)))
def zk_Sorts_16 (M : zMem) (q : Nat) (a0 : Nat) : zMem := zsF (zk_Sorts_15 M q a0) q 0 (some (a0))
def zk_Sorts (M : zMem) (q : Nat) (a0 : Nat) : zMem := zk_Sorts_16 M q a0
set_option maxRecDepth 20000 in
theorem ext_Sorts (M : zMem) (q : Nat) (a0 : Nat) : zExt M (zk_Sorts M q a0) 10 (0 + 1 + (0 + 35) + 1 + (0 + 35) + 1 + (0 + 35) + 1 + (0 + 27) + 1 + (0 + 729)) q := by
  have he0 : zExt M M 0 0 q := zExt.rf
  have he1 : zExt M (zk_Sorts_1 M q a0) 1 (0 + 1) q := he0.al
  have he2 : zExt M (zk_Sorts_2 M q a0) 2 (0 + 1 + (0 + 35)) q := he1.call (ext_IntRow (zk_Sorts_1 M q a0) (zn (M)) 35) (by have := he0.1; omega)
  have he3 : zExt M (zk_Sorts_3 M q a0) 2 (0 + 1 + (0 + 35)) q := he2.put
  have he4 : zExt M (zk_Sorts_4 M q a0) 3 (0 + 1 + (0 + 35) + 1) q := he3.al
  have he5 : zExt M (zk_Sorts_5 M q a0) 4 (0 + 1 + (0 + 35) + 1 + (0 + 35)) q := he4.call (ext_IntRow (zk_Sorts_4 M q a0) (zn (zk_Sorts_3 M q a0)) 35) (by have := he3.1; omega)
  have he6 : zExt M (zk_Sorts_6 M q a0) 4 (0 + 1 + (0 + 35) + 1 + (0 + 35)) q := he5.put
  have he7 : zExt M (zk_Sorts_7 M q a0) 5 (0 + 1 + (0 + 35) + 1 + (0 + 35) + 1) q := he6.al
  have he8 : zExt M (zk_Sorts_8 M q a0) 6 (0 + 1 + (0 + 35) + 1 + (0 + 35) + 1 + (0 + 35)) q := he7.call (ext_IntRow (zk_Sorts_7 M q a0) (zn (zk_Sorts_6 M q a0)) 35) (by have := he6.1; omega)
  have he9 : zExt M (zk_Sorts_9 M q a0) 6 (0 + 1 + (0 + 35) + 1 + (0 + 35) + 1 + (0 + 35)) q := he8.put
  have he10 : zExt M (zk_Sorts_10 M q a0) 7 (0 + 1 + (0 + 35) + 1 + (0 + 35) + 1 + (0 + 35) + 1) q := he9.al
  have he11 : zExt M (zk_Sorts_11 M q a0) 8 (0 + 1 + (0 + 35) + 1 + (0 + 35) + 1 + (0 + 35) + 1 + (0 + 27)) q := he10.call (ext_IntRow (zk_Sorts_10 M q a0) (zn (zk_Sorts_9 M q a0)) 27) (by have := he9.1; omega)
  have he12 : zExt M (zk_Sorts_12 M q a0) 8 (0 + 1 + (0 + 35) + 1 + (0 + 35) + 1 + (0 + 35) + 1 + (0 + 27)) q := he11.put
  have he13 : zExt M (zk_Sorts_13 M q a0) 9 (0 + 1 + (0 + 35) + 1 + (0 + 35) + 1 + (0 + 35) + 1 + (0 + 27) + 1) q := he12.al
  have he14 : zExt M (zk_Sorts_14 M q a0) 10 (0 + 1 + (0 + 35) + 1 + (0 + 35) + 1 + (0 + 35) + 1 + (0 + 27) + 1 + (0 + 729)) q := he13.call (ext_IntRow (zk_Sorts_13 M q a0) (zn (zk_Sorts_12 M q a0)) 729) (by have := he12.1; omega)
  have he15 : zExt M (zk_Sorts_15 M q a0) 10 (0 + 1 + (0 + 35) + 1 + (0 + 35) + 1 + (0 + 35) + 1 + (0 + 27) + 1 + (0 + 729)) q := he14.put
  have he16 : zExt M (zk_Sorts_16 M q a0) 10 (0 + 1 + (0 + 35) + 1 + (0 + 35) + 1 + (0 + 35) + 1 + (0 + 27) + 1 + (0 + 729)) q := he15.put
  exact he16
set_option maxRecDepth 20000 in
set_option maxHeartbeats 4000000 in
theorem k_Sorts (l : Launch) (M : zMem) (q : Nat) (hq : q < zn M) (hqk : (zsh M q).1 = 6 + 3) (a0 : Nat) (hm : zn M + 10 < 1000000) : zC l m_Sorts_init 10 (0 + 1 + (0 + 35) + 1 + (0 + 35) + 1 + (0 + 35) + 1 + (0 + 27) + 1 + (0 + 729)) [.ref q, .ref a0] M (fun r M' => r = none ∧ M' = zk_Sorts M q a0) := by
  have hex := ext_Sorts M q a0
  refine zC_of (L0 := [some (.ref q), some (.ref a0)]) md_Sorts_init (Nat.le_of_ble_eq_true rfl) rfl ?_ (fun r M' h _ => by obtain ⟨-, rfl⟩ := h; exact ⟨hex.1, hex.2.1⟩)
  have he0 : zExt M M 0 0 q := zExt.rf
  refine zw_aload_n (pc := 0) (n := 0) (x := q) rfl (zdal_p dlA_Sorts_init_9 (i := 0) rfl) ?_
  refine zw_objInit (pc := 1) o_Sorts_3 o_in o_co (by decide) (Nat.le_of_ble_eq_true rfl) (zdal_p dlA_Sorts_init_9 (i := 1) rfl) ?_
  refine zw_aload_n (pc := 4) (n := 0) (x := q) rfl (zdal_p dlA_Sorts_init_9 (i := 2) rfl) ?_
  refine zw_new (pc := 5) (ci := 2) (by decide) n_Sorts_9 (by have := he0.1; omega) (by have := he0.1; show _ ≤ zn M + 10; omega) (by have := he0.2.1; show _ + 1 ≤ zw M + (0 + 1 + (0 + 35) + 1 + (0 + 35) + 1 + (0 + 35) + 1 + (0 + 27) + 1 + (0 + 729)); omega) (by decide) (zdal_p dlA_Sorts_init_9 (i := 3) rfl) ?_
  have he1 : zExt M (zk_Sorts_1 M q a0) 1 (0 + 1) q := he0.al
  show zW l m_Sorts_init (zn M + 10, zw M + (0 + 1 + (0 + 35) + 1 + (0 + 35) + 1 + (0 + 35) + 1 + (0 + 27) + 1 + (0 + 729))) (zk_Sorts_1 M q a0) 8 [some (.ref q), some (.ref a0)] [.ref (zn (M)), .ref q] _
  refine zw_dup (pc := 8) rfl (zdal_p dlA_Sorts_init_9 (i := 4) rfl) ?_
  refine zw_bipush (pc := 9) (v := nI 35) (by decide) (zdal_p dlA_Sorts_init_9 (i := 5) rfl) ?_
  refine zw_callI (pc := 11) (mc := 1) (ms := (0 + 35)) (b := zn (M)) [.int (nI 35)] [.ref (zn (M)), .ref q] l_Sorts_11 (k_IntRow l (zk_Sorts_1 M q a0) (zn (M)) (by have := he1.1; show zn (M) < zn (M) + 1; omega) (congrArg Prod.fst (zal_sh (M := M) (t := 5) (n := 1))) 35 (by decide) (by have := he1.1; omega)) rfl rfl (by decide) ⟨by have := he1.1; show _ ≤ zn M + 10; omega, by have := he1.2.1; show _ ≤ zw M + (0 + 1 + (0 + 35) + 1 + (0 + 35) + 1 + (0 + 35) + 1 + (0 + 27) + 1 + (0 + 729)); omega⟩ (Nat.le_of_ble_eq_true rfl) (zdal_p dlA_Sorts_init_9 (i := 6) rfl) (fun r M9 h9 _ _ => ?_)
  obtain ⟨rfl, rfl⟩ := h9
  have he2 : zExt M (zk_Sorts_2 M q a0) 2 (0 + 1 + (0 + 35)) q := he1.call (ext_IntRow (zk_Sorts_1 M q a0) (zn (M)) 35) (by have := he0.1; omega)
  show zW l m_Sorts_init (zn M + 10, zw M + (0 + 1 + (0 + 35) + 1 + (0 + 35) + 1 + (0 + 35) + 1 + (0 + 27) + 1 + (0 + 729))) (zk_Sorts_2 M q a0) 14 [some (.ref q), some (.ref a0)] [.ref (zn (M)), .ref q] _
  refine zw_putR (pc := 14) (x := zn (M)) (Or.inr ⟨g_Sorts_14, rfl, rfl, rfl⟩) rfl (he2.q hq hqk) (fun _ => rfl) (fun _ => rfl) (zdal_p dlA_Sorts_init_9 (i := 7) rfl) ?_
  have he3 : zExt M (zk_Sorts_3 M q a0) 2 (0 + 1 + (0 + 35)) q := he2.put
  show zW l m_Sorts_init (zn M + 10, zw M + (0 + 1 + (0 + 35) + 1 + (0 + 35) + 1 + (0 + 35) + 1 + (0 + 27) + 1 + (0 + 729))) (zk_Sorts_3 M q a0) 17 [some (.ref q), some (.ref a0)] [] _
  have kn3 : zf (zk_Sorts_3 M q a0) q 1 = some (zn (M)) := zup2_s
  refine zw_aload_n (pc := 17) (n := 0) (x := q) rfl (zdal_p dlA_Sorts_init_9 (i := 8) rfl) ?_
  refine zw_new (pc := 18) (ci := 2) (by decide) n_Sorts_9 (by have := he3.1; omega) (by have := he3.1; show _ ≤ zn M + 10; omega) (by have := he3.2.1; show _ + 1 ≤ zw M + (0 + 1 + (0 + 35) + 1 + (0 + 35) + 1 + (0 + 35) + 1 + (0 + 27) + 1 + (0 + 729)); omega) (by decide) (zdal_p dlA_Sorts_init_9 (i := 9) rfl) ?_
  have he4 : zExt M (zk_Sorts_4 M q a0) 3 (0 + 1 + (0 + 35) + 1) q := he3.al
  have kf4_1 : zf (zk_Sorts_4 M q a0) q 1 = some (zn (M)) := (congrFun (zal_old (by have := he3.1; omega)).2 1).trans kn3
  show zW l m_Sorts_init (zn M + 10, zw M + (0 + 1 + (0 + 35) + 1 + (0 + 35) + 1 + (0 + 35) + 1 + (0 + 27) + 1 + (0 + 729))) (zk_Sorts_4 M q a0) 21 [some (.ref q), some (.ref a0)] [.ref (zn (zk_Sorts_3 M q a0)), .ref q] _
  refine zw_dup (pc := 21) rfl (zdal_p dlA_Sorts_init_9 (i := 10) rfl) ?_
  refine zw_bipush (pc := 22) (v := nI 35) (by decide) (zdal_p dlA_Sorts_init_9 (i := 11) rfl) ?_
  refine zw_callI (pc := 24) (mc := 1) (ms := (0 + 35)) (b := zn (zk_Sorts_3 M q a0)) [.int (nI 35)] [.ref (zn (zk_Sorts_3 M q a0)), .ref q] l_Sorts_11 (k_IntRow l (zk_Sorts_4 M q a0) (zn (zk_Sorts_3 M q a0)) (by have := he4.1; show zn (zk_Sorts_3 M q a0) < zn (zk_Sorts_3 M q a0) + 1; omega) (congrArg Prod.fst (zal_sh (M := zk_Sorts_3 M q a0) (t := 5) (n := 1))) 35 (by decide) (by have := he4.1; omega)) rfl rfl (by decide) ⟨by have := he4.1; show _ ≤ zn M + 10; omega, by have := he4.2.1; show _ ≤ zw M + (0 + 1 + (0 + 35) + 1 + (0 + 35) + 1 + (0 + 35) + 1 + (0 + 27) + 1 + (0 + 729)); omega⟩ (Nat.le_of_ble_eq_true rfl) (zdal_p dlA_Sorts_init_9 (i := 12) rfl) (fun r M9 h9 _ _ => ?_)
  obtain ⟨rfl, rfl⟩ := h9
  have he5 : zExt M (zk_Sorts_5 M q a0) 4 (0 + 1 + (0 + 35) + 1 + (0 + 35)) q := he4.call (ext_IntRow (zk_Sorts_4 M q a0) (zn (zk_Sorts_3 M q a0)) 35) (by have := he3.1; omega)
  have kf5_1 : zf (zk_Sorts_5 M q a0) q 1 = some (zn (M)) := (congrFun ((ext_IntRow (zk_Sorts_4 M q a0) (zn (zk_Sorts_3 M q a0)) 35).2.2.2 q (by have := he4.1; omega) (by have := he3.1; omega)) 1).trans kf4_1
  show zW l m_Sorts_init (zn M + 10, zw M + (0 + 1 + (0 + 35) + 1 + (0 + 35) + 1 + (0 + 35) + 1 + (0 + 27) + 1 + (0 + 729))) (zk_Sorts_5 M q a0) 27 [some (.ref q), some (.ref a0)] [.ref (zn (zk_Sorts_3 M q a0)), .ref q] _
  refine zw_putR (pc := 27) (x := zn (zk_Sorts_3 M q a0)) (Or.inr ⟨g_Sorts_20, rfl, rfl, rfl⟩) rfl (he5.q hq hqk) (fun _ => rfl) (fun _ => rfl) (zdal_p dlA_Sorts_init_9 (i := 13) rfl) ?_
  have he6 : zExt M (zk_Sorts_6 M q a0) 4 (0 + 1 + (0 + 35) + 1 + (0 + 35)) q := he5.put
  have kf6_1 : zf (zk_Sorts_6 M q a0) q 1 = some (zn (M)) := (zup2_n (fun z => absurd z.2 (by decide))).trans kf5_1
  show zW l m_Sorts_init (zn M + 10, zw M + (0 + 1 + (0 + 35) + 1 + (0 + 35) + 1 + (0 + 35) + 1 + (0 + 27) + 1 + (0 + 729))) (zk_Sorts_6 M q a0) 30 [some (.ref q), some (.ref a0)] [] _
  have kn6 : zf (zk_Sorts_6 M q a0) q 2 = some (zn (zk_Sorts_3 M q a0)) := zup2_s
  refine zw_aload_n (pc := 30) (n := 0) (x := q) rfl (zdal_p dlA_Sorts_init_9 (i := 14) rfl) ?_
  refine zw_new (pc := 31) (ci := 2) (by decide) n_Sorts_9 (by have := he6.1; omega) (by have := he6.1; show _ ≤ zn M + 10; omega) (by have := he6.2.1; show _ + 1 ≤ zw M + (0 + 1 + (0 + 35) + 1 + (0 + 35) + 1 + (0 + 35) + 1 + (0 + 27) + 1 + (0 + 729)); omega) (by decide) (zdal_p dlA_Sorts_init_9 (i := 15) rfl) ?_
  have he7 : zExt M (zk_Sorts_7 M q a0) 5 (0 + 1 + (0 + 35) + 1 + (0 + 35) + 1) q := he6.al
  have kf7_1 : zf (zk_Sorts_7 M q a0) q 1 = some (zn (M)) := (congrFun (zal_old (by have := he6.1; omega)).2 1).trans kf6_1
  have kf7_2 : zf (zk_Sorts_7 M q a0) q 2 = some (zn (zk_Sorts_3 M q a0)) := (congrFun (zal_old (by have := he6.1; omega)).2 2).trans kn6
  show zW l m_Sorts_init (zn M + 10, zw M + (0 + 1 + (0 + 35) + 1 + (0 + 35) + 1 + (0 + 35) + 1 + (0 + 27) + 1 + (0 + 729))) (zk_Sorts_7 M q a0) 34 [some (.ref q), some (.ref a0)] [.ref (zn (zk_Sorts_6 M q a0)), .ref q] _
  refine zw_dup (pc := 34) rfl (zdal_p dlA_Sorts_init_9 (i := 16) rfl) ?_
  refine zw_bipush (pc := 35) (v := nI 35) (by decide) (zdal_p dlA_Sorts_init_9 (i := 17) rfl) ?_
  refine zw_callI (pc := 37) (mc := 1) (ms := (0 + 35)) (b := zn (zk_Sorts_6 M q a0)) [.int (nI 35)] [.ref (zn (zk_Sorts_6 M q a0)), .ref q] l_Sorts_11 (k_IntRow l (zk_Sorts_7 M q a0) (zn (zk_Sorts_6 M q a0)) (by have := he7.1; show zn (zk_Sorts_6 M q a0) < zn (zk_Sorts_6 M q a0) + 1; omega) (congrArg Prod.fst (zal_sh (M := zk_Sorts_6 M q a0) (t := 5) (n := 1))) 35 (by decide) (by have := he7.1; omega)) rfl rfl (by decide) ⟨by have := he7.1; show _ ≤ zn M + 10; omega, by have := he7.2.1; show _ ≤ zw M + (0 + 1 + (0 + 35) + 1 + (0 + 35) + 1 + (0 + 35) + 1 + (0 + 27) + 1 + (0 + 729)); omega⟩ (Nat.le_of_ble_eq_true rfl) (zdal_p dlA_Sorts_init_9 (i := 18) rfl) (fun r M9 h9 _ _ => ?_)
  obtain ⟨rfl, rfl⟩ := h9
  have he8 : zExt M (zk_Sorts_8 M q a0) 6 (0 + 1 + (0 + 35) + 1 + (0 + 35) + 1 + (0 + 35)) q := he7.call (ext_IntRow (zk_Sorts_7 M q a0) (zn (zk_Sorts_6 M q a0)) 35) (by have := he6.1; omega)
  have kf8_1 : zf (zk_Sorts_8 M q a0) q 1 = some (zn (M)) := (congrFun ((ext_IntRow (zk_Sorts_7 M q a0) (zn (zk_Sorts_6 M q a0)) 35).2.2.2 q (by have := he7.1; omega) (by have := he6.1; omega)) 1).trans kf7_1
  have kf8_2 : zf (zk_Sorts_8 M q a0) q 2 = some (zn (zk_Sorts_3 M q a0)) := (congrFun ((ext_IntRow (zk_Sorts_7 M q a0) (zn (zk_Sorts_6 M q a0)) 35).2.2.2 q (by have := he7.1; omega) (by have := he6.1; omega)) 2).trans kf7_2
  show zW l m_Sorts_init (zn M + 10, zw M + (0 + 1 + (0 + 35) + 1 + (0 + 35) + 1 + (0 + 35) + 1 + (0 + 27) + 1 + (0 + 729))) (zk_Sorts_8 M q a0) 40 [some (.ref q), some (.ref a0)] [.ref (zn (zk_Sorts_6 M q a0)), .ref q] _
  refine zw_putR (pc := 40) (x := zn (zk_Sorts_6 M q a0)) (Or.inr ⟨g_Sorts_23, rfl, rfl, rfl⟩) rfl (he8.q hq hqk) (fun _ => rfl) (fun _ => rfl) (zdal_p dlA_Sorts_init_9 (i := 19) rfl) ?_
  have he9 : zExt M (zk_Sorts_9 M q a0) 6 (0 + 1 + (0 + 35) + 1 + (0 + 35) + 1 + (0 + 35)) q := he8.put
  have kf9_1 : zf (zk_Sorts_9 M q a0) q 1 = some (zn (M)) := (zup2_n (fun z => absurd z.2 (by decide))).trans kf8_1
  have kf9_2 : zf (zk_Sorts_9 M q a0) q 2 = some (zn (zk_Sorts_3 M q a0)) := (zup2_n (fun z => absurd z.2 (by decide))).trans kf8_2
  show zW l m_Sorts_init (zn M + 10, zw M + (0 + 1 + (0 + 35) + 1 + (0 + 35) + 1 + (0 + 35) + 1 + (0 + 27) + 1 + (0 + 729))) (zk_Sorts_9 M q a0) 43 [some (.ref q), some (.ref a0)] [] _
  have kn9 : zf (zk_Sorts_9 M q a0) q 3 = some (zn (zk_Sorts_6 M q a0)) := zup2_s
  refine zw_aload_n (pc := 43) (n := 0) (x := q) rfl (zdal_p dlA_Sorts_init_9 (i := 20) rfl) ?_
  refine zw_new (pc := 44) (ci := 2) (by decide) n_Sorts_9 (by have := he9.1; omega) (by have := he9.1; show _ ≤ zn M + 10; omega) (by have := he9.2.1; show _ + 1 ≤ zw M + (0 + 1 + (0 + 35) + 1 + (0 + 35) + 1 + (0 + 35) + 1 + (0 + 27) + 1 + (0 + 729)); omega) (by decide) (zdal_p dlA_Sorts_init_9 (i := 21) rfl) ?_
  have he10 : zExt M (zk_Sorts_10 M q a0) 7 (0 + 1 + (0 + 35) + 1 + (0 + 35) + 1 + (0 + 35) + 1) q := he9.al
  have kf10_1 : zf (zk_Sorts_10 M q a0) q 1 = some (zn (M)) := (congrFun (zal_old (by have := he9.1; omega)).2 1).trans kf9_1
  have kf10_2 : zf (zk_Sorts_10 M q a0) q 2 = some (zn (zk_Sorts_3 M q a0)) := (congrFun (zal_old (by have := he9.1; omega)).2 2).trans kf9_2
  have kf10_3 : zf (zk_Sorts_10 M q a0) q 3 = some (zn (zk_Sorts_6 M q a0)) := (congrFun (zal_old (by have := he9.1; omega)).2 3).trans kn9
  show zW l m_Sorts_init (zn M + 10, zw M + (0 + 1 + (0 + 35) + 1 + (0 + 35) + 1 + (0 + 35) + 1 + (0 + 27) + 1 + (0 + 729))) (zk_Sorts_10 M q a0) 47 [some (.ref q), some (.ref a0)] [.ref (zn (zk_Sorts_9 M q a0)), .ref q] _
  refine zw_dup (pc := 47) rfl (zdal_p dlA_Sorts_init_9 (i := 22) rfl) ?_
  refine zw_bipush (pc := 48) (v := nI 27) (by decide) (zdal_p dlA_Sorts_init_9 (i := 23) rfl) ?_
  refine zw_callI (pc := 50) (mc := 1) (ms := (0 + 27)) (b := zn (zk_Sorts_9 M q a0)) [.int (nI 27)] [.ref (zn (zk_Sorts_9 M q a0)), .ref q] l_Sorts_11 (k_IntRow l (zk_Sorts_10 M q a0) (zn (zk_Sorts_9 M q a0)) (by have := he10.1; show zn (zk_Sorts_9 M q a0) < zn (zk_Sorts_9 M q a0) + 1; omega) (congrArg Prod.fst (zal_sh (M := zk_Sorts_9 M q a0) (t := 5) (n := 1))) 27 (by decide) (by have := he10.1; omega)) rfl rfl (by decide) ⟨by have := he10.1; show _ ≤ zn M + 10; omega, by have := he10.2.1; show _ ≤ zw M + (0 + 1 + (0 + 35) + 1 + (0 + 35) + 1 + (0 + 35) + 1 + (0 + 27) + 1 + (0 + 729)); omega⟩ (Nat.le_of_ble_eq_true rfl) (zdal_p dlA_Sorts_init_10 (i := 0) rfl) (fun r M9 h9 _ _ => ?_)
  obtain ⟨rfl, rfl⟩ := h9
  have he11 : zExt M (zk_Sorts_11 M q a0) 8 (0 + 1 + (0 + 35) + 1 + (0 + 35) + 1 + (0 + 35) + 1 + (0 + 27)) q := he10.call (ext_IntRow (zk_Sorts_10 M q a0) (zn (zk_Sorts_9 M q a0)) 27) (by have := he9.1; omega)
  have kf11_1 : zf (zk_Sorts_11 M q a0) q 1 = some (zn (M)) := (congrFun ((ext_IntRow (zk_Sorts_10 M q a0) (zn (zk_Sorts_9 M q a0)) 27).2.2.2 q (by have := he10.1; omega) (by have := he9.1; omega)) 1).trans kf10_1
  have kf11_2 : zf (zk_Sorts_11 M q a0) q 2 = some (zn (zk_Sorts_3 M q a0)) := (congrFun ((ext_IntRow (zk_Sorts_10 M q a0) (zn (zk_Sorts_9 M q a0)) 27).2.2.2 q (by have := he10.1; omega) (by have := he9.1; omega)) 2).trans kf10_2
  have kf11_3 : zf (zk_Sorts_11 M q a0) q 3 = some (zn (zk_Sorts_6 M q a0)) := (congrFun ((ext_IntRow (zk_Sorts_10 M q a0) (zn (zk_Sorts_9 M q a0)) 27).2.2.2 q (by have := he10.1; omega) (by have := he9.1; omega)) 3).trans kf10_3
  show zW l m_Sorts_init (zn M + 10, zw M + (0 + 1 + (0 + 35) + 1 + (0 + 35) + 1 + (0 + 35) + 1 + (0 + 27) + 1 + (0 + 729))) (zk_Sorts_11 M q a0) 53 [some (.ref q), some (.ref a0)] [.ref (zn (zk_Sorts_9 M q a0)), .ref q] _
  refine zw_putR (pc := 53) (x := zn (zk_Sorts_9 M q a0)) (Or.inr ⟨g_Sorts_26, rfl, rfl, rfl⟩) rfl (he11.q hq hqk) (fun _ => rfl) (fun _ => rfl) (zdal_p dlA_Sorts_init_10 (i := 1) rfl) ?_
  have he12 : zExt M (zk_Sorts_12 M q a0) 8 (0 + 1 + (0 + 35) + 1 + (0 + 35) + 1 + (0 + 35) + 1 + (0 + 27)) q := he11.put
  have kf12_1 : zf (zk_Sorts_12 M q a0) q 1 = some (zn (M)) := (zup2_n (fun z => absurd z.2 (by decide))).trans kf11_1
  have kf12_2 : zf (zk_Sorts_12 M q a0) q 2 = some (zn (zk_Sorts_3 M q a0)) := (zup2_n (fun z => absurd z.2 (by decide))).trans kf11_2
  have kf12_3 : zf (zk_Sorts_12 M q a0) q 3 = some (zn (zk_Sorts_6 M q a0)) := (zup2_n (fun z => absurd z.2 (by decide))).trans kf11_3
  show zW l m_Sorts_init (zn M + 10, zw M + (0 + 1 + (0 + 35) + 1 + (0 + 35) + 1 + (0 + 35) + 1 + (0 + 27) + 1 + (0 + 729))) (zk_Sorts_12 M q a0) 56 [some (.ref q), some (.ref a0)] [] _
  have kn12 : zf (zk_Sorts_12 M q a0) q 4 = some (zn (zk_Sorts_9 M q a0)) := zup2_s
  refine zw_aload_n (pc := 56) (n := 0) (x := q) rfl (zdal_p dlA_Sorts_init_10 (i := 2) rfl) ?_
  refine zw_new (pc := 57) (ci := 2) (by decide) n_Sorts_9 (by have := he12.1; omega) (by have := he12.1; show _ ≤ zn M + 10; omega) (by have := he12.2.1; show _ + 1 ≤ zw M + (0 + 1 + (0 + 35) + 1 + (0 + 35) + 1 + (0 + 35) + 1 + (0 + 27) + 1 + (0 + 729)); omega) (by decide) (zdal_p dlA_Sorts_init_10 (i := 3) rfl) ?_
  have he13 : zExt M (zk_Sorts_13 M q a0) 9 (0 + 1 + (0 + 35) + 1 + (0 + 35) + 1 + (0 + 35) + 1 + (0 + 27) + 1) q := he12.al
  have kf13_1 : zf (zk_Sorts_13 M q a0) q 1 = some (zn (M)) := (congrFun (zal_old (by have := he12.1; omega)).2 1).trans kf12_1
  have kf13_2 : zf (zk_Sorts_13 M q a0) q 2 = some (zn (zk_Sorts_3 M q a0)) := (congrFun (zal_old (by have := he12.1; omega)).2 2).trans kf12_2
  have kf13_3 : zf (zk_Sorts_13 M q a0) q 3 = some (zn (zk_Sorts_6 M q a0)) := (congrFun (zal_old (by have := he12.1; omega)).2 3).trans kf12_3
  have kf13_4 : zf (zk_Sorts_13 M q a0) q 4 = some (zn (zk_Sorts_9 M q a0)) := (congrFun (zal_old (by have := he12.1; omega)).2 4).trans kn12
  show zW l m_Sorts_init (zn M + 10, zw M + (0 + 1 + (0 + 35) + 1 + (0 + 35) + 1 + (0 + 35) + 1 + (0 + 27) + 1 + (0 + 729))) (zk_Sorts_13 M q a0) 60 [some (.ref q), some (.ref a0)] [.ref (zn (zk_Sorts_12 M q a0)), .ref q] _
  refine zw_dup (pc := 60) rfl (zdal_p dlA_Sorts_init_10 (i := 4) rfl) ?_
  refine zw_sipush (pc := 61) (v := nI 729) (by decide) (zdal_p dlA_Sorts_init_10 (i := 5) rfl) ?_
  refine zw_callI (pc := 64) (mc := 1) (ms := (0 + 729)) (b := zn (zk_Sorts_12 M q a0)) [.int (nI 729)] [.ref (zn (zk_Sorts_12 M q a0)), .ref q] l_Sorts_11 (k_IntRow l (zk_Sorts_13 M q a0) (zn (zk_Sorts_12 M q a0)) (by have := he13.1; show zn (zk_Sorts_12 M q a0) < zn (zk_Sorts_12 M q a0) + 1; omega) (congrArg Prod.fst (zal_sh (M := zk_Sorts_12 M q a0) (t := 5) (n := 1))) 729 (by decide) (by have := he13.1; omega)) rfl rfl (by decide) ⟨by have := he13.1; show _ ≤ zn M + 10; omega, by have := he13.2.1; show _ ≤ zw M + (0 + 1 + (0 + 35) + 1 + (0 + 35) + 1 + (0 + 35) + 1 + (0 + 27) + 1 + (0 + 729)); omega⟩ (Nat.le_of_ble_eq_true rfl) (zdal_p dlA_Sorts_init_10 (i := 6) rfl) (fun r M9 h9 _ _ => ?_)
  obtain ⟨rfl, rfl⟩ := h9
  have he14 : zExt M (zk_Sorts_14 M q a0) 10 (0 + 1 + (0 + 35) + 1 + (0 + 35) + 1 + (0 + 35) + 1 + (0 + 27) + 1 + (0 + 729)) q := he13.call (ext_IntRow (zk_Sorts_13 M q a0) (zn (zk_Sorts_12 M q a0)) 729) (by have := he12.1; omega)
  have kf14_1 : zf (zk_Sorts_14 M q a0) q 1 = some (zn (M)) := (congrFun ((ext_IntRow (zk_Sorts_13 M q a0) (zn (zk_Sorts_12 M q a0)) 729).2.2.2 q (by have := he13.1; omega) (by have := he12.1; omega)) 1).trans kf13_1
  have kf14_2 : zf (zk_Sorts_14 M q a0) q 2 = some (zn (zk_Sorts_3 M q a0)) := (congrFun ((ext_IntRow (zk_Sorts_13 M q a0) (zn (zk_Sorts_12 M q a0)) 729).2.2.2 q (by have := he13.1; omega) (by have := he12.1; omega)) 2).trans kf13_2
  have kf14_3 : zf (zk_Sorts_14 M q a0) q 3 = some (zn (zk_Sorts_6 M q a0)) := (congrFun ((ext_IntRow (zk_Sorts_13 M q a0) (zn (zk_Sorts_12 M q a0)) 729).2.2.2 q (by have := he13.1; omega) (by have := he12.1; omega)) 3).trans kf13_3
  have kf14_4 : zf (zk_Sorts_14 M q a0) q 4 = some (zn (zk_Sorts_9 M q a0)) := (congrFun ((ext_IntRow (zk_Sorts_13 M q a0) (zn (zk_Sorts_12 M q a0)) 729).2.2.2 q (by have := he13.1; omega) (by have := he12.1; omega)) 4).trans kf13_4
  show zW l m_Sorts_init (zn M + 10, zw M + (0 + 1 + (0 + 35) + 1 + (0 + 35) + 1 + (0 + 35) + 1 + (0 + 27) + 1 + (0 + 729))) (zk_Sorts_14 M q a0) 67 [some (.ref q), some (.ref a0)] [.ref (zn (zk_Sorts_12 M q a0)), .ref q] _
  refine zw_putR (pc := 67) (x := zn (zk_Sorts_12 M q a0)) (Or.inr ⟨g_Sorts_29, rfl, rfl, rfl⟩) rfl (he14.q hq hqk) (fun _ => rfl) (fun _ => rfl) (zdal_p dlA_Sorts_init_10 (i := 7) rfl) ?_
  have he15 : zExt M (zk_Sorts_15 M q a0) 10 (0 + 1 + (0 + 35) + 1 + (0 + 35) + 1 + (0 + 35) + 1 + (0 + 27) + 1 + (0 + 729)) q := he14.put
  have kf15_1 : zf (zk_Sorts_15 M q a0) q 1 = some (zn (M)) := (zup2_n (fun z => absurd z.2 (by decide))).trans kf14_1
  have kf15_2 : zf (zk_Sorts_15 M q a0) q 2 = some (zn (zk_Sorts_3 M q a0)) := (zup2_n (fun z => absurd z.2 (by decide))).trans kf14_2
  have kf15_3 : zf (zk_Sorts_15 M q a0) q 3 = some (zn (zk_Sorts_6 M q a0)) := (zup2_n (fun z => absurd z.2 (by decide))).trans kf14_3
  have kf15_4 : zf (zk_Sorts_15 M q a0) q 4 = some (zn (zk_Sorts_9 M q a0)) := (zup2_n (fun z => absurd z.2 (by decide))).trans kf14_4
  show zW l m_Sorts_init (zn M + 10, zw M + (0 + 1 + (0 + 35) + 1 + (0 + 35) + 1 + (0 + 35) + 1 + (0 + 27) + 1 + (0 + 729))) (zk_Sorts_15 M q a0) 70 [some (.ref q), some (.ref a0)] [] _
  have kn15 : zf (zk_Sorts_15 M q a0) q 5 = some (zn (zk_Sorts_12 M q a0)) := zup2_s
  refine zw_aload_n (pc := 70) (n := 0) (x := q) rfl (zdal_p dlA_Sorts_init_10 (i := 8) rfl) ?_
  refine zw_aload_n (pc := 71) (n := 1) (x := a0) rfl (zdal_p dlA_Sorts_init_10 (i := 9) rfl) ?_
  refine zw_putR (pc := 72) (x := a0) (Or.inr ⟨g_Sorts_32, rfl, rfl, rfl⟩) rfl (he15.q hq hqk) (fun _ => rfl) (fun _ => rfl) (zdal_p dlA_Sorts_init_10 (i := 10) rfl) ?_
  have he16 : zExt M (zk_Sorts_16 M q a0) 10 (0 + 1 + (0 + 35) + 1 + (0 + 35) + 1 + (0 + 35) + 1 + (0 + 27) + 1 + (0 + 729)) q := he15.put
  have kf16_1 : zf (zk_Sorts_16 M q a0) q 1 = some (zn (M)) := (zup2_n (fun z => absurd z.2 (by decide))).trans kf15_1
  have kf16_2 : zf (zk_Sorts_16 M q a0) q 2 = some (zn (zk_Sorts_3 M q a0)) := (zup2_n (fun z => absurd z.2 (by decide))).trans kf15_2
  have kf16_3 : zf (zk_Sorts_16 M q a0) q 3 = some (zn (zk_Sorts_6 M q a0)) := (zup2_n (fun z => absurd z.2 (by decide))).trans kf15_3
  have kf16_4 : zf (zk_Sorts_16 M q a0) q 4 = some (zn (zk_Sorts_9 M q a0)) := (zup2_n (fun z => absurd z.2 (by decide))).trans kf15_4
  have kf16_5 : zf (zk_Sorts_16 M q a0) q 5 = some (zn (zk_Sorts_12 M q a0)) := (zup2_n (fun z => absurd z.2 (by decide))).trans kn15
  show zW l m_Sorts_init (zn M + 10, zw M + (0 + 1 + (0 + 35) + 1 + (0 + 35) + 1 + (0 + 35) + 1 + (0 + 27) + 1 + (0 + 729))) (zk_Sorts_16 M q a0) 75 [some (.ref q), some (.ref a0)] [] _
  have kn16 : zf (zk_Sorts_16 M q a0) q 0 = some (a0) := zup2_s
  exact zw_vret (S := []) (pc := 75) rfl (zdal_p dlA_Sorts_init_10 (i := 11) rfl) ⟨rfl, rfl⟩
def zk_Sums_1 (M : zMem) (q : Nat) (a0 : Nat) : zMem := zal (M) 11 1
def zk_Sums_2 (M : zMem) (q : Nat) (a0 : Nat) : zMem := zk_LongRow (zk_Sums_1 M q a0) (zn (M)) 1080
def zk_Sums_3 (M : zMem) (q : Nat) (a0 : Nat) : zMem := zsF (zk_Sums_2 M q a0) q 1 (some (zn (M)))
def zk_Sums_4 (M : zMem) (q : Nat) (a0 : Nat) : zMem := zal (zk_Sums_3 M q a0) 11 1
def zk_Sums_5 (M : zMem) (q : Nat) (a0 : Nat) : zMem := zk_LongRow (zk_Sums_4 M q a0) (zn (zk_Sums_3 M q a0)) 27
def zk_Sums_6 (M : zMem) (q : Nat) (a0 : Nat) : zMem := zsF (zk_Sums_5 M q a0) q 2 (some (zn (zk_Sums_3 M q a0)))
def zk_Sums_7 (M : zMem) (q : Nat) (a0 : Nat) : zMem := zsF (zk_Sums_6 M q a0) q 0 (some (a0))
def zk_Sums (M : zMem) (q : Nat) (a0 : Nat) : zMem := zk_Sums_7 M q a0
set_option maxRecDepth 20000 in
theorem ext_Sums (M : zMem) (q : Nat) (a0 : Nat) : zExt M (zk_Sums M q a0) 4 (0 + 1 + (0 + 1080) + 1 + (0 + 27)) q := by
  have he0 : zExt M M 0 0 q := zExt.rf
  have he1 : zExt M (zk_Sums_1 M q a0) 1 (0 + 1) q := he0.al
  have he2 : zExt M (zk_Sums_2 M q a0) 2 (0 + 1 + (0 + 1080)) q := he1.call (ext_LongRow (zk_Sums_1 M q a0) (zn (M)) 1080) (by have := he0.1; omega)
  have he3 : zExt M (zk_Sums_3 M q a0) 2 (0 + 1 + (0 + 1080)) q := he2.put
  have he4 : zExt M (zk_Sums_4 M q a0) 3 (0 + 1 + (0 + 1080) + 1) q := he3.al
  have he5 : zExt M (zk_Sums_5 M q a0) 4 (0 + 1 + (0 + 1080) + 1 + (0 + 27)) q := he4.call (ext_LongRow (zk_Sums_4 M q a0) (zn (zk_Sums_3 M q a0)) 27) (by have := he3.1; omega)
  have he6 : zExt M (zk_Sums_6 M q a0) 4 (0 + 1 + (0 + 1080) + 1 + (0 + 27)) q := he5.put
  have he7 : zExt M (zk_Sums_7 M q a0) 4 (0 + 1 + (0 + 1080) + 1 + (0 + 27)) q := he6.put
  exact he7
set_option maxRecDepth 20000 in
set_option maxHeartbeats 4000000 in
theorem k_Sums (l : Launch) (M : zMem) (q : Nat) (hq : q < zn M) (hqk : (zsh M q).1 = 7 + 3) (a0 : Nat) (hm : zn M + 4 < 1000000) : zC l m_Sums_init 4 (0 + 1 + (0 + 1080) + 1 + (0 + 27)) [.ref q, .ref a0] M (fun r M' => r = none ∧ M' = zk_Sums M q a0) := by
  have hex := ext_Sums M q a0
  refine zC_of (L0 := [some (.ref q), some (.ref a0)]) md_Sums_init (Nat.le_of_ble_eq_true rfl) rfl ?_ (fun r M' h _ => by obtain ⟨-, rfl⟩ := h; exact ⟨hex.1, hex.2.1⟩)
  have he0 : zExt M M 0 0 q := zExt.rf
  refine zw_aload_n (pc := 0) (n := 0) (x := q) rfl (zdal_p dlA_Sums_init_11 (i := 0) rfl) ?_
  refine zw_objInit (pc := 1) o_Sums_5 o_in o_co (by decide) (Nat.le_of_ble_eq_true rfl) (zdal_p dlA_Sums_init_11 (i := 1) rfl) ?_
  refine zw_aload_n (pc := 4) (n := 0) (x := q) rfl (zdal_p dlA_Sums_init_11 (i := 2) rfl) ?_
  refine zw_new (pc := 5) (ci := 8) (by decide) n_Sums_11 (by have := he0.1; omega) (by have := he0.1; show _ ≤ zn M + 4; omega) (by have := he0.2.1; show _ + 1 ≤ zw M + (0 + 1 + (0 + 1080) + 1 + (0 + 27)); omega) (by decide) (zdal_p dlA_Sums_init_11 (i := 3) rfl) ?_
  have he1 : zExt M (zk_Sums_1 M q a0) 1 (0 + 1) q := he0.al
  show zW l m_Sums_init (zn M + 4, zw M + (0 + 1 + (0 + 1080) + 1 + (0 + 27))) (zk_Sums_1 M q a0) 8 [some (.ref q), some (.ref a0)] [.ref (zn (M)), .ref q] _
  refine zw_dup (pc := 8) rfl (zdal_p dlA_Sums_init_11 (i := 4) rfl) ?_
  refine zw_sipush (pc := 9) (v := nI 1080) (by decide) (zdal_p dlA_Sums_init_11 (i := 5) rfl) ?_
  refine zw_callI (pc := 12) (mc := 1) (ms := (0 + 1080)) (b := zn (M)) [.int (nI 1080)] [.ref (zn (M)), .ref q] l_Sums_13 (k_LongRow l (zk_Sums_1 M q a0) (zn (M)) (by have := he1.1; show zn (M) < zn (M) + 1; omega) (congrArg Prod.fst (zal_sh (M := M) (t := 11) (n := 1))) 1080 (by decide) (by have := he1.1; omega)) rfl rfl (by decide) ⟨by have := he1.1; show _ ≤ zn M + 4; omega, by have := he1.2.1; show _ ≤ zw M + (0 + 1 + (0 + 1080) + 1 + (0 + 27)); omega⟩ (Nat.le_of_ble_eq_true rfl) (zdal_p dlA_Sums_init_11 (i := 6) rfl) (fun r M9 h9 _ _ => ?_)
  obtain ⟨rfl, rfl⟩ := h9
  have he2 : zExt M (zk_Sums_2 M q a0) 2 (0 + 1 + (0 + 1080)) q := he1.call (ext_LongRow (zk_Sums_1 M q a0) (zn (M)) 1080) (by have := he0.1; omega)
  show zW l m_Sums_init (zn M + 4, zw M + (0 + 1 + (0 + 1080) + 1 + (0 + 27))) (zk_Sums_2 M q a0) 15 [some (.ref q), some (.ref a0)] [.ref (zn (M)), .ref q] _
  refine zw_putR (pc := 15) (x := zn (M)) (Or.inr ⟨g_Sums_16, rfl, rfl, rfl⟩) rfl (he2.q hq hqk) (fun _ => rfl) (fun _ => rfl) (zdal_p dlA_Sums_init_11 (i := 7) rfl) ?_
  have he3 : zExt M (zk_Sums_3 M q a0) 2 (0 + 1 + (0 + 1080)) q := he2.put
  show zW l m_Sums_init (zn M + 4, zw M + (0 + 1 + (0 + 1080) + 1 + (0 + 27))) (zk_Sums_3 M q a0) 18 [some (.ref q), some (.ref a0)] [] _
  have kn3 : zf (zk_Sums_3 M q a0) q 1 = some (zn (M)) := zup2_s
  refine zw_aload_n (pc := 18) (n := 0) (x := q) rfl (zdal_p dlA_Sums_init_11 (i := 8) rfl) ?_
  refine zw_new (pc := 19) (ci := 8) (by decide) n_Sums_11 (by have := he3.1; omega) (by have := he3.1; show _ ≤ zn M + 4; omega) (by have := he3.2.1; show _ + 1 ≤ zw M + (0 + 1 + (0 + 1080) + 1 + (0 + 27)); omega) (by decide) (zdal_p dlA_Sums_init_11 (i := 9) rfl) ?_
  have he4 : zExt M (zk_Sums_4 M q a0) 3 (0 + 1 + (0 + 1080) + 1) q := he3.al
  have kf4_1 : zf (zk_Sums_4 M q a0) q 1 = some (zn (M)) := (congrFun (zal_old (by have := he3.1; omega)).2 1).trans kn3
  show zW l m_Sums_init (zn M + 4, zw M + (0 + 1 + (0 + 1080) + 1 + (0 + 27))) (zk_Sums_4 M q a0) 22 [some (.ref q), some (.ref a0)] [.ref (zn (zk_Sums_3 M q a0)), .ref q] _
  refine zw_dup (pc := 22) rfl (zdal_p dlA_Sums_init_11 (i := 10) rfl) ?_
  refine zw_bipush (pc := 23) (v := nI 27) (by decide) (zdal_p dlA_Sums_init_11 (i := 11) rfl) ?_
  refine zw_callI (pc := 25) (mc := 1) (ms := (0 + 27)) (b := zn (zk_Sums_3 M q a0)) [.int (nI 27)] [.ref (zn (zk_Sums_3 M q a0)), .ref q] l_Sums_13 (k_LongRow l (zk_Sums_4 M q a0) (zn (zk_Sums_3 M q a0)) (by have := he4.1; show zn (zk_Sums_3 M q a0) < zn (zk_Sums_3 M q a0) + 1; omega) (congrArg Prod.fst (zal_sh (M := zk_Sums_3 M q a0) (t := 11) (n := 1))) 27 (by decide) (by have := he4.1; omega)) rfl rfl (by decide) ⟨by have := he4.1; show _ ≤ zn M + 4; omega, by have := he4.2.1; show _ ≤ zw M + (0 + 1 + (0 + 1080) + 1 + (0 + 27)); omega⟩ (Nat.le_of_ble_eq_true rfl) (zdal_p dlA_Sums_init_11 (i := 12) rfl) (fun r M9 h9 _ _ => ?_)
  obtain ⟨rfl, rfl⟩ := h9
  have he5 : zExt M (zk_Sums_5 M q a0) 4 (0 + 1 + (0 + 1080) + 1 + (0 + 27)) q := he4.call (ext_LongRow (zk_Sums_4 M q a0) (zn (zk_Sums_3 M q a0)) 27) (by have := he3.1; omega)
  have kf5_1 : zf (zk_Sums_5 M q a0) q 1 = some (zn (M)) := (congrFun ((ext_LongRow (zk_Sums_4 M q a0) (zn (zk_Sums_3 M q a0)) 27).2.2.2 q (by have := he4.1; omega) (by have := he3.1; omega)) 1).trans kf4_1
  show zW l m_Sums_init (zn M + 4, zw M + (0 + 1 + (0 + 1080) + 1 + (0 + 27))) (zk_Sums_5 M q a0) 28 [some (.ref q), some (.ref a0)] [.ref (zn (zk_Sums_3 M q a0)), .ref q] _
  refine zw_putR (pc := 28) (x := zn (zk_Sums_3 M q a0)) (Or.inr ⟨g_Sums_20, rfl, rfl, rfl⟩) rfl (he5.q hq hqk) (fun _ => rfl) (fun _ => rfl) (zdal_p dlA_Sums_init_11 (i := 13) rfl) ?_
  have he6 : zExt M (zk_Sums_6 M q a0) 4 (0 + 1 + (0 + 1080) + 1 + (0 + 27)) q := he5.put
  have kf6_1 : zf (zk_Sums_6 M q a0) q 1 = some (zn (M)) := (zup2_n (fun z => absurd z.2 (by decide))).trans kf5_1
  show zW l m_Sums_init (zn M + 4, zw M + (0 + 1 + (0 + 1080) + 1 + (0 + 27))) (zk_Sums_6 M q a0) 31 [some (.ref q), some (.ref a0)] [] _
  have kn6 : zf (zk_Sums_6 M q a0) q 2 = some (zn (zk_Sums_3 M q a0)) := zup2_s
  refine zw_aload_n (pc := 31) (n := 0) (x := q) rfl (zdal_p dlA_Sums_init_11 (i := 14) rfl) ?_
  refine zw_aload_n (pc := 32) (n := 1) (x := a0) rfl (zdal_p dlA_Sums_init_11 (i := 15) rfl) ?_
  refine zw_putR (pc := 33) (x := a0) (Or.inr ⟨g_Sums_23, rfl, rfl, rfl⟩) rfl (he6.q hq hqk) (fun _ => rfl) (fun _ => rfl) (zdal_p dlA_Sums_init_11 (i := 16) rfl) ?_
  have he7 : zExt M (zk_Sums_7 M q a0) 4 (0 + 1 + (0 + 1080) + 1 + (0 + 27)) q := he6.put
  have kf7_1 : zf (zk_Sums_7 M q a0) q 1 = some (zn (M)) := (zup2_n (fun z => absurd z.2 (by decide))).trans kf6_1
  have kf7_2 : zf (zk_Sums_7 M q a0) q 2 = some (zn (zk_Sums_3 M q a0)) := (zup2_n (fun z => absurd z.2 (by decide))).trans kn6
  show zW l m_Sums_init (zn M + 4, zw M + (0 + 1 + (0 + 1080) + 1 + (0 + 27))) (zk_Sums_7 M q a0) 36 [some (.ref q), some (.ref a0)] [] _
  have kn7 : zf (zk_Sums_7 M q a0) q 0 = some (a0) := zup2_s
  exact zw_vret (S := []) (pc := 36) rfl (zdal_p dlA_Sums_init_11 (i := 17) rfl) ⟨rfl, rfl⟩
def zk_Units_1 (M : zMem) (q : Nat) (a0 : Nat) : zMem := zal (M) 5 1
def zk_Units_2 (M : zMem) (q : Nat) (a0 : Nat) : zMem := zk_IntRow (zk_Units_1 M q a0) (zn (M)) 27
def zk_Units_3 (M : zMem) (q : Nat) (a0 : Nat) : zMem := zsF (zk_Units_2 M q a0) q 1 (some (zn (M)))
def zk_Units_4 (M : zMem) (q : Nat) (a0 : Nat) : zMem := zal (zk_Units_3 M q a0) 5 1
def zk_Units_5 (M : zMem) (q : Nat) (a0 : Nat) : zMem := zk_IntRow (zk_Units_4 M q a0) (zn (zk_Units_3 M q a0)) 24
def zk_Units_6 (M : zMem) (q : Nat) (a0 : Nat) : zMem := zsF (zk_Units_5 M q a0) q 2 (some (zn (zk_Units_3 M q a0)))
def zk_Units_7 (M : zMem) (q : Nat) (a0 : Nat) : zMem := zsF (zk_Units_6 M q a0) q 0 (some (a0))
def zk_Units (M : zMem) (q : Nat) (a0 : Nat) : zMem := zk_Units_7 M q a0
set_option maxRecDepth 20000 in
theorem ext_Units (M : zMem) (q : Nat) (a0 : Nat) : zExt M (zk_Units M q a0) 4 (0 + 1 + (0 + 27) + 1 + (0 + 24)) q := by
  have he0 : zExt M M 0 0 q := zExt.rf
  have he1 : zExt M (zk_Units_1 M q a0) 1 (0 + 1) q := he0.al
  have he2 : zExt M (zk_Units_2 M q a0) 2 (0 + 1 + (0 + 27)) q := he1.call (ext_IntRow (zk_Units_1 M q a0) (zn (M)) 27) (by have := he0.1; omega)
  have he3 : zExt M (zk_Units_3 M q a0) 2 (0 + 1 + (0 + 27)) q := he2.put
  have he4 : zExt M (zk_Units_4 M q a0) 3 (0 + 1 + (0 + 27) + 1) q := he3.al
  have he5 : zExt M (zk_Units_5 M q a0) 4 (0 + 1 + (0 + 27) + 1 + (0 + 24)) q := he4.call (ext_IntRow (zk_Units_4 M q a0) (zn (zk_Units_3 M q a0)) 24) (by have := he3.1; omega)
  have he6 : zExt M (zk_Units_6 M q a0) 4 (0 + 1 + (0 + 27) + 1 + (0 + 24)) q := he5.put
  have he7 : zExt M (zk_Units_7 M q a0) 4 (0 + 1 + (0 + 27) + 1 + (0 + 24)) q := he6.put
  exact he7
set_option maxRecDepth 20000 in
set_option maxHeartbeats 4000000 in
theorem k_Units (l : Launch) (M : zMem) (q : Nat) (hq : q < zn M) (hqk : (zsh M q).1 = 9 + 3) (a0 : Nat) (hm : zn M + 4 < 1000000) : zC l m_Units_init 4 (0 + 1 + (0 + 27) + 1 + (0 + 24)) [.ref q, .ref a0] M (fun r M' => r = none ∧ M' = zk_Units M q a0) := by
  have hex := ext_Units M q a0
  refine zC_of (L0 := [some (.ref q), some (.ref a0)]) md_Units_init (Nat.le_of_ble_eq_true rfl) rfl ?_ (fun r M' h _ => by obtain ⟨-, rfl⟩ := h; exact ⟨hex.1, hex.2.1⟩)
  have he0 : zExt M M 0 0 q := zExt.rf
  refine zw_aload_n (pc := 0) (n := 0) (x := q) rfl (zdal_p dlA_Units_init_13 (i := 0) rfl) ?_
  refine zw_objInit (pc := 1) o_Units_3 o_in o_co (by decide) (Nat.le_of_ble_eq_true rfl) (zdal_p dlA_Units_init_13 (i := 1) rfl) ?_
  refine zw_aload_n (pc := 4) (n := 0) (x := q) rfl (zdal_p dlA_Units_init_13 (i := 2) rfl) ?_
  refine zw_new (pc := 5) (ci := 2) (by decide) n_Units_9 (by have := he0.1; omega) (by have := he0.1; show _ ≤ zn M + 4; omega) (by have := he0.2.1; show _ + 1 ≤ zw M + (0 + 1 + (0 + 27) + 1 + (0 + 24)); omega) (by decide) (zdal_p dlA_Units_init_13 (i := 3) rfl) ?_
  have he1 : zExt M (zk_Units_1 M q a0) 1 (0 + 1) q := he0.al
  show zW l m_Units_init (zn M + 4, zw M + (0 + 1 + (0 + 27) + 1 + (0 + 24))) (zk_Units_1 M q a0) 8 [some (.ref q), some (.ref a0)] [.ref (zn (M)), .ref q] _
  refine zw_dup (pc := 8) rfl (zdal_p dlA_Units_init_13 (i := 4) rfl) ?_
  refine zw_bipush (pc := 9) (v := nI 27) (by decide) (zdal_p dlA_Units_init_13 (i := 5) rfl) ?_
  refine zw_callI (pc := 11) (mc := 1) (ms := (0 + 27)) (b := zn (M)) [.int (nI 27)] [.ref (zn (M)), .ref q] l_Units_11 (k_IntRow l (zk_Units_1 M q a0) (zn (M)) (by have := he1.1; show zn (M) < zn (M) + 1; omega) (congrArg Prod.fst (zal_sh (M := M) (t := 5) (n := 1))) 27 (by decide) (by have := he1.1; omega)) rfl rfl (by decide) ⟨by have := he1.1; show _ ≤ zn M + 4; omega, by have := he1.2.1; show _ ≤ zw M + (0 + 1 + (0 + 27) + 1 + (0 + 24)); omega⟩ (Nat.le_of_ble_eq_true rfl) (zdal_p dlA_Units_init_13 (i := 6) rfl) (fun r M9 h9 _ _ => ?_)
  obtain ⟨rfl, rfl⟩ := h9
  have he2 : zExt M (zk_Units_2 M q a0) 2 (0 + 1 + (0 + 27)) q := he1.call (ext_IntRow (zk_Units_1 M q a0) (zn (M)) 27) (by have := he0.1; omega)
  show zW l m_Units_init (zn M + 4, zw M + (0 + 1 + (0 + 27) + 1 + (0 + 24))) (zk_Units_2 M q a0) 14 [some (.ref q), some (.ref a0)] [.ref (zn (M)), .ref q] _
  refine zw_putR (pc := 14) (x := zn (M)) (Or.inr ⟨g_Units_14, rfl, rfl, rfl⟩) rfl (he2.q hq hqk) (fun _ => rfl) (fun _ => rfl) (zdal_p dlA_Units_init_13 (i := 7) rfl) ?_
  have he3 : zExt M (zk_Units_3 M q a0) 2 (0 + 1 + (0 + 27)) q := he2.put
  show zW l m_Units_init (zn M + 4, zw M + (0 + 1 + (0 + 27) + 1 + (0 + 24))) (zk_Units_3 M q a0) 17 [some (.ref q), some (.ref a0)] [] _
  have kn3 : zf (zk_Units_3 M q a0) q 1 = some (zn (M)) := zup2_s
  refine zw_aload_n (pc := 17) (n := 0) (x := q) rfl (zdal_p dlA_Units_init_13 (i := 8) rfl) ?_
  refine zw_new (pc := 18) (ci := 2) (by decide) n_Units_9 (by have := he3.1; omega) (by have := he3.1; show _ ≤ zn M + 4; omega) (by have := he3.2.1; show _ + 1 ≤ zw M + (0 + 1 + (0 + 27) + 1 + (0 + 24)); omega) (by decide) (zdal_p dlA_Units_init_13 (i := 9) rfl) ?_
  have he4 : zExt M (zk_Units_4 M q a0) 3 (0 + 1 + (0 + 27) + 1) q := he3.al
  have kf4_1 : zf (zk_Units_4 M q a0) q 1 = some (zn (M)) := (congrFun (zal_old (by have := he3.1; omega)).2 1).trans kn3
  show zW l m_Units_init (zn M + 4, zw M + (0 + 1 + (0 + 27) + 1 + (0 + 24))) (zk_Units_4 M q a0) 21 [some (.ref q), some (.ref a0)] [.ref (zn (zk_Units_3 M q a0)), .ref q] _
  refine zw_dup (pc := 21) rfl (zdal_p dlA_Units_init_13 (i := 10) rfl) ?_
  refine zw_bipush (pc := 22) (v := nI 24) (by decide) (zdal_p dlA_Units_init_13 (i := 11) rfl) ?_
  refine zw_callI (pc := 24) (mc := 1) (ms := (0 + 24)) (b := zn (zk_Units_3 M q a0)) [.int (nI 24)] [.ref (zn (zk_Units_3 M q a0)), .ref q] l_Units_11 (k_IntRow l (zk_Units_4 M q a0) (zn (zk_Units_3 M q a0)) (by have := he4.1; show zn (zk_Units_3 M q a0) < zn (zk_Units_3 M q a0) + 1; omega) (congrArg Prod.fst (zal_sh (M := zk_Units_3 M q a0) (t := 5) (n := 1))) 24 (by decide) (by have := he4.1; omega)) rfl rfl (by decide) ⟨by have := he4.1; show _ ≤ zn M + 4; omega, by have := he4.2.1; show _ ≤ zw M + (0 + 1 + (0 + 27) + 1 + (0 + 24)); omega⟩ (Nat.le_of_ble_eq_true rfl) (zdal_p dlA_Units_init_13 (i := 12) rfl) (fun r M9 h9 _ _ => ?_)
  obtain ⟨rfl, rfl⟩ := h9
  have he5 : zExt M (zk_Units_5 M q a0) 4 (0 + 1 + (0 + 27) + 1 + (0 + 24)) q := he4.call (ext_IntRow (zk_Units_4 M q a0) (zn (zk_Units_3 M q a0)) 24) (by have := he3.1; omega)
  have kf5_1 : zf (zk_Units_5 M q a0) q 1 = some (zn (M)) := (congrFun ((ext_IntRow (zk_Units_4 M q a0) (zn (zk_Units_3 M q a0)) 24).2.2.2 q (by have := he4.1; omega) (by have := he3.1; omega)) 1).trans kf4_1
  show zW l m_Units_init (zn M + 4, zw M + (0 + 1 + (0 + 27) + 1 + (0 + 24))) (zk_Units_5 M q a0) 27 [some (.ref q), some (.ref a0)] [.ref (zn (zk_Units_3 M q a0)), .ref q] _
  refine zw_putR (pc := 27) (x := zn (zk_Units_3 M q a0)) (Or.inr ⟨g_Units_20, rfl, rfl, rfl⟩) rfl (he5.q hq hqk) (fun _ => rfl) (fun _ => rfl) (zdal_p dlA_Units_init_13 (i := 13) rfl) ?_
  have he6 : zExt M (zk_Units_6 M q a0) 4 (0 + 1 + (0 + 27) + 1 + (0 + 24)) q := he5.put
  have kf6_1 : zf (zk_Units_6 M q a0) q 1 = some (zn (M)) := (zup2_n (fun z => absurd z.2 (by decide))).trans kf5_1
  show zW l m_Units_init (zn M + 4, zw M + (0 + 1 + (0 + 27) + 1 + (0 + 24))) (zk_Units_6 M q a0) 30 [some (.ref q), some (.ref a0)] [] _
  have kn6 : zf (zk_Units_6 M q a0) q 2 = some (zn (zk_Units_3 M q a0)) := zup2_s
  refine zw_aload_n (pc := 30) (n := 0) (x := q) rfl (zdal_p dlA_Units_init_13 (i := 14) rfl) ?_
  refine zw_aload_n (pc := 31) (n := 1) (x := a0) rfl (zdal_p dlA_Units_init_13 (i := 15) rfl) ?_
  refine zw_putR (pc := 32) (x := a0) (Or.inr ⟨g_Units_23, rfl, rfl, rfl⟩) rfl (he6.q hq hqk) (fun _ => rfl) (fun _ => rfl) (zdal_p dlA_Units_init_13 (i := 16) rfl) ?_
  have he7 : zExt M (zk_Units_7 M q a0) 4 (0 + 1 + (0 + 27) + 1 + (0 + 24)) q := he6.put
  have kf7_1 : zf (zk_Units_7 M q a0) q 1 = some (zn (M)) := (zup2_n (fun z => absurd z.2 (by decide))).trans kf6_1
  have kf7_2 : zf (zk_Units_7 M q a0) q 2 = some (zn (zk_Units_3 M q a0)) := (zup2_n (fun z => absurd z.2 (by decide))).trans kn6
  show zW l m_Units_init (zn M + 4, zw M + (0 + 1 + (0 + 27) + 1 + (0 + 24))) (zk_Units_7 M q a0) 35 [some (.ref q), some (.ref a0)] [] _
  have kn7 : zf (zk_Units_7 M q a0) q 0 = some (a0) := zup2_s
  exact zw_vret (S := []) (pc := 35) rfl (zdal_p dlA_Units_init_13 (i := 17) rfl) ⟨rfl, rfl⟩
def zk_Calc_1 (M : zMem) (q : Nat) (a0 : Nat) : zMem := zal (M) 5 1
def zk_Calc_2 (M : zMem) (q : Nat) (a0 : Nat) : zMem := zk_IntRow (zk_Calc_1 M q a0) (zn (M)) 24
def zk_Calc_3 (M : zMem) (q : Nat) (a0 : Nat) : zMem := zsF (zk_Calc_2 M q a0) q 1 (some (zn (M)))
def zk_Calc_4 (M : zMem) (q : Nat) (a0 : Nat) : zMem := zsF (zk_Calc_3 M q a0) q 0 (some (a0))
def zk_Calc (M : zMem) (q : Nat) (a0 : Nat) : zMem := zk_Calc_4 M q a0
set_option maxRecDepth 20000 in
theorem ext_Calc (M : zMem) (q : Nat) (a0 : Nat) : zExt M (zk_Calc M q a0) 2 (0 + 1 + (0 + 24)) q := by
  have he0 : zExt M M 0 0 q := zExt.rf
  have he1 : zExt M (zk_Calc_1 M q a0) 1 (0 + 1) q := he0.al
  have he2 : zExt M (zk_Calc_2 M q a0) 2 (0 + 1 + (0 + 24)) q := he1.call (ext_IntRow (zk_Calc_1 M q a0) (zn (M)) 24) (by have := he0.1; omega)
  have he3 : zExt M (zk_Calc_3 M q a0) 2 (0 + 1 + (0 + 24)) q := he2.put
  have he4 : zExt M (zk_Calc_4 M q a0) 2 (0 + 1 + (0 + 24)) q := he3.put
  exact he4
set_option maxRecDepth 20000 in
set_option maxHeartbeats 4000000 in
theorem k_Calc (l : Launch) (M : zMem) (q : Nat) (hq : q < zn M) (hqk : (zsh M q).1 = 10 + 3) (a0 : Nat) (hm : zn M + 2 < 1000000) : zC l m_Calc_init 2 (0 + 1 + (0 + 24)) [.ref q, .ref a0] M (fun r M' => r = none ∧ M' = zk_Calc M q a0) := by
  have hex := ext_Calc M q a0
  refine zC_of (L0 := [some (.ref q), some (.ref a0)]) md_Calc_init (Nat.le_of_ble_eq_true rfl) rfl ?_ (fun r M' h _ => by obtain ⟨-, rfl⟩ := h; exact ⟨hex.1, hex.2.1⟩)
  have he0 : zExt M M 0 0 q := zExt.rf
  refine zw_aload_n (pc := 0) (n := 0) (x := q) rfl (zdal_p dlA_Calc_init_14 (i := 0) rfl) ?_
  refine zw_objInit (pc := 1) o_Calc_3 o_in o_co (by decide) (Nat.le_of_ble_eq_true rfl) (zdal_p dlA_Calc_init_14 (i := 1) rfl) ?_
  refine zw_aload_n (pc := 4) (n := 0) (x := q) rfl (zdal_p dlA_Calc_init_14 (i := 2) rfl) ?_
  refine zw_new (pc := 5) (ci := 2) (by decide) n_Calc_9 (by have := he0.1; omega) (by have := he0.1; show _ ≤ zn M + 2; omega) (by have := he0.2.1; show _ + 1 ≤ zw M + (0 + 1 + (0 + 24)); omega) (by decide) (zdal_p dlA_Calc_init_14 (i := 3) rfl) ?_
  have he1 : zExt M (zk_Calc_1 M q a0) 1 (0 + 1) q := he0.al
  show zW l m_Calc_init (zn M + 2, zw M + (0 + 1 + (0 + 24))) (zk_Calc_1 M q a0) 8 [some (.ref q), some (.ref a0)] [.ref (zn (M)), .ref q] _
  refine zw_dup (pc := 8) rfl (zdal_p dlA_Calc_init_14 (i := 4) rfl) ?_
  refine zw_bipush (pc := 9) (v := nI 24) (by decide) (zdal_p dlA_Calc_init_14 (i := 5) rfl) ?_
  refine zw_callI (pc := 11) (mc := 1) (ms := (0 + 24)) (b := zn (M)) [.int (nI 24)] [.ref (zn (M)), .ref q] l_Calc_11 (k_IntRow l (zk_Calc_1 M q a0) (zn (M)) (by have := he1.1; show zn (M) < zn (M) + 1; omega) (congrArg Prod.fst (zal_sh (M := M) (t := 5) (n := 1))) 24 (by decide) (by have := he1.1; omega)) rfl rfl (by decide) ⟨by have := he1.1; show _ ≤ zn M + 2; omega, by have := he1.2.1; show _ ≤ zw M + (0 + 1 + (0 + 24)); omega⟩ (Nat.le_of_ble_eq_true rfl) (zdal_p dlA_Calc_init_14 (i := 6) rfl) (fun r M9 h9 _ _ => ?_)
  obtain ⟨rfl, rfl⟩ := h9
  have he2 : zExt M (zk_Calc_2 M q a0) 2 (0 + 1 + (0 + 24)) q := he1.call (ext_IntRow (zk_Calc_1 M q a0) (zn (M)) 24) (by have := he0.1; omega)
  show zW l m_Calc_init (zn M + 2, zw M + (0 + 1 + (0 + 24))) (zk_Calc_2 M q a0) 14 [some (.ref q), some (.ref a0)] [.ref (zn (M)), .ref q] _
  refine zw_putR (pc := 14) (x := zn (M)) (Or.inr ⟨g_Calc_14, rfl, rfl, rfl⟩) rfl (he2.q hq hqk) (fun _ => rfl) (fun _ => rfl) (zdal_p dlA_Calc_init_14 (i := 7) rfl) ?_
  have he3 : zExt M (zk_Calc_3 M q a0) 2 (0 + 1 + (0 + 24)) q := he2.put
  show zW l m_Calc_init (zn M + 2, zw M + (0 + 1 + (0 + 24))) (zk_Calc_3 M q a0) 17 [some (.ref q), some (.ref a0)] [] _
  have kn3 : zf (zk_Calc_3 M q a0) q 1 = some (zn (M)) := zup2_s
  refine zw_aload_n (pc := 17) (n := 0) (x := q) rfl (zdal_p dlA_Calc_init_14 (i := 8) rfl) ?_
  refine zw_aload_n (pc := 18) (n := 1) (x := a0) rfl (zdal_p dlA_Calc_init_14 (i := 9) rfl) ?_
  refine zw_putR (pc := 19) (x := a0) (Or.inr ⟨g_Calc_20, rfl, rfl, rfl⟩) rfl (he3.q hq hqk) (fun _ => rfl) (fun _ => rfl) (zdal_p dlA_Calc_init_14 (i := 10) rfl) ?_
  have he4 : zExt M (zk_Calc_4 M q a0) 2 (0 + 1 + (0 + 24)) q := he3.put
  have kf4_1 : zf (zk_Calc_4 M q a0) q 1 = some (zn (M)) := (zup2_n (fun z => absurd z.2 (by decide))).trans kn3
  show zW l m_Calc_init (zn M + 2, zw M + (0 + 1 + (0 + 24))) (zk_Calc_4 M q a0) 22 [some (.ref q), some (.ref a0)] [] _
  have kn4 : zf (zk_Calc_4 M q a0) q 0 = some (a0) := zup2_s
  exact zw_vret (S := []) (pc := 22) rfl (zdal_p dlA_Calc_init_14 (i := 11) rfl) ⟨rfl, rfl⟩
def zk_Troupe_1 (M : zMem) (q : Nat)  : zMem := zal (M) 8 8
def zk_Troupe_2 (M : zMem) (q : Nat)  : zMem := zk_Group (zk_Troupe_1 M q ) (zn (M))
def zk_Troupe_3 (M : zMem) (q : Nat)  : zMem := zsF (zk_Troupe_2 M q ) q 0 (some (zn (M)))
def zk_Troupe_4 (M : zMem) (q : Nat)  : zMem := zal (zk_Troupe_3 M q ) 9 8
def zk_Troupe_5 (M : zMem) (q : Nat)  : zMem := zk_Sorts (zk_Troupe_4 M q ) (zn (zk_Troupe_3 M q )) (zn (M))
def zk_Troupe_6 (M : zMem) (q : Nat)  : zMem := zsF (zk_Troupe_5 M q ) q 1 (some (zn (zk_Troupe_3 M q )))
def zk_Troupe_7 (M : zMem) (q : Nat)  : zMem := zal (zk_Troupe_6 M q ) 10 3
def zk_Troupe_8 (M : zMem) (q : Nat)  : zMem := zk_Sums (zk_Troupe_7 M q ) (zn (zk_Troupe_6 M q )) (zn (zk_Troupe_3 M q ))
def zk_Troupe_9 (M : zMem) (q : Nat)  : zMem := zsF (zk_Troupe_8 M q ) q 2 (some (zn (zk_Troupe_6 M q )))
def zk_Troupe_10 (M : zMem) (q : Nat)  : zMem := zal (zk_Troupe_9 M q ) 12 5
def zk_Troupe_11 (M : zMem) (q : Nat)  : zMem := zk_Units (zk_Troupe_10 M q ) (zn (zk_Troupe_9 M q )) (zn (zk_Troupe_3 M q ))
def zk_Troupe_12 (M : zMem) (q : Nat)  : zMem := zsF (zk_Troupe_11 M q ) q 3 (some (zn (zk_Troupe_9 M q )))
def zk_Troupe_13 (M : zMem) (q : Nat)  : zMem := zal (zk_Troupe_12 M q ) 13 7
def zk_Troupe_14 (M : zMem) (q : Nat)  : zMem := zk_Calc (zk_Troupe_13 M q ) (zn (zk_Troupe_12 M q )) (zn (zk_Troupe_6 M q ))
def zk_Troupe_15 (M : zMem) (q : Nat)  : zMem := zsF (zk_Troupe_14 M q ) q 4 (some (zn (zk_Troupe_12 M q )))
def zk_Troupe_16 (M : zMem) (q : Nat)  : zMem := zal (zk_Troupe_15 M q ) 5 1
def zk_Troupe_17 (M : zMem) (q : Nat)  : zMem := zk_IntRow (zk_Troupe_16 M q ) (zn (zk_Troupe_15 M q )) 8
def zk_Troupe_18 (M : zMem) (q : Nat)  : zMem := zsF (zk_Troupe_17 M q ) q 5 (some (zn (zk_Troupe_15 M q )))
def zk_Troupe (M : zMem) (q : Nat)  : zMem := zk_Troupe_18 M q 
set_option maxRecDepth 20000 in
theorem ext_Troupe (M : zMem) (q : Nat)  : zExt M (zk_Troupe M q ) 37 (0 + 8 + (0 + 1 + (0 + 4) + 1 + (0 + 24) + 1 + (0 + 576) + 1 + (0 + 24) + 1 + (0 + 24)) + 8 + (0 + 1 + (0 + 35) + 1 + (0 + 35) + 1 + (0 + 35) + 1 + (0 + 27) + 1 + (0 + 729)) + 3 + (0 + 1 + (0 + 1080) + 1 + (0 + 27)) + 5 + (0 + 1 + (0 + 27) + 1 + (0 + 24)) + 7 + (0 + 1 + (0 + 24)) + 1 + (0 + 8)) q := by
  have he0 : zExt M M 0 0 q := zExt.rf
  have he1 : zExt M (zk_Troupe_1 M q ) 1 (0 + 8) q := he0.al
  have he2 : zExt M (zk_Troupe_2 M q ) 11 (0 + 8 + (0 + 1 + (0 + 4) + 1 + (0 + 24) + 1 + (0 + 576) + 1 + (0 + 24) + 1 + (0 + 24))) q := he1.call (ext_Group (zk_Troupe_1 M q ) (zn (M))) (by have := he0.1; omega)
  have he3 : zExt M (zk_Troupe_3 M q ) 11 (0 + 8 + (0 + 1 + (0 + 4) + 1 + (0 + 24) + 1 + (0 + 576) + 1 + (0 + 24) + 1 + (0 + 24))) q := he2.put
  have he4 : zExt M (zk_Troupe_4 M q ) 12 (0 + 8 + (0 + 1 + (0 + 4) + 1 + (0 + 24) + 1 + (0 + 576) + 1 + (0 + 24) + 1 + (0 + 24)) + 8) q := he3.al
  have he5 : zExt M (zk_Troupe_5 M q ) 22 (0 + 8 + (0 + 1 + (0 + 4) + 1 + (0 + 24) + 1 + (0 + 576) + 1 + (0 + 24) + 1 + (0 + 24)) + 8 + (0 + 1 + (0 + 35) + 1 + (0 + 35) + 1 + (0 + 35) + 1 + (0 + 27) + 1 + (0 + 729))) q := he4.call (ext_Sorts (zk_Troupe_4 M q ) (zn (zk_Troupe_3 M q )) (zn (M))) (by have := he3.1; omega)
  have he6 : zExt M (zk_Troupe_6 M q ) 22 (0 + 8 + (0 + 1 + (0 + 4) + 1 + (0 + 24) + 1 + (0 + 576) + 1 + (0 + 24) + 1 + (0 + 24)) + 8 + (0 + 1 + (0 + 35) + 1 + (0 + 35) + 1 + (0 + 35) + 1 + (0 + 27) + 1 + (0 + 729))) q := he5.put
  have he7 : zExt M (zk_Troupe_7 M q ) 23 (0 + 8 + (0 + 1 + (0 + 4) + 1 + (0 + 24) + 1 + (0 + 576) + 1 + (0 + 24) + 1 + (0 + 24)) + 8 + (0 + 1 + (0 + 35) + 1 + (0 + 35) + 1 + (0 + 35) + 1 + (0 + 27) + 1 + (0 + 729)) + 3) q := he6.al
  have he8 : zExt M (zk_Troupe_8 M q ) 27 (0 + 8 + (0 + 1 + (0 + 4) + 1 + (0 + 24) + 1 + (0 + 576) + 1 + (0 + 24) + 1 + (0 + 24)) + 8 + (0 + 1 + (0 + 35) + 1 + (0 + 35) + 1 + (0 + 35) + 1 + (0 + 27) + 1 + (0 + 729)) + 3 + (0 + 1 + (0 + 1080) + 1 + (0 + 27))) q := he7.call (ext_Sums (zk_Troupe_7 M q ) (zn (zk_Troupe_6 M q )) (zn (zk_Troupe_3 M q ))) (by have := he6.1; omega)
  have he9 : zExt M (zk_Troupe_9 M q ) 27 (0 + 8 + (0 + 1 + (0 + 4) + 1 + (0 + 24) + 1 + (0 + 576) + 1 + (0 + 24) + 1 + (0 + 24)) + 8 + (0 + 1 + (0 + 35) + 1 + (0 + 35) + 1 + (0 + 35) + 1 + (0 + 27) + 1 + (0 + 729)) + 3 + (0 + 1 + (0 + 1080) + 1 + (0 + 27))) q := he8.put
  have he10 : zExt M (zk_Troupe_10 M q ) 28 (0 + 8 + (0 + 1 + (0 + 4) + 1 + (0 + 24) + 1 + (0 + 576) + 1 + (0 + 24) + 1 + (0 + 24)) + 8 + (0 + 1 + (0 + 35) + 1 + (0 + 35) + 1 + (0 + 35) + 1 + (0 + 27) + 1 + (0 + 729)) + 3 + (0 + 1 + (0 + 1080) + 1 + (0 + 27)) + 5) q := he9.al
  have he11 : zExt M (zk_Troupe_11 M q ) 32 (0 + 8 + (0 + 1 + (0 + 4) + 1 + (0 + 24) + 1 + (0 + 576) + 1 + (0 + 24) + 1 + (0 + 24)) + 8 + (0 + 1 + (0 + 35) + 1 + (0 + 35) + 1 + (0 + 35) + 1 + (0 + 27) + 1 + (0 + 729)) + 3 + (0 + 1 + (0 + 1080) + 1 + (0 + 27)) + 5 + (0 + 1 + (0 + 27) + 1 + (0 + 24))) q := he10.call (ext_Units (zk_Troupe_10 M q ) (zn (zk_Troupe_9 M q )) (zn (zk_Troupe_3 M q ))) (by have := he9.1; omega)
  have he12 : zExt M (zk_Troupe_12 M q ) 32 (0 + 8 + (0 + 1 + (0 + 4) + 1 + (0 + 24) + 1 + (0 + 576) + 1 + (0 + 24) + 1 + (0 + 24)) + 8 + (0 + 1 + (0 + 35) + 1 + (0 + 35) + 1 + (0 + 35) + 1 + (0 + 27) + 1 + (0 + 729)) + 3 + (0 + 1 + (0 + 1080) + 1 + (0 + 27)) + 5 + (0 + 1 + (0 + 27) + 1 + (0 + 24))) q := he11.put
  have he13 : zExt M (zk_Troupe_13 M q ) 33 (0 + 8 + (0 + 1 + (0 + 4) + 1 + (0 + 24) + 1 + (0 + 576) + 1 + (0 + 24) + 1 + (0 + 24)) + 8 + (0 + 1 + (0 + 35) + 1 + (0 + 35) + 1 + (0 + 35) + 1 + (0 + 27) + 1 + (0 + 729)) + 3 + (0 + 1 + (0 + 1080) + 1 + (0 + 27)) + 5 + (0 + 1 + (0 + 27) + 1 + (0 + 24)) + 7) q := he12.al
  have he14 : zExt M (zk_Troupe_14 M q ) 35 (0 + 8 + (0 + 1 + (0 + 4) + 1 + (0 + 24) + 1 + (0 + 576) + 1 + (0 + 24) + 1 + (0 + 24)) + 8 + (0 + 1 + (0 + 35) + 1 + (0 + 35) + 1 + (0 + 35) + 1 + (0 + 27) + 1 + (0 + 729)) + 3 + (0 + 1 + (0 + 1080) + 1 + (0 + 27)) + 5 + (0 + 1 + (0 + 27) + 1 + (0 + 24)) + 7 + (0 + 1 + (0 + 24))) q := he13.call (ext_Calc (zk_Troupe_13 M q ) (zn (zk_Troupe_12 M q )) (zn (zk_Troupe_6 M q ))) (by have := he12.1; omega)
  have he15 : zExt M (zk_Troupe_15 M q ) 35 (0 + 8 + (0 + 1 + (0 + 4) + 1 + (0 + 24) + 1 + (0 + 576) + 1 + (0 + 24) + 1 + (0 + 24)) + 8 + (0 + 1 + (0 + 35) + 1 + (0 + 35) + 1 + (0 + 35) + 1 + (0 + 27) + 1 + (0 + 729)) + 3 + (0 + 1 + (0 + 1080) + 1 + (0 + 27)) + 5 + (0 + 1 + (0 + 27) + 1 + (0 + 24)) + 7 + (0 + 1 + (0 + 24))) q := he14.put
  have he16 : zExt M (zk_Troupe_16 M q ) 36 (0 + 8 + (0 + 1 + (0 + 4) + 1 + (0 + 24) + 1 + (0 + 576) + 1 + (0 + 24) + 1 + (0 + 24)) + 8 + (0 + 1 + (0 + 35) + 1 + (0 + 35) + 1 + (0 + 35) + 1 + (0 + 27) + 1 + (0 + 729)) + 3 + (0 + 1 + (0 + 1080) + 1 + (0 + 27)) + 5 + (0 + 1 + (0 + 27) + 1 + (0 + 24)) + 7 + (0 + 1 + (0 + 24)) + 1) q := he15.al
  have he17 : zExt M (zk_Troupe_17 M q ) 37 (0 + 8 + (0 + 1 + (0 + 4) + 1 + (0 + 24) + 1 + (0 + 576) + 1 + (0 + 24) + 1 + (0 + 24)) + 8 + (0 + 1 + (0 + 35) + 1 + (0 + 35) + 1 + (0 + 35) + 1 + (0 + 27) + 1 + (0 + 729)) + 3 + (0 + 1 + (0 + 1080) + 1 + (0 + 27)) + 5 + (0 + 1 + (0 + 27) + 1 + (0 + 24)) + 7 + (0 + 1 + (0 + 24)) + 1 + (0 + 8)) q := he16.call (ext_IntRow (zk_Troupe_16 M q ) (zn (zk_Troupe_15 M q )) 8) (by have := he15.1; omega)
  have he18 : zExt M (zk_Troupe_18 M q ) 37 (0 + 8 + (0 + 1 + (0 + 4) + 1 + (0 + 24) + 1 + (0 + 576) + 1 + (0 + 24) + 1 + (0 + 24)) + 8 + (0 + 1 + (0 + 35) + 1 + (0 + 35) + 1 + (0 + 35) + 1 + (0 + 27) + 1 + (0 + 729)) + 3 + (0 + 1 + (0 + 1080) + 1 + (0 + 27)) + 5 + (0 + 1 + (0 + 27) + 1 + (0 + 24)) + 7 + (0 + 1 + (0 + 24)) + 1 + (0 + 8)) q := he17.put
  exact he18
set_option maxRecDepth 20000 in
set_option maxHeartbeats 4000000 in
theorem k_Troupe (l : Launch) (M : zMem) (q : Nat) (hq : q < zn M) (hqk : (zsh M q).1 = 4 + 3)  (hm : zn M + 37 < 1000000) : zC l m_Troupe_init 37 (0 + 8 + (0 + 1 + (0 + 4) + 1 + (0 + 24) + 1 + (0 + 576) + 1 + (0 + 24) + 1 + (0 + 24)) + 8 + (0 + 1 + (0 + 35) + 1 + (0 + 35) + 1 + (0 + 35) + 1 + (0 + 27) + 1 + (0 + 729)) + 3 + (0 + 1 + (0 + 1080) + 1 + (0 + 27)) + 5 + (0 + 1 + (0 + 27) + 1 + (0 + 24)) + 7 + (0 + 1 + (0 + 24)) + 1 + (0 + 8)) [.ref q] M (fun r M' => r = none ∧ M' = zk_Troupe M q ) := by
  have hex := ext_Troupe M q 
  refine zC_of (L0 := [some (.ref q)]) md_Troupe_init (Nat.le_of_ble_eq_true rfl) rfl ?_ (fun r M' h _ => by obtain ⟨-, rfl⟩ := h; exact ⟨hex.1, hex.2.1⟩)
  have he0 : zExt M M 0 0 q := zExt.rf
  refine zw_aload_n (pc := 0) (n := 0) (x := q) rfl (zdal_p dlA_Troupe_init_5 (i := 0) rfl) ?_
  refine zw_objInit (pc := 1) o_Troupe_3 o_in o_co (by decide) (Nat.le_of_ble_eq_true rfl) (zdal_p dlA_Troupe_init_5 (i := 1) rfl) ?_
  refine zw_aload_n (pc := 4) (n := 0) (x := q) rfl (zdal_p dlA_Troupe_init_5 (i := 2) rfl) ?_
  refine zw_new (pc := 5) (ci := 5) (by decide) n_Troupe_9 (by have := he0.1; omega) (by have := he0.1; show _ ≤ zn M + 37; omega) (by have := he0.2.1; show _ + 8 ≤ zw M + (0 + 8 + (0 + 1 + (0 + 4) + 1 + (0 + 24) + 1 + (0 + 576) + 1 + (0 + 24) + 1 + (0 + 24)) + 8 + (0 + 1 + (0 + 35) + 1 + (0 + 35) + 1 + (0 + 35) + 1 + (0 + 27) + 1 + (0 + 729)) + 3 + (0 + 1 + (0 + 1080) + 1 + (0 + 27)) + 5 + (0 + 1 + (0 + 27) + 1 + (0 + 24)) + 7 + (0 + 1 + (0 + 24)) + 1 + (0 + 8)); omega) (by decide) (zdal_p dlA_Troupe_init_5 (i := 3) rfl) ?_
  have he1 : zExt M (zk_Troupe_1 M q ) 1 (0 + 8) q := he0.al
  show zW l m_Troupe_init (zn M + 37, zw M + (0 + 8 + (0 + 1 + (0 + 4) + 1 + (0 + 24) + 1 + (0 + 576) + 1 + (0 + 24) + 1 + (0 + 24)) + 8 + (0 + 1 + (0 + 35) + 1 + (0 + 35) + 1 + (0 + 35) + 1 + (0 + 27) + 1 + (0 + 729)) + 3 + (0 + 1 + (0 + 1080) + 1 + (0 + 27)) + 5 + (0 + 1 + (0 + 27) + 1 + (0 + 24)) + 7 + (0 + 1 + (0 + 24)) + 1 + (0 + 8))) (zk_Troupe_1 M q ) 8 [some (.ref q)] [.ref (zn (M)), .ref q] _
  refine zw_dup (pc := 8) rfl (zdal_p dlA_Troupe_init_5 (i := 4) rfl) ?_
  refine zw_callI (pc := 9) (mc := 10) (ms := (0 + 1 + (0 + 4) + 1 + (0 + 24) + 1 + (0 + 576) + 1 + (0 + 24) + 1 + (0 + 24))) (b := zn (M)) [] [.ref (zn (M)), .ref q] l_Troupe_11 (k_Group l (zk_Troupe_1 M q ) (zn (M)) (by have := he1.1; show zn (M) < zn (M) + 1; omega) (congrArg Prod.fst (zal_sh (M := M) (t := 8) (n := 8)))  (by have := he1.1; omega)) rfl rfl (by decide) ⟨by have := he1.1; show _ ≤ zn M + 37; omega, by have := he1.2.1; show _ ≤ zw M + (0 + 8 + (0 + 1 + (0 + 4) + 1 + (0 + 24) + 1 + (0 + 576) + 1 + (0 + 24) + 1 + (0 + 24)) + 8 + (0 + 1 + (0 + 35) + 1 + (0 + 35) + 1 + (0 + 35) + 1 + (0 + 27) + 1 + (0 + 729)) + 3 + (0 + 1 + (0 + 1080) + 1 + (0 + 27)) + 5 + (0 + 1 + (0 + 27) + 1 + (0 + 24)) + 7 + (0 + 1 + (0 + 24)) + 1 + (0 + 8)); omega⟩ (Nat.le_of_ble_eq_true rfl) (zdal_p dlA_Troupe_init_5 (i := 5) rfl) (fun r M9 h9 _ _ => ?_)
  obtain ⟨rfl, rfl⟩ := h9
  have he2 : zExt M (zk_Troupe_2 M q ) 11 (0 + 8 + (0 + 1 + (0 + 4) + 1 + (0 + 24) + 1 + (0 + 576) + 1 + (0 + 24) + 1 + (0 + 24))) q := he1.call (ext_Group (zk_Troupe_1 M q ) (zn (M))) (by have := he0.1; omega)
  show zW l m_Troupe_init (zn M + 37, zw M + (0 + 8 + (0 + 1 + (0 + 4) + 1 + (0 + 24) + 1 + (0 + 576) + 1 + (0 + 24) + 1 + (0 + 24)) + 8 + (0 + 1 + (0 + 35) + 1 + (0 + 35) + 1 + (0 + 35) + 1 + (0 + 27) + 1 + (0 + 729)) + 3 + (0 + 1 + (0 + 1080) + 1 + (0 + 27)) + 5 + (0 + 1 + (0 + 27) + 1 + (0 + 24)) + 7 + (0 + 1 + (0 + 24)) + 1 + (0 + 8))) (zk_Troupe_2 M q ) 12 [some (.ref q)] [.ref (zn (M)), .ref q] _
  refine zw_putR (pc := 12) (x := zn (M)) (Or.inr ⟨g_Troupe_12, rfl, rfl, rfl⟩) rfl (he2.q hq hqk) (fun _ => rfl) (fun _ => rfl) (zdal_p dlA_Troupe_init_5 (i := 6) rfl) ?_
  have he3 : zExt M (zk_Troupe_3 M q ) 11 (0 + 8 + (0 + 1 + (0 + 4) + 1 + (0 + 24) + 1 + (0 + 576) + 1 + (0 + 24) + 1 + (0 + 24))) q := he2.put
  show zW l m_Troupe_init (zn M + 37, zw M + (0 + 8 + (0 + 1 + (0 + 4) + 1 + (0 + 24) + 1 + (0 + 576) + 1 + (0 + 24) + 1 + (0 + 24)) + 8 + (0 + 1 + (0 + 35) + 1 + (0 + 35) + 1 + (0 + 35) + 1 + (0 + 27) + 1 + (0 + 729)) + 3 + (0 + 1 + (0 + 1080) + 1 + (0 + 27)) + 5 + (0 + 1 + (0 + 27) + 1 + (0 + 24)) + 7 + (0 + 1 + (0 + 24)) + 1 + (0 + 8))) (zk_Troupe_3 M q ) 15 [some (.ref q)] [] _
  have kn3 : zf (zk_Troupe_3 M q ) q 0 = some (zn (M)) := zup2_s
  refine zw_aload_n (pc := 15) (n := 0) (x := q) rfl (zdal_p dlA_Troupe_init_5 (i := 7) rfl) ?_
  refine zw_new (pc := 16) (ci := 6) (by decide) n_Troupe_18 (by have := he3.1; omega) (by have := he3.1; show _ ≤ zn M + 37; omega) (by have := he3.2.1; show _ + 8 ≤ zw M + (0 + 8 + (0 + 1 + (0 + 4) + 1 + (0 + 24) + 1 + (0 + 576) + 1 + (0 + 24) + 1 + (0 + 24)) + 8 + (0 + 1 + (0 + 35) + 1 + (0 + 35) + 1 + (0 + 35) + 1 + (0 + 27) + 1 + (0 + 729)) + 3 + (0 + 1 + (0 + 1080) + 1 + (0 + 27)) + 5 + (0 + 1 + (0 + 27) + 1 + (0 + 24)) + 7 + (0 + 1 + (0 + 24)) + 1 + (0 + 8)); omega) (by decide) (zdal_p dlA_Troupe_init_5 (i := 8) rfl) ?_
  have he4 : zExt M (zk_Troupe_4 M q ) 12 (0 + 8 + (0 + 1 + (0 + 4) + 1 + (0 + 24) + 1 + (0 + 576) + 1 + (0 + 24) + 1 + (0 + 24)) + 8) q := he3.al
  have kf4_0 : zf (zk_Troupe_4 M q ) q 0 = some (zn (M)) := (congrFun (zal_old (by have := he3.1; omega)).2 0).trans kn3
  show zW l m_Troupe_init (zn M + 37, zw M + (0 + 8 + (0 + 1 + (0 + 4) + 1 + (0 + 24) + 1 + (0 + 576) + 1 + (0 + 24) + 1 + (0 + 24)) + 8 + (0 + 1 + (0 + 35) + 1 + (0 + 35) + 1 + (0 + 35) + 1 + (0 + 27) + 1 + (0 + 729)) + 3 + (0 + 1 + (0 + 1080) + 1 + (0 + 27)) + 5 + (0 + 1 + (0 + 27) + 1 + (0 + 24)) + 7 + (0 + 1 + (0 + 24)) + 1 + (0 + 8))) (zk_Troupe_4 M q ) 19 [some (.ref q)] [.ref (zn (zk_Troupe_3 M q )), .ref q] _
  refine zw_dup (pc := 19) rfl (zdal_p dlA_Troupe_init_5 (i := 9) rfl) ?_
  refine zw_aload_n (pc := 20) (n := 0) (x := q) rfl (zdal_p dlA_Troupe_init_5 (i := 10) rfl) ?_
  refine zw_getF (pc := 21) f_Troupe_12 rfl (he4.q hq hqk) kf4_0 (zdal_p dlA_Troupe_init_5 (i := 11) rfl) ?_
  refine zw_callI (pc := 24) (mc := 10) (ms := (0 + 1 + (0 + 35) + 1 + (0 + 35) + 1 + (0 + 35) + 1 + (0 + 27) + 1 + (0 + 729))) (b := zn (zk_Troupe_3 M q )) [.ref (zn (M))] [.ref (zn (zk_Troupe_3 M q )), .ref q] l_Troupe_20 (k_Sorts l (zk_Troupe_4 M q ) (zn (zk_Troupe_3 M q )) (by have := he4.1; show zn (zk_Troupe_3 M q ) < zn (zk_Troupe_3 M q ) + 1; omega) (congrArg Prod.fst (zal_sh (M := zk_Troupe_3 M q ) (t := 9) (n := 8))) (zn (M)) (by have := he4.1; omega)) rfl rfl (by decide) ⟨by have := he4.1; show _ ≤ zn M + 37; omega, by have := he4.2.1; show _ ≤ zw M + (0 + 8 + (0 + 1 + (0 + 4) + 1 + (0 + 24) + 1 + (0 + 576) + 1 + (0 + 24) + 1 + (0 + 24)) + 8 + (0 + 1 + (0 + 35) + 1 + (0 + 35) + 1 + (0 + 35) + 1 + (0 + 27) + 1 + (0 + 729)) + 3 + (0 + 1 + (0 + 1080) + 1 + (0 + 27)) + 5 + (0 + 1 + (0 + 27) + 1 + (0 + 24)) + 7 + (0 + 1 + (0 + 24)) + 1 + (0 + 8)); omega⟩ (Nat.le_of_ble_eq_true rfl) (zdal_p dlA_Troupe_init_5 (i := 12) rfl) (fun r M9 h9 _ _ => ?_)
  obtain ⟨rfl, rfl⟩ := h9
  have he5 : zExt M (zk_Troupe_5 M q ) 22 (0 + 8 + (0 + 1 + (0 + 4) + 1 + (0 + 24) + 1 + (0 + 576) + 1 + (0 + 24) + 1 + (0 + 24)) + 8 + (0 + 1 + (0 + 35) + 1 + (0 + 35) + 1 + (0 + 35) + 1 + (0 + 27) + 1 + (0 + 729))) q := he4.call (ext_Sorts (zk_Troupe_4 M q ) (zn (zk_Troupe_3 M q )) (zn (M))) (by have := he3.1; omega)
  have kf5_0 : zf (zk_Troupe_5 M q ) q 0 = some (zn (M)) := (congrFun ((ext_Sorts (zk_Troupe_4 M q ) (zn (zk_Troupe_3 M q )) (zn (M))).2.2.2 q (by have := he4.1; omega) (by have := he3.1; omega)) 0).trans kf4_0
  show zW l m_Troupe_init (zn M + 37, zw M + (0 + 8 + (0 + 1 + (0 + 4) + 1 + (0 + 24) + 1 + (0 + 576) + 1 + (0 + 24) + 1 + (0 + 24)) + 8 + (0 + 1 + (0 + 35) + 1 + (0 + 35) + 1 + (0 + 35) + 1 + (0 + 27) + 1 + (0 + 729)) + 3 + (0 + 1 + (0 + 1080) + 1 + (0 + 27)) + 5 + (0 + 1 + (0 + 27) + 1 + (0 + 24)) + 7 + (0 + 1 + (0 + 24)) + 1 + (0 + 8))) (zk_Troupe_5 M q ) 27 [some (.ref q)] [.ref (zn (zk_Troupe_3 M q )), .ref q] _
  refine zw_putR (pc := 27) (x := zn (zk_Troupe_3 M q )) (Or.inr ⟨g_Troupe_23, rfl, rfl, rfl⟩) rfl (he5.q hq hqk) (fun _ => rfl) (fun _ => rfl) (zdal_p dlA_Troupe_init_5 (i := 13) rfl) ?_
  have he6 : zExt M (zk_Troupe_6 M q ) 22 (0 + 8 + (0 + 1 + (0 + 4) + 1 + (0 + 24) + 1 + (0 + 576) + 1 + (0 + 24) + 1 + (0 + 24)) + 8 + (0 + 1 + (0 + 35) + 1 + (0 + 35) + 1 + (0 + 35) + 1 + (0 + 27) + 1 + (0 + 729))) q := he5.put
  have kf6_0 : zf (zk_Troupe_6 M q ) q 0 = some (zn (M)) := (zup2_n (fun z => absurd z.2 (by decide))).trans kf5_0
  show zW l m_Troupe_init (zn M + 37, zw M + (0 + 8 + (0 + 1 + (0 + 4) + 1 + (0 + 24) + 1 + (0 + 576) + 1 + (0 + 24) + 1 + (0 + 24)) + 8 + (0 + 1 + (0 + 35) + 1 + (0 + 35) + 1 + (0 + 35) + 1 + (0 + 27) + 1 + (0 + 729)) + 3 + (0 + 1 + (0 + 1080) + 1 + (0 + 27)) + 5 + (0 + 1 + (0 + 27) + 1 + (0 + 24)) + 7 + (0 + 1 + (0 + 24)) + 1 + (0 + 8))) (zk_Troupe_6 M q ) 30 [some (.ref q)] [] _
  have kn6 : zf (zk_Troupe_6 M q ) q 1 = some (zn (zk_Troupe_3 M q )) := zup2_s
  refine zw_aload_n (pc := 30) (n := 0) (x := q) rfl (zdal_p dlA_Troupe_init_5 (i := 14) rfl) ?_
  refine zw_new (pc := 31) (ci := 7) (by decide) n_Troupe_27 (by have := he6.1; omega) (by have := he6.1; show _ ≤ zn M + 37; omega) (by have := he6.2.1; show _ + 3 ≤ zw M + (0 + 8 + (0 + 1 + (0 + 4) + 1 + (0 + 24) + 1 + (0 + 576) + 1 + (0 + 24) + 1 + (0 + 24)) + 8 + (0 + 1 + (0 + 35) + 1 + (0 + 35) + 1 + (0 + 35) + 1 + (0 + 27) + 1 + (0 + 729)) + 3 + (0 + 1 + (0 + 1080) + 1 + (0 + 27)) + 5 + (0 + 1 + (0 + 27) + 1 + (0 + 24)) + 7 + (0 + 1 + (0 + 24)) + 1 + (0 + 8)); omega) (by decide) (zdal_p dlA_Troupe_init_5 (i := 15) rfl) ?_
  have he7 : zExt M (zk_Troupe_7 M q ) 23 (0 + 8 + (0 + 1 + (0 + 4) + 1 + (0 + 24) + 1 + (0 + 576) + 1 + (0 + 24) + 1 + (0 + 24)) + 8 + (0 + 1 + (0 + 35) + 1 + (0 + 35) + 1 + (0 + 35) + 1 + (0 + 27) + 1 + (0 + 729)) + 3) q := he6.al
  have kf7_0 : zf (zk_Troupe_7 M q ) q 0 = some (zn (M)) := (congrFun (zal_old (by have := he6.1; omega)).2 0).trans kf6_0
  have kf7_1 : zf (zk_Troupe_7 M q ) q 1 = some (zn (zk_Troupe_3 M q )) := (congrFun (zal_old (by have := he6.1; omega)).2 1).trans kn6
  show zW l m_Troupe_init (zn M + 37, zw M + (0 + 8 + (0 + 1 + (0 + 4) + 1 + (0 + 24) + 1 + (0 + 576) + 1 + (0 + 24) + 1 + (0 + 24)) + 8 + (0 + 1 + (0 + 35) + 1 + (0 + 35) + 1 + (0 + 35) + 1 + (0 + 27) + 1 + (0 + 729)) + 3 + (0 + 1 + (0 + 1080) + 1 + (0 + 27)) + 5 + (0 + 1 + (0 + 27) + 1 + (0 + 24)) + 7 + (0 + 1 + (0 + 24)) + 1 + (0 + 8))) (zk_Troupe_7 M q ) 34 [some (.ref q)] [.ref (zn (zk_Troupe_6 M q )), .ref q] _
  refine zw_dup (pc := 34) rfl (zdal_p dlA_Troupe_init_5 (i := 16) rfl) ?_
  refine zw_aload_n (pc := 35) (n := 0) (x := q) rfl (zdal_p dlA_Troupe_init_5 (i := 17) rfl) ?_
  refine zw_getF (pc := 36) f_Troupe_23 rfl (he7.q hq hqk) kf7_1 (zdal_p dlA_Troupe_init_5 (i := 18) rfl) ?_
  refine zw_callI (pc := 39) (mc := 4) (ms := (0 + 1 + (0 + 1080) + 1 + (0 + 27))) (b := zn (zk_Troupe_6 M q )) [.ref (zn (zk_Troupe_3 M q ))] [.ref (zn (zk_Troupe_6 M q )), .ref q] l_Troupe_29 (k_Sums l (zk_Troupe_7 M q ) (zn (zk_Troupe_6 M q )) (by have := he7.1; show zn (zk_Troupe_6 M q ) < zn (zk_Troupe_6 M q ) + 1; omega) (congrArg Prod.fst (zal_sh (M := zk_Troupe_6 M q ) (t := 10) (n := 3))) (zn (zk_Troupe_3 M q )) (by have := he7.1; omega)) rfl rfl (by decide) ⟨by have := he7.1; show _ ≤ zn M + 37; omega, by have := he7.2.1; show _ ≤ zw M + (0 + 8 + (0 + 1 + (0 + 4) + 1 + (0 + 24) + 1 + (0 + 576) + 1 + (0 + 24) + 1 + (0 + 24)) + 8 + (0 + 1 + (0 + 35) + 1 + (0 + 35) + 1 + (0 + 35) + 1 + (0 + 27) + 1 + (0 + 729)) + 3 + (0 + 1 + (0 + 1080) + 1 + (0 + 27)) + 5 + (0 + 1 + (0 + 27) + 1 + (0 + 24)) + 7 + (0 + 1 + (0 + 24)) + 1 + (0 + 8)); omega⟩ (Nat.le_of_ble_eq_true rfl) (zdal_p dlA_Troupe_init_5 (i := 19) rfl) (fun r M9 h9 _ _ => ?_)
  obtain ⟨rfl, rfl⟩ := h9
  have he8 : zExt M (zk_Troupe_8 M q ) 27 (0 + 8 + (0 + 1 + (0 + 4) + 1 + (0 + 24) + 1 + (0 + 576) + 1 + (0 + 24) + 1 + (0 + 24)) + 8 + (0 + 1 + (0 + 35) + 1 + (0 + 35) + 1 + (0 + 35) + 1 + (0 + 27) + 1 + (0 + 729)) + 3 + (0 + 1 + (0 + 1080) + 1 + (0 + 27))) q := he7.call (ext_Sums (zk_Troupe_7 M q ) (zn (zk_Troupe_6 M q )) (zn (zk_Troupe_3 M q ))) (by have := he6.1; omega)
  have kf8_0 : zf (zk_Troupe_8 M q ) q 0 = some (zn (M)) := (congrFun ((ext_Sums (zk_Troupe_7 M q ) (zn (zk_Troupe_6 M q )) (zn (zk_Troupe_3 M q ))).2.2.2 q (by have := he7.1; omega) (by have := he6.1; omega)) 0).trans kf7_0
  have kf8_1 : zf (zk_Troupe_8 M q ) q 1 = some (zn (zk_Troupe_3 M q )) := (congrFun ((ext_Sums (zk_Troupe_7 M q ) (zn (zk_Troupe_6 M q )) (zn (zk_Troupe_3 M q ))).2.2.2 q (by have := he7.1; omega) (by have := he6.1; omega)) 1).trans kf7_1
  show zW l m_Troupe_init (zn M + 37, zw M + (0 + 8 + (0 + 1 + (0 + 4) + 1 + (0 + 24) + 1 + (0 + 576) + 1 + (0 + 24) + 1 + (0 + 24)) + 8 + (0 + 1 + (0 + 35) + 1 + (0 + 35) + 1 + (0 + 35) + 1 + (0 + 27) + 1 + (0 + 729)) + 3 + (0 + 1 + (0 + 1080) + 1 + (0 + 27)) + 5 + (0 + 1 + (0 + 27) + 1 + (0 + 24)) + 7 + (0 + 1 + (0 + 24)) + 1 + (0 + 8))) (zk_Troupe_8 M q ) 42 [some (.ref q)] [.ref (zn (zk_Troupe_6 M q )), .ref q] _
  refine zw_putR (pc := 42) (x := zn (zk_Troupe_6 M q )) (Or.inr ⟨g_Troupe_32, rfl, rfl, rfl⟩) rfl (he8.q hq hqk) (fun _ => rfl) (fun _ => rfl) (zdal_p dlA_Troupe_init_5 (i := 20) rfl) ?_
  have he9 : zExt M (zk_Troupe_9 M q ) 27 (0 + 8 + (0 + 1 + (0 + 4) + 1 + (0 + 24) + 1 + (0 + 576) + 1 + (0 + 24) + 1 + (0 + 24)) + 8 + (0 + 1 + (0 + 35) + 1 + (0 + 35) + 1 + (0 + 35) + 1 + (0 + 27) + 1 + (0 + 729)) + 3 + (0 + 1 + (0 + 1080) + 1 + (0 + 27))) q := he8.put
  have kf9_0 : zf (zk_Troupe_9 M q ) q 0 = some (zn (M)) := (zup2_n (fun z => absurd z.2 (by decide))).trans kf8_0
  have kf9_1 : zf (zk_Troupe_9 M q ) q 1 = some (zn (zk_Troupe_3 M q )) := (zup2_n (fun z => absurd z.2 (by decide))).trans kf8_1
  show zW l m_Troupe_init (zn M + 37, zw M + (0 + 8 + (0 + 1 + (0 + 4) + 1 + (0 + 24) + 1 + (0 + 576) + 1 + (0 + 24) + 1 + (0 + 24)) + 8 + (0 + 1 + (0 + 35) + 1 + (0 + 35) + 1 + (0 + 35) + 1 + (0 + 27) + 1 + (0 + 729)) + 3 + (0 + 1 + (0 + 1080) + 1 + (0 + 27)) + 5 + (0 + 1 + (0 + 27) + 1 + (0 + 24)) + 7 + (0 + 1 + (0 + 24)) + 1 + (0 + 8))) (zk_Troupe_9 M q ) 45 [some (.ref q)] [] _
  have kn9 : zf (zk_Troupe_9 M q ) q 2 = some (zn (zk_Troupe_6 M q )) := zup2_s
  refine zw_aload_n (pc := 45) (n := 0) (x := q) rfl (zdal_p dlA_Troupe_init_5 (i := 21) rfl) ?_
  refine zw_new (pc := 46) (ci := 9) (by decide) n_Troupe_36 (by have := he9.1; omega) (by have := he9.1; show _ ≤ zn M + 37; omega) (by have := he9.2.1; show _ + 5 ≤ zw M + (0 + 8 + (0 + 1 + (0 + 4) + 1 + (0 + 24) + 1 + (0 + 576) + 1 + (0 + 24) + 1 + (0 + 24)) + 8 + (0 + 1 + (0 + 35) + 1 + (0 + 35) + 1 + (0 + 35) + 1 + (0 + 27) + 1 + (0 + 729)) + 3 + (0 + 1 + (0 + 1080) + 1 + (0 + 27)) + 5 + (0 + 1 + (0 + 27) + 1 + (0 + 24)) + 7 + (0 + 1 + (0 + 24)) + 1 + (0 + 8)); omega) (by decide) (zdal_p dlA_Troupe_init_5 (i := 22) rfl) ?_
  have he10 : zExt M (zk_Troupe_10 M q ) 28 (0 + 8 + (0 + 1 + (0 + 4) + 1 + (0 + 24) + 1 + (0 + 576) + 1 + (0 + 24) + 1 + (0 + 24)) + 8 + (0 + 1 + (0 + 35) + 1 + (0 + 35) + 1 + (0 + 35) + 1 + (0 + 27) + 1 + (0 + 729)) + 3 + (0 + 1 + (0 + 1080) + 1 + (0 + 27)) + 5) q := he9.al
  have kf10_0 : zf (zk_Troupe_10 M q ) q 0 = some (zn (M)) := (congrFun (zal_old (by have := he9.1; omega)).2 0).trans kf9_0
  have kf10_1 : zf (zk_Troupe_10 M q ) q 1 = some (zn (zk_Troupe_3 M q )) := (congrFun (zal_old (by have := he9.1; omega)).2 1).trans kf9_1
  have kf10_2 : zf (zk_Troupe_10 M q ) q 2 = some (zn (zk_Troupe_6 M q )) := (congrFun (zal_old (by have := he9.1; omega)).2 2).trans kn9
  show zW l m_Troupe_init (zn M + 37, zw M + (0 + 8 + (0 + 1 + (0 + 4) + 1 + (0 + 24) + 1 + (0 + 576) + 1 + (0 + 24) + 1 + (0 + 24)) + 8 + (0 + 1 + (0 + 35) + 1 + (0 + 35) + 1 + (0 + 35) + 1 + (0 + 27) + 1 + (0 + 729)) + 3 + (0 + 1 + (0 + 1080) + 1 + (0 + 27)) + 5 + (0 + 1 + (0 + 27) + 1 + (0 + 24)) + 7 + (0 + 1 + (0 + 24)) + 1 + (0 + 8))) (zk_Troupe_10 M q ) 49 [some (.ref q)] [.ref (zn (zk_Troupe_9 M q )), .ref q] _
  refine zw_dup (pc := 49) rfl (zdal_p dlA_Troupe_init_5 (i := 23) rfl) ?_
  refine zw_aload_n (pc := 50) (n := 0) (x := q) rfl (zdal_p dlA_Troupe_init_6 (i := 0) rfl) ?_
  refine zw_getF (pc := 51) f_Troupe_23 rfl (he10.q hq hqk) kf10_1 (zdal_p dlA_Troupe_init_6 (i := 1) rfl) ?_
  refine zw_callI (pc := 54) (mc := 4) (ms := (0 + 1 + (0 + 27) + 1 + (0 + 24))) (b := zn (zk_Troupe_9 M q )) [.ref (zn (zk_Troupe_3 M q ))] [.ref (zn (zk_Troupe_9 M q )), .ref q] l_Troupe_38 (k_Units l (zk_Troupe_10 M q ) (zn (zk_Troupe_9 M q )) (by have := he10.1; show zn (zk_Troupe_9 M q ) < zn (zk_Troupe_9 M q ) + 1; omega) (congrArg Prod.fst (zal_sh (M := zk_Troupe_9 M q ) (t := 12) (n := 5))) (zn (zk_Troupe_3 M q )) (by have := he10.1; omega)) rfl rfl (by decide) ⟨by have := he10.1; show _ ≤ zn M + 37; omega, by have := he10.2.1; show _ ≤ zw M + (0 + 8 + (0 + 1 + (0 + 4) + 1 + (0 + 24) + 1 + (0 + 576) + 1 + (0 + 24) + 1 + (0 + 24)) + 8 + (0 + 1 + (0 + 35) + 1 + (0 + 35) + 1 + (0 + 35) + 1 + (0 + 27) + 1 + (0 + 729)) + 3 + (0 + 1 + (0 + 1080) + 1 + (0 + 27)) + 5 + (0 + 1 + (0 + 27) + 1 + (0 + 24)) + 7 + (0 + 1 + (0 + 24)) + 1 + (0 + 8)); omega⟩ (Nat.le_of_ble_eq_true rfl) (zdal_p dlA_Troupe_init_6 (i := 2) rfl) (fun r M9 h9 _ _ => ?_)
  obtain ⟨rfl, rfl⟩ := h9
  have he11 : zExt M (zk_Troupe_11 M q ) 32 (0 + 8 + (0 + 1 + (0 + 4) + 1 + (0 + 24) + 1 + (0 + 576) + 1 + (0 + 24) + 1 + (0 + 24)) + 8 + (0 + 1 + (0 + 35) + 1 + (0 + 35) + 1 + (0 + 35) + 1 + (0 + 27) + 1 + (0 + 729)) + 3 + (0 + 1 + (0 + 1080) + 1 + (0 + 27)) + 5 + (0 + 1 + (0 + 27) + 1 + (0 + 24))) q := he10.call (ext_Units (zk_Troupe_10 M q ) (zn (zk_Troupe_9 M q )) (zn (zk_Troupe_3 M q ))) (by have := he9.1; omega)
  have kf11_0 : zf (zk_Troupe_11 M q ) q 0 = some (zn (M)) := (congrFun ((ext_Units (zk_Troupe_10 M q ) (zn (zk_Troupe_9 M q )) (zn (zk_Troupe_3 M q ))).2.2.2 q (by have := he10.1; omega) (by have := he9.1; omega)) 0).trans kf10_0
  have kf11_1 : zf (zk_Troupe_11 M q ) q 1 = some (zn (zk_Troupe_3 M q )) := (congrFun ((ext_Units (zk_Troupe_10 M q ) (zn (zk_Troupe_9 M q )) (zn (zk_Troupe_3 M q ))).2.2.2 q (by have := he10.1; omega) (by have := he9.1; omega)) 1).trans kf10_1
  have kf11_2 : zf (zk_Troupe_11 M q ) q 2 = some (zn (zk_Troupe_6 M q )) := (congrFun ((ext_Units (zk_Troupe_10 M q ) (zn (zk_Troupe_9 M q )) (zn (zk_Troupe_3 M q ))).2.2.2 q (by have := he10.1; omega) (by have := he9.1; omega)) 2).trans kf10_2
  show zW l m_Troupe_init (zn M + 37, zw M + (0 + 8 + (0 + 1 + (0 + 4) + 1 + (0 + 24) + 1 + (0 + 576) + 1 + (0 + 24) + 1 + (0 + 24)) + 8 + (0 + 1 + (0 + 35) + 1 + (0 + 35) + 1 + (0 + 35) + 1 + (0 + 27) + 1 + (0 + 729)) + 3 + (0 + 1 + (0 + 1080) + 1 + (0 + 27)) + 5 + (0 + 1 + (0 + 27) + 1 + (0 + 24)) + 7 + (0 + 1 + (0 + 24)) + 1 + (0 + 8))) (zk_Troupe_11 M q ) 57 [some (.ref q)] [.ref (zn (zk_Troupe_9 M q )), .ref q] _
  refine zw_putR (pc := 57) (x := zn (zk_Troupe_9 M q )) (Or.inr ⟨g_Troupe_39, rfl, rfl, rfl⟩) rfl (he11.q hq hqk) (fun _ => rfl) (fun _ => rfl) (zdal_p dlA_Troupe_init_6 (i := 3) rfl) ?_
  have he12 : zExt M (zk_Troupe_12 M q ) 32 (0 + 8 + (0 + 1 + (0 + 4) + 1 + (0 + 24) + 1 + (0 + 576) + 1 + (0 + 24) + 1 + (0 + 24)) + 8 + (0 + 1 + (0 + 35) + 1 + (0 + 35) + 1 + (0 + 35) + 1 + (0 + 27) + 1 + (0 + 729)) + 3 + (0 + 1 + (0 + 1080) + 1 + (0 + 27)) + 5 + (0 + 1 + (0 + 27) + 1 + (0 + 24))) q := he11.put
  have kf12_0 : zf (zk_Troupe_12 M q ) q 0 = some (zn (M)) := (zup2_n (fun z => absurd z.2 (by decide))).trans kf11_0
  have kf12_1 : zf (zk_Troupe_12 M q ) q 1 = some (zn (zk_Troupe_3 M q )) := (zup2_n (fun z => absurd z.2 (by decide))).trans kf11_1
  have kf12_2 : zf (zk_Troupe_12 M q ) q 2 = some (zn (zk_Troupe_6 M q )) := (zup2_n (fun z => absurd z.2 (by decide))).trans kf11_2
  show zW l m_Troupe_init (zn M + 37, zw M + (0 + 8 + (0 + 1 + (0 + 4) + 1 + (0 + 24) + 1 + (0 + 576) + 1 + (0 + 24) + 1 + (0 + 24)) + 8 + (0 + 1 + (0 + 35) + 1 + (0 + 35) + 1 + (0 + 35) + 1 + (0 + 27) + 1 + (0 + 729)) + 3 + (0 + 1 + (0 + 1080) + 1 + (0 + 27)) + 5 + (0 + 1 + (0 + 27) + 1 + (0 + 24)) + 7 + (0 + 1 + (0 + 24)) + 1 + (0 + 8))) (zk_Troupe_12 M q ) 60 [some (.ref q)] [] _
  have kn12 : zf (zk_Troupe_12 M q ) q 3 = some (zn (zk_Troupe_9 M q )) := zup2_s
  refine zw_aload_n (pc := 60) (n := 0) (x := q) rfl (zdal_p dlA_Troupe_init_6 (i := 4) rfl) ?_
  refine zw_new (pc := 61) (ci := 10) (by decide) n_Troupe_43 (by have := he12.1; omega) (by have := he12.1; show _ ≤ zn M + 37; omega) (by have := he12.2.1; show _ + 7 ≤ zw M + (0 + 8 + (0 + 1 + (0 + 4) + 1 + (0 + 24) + 1 + (0 + 576) + 1 + (0 + 24) + 1 + (0 + 24)) + 8 + (0 + 1 + (0 + 35) + 1 + (0 + 35) + 1 + (0 + 35) + 1 + (0 + 27) + 1 + (0 + 729)) + 3 + (0 + 1 + (0 + 1080) + 1 + (0 + 27)) + 5 + (0 + 1 + (0 + 27) + 1 + (0 + 24)) + 7 + (0 + 1 + (0 + 24)) + 1 + (0 + 8)); omega) (by decide) (zdal_p dlA_Troupe_init_6 (i := 5) rfl) ?_
  have he13 : zExt M (zk_Troupe_13 M q ) 33 (0 + 8 + (0 + 1 + (0 + 4) + 1 + (0 + 24) + 1 + (0 + 576) + 1 + (0 + 24) + 1 + (0 + 24)) + 8 + (0 + 1 + (0 + 35) + 1 + (0 + 35) + 1 + (0 + 35) + 1 + (0 + 27) + 1 + (0 + 729)) + 3 + (0 + 1 + (0 + 1080) + 1 + (0 + 27)) + 5 + (0 + 1 + (0 + 27) + 1 + (0 + 24)) + 7) q := he12.al
  have kf13_0 : zf (zk_Troupe_13 M q ) q 0 = some (zn (M)) := (congrFun (zal_old (by have := he12.1; omega)).2 0).trans kf12_0
  have kf13_1 : zf (zk_Troupe_13 M q ) q 1 = some (zn (zk_Troupe_3 M q )) := (congrFun (zal_old (by have := he12.1; omega)).2 1).trans kf12_1
  have kf13_2 : zf (zk_Troupe_13 M q ) q 2 = some (zn (zk_Troupe_6 M q )) := (congrFun (zal_old (by have := he12.1; omega)).2 2).trans kf12_2
  have kf13_3 : zf (zk_Troupe_13 M q ) q 3 = some (zn (zk_Troupe_9 M q )) := (congrFun (zal_old (by have := he12.1; omega)).2 3).trans kn12
  show zW l m_Troupe_init (zn M + 37, zw M + (0 + 8 + (0 + 1 + (0 + 4) + 1 + (0 + 24) + 1 + (0 + 576) + 1 + (0 + 24) + 1 + (0 + 24)) + 8 + (0 + 1 + (0 + 35) + 1 + (0 + 35) + 1 + (0 + 35) + 1 + (0 + 27) + 1 + (0 + 729)) + 3 + (0 + 1 + (0 + 1080) + 1 + (0 + 27)) + 5 + (0 + 1 + (0 + 27) + 1 + (0 + 24)) + 7 + (0 + 1 + (0 + 24)) + 1 + (0 + 8))) (zk_Troupe_13 M q ) 64 [some (.ref q)] [.ref (zn (zk_Troupe_12 M q )), .ref q] _
  refine zw_dup (pc := 64) rfl (zdal_p dlA_Troupe_init_6 (i := 6) rfl) ?_
  refine zw_aload_n (pc := 65) (n := 0) (x := q) rfl (zdal_p dlA_Troupe_init_6 (i := 7) rfl) ?_
  refine zw_getF (pc := 66) f_Troupe_32 rfl (he13.q hq hqk) kf13_2 (zdal_p dlA_Troupe_init_6 (i := 8) rfl) ?_
  refine zw_callI (pc := 69) (mc := 2) (ms := (0 + 1 + (0 + 24))) (b := zn (zk_Troupe_12 M q )) [.ref (zn (zk_Troupe_6 M q ))] [.ref (zn (zk_Troupe_12 M q )), .ref q] l_Troupe_45 (k_Calc l (zk_Troupe_13 M q ) (zn (zk_Troupe_12 M q )) (by have := he13.1; show zn (zk_Troupe_12 M q ) < zn (zk_Troupe_12 M q ) + 1; omega) (congrArg Prod.fst (zal_sh (M := zk_Troupe_12 M q ) (t := 13) (n := 7))) (zn (zk_Troupe_6 M q )) (by have := he13.1; omega)) rfl rfl (by decide) ⟨by have := he13.1; show _ ≤ zn M + 37; omega, by have := he13.2.1; show _ ≤ zw M + (0 + 8 + (0 + 1 + (0 + 4) + 1 + (0 + 24) + 1 + (0 + 576) + 1 + (0 + 24) + 1 + (0 + 24)) + 8 + (0 + 1 + (0 + 35) + 1 + (0 + 35) + 1 + (0 + 35) + 1 + (0 + 27) + 1 + (0 + 729)) + 3 + (0 + 1 + (0 + 1080) + 1 + (0 + 27)) + 5 + (0 + 1 + (0 + 27) + 1 + (0 + 24)) + 7 + (0 + 1 + (0 + 24)) + 1 + (0 + 8)); omega⟩ (Nat.le_of_ble_eq_true rfl) (zdal_p dlA_Troupe_init_6 (i := 9) rfl) (fun r M9 h9 _ _ => ?_)
  obtain ⟨rfl, rfl⟩ := h9
  have he14 : zExt M (zk_Troupe_14 M q ) 35 (0 + 8 + (0 + 1 + (0 + 4) + 1 + (0 + 24) + 1 + (0 + 576) + 1 + (0 + 24) + 1 + (0 + 24)) + 8 + (0 + 1 + (0 + 35) + 1 + (0 + 35) + 1 + (0 + 35) + 1 + (0 + 27) + 1 + (0 + 729)) + 3 + (0 + 1 + (0 + 1080) + 1 + (0 + 27)) + 5 + (0 + 1 + (0 + 27) + 1 + (0 + 24)) + 7 + (0 + 1 + (0 + 24))) q := he13.call (ext_Calc (zk_Troupe_13 M q ) (zn (zk_Troupe_12 M q )) (zn (zk_Troupe_6 M q ))) (by have := he12.1; omega)
  have kf14_0 : zf (zk_Troupe_14 M q ) q 0 = some (zn (M)) := (congrFun ((ext_Calc (zk_Troupe_13 M q ) (zn (zk_Troupe_12 M q )) (zn (zk_Troupe_6 M q ))).2.2.2 q (by have := he13.1; omega) (by have := he12.1; omega)) 0).trans kf13_0
  have kf14_1 : zf (zk_Troupe_14 M q ) q 1 = some (zn (zk_Troupe_3 M q )) := (congrFun ((ext_Calc (zk_Troupe_13 M q ) (zn (zk_Troupe_12 M q )) (zn (zk_Troupe_6 M q ))).2.2.2 q (by have := he13.1; omega) (by have := he12.1; omega)) 1).trans kf13_1
  have kf14_2 : zf (zk_Troupe_14 M q ) q 2 = some (zn (zk_Troupe_6 M q )) := (congrFun ((ext_Calc (zk_Troupe_13 M q ) (zn (zk_Troupe_12 M q )) (zn (zk_Troupe_6 M q ))).2.2.2 q (by have := he13.1; omega) (by have := he12.1; omega)) 2).trans kf13_2
  have kf14_3 : zf (zk_Troupe_14 M q ) q 3 = some (zn (zk_Troupe_9 M q )) := (congrFun ((ext_Calc (zk_Troupe_13 M q ) (zn (zk_Troupe_12 M q )) (zn (zk_Troupe_6 M q ))).2.2.2 q (by have := he13.1; omega) (by have := he12.1; omega)) 3).trans kf13_3
  show zW l m_Troupe_init (zn M + 37, zw M + (0 + 8 + (0 + 1 + (0 + 4) + 1 + (0 + 24) + 1 + (0 + 576) + 1 + (0 + 24) + 1 + (0 + 24)) + 8 + (0 + 1 + (0 + 35) + 1 + (0 + 35) + 1 + (0 + 35) + 1 + (0 + 27) + 1 + (0 + 729)) + 3 + (0 + 1 + (0 + 1080) + 1 + (0 + 27)) + 5 + (0 + 1 + (0 + 27) + 1 + (0 + 24)) + 7 + (0 + 1 + (0 + 24)) + 1 + (0 + 8))) (zk_Troupe_14 M q ) 72 [some (.ref q)] [.ref (zn (zk_Troupe_12 M q )), .ref q] _
  refine zw_putR (pc := 72) (x := zn (zk_Troupe_12 M q )) (Or.inr ⟨g_Troupe_48, rfl, rfl, rfl⟩) rfl (he14.q hq hqk) (fun _ => rfl) (fun _ => rfl) (zdal_p dlA_Troupe_init_6 (i := 10) rfl) ?_
  have he15 : zExt M (zk_Troupe_15 M q ) 35 (0 + 8 + (0 + 1 + (0 + 4) + 1 + (0 + 24) + 1 + (0 + 576) + 1 + (0 + 24) + 1 + (0 + 24)) + 8 + (0 + 1 + (0 + 35) + 1 + (0 + 35) + 1 + (0 + 35) + 1 + (0 + 27) + 1 + (0 + 729)) + 3 + (0 + 1 + (0 + 1080) + 1 + (0 + 27)) + 5 + (0 + 1 + (0 + 27) + 1 + (0 + 24)) + 7 + (0 + 1 + (0 + 24))) q := he14.put
  have kf15_0 : zf (zk_Troupe_15 M q ) q 0 = some (zn (M)) := (zup2_n (fun z => absurd z.2 (by decide))).trans kf14_0
  have kf15_1 : zf (zk_Troupe_15 M q ) q 1 = some (zn (zk_Troupe_3 M q )) := (zup2_n (fun z => absurd z.2 (by decide))).trans kf14_1
  have kf15_2 : zf (zk_Troupe_15 M q ) q 2 = some (zn (zk_Troupe_6 M q )) := (zup2_n (fun z => absurd z.2 (by decide))).trans kf14_2
  have kf15_3 : zf (zk_Troupe_15 M q ) q 3 = some (zn (zk_Troupe_9 M q )) := (zup2_n (fun z => absurd z.2 (by decide))).trans kf14_3
  show zW l m_Troupe_init (zn M + 37, zw M + (0 + 8 + (0 + 1 + (0 + 4) + 1 + (0 + 24) + 1 + (0 + 576) + 1 + (0 + 24) + 1 + (0 + 24)) + 8 + (0 + 1 + (0 + 35) + 1 + (0 + 35) + 1 + (0 + 35) + 1 + (0 + 27) + 1 + (0 + 729)) + 3 + (0 + 1 + (0 + 1080) + 1 + (0 + 27)) + 5 + (0 + 1 + (0 + 27) + 1 + (0 + 24)) + 7 + (0 + 1 + (0 + 24)) + 1 + (0 + 8))) (zk_Troupe_15 M q ) 75 [some (.ref q)] [] _
  have kn15 : zf (zk_Troupe_15 M q ) q 4 = some (zn (zk_Troupe_12 M q )) := zup2_s
  refine zw_aload_n (pc := 75) (n := 0) (x := q) rfl (zdal_p dlA_Troupe_init_6 (i := 11) rfl) ?_
  refine zw_new (pc := 76) (ci := 2) (by decide) n_Troupe_52 (by have := he15.1; omega) (by have := he15.1; show _ ≤ zn M + 37; omega) (by have := he15.2.1; show _ + 1 ≤ zw M + (0 + 8 + (0 + 1 + (0 + 4) + 1 + (0 + 24) + 1 + (0 + 576) + 1 + (0 + 24) + 1 + (0 + 24)) + 8 + (0 + 1 + (0 + 35) + 1 + (0 + 35) + 1 + (0 + 35) + 1 + (0 + 27) + 1 + (0 + 729)) + 3 + (0 + 1 + (0 + 1080) + 1 + (0 + 27)) + 5 + (0 + 1 + (0 + 27) + 1 + (0 + 24)) + 7 + (0 + 1 + (0 + 24)) + 1 + (0 + 8)); omega) (by decide) (zdal_p dlA_Troupe_init_6 (i := 12) rfl) ?_
  have he16 : zExt M (zk_Troupe_16 M q ) 36 (0 + 8 + (0 + 1 + (0 + 4) + 1 + (0 + 24) + 1 + (0 + 576) + 1 + (0 + 24) + 1 + (0 + 24)) + 8 + (0 + 1 + (0 + 35) + 1 + (0 + 35) + 1 + (0 + 35) + 1 + (0 + 27) + 1 + (0 + 729)) + 3 + (0 + 1 + (0 + 1080) + 1 + (0 + 27)) + 5 + (0 + 1 + (0 + 27) + 1 + (0 + 24)) + 7 + (0 + 1 + (0 + 24)) + 1) q := he15.al
  have kf16_0 : zf (zk_Troupe_16 M q ) q 0 = some (zn (M)) := (congrFun (zal_old (by have := he15.1; omega)).2 0).trans kf15_0
  have kf16_1 : zf (zk_Troupe_16 M q ) q 1 = some (zn (zk_Troupe_3 M q )) := (congrFun (zal_old (by have := he15.1; omega)).2 1).trans kf15_1
  have kf16_2 : zf (zk_Troupe_16 M q ) q 2 = some (zn (zk_Troupe_6 M q )) := (congrFun (zal_old (by have := he15.1; omega)).2 2).trans kf15_2
  have kf16_3 : zf (zk_Troupe_16 M q ) q 3 = some (zn (zk_Troupe_9 M q )) := (congrFun (zal_old (by have := he15.1; omega)).2 3).trans kf15_3
  have kf16_4 : zf (zk_Troupe_16 M q ) q 4 = some (zn (zk_Troupe_12 M q )) := (congrFun (zal_old (by have := he15.1; omega)).2 4).trans kn15
  show zW l m_Troupe_init (zn M + 37, zw M + (0 + 8 + (0 + 1 + (0 + 4) + 1 + (0 + 24) + 1 + (0 + 576) + 1 + (0 + 24) + 1 + (0 + 24)) + 8 + (0 + 1 + (0 + 35) + 1 + (0 + 35) + 1 + (0 + 35) + 1 + (0 + 27) + 1 + (0 + 729)) + 3 + (0 + 1 + (0 + 1080) + 1 + (0 + 27)) + 5 + (0 + 1 + (0 + 27) + 1 + (0 + 24)) + 7 + (0 + 1 + (0 + 24)) + 1 + (0 + 8))) (zk_Troupe_16 M q ) 79 [some (.ref q)] [.ref (zn (zk_Troupe_15 M q )), .ref q] _
  refine zw_dup (pc := 79) rfl (zdal_p dlA_Troupe_init_6 (i := 13) rfl) ?_
  refine zw_bipush (pc := 80) (v := nI 8) (by decide) (zdal_p dlA_Troupe_init_6 (i := 14) rfl) ?_
  refine zw_callI (pc := 82) (mc := 1) (ms := (0 + 8)) (b := zn (zk_Troupe_15 M q )) [.int (nI 8)] [.ref (zn (zk_Troupe_15 M q )), .ref q] l_Troupe_54 (k_IntRow l (zk_Troupe_16 M q ) (zn (zk_Troupe_15 M q )) (by have := he16.1; show zn (zk_Troupe_15 M q ) < zn (zk_Troupe_15 M q ) + 1; omega) (congrArg Prod.fst (zal_sh (M := zk_Troupe_15 M q ) (t := 5) (n := 1))) 8 (by decide) (by have := he16.1; omega)) rfl rfl (by decide) ⟨by have := he16.1; show _ ≤ zn M + 37; omega, by have := he16.2.1; show _ ≤ zw M + (0 + 8 + (0 + 1 + (0 + 4) + 1 + (0 + 24) + 1 + (0 + 576) + 1 + (0 + 24) + 1 + (0 + 24)) + 8 + (0 + 1 + (0 + 35) + 1 + (0 + 35) + 1 + (0 + 35) + 1 + (0 + 27) + 1 + (0 + 729)) + 3 + (0 + 1 + (0 + 1080) + 1 + (0 + 27)) + 5 + (0 + 1 + (0 + 27) + 1 + (0 + 24)) + 7 + (0 + 1 + (0 + 24)) + 1 + (0 + 8)); omega⟩ (Nat.le_of_ble_eq_true rfl) (zdal_p dlA_Troupe_init_6 (i := 15) rfl) (fun r M9 h9 _ _ => ?_)
  obtain ⟨rfl, rfl⟩ := h9
  have he17 : zExt M (zk_Troupe_17 M q ) 37 (0 + 8 + (0 + 1 + (0 + 4) + 1 + (0 + 24) + 1 + (0 + 576) + 1 + (0 + 24) + 1 + (0 + 24)) + 8 + (0 + 1 + (0 + 35) + 1 + (0 + 35) + 1 + (0 + 35) + 1 + (0 + 27) + 1 + (0 + 729)) + 3 + (0 + 1 + (0 + 1080) + 1 + (0 + 27)) + 5 + (0 + 1 + (0 + 27) + 1 + (0 + 24)) + 7 + (0 + 1 + (0 + 24)) + 1 + (0 + 8)) q := he16.call (ext_IntRow (zk_Troupe_16 M q ) (zn (zk_Troupe_15 M q )) 8) (by have := he15.1; omega)
  have kf17_0 : zf (zk_Troupe_17 M q ) q 0 = some (zn (M)) := (congrFun ((ext_IntRow (zk_Troupe_16 M q ) (zn (zk_Troupe_15 M q )) 8).2.2.2 q (by have := he16.1; omega) (by have := he15.1; omega)) 0).trans kf16_0
  have kf17_1 : zf (zk_Troupe_17 M q ) q 1 = some (zn (zk_Troupe_3 M q )) := (congrFun ((ext_IntRow (zk_Troupe_16 M q ) (zn (zk_Troupe_15 M q )) 8).2.2.2 q (by have := he16.1; omega) (by have := he15.1; omega)) 1).trans kf16_1
  have kf17_2 : zf (zk_Troupe_17 M q ) q 2 = some (zn (zk_Troupe_6 M q )) := (congrFun ((ext_IntRow (zk_Troupe_16 M q ) (zn (zk_Troupe_15 M q )) 8).2.2.2 q (by have := he16.1; omega) (by have := he15.1; omega)) 2).trans kf16_2
  have kf17_3 : zf (zk_Troupe_17 M q ) q 3 = some (zn (zk_Troupe_9 M q )) := (congrFun ((ext_IntRow (zk_Troupe_16 M q ) (zn (zk_Troupe_15 M q )) 8).2.2.2 q (by have := he16.1; omega) (by have := he15.1; omega)) 3).trans kf16_3
  have kf17_4 : zf (zk_Troupe_17 M q ) q 4 = some (zn (zk_Troupe_12 M q )) := (congrFun ((ext_IntRow (zk_Troupe_16 M q ) (zn (zk_Troupe_15 M q )) 8).2.2.2 q (by have := he16.1; omega) (by have := he15.1; omega)) 4).trans kf16_4
  show zW l m_Troupe_init (zn M + 37, zw M + (0 + 8 + (0 + 1 + (0 + 4) + 1 + (0 + 24) + 1 + (0 + 576) + 1 + (0 + 24) + 1 + (0 + 24)) + 8 + (0 + 1 + (0 + 35) + 1 + (0 + 35) + 1 + (0 + 35) + 1 + (0 + 27) + 1 + (0 + 729)) + 3 + (0 + 1 + (0 + 1080) + 1 + (0 + 27)) + 5 + (0 + 1 + (0 + 27) + 1 + (0 + 24)) + 7 + (0 + 1 + (0 + 24)) + 1 + (0 + 8))) (zk_Troupe_17 M q ) 85 [some (.ref q)] [.ref (zn (zk_Troupe_15 M q )), .ref q] _
  refine zw_putR (pc := 85) (x := zn (zk_Troupe_15 M q )) (Or.inr ⟨g_Troupe_57, rfl, rfl, rfl⟩) rfl (he17.q hq hqk) (fun _ => rfl) (fun _ => rfl) (zdal_p dlA_Troupe_init_6 (i := 16) rfl) ?_
  have he18 : zExt M (zk_Troupe_18 M q ) 37 (0 + 8 + (0 + 1 + (0 + 4) + 1 + (0 + 24) + 1 + (0 + 576) + 1 + (0 + 24) + 1 + (0 + 24)) + 8 + (0 + 1 + (0 + 35) + 1 + (0 + 35) + 1 + (0 + 35) + 1 + (0 + 27) + 1 + (0 + 729)) + 3 + (0 + 1 + (0 + 1080) + 1 + (0 + 27)) + 5 + (0 + 1 + (0 + 27) + 1 + (0 + 24)) + 7 + (0 + 1 + (0 + 24)) + 1 + (0 + 8)) q := he17.put
  have kf18_0 : zf (zk_Troupe_18 M q ) q 0 = some (zn (M)) := (zup2_n (fun z => absurd z.2 (by decide))).trans kf17_0
  have kf18_1 : zf (zk_Troupe_18 M q ) q 1 = some (zn (zk_Troupe_3 M q )) := (zup2_n (fun z => absurd z.2 (by decide))).trans kf17_1
  have kf18_2 : zf (zk_Troupe_18 M q ) q 2 = some (zn (zk_Troupe_6 M q )) := (zup2_n (fun z => absurd z.2 (by decide))).trans kf17_2
  have kf18_3 : zf (zk_Troupe_18 M q ) q 3 = some (zn (zk_Troupe_9 M q )) := (zup2_n (fun z => absurd z.2 (by decide))).trans kf17_3
  have kf18_4 : zf (zk_Troupe_18 M q ) q 4 = some (zn (zk_Troupe_12 M q )) := (zup2_n (fun z => absurd z.2 (by decide))).trans kf17_4
  show zW l m_Troupe_init (zn M + 37, zw M + (0 + 8 + (0 + 1 + (0 + 4) + 1 + (0 + 24) + 1 + (0 + 576) + 1 + (0 + 24) + 1 + (0 + 24)) + 8 + (0 + 1 + (0 + 35) + 1 + (0 + 35) + 1 + (0 + 35) + 1 + (0 + 27) + 1 + (0 + 729)) + 3 + (0 + 1 + (0 + 1080) + 1 + (0 + 27)) + 5 + (0 + 1 + (0 + 27) + 1 + (0 + 24)) + 7 + (0 + 1 + (0 + 24)) + 1 + (0 + 8))) (zk_Troupe_18 M q ) 88 [some (.ref q)] [] _
  have kn18 : zf (zk_Troupe_18 M q ) q 5 = some (zn (zk_Troupe_15 M q )) := zup2_s
  exact zw_vret (S := []) (pc := 88) rfl (zdal_p dlA_Troupe_init_6 (i := 17) rfl) ⟨rfl, rfl⟩
def zk_T_1 (M : zMem) (q : Nat)  : zMem := zal (M) 4 6
def zk_T_2 (M : zMem) (q : Nat)  : zMem := zk_Tokens (zk_T_1 M q ) (zn (M))
def zk_T_3 (M : zMem) (q : Nat)  : zMem := zsF (zk_T_2 M q ) q 0 (some (zn (M)))
def zk_T_4 (M : zMem) (q : Nat)  : zMem := zal (zk_T_3 M q ) 6 4
def zk_T_5 (M : zMem) (q : Nat)  : zMem := zk_Reader (zk_T_4 M q ) (zn (zk_T_3 M q )) (zn (M))
def zk_T_6 (M : zMem) (q : Nat)  : zMem := zsF (zk_T_5 M q ) q 1 (some (zn (zk_T_3 M q )))
def zk_T_7 (M : zMem) (q : Nat)  : zMem := zal (zk_T_6 M q ) 7 9
def zk_T_8 (M : zMem) (q : Nat)  : zMem := zk_Troupe (zk_T_7 M q ) (zn (zk_T_6 M q ))
def zk_T_9 (M : zMem) (q : Nat)  : zMem := zsF (zk_T_8 M q ) q 2 (some (zn (zk_T_6 M q )))
def zk_T_10 (M : zMem) (q : Nat)  : zMem := zal (zk_T_9 M q ) 7 9
def zk_T_11 (M : zMem) (q : Nat)  : zMem := zk_Troupe (zk_T_10 M q ) (zn (zk_T_9 M q ))
def zk_T_12 (M : zMem) (q : Nat)  : zMem := zsF (zk_T_11 M q ) q 3 (some (zn (zk_T_9 M q )))
set_option maxRecDepth 20000 in
set_option maxHeartbeats 4000000 in
theorem k_Tpre (l : Launch) (X : Nat × Nat) (Q : Option Value → zMem → Prop) (M : zMem) (q : Nat) (hq : q < zn M) (hqk : (zsh M q).1 = 0 + 3) (hm : zn M + 80 < 1000000) (hX : zn M + 80 ≤ X.1 ∧ zw M + (0 + 6 + (0 + 1 + (0 + 700)) + 4 + (0) + 9 + (0 + 8 + (0 + 1 + (0 + 4) + 1 + (0 + 24) + 1 + (0 + 576) + 1 + (0 + 24) + 1 + (0 + 24)) + 8 + (0 + 1 + (0 + 35) + 1 + (0 + 35) + 1 + (0 + 35) + 1 + (0 + 27) + 1 + (0 + 729)) + 3 + (0 + 1 + (0 + 1080) + 1 + (0 + 27)) + 5 + (0 + 1 + (0 + 27) + 1 + (0 + 24)) + 7 + (0 + 1 + (0 + 24)) + 1 + (0 + 8)) + 9 + (0 + 8 + (0 + 1 + (0 + 4) + 1 + (0 + 24) + 1 + (0 + 576) + 1 + (0 + 24) + 1 + (0 + 24)) + 8 + (0 + 1 + (0 + 35) + 1 + (0 + 35) + 1 + (0 + 35) + 1 + (0 + 27) + 1 + (0 + 729)) + 3 + (0 + 1 + (0 + 1080) + 1 + (0 + 27)) + 5 + (0 + 1 + (0 + 27) + 1 + (0 + 24)) + 7 + (0 + 1 + (0 + 24)) + 1 + (0 + 8))) ≤ X.2) (kk : zW l m_T_init X (zk_T_12 M q ) 57 [some (.ref q)] [.int (nI 1), .ref (zn (zk_T_6 M q ))] Q) : zW l m_T_init X M 0 [some (.ref q)] [] Q := by
  have he0 : zExt M M 0 0 q := zExt.rf
  refine zw_aload_n (pc := 0) (n := 0) (x := q) rfl (zdal_p dlA_T_init_0 (i := 0) rfl) ?_
  refine zw_objInit (pc := 1) o_T_1 o_in o_co (by decide) (Nat.le_of_ble_eq_true rfl) (zdal_p dlA_T_init_0 (i := 1) rfl) ?_
  refine zw_aload_n (pc := 4) (n := 0) (x := q) rfl (zdal_p dlA_T_init_0 (i := 2) rfl) ?_
  refine zw_new (pc := 5) (ci := 1) (by decide) n_T_7 (by have := he0.1; omega) (by have := he0.1; have := hX.1; omega) (by have := he0.2.1; show _ + 6 ≤ X.2; have := hX.2; omega) (by decide) (zdal_p dlA_T_init_0 (i := 3) rfl) ?_
  have he1 : zExt M (zk_T_1 M q ) 1 (0 + 6) q := he0.al
  show zW l m_T_init X (zk_T_1 M q ) 8 [some (.ref q)] [.ref (zn (M)), .ref q] _
  refine zw_dup (pc := 8) rfl (zdal_p dlA_T_init_0 (i := 4) rfl) ?_
  refine zw_callI (pc := 9) (mc := 2) (ms := (0 + 1 + (0 + 700))) (b := zn (M)) [] [.ref (zn (M)), .ref q] l_T_9 (k_Tokens l (zk_T_1 M q ) (zn (M)) (by have := he1.1; show zn (M) < zn (M) + 1; omega) (congrArg Prod.fst (zal_sh (M := M) (t := 4) (n := 6)))  (by have := he1.1; omega)) rfl rfl (by decide) ⟨by have := he1.1; have := hX.1; omega, by have := he1.2.1; show _ ≤ X.2; have := hX.2; omega⟩ (Nat.le_of_ble_eq_true rfl) (zdal_p dlA_T_init_0 (i := 5) rfl) (fun r M9 h9 _ _ => ?_)
  obtain ⟨rfl, rfl⟩ := h9
  have he2 : zExt M (zk_T_2 M q ) 3 (0 + 6 + (0 + 1 + (0 + 700))) q := he1.call (ext_Tokens (zk_T_1 M q ) (zn (M))) (by have := he0.1; omega)
  show zW l m_T_init X (zk_T_2 M q ) 12 [some (.ref q)] [.ref (zn (M)), .ref q] _
  refine zw_putR (pc := 12) (x := zn (M)) (Or.inr ⟨g_T_10, rfl, rfl, rfl⟩) rfl (he2.q hq hqk) (fun _ => rfl) (fun _ => rfl) (zdal_p dlA_T_init_0 (i := 6) rfl) ?_
  have he3 : zExt M (zk_T_3 M q ) 3 (0 + 6 + (0 + 1 + (0 + 700))) q := he2.put
  show zW l m_T_init X (zk_T_3 M q ) 15 [some (.ref q)] [] _
  have kn3 : zf (zk_T_3 M q ) q 0 = some (zn (M)) := zup2_s
  refine zw_aload_n (pc := 15) (n := 0) (x := q) rfl (zdal_p dlA_T_init_0 (i := 7) rfl) ?_
  refine zw_new (pc := 16) (ci := 3) (by decide) n_T_16 (by have := he3.1; omega) (by have := he3.1; have := hX.1; omega) (by have := he3.2.1; show _ + 4 ≤ X.2; have := hX.2; omega) (by decide) (zdal_p dlA_T_init_0 (i := 8) rfl) ?_
  have he4 : zExt M (zk_T_4 M q ) 4 (0 + 6 + (0 + 1 + (0 + 700)) + 4) q := he3.al
  have kf4_0 : zf (zk_T_4 M q ) q 0 = some (zn (M)) := (congrFun (zal_old (by have := he3.1; omega)).2 0).trans kn3
  show zW l m_T_init X (zk_T_4 M q ) 19 [some (.ref q)] [.ref (zn (zk_T_3 M q )), .ref q] _
  refine zw_dup (pc := 19) rfl (zdal_p dlA_T_init_0 (i := 9) rfl) ?_
  refine zw_aload_n (pc := 20) (n := 0) (x := q) rfl (zdal_p dlA_T_init_0 (i := 10) rfl) ?_
  refine zw_getF (pc := 21) f_T_10 rfl (he4.q hq hqk) kf4_0 (zdal_p dlA_T_init_0 (i := 11) rfl) ?_
  refine zw_callI (pc := 24) (mc := 0) (ms := (0)) (b := zn (zk_T_3 M q )) [.ref (zn (M))] [.ref (zn (zk_T_3 M q )), .ref q] l_T_18 (k_Reader l (zk_T_4 M q ) (zn (zk_T_3 M q )) (by have := he4.1; show zn (zk_T_3 M q ) < zn (zk_T_3 M q ) + 1; omega) (congrArg Prod.fst (zal_sh (M := zk_T_3 M q ) (t := 6) (n := 4))) (zn (M)) (by have := he4.1; omega)) rfl rfl (by decide) ⟨by have := he4.1; have := hX.1; omega, by have := he4.2.1; show _ ≤ X.2; have := hX.2; omega⟩ (Nat.le_of_ble_eq_true rfl) (zdal_p dlA_T_init_0 (i := 12) rfl) (fun r M9 h9 _ _ => ?_)
  obtain ⟨rfl, rfl⟩ := h9
  have he5 : zExt M (zk_T_5 M q ) 4 (0 + 6 + (0 + 1 + (0 + 700)) + 4 + (0)) q := he4.call (ext_Reader (zk_T_4 M q ) (zn (zk_T_3 M q )) (zn (M))) (by have := he3.1; omega)
  have kf5_0 : zf (zk_T_5 M q ) q 0 = some (zn (M)) := (congrFun ((ext_Reader (zk_T_4 M q ) (zn (zk_T_3 M q )) (zn (M))).2.2.2 q (by have := he4.1; omega) (by have := he3.1; omega)) 0).trans kf4_0
  show zW l m_T_init X (zk_T_5 M q ) 27 [some (.ref q)] [.ref (zn (zk_T_3 M q )), .ref q] _
  refine zw_putR (pc := 27) (x := zn (zk_T_3 M q )) (Or.inr ⟨g_T_21, rfl, rfl, rfl⟩) rfl (he5.q hq hqk) (fun _ => rfl) (fun _ => rfl) (zdal_p dlA_T_init_0 (i := 13) rfl) ?_
  have he6 : zExt M (zk_T_6 M q ) 4 (0 + 6 + (0 + 1 + (0 + 700)) + 4 + (0)) q := he5.put
  have kf6_0 : zf (zk_T_6 M q ) q 0 = some (zn (M)) := (zup2_n (fun z => absurd z.2 (by decide))).trans kf5_0
  show zW l m_T_init X (zk_T_6 M q ) 30 [some (.ref q)] [] _
  have kn6 : zf (zk_T_6 M q ) q 1 = some (zn (zk_T_3 M q )) := zup2_s
  refine zw_aload_n (pc := 30) (n := 0) (x := q) rfl (zdal_p dlA_T_init_0 (i := 14) rfl) ?_
  refine zw_new (pc := 31) (ci := 4) (by decide) n_T_25 (by have := he6.1; omega) (by have := he6.1; have := hX.1; omega) (by have := he6.2.1; show _ + 9 ≤ X.2; have := hX.2; omega) (by decide) (zdal_p dlA_T_init_0 (i := 15) rfl) ?_
  have he7 : zExt M (zk_T_7 M q ) 5 (0 + 6 + (0 + 1 + (0 + 700)) + 4 + (0) + 9) q := he6.al
  have kf7_0 : zf (zk_T_7 M q ) q 0 = some (zn (M)) := (congrFun (zal_old (by have := he6.1; omega)).2 0).trans kf6_0
  have kf7_1 : zf (zk_T_7 M q ) q 1 = some (zn (zk_T_3 M q )) := (congrFun (zal_old (by have := he6.1; omega)).2 1).trans kn6
  show zW l m_T_init X (zk_T_7 M q ) 34 [some (.ref q)] [.ref (zn (zk_T_6 M q )), .ref q] _
  refine zw_dup (pc := 34) rfl (zdal_p dlA_T_init_0 (i := 16) rfl) ?_
  refine zw_callI (pc := 35) (mc := 37) (ms := (0 + 8 + (0 + 1 + (0 + 4) + 1 + (0 + 24) + 1 + (0 + 576) + 1 + (0 + 24) + 1 + (0 + 24)) + 8 + (0 + 1 + (0 + 35) + 1 + (0 + 35) + 1 + (0 + 35) + 1 + (0 + 27) + 1 + (0 + 729)) + 3 + (0 + 1 + (0 + 1080) + 1 + (0 + 27)) + 5 + (0 + 1 + (0 + 27) + 1 + (0 + 24)) + 7 + (0 + 1 + (0 + 24)) + 1 + (0 + 8))) (b := zn (zk_T_6 M q )) [] [.ref (zn (zk_T_6 M q )), .ref q] l_T_27 (k_Troupe l (zk_T_7 M q ) (zn (zk_T_6 M q )) (by have := he7.1; show zn (zk_T_6 M q ) < zn (zk_T_6 M q ) + 1; omega) (congrArg Prod.fst (zal_sh (M := zk_T_6 M q ) (t := 7) (n := 9)))  (by have := he7.1; omega)) rfl rfl (by decide) ⟨by have := he7.1; have := hX.1; omega, by have := he7.2.1; show _ ≤ X.2; have := hX.2; omega⟩ (Nat.le_of_ble_eq_true rfl) (zdal_p dlA_T_init_0 (i := 17) rfl) (fun r M9 h9 _ _ => ?_)
  obtain ⟨rfl, rfl⟩ := h9
  have he8 : zExt M (zk_T_8 M q ) 42 (0 + 6 + (0 + 1 + (0 + 700)) + 4 + (0) + 9 + (0 + 8 + (0 + 1 + (0 + 4) + 1 + (0 + 24) + 1 + (0 + 576) + 1 + (0 + 24) + 1 + (0 + 24)) + 8 + (0 + 1 + (0 + 35) + 1 + (0 + 35) + 1 + (0 + 35) + 1 + (0 + 27) + 1 + (0 + 729)) + 3 + (0 + 1 + (0 + 1080) + 1 + (0 + 27)) + 5 + (0 + 1 + (0 + 27) + 1 + (0 + 24)) + 7 + (0 + 1 + (0 + 24)) + 1 + (0 + 8))) q := he7.call (ext_Troupe (zk_T_7 M q ) (zn (zk_T_6 M q ))) (by have := he6.1; omega)
  have kf8_0 : zf (zk_T_8 M q ) q 0 = some (zn (M)) := (congrFun ((ext_Troupe (zk_T_7 M q ) (zn (zk_T_6 M q ))).2.2.2 q (by have := he7.1; omega) (by have := he6.1; omega)) 0).trans kf7_0
  have kf8_1 : zf (zk_T_8 M q ) q 1 = some (zn (zk_T_3 M q )) := (congrFun ((ext_Troupe (zk_T_7 M q ) (zn (zk_T_6 M q ))).2.2.2 q (by have := he7.1; omega) (by have := he6.1; omega)) 1).trans kf7_1
  show zW l m_T_init X (zk_T_8 M q ) 38 [some (.ref q)] [.ref (zn (zk_T_6 M q )), .ref q] _
  refine zw_putR (pc := 38) (x := zn (zk_T_6 M q )) (Or.inl ⟨f_T_28, rfl⟩) rfl (he8.q hq hqk) (fun _ => rfl) (fun _ => rfl) (zdal_p dlA_T_init_0 (i := 18) rfl) ?_
  have he9 : zExt M (zk_T_9 M q ) 42 (0 + 6 + (0 + 1 + (0 + 700)) + 4 + (0) + 9 + (0 + 8 + (0 + 1 + (0 + 4) + 1 + (0 + 24) + 1 + (0 + 576) + 1 + (0 + 24) + 1 + (0 + 24)) + 8 + (0 + 1 + (0 + 35) + 1 + (0 + 35) + 1 + (0 + 35) + 1 + (0 + 27) + 1 + (0 + 729)) + 3 + (0 + 1 + (0 + 1080) + 1 + (0 + 27)) + 5 + (0 + 1 + (0 + 27) + 1 + (0 + 24)) + 7 + (0 + 1 + (0 + 24)) + 1 + (0 + 8))) q := he8.put
  have kf9_0 : zf (zk_T_9 M q ) q 0 = some (zn (M)) := (zup2_n (fun z => absurd z.2 (by decide))).trans kf8_0
  have kf9_1 : zf (zk_T_9 M q ) q 1 = some (zn (zk_T_3 M q )) := (zup2_n (fun z => absurd z.2 (by decide))).trans kf8_1
  show zW l m_T_init X (zk_T_9 M q ) 41 [some (.ref q)] [] _
  have kn9 : zf (zk_T_9 M q ) q 2 = some (zn (zk_T_6 M q )) := zup2_s
  refine zw_aload_n (pc := 41) (n := 0) (x := q) rfl (zdal_p dlA_T_init_0 (i := 19) rfl) ?_
  refine zw_new (pc := 42) (ci := 4) (by decide) n_T_25 (by have := he9.1; omega) (by have := he9.1; have := hX.1; omega) (by have := he9.2.1; show _ + 9 ≤ X.2; have := hX.2; omega) (by decide) (zdal_p dlA_T_init_0 (i := 20) rfl) ?_
  have he10 : zExt M (zk_T_10 M q ) 43 (0 + 6 + (0 + 1 + (0 + 700)) + 4 + (0) + 9 + (0 + 8 + (0 + 1 + (0 + 4) + 1 + (0 + 24) + 1 + (0 + 576) + 1 + (0 + 24) + 1 + (0 + 24)) + 8 + (0 + 1 + (0 + 35) + 1 + (0 + 35) + 1 + (0 + 35) + 1 + (0 + 27) + 1 + (0 + 729)) + 3 + (0 + 1 + (0 + 1080) + 1 + (0 + 27)) + 5 + (0 + 1 + (0 + 27) + 1 + (0 + 24)) + 7 + (0 + 1 + (0 + 24)) + 1 + (0 + 8)) + 9) q := he9.al
  have kf10_0 : zf (zk_T_10 M q ) q 0 = some (zn (M)) := (congrFun (zal_old (by have := he9.1; omega)).2 0).trans kf9_0
  have kf10_1 : zf (zk_T_10 M q ) q 1 = some (zn (zk_T_3 M q )) := (congrFun (zal_old (by have := he9.1; omega)).2 1).trans kf9_1
  have kf10_2 : zf (zk_T_10 M q ) q 2 = some (zn (zk_T_6 M q )) := (congrFun (zal_old (by have := he9.1; omega)).2 2).trans kn9
  show zW l m_T_init X (zk_T_10 M q ) 45 [some (.ref q)] [.ref (zn (zk_T_9 M q )), .ref q] _
  refine zw_dup (pc := 45) rfl (zdal_p dlA_T_init_0 (i := 21) rfl) ?_
  refine zw_callI (pc := 46) (mc := 37) (ms := (0 + 8 + (0 + 1 + (0 + 4) + 1 + (0 + 24) + 1 + (0 + 576) + 1 + (0 + 24) + 1 + (0 + 24)) + 8 + (0 + 1 + (0 + 35) + 1 + (0 + 35) + 1 + (0 + 35) + 1 + (0 + 27) + 1 + (0 + 729)) + 3 + (0 + 1 + (0 + 1080) + 1 + (0 + 27)) + 5 + (0 + 1 + (0 + 27) + 1 + (0 + 24)) + 7 + (0 + 1 + (0 + 24)) + 1 + (0 + 8))) (b := zn (zk_T_9 M q )) [] [.ref (zn (zk_T_9 M q )), .ref q] l_T_27 (k_Troupe l (zk_T_10 M q ) (zn (zk_T_9 M q )) (by have := he10.1; show zn (zk_T_9 M q ) < zn (zk_T_9 M q ) + 1; omega) (congrArg Prod.fst (zal_sh (M := zk_T_9 M q ) (t := 7) (n := 9)))  (by have := he10.1; omega)) rfl rfl (by decide) ⟨by have := he10.1; have := hX.1; omega, by have := he10.2.1; show _ ≤ X.2; have := hX.2; omega⟩ (Nat.le_of_ble_eq_true rfl) (zdal_p dlA_T_init_0 (i := 22) rfl) (fun r M9 h9 _ _ => ?_)
  obtain ⟨rfl, rfl⟩ := h9
  have he11 : zExt M (zk_T_11 M q ) 80 (0 + 6 + (0 + 1 + (0 + 700)) + 4 + (0) + 9 + (0 + 8 + (0 + 1 + (0 + 4) + 1 + (0 + 24) + 1 + (0 + 576) + 1 + (0 + 24) + 1 + (0 + 24)) + 8 + (0 + 1 + (0 + 35) + 1 + (0 + 35) + 1 + (0 + 35) + 1 + (0 + 27) + 1 + (0 + 729)) + 3 + (0 + 1 + (0 + 1080) + 1 + (0 + 27)) + 5 + (0 + 1 + (0 + 27) + 1 + (0 + 24)) + 7 + (0 + 1 + (0 + 24)) + 1 + (0 + 8)) + 9 + (0 + 8 + (0 + 1 + (0 + 4) + 1 + (0 + 24) + 1 + (0 + 576) + 1 + (0 + 24) + 1 + (0 + 24)) + 8 + (0 + 1 + (0 + 35) + 1 + (0 + 35) + 1 + (0 + 35) + 1 + (0 + 27) + 1 + (0 + 729)) + 3 + (0 + 1 + (0 + 1080) + 1 + (0 + 27)) + 5 + (0 + 1 + (0 + 27) + 1 + (0 + 24)) + 7 + (0 + 1 + (0 + 24)) + 1 + (0 + 8))) q := he10.call (ext_Troupe (zk_T_10 M q ) (zn (zk_T_9 M q ))) (by have := he9.1; omega)
  have kf11_0 : zf (zk_T_11 M q ) q 0 = some (zn (M)) := (congrFun ((ext_Troupe (zk_T_10 M q ) (zn (zk_T_9 M q ))).2.2.2 q (by have := he10.1; omega) (by have := he9.1; omega)) 0).trans kf10_0
  have kf11_1 : zf (zk_T_11 M q ) q 1 = some (zn (zk_T_3 M q )) := (congrFun ((ext_Troupe (zk_T_10 M q ) (zn (zk_T_9 M q ))).2.2.2 q (by have := he10.1; omega) (by have := he9.1; omega)) 1).trans kf10_1
  have kf11_2 : zf (zk_T_11 M q ) q 2 = some (zn (zk_T_6 M q )) := (congrFun ((ext_Troupe (zk_T_10 M q ) (zn (zk_T_9 M q ))).2.2.2 q (by have := he10.1; omega) (by have := he9.1; omega)) 2).trans kf10_2
  show zW l m_T_init X (zk_T_11 M q ) 49 [some (.ref q)] [.ref (zn (zk_T_9 M q )), .ref q] _
  refine zw_putR (pc := 49) (x := zn (zk_T_9 M q )) (Or.inl ⟨f_T_32, rfl⟩) rfl (he11.q hq hqk) (fun _ => rfl) (fun _ => rfl) (zdal_p dlA_T_init_0 (i := 23) rfl) ?_
  have he12 : zExt M (zk_T_12 M q ) 80 (0 + 6 + (0 + 1 + (0 + 700)) + 4 + (0) + 9 + (0 + 8 + (0 + 1 + (0 + 4) + 1 + (0 + 24) + 1 + (0 + 576) + 1 + (0 + 24) + 1 + (0 + 24)) + 8 + (0 + 1 + (0 + 35) + 1 + (0 + 35) + 1 + (0 + 35) + 1 + (0 + 27) + 1 + (0 + 729)) + 3 + (0 + 1 + (0 + 1080) + 1 + (0 + 27)) + 5 + (0 + 1 + (0 + 27) + 1 + (0 + 24)) + 7 + (0 + 1 + (0 + 24)) + 1 + (0 + 8)) + 9 + (0 + 8 + (0 + 1 + (0 + 4) + 1 + (0 + 24) + 1 + (0 + 576) + 1 + (0 + 24) + 1 + (0 + 24)) + 8 + (0 + 1 + (0 + 35) + 1 + (0 + 35) + 1 + (0 + 35) + 1 + (0 + 27) + 1 + (0 + 729)) + 3 + (0 + 1 + (0 + 1080) + 1 + (0 + 27)) + 5 + (0 + 1 + (0 + 27) + 1 + (0 + 24)) + 7 + (0 + 1 + (0 + 24)) + 1 + (0 + 8))) q := he11.put
  have kf12_0 : zf (zk_T_12 M q ) q 0 = some (zn (M)) := (zup2_n (fun z => absurd z.2 (by decide))).trans kf11_0
  have kf12_1 : zf (zk_T_12 M q ) q 1 = some (zn (zk_T_3 M q )) := (zup2_n (fun z => absurd z.2 (by decide))).trans kf11_1
  have kf12_2 : zf (zk_T_12 M q ) q 2 = some (zn (zk_T_6 M q )) := (zup2_n (fun z => absurd z.2 (by decide))).trans kf11_2
  show zW l m_T_init X (zk_T_12 M q ) 52 [some (.ref q)] [] _
  have kn12 : zf (zk_T_12 M q ) q 3 = some (zn (zk_T_9 M q )) := zup2_s
  refine zw_aload_n (pc := 52) (n := 0) (x := q) rfl (zdal_p dlA_T_init_1 (i := 0) rfl) ?_
  refine zw_getF (pc := 53) f_T_28 rfl (he12.q hq hqk) kf12_2 (zdal_p dlA_T_init_1 (i := 1) rfl) ?_
  refine zw_iconst (pc := 56) (v := nI 1) (by decide) (zdal_p dlA_T_init_1 (i := 2) rfl) ?_
  exact kk
def zM0 : zMem := ((0, 0), fun _ => (0, 0), fun _ _ => 0, fun _ _ => 0, fun _ _ => none)
def zMT : zMem := zk_T_12 (zal zM0 3 4) 0 
def zTyB (B : Nat) (M : zMem) : Bool := (List.range B).all fun q => ((zsh M q).2 ≤ 1000000) && (((zsh M q).1 < 3) || ((zsh M q).1 ≥ 14) || ((List.range (zN ((zsh M q).1 - 3))).all fun j => (zG ((zsh M q).1 - 3) j != 2) || (match zf M q j with | some r => (r < B) && ((zsh M r).1 == zH ((zsh M q).1 - 3) j) | none => false)))
theorem zTy_of {B : Nat} {M : zMem} (h : zTyB B M = true) : zTy B M := by
  have key : ∀ q, q < B → _ := fun q hq => List.all_eq_true.mp h q (List.mem_range.mpr hq)
  refine ⟨fun q ci j h1 h2 h3 h4 h5 => ?_, fun q h1 => ?_⟩
  · have h6 := key q h1
    rw [h2, Nat.add_sub_cancel] at h6
    simp only [Bool.and_eq_true, Bool.or_eq_true, decide_eq_true_eq] at h6
    rcases h6.2 with (h7 | h7) | h7
    · omega
    · omega
    · have h8 := List.all_eq_true.mp h7 j (List.mem_range.mpr h4)
      rw [h5] at h8
      cases hz : zf M q j with
      | none => rw [hz] at h8; simp at h8
      | some r =>
        rw [hz] at h8
        simp only [bne_self_eq_false, Bool.false_or, Bool.and_eq_true, decide_eq_true_eq, beq_iff_eq] at h8
        exact ⟨r, rfl, h8.1, h8.2⟩
  · have h6 := key q h1
    simp only [Bool.and_eq_true, decide_eq_true_eq] at h6
    exact h6.1
set_option maxRecDepth 100000 in
theorem zMT_ty : zTyB 81 zMT = true := by decide +kernel
set_option maxRecDepth 100000 in
theorem zMT_facts : zn zMT = 81 ∧ zw zMT = 6233 ∧ (zsh zMT 0).1 = 3 ∧ zf zMT 0 0 = some 1 ∧ (zsh zMT 1).1 = 4 ∧ zi zMT 1 1 = 0 ∧ zf zMT 0 2 = some 5 ∧ (zsh zMT 5).1 = 7 := by decide +kernel
