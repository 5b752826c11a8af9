theorem zMT_K : zKB 0 zKt0 zKo0 zKr0 zMT ∧ zKB 5 zKt zKo zKr zMT ∧ zKB 43 zKt zKo zKr zMT ∧ zf zMT 0 2 = some (5 + 0) ∧ zf zMT 0 3 = some (43 + 0) := by
  unfold zKB
  decide +kernel
set_option maxRecDepth 20000 in
theorem k_TN (l : Launch) : zC l m_T_init 80 6229 [.ref 0] (zal zM0 3 4) (fun r M' => r = none ∧ M'.1 = zMT.1 ∧ zsh M' = zsh zMT ∧ zf M' = zf zMT ∧ zi M' 1 1 = zi zMT 1 1 ∧ ∃ T, zTm [] T ∧ zKXn 1 [] T [] zS00 5 M') := by
  obtain ⟨f1, f2, f3, f4, f5, f6, f7, f8⟩ := zMT_facts
  obtain ⟨k1, k2, k3, k4, k5⟩ := zMT_K
  have hW : zKW 5 zMT := ⟨by omega, Or.inl rfl, k1, k2⟩
  refine zC_of (L0 := [some (.ref 0)]) md_T_init (Nat.le_of_ble_eq_true rfl) rfl ?_ (fun r M' h _ => by
    have e1 : zn M' = 81 := by rw [← f1]; unfold zn; rw [h.2.1]
    have e2 : zw M' = 6233 := by rw [← f2]; unfold zw; rw [h.2.1]
    exact ⟨e1, e2⟩)
  refine k_Tpre l _ _ (zal zM0 3 4) 0 (by decide) rfl (by decide) ⟨by decide, by decide⟩ ?_
  show zW l m_T_init (zn (zal zM0 3 4) + 80, zw (zal zM0 3 4) + 6229) zMT 57 [some (.ref 0)] [.int (Int32.ofInt 1), .ref (5 + 0)] _
  have hX : zn zMT ≤ zn (zal zM0 3 4) + 80 ∧ zw zMT ≤ zw (zal zM0 3 4) + 6229 := ⟨by rw [f1]; decide, by rw [f2]; decide⟩
  refine zk_callV hX (pc := 57) [.int (Int32.ofInt 1)] [] l_T_35 (u_Troupe_beginN l 5 zMT hW 1 (by decide) (by decide) 1 rfl (by decide) (by decide)) rfl rfl (hW.kr (o := 0) (by decide)) (by decide) (by decide) (Nat.le_of_ble_eq_true rfl) (zdal_p dlA_T_init_1 (i := 3) rfl) ?_
  rintro _ N1 ⟨rfl, h1, m1, g1, s6, s7, s8⟩
  have hW1 := h1.w hW
  refine zw_aload_n (pc := 60) (n := 0) (x := 0) rfl (zdal_p dlA_T_init_1 (i := 4) rfl) ?_
  refine zw_getF (pc := 61) (r := 5 + 0) f_T_28 rfl (hW1.ka (o := 0) (by decide)) (by rw [h1.2.2.1]; exact k4) (zdal_p dlA_T_init_1 (i := 5) rfl) ?_
  have hX1 : zn N1 ≤ zn (zal zM0 3 4) + 80 ∧ zw N1 ≤ zw (zal zM0 3 4) + 6229 := by
    have e := h1.1
    unfold zn zw at hX ⊢
    rw [e]
    exact hX
  refine zk_callV hX1 (pc := 64) [] [] l_T_39 (u_Troupe_settleN l 5 N1 hW1 1 [] (fun g h => absurd h (by simp)) m1 g1) rfl rfl (hW1.kr (o := 0) (by decide)) (by decide) (by decide) (Nat.le_of_ble_eq_true rfl) (zdal_p dlA_T_init_1 (i := 6) rfl) ?_
  rintro _ N2 ⟨rfl, h2, ⟨T, t1, t2, t3, t4, t5, t6, t7, t8, t9⟩, t10⟩
  have hF := (gT_zTA t1).1.2
  have hz : zi N2 1 1 = zi zMT 1 1 := (h2.2.2.2.1 1 (Or.inl (by decide)) (by decide) 1 (by decide)).1.trans (h1.2.2.2.1 1 (Or.inl (by decide)) (by decide) 1 (by decide)).1
  exact zw_vret (S := []) (pc := 67) rfl (zdal_p dlA_T_init_1 (i := 7) rfl) ⟨rfl, h2.1.trans h1.1, h2.2.1.trans h1.2.1, h2.2.2.1.trans h1.2.2.1, hz, T, t2, ⟨zMvK.fr hW1 h2 m1 (by decide), t6, t5, t7, t3, t8⟩, zNm_z (t10.trans s6), zSK_00 hF ((h2.e (by decide)).trans s7) ((h2.e (by decide)).trans s8) t9⟩
