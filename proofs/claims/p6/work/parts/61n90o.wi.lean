theorem w9_init (l : Launch) (M : zMem) (h : zn M = 82) (h2 : (zsh M 81).1 = 14) (h3 : ∀ j, zi M 81 j = 0) : zC l m_M_init 32 78111 [.ref 81] M (fun r N => r = none ∧ zOl (zmk M) N ∧ zMt N ∧ zWd N ∧ ze N 81 1 = 0 ∧ ∃ T, zRXn 1 [] T [] zS00 N) := by
  have nw := zmk_nw M
  refine zC_of (L0 := [some (.ref 81)]) md_M_init (Nat.le_of_ble_eq_true rfl) rfl ?_ (fun r N hq _ => by
    have e := hq.2.1.1
    unfold zn zw at nw ⊢
    rw [e]
    exact nw)
  refine k_Mpre l _ _ M h h2 (by show 114 ≤ zn M + 32; omega) (Nat.le_refl _) ?_
  have hW := zmk_t M h h2
  have e12 : ze (zmk M) 81 12 = 1 := by
    unfold ze
    rw [(zmk_o M h).2.2 12, if_pos rfl]
    rfl
  have e13 : ze (zmk M) 81 13 = 0 := zmk_z h h3 (by decide) (by decide) (by decide)
  have e14 : ze (zmk M) 81 14 = 0 := zmk_z h h3 (by decide) (by decide) (by decide)
  have e57 : ze (zmk M) 81 57 = 0 := zmk_z h h3 (by decide) (by decide) (by decide)
  have e1 : ze (zmk M) 81 1 = 0 := zmk_z h h3 (by decide) (by decide) (by decide)
  have b83 : zB 83 24 0 5 (zmk M) := zmk_b (zmk_a83 M h).2.2.1 (by decide)
  have b85 : zB 85 144 0 5 (zmk M) := zmk_b (zmk_a85 M h).2.2.1 (by decide)
  have b110 : zB 110 65536 0 2147483647 (zmk M) := zmk_b (zmk_a110 M h).2.2.1 (by decide)
  have hX : zn (zmk M) ≤ zn M + 32 ∧ zw (zmk M) ≤ zw M + 78111 := by omega
  refine zw_aload_n (pc := 287) (n := 0) (x := 81) rfl (zdal_p dlC_M_init_5 (i := 19) rfl) ?_
  refine zr_callV hW hX (pc := 288) [] [] l_M_118 (c_M_buildsF l (zmk M) hW (by omega) (by omega) (by omega) (by omega) (zPm_0 e13) (zFin_0 e13) b83 b85) rfl rfl rfl (by decide) (Nat.le_of_ble_eq_true rfl) (zdal_p dlC_M_init_5 (i := 20) rfl) ?_
  rintro _ N1 ⟨rfl, hf1, T, hT, hB, hTm, hCd⟩
  have hW1 := hf1.w hW
  have hX1 : zn N1 ≤ zn M + 32 ∧ zw N1 ≤ zw M + 78111 := by
    have e := hf1.1
    unfold zn zw at hX ⊢
    rw [e]
    exact hX
  have q12 : ze N1 81 12 = ze (zmk M) 81 12 := hf1.e (by decide)
  have q13 : ze N1 81 13 = ze (zmk M) 81 13 := hf1.e (by decide)
  have q14 : ze N1 81 14 = ze (zmk M) 81 14 := hf1.e (by decide)
  have mz : ∀ K : zMem, ze K 81 13 = 0 → zMvs K = [] := fun K hK => by
    unfold zMvs
    rw [hK]
    rfl
  rw [mz _ e13] at hTm hCd
  refine zw_aload_n (pc := 291) (n := 0) (x := 81) rfl (zdal_p dlC_M_init_5 (i := 21) rfl) ?_
  refine zr_callV hW1 hX1 (pc := 292) [] [] l_M_121 (c_M_inForceN l N1 hW1 [] (fun _ => 0) 0 (gF T).length (gmkI T) (by have h_ := (gT_zTA hT).1.2; omega) [] (by omega) (by omega) (by omega) (by omega) (zPm_0 (by omega)) (zFin_0 (by omega)) (zB.fr hf1 b83 (by decide) (by decide)) (by omega) (by omega) (mz _ (by omega)) (zRNm_z (by omega))) rfl rfl rfl (by decide) (Nat.le_of_ble_eq_true rfl) (zdal_p dlC_M_init_5 (i := 22) rfl) ?_
  rintro _ N2 ⟨rfl, hf2, p1, p2, p3, p4, p5, p6, p7, p8⟩
  have q1 : ze N2 81 1 = 0 := (hf2.e (by decide)).trans ((hf1.e (by decide)).trans e1)
  have q142 : ze N2 81 14 = 0 := (hf2.e (by decide)).trans (q14.trans e14)
  have q57 : ze N2 81 57 = 0 := (hf2.e (by decide)).trans ((hf1.e (by decide)).trans e57)
  have o1 := hf1.old (by decide)
  have o2 := hf2.old (by decide)
  refine zw_vret (S := []) (pc := 295) rfl (zdal_p dlC_M_init_5 (i := 23) rfl) ⟨rfl, ⟨o2.1.trans o1.1, o2.2.1.trans o1.2.1, o2.2.2.1.trans o1.2.2.1, fun q hq => ⟨(o2.2.2.2 q hq).1.trans (o1.2.2.2 q hq).1, (o2.2.2.2 q hq).2.trans (o1.2.2.2 q hq).2⟩⟩, hf2.w hW1, ⟨⟨by omega, by omega⟩, ⟨by omega, by omega⟩, ⟨p3, p4⟩, ⟨by omega, by omega⟩, ⟨by omega, by omega⟩, p1, zB.fr hf2 (zB.fr hf1 b83 (by decide) (by decide)) (by decide) (by decide), zB.fr hf2 (zB.fr hf1 b110 (by decide) (by decide)) (by decide) (by decide), T, hT, zGB.fr hf2 hB (by decide) (by decide)⟩, q1, T, ⟨hT, hTm, zGB.fr hf2 hB (by decide) (by decide), by omega, p5, zCdS.fr hf2 (hCd.p (by omega)) (by decide) (by decide), [], zRNm_z (by omega), p7⟩, zRNm_z (by omega), p7, ⟨by rw [p2]; rfl, Nat.zero_le _⟩, fun k hk => p8.2 k (by have := (gT_zTA hT).1.2; omega), fun m k hm _ => absurd hm (Nat.not_lt_zero m)⟩
