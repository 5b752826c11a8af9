theorem zGB.d {T : zGT} {M : zMem} (hO : gOK T) (h : zGB T M) : zGD M := by
  obtain ⟨h1, h2, h3, h4, h5, h6, h7⟩ := h
  have a1 := h1.1
  have a2 := h3.1.1
  have a3 := zJ_le hO h3.1
  have a4 := h4.1
  have a5 := gF_pos hO
  have a6 := hO.1.1
  have a7 := hO.1.2.1
  refine ⟨by omega, fun e e0 e1 => ?_⟩
  have hk := h7 e.toNat e.toNat (by omega) (by (exact zo_2416 a4 e0 e1)) (by (exact zo_2416 a4 e0 e1))
  rw [show (64 * e + e).toNat = 64 * e.toNat + e.toNat by omega, hk]
  have := hO.2.2.2 e.toNat (by (exact zo_2416 a4 e0 e1))
  omega
def gMe (T : zGT) (x : Int) : Prop := 0 ≤ x ∧ x.toNat ∈ gS T
theorem gMe.i {T : zGT} (hO : gOK T) {x : Int} (h : gMe T x) : gIn T x := ⟨h.1, (hO.2.1.2.2 _ h.2).1.2.1⟩
theorem gMe.b {T : zGT} (hO : gOK T) {x : Int} (h : gMe T x) : 0 ≤ x ∧ x < 16777216 := by
  have := hO.sb h.2
  have := h.1
  omega
theorem gMe.f {T : zGT} (hO : gOK T) {M : zMem} (hJ : zJX T M) {x : Int} (h : gMe T x) : ∃ k : Nat, (k : Int) < ze M 81 25 ∧ ze M 89 k = x := by
  obtain ⟨h1, h2, h3⟩ := (hO.2.1.2.2 _ h.2).1
  obtain ⟨k, hk, e⟩ := zJ_all hJ.1 hJ.2 h2 h3
  have := h.1
  exact ⟨k, hk, by omega⟩
theorem zFirs.g {T : zGT} (hO : gOK T) {M : zMem} (h : zFirs T M) {e : Int} (e0 : 0 ≤ e) (e1 : e < ze M 81 26) : gMe T (ze M 91 e.toNat) ∧ 0 ≤ ze M 91 e.toNat ∧ ze M 91 e.toNat < 16777216 := by
  have a4 := h.1
  have h2 := h.2 e.toNat (by (exact zo_2416 a4 e0 e1))
  have h3 := (hO.2.2.1.2.1 _ (gF_m (T := T) (i := e.toNat) (by (exact zo_2416 a4 e0 e1)))).1
  have hm : gMe T (ze M 91 e.toNat) := ⟨by (exact zo_537 h2), by rw [h2, Int.toNat_natCast]; exact h3⟩
  exact ⟨hm, hm.b hO⟩
theorem zJX.g {T : zGT} (hO : gOK T) {M : zMem} (h : zJX T M) {e : Int} (e0 : 0 ≤ e) (e1 : e < ze M 81 25) : gMe T (ze M 89 e.toNat) ∧ 0 ≤ ze M 89 e.toNat ∧ ze M 89 e.toNat < 16777216 := by
  have hm : gMe T (ze M 89 e.toNat) := h.1.2.2.1 e.toNat (by (exact zo_587 e0 e1))
  exact ⟨hm, hm.b hO⟩
theorem zshl_b {T : zGT} (hG : gGd T) {k : Int} (e : k = (gN T : Int)) : zshl 1 k = ((2 ^ gN T : Nat) : Int) ∧ 1 ≤ zshl 1 k ∧ zshl 1 k ≤ 16777216 := by
  have h24 := hG.2.1
  have h1 : zshl 1 k = ((2 ^ gN T : Nat) : Int) := by rw [e]; exact zshl1 (gN T) (by omega)
  have h2 : (2 : Nat) ^ gN T ≤ 2 ^ 24 := Nat.pow_le_pow_right (by (decide)) h24
  have h3 : (2 : Nat) ^ 24 = 16777216 := rfl
  have h4 := Nat.two_pow_pos (gN T)
  exact ⟨h1, by omega, by omega⟩
theorem zshl_i {T : zGT} (hG : gGd T) {k : Int} (k0 : 0 ≤ k) (k1 : k < gN T) : gIn T (zshl 1 k) ∧ 0 ≤ zshl 1 k ∧ zshl 1 k < 16777216 := by
  have h24 := hG.2.1
  obtain ⟨n, rfl⟩ := Int.eq_ofNat_of_zero_le k0
  have h1 := zshl1 n (by omega)
  have h5 : 2 ^ n < 2 ^ gN T := Nat.pow_lt_pow_right (by (decide)) (by omega)
  have hi : gIn T (zshl 1 (n : Int)) := by rw [h1]; exact ⟨Int.natCast_nonneg _, by rw [Int.toNat_natCast]; exact h5⟩
  have := g24 h24 hi.1 hi.2
  exact ⟨hi, hi.1, this⟩
theorem gIn_o {T : zGT} (hG : gGd T) {x y : Int} (hx : gIn T x) (hy : gIn T y) : gIn T (zor x y) := by
  have h1 := g24 hG.2.1 hx.1 hx.2
  have h2 := g24 hG.2.1 hy.1 hy.2
  obtain ⟨x0, x1⟩ := hx
  obtain ⟨y0, y1⟩ := hy
  obtain ⟨m, rfl⟩ := Int.eq_ofNat_of_zero_le x0
  obtain ⟨n, rfl⟩ := Int.eq_ofNat_of_zero_le y0
  rw [zor_n m n (by omega) (by omega)]
  exact ⟨by (exact zo_85), by rw [Int.toNat_natCast]; exact Nat.or_lt_two_pow x1 y1⟩
theorem gMe_a {T : zGT} (hO : gOK T) {x y : Int} (hx : gMe T x) (hy : gMe T y) : gMe T (zand x y) := by
  have h1 := hx.b hO
  have h2 := hy.b hO
  obtain ⟨s1, s2, s3⟩ := (hO.2.1.2.2 _ hx.2).1
  obtain ⟨t1, t2, t3⟩ := (hO.2.1.2.2 _ hy.2).1
  obtain ⟨x0, x1⟩ := hx
  obtain ⟨y0, y1⟩ := hy
  obtain ⟨m, rfl⟩ := Int.eq_ofNat_of_zero_le x0
  obtain ⟨n, rfl⟩ := Int.eq_ofNat_of_zero_le y0
  rw [zand_n m n (by omega) (by omega)]
  exact ⟨by (exact zo_85), by rw [Int.toNat_natCast]; exact hO.clm (Nat.lt_of_le_of_lt Nat.and_le_left s2) (s3.and t3)⟩
theorem gMe_c {T : zGT} (hO : gOK T) {x v : Int} (h : gLC T x.toNat v.toNat) (h0 : 0 ≤ v) : gMe T v := ⟨h0, hO.mem h⟩
theorem zshl0_k : ∀ k : Fin 31, zshl 0 ((k.val : Nat) : Int) = 0 := by decide +kernel
theorem gIn_t {T : zGT} (hG : gGd T) {x t g : Int} (hx : gIn T x) (ht : t = 0 ∨ t = 1) (g0 : 0 ≤ g) (g1 : g < gN T) : gIn T (zor x (zshl t g)) := by
  have h24 := hG.2.1
  rcases ht with rfl | rfl
  · obtain ⟨n, rfl⟩ := Int.eq_ofNat_of_zero_le g0
    have e : zshl 0 (n : Int) = 0 := zshl0_k ⟨n, by omega⟩
    rw [e]
    exact gIn_o hG hx ⟨by (decide), Nat.two_pow_pos _⟩
  · exact gIn_o hG hx (zshl_i hG g0 g1).1
theorem gIn_0 (T : zGT) : gIn T 0 := ⟨by (decide), Nat.two_pow_pos _⟩
theorem gIn.b {T : zGT} (hG : gGd T) {x : Int} (h : gIn T x) : 0 ≤ x ∧ x < 16777216 := ⟨h.1, g24 hG.2.1 h.1 h.2⟩
theorem zquo_n {a b : Int} (a0 : 0 ≤ a) (a1 : a < 2147483648) (b0 : 1 ≤ b) (b1 : b < 2147483648) : zquo a b = a / b := by
  have ha : zn32 a := ⟨by (exact zo_168 a0), a1⟩
  have hb : zn32 b := ⟨by (exact zo_920 b0), b1⟩
  unfold zquo
  rw [Int32.toInt_div, z32 ha, z32 hb, Int.tdiv_eq_ediv_of_nonneg a0]
  have h1 : 0 ≤ a / b := Int.ediv_nonneg a0 (by (exact zo_564 b0))
  have h2 : a / b ≤ a := Int.ediv_le_self b a0
  rw [Int.bmod_def]
  omega
theorem zrem_n {a b : Int} (a0 : 0 ≤ a) (a1 : a < 2147483648) (b0 : 1 ≤ b) (b1 : b < 2147483648) : zrem a b = a - zquo a b * b := by
  have e : Int32.ofInt a / Int32.ofInt b = Int32.ofInt (zquo a b) := (Int32.ofInt_toInt _).symm
  have h1 := zquo_n a0 a1 b0 b1
  have h3 : 0 ≤ a / b := Int.ediv_nonneg a0 (by (exact zo_564 b0))
  have h4 : a / b * b ≤ a := Int.ediv_mul_le a (by (exact zo_999 b0))
  have h5 : 0 ≤ a / b * b := Int.mul_nonneg h3 (by (exact zo_564 b0))
  unfold zrem
  rw [e, ← Int32.ofInt_mul, ← Int32.ofInt_sub, z32 ⟨by rw [h1]; omega, by rw [h1]; omega⟩]
theorem zdv {a p : Int} (a0 : 1 ≤ a) (a1 : a < 2147483648) (p0 : 2 ≤ p) (p1 : p < 2147483648) (h : zrem a p = 0) : 1 ≤ zquo a p ∧ zquo a p < a := by
  have h1 := zrem_n (by (exact zo_564 a0)) a1 (by omega) p1
  have h2 := zquo_n (by (exact zo_564 a0)) a1 (by omega) p1
  have h3 : 0 ≤ a / p := Int.ediv_nonneg (by (exact zo_564 a0)) (by (exact zo_1280 p0))
  rw [h] at h1
  rw [h2] at h1 ⊢
  have hq : a / p ≠ 0 := by
    intro e
    rw [e] at h1
    omega
  have h6 : a / p * 2 ≤ a / p * p := Int.mul_le_mul_of_nonneg_left p0 h3
  omega
theorem zquo_p {a b : Int} (a1 : a ≤ 31) (b0 : 1 ≤ b) (hb : b ≤ a) : 1 ≤ zquo a b ∧ zquo a b ≤ 31 := by
  rw [zquo_n (by omega) (by (exact zo_922 a1)) b0 (by omega)]
  have h1 : 1 ≤ a / b := Int.le_ediv_of_mul_le (by omega) (by omega)
  have h2 : a / b ≤ a := Int.ediv_le_self b (by omega)
  omega
theorem zcb_1 {x : Int} (h0 : 0 ≤ x) (h1 : x < 2147483648) (hb : x.toNat.testBit 0 = true) : 1 ≤ zcb x 31 := by
  have key : ∀ k, k ≤ 30 → 1 ≤ zcb x (k + 1) := by
    intro k
    induction k with
    | zero =>
      intro _
      show 1 ≤ zcb x 0 + zand (zshr x ((0 : Nat) : Int)) 1
      have := zbit (x := x) (k := ((0 : Nat) : Int)) h0 h1 (by (decide)) (by (decide))
      rcases this with ⟨-, h⟩ | ⟨h, -⟩
      · rw [h]
        show (1 : Int) ≤ 0 + 1
        decide
      · exact absurd hb h
    | succ k ih =>
      intro hk
      show 1 ≤ zcb x (k + 1) + zand (zshr x ((k + 1 : Nat) : Int)) 1
      have h2 := ih (by omega)
      have := zbit (x := x) (k := ((k + 1 : Nat) : Int)) h0 h1 (by omega) (by omega)
      rcases this with ⟨-, h⟩ | ⟨-, h⟩ <;> rw [h] <;> omega
  exact key 30 (by (decide))
theorem gMe.o {T : zGT} (hO : gOK T) {x : Int} (h : gMe T x) : 1 ≤ zcb x 31 := by
  have hb := h.b hO
  exact zcb_1 hb.1 (by omega) (hO.2.1.2.2 _ h.2).1.2.2.1
set_option maxHeartbeats 4000000 in
theorem c_M_isMember (l : Launch) (Mz : zMem) (hW : zMt Mz) (a0_ : Int) (ha0_a : -2147483648 ≤ a0_) (ha0_b : a0_ < 2147483648) (T : zGT) (hO : gOK T) (p0_ : zGB T Mz) : zC l m_M_isMember 0 0 [.ref 81, .int (Int32.ofInt a0_)] Mz (zpI [] [] Mz (fun v N => (((v = 1 ∧ 0 ≤ a0_ ∧ a0_ < ze Mz 81 20) ∨ (v = 0))))) := by
  refine zC_of (L0 := [some (.ref 81), some (.int (Int32.ofInt a0_))]) md_M_isMember (Nat.le_of_ble_eq_true rfl) rfl ?_ zQ0
  have hf : zFr [] [] Mz Mz := zFr.rf
  have r_20 := ze_r Mz 81 20
  have hG := hO.1
  have g24 := hG.2.1
  have g1 := hG.1
  have dv0 : zTab T Mz := p0_.1
  have dv1 : zB 85 144 0 5 Mz := p0_.2.1
  have dv2 : zJX T Mz := p0_.2.2.1
  have dv3 : zFirs T Mz := p0_.2.2.2.1
  have dv4 : zSSm T Mz := p0_.2.2.2.2.1
  have dv5 : zGD Mz := zGB.d hO p0_
  have gb := dv5.1
  have gn := dv0.1
  refine zw_iload_n (pc := 0) (n := 1) (x := Int32.ofInt a0_) rfl (zdal_p dlD_M_isMember_2 (i := 0) rfl) ?_
  refine zr_i2l (pc := 1) ⟨ha0_a, ha0_b⟩ (zdal_p dlD_M_isMember_2 (i := 1) rfl) ?_
  refine zw_lconst (pc := 2) (v := Int64.ofInt 0) (by decide) (zdal_p dlD_M_isMember_2 (i := 2) rfl) ?_
  refine zw_aload_n (pc := 3) (n := 0) (x := 81) rfl (zdal_p dlD_M_isMember_2 (i := 3) rfl) ?_
  refine zr_getI0 hf hW (pc := 4) (by decide) f_M_196 rfl (zdal_p dlD_M_isMember_2 (i := 4) rfl) ?_
  refine zw_iconst (pc := 7) (v := Int32.ofInt 1) (by decide) (zdal_p dlD_M_isMember_2 (i := 5) rfl) ?_
  refine zr_isub (pc := 8) (zdal_p dlD_M_isMember_2 (i := 6) rfl) ?_
  refine zr_i2l (pc := 9) ⟨(by (exact zo_63 gb.1)), (by (exact zo_4 gb.2.1))⟩ (zdal_p dlD_M_isMember_2 (i := 7) rfl) ?_
  refine zr_callS hf.x (pc := 10) [.long (Int64.ofInt a0_), .long (Int64.ofInt 0), .long (Int64.ofInt ((ze Mz 81 20) - 1))] [] l_M_131 (c_M_isIn l Mz (hf.w hW) a0_ (by (exact zo_282 ha0_a)) (by (exact zo_283 ha0_b)) 0 (by decide) (by decide) ((ze Mz 81 20) - 1) (by (exact zo_2432 gb.1)) (by omega)) rfl rfl (by decide) (Nat.le_of_ble_eq_true rfl) (zdal_p dlD_M_isMember_2 (i := 8) rfl) ?_
  rintro _ N1_ ⟨v2_, rfl, ⟨hv2_a, hv2_b⟩, hsN1_, hp0_N1_⟩
  obtain rfl := hsN1_.eq.symm
  replace hp0_N1_ : ((v2_ = 1 ∧ 0 ≤ a0_ ∧ a0_ ≤ ((ze Mz 81 20) - 1)) ∨ (v2_ = 0 ∧ (a0_ < 0 ∨ ((ze Mz 81 20) - 1) < a0_))) := hp0_N1_
  rcases hp0_N1_ with ⟨rfl, ha10_0_hp0_N1_, ha10_1_hp0_N1_⟩ | ⟨rfl, ha10_0_hp0_N1_⟩
  · skip
    show zW l m_M_isMember (zn Mz + 0, zw Mz + 0) Mz 13 [some (.ref 81), some (.int (Int32.ofInt a0_))] [.int (Int32.ofInt 1)] _
    exact zr_iret (pc := 13) (ty := .boolean) rfl (z_narB (by (decide))) ⟨by (exact hv2_a), by (exact hv2_b)⟩ hf (show ((1 = 1 ∧ 0 ≤ a0_ ∧ a0_ < ze Mz 81 20) ∨ (1 = 0)) from Or.inl (⟨(show 1 = 1 by first | with_reducible assumption | (decide) | assumption), (show 0 ≤ a0_ by first | with_reducible assumption | assumption | omega), (show a0_ < ze Mz 81 20 by first | with_reducible assumption | (exact zo_890 ha10_1_hp0_N1_) | assumption)⟩)) (zdal_p dlD_M_isMember_2 (i := 9) rfl)
  · skip
    show zW l m_M_isMember (zn Mz + 0, zw Mz + 0) Mz 13 [some (.ref 81), some (.int (Int32.ofInt a0_))] [.int (Int32.ofInt 0)] _
    exact zr_iret (pc := 13) (ty := .boolean) rfl (z_narB (by (decide))) ⟨by (exact hv2_a), by (exact hv2_b)⟩ hf (show ((0 = 1 ∧ 0 ≤ a0_ ∧ a0_ < ze Mz 81 20) ∨ (0 = 0)) from Or.inr ((show 0 = 0 by first | with_reducible assumption | (decide) | assumption))) (zdal_p dlD_M_isMember_2 (i := 9) rfl)
set_option maxHeartbeats 4000000 in
theorem c_M_isSort (l : Launch) (Mz : zMem) (hW : zMt Mz) (a0_ : Int) (ha0_a : -2147483648 ≤ a0_) (ha0_b : a0_ < 2147483648) (T : zGT) (hO : gOK T) (p0_ : zGB T Mz) : zC l m_M_isSort 0 0 [.ref 81, .int (Int32.ofInt a0_)] Mz (zpI [] [] Mz (fun v N => (((v = 1 ∧ 0 ≤ a0_ ∧ a0_ < ze Mz 81 26) ∨ (v = 0))))) := by
  refine zC_of (L0 := [some (.ref 81), some (.int (Int32.ofInt a0_))]) md_M_isSort (Nat.le_of_ble_eq_true rfl) rfl ?_ zQ0
  have hf : zFr [] [] Mz Mz := zFr.rf
  have r_26 := ze_r Mz 81 26
  have hG := hO.1
  have g24 := hG.2.1
  have g1 := hG.1
  have dv0 : zTab T Mz := p0_.1
  have dv1 : zB 85 144 0 5 Mz := p0_.2.1
  have dv2 : zJX T Mz := p0_.2.2.1
  have dv3 : zFirs T Mz := p0_.2.2.2.1
  have dv4 : zSSm T Mz := p0_.2.2.2.2.1
  have dv5 : zGD Mz := zGB.d hO p0_
  have gb := dv5.1
  have gn := dv0.1
  refine zw_iload_n (pc := 0) (n := 1) (x := Int32.ofInt a0_) rfl (zdal_p dlD_M_isSort_17 (i := 0) rfl) ?_
  refine zr_i2l (pc := 1) ⟨ha0_a, ha0_b⟩ (zdal_p dlD_M_isSort_17 (i := 1) rfl) ?_
  refine zw_lconst (pc := 2) (v := Int64.ofInt 0) (by decide) (zdal_p dlD_M_isSort_17 (i := 2) rfl) ?_
  refine zw_aload_n (pc := 3) (n := 0) (x := 81) rfl (zdal_p dlD_M_isSort_17 (i := 3) rfl) ?_
  refine zr_getI0 hf hW (pc := 4) (by decide) f_M_235 rfl (zdal_p dlD_M_isSort_17 (i := 4) rfl) ?_
  refine zw_iconst (pc := 7) (v := Int32.ofInt 1) (by decide) (zdal_p dlD_M_isSort_17 (i := 5) rfl) ?_
  refine zr_isub (pc := 8) (zdal_p dlD_M_isSort_17 (i := 6) rfl) ?_
  refine zr_i2l (pc := 9) ⟨(by (exact zo_63 gb.2.2.2.2.1)), (by (exact zo_903 gb.2.2.2.2.2))⟩ (zdal_p dlD_M_isSort_17 (i := 7) rfl) ?_
  refine zr_callS hf.x (pc := 10) [.long (Int64.ofInt a0_), .long (Int64.ofInt 0), .long (Int64.ofInt ((ze Mz 81 26) - 1))] [] l_M_131 (c_M_isIn l Mz (hf.w hW) a0_ (by (exact zo_282 ha0_a)) (by (exact zo_283 ha0_b)) 0 (by decide) (by decide) ((ze Mz 81 26) - 1) (by (exact zo_2432 gb.2.2.2.2.1)) (by omega)) rfl rfl (by decide) (Nat.le_of_ble_eq_true rfl) (zdal_p dlD_M_isSort_17 (i := 8) rfl) ?_
  rintro _ N1_ ⟨v2_, rfl, ⟨hv2_a, hv2_b⟩, hsN1_, hp0_N1_⟩
  obtain rfl := hsN1_.eq.symm
  replace hp0_N1_ : ((v2_ = 1 ∧ 0 ≤ a0_ ∧ a0_ ≤ ((ze Mz 81 26) - 1)) ∨ (v2_ = 0 ∧ (a0_ < 0 ∨ ((ze Mz 81 26) - 1) < a0_))) := hp0_N1_
  rcases hp0_N1_ with ⟨rfl, ha10_0_hp0_N1_, ha10_1_hp0_N1_⟩ | ⟨rfl, ha10_0_hp0_N1_⟩
  · skip
    show zW l m_M_isSort (zn Mz + 0, zw Mz + 0) Mz 13 [some (.ref 81), some (.int (Int32.ofInt a0_))] [.int (Int32.ofInt 1)] _
    exact zr_iret (pc := 13) (ty := .boolean) rfl (z_narB (by (decide))) ⟨by (exact hv2_a), by (exact hv2_b)⟩ hf (show ((1 = 1 ∧ 0 ≤ a0_ ∧ a0_ < ze Mz 81 26) ∨ (1 = 0)) from Or.inl (⟨(show 1 = 1 by first | with_reducible assumption | (decide) | assumption), (show 0 ≤ a0_ by first | with_reducible assumption | assumption | omega), (show a0_ < ze Mz 81 26 by first | with_reducible assumption | (exact zo_890 ha10_1_hp0_N1_) | assumption)⟩)) (zdal_p dlD_M_isSort_17 (i := 9) rfl)
  · skip
    show zW l m_M_isSort (zn Mz + 0, zw Mz + 0) Mz 13 [some (.ref 81), some (.int (Int32.ofInt a0_))] [.int (Int32.ofInt 0)] _
    exact zr_iret (pc := 13) (ty := .boolean) rfl (z_narB (by (decide))) ⟨by (exact hv2_a), by (exact hv2_b)⟩ hf (show ((0 = 1 ∧ 0 ≤ a0_ ∧ a0_ < ze Mz 81 26) ∨ (0 = 0)) from Or.inr ((show 0 = 0 by first | with_reducible assumption | (decide) | assumption))) (zdal_p dlD_M_isSort_17 (i := 9) rfl)
set_option maxHeartbeats 4000000 in
theorem c_M_moves (l : Launch) (Mz : zMem) (hW : zMt Mz) (a0_ : Int) (ha0_a : -2147483648 ≤ a0_) (ha0_b : a0_ < 2147483648) (a1_ : Int) (ha1_a : -2147483648 ≤ a1_) (ha1_b : a1_ < 2147483648) (T : zGT) (hO : gOK T) (p0_ : zGB T Mz) (p1_ : 1 ≤ ze Mz 81 16) (p2_ : ze Mz 81 16 ≤ 6) : zC l m_M_moves 0 0 [.ref 81, .int (Int32.ofInt a0_), .int (Int32.ofInt a1_)] Mz (zpI [] [] Mz (fun v N => True)) := by
  refine zC_of (L0 := [some (.ref 81), some (.int (Int32.ofInt a0_)), some (.int (Int32.ofInt a1_))]) md_M_moves (Nat.le_of_ble_eq_true rfl) rfl ?_ zQ0
  have hf : zFr [] [] Mz Mz := zFr.rf
  have r_16 := ze_r Mz 81 16
  have r_20 := ze_r Mz 81 20
  have hG := hO.1
  have g24 := hG.2.1
  have g1 := hG.1
  have dv0 : zTab T Mz := p0_.1
  have dv1 : zB 85 144 0 5 Mz := p0_.2.1
  have dv2 : zJX T Mz := p0_.2.2.1
  have dv3 : zFirs T Mz := p0_.2.2.2.1
  have dv4 : zSSm T Mz := p0_.2.2.2.2.1
  have dv5 : zGD Mz := zGB.d hO p0_
  have gb := dv5.1
  have gn := dv0.1
  refine zw_aload_n (pc := 0) (n := 0) (x := 81) rfl (zdal_p dlD_M_moves_0 (i := 0) rfl) ?_
  refine zw_iload_n (pc := 1) (n := 1) (x := Int32.ofInt a0_) rfl (zdal_p dlD_M_moves_0 (i := 1) rfl) ?_
  refine zr_callV (hf.w hW) hf.x (pc := 2) [.int (Int32.ofInt a0_)] [] l_M_400 (c_M_isMember l Mz (hf.w hW) a0_ ha0_a ha0_b T hO p0_) rfl rfl rfl (by decide) (Nat.le_of_ble_eq_true rfl) (zdal_p dlD_M_moves_0 (i := 2) rfl) ?_
  rintro _ N1_ ⟨v2_, rfl, ⟨hv2_a, hv2_b⟩, hsN1_, hp0_N1_⟩
  obtain rfl := hsN1_.eq.symm
  replace hp0_N1_ : ((v2_ = 1 ∧ 0 ≤ a0_ ∧ a0_ < ze Mz 81 20) ∨ (v2_ = 0)) := hp0_N1_
  rcases hp0_N1_ with ⟨rfl, ha2_0_hp0_N1_, ha2_1_hp0_N1_⟩ | rfl
  · skip
    show zW l m_M_moves (zn Mz + 0, zw Mz + 0) Mz 5 [some (.ref 81), some (.int (Int32.ofInt a0_)), some (.int (Int32.ofInt a1_))] [.int (Int32.ofInt 1)] (zpI [] [] Mz (fun v N => True))
    refine zr_if_eq (pc := 5) (tgt := 38) ⟨(by decide), (by decide)⟩ (by decide) (zdal_p dlD_M_moves_0 (i := 3) rfl) (fun hc_5 => ?_) (fun hc_5 => ?_)
    · skip
      exact absurd hc_5 (by decide)
    · skip
      refine zw_iload_n (pc := 8) (n := 2) (x := Int32.ofInt a1_) rfl (zdal_p dlD_M_moves_0 (i := 4) rfl) ?_
      refine zr_i2l (pc := 9) ⟨ha1_a, ha1_b⟩ (zdal_p dlD_M_moves_0 (i := 5) rfl) ?_
      refine zw_lconst (pc := 10) (v := Int64.ofInt 0) (by decide) (zdal_p dlD_M_moves_0 (i := 6) rfl) ?_
      refine zw_aload_n (pc := 11) (n := 0) (x := 81) rfl (zdal_p dlD_M_moves_0 (i := 7) rfl) ?_
      refine zr_getI0 hf hW (pc := 12) (by decide) f_M_382 rfl (zdal_p dlD_M_moves_0 (i := 8) rfl) ?_
      refine zw_iconst (pc := 15) (v := Int32.ofInt 1) (by decide) (zdal_p dlD_M_moves_0 (i := 9) rfl) ?_
      refine zr_isub (pc := 16) (zdal_p dlD_M_moves_0 (i := 10) rfl) ?_
      refine zr_i2l (pc := 17) ⟨(by (exact zo_63 p1_)), (by (exact zo_2435 p2_))⟩ (zdal_p dlD_M_moves_0 (i := 11) rfl) ?_
      refine zr_callS hf.x (pc := 18) [.long (Int64.ofInt a1_), .long (Int64.ofInt 0), .long (Int64.ofInt ((ze Mz 81 16) - 1))] [] l_M_131 (c_M_isIn l Mz (hf.w hW) a1_ (by (exact zo_282 ha1_a)) (by (exact zo_283 ha1_b)) 0 (by decide) (by decide) ((ze Mz 81 16) - 1) (by (exact zo_2432 p1_)) (by (exact zo_2436 p2_))) rfl rfl (by decide) (Nat.le_of_ble_eq_true rfl) (zdal_p dlD_M_moves_0 (i := 12) rfl) ?_
      rintro _ N3_ ⟨v4_, rfl, ⟨hv4_a, hv4_b⟩, hsN3_, hp0_N3_⟩
      obtain rfl := hsN3_.eq.symm
      replace hp0_N3_ : ((v4_ = 1 ∧ 0 ≤ a1_ ∧ a1_ ≤ ((ze Mz 81 16) - 1)) ∨ (v4_ = 0 ∧ (a1_ < 0 ∨ ((ze Mz 81 16) - 1) < a1_))) := hp0_N3_
      rcases hp0_N3_ with ⟨rfl, ha18_0_hp0_N3_, ha18_1_hp0_N3_⟩ | ⟨rfl, ha18_0_hp0_N3_⟩
      · skip
        show zW l m_M_moves (zn Mz + 0, zw Mz + 0) Mz 21 [some (.ref 81), some (.int (Int32.ofInt a0_)), some (.int (Int32.ofInt a1_))] [.int (Int32.ofInt 1)] (zpI [] [] Mz (fun v N => True))
        refine zr_if_eq (pc := 21) (tgt := 38) ⟨(by decide), (by decide)⟩ (by decide) (zdal_p dlD_M_moves_0 (i := 13) rfl) (fun hc_21 => ?_) (fun hc_21 => ?_)
        · skip
          exact absurd hc_21 (by decide)
        · skip
          refine zw_aload_n (pc := 24) (n := 0) (x := 81) rfl (zdal_p dlD_M_moves_0 (i := 14) rfl) ?_
          refine zr_getF (r := 85) (hf.w hW) (pc := 25) f_M_26 rfl (zh_85 (hf.w hW)).1 (zdal_p dlD_M_moves_0 (i := 15) rfl) ?_
          refine zw_bipush (pc := 28) (v := Int32.ofInt 6) (by decide) (zdal_p dlD_M_moves_0 (i := 16) rfl) ?_
          refine zw_iload_n (pc := 30) (n := 1) (x := Int32.ofInt a0_) rfl (zdal_p dlD_M_moves_0 (i := 17) rfl) ?_
          refine zr_imul (pc := 31) (zdal_p dlD_M_moves_0 (i := 18) rfl) ?_
          refine zw_iload_n (pc := 32) (n := 2) (x := Int32.ofInt a1_) rfl (zdal_p dlD_M_moves_0 (i := 19) rfl) ?_
          refine zr_iadd (pc := 33) (zdal_p dlD_M_moves_0 (i := 20) rfl) ?_
          refine zr_ialdn (pc := 34) (zh_85 (hf.w hW)).2 (by decide) (by (exact zo_709 ha18_0_hp0_N3_ ha2_0_hp0_N1_)) (by omega) (zdal_p dlD_M_moves_0 (i := 21) rfl) (fun v5_ hv5_ hv5_a hv5_b => ?_)
          have hr6_ := dv1.g (e := (6 * a0_) + a1_) (by (exact zo_709 ha18_0_hp0_N3_ ha2_0_hp0_N1_)) (by omega)
          rw [← hv5_] at hr6_
          refine zw_goto (pc := 35) (tgt := 39) (by decide) (zdal_p dlD_M_moves_0 (i := 22) rfl) ?_
          exact zr_iret (pc := 39) (ty := .int) rfl rfl ⟨by (exact hv5_a), by (exact hv5_b)⟩ hf trivial (zdal_p dlD_M_moves_1 (i := 0) rfl)
      · skip
        show zW l m_M_moves (zn Mz + 0, zw Mz + 0) Mz 21 [some (.ref 81), some (.int (Int32.ofInt a0_)), some (.int (Int32.ofInt a1_))] [.int (Int32.ofInt 0)] (zpI [] [] Mz (fun v N => True))
        refine zr_if_eq (pc := 21) (tgt := 38) ⟨(by decide), (by decide)⟩ (by decide) (zdal_p dlD_M_moves_0 (i := 13) rfl) (fun hc_21 => ?_) (fun hc_21 => ?_)
        · skip
          refine zw_iconst (pc := 38) (v := Int32.ofInt (-1)) (by decide) (zdal_p dlD_M_moves_0 (i := 23) rfl) ?_
          exact zr_iret (pc := 39) (ty := .int) rfl rfl ⟨by (decide), by (decide)⟩ hf trivial (zdal_p dlD_M_moves_1 (i := 0) rfl)
        · skip
          exact absurd hc_21 (by decide)
  · skip
    show zW l m_M_moves (zn Mz + 0, zw Mz + 0) Mz 5 [some (.ref 81), some (.int (Int32.ofInt a0_)), some (.int (Int32.ofInt a1_))] [.int (Int32.ofInt 0)] (zpI [] [] Mz (fun v N => True))
    refine zr_if_eq (pc := 5) (tgt := 38) ⟨(by decide), (by decide)⟩ (by decide) (zdal_p dlD_M_moves_0 (i := 3) rfl) (fun hc_5 => ?_) (fun hc_5 => ?_)
    · skip
      refine zw_iconst (pc := 38) (v := Int32.ofInt (-1)) (by decide) (zdal_p dlD_M_moves_0 (i := 23) rfl) ?_
      exact zr_iret (pc := 39) (ty := .int) rfl rfl ⟨by (decide), by (decide)⟩ hf trivial (zdal_p dlD_M_moves_1 (i := 0) rfl)
    · skip
      exact absurd hc_5 (by decide)
set_option maxHeartbeats 4000000 in
theorem c_M_times (l : Launch) (Mz : zMem) (hW : zMt Mz) (a0_ : Int) (ha0_a : -2147483648 ≤ a0_) (ha0_b : a0_ < 2147483648) (a1_ : Int) (ha1_a : -2147483648 ≤ a1_) (ha1_b : a1_ < 2147483648) (T : zGT) (hO : gOK T) (p0_ : zGB T Mz) : zC l m_M_times 0 0 [.ref 81, .int (Int32.ofInt a0_), .int (Int32.ofInt a1_)] Mz (zpI [] [] Mz (fun v N => True)) := by
  refine zC_of (L0 := [some (.ref 81), some (.int (Int32.ofInt a0_)), some (.int (Int32.ofInt a1_))]) md_M_times (Nat.le_of_ble_eq_true rfl) rfl ?_ zQ0
  have hf : zFr [] [] Mz Mz := zFr.rf
  have r_20 := ze_r Mz 81 20
  have hG := hO.1
  have g24 := hG.2.1
  have g1 := hG.1
  have dv0 : zTab T Mz := p0_.1
  have dv1 : zB 85 144 0 5 Mz := p0_.2.1
  have dv2 : zJX T Mz := p0_.2.2.1
  have dv3 : zFirs T Mz := p0_.2.2.2.1
  have dv4 : zSSm T Mz := p0_.2.2.2.2.1
  have dv5 : zGD Mz := zGB.d hO p0_
  have gb := dv5.1
  have gn := dv0.1
  refine zw_aload_n (pc := 0) (n := 0) (x := 81) rfl (zdal_p dlD_M_times_3 (i := 0) rfl) ?_
  refine zw_iload_n (pc := 1) (n := 1) (x := Int32.ofInt a0_) rfl (zdal_p dlD_M_times_3 (i := 1) rfl) ?_
  refine zr_callV (hf.w hW) hf.x (pc := 2) [.int (Int32.ofInt a0_)] [] l_M_400 (c_M_isMember l Mz (hf.w hW) a0_ ha0_a ha0_b T hO p0_) rfl rfl rfl (by decide) (Nat.le_of_ble_eq_true rfl) (zdal_p dlD_M_times_3 (i := 2) rfl) ?_
  rintro _ N1_ ⟨v2_, rfl, ⟨hv2_a, hv2_b⟩, hsN1_, hp0_N1_⟩
  obtain rfl := hsN1_.eq.symm
  replace hp0_N1_ : ((v2_ = 1 ∧ 0 ≤ a0_ ∧ a0_ < ze Mz 81 20) ∨ (v2_ = 0)) := hp0_N1_
  rcases hp0_N1_ with ⟨rfl, ha2_0_hp0_N1_, ha2_1_hp0_N1_⟩ | rfl
  · skip
    show zW l m_M_times (zn Mz + 0, zw Mz + 0) Mz 5 [some (.ref 81), some (.int (Int32.ofInt a0_)), some (.int (Int32.ofInt a1_))] [.int (Int32.ofInt 1)] (zpI [] [] Mz (fun v N => True))
    refine zr_if_eq (pc := 5) (tgt := 25) ⟨(by decide), (by decide)⟩ (by decide) (zdal_p dlD_M_times_3 (i := 3) rfl) (fun hc_5 => ?_) (fun hc_5 => ?_)
    · skip
      exact absurd hc_5 (by decide)
    · skip
      refine zw_aload_n (pc := 8) (n := 0) (x := 81) rfl (zdal_p dlD_M_times_3 (i := 4) rfl) ?_
      refine zw_iload_n (pc := 9) (n := 2) (x := Int32.ofInt a1_) rfl (zdal_p dlD_M_times_3 (i := 5) rfl) ?_
      refine zr_callV (hf.w hW) hf.x (pc := 10) [.int (Int32.ofInt a1_)] [] l_M_400 (c_M_isMember l Mz (hf.w hW) a1_ ha1_a ha1_b T hO p0_) rfl rfl rfl (by decide) (Nat.le_of_ble_eq_true rfl) (zdal_p dlD_M_times_3 (i := 6) rfl) ?_
      rintro _ N3_ ⟨v4_, rfl, ⟨hv4_a, hv4_b⟩, hsN3_, hp0_N3_⟩
      obtain rfl := hsN3_.eq.symm
      replace hp0_N3_ : ((v4_ = 1 ∧ 0 ≤ a1_ ∧ a1_ < ze Mz 81 20) ∨ (v4_ = 0)) := hp0_N3_
      rcases hp0_N3_ with ⟨rfl, ha10_0_hp0_N3_, ha10_1_hp0_N3_⟩ | rfl
      · skip
        show zW l m_M_times (zn Mz + 0, zw Mz + 0) Mz 13 [some (.ref 81), some (.int (Int32.ofInt a0_)), some (.int (Int32.ofInt a1_))] [.int (Int32.ofInt 1)] (zpI [] [] Mz (fun v N => True))
        refine zr_if_eq (pc := 13) (tgt := 25) ⟨(by decide), (by decide)⟩ (by decide) (zdal_p dlD_M_times_3 (i := 7) rfl) (fun hc_13 => ?_) (fun hc_13 => ?_)
        · skip
          exact absurd hc_13 (by decide)
        · skip
          refine zw_aload_n (pc := 16) (n := 0) (x := 81) rfl (zdal_p dlD_M_times_3 (i := 8) rfl) ?_
          refine zw_iload_n (pc := 17) (n := 1) (x := Int32.ofInt a0_) rfl (zdal_p dlD_M_times_3 (i := 9) rfl) ?_
          refine zw_iload_n (pc := 18) (n := 2) (x := Int32.ofInt a1_) rfl (zdal_p dlD_M_times_3 (i := 10) rfl) ?_
          refine zr_callV (hf.w hW) hf.x (pc := 19) [.int (Int32.ofInt a0_), .int (Int32.ofInt a1_)] [] l_M_216 (c_M_by l Mz (hf.w hW) a0_ ha0_a ha0_b a1_ ha1_a ha1_b T hG dv0 (show 0 ≤ a0_ by first | with_reducible assumption | assumption | omega) (show a0_ < ze Mz 81 20 by first | with_reducible assumption | assumption | omega) (show 0 ≤ a1_ by first | with_reducible assumption | assumption | omega) (show a1_ < ze Mz 81 20 by first | with_reducible assumption | assumption | omega)) rfl rfl rfl (by decide) (Nat.le_of_ble_eq_true rfl) (zdal_p dlD_M_times_3 (i := 11) rfl) ?_
          rintro _ N5_ ⟨v6_, rfl, ⟨hv6_a, hv6_b⟩, hsN5_, ⟨hp0_N5_, hp1_N5_, hp2_N5_⟩⟩
          obtain rfl := hsN5_.eq.symm
          show zW l m_M_times (zn Mz + 0, zw Mz + 0) Mz 22 [some (.ref 81), some (.int (Int32.ofInt a0_)), some (.int (Int32.ofInt a1_))] [.int (Int32.ofInt v6_)] (zpI [] [] Mz (fun v N => True))
          refine zw_goto (pc := 22) (tgt := 26) (by decide) (zdal_p dlD_M_times_3 (i := 12) rfl) ?_
          exact zr_iret (pc := 26) (ty := .int) rfl rfl ⟨by (exact hv6_a), by (exact hv6_b)⟩ hf trivial (zdal_p dlD_M_times_3 (i := 14) rfl)
      · skip
        show zW l m_M_times (zn Mz + 0, zw Mz + 0) Mz 13 [some (.ref 81), some (.int (Int32.ofInt a0_)), some (.int (Int32.ofInt a1_))] [.int (Int32.ofInt 0)] (zpI [] [] Mz (fun v N => True))
        refine zr_if_eq (pc := 13) (tgt := 25) ⟨(by decide), (by decide)⟩ (by decide) (zdal_p dlD_M_times_3 (i := 7) rfl) (fun hc_13 => ?_) (fun hc_13 => ?_)
        · skip
          refine zw_iconst (pc := 25) (v := Int32.ofInt (-1)) (by decide) (zdal_p dlD_M_times_3 (i := 13) rfl) ?_
          exact zr_iret (pc := 26) (ty := .int) rfl rfl ⟨by (decide), by (decide)⟩ hf trivial (zdal_p dlD_M_times_3 (i := 14) rfl)
        · skip
          exact absurd hc_13 (by decide)
  · skip
    show zW l m_M_times (zn Mz + 0, zw Mz + 0) Mz 5 [some (.ref 81), some (.int (Int32.ofInt a0_)), some (.int (Int32.ofInt a1_))] [.int (Int32.ofInt 0)] (zpI [] [] Mz (fun v N => True))
    refine zr_if_eq (pc := 5) (tgt := 25) ⟨(by decide), (by decide)⟩ (by decide) (zdal_p dlD_M_times_3 (i := 3) rfl) (fun hc_5 => ?_) (fun hc_5 => ?_)
    · skip
      refine zw_iconst (pc := 25) (v := Int32.ofInt (-1)) (by decide) (zdal_p dlD_M_times_3 (i := 13) rfl) ?_
      exact zr_iret (pc := 26) (ty := .int) rfl rfl ⟨by (decide), by (decide)⟩ hf trivial (zdal_p dlD_M_times_3 (i := 14) rfl)
    · skip
      exact absurd hc_5 (by decide)
set_option maxHeartbeats 4000000 in
theorem c_M_areAlike (l : Launch) (Mz : zMem) (hW : zMt Mz) (a0_ : Int) (ha0_a : -2147483648 ≤ a0_) (ha0_b : a0_ < 2147483648) (T : zGT) (hO : gOK T) (p0_ : zGB T Mz) (p1_ : 0 ≤ a0_) : zC l m_M_areAlike 0 0 [.ref 81, .int (Int32.ofInt a0_)] Mz (zpI [] [] Mz (fun v N => ((v = 0 ∨ v = 1)))) := by
  refine zC_of (L0 := [some (.ref 81), some (.int (Int32.ofInt a0_)), none, none]) md_M_areAlike (Nat.le_of_ble_eq_true rfl) rfl ?_ zQ0
  have hf : zFr [] [] Mz Mz := zFr.rf
  have r_20 := ze_r Mz 81 20
  have hG := hO.1
  have g24 := hG.2.1
  have g1 := hG.1
  have dv0 : zTab T Mz := p0_.1
  have dv1 : zB 85 144 0 5 Mz := p0_.2.1
  have dv2 : zJX T Mz := p0_.2.2.1
  have dv3 : zFirs T Mz := p0_.2.2.2.1
  have dv4 : zSSm T Mz := p0_.2.2.2.2.1
  have dv5 : zGD Mz := zGB.d hO p0_
  have gb := dv5.1
  have gn := dv0.1
  refine zw_iconst (pc := 0) (v := Int32.ofInt 0) (by decide) (zdal_p dlC_M_areAlike_148 (i := 0) rfl) ?_
  refine zw_istore_n (pc := 1) (i := 2) (L2 := [some (.ref 81), some (.int (Int32.ofInt a0_)), some (.int (Int32.ofInt 0)), none]) rfl (by decide) rfl (zdal_p dlC_M_areAlike_148 (i := 1) rfl) ?_
  have lp_2 : ∀ (n : Nat) (u1_ : Int) (hu1_a : -2147483648 ≤ u1_) (hu1_b : u1_ < 2147483648) (i2_ : 0 ≤ u1_), (ze Mz 81 20 - u1_).toNat < n → zW l m_M_areAlike (zn Mz + 0, zw Mz + 0) Mz 2 [some (.ref 81), some (.int (Int32.ofInt a0_)), some (.int (Int32.ofInt u1_)), none] [] (zpI [] [] Mz (fun v N => ((v = 0 ∨ v = 1)))) := by
    intro n
    induction n with
    | zero =>
      intro u1_ hu1_a hu1_b i2_ h0
      exact absurd h0 (Nat.not_lt_zero _)
    | succ n ih_2 =>
      intro u1_ hu1_a hu1_b i2_ hlt_2
      refine zw_iload_n (pc := 2) (n := 2) (x := Int32.ofInt u1_) rfl (zdal_p dlC_M_areAlike_148 (i := 2) rfl) ?_
      refine zw_aload_n (pc := 3) (n := 0) (x := 81) rfl (zdal_p dlC_M_areAlike_148 (i := 3) rfl) ?_
      refine zr_getI0 hf hW (pc := 4) (by decide) f_M_196 rfl (zdal_p dlC_M_areAlike_148 (i := 4) rfl) ?_
      refine zr_icmp_ge (pc := 7) (tgt := 65) ⟨hu1_a, hu1_b⟩ ⟨(ze_r Mz 81 20).1, (ze_r Mz 81 20).2⟩ (by decide) (zdal_p dlC_M_areAlike_148 (i := 5) rfl) (fun hc_7 => ?_) (fun hc_7 => ?_)
      · skip
        refine zw_iconst (pc := 65) (v := Int32.ofInt 1) (by decide) (zdal_p dlC_M_areAlike_149 (i := 11) rfl) ?_
        exact zr_iret (pc := 66) (ty := .boolean) rfl (z_narB (by (decide))) ⟨by (decide), by (decide)⟩ hf (show (1 = 0 ∨ 1 = 1) by first | with_reducible assumption | (decide) | assumption) (zdal_p dlC_M_areAlike_149 (i := 12) rfl)
      · skip
        refine zw_iconst (pc := 10) (v := Int32.ofInt 0) (by decide) (zdal_p dlC_M_areAlike_148 (i := 6) rfl) ?_
        refine zw_istore_n (pc := 11) (i := 3) (L2 := [some (.ref 81), some (.int (Int32.ofInt a0_)), some (.int (Int32.ofInt u1_)), some (.int (Int32.ofInt 0))]) rfl (by decide) rfl (zdal_p dlC_M_areAlike_148 (i := 7) rfl) ?_
        have lp_12 : ∀ (n : Nat) (u3_ : Int) (hu3_a : -2147483648 ≤ u3_) (hu3_b : u3_ < 2147483648) (i4_ : 0 ≤ u3_), (ze Mz 81 20 - u3_).toNat < n → zW l m_M_areAlike (zn Mz + 0, zw Mz + 0) Mz 12 [some (.ref 81), some (.int (Int32.ofInt a0_)), some (.int (Int32.ofInt u1_)), some (.int (Int32.ofInt u3_))] [] (zpI [] [] Mz (fun v N => ((v = 0 ∨ v = 1)))) := by
          intro n
          induction n with
          | zero =>
            intro u3_ hu3_a hu3_b i4_ h0
            exact absurd h0 (Nat.not_lt_zero _)
          | succ n ih_12 =>
            intro u3_ hu3_a hu3_b i4_ hlt_12
            refine zw_iload_n (pc := 12) (n := 3) (x := Int32.ofInt u3_) rfl (zdal_p dlC_M_areAlike_148 (i := 8) rfl) ?_
            refine zw_aload_n (pc := 13) (n := 0) (x := 81) rfl (zdal_p dlC_M_areAlike_148 (i := 9) rfl) ?_
            refine zr_getI0 hf hW (pc := 14) (by decide) f_M_196 rfl (zdal_p dlC_M_areAlike_148 (i := 10) rfl) ?_
            refine zr_icmp_ge (pc := 17) (tgt := 59) ⟨hu3_a, hu3_b⟩ ⟨(ze_r Mz 81 20).1, (ze_r Mz 81 20).2⟩ (by decide) (zdal_p dlC_M_areAlike_148 (i := 11) rfl) (fun hc_17 => ?_) (fun hc_17 => ?_)
            · skip
              refine zr_iinc (pc := 59) (i := 2) (a := u1_) (n := 1) (L2 := [some (.ref 81), some (.int (Int32.ofInt a0_)), some (.int (Int32.ofInt (u1_ + 1))), some (.int (Int32.ofInt u3_))]) rfl (by decide) rfl (zdal_p dlC_M_areAlike_149 (i := 9) rfl) ?_
              refine zw_goto (pc := 62) (tgt := 2) (by decide) (zdal_p dlC_M_areAlike_149 (i := 10) rfl) ?_
              refine zW_le [some (.ref 81), some (.int (Int32.ofInt a0_)), some (.int (Int32.ofInt (u1_ + 1))), none] (⟨rfl, rfl, rfl, trivial⟩) ?_
              exact ih_2 (u1_ + 1) (by (exact zo_74 i2_)) (by (exact zo_919 gb.2.1 hc_7)) (show 0 ≤ (u1_ + 1) by first | with_reducible assumption | (exact zo_76 i2_) | assumption) (by (exact zo_147 hc_7 hlt_2))
            · skip
              refine zw_iload_n (pc := 20) (n := 1) (x := Int32.ofInt a0_) rfl (zdal_p dlC_M_areAlike_148 (i := 12) rfl) ?_
              refine zw_iload_n (pc := 21) (n := 2) (x := Int32.ofInt u1_) rfl (zdal_p dlC_M_areAlike_148 (i := 13) rfl) ?_
              refine zr_callS hf.x (pc := 22) [.int (Int32.ofInt a0_), .int (Int32.ofInt u1_)] [] l_M_213 (c_M_holds l Mz (hf.w hW) a0_ ha0_a ha0_b u1_ hu1_a hu1_b (show 0 ≤ a0_ by first | with_reducible assumption | assumption | omega) (show 0 ≤ u1_ by first | with_reducible assumption | assumption | omega) (show u1_ < 32 by first | with_reducible assumption | (exact zo_918 gb.2.1 hc_7) | assumption)) rfl rfl (by decide) (Nat.le_of_ble_eq_true rfl) (zdal_p dlC_M_areAlike_148 (i := 14) rfl) ?_
              rintro _ N5_ ⟨v6_, rfl, ⟨hv6_a, hv6_b⟩, hsN5_, hp0_N5_⟩
              obtain rfl := hsN5_.eq.symm
              replace hp0_N5_ : ((v6_ = 1 ∧ zbt a0_ u1_) ∨ (v6_ = 0 ∧ ¬ zbt a0_ u1_)) := hp0_N5_
              rcases hp0_N5_ with ⟨rfl, ha22_0_hp0_N5_⟩ | ⟨rfl, ha22_0_hp0_N5_⟩
              · skip
                show zW l m_M_areAlike (zn Mz + 0, zw Mz + 0) Mz 25 [some (.ref 81), some (.int (Int32.ofInt a0_)), some (.int (Int32.ofInt u1_)), some (.int (Int32.ofInt u3_))] [.int (Int32.ofInt 1)] _
                refine zr_if_eq (pc := 25) (tgt := 53) ⟨(by decide), (by decide)⟩ (by decide) (zdal_p dlC_M_areAlike_148 (i := 15) rfl) (fun hc_25 => ?_) (fun hc_25 => ?_)
                · skip
                  exact absurd hc_25 (by decide)
                · skip
                  refine zw_iload_n (pc := 28) (n := 1) (x := Int32.ofInt a0_) rfl (zdal_p dlC_M_areAlike_148 (i := 16) rfl) ?_
                  refine zw_iload_n (pc := 29) (n := 3) (x := Int32.ofInt u3_) rfl (zdal_p dlC_M_areAlike_148 (i := 17) rfl) ?_
                  refine zr_callS hf.x (pc := 30) [.int (Int32.ofInt a0_), .int (Int32.ofInt u3_)] [] l_M_213 (c_M_holds l Mz (hf.w hW) a0_ ha0_a ha0_b u3_ hu3_a hu3_b (show 0 ≤ a0_ by first | with_reducible assumption | assumption | omega) (show 0 ≤ u3_ by first | with_reducible assumption | assumption | omega) (show u3_ < 32 by first | with_reducible assumption | (exact zo_918 gb.2.1 hc_17) | assumption)) rfl rfl (by decide) (Nat.le_of_ble_eq_true rfl) (zdal_p dlC_M_areAlike_148 (i := 18) rfl) ?_
                  rintro _ N7_ ⟨v8_, rfl, ⟨hv8_a, hv8_b⟩, hsN7_, hp0_N7_⟩
                  obtain rfl := hsN7_.eq.symm
                  replace hp0_N7_ : ((v8_ = 1 ∧ zbt a0_ u3_) ∨ (v8_ = 0 ∧ ¬ zbt a0_ u3_)) := hp0_N7_
                  rcases hp0_N7_ with ⟨rfl, ha30_0_hp0_N7_⟩ | ⟨rfl, ha30_0_hp0_N7_⟩
                  · skip
                    show zW l m_M_areAlike (zn Mz + 0, zw Mz + 0) Mz 33 [some (.ref 81), some (.int (Int32.ofInt a0_)), some (.int (Int32.ofInt u1_)), some (.int (Int32.ofInt u3_))] [.int (Int32.ofInt 1)] _
                    refine zr_if_eq (pc := 33) (tgt := 53) ⟨(by decide), (by decide)⟩ (by decide) (zdal_p dlC_M_areAlike_148 (i := 19) rfl) (fun hc_33 => ?_) (fun hc_33 => ?_)
                    · skip
                      exact absurd hc_33 (by decide)
                    · skip
                      refine zw_aload_n (pc := 36) (n := 0) (x := 81) rfl (zdal_p dlC_M_areAlike_148 (i := 20) rfl) ?_
                      refine zw_iload_n (pc := 37) (n := 2) (x := Int32.ofInt u1_) rfl (zdal_p dlC_M_areAlike_148 (i := 21) rfl) ?_
                      refine zw_iload_n (pc := 38) (n := 3) (x := Int32.ofInt u3_) rfl (zdal_p dlC_M_areAlike_148 (i := 22) rfl) ?_
                      refine zr_callV (hf.w hW) hf.x (pc := 39) [.int (Int32.ofInt u1_), .int (Int32.ofInt u3_)] [] l_M_216 (c_M_by l Mz (hf.w hW) u1_ hu1_a hu1_b u3_ hu3_a hu3_b T hG dv0 (show 0 ≤ u1_ by first | with_reducible assumption | assumption | omega) (show u1_ < ze Mz 81 20 by first | with_reducible assumption | assumption | omega) (show 0 ≤ u3_ by first | with_reducible assumption | assumption | omega) (show u3_ < ze Mz 81 20 by first | with_reducible assumption | assumption | omega)) rfl rfl rfl (by decide) (Nat.le_of_ble_eq_true rfl) (zdal_p dlC_M_areAlike_148 (i := 23) rfl) ?_
                      rintro _ N9_ ⟨v10_, rfl, ⟨hv10_a, hv10_b⟩, hsN9_, ⟨hp0_N9_, hp1_N9_, hp2_N9_⟩⟩
                      obtain rfl := hsN9_.eq.symm
                      show zW l m_M_areAlike (zn Mz + 0, zw Mz + 0) Mz 42 [some (.ref 81), some (.int (Int32.ofInt a0_)), some (.int (Int32.ofInt u1_)), some (.int (Int32.ofInt u3_))] [.int (Int32.ofInt v10_)] _
                      refine zw_aload_n (pc := 42) (n := 0) (x := 81) rfl (zdal_p dlC_M_areAlike_149 (i := 0) rfl) ?_
                      refine zw_iload_n (pc := 43) (n := 3) (x := Int32.ofInt u3_) rfl (zdal_p dlC_M_areAlike_149 (i := 1) rfl) ?_
                      refine zw_iload_n (pc := 44) (n := 2) (x := Int32.ofInt u1_) rfl (zdal_p dlC_M_areAlike_149 (i := 2) rfl) ?_
                      refine zr_callV (hf.w hW) hf.x (pc := 45) [.int (Int32.ofInt u3_), .int (Int32.ofInt u1_)] [.int (Int32.ofInt v10_)] l_M_216 (c_M_by l Mz (hf.w hW) u3_ hu3_a hu3_b u1_ hu1_a hu1_b T hG dv0 (show 0 ≤ u3_ by first | with_reducible assumption | assumption | omega) (show u3_ < ze Mz 81 20 by first | with_reducible assumption | assumption | omega) (show 0 ≤ u1_ by first | with_reducible assumption | assumption | omega) (show u1_ < ze Mz 81 20 by first | with_reducible assumption | assumption | omega)) rfl rfl rfl (by decide) (Nat.le_of_ble_eq_true rfl) (zdal_p dlC_M_areAlike_149 (i := 3) rfl) ?_
                      rintro _ N11_ ⟨v12_, rfl, ⟨hv12_a, hv12_b⟩, hsN11_, ⟨hp0_N11_, hp1_N11_, hp2_N11_⟩⟩
                      obtain rfl := hsN11_.eq.symm
                      show zW l m_M_areAlike (zn Mz + 0, zw Mz + 0) Mz 48 [some (.ref 81), some (.int (Int32.ofInt a0_)), some (.int (Int32.ofInt u1_)), some (.int (Int32.ofInt u3_))] [.int (Int32.ofInt v12_), .int (Int32.ofInt v10_)] _
                      refine zr_icmp_eq (pc := 48) (tgt := 53) ⟨hv10_a, hv10_b⟩ ⟨hv12_a, hv12_b⟩ (by decide) (zdal_p dlC_M_areAlike_149 (i := 4) rfl) (fun hc_48 => ?_) (fun hc_48 => ?_)
                      · skip
                        refine zr_iinc (pc := 53) (i := 3) (a := u3_) (n := 1) (L2 := [some (.ref 81), some (.int (Int32.ofInt a0_)), some (.int (Int32.ofInt u1_)), some (.int (Int32.ofInt (u3_ + 1)))]) rfl (by decide) rfl (zdal_p dlC_M_areAlike_149 (i := 7) rfl) ?_
                        refine zw_goto (pc := 56) (tgt := 12) (by decide) (zdal_p dlC_M_areAlike_149 (i := 8) rfl) ?_
                        exact ih_12 (u3_ + 1) (by (exact zo_74 i4_)) (by (exact zo_919 gb.2.1 hc_17)) (show 0 ≤ (u3_ + 1) by first | with_reducible assumption | (exact zo_76 i4_) | assumption) (by (exact zo_147 hc_17 hlt_12))
                      · skip
                        refine zw_iconst (pc := 51) (v := Int32.ofInt 0) (by decide) (zdal_p dlC_M_areAlike_149 (i := 5) rfl) ?_
                        exact zr_iret (pc := 52) (ty := .boolean) rfl (z_narB (by (decide))) ⟨by (decide), by (decide)⟩ hf (show (0 = 0 ∨ 0 = 1) by first | with_reducible assumption | (decide) | assumption) (zdal_p dlC_M_areAlike_149 (i := 6) rfl)
                  · skip
                    show zW l m_M_areAlike (zn Mz + 0, zw Mz + 0) Mz 33 [some (.ref 81), some (.int (Int32.ofInt a0_)), some (.int (Int32.ofInt u1_)), some (.int (Int32.ofInt u3_))] [.int (Int32.ofInt 0)] _
                    refine zr_if_eq (pc := 33) (tgt := 53) ⟨(by decide), (by decide)⟩ (by decide) (zdal_p dlC_M_areAlike_148 (i := 19) rfl) (fun hc_33 => ?_) (fun hc_33 => ?_)
                    · skip
                      refine zr_iinc (pc := 53) (i := 3) (a := u3_) (n := 1) (L2 := [some (.ref 81), some (.int (Int32.ofInt a0_)), some (.int (Int32.ofInt u1_)), some (.int (Int32.ofInt (u3_ + 1)))]) rfl (by decide) rfl (zdal_p dlC_M_areAlike_149 (i := 7) rfl) ?_
                      refine zw_goto (pc := 56) (tgt := 12) (by decide) (zdal_p dlC_M_areAlike_149 (i := 8) rfl) ?_
                      exact ih_12 (u3_ + 1) (by (exact zo_74 i4_)) (by (exact zo_919 gb.2.1 hc_17)) (show 0 ≤ (u3_ + 1) by first | with_reducible assumption | (exact zo_76 i4_) | assumption) (by (exact zo_147 hc_17 hlt_12))
                    · skip
                      exact absurd hc_33 (by decide)
              · skip
                show zW l m_M_areAlike (zn Mz + 0, zw Mz + 0) Mz 25 [some (.ref 81), some (.int (Int32.ofInt a0_)), some (.int (Int32.ofInt u1_)), some (.int (Int32.ofInt u3_))] [.int (Int32.ofInt 0)] _
                refine zr_if_eq (pc := 25) (tgt := 53) ⟨(by decide), (by decide)⟩ (by decide) (zdal_p dlC_M_areAlike_148 (i := 15) rfl) (fun hc_25 => ?_) (fun hc_25 => ?_)
                · skip
                  refine zr_iinc (pc := 53) (i := 3) (a := u3_) (n := 1) (L2 := [some (.ref 81), some (.int (Int32.ofInt a0_)), some (.int (Int32.ofInt u1_)), some (.int (Int32.ofInt (u3_ + 1)))]) rfl (by decide) rfl (zdal_p dlC_M_areAlike_149 (i := 7) rfl) ?_
                  refine zw_goto (pc := 56) (tgt := 12) (by decide) (zdal_p dlC_M_areAlike_149 (i := 8) rfl) ?_
                  exact ih_12 (u3_ + 1) (by (exact zo_74 i4_)) (by (exact zo_919 gb.2.1 hc_17)) (show 0 ≤ (u3_ + 1) by first | with_reducible assumption | (exact zo_76 i4_) | assumption) (by (exact zo_147 hc_17 hlt_12))
                · skip
                  exact absurd hc_25 (by decide)
        exact lp_12 _ 0 (by decide) (by decide) (show 0 ≤ (0 : Int) by first | with_reducible assumption | (decide) | assumption) (Nat.lt_succ_self _)
  exact lp_2 _ 0 (by decide) (by decide) (show 0 ≤ (0 : Int) by first | with_reducible assumption | (decide) | assumption) (Nat.lt_succ_self _)
set_option maxHeartbeats 4000000 in
theorem c_M_about (l : Launch) (Mz : zMem) (hW : zMt Mz) (a0_ : Int) (ha0_a : -2147483648 ≤ a0_) (ha0_b : a0_ < 2147483648) (T : zGT) (hO : gOK T) (p0_ : zGB T Mz) : zC l m_M_about 0 0 [.ref 81, .int (Int32.ofInt a0_)] Mz (zpI [] [] Mz (fun v N => True)) := by
  refine zC_of (L0 := [some (.ref 81), some (.int (Int32.ofInt a0_))]) md_M_about (Nat.le_of_ble_eq_true rfl) rfl ?_ zQ0
  have hf : zFr [] [] Mz Mz := zFr.rf
  have r_1 := ze_r Mz 81 1
  have r_16 := ze_r Mz 81 16
  have r_17 := ze_r Mz 81 17
  have r_18 := ze_r Mz 81 18
  have r_20 := ze_r Mz 81 20
  have r_25 := ze_r Mz 81 25
  have r_26 := ze_r Mz 81 26
  have r_60 := ze_r Mz 81 60
  have hG := hO.1
  have g24 := hG.2.1
  have g1 := hG.1
  have dv0 : zTab T Mz := p0_.1
  have dv1 : zB 85 144 0 5 Mz := p0_.2.1
  have dv2 : zJX T Mz := p0_.2.2.1
  have dv3 : zFirs T Mz := p0_.2.2.2.1
  have dv4 : zSSm T Mz := p0_.2.2.2.2.1
  have dv5 : zGD Mz := zGB.d hO p0_
  have gb := dv5.1
  have gn := dv0.1
  refine zw_iload_n (pc := 0) (n := 1) (x := Int32.ofInt a0_) rfl (zdal_p dlC_M_about_146 (i := 0) rfl) ?_
  by_cases hs_1_0 : a0_ = 0
  · refine zr_tabIn (c := 0) (off := 51) (tgt := 52) ⟨by decide, by decide⟩ hs_1_0 (by decide) (by decide) rfl (by decide) d_M_about_1 ?_
    refine zw_aload_n (pc := 52) (n := 0) (x := 81) rfl (zdal_p dlC_M_about_146 (i := 2) rfl) ?_
    refine zr_getI0 hf hW (pc := 53) (by decide) f_M_382 rfl (zdal_p dlC_M_about_146 (i := 3) rfl) ?_
    exact zr_iret (pc := 56) (ty := .int) rfl rfl ⟨by (exact zo_284 r_16.1), by (exact zo_285 r_16.2)⟩ hf trivial (zdal_p dlC_M_about_146 (i := 4) rfl)
  by_cases hs_1_1 : a0_ = 1
  · refine zr_tabIn (c := 1) (off := 56) (tgt := 57) ⟨by decide, by decide⟩ hs_1_1 (by decide) (by decide) rfl (by decide) d_M_about_1 ?_
    refine zw_aload_n (pc := 57) (n := 0) (x := 81) rfl (zdal_p dlC_M_about_146 (i := 5) rfl) ?_
    refine zr_getI0 hf hW (pc := 58) (by decide) f_M_385 rfl (zdal_p dlC_M_about_146 (i := 6) rfl) ?_
    exact zr_iret (pc := 61) (ty := .int) rfl rfl ⟨by (exact zo_284 r_17.1), by (exact zo_285 r_17.2)⟩ hf trivial (zdal_p dlC_M_about_146 (i := 7) rfl)
  by_cases hs_1_2 : a0_ = 2
  · refine zr_tabIn (c := 2) (off := 61) (tgt := 62) ⟨by decide, by decide⟩ hs_1_2 (by decide) (by decide) rfl (by decide) d_M_about_1 ?_
    refine zw_aload_n (pc := 62) (n := 0) (x := 81) rfl (zdal_p dlC_M_about_146 (i := 8) rfl) ?_
    refine zr_getI0 hf hW (pc := 63) (by decide) f_M_388 rfl (zdal_p dlC_M_about_146 (i := 9) rfl) ?_
    exact zr_iret (pc := 66) (ty := .int) rfl rfl ⟨by (exact zo_284 r_18.1), by (exact zo_285 r_18.2)⟩ hf trivial (zdal_p dlC_M_about_146 (i := 10) rfl)
  by_cases hs_1_3 : a0_ = 3
  · refine zr_tabIn (c := 3) (off := 66) (tgt := 67) ⟨by decide, by decide⟩ hs_1_3 (by decide) (by decide) rfl (by decide) d_M_about_1 ?_
    refine zw_aload_n (pc := 67) (n := 0) (x := 81) rfl (zdal_p dlC_M_about_146 (i := 11) rfl) ?_
    refine zr_getI0 hf hW (pc := 68) (by decide) f_M_196 rfl (zdal_p dlC_M_about_146 (i := 12) rfl) ?_
    exact zr_iret (pc := 71) (ty := .int) rfl rfl ⟨by (exact zo_920 gb.1), by (exact zo_1006 gb.2.1)⟩ hf trivial (zdal_p dlC_M_about_146 (i := 13) rfl)
  by_cases hs_1_4 : a0_ = 4
  · refine zr_tabIn (c := 4) (off := 71) (tgt := 72) ⟨by decide, by decide⟩ hs_1_4 (by decide) (by decide) rfl (by decide) d_M_about_1 ?_
    refine zw_aload_n (pc := 72) (n := 0) (x := 81) rfl (zdal_p dlC_M_about_146 (i := 14) rfl) ?_
    refine zr_getI0 hf hW (pc := 73) (by decide) f_M_220 rfl (zdal_p dlC_M_about_146 (i := 15) rfl) ?_
    exact zr_iret (pc := 76) (ty := .int) rfl rfl ⟨by (exact zo_920 gb.2.2.1), by omega⟩ hf trivial (zdal_p dlC_M_about_146 (i := 16) rfl)
  by_cases hs_1_5 : a0_ = 5
  · refine zr_tabIn (c := 5) (off := 76) (tgt := 77) ⟨by decide, by decide⟩ hs_1_5 (by decide) (by decide) rfl (by decide) d_M_about_1 ?_
    refine zw_aload_n (pc := 77) (n := 0) (x := 81) rfl (zdal_p dlC_M_about_146 (i := 17) rfl) ?_
    refine zr_getI0 hf hW (pc := 78) (by decide) f_M_235 rfl (zdal_p dlC_M_about_146 (i := 18) rfl) ?_
    exact zr_iret (pc := 81) (ty := .int) rfl rfl ⟨by (exact zo_920 gb.2.2.2.2.1), by omega⟩ hf trivial (zdal_p dlC_M_about_146 (i := 19) rfl)
  by_cases hs_1_6 : a0_ = 6
  · refine zr_tabIn (c := 6) (off := 81) (tgt := 82) ⟨by decide, by decide⟩ hs_1_6 (by decide) (by decide) rfl (by decide) d_M_about_1 ?_
    refine zw_aload_n (pc := 82) (n := 0) (x := 81) rfl (zdal_p dlC_M_about_146 (i := 20) rfl) ?_
    refine zw_iconst (pc := 83) (v := Int32.ofInt 1) (by decide) (zdal_p dlC_M_about_146 (i := 21) rfl) ?_
    refine zw_aload_n (pc := 84) (n := 0) (x := 81) rfl (zdal_p dlC_M_about_146 (i := 22) rfl) ?_
    refine zr_getI0 hf hW (pc := 85) (by decide) f_M_196 rfl (zdal_p dlC_M_about_146 (i := 23) rfl) ?_
    refine zr_ishl (pc := 88) (zdal_p dlC_M_about_147 (i := 0) rfl) ?_
    have hr1_ := zshl_r 1 (ze Mz 81 20)
    have hsh := zshl_b hG gn
    refine zw_iconst (pc := 89) (v := Int32.ofInt 1) (by decide) (zdal_p dlC_M_about_147 (i := 1) rfl) ?_
    refine zr_isub (pc := 90) (zdal_p dlC_M_about_147 (i := 2) rfl) ?_
    refine zr_callV (hf.w hW) hf.x (pc := 91) [.int (Int32.ofInt ((zshl 1 (ze Mz 81 20)) - 1))] [] l_M_397 (c_M_areAlike l Mz (hf.w hW) ((zshl 1 (ze Mz 81 20)) - 1) (by (exact zo_63 hsh.2.1)) (by (exact zo_601 hr1_.2)) T hO p0_ (show 0 ≤ ((zshl 1 (ze Mz 81 20)) - 1) by first | with_reducible assumption | (exact zo_132 hsh.2.1) | assumption)) rfl rfl rfl (by decide) (Nat.le_of_ble_eq_true rfl) (zdal_p dlC_M_about_147 (i := 3) rfl) ?_
    rintro _ N2_ ⟨v3_, rfl, ⟨hv3_a, hv3_b⟩, hsN2_, hp0_N2_⟩
    obtain rfl := hsN2_.eq.symm
    replace hp0_N2_ : (v3_ = 0 ∨ v3_ = 1) := hp0_N2_
    show zW l m_M_about (zn Mz + 0, zw Mz + 0) Mz 94 [some (.ref 81), some (.int (Int32.ofInt a0_))] [.int (Int32.ofInt v3_)] (zpI [] [] Mz (fun v N => True))
    refine zr_callS hf.x (pc := 94) [.int (Int32.ofInt v3_)] [] l_M_256 (c_M_truth l Mz (hf.w hW) v3_ hv3_a hv3_b (by (exact hp0_N2_))) rfl rfl (by decide) (Nat.le_of_ble_eq_true rfl) (zdal_p dlC_M_about_147 (i := 4) rfl) ?_
    rintro _ N4_ ⟨v5_, rfl, ⟨hv5_a, hv5_b⟩, hsN4_, hp0_N4_⟩
    obtain rfl := hsN4_.eq.symm
    replace hp0_N4_ : v5_ = v3_ := hp0_N4_
    show zW l m_M_about (zn Mz + 0, zw Mz + 0) Mz 97 [some (.ref 81), some (.int (Int32.ofInt a0_))] [.int (Int32.ofInt v5_)] (zpI [] [] Mz (fun v N => True))
    exact zr_iret (pc := 97) (ty := .int) rfl rfl ⟨by (exact hv5_a), by (exact hv5_b)⟩ hf trivial (zdal_p dlC_M_about_147 (i := 5) rfl)
  by_cases hs_1_7 : a0_ = 7
  · refine zr_tabIn (c := 7) (off := 97) (tgt := 98) ⟨by decide, by decide⟩ hs_1_7 (by decide) (by decide) rfl (by decide) d_M_about_1 ?_
    refine zw_aload_n (pc := 98) (n := 0) (x := 81) rfl (zdal_p dlC_M_about_147 (i := 6) rfl) ?_
    refine zr_getI0 hf hW (pc := 99) (by decide) f_M_391 rfl (zdal_p dlC_M_about_147 (i := 7) rfl) ?_
    exact zr_iret (pc := 102) (ty := .int) rfl rfl ⟨by (exact zo_284 r_60.1), by (exact zo_285 r_60.2)⟩ hf trivial (zdal_p dlC_M_about_147 (i := 8) rfl)
  by_cases hs_1_8 : a0_ = 8
  · refine zr_tabIn (c := 8) (off := 102) (tgt := 103) ⟨by decide, by decide⟩ hs_1_8 (by decide) (by decide) rfl (by decide) d_M_about_1 ?_
    refine zw_aload_n (pc := 103) (n := 0) (x := 81) rfl (zdal_p dlC_M_about_147 (i := 9) rfl) ?_
    refine zr_getI0 hf hW (pc := 104) (by decide) f_M_124 rfl (zdal_p dlC_M_about_147 (i := 10) rfl) ?_
    exact zr_iret (pc := 107) (ty := .int) rfl rfl ⟨by (exact zo_284 r_1.1), by (exact zo_285 r_1.2)⟩ hf trivial (zdal_p dlC_M_about_147 (i := 11) rfl)
  refine zr_tabOut (tgt := 108) ⟨ha0_a, ha0_b⟩ (by omega) (by decide) d_M_about_1 ?_
  refine zw_iconst (pc := 108) (v := Int32.ofInt (-1)) (by decide) (zdal_p dlC_M_about_147 (i := 12) rfl) ?_
  exact zr_iret (pc := 109) (ty := .int) rfl rfl ⟨by (decide), by (decide)⟩ hf trivial (zdal_p dlC_M_about_147 (i := 13) rfl)
set_option maxHeartbeats 4000000 in
theorem c_M_areMembers (l : Launch) (Mz : zMem) (hW : zMt Mz) (a0_ : Int) (ha0_a : -2147483648 ≤ a0_) (ha0_b : a0_ < 2147483648) (T : zGT) (hO : gOK T) (p0_ : zGB T Mz) : zC l m_M_areMembers 0 0 [.ref 81, .int (Int32.ofInt a0_)] Mz (zpI [] [] Mz (fun v N => (((v = 1 ∧ gIn T a0_) ∨ (v = 0))))) := by
  refine zC_of (L0 := [some (.ref 81), some (.int (Int32.ofInt a0_))]) md_M_areMembers (Nat.le_of_ble_eq_true rfl) rfl ?_ zQ0
  have hf : zFr [] [] Mz Mz := zFr.rf
  have r_20 := ze_r Mz 81 20
  have hG := hO.1
  have g24 := hG.2.1
  have g1 := hG.1
  have dv0 : zTab T Mz := p0_.1
  have dv1 : zB 85 144 0 5 Mz := p0_.2.1
  have dv2 : zJX T Mz := p0_.2.2.1
  have dv3 : zFirs T Mz := p0_.2.2.2.1
  have dv4 : zSSm T Mz := p0_.2.2.2.2.1
  have dv5 : zGD Mz := zGB.d hO p0_
  have gb := dv5.1
  have gn := dv0.1
  refine zw_iload_n (pc := 0) (n := 1) (x := Int32.ofInt a0_) rfl (zdal_p dlD_M_areMembers_11 (i := 0) rfl) ?_
  refine zr_i2l (pc := 1) ⟨ha0_a, ha0_b⟩ (zdal_p dlD_M_areMembers_11 (i := 1) rfl) ?_
  refine zw_lconst (pc := 2) (v := Int64.ofInt 0) (by decide) (zdal_p dlD_M_areMembers_11 (i := 2) rfl) ?_
  refine zw_iconst (pc := 3) (v := Int32.ofInt 1) (by decide) (zdal_p dlD_M_areMembers_11 (i := 3) rfl) ?_
  refine zw_aload_n (pc := 4) (n := 0) (x := 81) rfl (zdal_p dlD_M_areMembers_11 (i := 4) rfl) ?_
  refine zr_getI0 hf hW (pc := 5) (by decide) f_M_196 rfl (zdal_p dlD_M_areMembers_11 (i := 5) rfl) ?_
  refine zr_ishl (pc := 8) (zdal_p dlD_M_areMembers_11 (i := 6) rfl) ?_
  have hr1_ := zshl_r 1 (ze Mz 81 20)
  have hsh := zshl_b hG gn
  refine zw_iconst (pc := 9) (v := Int32.ofInt 1) (by decide) (zdal_p dlD_M_areMembers_11 (i := 7) rfl) ?_
  refine zr_isub (pc := 10) (zdal_p dlD_M_areMembers_11 (i := 8) rfl) ?_
  refine zr_i2l (pc := 11) ⟨(by (exact zo_63 hsh.2.1)), (by (exact zo_601 hr1_.2))⟩ (zdal_p dlD_M_areMembers_11 (i := 9) rfl) ?_
  refine zr_callS hf.x (pc := 12) [.long (Int64.ofInt a0_), .long (Int64.ofInt 0), .long (Int64.ofInt ((zshl 1 (ze Mz 81 20)) - 1))] [] l_M_131 (c_M_isIn l Mz (hf.w hW) a0_ (by (exact zo_282 ha0_a)) (by (exact zo_283 ha0_b)) 0 (by decide) (by decide) ((zshl 1 (ze Mz 81 20)) - 1) (by (exact zo_2432 hsh.2.1)) (by omega)) rfl rfl (by decide) (Nat.le_of_ble_eq_true rfl) (zdal_p dlD_M_areMembers_11 (i := 10) rfl) ?_
  rintro _ N2_ ⟨v3_, rfl, ⟨hv3_a, hv3_b⟩, hsN2_, hp0_N2_⟩
  obtain rfl := hsN2_.eq.symm
  replace hp0_N2_ : ((v3_ = 1 ∧ 0 ≤ a0_ ∧ a0_ ≤ ((zshl 1 (ze Mz 81 20)) - 1)) ∨ (v3_ = 0 ∧ (a0_ < 0 ∨ ((zshl 1 (ze Mz 81 20)) - 1) < a0_))) := hp0_N2_
  rcases hp0_N2_ with ⟨rfl, ha12_0_hp0_N2_, ha12_1_hp0_N2_⟩ | ⟨rfl, ha12_0_hp0_N2_⟩
  · skip
    show zW l m_M_areMembers (zn Mz + 0, zw Mz + 0) Mz 15 [some (.ref 81), some (.int (Int32.ofInt a0_))] [.int (Int32.ofInt 1)] _
    exact zr_iret (pc := 15) (ty := .boolean) rfl (z_narB (by (decide))) ⟨by (exact hv3_a), by (exact hv3_b)⟩ hf (show ((1 = 1 ∧ gIn T a0_) ∨ (1 = 0)) from Or.inl (⟨(show 1 = 1 by first | (decide) | exact ⟨by omega, by omega⟩), (show gIn T a0_ by first | omega | exact ⟨by (exact ha12_0_hp0_N2_), by omega⟩)⟩)) (zdal_p dlD_M_areMembers_11 (i := 11) rfl)
  · skip
    show zW l m_M_areMembers (zn Mz + 0, zw Mz + 0) Mz 15 [some (.ref 81), some (.int (Int32.ofInt a0_))] [.int (Int32.ofInt 0)] _
    exact zr_iret (pc := 15) (ty := .boolean) rfl (z_narB (by (decide))) ⟨by (exact hv3_a), by (exact hv3_b)⟩ hf (show ((0 = 1 ∧ gIn T a0_) ∨ (0 = 0)) from Or.inr ((show 0 = 0 by first | with_reducible assumption | (decide) | assumption))) (zdal_p dlD_M_areMembers_11 (i := 11) rfl)
set_option maxHeartbeats 4000000 in
theorem c_M_alike (l : Launch) (Mz : zMem) (hW : zMt Mz) (T : zGT) (hO : gOK T) (p0_ : zGB T Mz) : zC l m_M_alike 0 0 [.ref 81] Mz (zpI [] [] Mz (fun v N => True)) := by
  refine zC_of (L0 := [some (.ref 81), none, none, none]) md_M_alike (Nat.le_of_ble_eq_true rfl) rfl ?_ zQ0
  have hf : zFr [] [] Mz Mz := zFr.rf
  have r_20 := ze_r Mz 81 20
  have hG := hO.1
  have g24 := hG.2.1
  have g1 := hG.1
  have dv0 : zTab T Mz := p0_.1
  have dv1 : zB 85 144 0 5 Mz := p0_.2.1
  have dv2 : zJX T Mz := p0_.2.2.1
  have dv3 : zFirs T Mz := p0_.2.2.2.1
  have dv4 : zSSm T Mz := p0_.2.2.2.2.1
  have dv5 : zGD Mz := zGB.d hO p0_
  have gb := dv5.1
  have gn := dv0.1
  refine zw_iconst (pc := 0) (v := Int32.ofInt 0) (by decide) (zdal_p dlD_M_alike_8 (i := 0) rfl) ?_
  refine zw_istore_n (pc := 1) (i := 1) (L2 := [some (.ref 81), some (.int (Int32.ofInt 0)), none, none]) rfl (by decide) rfl (zdal_p dlD_M_alike_8 (i := 1) rfl) ?_
  refine zw_iconst (pc := 2) (v := Int32.ofInt 0) (by decide) (zdal_p dlD_M_alike_8 (i := 2) rfl) ?_
  refine zw_istore_n (pc := 3) (i := 2) (L2 := [some (.ref 81), some (.int (Int32.ofInt 0)), some (.int (Int32.ofInt 0)), none]) rfl (by decide) rfl (zdal_p dlD_M_alike_8 (i := 3) rfl) ?_
  have lp_4 : ∀ (n : Nat) (u1_ : Int) (hu1_a : -2147483648 ≤ u1_) (hu1_b : u1_ < 2147483648) (u2_ : Int) (hu2_a : -2147483648 ≤ u2_) (hu2_b : u2_ < 2147483648) (i3_ : 0 ≤ u2_), (ze Mz 81 20 - u2_).toNat < n → zW l m_M_alike (zn Mz + 0, zw Mz + 0) Mz 4 [some (.ref 81), some (.int (Int32.ofInt u1_)), some (.int (Int32.ofInt u2_)), none] [] (zpI [] [] Mz (fun v N => True)) := by
    intro n
    induction n with
    | zero =>
      intro u1_ hu1_a hu1_b u2_ hu2_a hu2_b i3_ h0
      exact absurd h0 (Nat.not_lt_zero _)
    | succ n ih_4 =>
      intro u1_ hu1_a hu1_b u2_ hu2_a hu2_b i3_ hlt_4
      refine zw_iload_n (pc := 4) (n := 2) (x := Int32.ofInt u2_) rfl (zdal_p dlD_M_alike_8 (i := 4) rfl) ?_
      refine zw_aload_n (pc := 5) (n := 0) (x := 81) rfl (zdal_p dlD_M_alike_8 (i := 5) rfl) ?_
      refine zr_getI0 hf hW (pc := 6) (by decide) f_M_196 rfl (zdal_p dlD_M_alike_8 (i := 6) rfl) ?_
      refine zr_icmp_ge (pc := 9) (tgt := 60) ⟨hu2_a, hu2_b⟩ ⟨(ze_r Mz 81 20).1, (ze_r Mz 81 20).2⟩ (by decide) (zdal_p dlD_M_alike_8 (i := 7) rfl) (fun hc_9 => ?_) (fun hc_9 => ?_)
      · skip
        refine zw_iload_n (pc := 60) (n := 1) (x := Int32.ofInt u1_) rfl (zdal_p dlD_M_alike_9 (i := 10) rfl) ?_
        exact zr_iret (pc := 61) (ty := .int) rfl rfl ⟨by (exact hu1_a), by (exact hu1_b)⟩ hf trivial (zdal_p dlD_M_alike_9 (i := 11) rfl)
      · skip
        refine zw_iconst (pc := 12) (v := Int32.ofInt 0) (by decide) (zdal_p dlD_M_alike_8 (i := 8) rfl) ?_
        refine zw_istore_n (pc := 13) (i := 3) (L2 := [some (.ref 81), some (.int (Int32.ofInt u1_)), some (.int (Int32.ofInt u2_)), some (.int (Int32.ofInt 0))]) rfl (by decide) rfl (zdal_p dlD_M_alike_8 (i := 9) rfl) ?_
        have lp_14 : ∀ (n : Nat) (u4_ : Int) (hu4_a : -2147483648 ≤ u4_) (hu4_b : u4_ < 2147483648) (u5_ : Int) (hu5_a : -2147483648 ≤ u5_) (hu5_b : u5_ < 2147483648) (i6_ : 0 ≤ u5_), (ze Mz 81 20 - u5_).toNat < n → zW l m_M_alike (zn Mz + 0, zw Mz + 0) Mz 14 [some (.ref 81), some (.int (Int32.ofInt u4_)), some (.int (Int32.ofInt u2_)), some (.int (Int32.ofInt u5_))] [] (zpI [] [] Mz (fun v N => True)) := by
          intro n
          induction n with
          | zero =>
            intro u4_ hu4_a hu4_b u5_ hu5_a hu5_b i6_ h0
            exact absurd h0 (Nat.not_lt_zero _)
          | succ n ih_14 =>
            intro u4_ hu4_a hu4_b u5_ hu5_a hu5_b i6_ hlt_14
            refine zw_iload_n (pc := 14) (n := 3) (x := Int32.ofInt u5_) rfl (zdal_p dlD_M_alike_8 (i := 10) rfl) ?_
            refine zw_aload_n (pc := 15) (n := 0) (x := 81) rfl (zdal_p dlD_M_alike_8 (i := 11) rfl) ?_
            refine zr_getI0 hf hW (pc := 16) (by decide) f_M_196 rfl (zdal_p dlD_M_alike_8 (i := 12) rfl) ?_
            refine zr_icmp_ge (pc := 19) (tgt := 54) ⟨hu5_a, hu5_b⟩ ⟨(ze_r Mz 81 20).1, (ze_r Mz 81 20).2⟩ (by decide) (zdal_p dlD_M_alike_8 (i := 13) rfl) (fun hc_19 => ?_) (fun hc_19 => ?_)
            · skip
              refine zr_iinc (pc := 54) (i := 2) (a := u2_) (n := 1) (L2 := [some (.ref 81), some (.int (Int32.ofInt u4_)), some (.int (Int32.ofInt (u2_ + 1))), some (.int (Int32.ofInt u5_))]) rfl (by decide) rfl (zdal_p dlD_M_alike_9 (i := 8) rfl) ?_
              refine zw_goto (pc := 57) (tgt := 4) (by decide) (zdal_p dlD_M_alike_9 (i := 9) rfl) ?_
              refine zW_le [some (.ref 81), some (.int (Int32.ofInt u4_)), some (.int (Int32.ofInt (u2_ + 1))), none] (⟨rfl, rfl, rfl, trivial⟩) ?_
              exact ih_4 u4_ hu4_a hu4_b (u2_ + 1) (by (exact zo_74 i3_)) (by (exact zo_919 gb.2.1 hc_9)) (show 0 ≤ (u2_ + 1) by first | with_reducible assumption | (exact zo_76 i3_) | assumption) (by (exact zo_147 hc_9 hlt_4))
            · skip
              refine zw_iload_n (pc := 22) (n := 1) (x := Int32.ofInt u4_) rfl (zdal_p dlD_M_alike_8 (i := 14) rfl) ?_
              refine zw_aload_n (pc := 23) (n := 0) (x := 81) rfl (zdal_p dlD_M_alike_8 (i := 15) rfl) ?_
              refine zw_iload_n (pc := 24) (n := 2) (x := Int32.ofInt u2_) rfl (zdal_p dlD_M_alike_8 (i := 16) rfl) ?_
              refine zw_iload_n (pc := 25) (n := 3) (x := Int32.ofInt u5_) rfl (zdal_p dlD_M_alike_8 (i := 17) rfl) ?_
              refine zr_callV (hf.w hW) hf.x (pc := 26) [.int (Int32.ofInt u2_), .int (Int32.ofInt u5_)] [.int (Int32.ofInt u4_)] l_M_216 (c_M_by l Mz (hf.w hW) u2_ hu2_a hu2_b u5_ hu5_a hu5_b T hG dv0 (show 0 ≤ u2_ by first | with_reducible assumption | assumption | omega) (show u2_ < ze Mz 81 20 by first | with_reducible assumption | assumption | omega) (show 0 ≤ u5_ by first | with_reducible assumption | assumption | omega) (show u5_ < ze Mz 81 20 by first | with_reducible assumption | assumption | omega)) rfl rfl rfl (by decide) (Nat.le_of_ble_eq_true rfl) (zdal_p dlD_M_alike_8 (i := 18) rfl) ?_
              rintro _ N7_ ⟨v8_, rfl, ⟨hv8_a, hv8_b⟩, hsN7_, ⟨hp0_N7_, hp1_N7_, hp2_N7_⟩⟩
              obtain rfl := hsN7_.eq.symm
              show zW l m_M_alike (zn Mz + 0, zw Mz + 0) Mz 29 [some (.ref 81), some (.int (Int32.ofInt u4_)), some (.int (Int32.ofInt u2_)), some (.int (Int32.ofInt u5_))] [.int (Int32.ofInt v8_), .int (Int32.ofInt u4_)] (zpI [] [] Mz (fun v N => True))
              refine zw_aload_n (pc := 29) (n := 0) (x := 81) rfl (zdal_p dlD_M_alike_8 (i := 19) rfl) ?_
              refine zw_iload_n (pc := 30) (n := 3) (x := Int32.ofInt u5_) rfl (zdal_p dlD_M_alike_8 (i := 20) rfl) ?_
              refine zw_iload_n (pc := 31) (n := 2) (x := Int32.ofInt u2_) rfl (zdal_p dlD_M_alike_8 (i := 21) rfl) ?_
              refine zr_callV (hf.w hW) hf.x (pc := 32) [.int (Int32.ofInt u5_), .int (Int32.ofInt u2_)] [.int (Int32.ofInt v8_), .int (Int32.ofInt u4_)] l_M_216 (c_M_by l Mz (hf.w hW) u5_ hu5_a hu5_b u2_ hu2_a hu2_b T hG dv0 (show 0 ≤ u5_ by first | with_reducible assumption | assumption | omega) (show u5_ < ze Mz 81 20 by first | with_reducible assumption | assumption | omega) (show 0 ≤ u2_ by first | with_reducible assumption | assumption | omega) (show u2_ < ze Mz 81 20 by first | with_reducible assumption | assumption | omega)) rfl rfl rfl (by decide) (Nat.le_of_ble_eq_true rfl) (zdal_p dlD_M_alike_8 (i := 22) rfl) ?_
              rintro _ N9_ ⟨v10_, rfl, ⟨hv10_a, hv10_b⟩, hsN9_, ⟨hp0_N9_, hp1_N9_, hp2_N9_⟩⟩
              obtain rfl := hsN9_.eq.symm
              show zW l m_M_alike (zn Mz + 0, zw Mz + 0) Mz 35 [some (.ref 81), some (.int (Int32.ofInt u4_)), some (.int (Int32.ofInt u2_)), some (.int (Int32.ofInt u5_))] [.int (Int32.ofInt v10_), .int (Int32.ofInt v8_), .int (Int32.ofInt u4_)] (zpI [] [] Mz (fun v N => True))
              refine zr_icmp_ne (pc := 35) (tgt := 42) ⟨hv8_a, hv8_b⟩ ⟨hv10_a, hv10_b⟩ (by decide) (zdal_p dlD_M_alike_8 (i := 23) rfl) (fun hc_35 => ?_) (fun hc_35 => ?_)
              · skip
                refine zw_iconst (pc := 42) (v := Int32.ofInt 0) (by decide) (zdal_p dlD_M_alike_9 (i := 2) rfl) ?_
                refine zr_callS hf.x (pc := 43) [.int (Int32.ofInt 0)] [.int (Int32.ofInt u4_)] l_M_256 (c_M_truth l Mz (hf.w hW) 0 (by decide) (by decide) (by (decide))) rfl rfl (by decide) (Nat.le_of_ble_eq_true rfl) (zdal_p dlD_M_alike_9 (i := 3) rfl) ?_
                rintro _ N11_ ⟨v12_, rfl, ⟨hv12_a, hv12_b⟩, hsN11_, hp0_N11_⟩
                obtain rfl := hsN11_.eq.symm
                replace hp0_N11_ : v12_ = 0 := hp0_N11_
                show zW l m_M_alike (zn Mz + 0, zw Mz + 0) Mz 46 [some (.ref 81), some (.int (Int32.ofInt u4_)), some (.int (Int32.ofInt u2_)), some (.int (Int32.ofInt u5_))] [.int (Int32.ofInt v12_), .int (Int32.ofInt u4_)] (zpI [] [] Mz (fun v N => True))
                refine zr_iadd (pc := 46) (zdal_p dlD_M_alike_9 (i := 4) rfl) ?_
                refine zr_nmI (fun v13_ hv13_ => ?_)
                obtain ⟨hv13_a, hv13_b⟩ := hv13_
                refine zw_istore_n (pc := 47) (i := 1) (L2 := [some (.ref 81), some (.int (Int32.ofInt v13_)), some (.int (Int32.ofInt u2_)), some (.int (Int32.ofInt u5_))]) rfl (by decide) rfl (zdal_p dlD_M_alike_9 (i := 5) rfl) ?_
                refine zr_iinc (pc := 48) (i := 3) (a := u5_) (n := 1) (L2 := [some (.ref 81), some (.int (Int32.ofInt v13_)), some (.int (Int32.ofInt u2_)), some (.int (Int32.ofInt (u5_ + 1)))]) rfl (by decide) rfl (zdal_p dlD_M_alike_9 (i := 6) rfl) ?_
                refine zw_goto (pc := 51) (tgt := 14) (by decide) (zdal_p dlD_M_alike_9 (i := 7) rfl) ?_
                exact ih_14 v13_ hv13_a hv13_b (u5_ + 1) (by (exact zo_74 i6_)) (by (exact zo_919 gb.2.1 hc_19)) (show 0 ≤ (u5_ + 1) by first | with_reducible assumption | (exact zo_76 i6_) | assumption) (by (exact zo_147 hc_19 hlt_14))
              · skip
                refine zw_iconst (pc := 38) (v := Int32.ofInt 1) (by decide) (zdal_p dlD_M_alike_9 (i := 0) rfl) ?_
                refine zw_goto (pc := 39) (tgt := 43) (by decide) (zdal_p dlD_M_alike_9 (i := 1) rfl) ?_
                refine zr_callS hf.x (pc := 43) [.int (Int32.ofInt 1)] [.int (Int32.ofInt u4_)] l_M_256 (c_M_truth l Mz (hf.w hW) 1 (by decide) (by decide) (by (decide))) rfl rfl (by decide) (Nat.le_of_ble_eq_true rfl) (zdal_p dlD_M_alike_9 (i := 3) rfl) ?_
                rintro _ N14_ ⟨v15_, rfl, ⟨hv15_a, hv15_b⟩, hsN14_, hp0_N14_⟩
                obtain rfl := hsN14_.eq.symm
                replace hp0_N14_ : v15_ = 1 := hp0_N14_
                show zW l m_M_alike (zn Mz + 0, zw Mz + 0) Mz 46 [some (.ref 81), some (.int (Int32.ofInt u4_)), some (.int (Int32.ofInt u2_)), some (.int (Int32.ofInt u5_))] [.int (Int32.ofInt v15_), .int (Int32.ofInt u4_)] (zpI [] [] Mz (fun v N => True))
                refine zr_iadd (pc := 46) (zdal_p dlD_M_alike_9 (i := 4) rfl) ?_
                refine zr_nmI (fun v16_ hv16_ => ?_)
                obtain ⟨hv16_a, hv16_b⟩ := hv16_
                refine zw_istore_n (pc := 47) (i := 1) (L2 := [some (.ref 81), some (.int (Int32.ofInt v16_)), some (.int (Int32.ofInt u2_)), some (.int (Int32.ofInt u5_))]) rfl (by decide) rfl (zdal_p dlD_M_alike_9 (i := 5) rfl) ?_
                refine zr_iinc (pc := 48) (i := 3) (a := u5_) (n := 1) (L2 := [some (.ref 81), some (.int (Int32.ofInt v16_)), some (.int (Int32.ofInt u2_)), some (.int (Int32.ofInt (u5_ + 1)))]) rfl (by decide) rfl (zdal_p dlD_M_alike_9 (i := 6) rfl) ?_
                refine zw_goto (pc := 51) (tgt := 14) (by decide) (zdal_p dlD_M_alike_9 (i := 7) rfl) ?_
                exact ih_14 v16_ hv16_a hv16_b (u5_ + 1) (by (exact zo_74 i6_)) (by (exact zo_919 gb.2.1 hc_19)) (show 0 ≤ (u5_ + 1) by first | with_reducible assumption | (exact zo_76 i6_) | assumption) (by (exact zo_147 hc_19 hlt_14))
        exact lp_14 _ u1_ hu1_a hu1_b 0 (by decide) (by decide) (show 0 ≤ (0 : Int) by first | with_reducible assumption | (decide) | assumption) (Nat.lt_succ_self _)
  exact lp_4 _ 0 (by decide) (by decide) 0 (by decide) (by decide) (show 0 ≤ (0 : Int) by first | with_reducible assumption | (decide) | assumption) (Nat.lt_succ_self _)
set_option maxHeartbeats 4000000 in
theorem c_M_makesOf (l : Launch) (Mz : zMem) (hW : zMt Mz) (a0_ : Int) (ha0_a : -2147483648 ≤ a0_) (ha0_b : a0_ < 2147483648) (T : zGT) (hO : gOK T) (p0_ : zGB T Mz) : zC l m_M_makesOf 0 0 [.ref 81, .int (Int32.ofInt a0_)] Mz (zpI [] [] Mz (fun v N => True)) := by
  refine zC_of (L0 := [some (.ref 81), some (.int (Int32.ofInt a0_))]) md_M_makesOf (Nat.le_of_ble_eq_true rfl) rfl ?_ zQ0
  have hf : zFr [] [] Mz Mz := zFr.rf
  have hG := hO.1
  have g24 := hG.2.1
  have g1 := hG.1
  have dv0 : zTab T Mz := p0_.1
  have dv1 : zB 85 144 0 5 Mz := p0_.2.1
  have dv2 : zJX T Mz := p0_.2.2.1
  have dv3 : zFirs T Mz := p0_.2.2.2.1
  have dv4 : zSSm T Mz := p0_.2.2.2.2.1
  have dv5 : zGD Mz := zGB.d hO p0_
  have gb := dv5.1
  have gn := dv0.1
  refine zw_aload_n (pc := 0) (n := 0) (x := 81) rfl (zdal_p dlD_M_makesOf_10 (i := 0) rfl) ?_
  refine zw_iload_n (pc := 1) (n := 1) (x := Int32.ofInt a0_) rfl (zdal_p dlD_M_makesOf_10 (i := 1) rfl) ?_
  refine zr_callV (hf.w hW) hf.x (pc := 2) [.int (Int32.ofInt a0_)] [] l_M_408 (c_M_areMembers l Mz (hf.w hW) a0_ ha0_a ha0_b T hO p0_) rfl rfl rfl (by decide) (Nat.le_of_ble_eq_true rfl) (zdal_p dlD_M_makesOf_10 (i := 2) rfl) ?_
  rintro _ N1_ ⟨v2_, rfl, ⟨hv2_a, hv2_b⟩, hsN1_, hp0_N1_⟩
  obtain rfl := hsN1_.eq.symm
  replace hp0_N1_ : ((v2_ = 1 ∧ gIn T a0_) ∨ (v2_ = 0)) := hp0_N1_
  rcases hp0_N1_ with ⟨rfl, ha2_0_hp0_N1_⟩ | rfl
  · skip
    show zW l m_M_makesOf (zn Mz + 0, zw Mz + 0) Mz 5 [some (.ref 81), some (.int (Int32.ofInt a0_))] [.int (Int32.ofInt 1)] (zpI [] [] Mz (fun v N => True))
    refine zr_if_eq (pc := 5) (tgt := 16) ⟨(by decide), (by decide)⟩ (by decide) (zdal_p dlD_M_makesOf_10 (i := 3) rfl) (fun hc_5 => ?_) (fun hc_5 => ?_)
    · skip
      exact absurd hc_5 (by decide)
    · skip
      refine zw_aload_n (pc := 8) (n := 0) (x := 81) rfl (zdal_p dlD_M_makesOf_10 (i := 4) rfl) ?_
      refine zw_iload_n (pc := 9) (n := 1) (x := Int32.ofInt a0_) rfl (zdal_p dlD_M_makesOf_10 (i := 5) rfl) ?_
      refine zr_callV (hf.w hW) hf.x (pc := 10) [.int (Int32.ofInt a0_)] [] l_M_229 (c_M_closed l Mz (hf.w hW) a0_ ha0_a ha0_b T hG dv0 (show gIn T a0_ by first | with_reducible assumption | assumption | omega)) rfl rfl rfl (by decide) (Nat.le_of_ble_eq_true rfl) (zdal_p dlD_M_makesOf_10 (i := 6) rfl) ?_
      rintro _ N3_ ⟨v4_, rfl, ⟨hv4_a, hv4_b⟩, hsN3_, ⟨hp0_N3_, hp1_N3_, hp2_N3_⟩⟩
      obtain rfl := hsN3_.eq.symm
      show zW l m_M_makesOf (zn Mz + 0, zw Mz + 0) Mz 13 [some (.ref 81), some (.int (Int32.ofInt a0_))] [.int (Int32.ofInt v4_)] (zpI [] [] Mz (fun v N => True))
      refine zw_goto (pc := 13) (tgt := 17) (by decide) (zdal_p dlD_M_makesOf_10 (i := 7) rfl) ?_
      exact zr_iret (pc := 17) (ty := .int) rfl rfl ⟨by (exact hv4_a), by (exact hv4_b)⟩ hf trivial (zdal_p dlD_M_makesOf_10 (i := 9) rfl)
  · skip
    show zW l m_M_makesOf (zn Mz + 0, zw Mz + 0) Mz 5 [some (.ref 81), some (.int (Int32.ofInt a0_))] [.int (Int32.ofInt 0)] (zpI [] [] Mz (fun v N => True))
    refine zr_if_eq (pc := 5) (tgt := 16) ⟨(by decide), (by decide)⟩ (by decide) (zdal_p dlD_M_makesOf_10 (i := 3) rfl) (fun hc_5 => ?_) (fun hc_5 => ?_)
    · skip
      refine zw_iconst (pc := 16) (v := Int32.ofInt (-1)) (by decide) (zdal_p dlD_M_makesOf_10 (i := 8) rfl) ?_
      exact zr_iret (pc := 17) (ty := .int) rfl rfl ⟨by (decide), by (decide)⟩ hf trivial (zdal_p dlD_M_makesOf_10 (i := 9) rfl)
    · skip
      exact absurd hc_5 (by decide)
set_option maxHeartbeats 4000000 in
theorem c_M_sortOfSet (l : Launch) (Mz : zMem) (hW : zMt Mz) (a0_ : Int) (ha0_a : -2147483648 ≤ a0_) (ha0_b : a0_ < 2147483648) (T : zGT) (hO : gOK T) (p0_ : zGB T Mz) (p1_ : gMe T a0_) : zC l m_M_sortOfSet 0 0 [.ref 81, .int (Int32.ofInt a0_)] Mz (zpI [] [] Mz (fun v N => 0 ≤ v ∧ v < ze Mz 81 26)) := by
  refine zC_of (L0 := [some (.ref 81), some (.int (Int32.ofInt a0_))]) md_M_sortOfSet (Nat.le_of_ble_eq_true rfl) rfl ?_ zQ0
  have hf : zFr [] [] Mz Mz := zFr.rf
  have r_25 := ze_r Mz 81 25
  have r_26 := ze_r Mz 81 26
  have hG := hO.1
  have g24 := hG.2.1
  have g1 := hG.1
  have dv0 : zTab T Mz := p0_.1
  have dv1 : zB 85 144 0 5 Mz := p0_.2.1
  have dv2 : zJX T Mz := p0_.2.2.1
  have dv3 : zFirs T Mz := p0_.2.2.2.1
  have dv4 : zSSm T Mz := p0_.2.2.2.2.1
  have dv5 : zGD Mz := zGB.d hO p0_
  have gb := dv5.1
  have gn := dv0.1
  refine zw_aload_n (pc := 0) (n := 0) (x := 81) rfl (zdal_p dlD_M_sortOfSet_13 (i := 0) rfl) ?_
  refine zr_getF (r := 90) (hf.w hW) (pc := 1) f_M_41 rfl (zh_90 (hf.w hW)).1 (zdal_p dlD_M_sortOfSet_13 (i := 1) rfl) ?_
  refine zw_aload_n (pc := 4) (n := 0) (x := 81) rfl (zdal_p dlD_M_sortOfSet_13 (i := 2) rfl) ?_
  refine zw_iload_n (pc := 5) (n := 1) (x := Int32.ofInt a0_) rfl (zdal_p dlD_M_sortOfSet_13 (i := 3) rfl) ?_
  refine zr_callV (hf.w hW) hf.x (pc := 6) [.int (Int32.ofInt a0_)] [.ref 90] l_M_232 (c_M_subIndex l Mz (hf.w hW) a0_ ha0_a ha0_b (show 0 ≤ ze Mz 81 25 by first | with_reducible assumption | (exact zo_564 gb.2.2.1) | assumption) (show ze Mz 81 25 ≤ 128 by first | with_reducible assumption | (exact zo_579 gb.2.2.2.1) | assumption)) rfl rfl rfl (by decide) (Nat.le_of_ble_eq_true rfl) (zdal_p dlD_M_sortOfSet_13 (i := 4) rfl) ?_
  rintro _ N1_ ⟨v2_, rfl, ⟨hv2_a, hv2_b⟩, hsN1_, hp0_N1_⟩
  obtain rfl := hsN1_.eq.symm
  replace hp0_N1_ : ((0 ≤ v2_ ∧ v2_ < ze Mz 81 25 ∧ ze Mz 89 (v2_).toNat = a0_) ∨ (v2_ = -1 ∧ ∀ k : Nat, (k : Int) < ze Mz 81 25 → ze Mz 89 k ≠ a0_)) := hp0_N1_
  rcases hp0_N1_ with ⟨ha6_0_hp0_N1_, ha6_1_hp0_N1_, ha6_2_hp0_N1_⟩ | ⟨rfl, ha6_0_hp0_N1_⟩
  · skip
    show zW l m_M_sortOfSet (zn Mz + 0, zw Mz + 0) Mz 9 [some (.ref 81), some (.int (Int32.ofInt a0_))] [.int (Int32.ofInt v2_), .ref 90] _
    have hs := dv4 (v2_).toNat (by (exact zo_587 ha6_0_hp0_N1_ ha6_1_hp0_N1_))
    refine zr_ialdn (pc := 9) (zh_90 (hf.w hW)).2 (by decide) (by (exact ha6_0_hp0_N1_)) (by omega) (zdal_p dlD_M_sortOfSet_13 (i := 5) rfl) (fun v3_ hv3_ hv3_a hv3_b => ?_)
    exact zr_iret (pc := 10) (ty := .int) rfl rfl ⟨by (exact hv3_a), by (exact hv3_b)⟩ hf ⟨(show 0 ≤ v3_ by first | with_reducible assumption | (exact zo_574 hs.1 hv3_ hv3_a) | assumption), (show v3_ < ze Mz 81 26 by first | with_reducible assumption | assumption | omega)⟩ (zdal_p dlD_M_sortOfSet_13 (i := 6) rfl)
  · skip
    obtain ⟨i0, hi0, hi1⟩ := (p1_).f hO dv2
    exact absurd hi1 (ha6_0_hp0_N1_ i0 hi0)
set_option maxHeartbeats 4000000 in
theorem c_M_meet (l : Launch) (Mz : zMem) (hW : zMt Mz) (a0_ : Int) (ha0_a : -2147483648 ≤ a0_) (ha0_b : a0_ < 2147483648) (a1_ : Int) (ha1_a : -2147483648 ≤ a1_) (ha1_b : a1_ < 2147483648) (T : zGT) (hO : gOK T) (p0_ : zGB T Mz) : zC l m_M_meet 0 0 [.ref 81, .int (Int32.ofInt a0_), .int (Int32.ofInt a1_)] Mz (zpI [] [] Mz (fun v N => True)) := by
  refine zC_of (L0 := [some (.ref 81), some (.int (Int32.ofInt a0_)), some (.int (Int32.ofInt a1_))]) md_M_meet (Nat.le_of_ble_eq_true rfl) rfl ?_ zQ0
  have hf : zFr [] [] Mz Mz := zFr.rf
  have r_26 := ze_r Mz 81 26
  have hG := hO.1
  have g24 := hG.2.1
  have g1 := hG.1
  have dv0 : zTab T Mz := p0_.1
  have dv1 : zB 85 144 0 5 Mz := p0_.2.1
  have dv2 : zJX T Mz := p0_.2.2.1
  have dv3 : zFirs T Mz := p0_.2.2.2.1
  have dv4 : zSSm T Mz := p0_.2.2.2.2.1
  have dv5 : zGD Mz := zGB.d hO p0_
  have gb := dv5.1
  have gn := dv0.1
  refine zw_aload_n (pc := 0) (n := 0) (x := 81) rfl (zdal_p dlD_M_meet_21 (i := 0) rfl) ?_
  refine zw_iload_n (pc := 1) (n := 1) (x := Int32.ofInt a0_) rfl (zdal_p dlD_M_meet_21 (i := 1) rfl) ?_
  refine zr_callV (hf.w hW) hf.x (pc := 2) [.int (Int32.ofInt a0_)] [] l_M_414 (c_M_isSort l Mz (hf.w hW) a0_ ha0_a ha0_b T hO p0_) rfl rfl rfl (by decide) (Nat.le_of_ble_eq_true rfl) (zdal_p dlD_M_meet_21 (i := 2) rfl) ?_
  rintro _ N1_ ⟨v2_, rfl, ⟨hv2_a, hv2_b⟩, hsN1_, hp0_N1_⟩
  obtain rfl := hsN1_.eq.symm
  replace hp0_N1_ : ((v2_ = 1 ∧ 0 ≤ a0_ ∧ a0_ < ze Mz 81 26) ∨ (v2_ = 0)) := hp0_N1_
  rcases hp0_N1_ with ⟨rfl, ha2_0_hp0_N1_, ha2_1_hp0_N1_⟩ | rfl
  · skip
    show zW l m_M_meet (zn Mz + 0, zw Mz + 0) Mz 5 [some (.ref 81), some (.int (Int32.ofInt a0_)), some (.int (Int32.ofInt a1_))] [.int (Int32.ofInt 1)] (zpI [] [] Mz (fun v N => True))
    refine zr_if_eq (pc := 5) (tgt := 16) ⟨(by decide), (by decide)⟩ (by decide) (zdal_p dlD_M_meet_21 (i := 3) rfl) (fun hc_5 => ?_) (fun hc_5 => ?_)
    · skip
      exact absurd hc_5 (by decide)
    · skip
      refine zw_aload_n (pc := 8) (n := 0) (x := 81) rfl (zdal_p dlD_M_meet_21 (i := 4) rfl) ?_
      refine zw_iload_n (pc := 9) (n := 2) (x := Int32.ofInt a1_) rfl (zdal_p dlD_M_meet_21 (i := 5) rfl) ?_
      refine zr_callV (hf.w hW) hf.x (pc := 10) [.int (Int32.ofInt a1_)] [] l_M_414 (c_M_isSort l Mz (hf.w hW) a1_ ha1_a ha1_b T hO p0_) rfl rfl rfl (by decide) (Nat.le_of_ble_eq_true rfl) (zdal_p dlD_M_meet_21 (i := 6) rfl) ?_
      rintro _ N3_ ⟨v4_, rfl, ⟨hv4_a, hv4_b⟩, hsN3_, hp0_N3_⟩
      obtain rfl := hsN3_.eq.symm
      replace hp0_N3_ : ((v4_ = 1 ∧ 0 ≤ a1_ ∧ a1_ < ze Mz 81 26) ∨ (v4_ = 0)) := hp0_N3_
      rcases hp0_N3_ with ⟨rfl, ha10_0_hp0_N3_, ha10_1_hp0_N3_⟩ | rfl
      · skip
        show zW l m_M_meet (zn Mz + 0, zw Mz + 0) Mz 13 [some (.ref 81), some (.int (Int32.ofInt a0_)), some (.int (Int32.ofInt a1_))] [.int (Int32.ofInt 1)] (zpI [] [] Mz (fun v N => True))
        refine zr_if_ne (pc := 13) (tgt := 18) ⟨(by decide), (by decide)⟩ (by decide) (zdal_p dlD_M_meet_21 (i := 7) rfl) (fun hc_13 => ?_) (fun hc_13 => ?_)
        · skip
          refine zw_aload_n (pc := 18) (n := 0) (x := 81) rfl (zdal_p dlD_M_meet_21 (i := 10) rfl) ?_
          refine zw_aload_n (pc := 19) (n := 0) (x := 81) rfl (zdal_p dlD_M_meet_21 (i := 11) rfl) ?_
          refine zr_getF (r := 91) (hf.w hW) (pc := 20) f_M_44 rfl (zh_91 (hf.w hW)).1 (zdal_p dlD_M_meet_21 (i := 12) rfl) ?_
          refine zw_iload_n (pc := 23) (n := 1) (x := Int32.ofInt a0_) rfl (zdal_p dlD_M_meet_21 (i := 13) rfl) ?_
          refine zr_ialdn (pc := 24) (zh_91 (hf.w hW)).2 (by decide) (by omega) (by omega) (zdal_p dlD_M_meet_21 (i := 14) rfl) (fun v5_ hv5_ hv5_a hv5_b => ?_)
          have h1 := dv3.g hO (e := a0_) (by omega) (by omega)
          refine zr_toI (show v5_ = ze Mz 91 (a0_).toNat by omega) ?_
          refine zw_aload_n (pc := 25) (n := 0) (x := 81) rfl (zdal_p dlD_M_meet_21 (i := 15) rfl) ?_
          refine zr_getF (r := 91) (hf.w hW) (pc := 26) f_M_44 rfl (zh_91 (hf.w hW)).1 (zdal_p dlD_M_meet_21 (i := 16) rfl) ?_
          refine zw_iload_n (pc := 29) (n := 2) (x := Int32.ofInt a1_) rfl (zdal_p dlD_M_meet_21 (i := 17) rfl) ?_
          refine zr_ialdn (pc := 30) (zh_91 (hf.w hW)).2 (by decide) (by omega) (by omega) (zdal_p dlD_M_meet_21 (i := 18) rfl) (fun v6_ hv6_ hv6_a hv6_b => ?_)
          have h2 := dv3.g hO (e := a1_) (by omega) (by omega)
          refine zr_toI (show v6_ = ze Mz 91 (a1_).toNat by omega) ?_
          refine zr_iand (pc := 31) (zdal_p dlD_M_meet_21 (i := 19) rfl) ?_
          have hr7_ := zand_r (ze Mz 91 (a0_).toNat) (ze Mz 91 (a1_).toNat)
          refine zr_callV (hf.w hW) hf.x (pc := 32) [.int (Int32.ofInt (zand (ze Mz 91 (a0_).toNat) (ze Mz 91 (a1_).toNat)))] [] l_M_411 (c_M_sortOfSet l Mz (hf.w hW) (zand (ze Mz 91 (a0_).toNat) (ze Mz 91 (a1_).toNat)) (by omega) (by omega) T hO p0_ (show gMe T (zand (ze Mz 91 (a0_).toNat) (ze Mz 91 (a1_).toNat)) by exact gMe_a hO h1.1 h2.1)) rfl rfl rfl (by decide) (Nat.le_of_ble_eq_true rfl) (zdal_p dlD_M_meet_21 (i := 20) rfl) ?_
          rintro _ N8_ ⟨v9_, rfl, ⟨hv9_a, hv9_b⟩, hsN8_, ⟨hp0_N8_, hp1_N8_⟩⟩
          obtain rfl := hsN8_.eq.symm
          show zW l m_M_meet (zn Mz + 0, zw Mz + 0) Mz 35 [some (.ref 81), some (.int (Int32.ofInt a0_)), some (.int (Int32.ofInt a1_))] [.int (Int32.ofInt v9_)] (zpI [] [] Mz (fun v N => True))
          exact zr_iret (pc := 35) (ty := .int) rfl rfl ⟨by omega, by omega⟩ hf trivial (zdal_p dlD_M_meet_21 (i := 21) rfl)
        · skip
          exact absurd hc_13 (by decide)
      · skip
        show zW l m_M_meet (zn Mz + 0, zw Mz + 0) Mz 13 [some (.ref 81), some (.int (Int32.ofInt a0_)), some (.int (Int32.ofInt a1_))] [.int (Int32.ofInt 0)] (zpI [] [] Mz (fun v N => True))
        refine zr_if_ne (pc := 13) (tgt := 18) ⟨(by decide), (by decide)⟩ (by decide) (zdal_p dlD_M_meet_21 (i := 7) rfl) (fun hc_13 => ?_) (fun hc_13 => ?_)
        · skip
          exact absurd hc_13 (by decide)
        · skip
          refine zw_iconst (pc := 16) (v := Int32.ofInt (-1)) (by decide) (zdal_p dlD_M_meet_21 (i := 8) rfl) ?_
          exact zr_iret (pc := 17) (ty := .int) rfl rfl ⟨by omega, by omega⟩ hf trivial (zdal_p dlD_M_meet_21 (i := 9) rfl)
  · skip
    show zW l m_M_meet (zn Mz + 0, zw Mz + 0) Mz 5 [some (.ref 81), some (.int (Int32.ofInt a0_)), some (.int (Int32.ofInt a1_))] [.int (Int32.ofInt 0)] (zpI [] [] Mz (fun v N => True))
    refine zr_if_eq (pc := 5) (tgt := 16) ⟨(by decide), (by decide)⟩ (by decide) (zdal_p dlD_M_meet_21 (i := 3) rfl) (fun hc_5 => ?_) (fun hc_5 => ?_)
    · skip
      refine zw_iconst (pc := 16) (v := Int32.ofInt (-1)) (by decide) (zdal_p dlD_M_meet_21 (i := 8) rfl) ?_
      exact zr_iret (pc := 17) (ty := .int) rfl rfl ⟨by omega, by omega⟩ hf trivial (zdal_p dlD_M_meet_21 (i := 9) rfl)
    · skip
      exact absurd hc_5 (by decide)
set_option maxHeartbeats 4000000 in
theorem c_M_join (l : Launch) (Mz : zMem) (hW : zMt Mz) (a0_ : Int) (ha0_a : -2147483648 ≤ a0_) (ha0_b : a0_ < 2147483648) (a1_ : Int) (ha1_a : -2147483648 ≤ a1_) (ha1_b : a1_ < 2147483648) (T : zGT) (hO : gOK T) (p0_ : zGB T Mz) : zC l m_M_join 0 0 [.ref 81, .int (Int32.ofInt a0_), .int (Int32.ofInt a1_)] Mz (zpI [] [] Mz (fun v N => True)) := by
  refine zC_of (L0 := [some (.ref 81), some (.int (Int32.ofInt a0_)), some (.int (Int32.ofInt a1_))]) md_M_join (Nat.le_of_ble_eq_true rfl) rfl ?_ zQ0
  have hf : zFr [] [] Mz Mz := zFr.rf
  have r_26 := ze_r Mz 81 26
  have hG := hO.1
  have g24 := hG.2.1
  have g1 := hG.1
  have dv0 : zTab T Mz := p0_.1
  have dv1 : zB 85 144 0 5 Mz := p0_.2.1
  have dv2 : zJX T Mz := p0_.2.2.1
  have dv3 : zFirs T Mz := p0_.2.2.2.1
  have dv4 : zSSm T Mz := p0_.2.2.2.2.1
  have dv5 : zGD Mz := zGB.d hO p0_
  have gb := dv5.1
  have gn := dv0.1
  refine zw_aload_n (pc := 0) (n := 0) (x := 81) rfl (zdal_p dlD_M_join_22 (i := 0) rfl) ?_
  refine zw_iload_n (pc := 1) (n := 1) (x := Int32.ofInt a0_) rfl (zdal_p dlD_M_join_22 (i := 1) rfl) ?_
  refine zr_callV (hf.w hW) hf.x (pc := 2) [.int (Int32.ofInt a0_)] [] l_M_414 (c_M_isSort l Mz (hf.w hW) a0_ ha0_a ha0_b T hO p0_) rfl rfl rfl (by decide) (Nat.le_of_ble_eq_true rfl) (zdal_p dlD_M_join_22 (i := 2) rfl) ?_
  rintro _ N1_ ⟨v2_, rfl, ⟨hv2_a, hv2_b⟩, hsN1_, hp0_N1_⟩
  obtain rfl := hsN1_.eq.symm
  replace hp0_N1_ : ((v2_ = 1 ∧ 0 ≤ a0_ ∧ a0_ < ze Mz 81 26) ∨ (v2_ = 0)) := hp0_N1_
  rcases hp0_N1_ with ⟨rfl, ha2_0_hp0_N1_, ha2_1_hp0_N1_⟩ | rfl
  · skip
    show zW l m_M_join (zn Mz + 0, zw Mz + 0) Mz 5 [some (.ref 81), some (.int (Int32.ofInt a0_)), some (.int (Int32.ofInt a1_))] [.int (Int32.ofInt 1)] (zpI [] [] Mz (fun v N => True))
    refine zr_if_eq (pc := 5) (tgt := 16) ⟨(by decide), (by decide)⟩ (by decide) (zdal_p dlD_M_join_22 (i := 3) rfl) (fun hc_5 => ?_) (fun hc_5 => ?_)
    · skip
      exact absurd hc_5 (by decide)
    · skip
      refine zw_aload_n (pc := 8) (n := 0) (x := 81) rfl (zdal_p dlD_M_join_22 (i := 4) rfl) ?_
      refine zw_iload_n (pc := 9) (n := 2) (x := Int32.ofInt a1_) rfl (zdal_p dlD_M_join_22 (i := 5) rfl) ?_
      refine zr_callV (hf.w hW) hf.x (pc := 10) [.int (Int32.ofInt a1_)] [] l_M_414 (c_M_isSort l Mz (hf.w hW) a1_ ha1_a ha1_b T hO p0_) rfl rfl rfl (by decide) (Nat.le_of_ble_eq_true rfl) (zdal_p dlD_M_join_22 (i := 6) rfl) ?_
      rintro _ N3_ ⟨v4_, rfl, ⟨hv4_a, hv4_b⟩, hsN3_, hp0_N3_⟩
      obtain rfl := hsN3_.eq.symm
      replace hp0_N3_ : ((v4_ = 1 ∧ 0 ≤ a1_ ∧ a1_ < ze Mz 81 26) ∨ (v4_ = 0)) := hp0_N3_
      rcases hp0_N3_ with ⟨rfl, ha10_0_hp0_N3_, ha10_1_hp0_N3_⟩ | rfl
      · skip
        show zW l m_M_join (zn Mz + 0, zw Mz + 0) Mz 13 [some (.ref 81), some (.int (Int32.ofInt a0_)), some (.int (Int32.ofInt a1_))] [.int (Int32.ofInt 1)] (zpI [] [] Mz (fun v N => True))
        refine zr_if_ne (pc := 13) (tgt := 18) ⟨(by decide), (by decide)⟩ (by decide) (zdal_p dlD_M_join_22 (i := 7) rfl) (fun hc_13 => ?_) (fun hc_13 => ?_)
        · skip
          refine zw_aload_n (pc := 18) (n := 0) (x := 81) rfl (zdal_p dlD_M_join_22 (i := 10) rfl) ?_
          refine zw_aload_n (pc := 19) (n := 0) (x := 81) rfl (zdal_p dlD_M_join_22 (i := 11) rfl) ?_
          refine zw_aload_n (pc := 20) (n := 0) (x := 81) rfl (zdal_p dlD_M_join_22 (i := 12) rfl) ?_
          refine zr_getF (r := 91) (hf.w hW) (pc := 21) f_M_44 rfl (zh_91 (hf.w hW)).1 (zdal_p dlD_M_join_22 (i := 13) rfl) ?_
          refine zw_iload_n (pc := 24) (n := 1) (x := Int32.ofInt a0_) rfl (zdal_p dlD_M_join_22 (i := 14) rfl) ?_
          refine zr_ialdn (pc := 25) (zh_91 (hf.w hW)).2 (by decide) (by (exact ha2_0_hp0_N1_)) (by (exact zo_906 gb.2.2.2.2.2 ha0_b ha2_1_hp0_N1_)) (zdal_p dlD_M_join_22 (i := 15) rfl) (fun v5_ hv5_ hv5_a hv5_b => ?_)
          have h1 := dv3.g hO (e := a0_) (by (exact ha2_0_hp0_N1_)) (by (exact ha2_1_hp0_N1_))
          refine zr_toI (show v5_ = ze Mz 91 (a0_).toNat by (exact hv5_)) ?_
          refine zw_aload_n (pc := 26) (n := 0) (x := 81) rfl (zdal_p dlD_M_join_22 (i := 16) rfl) ?_
          refine zr_getF (r := 91) (hf.w hW) (pc := 27) f_M_44 rfl (zh_91 (hf.w hW)).1 (zdal_p dlD_M_join_22 (i := 17) rfl) ?_
          refine zw_iload_n (pc := 30) (n := 2) (x := Int32.ofInt a1_) rfl (zdal_p dlD_M_join_22 (i := 18) rfl) ?_
          refine zr_ialdn (pc := 31) (zh_91 (hf.w hW)).2 (by decide) (by (exact ha10_0_hp0_N3_)) (by (exact zo_837 gb.2.2.2.2.2 ha10_1_hp0_N3_ ha1_b)) (zdal_p dlD_M_join_22 (i := 19) rfl) (fun v6_ hv6_ hv6_a hv6_b => ?_)
          have h2 := dv3.g hO (e := a1_) (by (exact ha10_0_hp0_N3_)) (by (exact ha10_1_hp0_N3_))
          refine zr_toI (show v6_ = ze Mz 91 (a1_).toNat by (exact hv6_)) ?_
          refine zr_ior (pc := 32) (zdal_p dlD_M_join_22 (i := 20) rfl) ?_
          have hr7_ := zor_r (ze Mz 91 (a0_).toNat) (ze Mz 91 (a1_).toNat)
          refine zr_callV (hf.w hW) hf.x (pc := 33) [.int (Int32.ofInt (zor (ze Mz 91 (a0_).toNat) (ze Mz 91 (a1_).toNat)))] [.ref 81] l_M_229 (c_M_closed l Mz (hf.w hW) (zor (ze Mz 91 (a0_).toNat) (ze Mz 91 (a1_).toNat)) (by (exact zo_284 hr7_.1)) (by (exact zo_285 hr7_.2)) T hG dv0 (show gIn T (zor (ze Mz 91 (a0_).toNat) (ze Mz 91 (a1_).toNat)) by exact gIn_o hG (h1.1.i hO) (h2.1.i hO))) rfl rfl rfl (by decide) (Nat.le_of_ble_eq_true rfl) (zdal_p dlD_M_join_22 (i := 21) rfl) ?_
          rintro _ N8_ ⟨v9_, rfl, ⟨hv9_a, hv9_b⟩, hsN8_, ⟨hp0_N8_, hp1_N8_, hp2_N8_⟩⟩
          obtain rfl := hsN8_.eq.symm
          show zW l m_M_join (zn Mz + 0, zw Mz + 0) Mz 36 [some (.ref 81), some (.int (Int32.ofInt a0_)), some (.int (Int32.ofInt a1_))] [.int (Int32.ofInt v9_), .ref 81] (zpI [] [] Mz (fun v N => True))
          have hm_Mz := gMe_c hO hp0_N8_ (by (exact hp1_N8_))
          refine zr_callV (hf.w hW) hf.x (pc := 36) [.int (Int32.ofInt v9_)] [] l_M_411 (c_M_sortOfSet l Mz (hf.w hW) v9_ hv9_a hv9_b T hO p0_ (show gMe T v9_ by first | with_reducible assumption | assumption)) rfl rfl rfl (by decide) (Nat.le_of_ble_eq_true rfl) (zdal_p dlD_M_join_22 (i := 22) rfl) ?_
          rintro _ N10_ ⟨v11_, rfl, ⟨hv11_a, hv11_b⟩, hsN10_, ⟨hp0_N10_, hp1_N10_⟩⟩
          obtain rfl := hsN10_.eq.symm
          show zW l m_M_join (zn Mz + 0, zw Mz + 0) Mz 39 [some (.ref 81), some (.int (Int32.ofInt a0_)), some (.int (Int32.ofInt a1_))] [.int (Int32.ofInt v11_)] (zpI [] [] Mz (fun v N => True))
          exact zr_iret (pc := 39) (ty := .int) rfl rfl ⟨by (exact hv11_a), by (exact hv11_b)⟩ hf trivial (zdal_p dlD_M_join_22 (i := 23) rfl)
        · skip
          exact absurd hc_13 (by decide)
      · skip
        show zW l m_M_join (zn Mz + 0, zw Mz + 0) Mz 13 [some (.ref 81), some (.int (Int32.ofInt a0_)), some (.int (Int32.ofInt a1_))] [.int (Int32.ofInt 0)] (zpI [] [] Mz (fun v N => True))
        refine zr_if_ne (pc := 13) (tgt := 18) ⟨(by decide), (by decide)⟩ (by decide) (zdal_p dlD_M_join_22 (i := 7) rfl) (fun hc_13 => ?_) (fun hc_13 => ?_)
        · skip
          exact absurd hc_13 (by decide)
        · skip
          refine zw_iconst (pc := 16) (v := Int32.ofInt (-1)) (by decide) (zdal_p dlD_M_join_22 (i := 8) rfl) ?_
          exact zr_iret (pc := 17) (ty := .int) rfl rfl ⟨by (decide), by (decide)⟩ hf trivial (zdal_p dlD_M_join_22 (i := 9) rfl)
  · skip
    show zW l m_M_join (zn Mz + 0, zw Mz + 0) Mz 5 [some (.ref 81), some (.int (Int32.ofInt a0_)), some (.int (Int32.ofInt a1_))] [.int (Int32.ofInt 0)] (zpI [] [] Mz (fun v N => True))
    refine zr_if_eq (pc := 5) (tgt := 16) ⟨(by decide), (by decide)⟩ (by decide) (zdal_p dlD_M_join_22 (i := 3) rfl) (fun hc_5 => ?_) (fun hc_5 => ?_)
    · skip
      refine zw_iconst (pc := 16) (v := Int32.ofInt (-1)) (by decide) (zdal_p dlD_M_join_22 (i := 8) rfl) ?_
      exact zr_iret (pc := 17) (ty := .int) rfl rfl ⟨by (decide), by (decide)⟩ hf trivial (zdal_p dlD_M_join_22 (i := 9) rfl)
    · skip
      exact absurd hc_5 (by decide)
set_option maxHeartbeats 4000000 in
theorem c_M_isOfOne (l : Launch) (Mz : zMem) (hW : zMt Mz) (a0_ : Int) (ha0_a : -2147483648 ≤ a0_) (ha0_b : a0_ < 2147483648) (T : zGT) (hO : gOK T) (p0_ : zGB T Mz) (p1_ : 0 ≤ a0_) : zC l m_M_isOfOne 0 0 [.ref 81, .int (Int32.ofInt a0_)] Mz (zpI [] [] Mz (fun v N => ((v = 0 ∨ v = 1)))) := by
  refine zC_of (L0 := [some (.ref 81), some (.int (Int32.ofInt a0_)), none]) md_M_isOfOne (Nat.le_of_ble_eq_true rfl) rfl ?_ zQ0
  have hf : zFr [] [] Mz Mz := zFr.rf
  have r_20 := ze_r Mz 81 20
  have hG := hO.1
  have g24 := hG.2.1
  have g1 := hG.1
  have dv0 : zTab T Mz := p0_.1
  have dv1 : zB 85 144 0 5 Mz := p0_.2.1
  have dv2 : zJX T Mz := p0_.2.2.1
  have dv3 : zFirs T Mz := p0_.2.2.2.1
  have dv4 : zSSm T Mz := p0_.2.2.2.2.1
  have dv5 : zGD Mz := zGB.d hO p0_
  have gb := dv5.1
  have gn := dv0.1
  refine zw_iconst (pc := 0) (v := Int32.ofInt 0) (by decide) (zdal_p dlD_M_isOfOne_20 (i := 0) rfl) ?_
  refine zw_istore_n (pc := 1) (i := 2) (L2 := [some (.ref 81), some (.int (Int32.ofInt a0_)), some (.int (Int32.ofInt 0))]) rfl (by decide) rfl (zdal_p dlD_M_isOfOne_20 (i := 1) rfl) ?_
  have lp_2 : ∀ (n : Nat) (u1_ : Int) (hu1_a : -2147483648 ≤ u1_) (hu1_b : u1_ < 2147483648) (i2_ : 0 ≤ u1_), (ze Mz 81 20 - u1_).toNat < n → zW l m_M_isOfOne (zn Mz + 0, zw Mz + 0) Mz 2 [some (.ref 81), some (.int (Int32.ofInt a0_)), some (.int (Int32.ofInt u1_))] [] (zpI [] [] Mz (fun v N => ((v = 0 ∨ v = 1)))) := by
    intro n
    induction n with
    | zero =>
      intro u1_ hu1_a hu1_b i2_ h0
      exact absurd h0 (Nat.not_lt_zero _)
    | succ n ih_2 =>
      intro u1_ hu1_a hu1_b i2_ hlt_2
      refine zw_iload_n (pc := 2) (n := 2) (x := Int32.ofInt u1_) rfl (zdal_p dlD_M_isOfOne_20 (i := 2) rfl) ?_
      refine zw_aload_n (pc := 3) (n := 0) (x := 81) rfl (zdal_p dlD_M_isOfOne_20 (i := 3) rfl) ?_
      refine zr_getI0 hf hW (pc := 4) (by decide) f_M_196 rfl (zdal_p dlD_M_isOfOne_20 (i := 4) rfl) ?_
      refine zr_icmp_ge (pc := 7) (tgt := 37) ⟨hu1_a, hu1_b⟩ ⟨(ze_r Mz 81 20).1, (ze_r Mz 81 20).2⟩ (by decide) (zdal_p dlD_M_isOfOne_20 (i := 5) rfl) (fun hc_7 => ?_) (fun hc_7 => ?_)
      · skip
        refine zw_iconst (pc := 37) (v := Int32.ofInt 0) (by decide) (zdal_p dlD_M_isOfOne_20 (i := 21) rfl) ?_
        exact zr_iret (pc := 38) (ty := .boolean) rfl (z_narB (by (decide))) ⟨by (decide), by (decide)⟩ hf (show (0 = 0 ∨ 0 = 1) by first | with_reducible assumption | (decide) | assumption) (zdal_p dlD_M_isOfOne_20 (i := 22) rfl)
      · skip
        refine zw_iload_n (pc := 10) (n := 1) (x := Int32.ofInt a0_) rfl (zdal_p dlD_M_isOfOne_20 (i := 6) rfl) ?_
        refine zw_iload_n (pc := 11) (n := 2) (x := Int32.ofInt u1_) rfl (zdal_p dlD_M_isOfOne_20 (i := 7) rfl) ?_
        refine zr_callS hf.x (pc := 12) [.int (Int32.ofInt a0_), .int (Int32.ofInt u1_)] [] l_M_213 (c_M_holds l Mz (hf.w hW) a0_ ha0_a ha0_b u1_ hu1_a hu1_b (show 0 ≤ a0_ by first | with_reducible assumption | assumption | omega) (show 0 ≤ u1_ by first | with_reducible assumption | assumption | omega) (show u1_ < 32 by first | with_reducible assumption | (exact zo_918 gb.2.1 hc_7) | assumption)) rfl rfl (by decide) (Nat.le_of_ble_eq_true rfl) (zdal_p dlD_M_isOfOne_20 (i := 8) rfl) ?_
        rintro _ N3_ ⟨v4_, rfl, ⟨hv4_a, hv4_b⟩, hsN3_, hp0_N3_⟩
        obtain rfl := hsN3_.eq.symm
        replace hp0_N3_ : ((v4_ = 1 ∧ zbt a0_ u1_) ∨ (v4_ = 0 ∧ ¬ zbt a0_ u1_)) := hp0_N3_
        rcases hp0_N3_ with ⟨rfl, ha12_0_hp0_N3_⟩ | ⟨rfl, ha12_0_hp0_N3_⟩
        · skip
          show zW l m_M_isOfOne (zn Mz + 0, zw Mz + 0) Mz 15 [some (.ref 81), some (.int (Int32.ofInt a0_)), some (.int (Int32.ofInt u1_))] [.int (Int32.ofInt 1)] _
          refine zr_if_eq (pc := 15) (tgt := 31) ⟨(by decide), (by decide)⟩ (by decide) (zdal_p dlD_M_isOfOne_20 (i := 9) rfl) (fun hc_15 => ?_) (fun hc_15 => ?_)
          · skip
            exact absurd hc_15 (by decide)
          · skip
            refine zw_aload_n (pc := 18) (n := 0) (x := 81) rfl (zdal_p dlD_M_isOfOne_20 (i := 10) rfl) ?_
            refine zw_iconst (pc := 19) (v := Int32.ofInt 1) (by decide) (zdal_p dlD_M_isOfOne_20 (i := 11) rfl) ?_
            refine zw_iload_n (pc := 20) (n := 2) (x := Int32.ofInt u1_) rfl (zdal_p dlD_M_isOfOne_20 (i := 12) rfl) ?_
            refine zr_ishl (pc := 21) (zdal_p dlD_M_isOfOne_20 (i := 13) rfl) ?_
            have hr5_ := zshl_r 1 u1_
            have hsi := zshl_i hG (k := u1_) (by (exact i2_)) (by (exact zo_1014 gn hc_7))
            refine zr_callV (hf.w hW) hf.x (pc := 22) [.int (Int32.ofInt (zshl 1 u1_))] [] l_M_229 (c_M_closed l Mz (hf.w hW) (zshl 1 u1_) (by (exact zo_168 hsi.2.1)) (by (exact zo_285 hr5_.2)) T hG dv0 (show gIn T (zshl 1 u1_) by exact hsi.1)) rfl rfl rfl (by decide) (Nat.le_of_ble_eq_true rfl) (zdal_p dlD_M_isOfOne_20 (i := 14) rfl) ?_
            rintro _ N6_ ⟨v7_, rfl, ⟨hv7_a, hv7_b⟩, hsN6_, ⟨hp0_N6_, hp1_N6_, hp2_N6_⟩⟩
            obtain rfl := hsN6_.eq.symm
            show zW l m_M_isOfOne (zn Mz + 0, zw Mz + 0) Mz 25 [some (.ref 81), some (.int (Int32.ofInt a0_)), some (.int (Int32.ofInt u1_))] [.int (Int32.ofInt v7_)] _
            refine zw_iload_n (pc := 25) (n := 1) (x := Int32.ofInt a0_) rfl (zdal_p dlD_M_isOfOne_20 (i := 15) rfl) ?_
            refine zr_icmp_ne (pc := 26) (tgt := 31) ⟨hv7_a, hv7_b⟩ ⟨ha0_a, ha0_b⟩ (by decide) (zdal_p dlD_M_isOfOne_20 (i := 16) rfl) (fun hc_26 => ?_) (fun hc_26 => ?_)
            · skip
              refine zr_iinc (pc := 31) (i := 2) (a := u1_) (n := 1) (L2 := [some (.ref 81), some (.int (Int32.ofInt a0_)), some (.int (Int32.ofInt (u1_ + 1)))]) rfl (by decide) rfl (zdal_p dlD_M_isOfOne_20 (i := 19) rfl) ?_
              refine zw_goto (pc := 34) (tgt := 2) (by decide) (zdal_p dlD_M_isOfOne_20 (i := 20) rfl) ?_
              exact ih_2 (u1_ + 1) (by (exact zo_74 i2_)) (by (exact zo_919 gb.2.1 hc_7)) (show 0 ≤ (u1_ + 1) by first | with_reducible assumption | (exact zo_76 i2_) | assumption) (by (exact zo_147 hc_7 hlt_2))
            · skip
              refine zw_iconst (pc := 29) (v := Int32.ofInt 1) (by decide) (zdal_p dlD_M_isOfOne_20 (i := 17) rfl) ?_
              exact zr_iret (pc := 30) (ty := .boolean) rfl (z_narB (by (decide))) ⟨by (exact hv4_a), by (exact hv4_b)⟩ hf (show (1 = 0 ∨ 1 = 1) by first | with_reducible assumption | (decide) | assumption) (zdal_p dlD_M_isOfOne_20 (i := 18) rfl)
        · skip
          show zW l m_M_isOfOne (zn Mz + 0, zw Mz + 0) Mz 15 [some (.ref 81), some (.int (Int32.ofInt a0_)), some (.int (Int32.ofInt u1_))] [.int (Int32.ofInt 0)] _
          refine zr_if_eq (pc := 15) (tgt := 31) ⟨(by decide), (by decide)⟩ (by decide) (zdal_p dlD_M_isOfOne_20 (i := 9) rfl) (fun hc_15 => ?_) (fun hc_15 => ?_)
          · skip
            refine zr_iinc (pc := 31) (i := 2) (a := u1_) (n := 1) (L2 := [some (.ref 81), some (.int (Int32.ofInt a0_)), some (.int (Int32.ofInt (u1_ + 1)))]) rfl (by decide) rfl (zdal_p dlD_M_isOfOne_20 (i := 19) rfl) ?_
            refine zw_goto (pc := 34) (tgt := 2) (by decide) (zdal_p dlD_M_isOfOne_20 (i := 20) rfl) ?_
            exact ih_2 (u1_ + 1) (by (exact zo_74 i2_)) (by (exact zo_919 gb.2.1 hc_7)) (show 0 ≤ (u1_ + 1) by first | with_reducible assumption | (exact zo_76 i2_) | assumption) (by (exact zo_147 hc_7 hlt_2))
          · skip
            exact absurd hc_15 (by decide)
  exact lp_2 _ 0 (by decide) (by decide) (show 0 ≤ (0 : Int) by first | with_reducible assumption | (decide) | assumption) (Nat.lt_succ_self _)
set_option maxHeartbeats 4000000 in
theorem c_M_normOf (l : Launch) (Mz : zMem) (hW : zMt Mz) (a0_ : Int) (ha0_a : -2147483648 ≤ a0_) (ha0_b : a0_ < 2147483648) (T : zGT) (hO : gOK T) (p0_ : zGB T Mz) (p1_ : 0 ≤ a0_) (p2_ : a0_ < 16777216) : zC l m_M_normOf 0 0 [.ref 81, .int (Int32.ofInt a0_)] Mz (zpI [] [] Mz (fun v N => gIn T v ∧ 0 ≤ v)) := by
  refine zC_of (L0 := [some (.ref 81), some (.int (Int32.ofInt a0_)), none, none]) md_M_normOf (Nat.le_of_ble_eq_true rfl) rfl ?_ zQ0
  have hf : zFr [] [] Mz Mz := zFr.rf
  have r_20 := ze_r Mz 81 20
  have hG := hO.1
  have g24 := hG.2.1
  have g1 := hG.1
  have dv0 : zTab T Mz := p0_.1
  have dv1 : zB 85 144 0 5 Mz := p0_.2.1
  have dv2 : zJX T Mz := p0_.2.2.1
  have dv3 : zFirs T Mz := p0_.2.2.2.1
  have dv4 : zSSm T Mz := p0_.2.2.2.2.1
  have dv5 : zGD Mz := zGB.d hO p0_
  have gb := dv5.1
  have gn := dv0.1
  refine zw_iconst (pc := 0) (v := Int32.ofInt 0) (by decide) (zdal_p dlD_M_normOf_18 (i := 0) rfl) ?_
  refine zw_istore_n (pc := 1) (i := 2) (L2 := [some (.ref 81), some (.int (Int32.ofInt a0_)), some (.int (Int32.ofInt 0)), none]) rfl (by decide) rfl (zdal_p dlD_M_normOf_18 (i := 1) rfl) ?_
  refine zw_iconst (pc := 2) (v := Int32.ofInt 0) (by decide) (zdal_p dlD_M_normOf_18 (i := 2) rfl) ?_
  refine zw_istore_n (pc := 3) (i := 3) (L2 := [some (.ref 81), some (.int (Int32.ofInt a0_)), some (.int (Int32.ofInt 0)), some (.int (Int32.ofInt 0))]) rfl (by decide) rfl (zdal_p dlD_M_normOf_18 (i := 3) rfl) ?_
  have lp_4 : ∀ (n : Nat) (u1_ : Int) (hu1_a : -2147483648 ≤ u1_) (hu1_b : u1_ < 2147483648) (u2_ : Int) (hu2_a : -2147483648 ≤ u2_) (hu2_b : u2_ < 2147483648) (i3_ : 0 ≤ u2_) (i4_ : gIn T u1_), (ze Mz 81 20 - u2_).toNat < n → zW l m_M_normOf (zn Mz + 0, zw Mz + 0) Mz 4 [some (.ref 81), some (.int (Int32.ofInt a0_)), some (.int (Int32.ofInt u1_)), some (.int (Int32.ofInt u2_))] [] (zpI [] [] Mz (fun v N => gIn T v ∧ 0 ≤ v)) := by
    intro n
    induction n with
    | zero =>
      intro u1_ hu1_a hu1_b u2_ hu2_a hu2_b i3_ i4_ h0
      exact absurd h0 (Nat.not_lt_zero _)
    | succ n ih_4 =>
      intro u1_ hu1_a hu1_b u2_ hu2_a hu2_b i3_ i4_ hlt_4
      refine zw_iload_n (pc := 4) (n := 3) (x := Int32.ofInt u2_) rfl (zdal_p dlD_M_normOf_18 (i := 4) rfl) ?_
      refine zw_aload_n (pc := 5) (n := 0) (x := 81) rfl (zdal_p dlD_M_normOf_18 (i := 5) rfl) ?_
      refine zr_getI0 hf hW (pc := 6) (by decide) f_M_196 rfl (zdal_p dlD_M_normOf_18 (i := 6) rfl) ?_
      refine zr_icmp_ge (pc := 9) (tgt := 41) ⟨hu2_a, hu2_b⟩ ⟨(ze_r Mz 81 20).1, (ze_r Mz 81 20).2⟩ (by decide) (zdal_p dlD_M_normOf_18 (i := 7) rfl) (fun hc_9 => ?_) (fun hc_9 => ?_)
      · skip
        refine zw_iload_n (pc := 41) (n := 2) (x := Int32.ofInt u1_) rfl (zdal_p dlD_M_normOf_19 (i := 1) rfl) ?_
        exact zr_iret (pc := 42) (ty := .int) rfl rfl ⟨by (exact hu1_a), by (exact hu1_b)⟩ hf ⟨(show gIn T u1_ by first | with_reducible assumption | assumption | omega), (show 0 ≤ u1_ by exact (show gIn T u1_ by first | with_reducible assumption | assumption).1)⟩ (zdal_p dlD_M_normOf_19 (i := 2) rfl)
      · skip
        refine zw_iload_n (pc := 12) (n := 2) (x := Int32.ofInt u1_) rfl (zdal_p dlD_M_normOf_18 (i := 8) rfl) ?_
        refine zw_aload_n (pc := 13) (n := 0) (x := 81) rfl (zdal_p dlD_M_normOf_18 (i := 9) rfl) ?_
        refine zw_iload_n (pc := 14) (n := 1) (x := Int32.ofInt a0_) rfl (zdal_p dlD_M_normOf_18 (i := 10) rfl) ?_
        refine zw_iload_n (pc := 15) (n := 3) (x := Int32.ofInt u2_) rfl (zdal_p dlD_M_normOf_18 (i := 11) rfl) ?_
        refine zr_callV (hf.w hW) hf.x (pc := 16) [.int (Int32.ofInt a0_), .int (Int32.ofInt u2_)] [.int (Int32.ofInt u1_)] l_M_223 (c_M_turned l Mz (hf.w hW) a0_ ha0_a ha0_b u2_ hu2_a hu2_b T hG dv0 (show 0 ≤ a0_ by first | with_reducible assumption | assumption | omega) (show 0 ≤ u2_ by first | with_reducible assumption | assumption | omega) (show u2_ < ze Mz 81 20 by first | with_reducible assumption | assumption | omega)) rfl rfl rfl (by decide) (Nat.le_of_ble_eq_true rfl) (zdal_p dlD_M_normOf_18 (i := 12) rfl) ?_
        rintro _ N5_ ⟨v6_, rfl, ⟨hv6_a, hv6_b⟩, hsN5_, ⟨hp0_N5_, hp1_N5_, hp2_N5_⟩⟩
        obtain rfl := hsN5_.eq.symm
        show zW l m_M_normOf (zn Mz + 0, zw Mz + 0) Mz 19 [some (.ref 81), some (.int (Int32.ofInt a0_)), some (.int (Int32.ofInt u1_)), some (.int (Int32.ofInt u2_))] [.int (Int32.ofInt v6_), .int (Int32.ofInt u1_)] _
        refine zw_iload_n (pc := 19) (n := 1) (x := Int32.ofInt a0_) rfl (zdal_p dlD_M_normOf_18 (i := 13) rfl) ?_
        refine zr_icmp_ne (pc := 20) (tgt := 27) ⟨hv6_a, hv6_b⟩ ⟨ha0_a, ha0_b⟩ (by decide) (zdal_p dlD_M_normOf_18 (i := 14) rfl) (fun hc_20 => ?_) (fun hc_20 => ?_)
        · skip
          refine zw_iconst (pc := 27) (v := Int32.ofInt 0) (by decide) (zdal_p dlD_M_normOf_18 (i := 17) rfl) ?_
          refine zr_callS hf.x (pc := 28) [.int (Int32.ofInt 0)] [.int (Int32.ofInt u1_)] l_M_256 (c_M_truth l Mz (hf.w hW) 0 (by decide) (by decide) (by (decide))) rfl rfl (by decide) (Nat.le_of_ble_eq_true rfl) (zdal_p dlD_M_normOf_18 (i := 18) rfl) ?_
          rintro _ N7_ ⟨v8_, rfl, ⟨hv8_a, hv8_b⟩, hsN7_, hp0_N7_⟩
          obtain rfl := hsN7_.eq.symm
          replace hp0_N7_ : v8_ = 0 := hp0_N7_
          show zW l m_M_normOf (zn Mz + 0, zw Mz + 0) Mz 31 [some (.ref 81), some (.int (Int32.ofInt a0_)), some (.int (Int32.ofInt u1_)), some (.int (Int32.ofInt u2_))] [.int (Int32.ofInt v8_), .int (Int32.ofInt u1_)] _
          refine zw_iload_n (pc := 31) (n := 3) (x := Int32.ofInt u2_) rfl (zdal_p dlD_M_normOf_18 (i := 19) rfl) ?_
          refine zr_ishl (pc := 32) (zdal_p dlD_M_normOf_18 (i := 20) rfl) ?_
          have hr9_ := zshl_r v8_ u2_
          refine zr_ior (pc := 33) (zdal_p dlD_M_normOf_18 (i := 21) rfl) ?_
          have hr10_ := zor_r u1_ (zshl v8_ u2_)
          refine zw_istore_n (pc := 34) (i := 2) (L2 := [some (.ref 81), some (.int (Int32.ofInt a0_)), some (.int (Int32.ofInt (zor u1_ (zshl v8_ u2_)))), some (.int (Int32.ofInt u2_))]) rfl (by decide) rfl (zdal_p dlD_M_normOf_18 (i := 22) rfl) ?_
          refine zr_iinc (pc := 35) (i := 3) (a := u2_) (n := 1) (L2 := [some (.ref 81), some (.int (Int32.ofInt a0_)), some (.int (Int32.ofInt (zor u1_ (zshl v8_ u2_)))), some (.int (Int32.ofInt (u2_ + 1)))]) rfl (by decide) rfl (zdal_p dlD_M_normOf_18 (i := 23) rfl) ?_
          refine zw_goto (pc := 38) (tgt := 4) (by decide) (zdal_p dlD_M_normOf_19 (i := 0) rfl) ?_
          exact ih_4 (zor u1_ (zshl v8_ u2_)) (by (exact zo_284 hr10_.1)) (by (exact zo_285 hr10_.2)) (u2_ + 1) (by (exact zo_74 i3_)) (by (exact zo_919 gb.2.1 hc_9)) (show 0 ≤ (u2_ + 1) by first | with_reducible assumption | (exact zo_76 i3_) | assumption) (show gIn T (zor u1_ (zshl v8_ u2_)) by exact gIn_t hG (by first | with_reducible assumption | assumption) (by omega) (by (exact i3_)) (by (exact zo_1014 gn hc_9))) (by (exact zo_147 hc_9 hlt_4))
        · skip
          refine zw_iconst (pc := 23) (v := Int32.ofInt 1) (by decide) (zdal_p dlD_M_normOf_18 (i := 15) rfl) ?_
          refine zw_goto (pc := 24) (tgt := 28) (by decide) (zdal_p dlD_M_normOf_18 (i := 16) rfl) ?_
          refine zr_callS hf.x (pc := 28) [.int (Int32.ofInt 1)] [.int (Int32.ofInt u1_)] l_M_256 (c_M_truth l Mz (hf.w hW) 1 (by decide) (by decide) (by (decide))) rfl rfl (by decide) (Nat.le_of_ble_eq_true rfl) (zdal_p dlD_M_normOf_18 (i := 18) rfl) ?_
          rintro _ N11_ ⟨v12_, rfl, ⟨hv12_a, hv12_b⟩, hsN11_, hp0_N11_⟩
          obtain rfl := hsN11_.eq.symm
          replace hp0_N11_ : v12_ = 1 := hp0_N11_
          show zW l m_M_normOf (zn Mz + 0, zw Mz + 0) Mz 31 [some (.ref 81), some (.int (Int32.ofInt a0_)), some (.int (Int32.ofInt u1_)), some (.int (Int32.ofInt u2_))] [.int (Int32.ofInt v12_), .int (Int32.ofInt u1_)] _
          refine zw_iload_n (pc := 31) (n := 3) (x := Int32.ofInt u2_) rfl (zdal_p dlD_M_normOf_18 (i := 19) rfl) ?_
          refine zr_ishl (pc := 32) (zdal_p dlD_M_normOf_18 (i := 20) rfl) ?_
          have hr13_ := zshl_r v12_ u2_
          refine zr_ior (pc := 33) (zdal_p dlD_M_normOf_18 (i := 21) rfl) ?_
          have hr14_ := zor_r u1_ (zshl v12_ u2_)
          refine zw_istore_n (pc := 34) (i := 2) (L2 := [some (.ref 81), some (.int (Int32.ofInt a0_)), some (.int (Int32.ofInt (zor u1_ (zshl v12_ u2_)))), some (.int (Int32.ofInt u2_))]) rfl (by decide) rfl (zdal_p dlD_M_normOf_18 (i := 22) rfl) ?_
          refine zr_iinc (pc := 35) (i := 3) (a := u2_) (n := 1) (L2 := [some (.ref 81), some (.int (Int32.ofInt a0_)), some (.int (Int32.ofInt (zor u1_ (zshl v12_ u2_)))), some (.int (Int32.ofInt (u2_ + 1)))]) rfl (by decide) rfl (zdal_p dlD_M_normOf_18 (i := 23) rfl) ?_
          refine zw_goto (pc := 38) (tgt := 4) (by decide) (zdal_p dlD_M_normOf_19 (i := 0) rfl) ?_
          exact ih_4 (zor u1_ (zshl v12_ u2_)) (by (exact zo_284 hr14_.1)) (by (exact zo_285 hr14_.2)) (u2_ + 1) (by (exact zo_74 i3_)) (by (exact zo_919 gb.2.1 hc_9)) (show 0 ≤ (u2_ + 1) by first | with_reducible assumption | (exact zo_76 i3_) | assumption) (show gIn T (zor u1_ (zshl v12_ u2_)) by exact gIn_t hG (by first | with_reducible assumption | assumption) (by omega) (by (exact i3_)) (by (exact zo_1014 gn hc_9))) (by (exact zo_147 hc_9 hlt_4))
  exact lp_4 _ 0 (by decide) (by decide) 0 (by decide) (by decide) (show 0 ≤ (0 : Int) by first | with_reducible assumption | (decide) | assumption) (show gIn T (0 : Int) by exact gIn_0 T) (Nat.lt_succ_self _)
set_option maxHeartbeats 4000000 in
theorem c_M_mark (l : Launch) (Mz : zMem) (hW : zMt Mz) (a0_ : Int) (ha0_a : -2147483648 ≤ a0_) (ha0_b : a0_ < 2147483648) (a1_ : Int) (ha1_a : -2147483648 ≤ a1_) (ha1_b : a1_ < 2147483648) (T : zGT) (hO : gOK T) (p0_ : zGB T Mz) : zC l m_M_mark 0 0 [.ref 81, .int (Int32.ofInt a0_), .int (Int32.ofInt a1_)] Mz (zpI [] [] Mz (fun v N => True)) := by
  refine zC_of (L0 := [some (.ref 81), some (.int (Int32.ofInt a0_)), some (.int (Int32.ofInt a1_))]) md_M_mark (Nat.le_of_ble_eq_true rfl) rfl ?_ zQ0
  have hf : zFr [] [] Mz Mz := zFr.rf
  have r_26 := ze_r Mz 81 26
  have hG := hO.1
  have g24 := hG.2.1
  have g1 := hG.1
  have dv0 : zTab T Mz := p0_.1
  have dv1 : zB 85 144 0 5 Mz := p0_.2.1
  have dv2 : zJX T Mz := p0_.2.2.1
  have dv3 : zFirs T Mz := p0_.2.2.2.1
  have dv4 : zSSm T Mz := p0_.2.2.2.2.1
  have dv5 : zGD Mz := zGB.d hO p0_
  have gb := dv5.1
  have gn := dv0.1
  refine zw_aload_n (pc := 0) (n := 0) (x := 81) rfl (zdal_p dlD_M_mark_25 (i := 0) rfl) ?_
  refine zw_iload_n (pc := 1) (n := 1) (x := Int32.ofInt a0_) rfl (zdal_p dlD_M_mark_25 (i := 1) rfl) ?_
  refine zr_callV (hf.w hW) hf.x (pc := 2) [.int (Int32.ofInt a0_)] [] l_M_414 (c_M_isSort l Mz (hf.w hW) a0_ ha0_a ha0_b T hO p0_) rfl rfl rfl (by decide) (Nat.le_of_ble_eq_true rfl) (zdal_p dlD_M_mark_25 (i := 2) rfl) ?_
  rintro _ N1_ ⟨v2_, rfl, ⟨hv2_a, hv2_b⟩, hsN1_, hp0_N1_⟩
  obtain rfl := hsN1_.eq.symm
  replace hp0_N1_ : ((v2_ = 1 ∧ 0 ≤ a0_ ∧ a0_ < ze Mz 81 26) ∨ (v2_ = 0)) := hp0_N1_
  rcases hp0_N1_ with ⟨rfl, ha2_0_hp0_N1_, ha2_1_hp0_N1_⟩ | rfl
  · skip
    show zW l m_M_mark (zn Mz + 0, zw Mz + 0) Mz 5 [some (.ref 81), some (.int (Int32.ofInt a0_)), some (.int (Int32.ofInt a1_))] [.int (Int32.ofInt 1)] (zpI [] [] Mz (fun v N => True))
    refine zr_if_eq (pc := 5) (tgt := 30) ⟨(by decide), (by decide)⟩ (by decide) (zdal_p dlD_M_mark_25 (i := 3) rfl) (fun hc_5 => ?_) (fun hc_5 => ?_)
    · skip
      exact absurd hc_5 (by decide)
    · skip
      refine zw_aload_n (pc := 8) (n := 0) (x := 81) rfl (zdal_p dlD_M_mark_25 (i := 4) rfl) ?_
      refine zw_iload_n (pc := 9) (n := 2) (x := Int32.ofInt a1_) rfl (zdal_p dlD_M_mark_25 (i := 5) rfl) ?_
      refine zr_callV (hf.w hW) hf.x (pc := 10) [.int (Int32.ofInt a1_)] [] l_M_414 (c_M_isSort l Mz (hf.w hW) a1_ ha1_a ha1_b T hO p0_) rfl rfl rfl (by decide) (Nat.le_of_ble_eq_true rfl) (zdal_p dlD_M_mark_25 (i := 6) rfl) ?_
      rintro _ N3_ ⟨v4_, rfl, ⟨hv4_a, hv4_b⟩, hsN3_, hp0_N3_⟩
      obtain rfl := hsN3_.eq.symm
      replace hp0_N3_ : ((v4_ = 1 ∧ 0 ≤ a1_ ∧ a1_ < ze Mz 81 26) ∨ (v4_ = 0)) := hp0_N3_
      rcases hp0_N3_ with ⟨rfl, ha10_0_hp0_N3_, ha10_1_hp0_N3_⟩ | rfl
      · skip
        show zW l m_M_mark (zn Mz + 0, zw Mz + 0) Mz 13 [some (.ref 81), some (.int (Int32.ofInt a0_)), some (.int (Int32.ofInt a1_))] [.int (Int32.ofInt 1)] (zpI [] [] Mz (fun v N => True))
        refine zr_if_eq (pc := 13) (tgt := 30) ⟨(by decide), (by decide)⟩ (by decide) (zdal_p dlD_M_mark_25 (i := 7) rfl) (fun hc_13 => ?_) (fun hc_13 => ?_)
        · skip
          exact absurd hc_13 (by decide)
        · skip
          refine zw_aload_n (pc := 16) (n := 0) (x := 81) rfl (zdal_p dlD_M_mark_25 (i := 8) rfl) ?_
          refine zr_getF (r := 93) (hf.w hW) (pc := 17) f_M_50 rfl (zh_93 (hf.w hW)).1 (zdal_p dlD_M_mark_25 (i := 9) rfl) ?_
          refine zw_bipush (pc := 20) (v := Int32.ofInt 64) (by decide) (zdal_p dlD_M_mark_25 (i := 10) rfl) ?_
          refine zw_iload_n (pc := 22) (n := 1) (x := Int32.ofInt a0_) rfl (zdal_p dlD_M_mark_25 (i := 11) rfl) ?_
          refine zr_imul (pc := 23) (zdal_p dlD_M_mark_25 (i := 12) rfl) ?_
          refine zw_iload_n (pc := 24) (n := 2) (x := Int32.ofInt a1_) rfl (zdal_p dlD_M_mark_25 (i := 13) rfl) ?_
          refine zr_iadd (pc := 25) (zdal_p dlD_M_mark_25 (i := 14) rfl) ?_
          refine zr_ialdn (pc := 26) (zh_93 (hf.w hW)).2 (by decide) (by (exact zo_908 ha10_0_hp0_N3_ ha2_0_hp0_N1_)) (by omega) (zdal_p dlD_M_mark_25 (i := 15) rfl) (fun v5_ hv5_ hv5_a hv5_b => ?_)
          refine zw_goto (pc := 27) (tgt := 31) (by decide) (zdal_p dlD_M_mark_25 (i := 16) rfl) ?_
          exact zr_iret (pc := 31) (ty := .int) rfl rfl ⟨by (exact hv5_a), by (exact hv5_b)⟩ hf trivial (zdal_p dlD_M_mark_25 (i := 18) rfl)
      · skip
        show zW l m_M_mark (zn Mz + 0, zw Mz + 0) Mz 13 [some (.ref 81), some (.int (Int32.ofInt a0_)), some (.int (Int32.ofInt a1_))] [.int (Int32.ofInt 0)] (zpI [] [] Mz (fun v N => True))
        refine zr_if_eq (pc := 13) (tgt := 30) ⟨(by decide), (by decide)⟩ (by decide) (zdal_p dlD_M_mark_25 (i := 7) rfl) (fun hc_13 => ?_) (fun hc_13 => ?_)
        · skip
          refine zw_iconst (pc := 30) (v := Int32.ofInt (-1)) (by decide) (zdal_p dlD_M_mark_25 (i := 17) rfl) ?_
          exact zr_iret (pc := 31) (ty := .int) rfl rfl ⟨by (decide), by (decide)⟩ hf trivial (zdal_p dlD_M_mark_25 (i := 18) rfl)
        · skip
          exact absurd hc_13 (by decide)
  · skip
    show zW l m_M_mark (zn Mz + 0, zw Mz + 0) Mz 5 [some (.ref 81), some (.int (Int32.ofInt a0_)), some (.int (Int32.ofInt a1_))] [.int (Int32.ofInt 0)] (zpI [] [] Mz (fun v N => True))
    refine zr_if_eq (pc := 5) (tgt := 30) ⟨(by decide), (by decide)⟩ (by decide) (zdal_p dlD_M_mark_25 (i := 3) rfl) (fun hc_5 => ?_) (fun hc_5 => ?_)
    · skip
      refine zw_iconst (pc := 30) (v := Int32.ofInt (-1)) (by decide) (zdal_p dlD_M_mark_25 (i := 17) rfl) ?_
      exact zr_iret (pc := 31) (ty := .int) rfl rfl ⟨by (decide), by (decide)⟩ hf trivial (zdal_p dlD_M_mark_25 (i := 18) rfl)
    · skip
      exact absurd hc_5 (by decide)
set_option maxHeartbeats 4000000 in
theorem c_M_coset (l : Launch) (Mz : zMem) (hW : zMt Mz) (a0_ : Int) (ha0_a : -2147483648 ≤ a0_) (ha0_b : a0_ < 2147483648) (a1_ : Int) (ha1_a : -2147483648 ≤ a1_) (ha1_b : a1_ < 2147483648) (T : zGT) (hO : gOK T) (p0_ : zGB T Mz) : zC l m_M_coset 0 0 [.ref 81, .int (Int32.ofInt a0_), .int (Int32.ofInt a1_)] Mz (zpI [] [] Mz (fun v N => True)) := by
  refine zC_of (L0 := [some (.ref 81), some (.int (Int32.ofInt a0_)), some (.int (Int32.ofInt a1_))]) md_M_coset (Nat.le_of_ble_eq_true rfl) rfl ?_ zQ0
  have hf : zFr [] [] Mz Mz := zFr.rf
  have r_20 := ze_r Mz 81 20
  have r_26 := ze_r Mz 81 26
  have hG := hO.1
  have g24 := hG.2.1
  have g1 := hG.1
  have dv0 : zTab T Mz := p0_.1
  have dv1 : zB 85 144 0 5 Mz := p0_.2.1
  have dv2 : zJX T Mz := p0_.2.2.1
  have dv3 : zFirs T Mz := p0_.2.2.2.1
  have dv4 : zSSm T Mz := p0_.2.2.2.2.1
  have dv5 : zGD Mz := zGB.d hO p0_
  have gb := dv5.1
  have gn := dv0.1
  refine zw_aload_n (pc := 0) (n := 0) (x := 81) rfl (zdal_p dlD_M_coset_45 (i := 0) rfl) ?_
  refine zw_iload_n (pc := 1) (n := 1) (x := Int32.ofInt a0_) rfl (zdal_p dlD_M_coset_45 (i := 1) rfl) ?_
  refine zr_callV (hf.w hW) hf.x (pc := 2) [.int (Int32.ofInt a0_)] [] l_M_414 (c_M_isSort l Mz (hf.w hW) a0_ ha0_a ha0_b T hO p0_) rfl rfl rfl (by decide) (Nat.le_of_ble_eq_true rfl) (zdal_p dlD_M_coset_45 (i := 2) rfl) ?_
  rintro _ N1_ ⟨v2_, rfl, ⟨hv2_a, hv2_b⟩, hsN1_, hp0_N1_⟩
  obtain rfl := hsN1_.eq.symm
  replace hp0_N1_ : ((v2_ = 1 ∧ 0 ≤ a0_ ∧ a0_ < ze Mz 81 26) ∨ (v2_ = 0)) := hp0_N1_
  rcases hp0_N1_ with ⟨rfl, ha2_0_hp0_N1_, ha2_1_hp0_N1_⟩ | rfl
  · skip
    show zW l m_M_coset (zn Mz + 0, zw Mz + 0) Mz 5 [some (.ref 81), some (.int (Int32.ofInt a0_)), some (.int (Int32.ofInt a1_))] [.int (Int32.ofInt 1)] (zpI [] [] Mz (fun v N => True))
    refine zr_if_eq (pc := 5) (tgt := 30) ⟨(by decide), (by decide)⟩ (by decide) (zdal_p dlD_M_coset_45 (i := 3) rfl) (fun hc_5 => ?_) (fun hc_5 => ?_)
    · skip
      exact absurd hc_5 (by decide)
    · skip
      refine zw_aload_n (pc := 8) (n := 0) (x := 81) rfl (zdal_p dlD_M_coset_45 (i := 4) rfl) ?_
      refine zw_iload_n (pc := 9) (n := 2) (x := Int32.ofInt a1_) rfl (zdal_p dlD_M_coset_45 (i := 5) rfl) ?_
      refine zr_callV (hf.w hW) hf.x (pc := 10) [.int (Int32.ofInt a1_)] [] l_M_400 (c_M_isMember l Mz (hf.w hW) a1_ ha1_a ha1_b T hO p0_) rfl rfl rfl (by decide) (Nat.le_of_ble_eq_true rfl) (zdal_p dlD_M_coset_45 (i := 6) rfl) ?_
      rintro _ N3_ ⟨v4_, rfl, ⟨hv4_a, hv4_b⟩, hsN3_, hp0_N3_⟩
      obtain rfl := hsN3_.eq.symm
      replace hp0_N3_ : ((v4_ = 1 ∧ 0 ≤ a1_ ∧ a1_ < ze Mz 81 20) ∨ (v4_ = 0)) := hp0_N3_
      rcases hp0_N3_ with ⟨rfl, ha10_0_hp0_N3_, ha10_1_hp0_N3_⟩ | rfl
      · skip
        show zW l m_M_coset (zn Mz + 0, zw Mz + 0) Mz 13 [some (.ref 81), some (.int (Int32.ofInt a0_)), some (.int (Int32.ofInt a1_))] [.int (Int32.ofInt 1)] (zpI [] [] Mz (fun v N => True))
        refine zr_if_eq (pc := 13) (tgt := 30) ⟨(by decide), (by decide)⟩ (by decide) (zdal_p dlD_M_coset_45 (i := 7) rfl) (fun hc_13 => ?_) (fun hc_13 => ?_)
        · skip
          exact absurd hc_13 (by decide)
        · skip
          refine zw_aload_n (pc := 16) (n := 0) (x := 81) rfl (zdal_p dlD_M_coset_45 (i := 8) rfl) ?_
          refine zr_getF (r := 94) (hf.w hW) (pc := 17) f_M_53 rfl (zh_94 (hf.w hW)).1 (zdal_p dlD_M_coset_45 (i := 9) rfl) ?_
          refine zw_bipush (pc := 20) (v := Int32.ofInt 24) (by decide) (zdal_p dlD_M_coset_45 (i := 10) rfl) ?_
          refine zw_iload_n (pc := 22) (n := 1) (x := Int32.ofInt a0_) rfl (zdal_p dlD_M_coset_45 (i := 11) rfl) ?_
          refine zr_imul (pc := 23) (zdal_p dlD_M_coset_45 (i := 12) rfl) ?_
          refine zw_iload_n (pc := 24) (n := 2) (x := Int32.ofInt a1_) rfl (zdal_p dlD_M_coset_45 (i := 13) rfl) ?_
          refine zr_iadd (pc := 25) (zdal_p dlD_M_coset_45 (i := 14) rfl) ?_
          refine zr_ialdn (pc := 26) (zh_94 (hf.w hW)).2 (by decide) (by omega) (by omega) (zdal_p dlD_M_coset_45 (i := 15) rfl) (fun v5_ hv5_ hv5_a hv5_b => ?_)
          refine zw_goto (pc := 27) (tgt := 31) (by decide) (zdal_p dlD_M_coset_45 (i := 16) rfl) ?_
          exact zr_iret (pc := 31) (ty := .int) rfl rfl ⟨by (exact hv5_a), by (exact hv5_b)⟩ hf trivial (zdal_p dlD_M_coset_45 (i := 18) rfl)
      · skip
        show zW l m_M_coset (zn Mz + 0, zw Mz + 0) Mz 13 [some (.ref 81), some (.int (Int32.ofInt a0_)), some (.int (Int32.ofInt a1_))] [.int (Int32.ofInt 0)] (zpI [] [] Mz (fun v N => True))
        refine zr_if_eq (pc := 13) (tgt := 30) ⟨(by decide), (by decide)⟩ (by decide) (zdal_p dlD_M_coset_45 (i := 7) rfl) (fun hc_13 => ?_) (fun hc_13 => ?_)
        · skip
          refine zw_iconst (pc := 30) (v := Int32.ofInt (-1)) (by decide) (zdal_p dlD_M_coset_45 (i := 17) rfl) ?_
          exact zr_iret (pc := 31) (ty := .int) rfl rfl ⟨by (decide), by (decide)⟩ hf trivial (zdal_p dlD_M_coset_45 (i := 18) rfl)
        · skip
          exact absurd hc_13 (by decide)
  · skip
    show zW l m_M_coset (zn Mz + 0, zw Mz + 0) Mz 5 [some (.ref 81), some (.int (Int32.ofInt a0_)), some (.int (Int32.ofInt a1_))] [.int (Int32.ofInt 0)] (zpI [] [] Mz (fun v N => True))
    refine zr_if_eq (pc := 5) (tgt := 30) ⟨(by decide), (by decide)⟩ (by decide) (zdal_p dlD_M_coset_45 (i := 3) rfl) (fun hc_5 => ?_) (fun hc_5 => ?_)
    · skip
      refine zw_iconst (pc := 30) (v := Int32.ofInt (-1)) (by decide) (zdal_p dlD_M_coset_45 (i := 17) rfl) ?_
      exact zr_iret (pc := 31) (ty := .int) rfl rfl ⟨by (decide), by (decide)⟩ hf trivial (zdal_p dlD_M_coset_45 (i := 18) rfl)
    · skip
      exact absurd hc_5 (by decide)
set_option maxHeartbeats 4000000 in
theorem c_M_takes (l : Launch) (Mz : zMem) (hW : zMt Mz) (a0_ : Int) (ha0_a : -2147483648 ≤ a0_) (ha0_b : a0_ < 2147483648) (a1_ : Int) (ha1_a : -2147483648 ≤ a1_) (ha1_b : a1_ < 2147483648) (a2_ : Int) (ha2_a : -2147483648 ≤ a2_) (ha2_b : a2_ < 2147483648) (T : zGT) (hO : gOK T) (p0_ : zGB T Mz) : zC l m_M_takes 0 0 [.ref 81, .int (Int32.ofInt a0_), .int (Int32.ofInt a1_), .int (Int32.ofInt a2_)] Mz (zpI [] [] Mz (fun v N => True)) := by
  refine zC_of (L0 := [some (.ref 81), some (.int (Int32.ofInt a0_)), some (.int (Int32.ofInt a1_)), some (.int (Int32.ofInt a2_))]) md_M_takes (Nat.le_of_ble_eq_true rfl) rfl ?_ zQ0
  have hf : zFr [] [] Mz Mz := zFr.rf
  have r_20 := ze_r Mz 81 20
  have r_26 := ze_r Mz 81 26
  have hG := hO.1
  have g24 := hG.2.1
  have g1 := hG.1
  have dv0 : zTab T Mz := p0_.1
  have dv1 : zB 85 144 0 5 Mz := p0_.2.1
  have dv2 : zJX T Mz := p0_.2.2.1
  have dv3 : zFirs T Mz := p0_.2.2.2.1
  have dv4 : zSSm T Mz := p0_.2.2.2.2.1
  have dv5 : zGD Mz := zGB.d hO p0_
  have gb := dv5.1
  have gn := dv0.1
  refine zw_aload_n (pc := 0) (n := 0) (x := 81) rfl (zdal_p dlD_M_takes_46 (i := 0) rfl) ?_
  refine zw_iload_n (pc := 1) (n := 1) (x := Int32.ofInt a0_) rfl (zdal_p dlD_M_takes_46 (i := 1) rfl) ?_
  refine zr_callV (hf.w hW) hf.x (pc := 2) [.int (Int32.ofInt a0_)] [] l_M_414 (c_M_isSort l Mz (hf.w hW) a0_ ha0_a ha0_b T hO p0_) rfl rfl rfl (by decide) (Nat.le_of_ble_eq_true rfl) (zdal_p dlD_M_takes_46 (i := 2) rfl) ?_
  rintro _ N1_ ⟨v2_, rfl, ⟨hv2_a, hv2_b⟩, hsN1_, hp0_N1_⟩
  obtain rfl := hsN1_.eq.symm
  replace hp0_N1_ : ((v2_ = 1 ∧ 0 ≤ a0_ ∧ a0_ < ze Mz 81 26) ∨ (v2_ = 0)) := hp0_N1_
  rcases hp0_N1_ with ⟨rfl, ha2_0_hp0_N1_, ha2_1_hp0_N1_⟩ | rfl
  · skip
    show zW l m_M_takes (zn Mz + 0, zw Mz + 0) Mz 5 [some (.ref 81), some (.int (Int32.ofInt a0_)), some (.int (Int32.ofInt a1_)), some (.int (Int32.ofInt a2_))] [.int (Int32.ofInt 1)] (zpI [] [] Mz (fun v N => True))
    refine zr_if_eq (pc := 5) (tgt := 43) ⟨(by decide), (by decide)⟩ (by decide) (zdal_p dlD_M_takes_46 (i := 3) rfl) (fun hc_5 => ?_) (fun hc_5 => ?_)
    · skip
      exact absurd hc_5 (by decide)
    · skip
      refine zw_aload_n (pc := 8) (n := 0) (x := 81) rfl (zdal_p dlD_M_takes_46 (i := 4) rfl) ?_
      refine zw_iload_n (pc := 9) (n := 2) (x := Int32.ofInt a1_) rfl (zdal_p dlD_M_takes_46 (i := 5) rfl) ?_
      refine zr_callV (hf.w hW) hf.x (pc := 10) [.int (Int32.ofInt a1_)] [] l_M_400 (c_M_isMember l Mz (hf.w hW) a1_ ha1_a ha1_b T hO p0_) rfl rfl rfl (by decide) (Nat.le_of_ble_eq_true rfl) (zdal_p dlD_M_takes_46 (i := 6) rfl) ?_
      rintro _ N3_ ⟨v4_, rfl, ⟨hv4_a, hv4_b⟩, hsN3_, hp0_N3_⟩
      obtain rfl := hsN3_.eq.symm
      replace hp0_N3_ : ((v4_ = 1 ∧ 0 ≤ a1_ ∧ a1_ < ze Mz 81 20) ∨ (v4_ = 0)) := hp0_N3_
      rcases hp0_N3_ with ⟨rfl, ha10_0_hp0_N3_, ha10_1_hp0_N3_⟩ | rfl
      · skip
        show zW l m_M_takes (zn Mz + 0, zw Mz + 0) Mz 13 [some (.ref 81), some (.int (Int32.ofInt a0_)), some (.int (Int32.ofInt a1_)), some (.int (Int32.ofInt a2_))] [.int (Int32.ofInt 1)] (zpI [] [] Mz (fun v N => True))
        refine zr_if_eq (pc := 13) (tgt := 43) ⟨(by decide), (by decide)⟩ (by decide) (zdal_p dlD_M_takes_46 (i := 7) rfl) (fun hc_13 => ?_) (fun hc_13 => ?_)
        · skip
          exact absurd hc_13 (by decide)
        · skip
          refine zw_aload_n (pc := 16) (n := 0) (x := 81) rfl (zdal_p dlD_M_takes_46 (i := 8) rfl) ?_
          refine zw_iload_n (pc := 17) (n := 3) (x := Int32.ofInt a2_) rfl (zdal_p dlD_M_takes_46 (i := 9) rfl) ?_
          refine zr_callV (hf.w hW) hf.x (pc := 18) [.int (Int32.ofInt a2_)] [] l_M_400 (c_M_isMember l Mz (hf.w hW) a2_ ha2_a ha2_b T hO p0_) rfl rfl rfl (by decide) (Nat.le_of_ble_eq_true rfl) (zdal_p dlD_M_takes_46 (i := 10) rfl) ?_
          rintro _ N5_ ⟨v6_, rfl, ⟨hv6_a, hv6_b⟩, hsN5_, hp0_N5_⟩
          obtain rfl := hsN5_.eq.symm
          replace hp0_N5_ : ((v6_ = 1 ∧ 0 ≤ a2_ ∧ a2_ < ze Mz 81 20) ∨ (v6_ = 0)) := hp0_N5_
          rcases hp0_N5_ with ⟨rfl, ha18_0_hp0_N5_, ha18_1_hp0_N5_⟩ | rfl
          · skip
            show zW l m_M_takes (zn Mz + 0, zw Mz + 0) Mz 21 [some (.ref 81), some (.int (Int32.ofInt a0_)), some (.int (Int32.ofInt a1_)), some (.int (Int32.ofInt a2_))] [.int (Int32.ofInt 1)] (zpI [] [] Mz (fun v N => True))
            refine zr_if_eq (pc := 21) (tgt := 43) ⟨(by decide), (by decide)⟩ (by decide) (zdal_p dlD_M_takes_46 (i := 11) rfl) (fun hc_21 => ?_) (fun hc_21 => ?_)
            · skip
              exact absurd hc_21 (by decide)
            · skip
              refine zw_aload_n (pc := 24) (n := 0) (x := 81) rfl (zdal_p dlD_M_takes_46 (i := 12) rfl) ?_
              refine zr_getF (r := 94) (hf.w hW) (pc := 25) f_M_53 rfl (zh_94 (hf.w hW)).1 (zdal_p dlD_M_takes_46 (i := 13) rfl) ?_
              refine zw_bipush (pc := 28) (v := Int32.ofInt 24) (by decide) (zdal_p dlD_M_takes_46 (i := 14) rfl) ?_
              refine zw_iload_n (pc := 30) (n := 1) (x := Int32.ofInt a0_) rfl (zdal_p dlD_M_takes_46 (i := 15) rfl) ?_
              refine zr_imul (pc := 31) (zdal_p dlD_M_takes_46 (i := 16) rfl) ?_
              refine zw_aload_n (pc := 32) (n := 0) (x := 81) rfl (zdal_p dlD_M_takes_46 (i := 17) rfl) ?_
              refine zw_iload_n (pc := 33) (n := 2) (x := Int32.ofInt a1_) rfl (zdal_p dlD_M_takes_46 (i := 18) rfl) ?_
              refine zw_iload_n (pc := 34) (n := 3) (x := Int32.ofInt a2_) rfl (zdal_p dlD_M_takes_46 (i := 19) rfl) ?_
              refine zr_callV (hf.w hW) hf.x (pc := 35) [.int (Int32.ofInt a1_), .int (Int32.ofInt a2_)] [.int (Int32.ofInt (24 * a0_)), .ref 94] l_M_216 (c_M_by l Mz (hf.w hW) a1_ ha1_a ha1_b a2_ ha2_a ha2_b T hG dv0 (show 0 ≤ a1_ by first | with_reducible assumption | assumption | omega) (show a1_ < ze Mz 81 20 by first | with_reducible assumption | assumption | omega) (show 0 ≤ a2_ by first | with_reducible assumption | assumption | omega) (show a2_ < ze Mz 81 20 by first | with_reducible assumption | assumption | omega)) rfl rfl rfl (by decide) (Nat.le_of_ble_eq_true rfl) (zdal_p dlD_M_takes_46 (i := 20) rfl) ?_
              rintro _ N7_ ⟨v8_, rfl, ⟨hv8_a, hv8_b⟩, hsN7_, ⟨hp0_N7_, hp1_N7_, hp2_N7_⟩⟩
              obtain rfl := hsN7_.eq.symm
              show zW l m_M_takes (zn Mz + 0, zw Mz + 0) Mz 38 [some (.ref 81), some (.int (Int32.ofInt a0_)), some (.int (Int32.ofInt a1_)), some (.int (Int32.ofInt a2_))] [.int (Int32.ofInt v8_), .int (Int32.ofInt (24 * a0_)), .ref 94] (zpI [] [] Mz (fun v N => True))
              refine zr_iadd (pc := 38) (zdal_p dlD_M_takes_46 (i := 21) rfl) ?_
              refine zr_ialdn (pc := 39) (zh_94 (hf.w hW)).2 (by decide) (by (exact zo_543 ha2_0_hp0_N1_ hp1_N7_)) (by omega) (zdal_p dlD_M_takes_46 (i := 22) rfl) (fun v9_ hv9_ hv9_a hv9_b => ?_)
              refine zw_goto (pc := 40) (tgt := 44) (by decide) (zdal_p dlD_M_takes_46 (i := 23) rfl) ?_
              exact zr_iret (pc := 44) (ty := .int) rfl rfl ⟨by (exact hv9_a), by (exact hv9_b)⟩ hf trivial (zdal_p dlD_M_takes_47 (i := 1) rfl)
          · skip
            show zW l m_M_takes (zn Mz + 0, zw Mz + 0) Mz 21 [some (.ref 81), some (.int (Int32.ofInt a0_)), some (.int (Int32.ofInt a1_)), some (.int (Int32.ofInt a2_))] [.int (Int32.ofInt 0)] (zpI [] [] Mz (fun v N => True))
            refine zr_if_eq (pc := 21) (tgt := 43) ⟨(by decide), (by decide)⟩ (by decide) (zdal_p dlD_M_takes_46 (i := 11) rfl) (fun hc_21 => ?_) (fun hc_21 => ?_)
            · skip
              refine zw_iconst (pc := 43) (v := Int32.ofInt (-1)) (by decide) (zdal_p dlD_M_takes_47 (i := 0) rfl) ?_
              exact zr_iret (pc := 44) (ty := .int) rfl rfl ⟨by (decide), by (decide)⟩ hf trivial (zdal_p dlD_M_takes_47 (i := 1) rfl)
            · skip
              exact absurd hc_21 (by decide)
      · skip
        show zW l m_M_takes (zn Mz + 0, zw Mz + 0) Mz 13 [some (.ref 81), some (.int (Int32.ofInt a0_)), some (.int (Int32.ofInt a1_)), some (.int (Int32.ofInt a2_))] [.int (Int32.ofInt 0)] (zpI [] [] Mz (fun v N => True))
        refine zr_if_eq (pc := 13) (tgt := 43) ⟨(by decide), (by decide)⟩ (by decide) (zdal_p dlD_M_takes_46 (i := 7) rfl) (fun hc_13 => ?_) (fun hc_13 => ?_)
        · skip
          refine zw_iconst (pc := 43) (v := Int32.ofInt (-1)) (by decide) (zdal_p dlD_M_takes_47 (i := 0) rfl) ?_
          exact zr_iret (pc := 44) (ty := .int) rfl rfl ⟨by (decide), by (decide)⟩ hf trivial (zdal_p dlD_M_takes_47 (i := 1) rfl)
        · skip
          exact absurd hc_13 (by decide)
  · skip
    show zW l m_M_takes (zn Mz + 0, zw Mz + 0) Mz 5 [some (.ref 81), some (.int (Int32.ofInt a0_)), some (.int (Int32.ofInt a1_)), some (.int (Int32.ofInt a2_))] [.int (Int32.ofInt 0)] (zpI [] [] Mz (fun v N => True))
    refine zr_if_eq (pc := 5) (tgt := 43) ⟨(by decide), (by decide)⟩ (by decide) (zdal_p dlD_M_takes_46 (i := 3) rfl) (fun hc_5 => ?_) (fun hc_5 => ?_)
    · skip
      refine zw_iconst (pc := 43) (v := Int32.ofInt (-1)) (by decide) (zdal_p dlD_M_takes_47 (i := 0) rfl) ?_
      exact zr_iret (pc := 44) (ty := .int) rfl rfl ⟨by (decide), by (decide)⟩ hf trivial (zdal_p dlD_M_takes_47 (i := 1) rfl)
    · skip
      exact absurd hc_5 (by decide)
set_option maxHeartbeats 4000000 in
theorem c_M_keeper (l : Launch) (Mz : zMem) (hW : zMt Mz) (a0_ : Int) (ha0_a : -2147483648 ≤ a0_) (ha0_b : a0_ < 2147483648) (T : zGT) (hO : gOK T) (p0_ : zGB T Mz) (p1_ : 1 ≤ ze Mz 81 16) (p2_ : ze Mz 81 16 ≤ 6) : zC l m_M_keeper 0 0 [.ref 81, .int (Int32.ofInt a0_)] Mz (zpI [] [] Mz (fun v N => True)) := by
  refine zC_of (L0 := [some (.ref 81), some (.int (Int32.ofInt a0_)), none, none]) md_M_keeper (Nat.le_of_ble_eq_true rfl) rfl ?_ zQ0
  have hf : zFr [] [] Mz Mz := zFr.rf
  have r_16 := ze_r Mz 81 16
  have r_20 := ze_r Mz 81 20
  have hG := hO.1
  have g24 := hG.2.1
  have g1 := hG.1
  have dv0 : zTab T Mz := p0_.1
  have dv1 : zB 85 144 0 5 Mz := p0_.2.1
  have dv2 : zJX T Mz := p0_.2.2.1
  have dv3 : zFirs T Mz := p0_.2.2.2.1
  have dv4 : zSSm T Mz := p0_.2.2.2.2.1
  have dv5 : zGD Mz := zGB.d hO p0_
  have gb := dv5.1
  have gn := dv0.1
  refine zw_iload_n (pc := 0) (n := 1) (x := Int32.ofInt a0_) rfl (zdal_p dlD_M_keeper_41 (i := 0) rfl) ?_
  refine zr_i2l (pc := 1) ⟨ha0_a, ha0_b⟩ (zdal_p dlD_M_keeper_41 (i := 1) rfl) ?_
  refine zw_lconst (pc := 2) (v := Int64.ofInt 0) (by decide) (zdal_p dlD_M_keeper_41 (i := 2) rfl) ?_
  refine zw_aload_n (pc := 3) (n := 0) (x := 81) rfl (zdal_p dlD_M_keeper_41 (i := 3) rfl) ?_
  refine zr_getI0 hf hW (pc := 4) (by decide) f_M_382 rfl (zdal_p dlD_M_keeper_41 (i := 4) rfl) ?_
  refine zw_iconst (pc := 7) (v := Int32.ofInt 1) (by decide) (zdal_p dlD_M_keeper_41 (i := 5) rfl) ?_
  refine zr_isub (pc := 8) (zdal_p dlD_M_keeper_41 (i := 6) rfl) ?_
  refine zr_i2l (pc := 9) ⟨(by (exact zo_63 p1_)), (by (exact zo_2435 p2_))⟩ (zdal_p dlD_M_keeper_41 (i := 7) rfl) ?_
  refine zr_callS hf.x (pc := 10) [.long (Int64.ofInt a0_), .long (Int64.ofInt 0), .long (Int64.ofInt ((ze Mz 81 16) - 1))] [] l_M_131 (c_M_isIn l Mz (hf.w hW) a0_ (by (exact zo_282 ha0_a)) (by (exact zo_283 ha0_b)) 0 (by decide) (by decide) ((ze Mz 81 16) - 1) (by (exact zo_2432 p1_)) (by (exact zo_2436 p2_))) rfl rfl (by decide) (Nat.le_of_ble_eq_true rfl) (zdal_p dlD_M_keeper_41 (i := 8) rfl) ?_
  rintro _ N1_ ⟨v2_, rfl, ⟨hv2_a, hv2_b⟩, hsN1_, hp0_N1_⟩
  obtain rfl := hsN1_.eq.symm
  replace hp0_N1_ : ((v2_ = 1 ∧ 0 ≤ a0_ ∧ a0_ ≤ ((ze Mz 81 16) - 1)) ∨ (v2_ = 0 ∧ (a0_ < 0 ∨ ((ze Mz 81 16) - 1) < a0_))) := hp0_N1_
  rcases hp0_N1_ with ⟨rfl, ha10_0_hp0_N1_, ha10_1_hp0_N1_⟩ | ⟨rfl, ha10_0_hp0_N1_⟩
  · skip
    show zW l m_M_keeper (zn Mz + 0, zw Mz + 0) Mz 13 [some (.ref 81), some (.int (Int32.ofInt a0_)), none, none] [.int (Int32.ofInt 1)] (zpI [] [] Mz (fun v N => True))
    refine zr_if_ne (pc := 13) (tgt := 18) ⟨(by decide), (by decide)⟩ (by decide) (zdal_p dlD_M_keeper_41 (i := 9) rfl) (fun hc_13 => ?_) (fun hc_13 => ?_)
    · skip
      refine zw_iconst (pc := 18) (v := Int32.ofInt 0) (by decide) (zdal_p dlD_M_keeper_41 (i := 12) rfl) ?_
      refine zw_istore_n (pc := 19) (i := 2) (L2 := [some (.ref 81), some (.int (Int32.ofInt a0_)), some (.int (Int32.ofInt 0)), none]) rfl (by decide) rfl (zdal_p dlD_M_keeper_41 (i := 13) rfl) ?_
      refine zw_iconst (pc := 20) (v := Int32.ofInt 0) (by decide) (zdal_p dlD_M_keeper_41 (i := 14) rfl) ?_
      refine zw_istore_n (pc := 21) (i := 3) (L2 := [some (.ref 81), some (.int (Int32.ofInt a0_)), some (.int (Int32.ofInt 0)), some (.int (Int32.ofInt 0))]) rfl (by decide) rfl (zdal_p dlD_M_keeper_41 (i := 15) rfl) ?_
      have lp_22 : ∀ (n : Nat) (u3_ : Int) (hu3_a : -2147483648 ≤ u3_) (hu3_b : u3_ < 2147483648) (u4_ : Int) (hu4_a : -2147483648 ≤ u4_) (hu4_b : u4_ < 2147483648) (i5_ : 0 ≤ u4_), (ze Mz 81 20 - u4_).toNat < n → zW l m_M_keeper (zn Mz + 0, zw Mz + 0) Mz 22 [some (.ref 81), some (.int (Int32.ofInt a0_)), some (.int (Int32.ofInt u3_)), some (.int (Int32.ofInt u4_))] [] (zpI [] [] Mz (fun v N => True)) := by
        intro n
        induction n with
        | zero =>
          intro u3_ hu3_a hu3_b u4_ hu4_a hu4_b i5_ h0
          exact absurd h0 (Nat.not_lt_zero _)
        | succ n ih_22 =>
          intro u3_ hu3_a hu3_b u4_ hu4_a hu4_b i5_ hlt_22
          refine zw_iload_n (pc := 22) (n := 3) (x := Int32.ofInt u4_) rfl (zdal_p dlD_M_keeper_41 (i := 16) rfl) ?_
          refine zw_aload_n (pc := 23) (n := 0) (x := 81) rfl (zdal_p dlD_M_keeper_41 (i := 17) rfl) ?_
          refine zr_getI0 hf hW (pc := 24) (by decide) f_M_196 rfl (zdal_p dlD_M_keeper_41 (i := 18) rfl) ?_
          refine zr_icmp_ge (pc := 27) (tgt := 64) ⟨hu4_a, hu4_b⟩ ⟨(ze_r Mz 81 20).1, (ze_r Mz 81 20).2⟩ (by decide) (zdal_p dlD_M_keeper_41 (i := 19) rfl) (fun hc_27 => ?_) (fun hc_27 => ?_)
          · skip
            refine zw_iload_n (pc := 64) (n := 2) (x := Int32.ofInt u3_) rfl (zdal_p dlD_M_keeper_42 (i := 17) rfl) ?_
            exact zr_iret (pc := 65) (ty := .int) rfl rfl ⟨by (exact hu3_a), by (exact hu3_b)⟩ hf trivial (zdal_p dlD_M_keeper_42 (i := 18) rfl)
          · skip
            refine zw_iload_n (pc := 30) (n := 2) (x := Int32.ofInt u3_) rfl (zdal_p dlD_M_keeper_41 (i := 20) rfl) ?_
            refine zw_aload_n (pc := 31) (n := 0) (x := 81) rfl (zdal_p dlD_M_keeper_41 (i := 21) rfl) ?_
            refine zr_getF (r := 85) (hf.w hW) (pc := 32) f_M_26 rfl (zh_85 (hf.w hW)).1 (zdal_p dlD_M_keeper_41 (i := 22) rfl) ?_
            refine zw_bipush (pc := 35) (v := Int32.ofInt 6) (by decide) (zdal_p dlD_M_keeper_41 (i := 23) rfl) ?_
            refine zw_iload_n (pc := 37) (n := 3) (x := Int32.ofInt u4_) rfl (zdal_p dlD_M_keeper_42 (i := 0) rfl) ?_
            refine zr_imul (pc := 38) (zdal_p dlD_M_keeper_42 (i := 1) rfl) ?_
            refine zw_iload_n (pc := 39) (n := 1) (x := Int32.ofInt a0_) rfl (zdal_p dlD_M_keeper_42 (i := 2) rfl) ?_
            refine zr_iadd (pc := 40) (zdal_p dlD_M_keeper_42 (i := 3) rfl) ?_
            refine zr_ialdn (pc := 41) (zh_85 (hf.w hW)).2 (by decide) (by (exact zo_709 ha10_0_hp0_N1_ i5_)) (by (exact zo_2447 gb.2.1 ha10_1_hp0_N1_ hc_27 p2_)) (zdal_p dlD_M_keeper_42 (i := 4) rfl) (fun v6_ hv6_ hv6_a hv6_b => ?_)
            have hr7_ := dv1.g (e := (6 * u4_) + a0_) (by (exact zo_709 ha10_0_hp0_N1_ i5_)) (by (exact zo_2447 gb.2.1 ha10_1_hp0_N1_ hc_27 p2_))
            rw [← hv6_] at hr7_
            refine zw_iload_n (pc := 42) (n := 1) (x := Int32.ofInt a0_) rfl (zdal_p dlD_M_keeper_42 (i := 5) rfl) ?_
            refine zr_icmp_ne (pc := 43) (tgt := 50) ⟨hv6_a, hv6_b⟩ ⟨ha0_a, ha0_b⟩ (by decide) (zdal_p dlD_M_keeper_42 (i := 6) rfl) (fun hc_43 => ?_) (fun hc_43 => ?_)
            · skip
              refine zw_iconst (pc := 50) (v := Int32.ofInt 0) (by decide) (zdal_p dlD_M_keeper_42 (i := 9) rfl) ?_
              refine zr_callS hf.x (pc := 51) [.int (Int32.ofInt 0)] [.int (Int32.ofInt u3_)] l_M_256 (c_M_truth l Mz (hf.w hW) 0 (by decide) (by decide) (by (decide))) rfl rfl (by decide) (Nat.le_of_ble_eq_true rfl) (zdal_p dlD_M_keeper_42 (i := 10) rfl) ?_
              rintro _ N8_ ⟨v9_, rfl, ⟨hv9_a, hv9_b⟩, hsN8_, hp0_N8_⟩
              obtain rfl := hsN8_.eq.symm
              replace hp0_N8_ : v9_ = 0 := hp0_N8_
              show zW l m_M_keeper (zn Mz + 0, zw Mz + 0) Mz 54 [some (.ref 81), some (.int (Int32.ofInt a0_)), some (.int (Int32.ofInt u3_)), some (.int (Int32.ofInt u4_))] [.int (Int32.ofInt v9_), .int (Int32.ofInt u3_)] (zpI [] [] Mz (fun v N => True))
              refine zw_iload_n (pc := 54) (n := 3) (x := Int32.ofInt u4_) rfl (zdal_p dlD_M_keeper_42 (i := 11) rfl) ?_
              refine zr_ishl (pc := 55) (zdal_p dlD_M_keeper_42 (i := 12) rfl) ?_
              have hr10_ := zshl_r v9_ u4_
              refine zr_ior (pc := 56) (zdal_p dlD_M_keeper_42 (i := 13) rfl) ?_
              have hr11_ := zor_r u3_ (zshl v9_ u4_)
              refine zr_nmI (fun v12_ hv12_ => ?_)
              obtain ⟨hv12_a, hv12_b⟩ := hv12_
              refine zw_istore_n (pc := 57) (i := 2) (L2 := [some (.ref 81), some (.int (Int32.ofInt a0_)), some (.int (Int32.ofInt v12_)), some (.int (Int32.ofInt u4_))]) rfl (by decide) rfl (zdal_p dlD_M_keeper_42 (i := 14) rfl) ?_
              refine zr_iinc (pc := 58) (i := 3) (a := u4_) (n := 1) (L2 := [some (.ref 81), some (.int (Int32.ofInt a0_)), some (.int (Int32.ofInt v12_)), some (.int (Int32.ofInt (u4_ + 1)))]) rfl (by decide) rfl (zdal_p dlD_M_keeper_42 (i := 15) rfl) ?_
              refine zw_goto (pc := 61) (tgt := 22) (by decide) (zdal_p dlD_M_keeper_42 (i := 16) rfl) ?_
              exact ih_22 v12_ hv12_a hv12_b (u4_ + 1) (by (exact zo_74 i5_)) (by (exact zo_919 gb.2.1 hc_27)) (show 0 ≤ (u4_ + 1) by first | with_reducible assumption | (exact zo_76 i5_) | assumption) (by (exact zo_147 hc_27 hlt_22))
            · skip
              refine zw_iconst (pc := 46) (v := Int32.ofInt 1) (by decide) (zdal_p dlD_M_keeper_42 (i := 7) rfl) ?_
              refine zw_goto (pc := 47) (tgt := 51) (by decide) (zdal_p dlD_M_keeper_42 (i := 8) rfl) ?_
              refine zr_callS hf.x (pc := 51) [.int (Int32.ofInt 1)] [.int (Int32.ofInt u3_)] l_M_256 (c_M_truth l Mz (hf.w hW) 1 (by decide) (by decide) (by (decide))) rfl rfl (by decide) (Nat.le_of_ble_eq_true rfl) (zdal_p dlD_M_keeper_42 (i := 10) rfl) ?_
              rintro _ N13_ ⟨v14_, rfl, ⟨hv14_a, hv14_b⟩, hsN13_, hp0_N13_⟩
              obtain rfl := hsN13_.eq.symm
              replace hp0_N13_ : v14_ = 1 := hp0_N13_
              show zW l m_M_keeper (zn Mz + 0, zw Mz + 0) Mz 54 [some (.ref 81), some (.int (Int32.ofInt a0_)), some (.int (Int32.ofInt u3_)), some (.int (Int32.ofInt u4_))] [.int (Int32.ofInt v14_), .int (Int32.ofInt u3_)] (zpI [] [] Mz (fun v N => True))
              refine zw_iload_n (pc := 54) (n := 3) (x := Int32.ofInt u4_) rfl (zdal_p dlD_M_keeper_42 (i := 11) rfl) ?_
              refine zr_ishl (pc := 55) (zdal_p dlD_M_keeper_42 (i := 12) rfl) ?_
              have hr15_ := zshl_r v14_ u4_
              refine zr_ior (pc := 56) (zdal_p dlD_M_keeper_42 (i := 13) rfl) ?_
              have hr16_ := zor_r u3_ (zshl v14_ u4_)
              refine zr_nmI (fun v17_ hv17_ => ?_)
              obtain ⟨hv17_a, hv17_b⟩ := hv17_
              refine zw_istore_n (pc := 57) (i := 2) (L2 := [some (.ref 81), some (.int (Int32.ofInt a0_)), some (.int (Int32.ofInt v17_)), some (.int (Int32.ofInt u4_))]) rfl (by decide) rfl (zdal_p dlD_M_keeper_42 (i := 14) rfl) ?_
              refine zr_iinc (pc := 58) (i := 3) (a := u4_) (n := 1) (L2 := [some (.ref 81), some (.int (Int32.ofInt a0_)), some (.int (Int32.ofInt v17_)), some (.int (Int32.ofInt (u4_ + 1)))]) rfl (by decide) rfl (zdal_p dlD_M_keeper_42 (i := 15) rfl) ?_
              refine zw_goto (pc := 61) (tgt := 22) (by decide) (zdal_p dlD_M_keeper_42 (i := 16) rfl) ?_
              exact ih_22 v17_ hv17_a hv17_b (u4_ + 1) (by (exact zo_74 i5_)) (by (exact zo_919 gb.2.1 hc_27)) (show 0 ≤ (u4_ + 1) by first | with_reducible assumption | (exact zo_76 i5_) | assumption) (by (exact zo_147 hc_27 hlt_22))
      exact lp_22 _ 0 (by decide) (by decide) 0 (by decide) (by decide) (show 0 ≤ (0 : Int) by first | with_reducible assumption | (decide) | assumption) (Nat.lt_succ_self _)
    · skip
      exact absurd hc_13 (by decide)
  · skip
    show zW l m_M_keeper (zn Mz + 0, zw Mz + 0) Mz 13 [some (.ref 81), some (.int (Int32.ofInt a0_)), none, none] [.int (Int32.ofInt 0)] (zpI [] [] Mz (fun v N => True))
    refine zr_if_ne (pc := 13) (tgt := 18) ⟨(by decide), (by decide)⟩ (by decide) (zdal_p dlD_M_keeper_41 (i := 9) rfl) (fun hc_13 => ?_) (fun hc_13 => ?_)
    · skip
      exact absurd hc_13 (by decide)
    · skip
      refine zw_iconst (pc := 16) (v := Int32.ofInt (-1)) (by decide) (zdal_p dlD_M_keeper_41 (i := 10) rfl) ?_
      exact zr_iret (pc := 17) (ty := .int) rfl rfl ⟨by (decide), by (decide)⟩ hf trivial (zdal_p dlD_M_keeper_41 (i := 11) rfl)
set_option maxHeartbeats 4000000 in
theorem c_M_orbit (l : Launch) (Mz : zMem) (hW : zMt Mz) (a0_ : Int) (ha0_a : -2147483648 ≤ a0_) (ha0_b : a0_ < 2147483648) (T : zGT) (hO : gOK T) (p0_ : zGB T Mz) (p1_ : 1 ≤ ze Mz 81 16) (p2_ : ze Mz 81 16 ≤ 6) : zC l m_M_orbit 0 0 [.ref 81, .int (Int32.ofInt a0_)] Mz (zpI [] [] Mz (fun v N => True)) := by
  refine zC_of (L0 := [some (.ref 81), some (.int (Int32.ofInt a0_)), none, none]) md_M_orbit (Nat.le_of_ble_eq_true rfl) rfl ?_ zQ0
  have hf : zFr [] [] Mz Mz := zFr.rf
  have r_16 := ze_r Mz 81 16
  have r_20 := ze_r Mz 81 20
  have hG := hO.1
  have g24 := hG.2.1
  have g1 := hG.1
  have dv0 : zTab T Mz := p0_.1
  have dv1 : zB 85 144 0 5 Mz := p0_.2.1
  have dv2 : zJX T Mz := p0_.2.2.1
  have dv3 : zFirs T Mz := p0_.2.2.2.1
  have dv4 : zSSm T Mz := p0_.2.2.2.2.1
  have dv5 : zGD Mz := zGB.d hO p0_
  have gb := dv5.1
  have gn := dv0.1
  refine zw_iload_n (pc := 0) (n := 1) (x := Int32.ofInt a0_) rfl (zdal_p dlD_M_orbit_43 (i := 0) rfl) ?_
  refine zr_i2l (pc := 1) ⟨ha0_a, ha0_b⟩ (zdal_p dlD_M_orbit_43 (i := 1) rfl) ?_
  refine zw_lconst (pc := 2) (v := Int64.ofInt 0) (by decide) (zdal_p dlD_M_orbit_43 (i := 2) rfl) ?_
  refine zw_aload_n (pc := 3) (n := 0) (x := 81) rfl (zdal_p dlD_M_orbit_43 (i := 3) rfl) ?_
  refine zr_getI0 hf hW (pc := 4) (by decide) f_M_382 rfl (zdal_p dlD_M_orbit_43 (i := 4) rfl) ?_
  refine zw_iconst (pc := 7) (v := Int32.ofInt 1) (by decide) (zdal_p dlD_M_orbit_43 (i := 5) rfl) ?_
  refine zr_isub (pc := 8) (zdal_p dlD_M_orbit_43 (i := 6) rfl) ?_
  refine zr_i2l (pc := 9) ⟨(by (exact zo_63 p1_)), (by (exact zo_2435 p2_))⟩ (zdal_p dlD_M_orbit_43 (i := 7) rfl) ?_
  refine zr_callS hf.x (pc := 10) [.long (Int64.ofInt a0_), .long (Int64.ofInt 0), .long (Int64.ofInt ((ze Mz 81 16) - 1))] [] l_M_131 (c_M_isIn l Mz (hf.w hW) a0_ (by (exact zo_282 ha0_a)) (by (exact zo_283 ha0_b)) 0 (by decide) (by decide) ((ze Mz 81 16) - 1) (by (exact zo_2432 p1_)) (by (exact zo_2436 p2_))) rfl rfl (by decide) (Nat.le_of_ble_eq_true rfl) (zdal_p dlD_M_orbit_43 (i := 8) rfl) ?_
  rintro _ N1_ ⟨v2_, rfl, ⟨hv2_a, hv2_b⟩, hsN1_, hp0_N1_⟩
  obtain rfl := hsN1_.eq.symm
  replace hp0_N1_ : ((v2_ = 1 ∧ 0 ≤ a0_ ∧ a0_ ≤ ((ze Mz 81 16) - 1)) ∨ (v2_ = 0 ∧ (a0_ < 0 ∨ ((ze Mz 81 16) - 1) < a0_))) := hp0_N1_
  rcases hp0_N1_ with ⟨rfl, ha10_0_hp0_N1_, ha10_1_hp0_N1_⟩ | ⟨rfl, ha10_0_hp0_N1_⟩
  · skip
    show zW l m_M_orbit (zn Mz + 0, zw Mz + 0) Mz 13 [some (.ref 81), some (.int (Int32.ofInt a0_)), none, none] [.int (Int32.ofInt 1)] (zpI [] [] Mz (fun v N => True))
    refine zr_if_ne (pc := 13) (tgt := 18) ⟨(by decide), (by decide)⟩ (by decide) (zdal_p dlD_M_orbit_43 (i := 9) rfl) (fun hc_13 => ?_) (fun hc_13 => ?_)
    · skip
      refine zw_iconst (pc := 18) (v := Int32.ofInt 0) (by decide) (zdal_p dlD_M_orbit_43 (i := 12) rfl) ?_
      refine zw_istore_n (pc := 19) (i := 2) (L2 := [some (.ref 81), some (.int (Int32.ofInt a0_)), some (.int (Int32.ofInt 0)), none]) rfl (by decide) rfl (zdal_p dlD_M_orbit_43 (i := 13) rfl) ?_
      refine zw_iconst (pc := 20) (v := Int32.ofInt 0) (by decide) (zdal_p dlD_M_orbit_43 (i := 14) rfl) ?_
      refine zw_istore_n (pc := 21) (i := 3) (L2 := [some (.ref 81), some (.int (Int32.ofInt a0_)), some (.int (Int32.ofInt 0)), some (.int (Int32.ofInt 0))]) rfl (by decide) rfl (zdal_p dlD_M_orbit_43 (i := 15) rfl) ?_
      have lp_22 : ∀ (n : Nat) (u3_ : Int) (hu3_a : -2147483648 ≤ u3_) (hu3_b : u3_ < 2147483648) (u4_ : Int) (hu4_a : -2147483648 ≤ u4_) (hu4_b : u4_ < 2147483648) (i5_ : 0 ≤ u4_), (ze Mz 81 20 - u4_).toNat < n → zW l m_M_orbit (zn Mz + 0, zw Mz + 0) Mz 22 [some (.ref 81), some (.int (Int32.ofInt a0_)), some (.int (Int32.ofInt u3_)), some (.int (Int32.ofInt u4_))] [] (zpI [] [] Mz (fun v N => True)) := by
        intro n
        induction n with
        | zero =>
          intro u3_ hu3_a hu3_b u4_ hu4_a hu4_b i5_ h0
          exact absurd h0 (Nat.not_lt_zero _)
        | succ n ih_22 =>
          intro u3_ hu3_a hu3_b u4_ hu4_a hu4_b i5_ hlt_22
          refine zw_iload_n (pc := 22) (n := 3) (x := Int32.ofInt u4_) rfl (zdal_p dlD_M_orbit_43 (i := 16) rfl) ?_
          refine zw_aload_n (pc := 23) (n := 0) (x := 81) rfl (zdal_p dlD_M_orbit_43 (i := 17) rfl) ?_
          refine zr_getI0 hf hW (pc := 24) (by decide) f_M_196 rfl (zdal_p dlD_M_orbit_43 (i := 18) rfl) ?_
          refine zr_icmp_ge (pc := 27) (tgt := 52) ⟨hu4_a, hu4_b⟩ ⟨(ze_r Mz 81 20).1, (ze_r Mz 81 20).2⟩ (by decide) (zdal_p dlD_M_orbit_43 (i := 19) rfl) (fun hc_27 => ?_) (fun hc_27 => ?_)
          · skip
            refine zw_iload_n (pc := 52) (n := 2) (x := Int32.ofInt u3_) rfl (zdal_p dlD_M_orbit_44 (i := 11) rfl) ?_
            exact zr_iret (pc := 53) (ty := .int) rfl rfl ⟨by (exact hu3_a), by (exact hu3_b)⟩ hf trivial (zdal_p dlD_M_orbit_44 (i := 12) rfl)
          · skip
            refine zw_iload_n (pc := 30) (n := 2) (x := Int32.ofInt u3_) rfl (zdal_p dlD_M_orbit_43 (i := 20) rfl) ?_
            refine zw_iconst (pc := 31) (v := Int32.ofInt 1) (by decide) (zdal_p dlD_M_orbit_43 (i := 21) rfl) ?_
            refine zw_aload_n (pc := 32) (n := 0) (x := 81) rfl (zdal_p dlD_M_orbit_43 (i := 22) rfl) ?_
            refine zr_getF (r := 85) (hf.w hW) (pc := 33) f_M_26 rfl (zh_85 (hf.w hW)).1 (zdal_p dlD_M_orbit_43 (i := 23) rfl) ?_
            refine zw_bipush (pc := 36) (v := Int32.ofInt 6) (by decide) (zdal_p dlD_M_orbit_44 (i := 0) rfl) ?_
            refine zw_iload_n (pc := 38) (n := 3) (x := Int32.ofInt u4_) rfl (zdal_p dlD_M_orbit_44 (i := 1) rfl) ?_
            refine zr_imul (pc := 39) (zdal_p dlD_M_orbit_44 (i := 2) rfl) ?_
            refine zw_iload_n (pc := 40) (n := 1) (x := Int32.ofInt a0_) rfl (zdal_p dlD_M_orbit_44 (i := 3) rfl) ?_
            refine zr_iadd (pc := 41) (zdal_p dlD_M_orbit_44 (i := 4) rfl) ?_
            refine zr_ialdn (pc := 42) (zh_85 (hf.w hW)).2 (by decide) (by (exact zo_709 ha10_0_hp0_N1_ i5_)) (by (exact zo_2447 gb.2.1 ha10_1_hp0_N1_ hc_27 p2_)) (zdal_p dlD_M_orbit_44 (i := 5) rfl) (fun v6_ hv6_ hv6_a hv6_b => ?_)
            have hr7_ := dv1.g (e := (6 * u4_) + a0_) (by (exact zo_709 ha10_0_hp0_N1_ i5_)) (by (exact zo_2447 gb.2.1 ha10_1_hp0_N1_ hc_27 p2_))
            rw [← hv6_] at hr7_
            refine zr_ishl (pc := 43) (zdal_p dlD_M_orbit_44 (i := 6) rfl) ?_
            have hr8_ := zshl_r 1 v6_
            refine zr_ior (pc := 44) (zdal_p dlD_M_orbit_44 (i := 7) rfl) ?_
            have hr9_ := zor_r u3_ (zshl 1 v6_)
            refine zr_nmI (fun v10_ hv10_ => ?_)
            obtain ⟨hv10_a, hv10_b⟩ := hv10_
            refine zw_istore_n (pc := 45) (i := 2) (L2 := [some (.ref 81), some (.int (Int32.ofInt a0_)), some (.int (Int32.ofInt v10_)), some (.int (Int32.ofInt u4_))]) rfl (by decide) rfl (zdal_p dlD_M_orbit_44 (i := 8) rfl) ?_
            refine zr_iinc (pc := 46) (i := 3) (a := u4_) (n := 1) (L2 := [some (.ref 81), some (.int (Int32.ofInt a0_)), some (.int (Int32.ofInt v10_)), some (.int (Int32.ofInt (u4_ + 1)))]) rfl (by decide) rfl (zdal_p dlD_M_orbit_44 (i := 9) rfl) ?_
            refine zw_goto (pc := 49) (tgt := 22) (by decide) (zdal_p dlD_M_orbit_44 (i := 10) rfl) ?_
            exact ih_22 v10_ hv10_a hv10_b (u4_ + 1) (by (exact zo_74 i5_)) (by (exact zo_919 gb.2.1 hc_27)) (show 0 ≤ (u4_ + 1) by first | with_reducible assumption | (exact zo_76 i5_) | assumption) (by (exact zo_147 hc_27 hlt_22))
      exact lp_22 _ 0 (by decide) (by decide) 0 (by decide) (by decide) (show 0 ≤ (0 : Int) by first | with_reducible assumption | (decide) | assumption) (Nat.lt_succ_self _)
    · skip
      exact absurd hc_13 (by decide)
  · skip
    show zW l m_M_orbit (zn Mz + 0, zw Mz + 0) Mz 13 [some (.ref 81), some (.int (Int32.ofInt a0_)), none, none] [.int (Int32.ofInt 0)] (zpI [] [] Mz (fun v N => True))
    refine zr_if_ne (pc := 13) (tgt := 18) ⟨(by decide), (by decide)⟩ (by decide) (zdal_p dlD_M_orbit_43 (i := 9) rfl) (fun hc_13 => ?_) (fun hc_13 => ?_)
    · skip
      exact absurd hc_13 (by decide)
    · skip
      refine zw_iconst (pc := 16) (v := Int32.ofInt (-1)) (by decide) (zdal_p dlD_M_orbit_43 (i := 10) rfl) ?_
      exact zr_iret (pc := 17) (ty := .int) rfl rfl ⟨by (decide), by (decide)⟩ hf trivial (zdal_p dlD_M_orbit_43 (i := 11) rfl)
