def zKSu (P : Nat) (mv : List Nat) (T : zGT) (d : Nat) (M : zMem) : Prop := zKS P mv T d M ∧ zUW T d M
def zRSu (P : Nat) (mv : List Nat) (T : zGT) (M : zMem) : Prop := zRS P mv T M ∧ zyW T M
def zLmu (M : zMem) : Prop := ∃ P mv T d, zf M 0 2 = some (d + 0) ∧ zKW d M ∧ zRSu P mv T M ∧ zKSu P mv T d M
def zLqu (M : zMem) : Prop := zLb M ∧ zLmu M
theorem zUf_e {S : Nat → Prop} {d : Nat} {M N : zMem} (h3 : ze N (d + 28) 3 = ze M (d + 28) 3) (hr : ∀ i : Nat, ze N (d + 30) i = ze M (d + 30) i) (h : zUf S d M) : zUf S d N := by
  obtain ⟨h1, pv, h2⟩ := h
  refine ⟨zNw_e h3 (fun i _ => hr i) h1, pv, ?_⟩
  have e : zub d N = zub d M := funext fun i => by
    unfold zub
    rw [hr i]
  rw [e, h3]
  exact h2
section ZLU
variable {M N : zMem} {d : Nat} {P : Nat} {mv : List Nat} {T : zGT} {FA : List (Nat × Nat)} {CA : List Nat} {FR : List (Nat × Nat)} {CR : List Nat}
theorem zKSu.e (he : ∀ o, o < 38 → ∀ j, ze N (d + o) j = ze M (d + o) j) (h : zKSu P mv T d M) : zKSu P mv T d N := by
  refine ⟨h.1.e he, ?_⟩
  have h2 := h.2
  unfold zUW at h2 ⊢
  rw [he 28 (by decide)]
  rcases h2 with h2 | ⟨h2, h3⟩
  · exact Or.inl h2
  · exact Or.inr ⟨h2, zUf_e (he 28 (by decide) 3) (he 30 (by decide)) h3⟩
theorem zyW_e (h57 : ze N 81 57 = ze M 81 57) (h58 : ze N 81 58 = ze M 81 58) (hr : ∀ i : Nat, ze N 110 i = ze M 110 i) (h : zyW T M) : zyW T N := by
  unfold zyW
  rw [h57, h58]
  rcases h with h | ⟨h1, h2, h3⟩
  · exact Or.inl h
  · exact Or.inr ⟨h1, h2, zyO_c h3 hr⟩
theorem zRSu.hi (h3 : ∀ q, 81 ≤ q → zi N q = zi M q ∧ zj N q = zj M q) (h1 : N.1 = M.1) (h2 : zsh N = zsh M) (h : zRSu P mv T M) : zRSu P mv T N := by
  have e : ∀ q j, 81 ≤ q → ze N q j = ze M q j := fun q j hq => by
    unfold ze
    rw [(h3 q hq).1]
  exact ⟨h.1.hi h3 h1 h2, zyW_e (e _ _ (by decide)) (e _ _ (by decide)) (fun i => e _ _ (by decide)) h.2⟩
theorem zRSu.fr {S C : List Nat} (hf : zFr S C M N) (h : zRSu P mv T M) (hs : ((14 ∉ S ∧ 18 ∉ S) ∧ 16 ∉ S ∧ 17 ∉ S ∧ 20 ∉ S ∧ 25 ∉ S ∧ 26 ∉ S) ∧ 57 ∉ S ∧ 58 ∉ S) (hc : ((((101 ∉ C ∧ 102 ∉ C) ∧ 103 ∉ C ∧ 104 ∉ C) ∧ 92 ∉ C) ∧ 84 ∉ C ∧ 85 ∉ C ∧ 87 ∉ C ∧ 88 ∉ C ∧ 89 ∉ C ∧ 90 ∉ C ∧ 91 ∉ C ∧ 93 ∉ C ∧ 94 ∉ C) ∧ 110 ∉ C) : zRSu P mv T N := ⟨zRS.fr hf h.1 hs.1 hc.1, zyW.fr hf h.2 hs.2 hc.2⟩
theorem zKSu.lo (h : zOl M N) (hd : d = 5 ∨ d = 43) (hk : zKSu P mv T d M) : zKSu P mv T d N := hk.e (fun o ho j => by
  unfold ze
  rw [(h.2.2.2 (d + o) (by omega)).1])
theorem zKSu.fr (hW : zKW d M) (hf : zFc d FA CA FR CR M N) (h : zKSu P mv T d M) (hc : (((1 ∉ CR ∧ (1, 5) ∉ FR) ∧ (1, 6) ∉ FR ∧ (1, 7) ∉ FR) ∧ (12 ∉ CR ∧ (12, 6) ∉ FR ∧ (12, 7) ∉ FR) ∧ ∀ o ∈ [3, 5, 7, 9, 14, 16, 20, 22], o ∉ CR ∧ ∀ x ∈ FR, x.1 ≠ o) ∧ (28 < 38 ∧ 28 ∉ CR ∧ (28, 4) ∉ FR) ∧ (28 < 38 ∧ 28 ∉ CR ∧ (28, 3) ∉ FR) ∧ 30 < 38 ∧ 30 ∉ CR ∧ ∀ x ∈ FR, x.1 ≠ 30) : zKSu P mv T d N := ⟨zKS.fr hW hf h.1 hc.1, zUW.fr hW hf h.2 hc.2⟩
theorem zLmu.x (h : zLmu M) (hf : zFc d FA CA FR CR M N) (hW : zKW d M) (hn : zf M 0 2 = some (d + 0)) (hc : (∀ x ∈ FA, x.1 < 81) ∧ ∀ x ∈ CA, x < 81) (hk : (((1 ∉ CR ∧ (1, 5) ∉ FR) ∧ (1, 6) ∉ FR ∧ (1, 7) ∉ FR) ∧ (12 ∉ CR ∧ (12, 6) ∉ FR ∧ (12, 7) ∉ FR) ∧ ∀ o ∈ [3, 5, 7, 9, 14, 16, 20, 22], o ∉ CR ∧ ∀ x ∈ FR, x.1 ≠ o) ∧ (28 < 38 ∧ 28 ∉ CR ∧ (28, 4) ∉ FR) ∧ (28 < 38 ∧ 28 ∉ CR ∧ (28, 3) ∉ FR) ∧ 30 < 38 ∧ 30 ∉ CR ∧ ∀ x ∈ FR, x.1 ≠ 30) : zLmu N := by
  obtain ⟨P, mv, T, d', hn', hW', hr, hs⟩ := h
  have e : d' = d := by
    rw [hn] at hn'
    have := Option.some.inj hn'
    omega
  subst e
  exact ⟨P, mv, T, d', by rw [hf.2.2.1]; exact hn, hf.w hW, hr.hi (fun q hq => hf.hi hW hc hq) hf.1 hf.2.1, hs.fr hW hf hk⟩
theorem zLmu.ref {k : Int} (h : zLmu M) (hg : zGo M N k) (hr : ∀ P mv T, zRSu P mv T M → zRSu P mv T N) : zLmu N := by
  obtain ⟨P, mv, T, d, hn, hW, h1, hs⟩ := h
  exact ⟨P, mv, T, d, by rw [hg.1.2.2.1]; exact hn, hW.same hg.1.1 hg.1.2.1 (fun q j _ => by rw [hg.1.2.2.1]), hr P mv T h1, hs.lo hg.1 hW.2.1⟩
theorem zLmu.tr {b : Nat → Int} {n s : Nat} {k : Int} (h1 : (zTrB b n s ∧ zLmu M) ∨ ∃ P mv T, zTrP b n s P mv T ∧ ∃ d, zf M 0 2 = some (d + 0) ∧ zKW d M ∧ zKSu P mv T d M) (hg : zGo M N k) (h2 : (zTrB b n s ∧ ∀ P mv T, zRSu P mv T M → zRSu P mv T N) ∨ ∃ P mv T, zTrP b n s P mv T ∧ zRSu P mv T N) : zLmu N := by
  rcases h1 with ⟨a1, a2⟩ | ⟨P, mv, T, a1, d, a2, a3, a4⟩
  · rcases h2 with ⟨b1, b2⟩ | ⟨P', mv', T', b1, b2⟩
    · exact a2.ref hg b2
    · exact absurd a1 (zTrG_b b1.g)
  · rcases h2 with ⟨b1, b2⟩ | ⟨P', mv', T', b1, b2⟩
    · exact absurd b1 (zTrG_b a1.g)
    · obtain ⟨rfl, rfl, rfl⟩ := zTrP_u a1 b1
      exact ⟨P, mv, T, d, by rw [hg.1.2.2.1]; exact a2, a3.same hg.1.1 hg.1.2.1 (fun q j _ => by rw [hg.1.2.2.1]), b2, a4.lo hg.1 a3.2.1⟩
end ZLU
def zqTrU (d d2 : Nat) (b : Nat → Int) (n : Nat) (M : zMem) : Option Value → zMem → Prop := fun r N => ∃ v : Int, r = some (.int (Int32.ofInt v)) ∧ zn32 v ∧ ze N 1 1 = 0 ∧ zSwp d d2 M N ∧ ((v = -1 ∧ zTrB b n (zru zpB b n 0) ∧ zf N = zf M ∧ ∀ q, d2 ≤ q → q < d2 + 38 → zi N q = zi M q) ∨ ∃ P : Nat, ∃ mv : List Nat, ∃ T : zGT, zTrP b n (zru zpB b n 0) P mv T ∧ v = (gN T : Int) ∧ (zf N 0 2 = some (d + 0) ∧ zf N 0 3 = some (d2 + 0)) ∧ zKSu P mv T d N)
theorem zk_swapU {l : Launch} {d d2 P : Nat} {mv : List Nat} {T : zGT} {b : Nat → Int} {n : Nat} {X : Nat × Nat} {M N : zMem} {x : Int} {FA : List (Nat × Nat)} {CA : List Nat} {FR : List (Nat × Nat)} {CR : List Nat} (hf : zFc d FA CA FR CR M N) (hW : zKW d M) (hnow : zf M 0 2 = some (d2 + 0)) (hc : (∀ x ∈ FA, x.1 < 81) ∧ ∀ x ∈ CA, x < 81) (hl : ze N 1 1 = 0) (hp : zTrP b n (zru zpB b n 0) P mv T) (hsu : zKS P mv T d N ∧ ze N (d + 28) 4 = 0) : zW l m_T_troupe X N 71 [some (.ref 0), some (.ref (d + 0)), some (.int (Int32.ofInt x))] [] (zqTrU d d2 b n M) := by
  have hs := hsu.1
  have hWN := hf.w hW
  have hd := hW.2.1
  have hn2 := hf.sp hnow
  refine zw_aload_n (pc := 71) (n := 0) (x := 0) rfl (zdal_p dlA_T_troupe_68 (i := 13) rfl) ?_
  refine zw_aload_n (pc := 72) (n := 0) (x := 0) rfl (zdal_p dlA_T_troupe_68 (i := 14) rfl) ?_
  refine zw_getF (pc := 73) f_T_28 rfl (hWN.ka (o := 0) (by decide)) hn2 (zdal_p dlA_T_troupe_68 (i := 15) rfl) ?_
  refine zw_putR (pc := 76) (x := d2 + 0) (Or.inl ⟨f_T_32, rfl⟩) rfl (hWN.ka (o := 0) (by decide)) (fun _ => rfl) (fun _ => rfl) (zdal_p dlA_T_troupe_68 (i := 16) rfl) ?_
  refine zw_aload_n (pc := 79) (n := 0) (x := 0) rfl (zdal_p dlA_T_troupe_68 (i := 17) rfl) ?_
  refine zw_aload_n (pc := 80) (n := 1) (x := d + 0) rfl (zdal_p dlA_T_troupe_68 (i := 18) rfl) ?_
  refine zw_putR (pc := 81) (x := d + 0) (Or.inl ⟨f_T_28, rfl⟩) rfl (hWN.ka (o := 0) (by decide)) (fun _ => rfl) (fun _ => rfl) (zdal_p dlA_T_troupe_68 (i := 19) rfl) ?_
  refine zw_aload_n (pc := 84) (n := 0) (x := 0) rfl (zdal_p dlA_T_troupe_68 (i := 20) rfl) ?_
  refine zw_getF (pc := 85) (r := d + 0) f_T_28 rfl (hWN.ka (o := 0) (by decide)) (show zup2 (zup2 (zf N) 0 3 (some (d2 + 0))) 0 2 (some (d + 0)) 0 2 = some (d + 0) from zup2_s) (zdal_p dlA_T_troupe_68 (i := 21) rfl) ?_
  have hg : zf (zsF (zsF N 0 3 (some (d2 + 0))) 0 2 (some (d + 0))) (d + 0) 0 = some (d + 1) := by
    show zup2 (zup2 (zf N) 0 3 _) 0 2 _ (d + 0) 0 = _
    rw [zup2_q (by omega), zup2_q (by omega)]
    exact hWN.lr (o := 0) (s := 0) (r := 1) (by decide)
  refine zw_getF (pc := 88) f_T_61 rfl (hWN.kr (o := 0) (by decide)) hg (zdal_p dlA_T_troupe_68 (i := 22) rfl) ?_
  refine zw_getI (pc := 91) f_T_65 rfl (hWN.kr (o := 1) (by decide)) (zdal_p dlA_T_troupe_68 (i := 23) rfl) ?_
  have hu1 : zup2 (zup2 (zf N) 0 3 (some (d2 + 0))) 0 2 (some (d + 0)) 0 2 = some (d + 0) := zup2_s
  have hu2 : zup2 (zup2 (zf N) 0 3 (some (d2 + 0))) 0 2 (some (d + 0)) 0 3 = some (d2 + 0) := by
    rw [zup2_n (fun z => absurd z.2 (by decide))]
    exact zup2_s
  have hsz := hs.2.1.2.1
  refine zw_iret (S := []) (pc := 94) (ty := .int) rfl rfl (zdal_p dlA_T_troupe_69 (i := 0) rfl) ⟨ze N (d + 1) 7, ?_, ze_r N (d + 1) 7, hl, ?_, Or.inr ⟨P, mv, T, hp, hsz, ⟨hu1, hu2⟩, hs, Or.inl hsu.2⟩⟩
  · show some (Value.int (zi N (d + 1) 7)) = _
    rw [ze_of]
  · have h0 := zSwp_0 (d2 := d2) hf hW hc
    obtain ⟨a1, a2, a3, a4⟩ := h0
    have hfN : ∀ q j, ¬ (q = 0 ∧ (j = 2 ∨ j = 3)) → zf (zsF (zsF N 0 3 (some (d2 + 0))) 0 2 (some (d + 0))) q j = zf M q j := fun q j hqj => by
      show zup2 (zup2 (zf N) 0 3 _) 0 2 _ q j = _
      rw [zup2_n (fun z => hqj ⟨z.1, Or.inl z.2⟩), zup2_n (fun z => hqj ⟨z.1, Or.inr z.2⟩), hf.2.2.1]
    exact ⟨a1, a2, fun q hq => ⟨(a3 q hq).1, (a3 q hq).2.1, funext fun j => hfN q j (fun z => by omega)⟩, Or.inr ⟨hu1, hu2, hfN⟩⟩
theorem zyE_u {f g : Nat → Nat} {u w : Int} {P : Nat → Prop} (h : zyE f 0 u P) (h' : zyE g 0 w P) (u0 : 0 ≤ u) (w0 : 0 ≤ w) : u = w ∧ ∀ i : Nat, (i : Int) < u → f i = g i := by
  obtain ⟨a, rfl⟩ := Int.eq_ofNat_of_zero_le u0
  obtain ⟨b, rfl⟩ := Int.eq_ofNat_of_zero_le w0
  have h2 := zrise (u := f) (w := g) (A := a) (B := b) (fun i j hij hj => h.1 i j (by omega) hij (by omega)) (fun i j hij hj => h'.1 i j (by omega) hij (by omega)) (fun i hi => by
    obtain ⟨j, -, j1, j2⟩ := (h'.2 (f i)).mpr ((h.2 (f i)).mp ⟨i, by omega, by omega, rfl⟩)
    exact ⟨j, by omega, j2⟩) (fun i hi => by
    obtain ⟨j, -, j1, j2⟩ := (h.2 (g i)).mpr ((h'.2 (g i)).mp ⟨i, by omega, by omega, rfl⟩)
    exact ⟨j, by omega, j2⟩)
  exact ⟨by rw [h2.1], fun i hi => h2.2 i (by omega)⟩
theorem zUf_y {T : zGT} {d : Nat} {M : zMem} (h : zUf (zUS T) d M) : zyE (zUk d M) 0 ((2 ^ (ze M (d + 28) 3).toNat : Nat) : Int) (zUS T) := by
  obtain ⟨⟨a1, a2, a3, a4⟩, pv, hp⟩ := h
  refine ⟨fun i j _ hij hj => zkth_lt hp hij (by omega), fun x => ?_⟩
  constructor
  · rintro ⟨i, -, -, rfl⟩
    exact (a4 _).mp zkth_s
  · intro hx
    obtain ⟨k, k1, k2⟩ := zkth_x ((a4 _).mpr hx)
    exact ⟨k, by omega, by omega, k2⟩
theorem zyO_y {T : zGT} {M : zMem} {u : Int} (hT : T ∈ gTabs) (hA : gGr T) (h : zyO T M (gF T).length u) : zyE (zuw M) 0 u (zUS T) := zyE_p h (fun x => by
  unfold zyL zUS
  refine and_congr_right fun _ => ?_
  have h1 := gun hT hA (r := x) (j := 0)
  constructor
  · exact fun q i hi => h1.mp (fun i' _ h2 => q i' (by omega) h2) i (by omega) hi
  · exact fun q i _ hi => h1.mpr (fun i' _ h2 => q i' h2) i (by omega) hi)
def zfUt (T : zGT) (a b v : Int) : Prop := (¬ (0 ≤ b ∧ b < ((gF T).length : Int)) ∧ v = (-1000000 : Int)) ∨ ∃ (u : Int) (f : Nat → Nat), 0 ≤ u ∧ zyE f 0 u (zUS T) ∧ ((((0 ≤ a ∧ a < u) ∧ 0 ≤ b ∧ b < ((gF T).length : Int)) ∧ z32w v (zsq (gF T).length (gmkI T) (zyg T (f a.toNat)) b.toNat)) ∨ (¬ ((0 ≤ a ∧ a < u) ∧ 0 ≤ b ∧ b < ((gF T).length : Int)) ∧ v = (-1000000 : Int)))
theorem zfUt_u {T : zGT} {a b v w : Int} (h : zfUt T a b v) (h' : zfUt T a b w) : v = w := by
  rcases h with ⟨c1, c2⟩ | ⟨u1, f, u0, h1, h2⟩
  · rcases h' with ⟨d1, d2⟩ | ⟨w1, g, w0, h3, h4⟩
    · rw [c2, d2]
    · rcases h4 with ⟨d1, d2⟩ | ⟨d1, d2⟩
      · exact absurd d1.2 c1
      · rw [c2, d2]
  · rcases h' with ⟨d1, d2⟩ | ⟨w1, g, w0, h3, h4⟩
    · rcases h2 with ⟨c1, c2⟩ | ⟨c1, c2⟩
      · exact absurd c1.2 d1
      · rw [c2, d2]
    · obtain ⟨e1, e2⟩ := zyE_u h1 h3 u0 w0
      rw [← e1] at h4
      rcases h2 with ⟨c1, c2⟩ | ⟨c1, c2⟩
      · rcases h4 with ⟨d1, d2⟩ | ⟨d1, d2⟩
        · rw [← e2 a.toNat (by omega)] at d2
          exact z32w_u c2 d2 rfl
        · exact absurd c1 d1
      · rcases h4 with ⟨d1, d2⟩ | ⟨d1, d2⟩
        · exact absurd d1 c1
        · rw [c2, d2]
