/-! the landed part's tables of a group -/
def zRw (d o : Nat) (Mz : zMem) : Nat → Int := fun j => ze Mz (d + o) j
theorem zRw_w {d o : Nat} {Mz Nz : zMem} {t v : Int} (h : Nz = zsI Mz (d + o) t.toNat (Int32.ofInt v)) (hv : zn32 v) : ∀ j, zRw d o Nz j = zst (zRw d o Mz) t.toNat v j := fun j => by
  unfold zst zRw
  by_cases g : j = t.toNat
  · rw [if_pos g, g]
    exact zs_get h hv
  · rw [if_neg g]
    exact zs_oth h g
def zGc (mv : List Nat) (P : Nat) (T : zGT) (d : Nat) (Mz : zMem) : Prop := gTb mv (zCo P d Mz) T ∧ ze Mz (d + 1) 7 = (gN T : Int) ∧ ∀ i, i < gN T → zkv P (ze Mz (d + 5) i)
def zTt (T : zGT) (d : Nat) (Mz : zMem) : Prop := ze Mz (d + 1) 7 = (gN T : Int) ∧ (∀ x y, x < gN T → y < gN T → ze Mz (d + 7) (24 * x + y) = ((gm T x y : Nat) : Int)) ∧ ∀ x, x < gN T → ze Mz (d + 9) x = ((gi T x : Nat) : Int)
def zPkK (T : zGT) (d : Nat) (Mz : zMem) (a b : Int) : Prop := (∀ x y : Nat, x < gN T → y < gN T → ((x : Int) < a ∨ ((x : Int) = a ∧ (y : Int) < b)) → ze Mz (d + 7) (24 * x + y) = ((gm T x y : Nat) : Int)) ∧ ∀ x : Nat, x < gN T → (x : Int) < a → ze Mz (d + 9) x = ((gi T x : Nat) : Int)
def zPv (T : zGT) (d : Nat) (Mz : zMem) (a b : Int) : Prop := (∀ y : Nat, (y : Int) < b → gm T a.toNat y ≠ 0) ∨ ze Mz (d + 9) a.toNat = ((gup (giF T a.toNat) 0 b.toNat : Nat) : Int)
section ZKQ
variable {d P : Nat} {T : zGT} {mv : List Nat} {FA : List (Nat × Nat)} {CA : List Nat} {FR : List (Nat × Nat)} {CR : List Nat} {Mz Nz : zMem} {a b : Int}
theorem zGc.fr (_ : zKW d Mz) (hf : zFc d FA CA FR CR Mz Nz) (h : zGc mv P T d Mz) (hd : (1 < 38 ∧ 1 ∉ CR ∧ (1, 7) ∉ FR) ∧ 5 < 38 ∧ 5 ∉ CR ∧ ∀ x ∈ FR, x.1 ≠ 5) : zGc mv P T d Nz := by
  have e : zCo P d Nz = zCo P d Mz := funext fun i => by
    unfold zCo
    rw [hf.r hd.2]
  unfold zGc
  rw [hf.e hd.1, e]
  exact ⟨h.1, h.2.1, fun i hi => by rw [hf.r hd.2]; exact h.2.2 i hi⟩
theorem zTt.fr (_ : zKW d Mz) (hf : zFc d FA CA FR CR Mz Nz) (h : zTt T d Mz) (hd : (1 < 38 ∧ 1 ∉ CR ∧ (1, 7) ∉ FR) ∧ (7 < 38 ∧ 7 ∉ CR ∧ ∀ x ∈ FR, x.1 ≠ 7) ∧ 9 < 38 ∧ 9 ∉ CR ∧ ∀ x ∈ FR, x.1 ≠ 9) : zTt T d Nz := by
  unfold zTt
  rw [hf.e hd.1]
  exact ⟨h.1, fun x y hx hy => by rw [hf.r hd.2.1]; exact h.2.1 x y hx hy, fun x hx => by rw [hf.r hd.2.2]; exact h.2.2 x hx⟩
theorem zGg.s (h : zGg mv P d Mz) : zSoK (fun x => x) (zRw d 5 Mz) (zRw d 5 Mz) (ze Mz (d + 1) 7).toNat 1 := by
  obtain ⟨h1, h2, h3, h4, h5⟩ := h
  have key : ∀ i j : Nat, i < j → (j : Int) < ze Mz (d + 1) 7 → ze Mz (d + 5) i ≠ ze Mz (d + 5) j := fun i j hij hj e => h4 i j hij hj (by unfold zCo; rw [e])
  refine zSo_0 (fun a b ha hb hab => ?_)
  rcases Nat.lt_or_ge a b with g | g
  · exact key a b g (by omega)
  · exact fun e => key b a (by omega) (by omega) e.symm
/-- in order: the table is one of those told -/
theorem zGg.t (h : zGg mv P d Mz) (hp : ∀ g ∈ mv, gpm g) {i : Nat} (hs : zSoK (fun x => x) (zRw d 5 Mz) (zRw d 5 Nz) (ze Mz (d + 1) 7).toNat i) (hi : (ze Mz (d + 1) 7).toNat ≤ i) (h7 : ze Nz (d + 1) 7 = ze Mz (d + 1) 7) : ∃ T, zGc mv P T d Nz := by
  obtain ⟨h1, h2, h3, h4, h5⟩ := h
  obtain ⟨a1, a2, a3⟩ := hs
  have hv : ∀ j : Nat, (j : Int) < ze Mz (d + 1) 7 → zkv P (ze Nz (d + 5) j) := fun j hj => by
    obtain ⟨k, hk, e⟩ := (a1 (ze Nz (d + 5) j)).mp ⟨j, by omega, rfl⟩
    have e' : ze Mz (d + 5) k = ze Nz (d + 5) j := e
    rw [← e']
    exact h1 k (by omega)
  have hset : ∀ x, gGen mv x ↔ ∃ j, j < (ze Mz (d + 1) 7).toNat ∧ zCo P d Nz j = x := fun x => by
    rw [h3 x]
    constructor
    · rintro ⟨k, hk, rfl⟩
      obtain ⟨j, hj, e⟩ := (a1 (ze Mz (d + 5) k)).mpr ⟨k, by omega, rfl⟩
      have e' : ze Nz (d + 5) j = ze Mz (d + 5) k := e
      exact ⟨j, hj, by unfold zCo; rw [e']⟩
    · rintro ⟨j, hj, rfl⟩
      obtain ⟨k, hk, e⟩ := (a1 (ze Nz (d + 5) j)).mp ⟨j, hj, rfl⟩
      have e' : ze Mz (d + 5) k = ze Nz (d + 5) j := e
      exact ⟨k, by omega, by unfold zCo; rw [e']⟩
  obtain ⟨T, hT, hn⟩ := gTb_i hp h5 hset (fun x y hxy hy => by
    have := a3 x y hxy (by omega)
    unfold zCo
    exact (zkc_l (hv x (by omega)).1 (hv y (by omega)).1).mpr this)
  exact ⟨T, hT, by omega, fun j hj => hv j (by omega)⟩
/-- products found -/
theorem zGc.v (h : zGc mv P T d Mz) (hP : P ≤ 6) (ha : 0 ≤ a ∧ a < ze Mz (d + 1) 7) (hb : 0 ≤ b ∧ b < ze Mz (d + 1) 7) {x y z v : Int} (hy : y = ze Mz (d + 5) a.toNat) (hz : z = ze Mz (d + 5) b.toNat) (hx : x = ((zbe P y z : Nat) : Int)) : (0 ≤ v → v < ze Mz (d + 1) 7 → ze Mz (d + 5) v.toNat = x → v = ((gm T a.toNat b.toNat : Nat) : Int)) ∧ ¬ ∀ i : Nat, (i : Int) < ze Mz (d + 1) 7 → ze Mz (d + 5) i ≠ x := by
  obtain ⟨⟨a1, a2, a3, a4, a5⟩, h7, hk⟩ := h
  obtain ⟨p1, p2⟩ := a4 a.toNat b.toNat (by omega) (by omega)
  have ka := hk a.toNat (by omega)
  have kb := hk b.toNat (by omega)
  rw [← hy] at ka
  rw [← hz] at kb
  have e : zkc P x = zCo P d Mz (gm T a.toNat b.toNat) := by
    rw [p2, hx, zbe_c hP ka kb, hy, hz]
    rfl
  have x0 : 0 ≤ x := by omega
  have em : ze Mz (d + 5) (gm T a.toNat b.toNat) = x := ((zkc_i (hk _ p1).1 x0).mp e.symm)
  refine ⟨fun v0 v1 hv => ?_, fun hn => hn _ (by omega) em⟩
  have e2 : zCo P d Mz v.toNat = zCo P d Mz (gm T a.toNat b.toNat) := by
    unfold zCo
    rw [hv, em]
  rcases Nat.lt_trichotomy v.toNat (gm T a.toNat b.toNat) with g | g | g
  · have := a3 _ _ g p1
    omega
  · omega
  · have := a3 _ _ g (by omega)
    omega
theorem zPkK_0 : zPkK T d Mz 0 0 := ⟨fun x y _ _ h => absurd h (by omega), fun x _ h => absurd h (by omega)⟩
theorem zPv_0 : zPv T d Mz a 0 := Or.inl (fun y h => absurd h (by omega))
theorem zPk_s {v : Int} (h24 : gN T ≤ 24) (a0 : 0 ≤ a) (b0 : 0 ≤ b) (bn : b < (gN T : Int)) (an : a < (gN T : Int)) (h : zPkK T d Mz a b) (hu : zPv T d Mz a b) (hv : v = ((gm T a.toNat b.toNat : Nat) : Int)) (v1 : v < 24) (hN : Nz = zsI Mz (d + 7) (a * 24 + b).toNat (Int32.ofInt v)) (h9 : ∀ j : Nat, ze Nz (d + 9) j = ze Mz (d + 9) j) : zPkK T d Nz a (b + 1) ∧ zPv T d Nz a b := by
  refine ⟨⟨fun x y hx hy hd => ?_, fun x hx hxa => ?_⟩, ?_⟩
  · by_cases g : (x : Int) = a ∧ (y : Int) = b
    · rw [show 24 * x + y = (a * 24 + b).toNat by omega, zs_get hN ⟨by omega, by omega⟩, hv, show a.toNat = x by omega, show b.toNat = y by omega]
    · rw [zs_oth hN (by omega)]
      exact h.1 x y hx hy (by omega)
  · rw [h9]
    exact h.2 x hx hxa
  · unfold zPv
    rw [h9]
    exact hu
theorem zPv_n (b0 : 0 ≤ b) (hu : zPv T d Mz a b) (hz : gm T a.toNat b.toNat ≠ 0) : zPv T d Mz a (b + 1) := by
  unfold zPv at hu ⊢
  rw [show (b + 1).toNat = b.toNat + 1 by omega]
  rcases hu with h | h
  · refine Or.inl (fun y hy => ?_)
    by_cases g : (y : Int) = b
    · rw [show y = b.toNat by omega]
      exact hz
    · exact h y (by omega)
  · refine Or.inr ?_
    show _ = ((giF T a.toNat b.toNat (gup (giF T a.toNat) 0 b.toNat) : Nat) : Int)
    unfold giF at h ⊢
    rw [if_neg hz]
    exact h
theorem zPv_s (h24 : gN T ≤ 24) (a0 : 0 ≤ a) (b0 : 0 ≤ b) (b1 : b < 24) (h : zPkK T d Mz a (b + 1)) (hz : gm T a.toNat b.toNat = 0) (hN : Nz = zsI Mz (d + 9) a.toNat (Int32.ofInt b)) (h7 : ∀ j : Nat, ze Nz (d + 7) j = ze Mz (d + 7) j) : zPkK T d Nz a (b + 1) ∧ zPv T d Nz a (b + 1) := by
  refine ⟨⟨fun x y hx hy hd => by rw [h7]; exact h.1 x y hx hy hd, fun x hx hxa => ?_⟩, Or.inr ?_⟩
  · rw [zs_oth hN (by omega)]
    exact h.2 x hx hxa
  · rw [zs_get hN ⟨by omega, by omega⟩, show (b + 1).toNat = b.toNat + 1 by omega]
    show _ = ((giF T a.toNat b.toNat (gup (giF T a.toNat) 0 b.toNat) : Nat) : Int)
    unfold giF
    rw [if_pos hz]
    omega
theorem zPk_n (hi : ∀ x, x < gN T → gi T x < gN T ∧ gm T x (gi T x) = 0) (a0 : 0 ≤ a) (an : a < (gN T : Int)) (h : zPkK T d Mz a b) (hu : zPv T d Mz a b) (hb : b = (gN T : Int)) : zPkK T d Mz (a + 1) 0 := by
  refine ⟨fun x y hx hy hd => h.1 x y hx hy (by omega), fun x hx hxa => ?_⟩
  by_cases g : (x : Int) = a
  · have e : a.toNat = x := by omega
    unfold zPv at hu
    rw [e] at hu
    rcases hu with hu | hu
    · have := hi x hx
      exact absurd this.2 (hu _ (by omega))
    · rw [hu, hb, Int.toNat_natCast]
      rfl
  · exact h.2 x hx (by omega)
theorem zPk_e (h7 : ze Mz (d + 1) 7 = (gN T : Int)) (h : zPkK T d Mz a 0) (ha : (gN T : Int) ≤ a) : zTt T d Mz := ⟨h7, fun x y hx hy => h.1 x y hx hy (by omega), fun x hx => h.2 x hx (by omega)⟩
end ZKQ
/-! 46f -/
set_option maxHeartbeats 4000000 in
theorem u_Group_settle (l : Launch) (d_ : Nat) (Mz : zMem) (hW : zKW d_ Mz) (P_ : Nat) (mv_ : List Nat) (hpm_ : ∀ g ∈ mv_, gpm g) (p0_ : zMvK mv_ P_ d_ Mz) (p1_ : zGg mv_ P_ d_ Mz) : zC l m_Group_settle 0 0 [.ref (d_ + 1)] Mz (zqcV d_ [] [] [] [5, 7, 9] Mz (fun N => (∃ T : zGT, zTm mv_ T ∧ zTt T d_ N))) := by
  refine zC_of (L0 := [some (.ref (d_ + 1)), none, none, none]) md_Group_settle (Nat.le_of_ble_eq_true rfl) rfl ?_ zQ0
  have hf : zFc d_ [] [] [] [5, 7, 9] Mz Mz := zFc.rf
  have r_D1_5 := ze_r Mz (d_ + 1) 5
  have r_D1_7 := ze_r Mz (d_ + 1) 7
  obtain ⟨⟨hP0_, hP1_, hP6_⟩, hc1_, hc2_, hc3_⟩ := id p0_
  have hs0_ := p1_.s
  have hs24_ := p1_.2.1
  refine zw_iconst (pc := 0) (v := Int32.ofInt 1) (by decide) d_Group_settle_0 ?_
  refine zw_istore_n (pc := 1) (i := 1) (L2 := [some (.ref (d_ + 1)), some (.int (Int32.ofInt 1)), none, none]) rfl (by decide) rfl d_Group_settle_1 ?_
  have lp_2 : ∀ (n : Nat) (u1_ : Int) (hu1_a : -2147483648 ≤ u1_) (hu1_b : u1_ < 2147483648) (N2_ : zMem) (hs3_ : zFc d_ [] [] [] [5] Mz N2_) (i4_ : 1 ≤ u1_) (i5_ : zSoK (fun x_ => x_) (zRw d_ 5 Mz) (zRw d_ 5 N2_) (ze Mz (d_ + 1) 7).toNat (u1_).toNat), (ze Mz (d_ + 1) 7 - u1_).toNat < n → zW l m_Group_settle (zn Mz + 0, zw Mz + 0) N2_ 2 [some (.ref (d_ + 1)), some (.int (Int32.ofInt u1_)), none, none] [] (zqcV d_ [] [] [] [5, 7, 9] Mz (fun N => (∃ T : zGT, zTm mv_ T ∧ zTt T d_ N))) := by
    intro n
    induction n with
    | zero =>
      intro u1_ hu1_a hu1_b N2_ hs3_ i4_ i5_ h0
      exact absurd h0 (Nat.not_lt_zero _)
    | succ n ih_2 =>
      intro u1_ hu1_a hu1_b N2_ hs3_ i4_ i5_ hlt_2
      have hf_N2_ : zFc d_ [] [] [] [5, 7, 9] Mz N2_ := hf.tr hs3_ (by decide) (by decide) (by decide) (by decide)
      have eD1_5_N2_ : ze N2_ (d_ + 1) 5 = ze Mz (d_ + 1) 5 := hs3_.e (by decide)
      have eD1_7_N2_ : ze N2_ (d_ + 1) 7 = ze Mz (d_ + 1) 7 := hs3_.e (by decide)
      have c6_ : zMvK mv_ P_ d_ N2_ := zMvK.fr (hf.w hW) hs3_ p0_ (by decide)
      have hso_ := (show zSoK (fun x_ => x_) (zRw d_ 5 Mz) (zRw d_ 5 N2_) (ze Mz (d_ + 1) 7).toNat (u1_).toNat by assumption)
      refine zw_iload_n (pc := 2) (n := 1) (x := Int32.ofInt u1_) rfl d_Group_settle_2 ?_
      refine zw_aload_n (pc := 3) (n := 0) (x := (d_ + 1)) rfl d_Group_settle_3 ?_
      refine zk_getI (pc := 4) f_Group_39 rfl ((hf_N2_.w hW).kr (o := 1) (by decide)) d_Group_settle_4 ?_
      rw [hf_N2_.e (by decide)]
      refine zr_icmp_ge (pc := 7) (tgt := 78) ⟨hu1_a, hu1_b⟩ ⟨(ze_r Mz (d_ + 1) 7).1, (ze_r Mz (d_ + 1) 7).2⟩ (by decide) d_Group_settle_7 (fun hc_7 => ?_) (fun hc_7 => ?_)
      · skip
        obtain ⟨T_, hgc_⟩ := p1_.t hpm_ hso_ (by omega) (by omega)
        obtain ⟨hgb1_, hgb2_, hgb3_⟩ := id hgc_
        obtain ⟨hb1_, hb2_, hb3_, hb4_, hb5_⟩ := id hgb1_
        refine zw_iconst (pc := 78) (v := Int32.ofInt 0) (by decide) d_Group_settle_78 ?_
        refine zw_istore_n (pc := 79) (i := 1) (L2 := [some (.ref (d_ + 1)), some (.int (Int32.ofInt 0)), none, none]) rfl (by decide) rfl d_Group_settle_79 ?_
        have lp_80 : ∀ (n : Nat) (u7_ : Int) (hu7_a : -2147483648 ≤ u7_) (hu7_b : u7_ < 2147483648) (N8_ : zMem) (hs9_ : zFc d_ [] [] [] [7, 9] N2_ N8_) (i10_ : 0 ≤ u7_) (i11_ : zPkK T_ d_ N8_ u7_ 0) (i12_ : zGc mv_ P_ T_ d_ N8_), (ze Mz (d_ + 1) 7 - u7_).toNat < n → zW l m_Group_settle (zn Mz + 0, zw Mz + 0) N8_ 80 [some (.ref (d_ + 1)), some (.int (Int32.ofInt u7_)), none, none] [] (zqcV d_ [] [] [] [5, 7, 9] Mz (fun N => (∃ T : zGT, zTm mv_ T ∧ zTt T d_ N))) := by
          intro n
          induction n with
          | zero =>
            intro u7_ hu7_a hu7_b N8_ hs9_ i10_ i11_ i12_ h0
            exact absurd h0 (Nat.not_lt_zero _)
          | succ n ih_80 =>
            intro u7_ hu7_a hu7_b N8_ hs9_ i10_ i11_ i12_ hlt_80
            have hf_N8_ : zFc d_ [] [] [] [5, 7, 9] Mz N8_ := hf_N2_.tr hs9_ (by decide) (by decide) (by decide) (by decide)
            have eD1_5_N8_ : ze N8_ (d_ + 1) 5 = ze N2_ (d_ + 1) 5 := hs9_.e (by decide)
            have eD1_7_N8_ : ze N8_ (d_ + 1) 7 = ze N2_ (d_ + 1) 7 := hs9_.e (by decide)
            have c13_ : zMvK mv_ P_ d_ N8_ := zMvK.fr (hf_N2_.w hW) hs9_ c6_ (by decide)
            have hpk_ := (show zPkK T_ d_ N8_ u7_ 0 by assumption)
            refine zw_iload_n (pc := 80) (n := 1) (x := Int32.ofInt u7_) rfl d_Group_settle_80 ?_
            refine zw_aload_n (pc := 81) (n := 0) (x := (d_ + 1)) rfl d_Group_settle_81 ?_
            refine zk_getI (pc := 82) f_Group_39 rfl ((hf_N8_.w hW).kr (o := 1) (by decide)) d_Group_settle_82 ?_
            rw [hf_N8_.e (by decide)]
            refine zr_icmp_ge (pc := 85) (tgt := 162) ⟨hu7_a, hu7_b⟩ ⟨(ze_r Mz (d_ + 1) 7).1, (ze_r Mz (d_ + 1) 7).2⟩ (by decide) d_Group_settle_85 (fun hc_85 => ?_) (fun hc_85 => ?_)
            · skip
              exact zk_vret (pc := 162) rfl hf_N8_ (show (∃ T : zGT, zTm mv_ T ∧ zTt T d_ N8_) by exact ⟨T_, ⟨_, hb1_, hb2_, hb3_, hb4_, hb5_⟩, zPk_e (by omega) hpk_ (by omega)⟩) d_Group_settle_162
            · skip
              refine zw_iconst (pc := 88) (v := Int32.ofInt 0) (by decide) d_Group_settle_88 ?_
              refine zw_istore_n (pc := 89) (i := 2) (L2 := [some (.ref (d_ + 1)), some (.int (Int32.ofInt u7_)), some (.int (Int32.ofInt 0)), none]) rfl (by decide) rfl d_Group_settle_89 ?_
              have lp_90 : ∀ (n : Nat) (u14_ : Int) (hu14_a : -2147483648 ≤ u14_) (hu14_b : u14_ < 2147483648) (N15_ : zMem) (hs16_ : zFc d_ [] [] [] [7, 9] N8_ N15_) (i17_ : 0 ≤ u14_) (i18_ : u14_ ≤ gN T_) (i19_ : zPkK T_ d_ N15_ u7_ u14_) (i20_ : zPv T_ d_ N15_ u7_ u14_) (i21_ : zGc mv_ P_ T_ d_ N15_), (ze Mz (d_ + 1) 7 - u14_).toNat < n → zW l m_Group_settle (zn Mz + 0, zw Mz + 0) N15_ 90 [some (.ref (d_ + 1)), some (.int (Int32.ofInt u7_)), some (.int (Int32.ofInt u14_)), none] [] (zqcV d_ [] [] [] [5, 7, 9] Mz (fun N => (∃ T : zGT, zTm mv_ T ∧ zTt T d_ N))) := by
                intro n
                induction n with
                | zero =>
                  intro u14_ hu14_a hu14_b N15_ hs16_ i17_ i18_ i19_ i20_ i21_ h0
                  exact absurd h0 (Nat.not_lt_zero _)
                | succ n ih_90 =>
                  intro u14_ hu14_a hu14_b N15_ hs16_ i17_ i18_ i19_ i20_ i21_ hlt_90
                  have hf_N15_ : zFc d_ [] [] [] [5, 7, 9] Mz N15_ := hf_N8_.tr hs16_ (by decide) (by decide) (by decide) (by decide)
                  have hb0_N15_ : zFc d_ [] [] [] [7, 9] N2_ N15_ := hs9_.tr hs16_ (by decide) (by decide) (by decide) (by decide)
                  have eD1_5_N15_ : ze N15_ (d_ + 1) 5 = ze N8_ (d_ + 1) 5 := hs16_.e (by decide)
                  have eD1_7_N15_ : ze N15_ (d_ + 1) 7 = ze N8_ (d_ + 1) 7 := hs16_.e (by decide)
                  have c22_ : zMvK mv_ P_ d_ N15_ := zMvK.fr (hf_N8_.w hW) hs16_ c13_ (by decide)
                  have hpl_ := (show zPkK T_ d_ N15_ u7_ u14_ by assumption)
                  have hpv_ := (show zPv T_ d_ N15_ u7_ u14_ by assumption)
                  refine zw_iload_n (pc := 90) (n := 2) (x := Int32.ofInt u14_) rfl d_Group_settle_90 ?_
                  refine zw_aload_n (pc := 91) (n := 0) (x := (d_ + 1)) rfl d_Group_settle_91 ?_
                  refine zk_getI (pc := 92) f_Group_39 rfl ((hf_N15_.w hW).kr (o := 1) (by decide)) d_Group_settle_92 ?_
                  rw [hf_N15_.e (by decide)]
                  refine zr_icmp_ge (pc := 95) (tgt := 156) ⟨hu14_a, hu14_b⟩ ⟨(ze_r Mz (d_ + 1) 7).1, (ze_r Mz (d_ + 1) 7).2⟩ (by decide) d_Group_settle_95 (fun hc_95 => ?_) (fun hc_95 => ?_)
                  · skip
                    refine zr_iinc (pc := 156) (i := 1) (a := u7_) (n := 1) (L2 := [some (.ref (d_ + 1)), some (.int (Int32.ofInt (u7_ + 1))), some (.int (Int32.ofInt u14_)), none]) rfl (by decide) rfl d_Group_settle_156 ?_
                    refine zw_goto (pc := 159) (tgt := 80) (by decide) d_Group_settle_159 ?_
                    refine zW_le [some (.ref (d_ + 1)), some (.int (Int32.ofInt (u7_ + 1))), none, none] (⟨rfl, rfl, trivial⟩) ?_
                    exact ih_80 (u7_ + 1) (by omega) (by omega) N15_ hb0_N15_ (show 0 ≤ (u7_ + 1) by first | assumption | omega) (show zPkK T_ d_ N15_ (u7_ + 1) 0 by exact zPk_n hb5_ (by omega) (by omega) hpl_ hpv_ (by omega)) i21_ (by omega)
                  · skip
                    refine zw_aload_n (pc := 98) (n := 0) (x := (d_ + 1)) rfl d_Group_settle_98 ?_
                    refine zw_aload_n (pc := 99) (n := 0) (x := (d_ + 1)) rfl d_Group_settle_99 ?_
                    refine zw_aload_n (pc := 100) (n := 0) (x := (d_ + 1)) rfl d_Group_settle_100 ?_
                    refine zw_getF (pc := 101) f_Group_20 rfl ((hf_N15_.w hW).kr (o := 1) (by decide)) ((hf_N15_.w hW).lr (o := 1) (s := 1) (r := 4) (by decide)) d_Group_settle_101 ?_
                    refine zw_iload_n (pc := 104) (n := 1) (x := Int32.ofInt u7_) rfl d_Group_settle_104 ?_
                    refine zk_at hf_N15_.x (pc := 105) l_Group_54 ((hf_N15_.w hW).kr (o := 4) (by decide)) ((hf_N15_.w hW).lr (o := 4) (s := 0) (r := 5) (by decide)) ((hf_N15_.w hW).rr (o := 5) (t := 1) (n := 24) (by decide)) (by decide) (by omega) (by omega) (by decide) (Nat.le_of_ble_eq_true rfl) d_Group_settle_105 (fun v23_ hv23_ hv23_a hv23_b => ?_)
                    have hv1_ := hv23_
                    refine zw_aload_n (pc := 108) (n := 0) (x := (d_ + 1)) rfl d_Group_settle_108 ?_
                    refine zw_getF (pc := 109) f_Group_20 rfl ((hf_N15_.w hW).kr (o := 1) (by decide)) ((hf_N15_.w hW).lr (o := 1) (s := 1) (r := 4) (by decide)) d_Group_settle_109 ?_
                    refine zw_iload_n (pc := 112) (n := 2) (x := Int32.ofInt u14_) rfl d_Group_settle_112 ?_
                    refine zk_at hf_N15_.x (pc := 113) l_Group_54 ((hf_N15_.w hW).kr (o := 4) (by decide)) ((hf_N15_.w hW).lr (o := 4) (s := 0) (r := 5) (by decide)) ((hf_N15_.w hW).rr (o := 5) (t := 1) (n := 24) (by decide)) (by decide) (by omega) (by omega) (by decide) (Nat.le_of_ble_eq_true rfl) d_Group_settle_113 (fun v24_ hv24_ hv24_a hv24_b => ?_)
                    have hv2_ := hv24_
                    have hcc_ := i21_
                    obtain ⟨hcd1_, hcd2_, hcd3_⟩ := id hcc_
                    refine zk_callV hf_N15_.x (pc := 116) [.int (Int32.ofInt v23_), .int (Int32.ofInt v24_)] [.ref (d_ + 1)] l_Group_58 (u_Group_behind l d_ N15_ (hf_N15_.w hW) v23_ hv23_a hv23_b v24_ hv24_a hv24_b P_ (show ze N15_ (d_ + 1) 5 = P_ by first | assumption | omega) (show P_ ≤ 6 by first | assumption | omega) (show zkv P_ v23_ by rw [hv1_]; exact hcd3_ _ (by omega)) (show zkv P_ v24_ by rw [hv2_]; exact hcd3_ _ (by omega))) rfl rfl ((hf_N15_.w hW).kr (o := 1) (by decide)) (by decide) (by decide) (Nat.le_of_ble_eq_true rfl) d_Group_settle_116 ?_
                    rintro _ N25_ ⟨v26_, rfl, ⟨hv26_a, hv26_b⟩, hsN25_, hp0_N25_⟩
                    obtain rfl := hsN25_.eq.symm
                    replace hp0_N25_ : v26_ = (zbe P_ v23_ v24_ : Nat) := hp0_N25_
                    show zW l m_Group_settle (zn Mz + 0, zw Mz + 0) N15_ 119 [some (.ref (d_ + 1)), some (.int (Int32.ofInt u7_)), some (.int (Int32.ofInt u14_)), none] [.int (Int32.ofInt v26_), .ref (d_ + 1)] (zqcV d_ [] [] [] [5, 7, 9] Mz (fun N => (∃ T : zGT, zTm mv_ T ∧ zTt T d_ N)))
                    have hx_ := hp0_N25_
                    have hgv_ := fun v => hcc_.v (v := v) hP6_ (by omega) (by omega) hv1_ hv2_ hx_
                    refine zk_callV hf_N15_.x (pc := 119) [.int (Int32.ofInt v26_)] [] l_Group_61 (u_Group_indexOf l d_ N15_ (hf_N15_.w hW) v26_ hv26_a hv26_b (show 0 ≤ ze N15_ (d_ + 1) 7 by first | assumption | omega) (show ze N15_ (d_ + 1) 7 ≤ 24 by first | assumption | omega)) rfl rfl ((hf_N15_.w hW).kr (o := 1) (by decide)) (by decide) (by decide) (Nat.le_of_ble_eq_true rfl) d_Group_settle_119 ?_
                    rintro _ N27_ ⟨v28_, rfl, ⟨hv28_a, hv28_b⟩, hsN27_, hp0_N27_⟩
                    obtain rfl := hsN27_.eq.symm
                    replace hp0_N27_ : ((v28_ = -1 ∧ (∀ i : Nat, (i : Int) < ze N15_ (d_ + 1) 7 → ze N15_ (d_ + 5) i ≠ v26_)) ∨ (0 ≤ v28_ ∧ v28_ < ze N15_ (d_ + 1) 7 ∧ ze N15_ (d_ + 5) (v28_).toNat = v26_)) := hp0_N27_
                    rcases hp0_N27_ with ⟨rfl, ha119_0_hp0_N27_⟩ | ⟨ha119_0_hp0_N27_, ha119_1_hp0_N27_, ha119_2_hp0_N27_⟩
                    · skip
                      exact absurd ha119_0_hp0_N27_ (hgv_ 0).2
                    · skip
                      have hvm_ := (hgv_ _).1 ha119_0_hp0_N27_ ha119_1_hp0_N27_ ha119_2_hp0_N27_
                      show zW l m_Group_settle (zn Mz + 0, zw Mz + 0) N15_ 122 [some (.ref (d_ + 1)), some (.int (Int32.ofInt u7_)), some (.int (Int32.ofInt u14_)), none] [.int (Int32.ofInt v28_)] (zqcV d_ [] [] [] [5, 7, 9] Mz (fun N => (∃ T : zGT, zTm mv_ T ∧ zTt T d_ N)))
                      refine zw_istore_n (pc := 122) (i := 3) (L2 := [some (.ref (d_ + 1)), some (.int (Int32.ofInt u7_)), some (.int (Int32.ofInt u14_)), some (.int (Int32.ofInt v28_))]) rfl (by decide) rfl d_Group_settle_122 ?_
                      refine zw_aload_n (pc := 123) (n := 0) (x := (d_ + 1)) rfl d_Group_settle_123 ?_
                      refine zw_getF (pc := 124) f_Group_23 rfl ((hf_N15_.w hW).kr (o := 1) (by decide)) ((hf_N15_.w hW).lr (o := 1) (s := 2) (r := 6) (by decide)) d_Group_settle_124 ?_
                      refine zw_iload_n (pc := 127) (n := 1) (x := Int32.ofInt u7_) rfl d_Group_settle_127 ?_
                      refine zw_bipush (pc := 128) (v := Int32.ofInt 24) (by decide) d_Group_settle_128 ?_
                      refine zr_imul (pc := 130) d_Group_settle_130 ?_
                      refine zw_iload_n (pc := 131) (n := 2) (x := Int32.ofInt u14_) rfl d_Group_settle_131 ?_
                      refine zr_iadd (pc := 132) d_Group_settle_132 ?_
                      refine zw_iload_n (pc := 133) (n := 3) (x := Int32.ofInt v28_) rfl d_Group_settle_133 ?_
                      refine zk_st hf_N15_.x (pc := 134) (o := 7) (by decide) l_Group_46 ((hf_N15_.w hW).kr (o := 6) (by decide)) ((hf_N15_.w hW).lr (o := 6) (s := 0) (r := 7) (by decide)) ((hf_N15_.w hW).rr (o := 7) (t := 1) (n := 576) (by decide)) (by decide) (by omega) (by omega) (by decide) (Nat.le_of_ble_eq_true rfl) d_Group_settle_134 (fun N29_ hN29_ hsN29_ => ?_)
                      have hf_N29_ : zFc d_ [] [] [] [5, 7, 9] Mz N29_ := hf_N15_.tr hsN29_ (by decide) (by decide) (by decide) (by decide)
                      have hb0_N29_ : zFc d_ [] [] [] [7, 9] N2_ N29_ := hb0_N15_.tr hsN29_ (by decide) (by decide) (by decide) (by decide)
                      have hb1_N29_ : zFc d_ [] [] [] [7, 9] N8_ N29_ := hs16_.tr hsN29_ (by decide) (by decide) (by decide) (by decide)
                      have eD1_5_N29_ : ze N29_ (d_ + 1) 5 = ze N15_ (d_ + 1) 5 := hsN29_.e (by decide)
                      have eD1_7_N29_ : ze N29_ (d_ + 1) 7 = ze N15_ (d_ + 1) 7 := hsN29_.e (by decide)
                      have c30_ : zMvK mv_ P_ d_ N29_ := zMvK.fr (hf_N15_.w hW) hsN29_ c22_ (by decide)
                      have c31_ : zGc mv_ P_ T_ d_ N29_ := zGc.fr (hf_N15_.w hW) hsN29_ i21_ (by decide)
                      obtain ⟨hk1_, hk2_⟩ := zPk_s (Nz := N29_) (by omega) (by omega) (by omega) (by omega) (by omega) hpl_ hpv_ hvm_ (by omega) hN29_ (fun j => hsN29_.r (by decide) j)
                      refine zw_iload_n (pc := 137) (n := 3) (x := Int32.ofInt v28_) rfl d_Group_settle_137 ?_
                      refine zr_if_ne (pc := 138) (tgt := 150) ⟨hv28_a, hv28_b⟩ (by decide) d_Group_settle_138 (fun hc_138 => ?_) (fun hc_138 => ?_)
                      · skip
                        refine zr_iinc (pc := 150) (i := 2) (a := u14_) (n := 1) (L2 := [some (.ref (d_ + 1)), some (.int (Int32.ofInt u7_)), some (.int (Int32.ofInt (u14_ + 1))), some (.int (Int32.ofInt v28_))]) rfl (by decide) rfl d_Group_settle_150 ?_
                        refine zw_goto (pc := 153) (tgt := 90) (by decide) d_Group_settle_153 ?_
                        refine zW_le [some (.ref (d_ + 1)), some (.int (Int32.ofInt u7_)), some (.int (Int32.ofInt (u14_ + 1))), none] (⟨rfl, rfl, rfl, trivial⟩) ?_
                        exact ih_90 (u14_ + 1) (by omega) (by omega) N29_ hb1_N29_ (show 0 ≤ (u14_ + 1) by first | assumption | omega) (show (u14_ + 1) ≤ gN T_ by first | assumption | omega) (show zPkK T_ d_ N29_ u7_ (u14_ + 1) by first | exact hk3_ | exact hk1_) (show zPv T_ d_ N29_ u7_ (u14_ + 1) by first | exact hk4_ | exact zPv_n (by omega) hk2_ (by omega)) c31_ (by omega)
                      · skip
                        refine zw_aload_n (pc := 141) (n := 0) (x := (d_ + 1)) rfl d_Group_settle_141 ?_
                        refine zw_getF (pc := 142) f_Group_26 rfl ((hf_N29_.w hW).kr (o := 1) (by decide)) ((hf_N29_.w hW).lr (o := 1) (s := 3) (r := 8) (by decide)) d_Group_settle_142 ?_
                        refine zw_iload_n (pc := 145) (n := 1) (x := Int32.ofInt u7_) rfl d_Group_settle_145 ?_
                        refine zw_iload_n (pc := 146) (n := 2) (x := Int32.ofInt u14_) rfl d_Group_settle_146 ?_
                        refine zk_st hf_N29_.x (pc := 147) (o := 9) (by decide) l_Group_46 ((hf_N29_.w hW).kr (o := 8) (by decide)) ((hf_N29_.w hW).lr (o := 8) (s := 0) (r := 9) (by decide)) ((hf_N29_.w hW).rr (o := 9) (t := 1) (n := 24) (by decide)) (by decide) (by omega) (by omega) (by decide) (Nat.le_of_ble_eq_true rfl) d_Group_settle_147 (fun N32_ hN32_ hsN32_ => ?_)
                        have hf_N32_ : zFc d_ [] [] [] [5, 7, 9] Mz N32_ := hf_N29_.tr hsN32_ (by decide) (by decide) (by decide) (by decide)
                        have hb0_N32_ : zFc d_ [] [] [] [7, 9] N2_ N32_ := hb0_N29_.tr hsN32_ (by decide) (by decide) (by decide) (by decide)
                        have hb1_N32_ : zFc d_ [] [] [] [7, 9] N8_ N32_ := hb1_N29_.tr hsN32_ (by decide) (by decide) (by decide) (by decide)
                        have eD1_5_N32_ : ze N32_ (d_ + 1) 5 = ze N29_ (d_ + 1) 5 := hsN32_.e (by decide)
                        have eD1_7_N32_ : ze N32_ (d_ + 1) 7 = ze N29_ (d_ + 1) 7 := hsN32_.e (by decide)
                        have c33_ : zMvK mv_ P_ d_ N32_ := zMvK.fr (hf_N29_.w hW) hsN32_ c30_ (by decide)
                        have c34_ : zGc mv_ P_ T_ d_ N32_ := zGc.fr (hf_N29_.w hW) hsN32_ c31_ (by decide)
                        obtain ⟨hk3_, hk4_⟩ := zPv_s (Nz := N32_) (by omega) (by omega) (by omega) (by omega) hk1_ (by omega) hN32_ (fun j => hsN32_.r (by decide) j)
                        refine zr_iinc (pc := 150) (i := 2) (a := u14_) (n := 1) (L2 := [some (.ref (d_ + 1)), some (.int (Int32.ofInt u7_)), some (.int (Int32.ofInt (u14_ + 1))), some (.int (Int32.ofInt v28_))]) rfl (by decide) rfl d_Group_settle_150 ?_
                        refine zw_goto (pc := 153) (tgt := 90) (by decide) d_Group_settle_153 ?_
                        refine zW_le [some (.ref (d_ + 1)), some (.int (Int32.ofInt u7_)), some (.int (Int32.ofInt (u14_ + 1))), none] (⟨rfl, rfl, rfl, trivial⟩) ?_
                        exact ih_90 (u14_ + 1) (by omega) (by omega) N32_ hb1_N32_ (show 0 ≤ (u14_ + 1) by first | assumption | omega) (show (u14_ + 1) ≤ gN T_ by first | assumption | omega) (show zPkK T_ d_ N32_ u7_ (u14_ + 1) by first | exact hk3_ | exact hk1_) (show zPv T_ d_ N32_ u7_ (u14_ + 1) by first | exact hk4_ | exact zPv_n (by omega) hk2_ (by omega)) c34_ (by omega)
              exact lp_90 _ 0 (by decide) (by decide) N8_ zFc.rf (show 0 ≤ (0 : Int) by first | assumption | omega) (show (0 : Int) ≤ gN T_ by first | assumption | omega) (show zPkK T_ d_ N8_ u7_ (0 : Int) by exact hpk_) (show zPv T_ d_ N8_ u7_ (0 : Int) by exact zPv_0) i12_ (Nat.lt_succ_self _)
        exact lp_80 _ 0 (by decide) (by decide) N2_ zFc.rf (show 0 ≤ (0 : Int) by first | assumption | omega) (show zPkK T_ d_ N2_ (0 : Int) 0 by exact zPkK_0) hgc_ (Nat.lt_succ_self _)
      · skip
        refine zw_aload_n (pc := 10) (n := 0) (x := (d_ + 1)) rfl d_Group_settle_10 ?_
        refine zw_getF (pc := 11) f_Group_20 rfl ((hf_N2_.w hW).kr (o := 1) (by decide)) ((hf_N2_.w hW).lr (o := 1) (s := 1) (r := 4) (by decide)) d_Group_settle_11 ?_
        refine zw_iload_n (pc := 14) (n := 1) (x := Int32.ofInt u1_) rfl d_Group_settle_14 ?_
        refine zk_at hf_N2_.x (pc := 15) l_Group_54 ((hf_N2_.w hW).kr (o := 4) (by decide)) ((hf_N2_.w hW).lr (o := 4) (s := 0) (r := 5) (by decide)) ((hf_N2_.w hW).rr (o := 5) (t := 1) (n := 24) (by decide)) (by decide) (by omega) (by omega) (by decide) (Nat.le_of_ble_eq_true rfl) d_Group_settle_15 (fun v35_ hv35_ hv35_a hv35_b => ?_)
        have hr1_ := hv35_
        have hsj0_ := zSj_0 hso_ (by omega : (u1_).toNat < (ze Mz (d_ + 1) 7).toNat)
        rw [show zRw d_ 5 N2_ (u1_).toNat = v35_ from hr1_.symm] at hsj0_
        refine zw_istore_n (pc := 18) (i := 2) (L2 := [some (.ref (d_ + 1)), some (.int (Int32.ofInt u1_)), some (.int (Int32.ofInt v35_)), none]) rfl (by decide) rfl d_Group_settle_18 ?_
        refine zw_iload_n (pc := 19) (n := 1) (x := Int32.ofInt u1_) rfl d_Group_settle_19 ?_
        refine zw_istore_n (pc := 20) (i := 3) (L2 := [some (.ref (d_ + 1)), some (.int (Int32.ofInt u1_)), some (.int (Int32.ofInt v35_)), some (.int (Int32.ofInt u1_))]) rfl (by decide) rfl d_Group_settle_20 ?_
        have lp_21 : ∀ (n : Nat) (u36_ : Int) (hu36_a : -2147483648 ≤ u36_) (hu36_b : u36_ < 2147483648) (N37_ : zMem) (hs38_ : zFc d_ [] [] [] [5] N2_ N37_) (i39_ : 0 ≤ u36_) (i40_ : u36_ ≤ u1_) (i41_ : zSj (fun x_ => x_) (zRw d_ 5 Mz) (zRw d_ 5 N37_) (ze Mz (d_ + 1) 7).toNat (u1_).toNat (u36_).toNat v35_), (u36_).toNat < n → zW l m_Group_settle (zn Mz + 0, zw Mz + 0) N37_ 21 [some (.ref (d_ + 1)), some (.int (Int32.ofInt u1_)), some (.int (Int32.ofInt v35_)), some (.int (Int32.ofInt u36_))] [] (zqcV d_ [] [] [] [5, 7, 9] Mz (fun N => (∃ T : zGT, zTm mv_ T ∧ zTt T d_ N))) := by
          intro n
          induction n with
          | zero =>
            intro u36_ hu36_a hu36_b N37_ hs38_ i39_ i40_ i41_ h0
            exact absurd h0 (Nat.not_lt_zero _)
          | succ n ih_21 =>
            intro u36_ hu36_a hu36_b N37_ hs38_ i39_ i40_ i41_ hlt_21
            have hf_N37_ : zFc d_ [] [] [] [5, 7, 9] Mz N37_ := hf_N2_.tr hs38_ (by decide) (by decide) (by decide) (by decide)
            have hb0_N37_ : zFc d_ [] [] [] [5] Mz N37_ := hs3_.tr hs38_ (by decide) (by decide) (by decide) (by decide)
            have eD1_5_N37_ : ze N37_ (d_ + 1) 5 = ze N2_ (d_ + 1) 5 := hs38_.e (by decide)
            have eD1_7_N37_ : ze N37_ (d_ + 1) 7 = ze N2_ (d_ + 1) 7 := hs38_.e (by decide)
            have c42_ : zMvK mv_ P_ d_ N37_ := zMvK.fr (hf_N2_.w hW) hs38_ c6_ (by decide)
            have hsj_ := (show zSj (fun x_ => x_) (zRw d_ 5 Mz) (zRw d_ 5 N37_) (ze Mz (d_ + 1) 7).toNat (u1_).toNat (u36_).toNat v35_ by assumption)
            refine zw_iload_n (pc := 21) (n := 3) (x := Int32.ofInt u36_) rfl d_Group_settle_21 ?_
            refine zr_if_le (pc := 22) (tgt := 63) ⟨hu36_a, hu36_b⟩ (by decide) d_Group_settle_22 (fun hc_22 => ?_) (fun hc_22 => ?_)
            · skip
              have hex_ : (u36_).toNat = 0 ∨ ¬ (fun x_ => x_) v35_ < (fun x_ => x_) (zRw d_ 5 N37_ ((u36_).toNat - 1)) := by first | exact Or.inl (by omega) | (refine Or.inr ?_; show ¬ v35_ < ze N37_ (d_ + 5) ((u36_).toNat - 1); rw [show (u36_).toNat - 1 = (u36_ - 1).toNat by omega]; omega)
              refine zw_aload_n (pc := 63) (n := 0) (x := (d_ + 1)) rfl d_Group_settle_63 ?_
              refine zw_getF (pc := 64) f_Group_20 rfl ((hf_N37_.w hW).kr (o := 1) (by decide)) ((hf_N37_.w hW).lr (o := 1) (s := 1) (r := 4) (by decide)) d_Group_settle_64 ?_
              refine zw_iload_n (pc := 67) (n := 3) (x := Int32.ofInt u36_) rfl d_Group_settle_67 ?_
              refine zw_iload_n (pc := 68) (n := 2) (x := Int32.ofInt v35_) rfl d_Group_settle_68 ?_
              refine zk_st hf_N37_.x (pc := 69) (o := 5) (by decide) l_Group_46 ((hf_N37_.w hW).kr (o := 4) (by decide)) ((hf_N37_.w hW).lr (o := 4) (s := 0) (r := 5) (by decide)) ((hf_N37_.w hW).rr (o := 5) (t := 1) (n := 24) (by decide)) (by decide) (by omega) (by omega) (by decide) (Nat.le_of_ble_eq_true rfl) d_Group_settle_69 (fun N43_ hN43_ hsN43_ => ?_)
              have hf_N43_ : zFc d_ [] [] [] [5, 7, 9] Mz N43_ := hf_N37_.tr hsN43_ (by decide) (by decide) (by decide) (by decide)
              have hb0_N43_ : zFc d_ [] [] [] [5] Mz N43_ := hb0_N37_.tr hsN43_ (by decide) (by decide) (by decide) (by decide)
              have eD1_5_N43_ : ze N43_ (d_ + 1) 5 = ze N37_ (d_ + 1) 5 := hsN43_.e (by decide)
              have eD1_7_N43_ : ze N43_ (d_ + 1) 7 = ze N37_ (d_ + 1) 7 := hsN43_.e (by decide)
              have c44_ : zMvK mv_ P_ d_ N43_ := zMvK.fr (hf_N37_.w hW) hsN43_ c42_ (by decide)
              have hse_ := zSj_e hsj_ hex_ (zRw_w hN43_ ⟨by omega, by omega⟩)
              rw [show (u1_).toNat + 1 = (u1_ + 1).toNat by omega] at hse_
              refine zr_iinc (pc := 72) (i := 1) (a := u1_) (n := 1) (L2 := [some (.ref (d_ + 1)), some (.int (Int32.ofInt (u1_ + 1))), some (.int (Int32.ofInt v35_)), some (.int (Int32.ofInt u36_))]) rfl (by decide) rfl d_Group_settle_72 ?_
              refine zw_goto (pc := 75) (tgt := 2) (by decide) d_Group_settle_75 ?_
              refine zW_le [some (.ref (d_ + 1)), some (.int (Int32.ofInt (u1_ + 1))), none, none] (⟨rfl, rfl, trivial⟩) ?_
              exact ih_2 (u1_ + 1) (by omega) (by omega) N43_ hb0_N43_ (show 1 ≤ (u1_ + 1) by first | assumption | omega) (show zSoK (fun x_ => x_) (zRw d_ 5 Mz) (zRw d_ 5 N43_) (ze Mz (d_ + 1) 7).toNat ((u1_ + 1)).toNat by exact hse_) (by omega)
            · skip
              refine zw_aload_n (pc := 25) (n := 0) (x := (d_ + 1)) rfl d_Group_settle_25 ?_
              refine zw_getF (pc := 26) f_Group_20 rfl ((hf_N37_.w hW).kr (o := 1) (by decide)) ((hf_N37_.w hW).lr (o := 1) (s := 1) (r := 4) (by decide)) d_Group_settle_26 ?_
              refine zw_iload_n (pc := 29) (n := 3) (x := Int32.ofInt u36_) rfl d_Group_settle_29 ?_
              refine zw_iconst (pc := 30) (v := Int32.ofInt 1) (by decide) d_Group_settle_30 ?_
              refine zr_isub (pc := 31) d_Group_settle_31 ?_
              refine zk_at hf_N37_.x (pc := 32) l_Group_54 ((hf_N37_.w hW).kr (o := 4) (by decide)) ((hf_N37_.w hW).lr (o := 4) (s := 0) (r := 5) (by decide)) ((hf_N37_.w hW).rr (o := 5) (t := 1) (n := 24) (by decide)) (by decide) (by omega) (by omega) (by decide) (Nat.le_of_ble_eq_true rfl) d_Group_settle_32 (fun v45_ hv45_ hv45_a hv45_b => ?_)
              have hr2_ := hv45_
              refine zw_iload_n (pc := 35) (n := 2) (x := Int32.ofInt v35_) rfl d_Group_settle_35 ?_
              refine zr_icmp_le (pc := 36) (tgt := 63) ⟨hv45_a, hv45_b⟩ ⟨hv35_a, hv35_b⟩ (by decide) d_Group_settle_36 (fun hc_36 => ?_) (fun hc_36 => ?_)
              · skip
                have hex_ : (u36_).toNat = 0 ∨ ¬ (fun x_ => x_) v35_ < (fun x_ => x_) (zRw d_ 5 N37_ ((u36_).toNat - 1)) := by first | exact Or.inl (by omega) | (refine Or.inr ?_; show ¬ v35_ < ze N37_ (d_ + 5) ((u36_).toNat - 1); rw [show (u36_).toNat - 1 = (u36_ - 1).toNat by omega]; omega)
                refine zw_aload_n (pc := 63) (n := 0) (x := (d_ + 1)) rfl d_Group_settle_63 ?_
                refine zw_getF (pc := 64) f_Group_20 rfl ((hf_N37_.w hW).kr (o := 1) (by decide)) ((hf_N37_.w hW).lr (o := 1) (s := 1) (r := 4) (by decide)) d_Group_settle_64 ?_
                refine zw_iload_n (pc := 67) (n := 3) (x := Int32.ofInt u36_) rfl d_Group_settle_67 ?_
                refine zw_iload_n (pc := 68) (n := 2) (x := Int32.ofInt v35_) rfl d_Group_settle_68 ?_
                refine zk_st hf_N37_.x (pc := 69) (o := 5) (by decide) l_Group_46 ((hf_N37_.w hW).kr (o := 4) (by decide)) ((hf_N37_.w hW).lr (o := 4) (s := 0) (r := 5) (by decide)) ((hf_N37_.w hW).rr (o := 5) (t := 1) (n := 24) (by decide)) (by decide) (by omega) (by omega) (by decide) (Nat.le_of_ble_eq_true rfl) d_Group_settle_69 (fun N46_ hN46_ hsN46_ => ?_)
                have hf_N46_ : zFc d_ [] [] [] [5, 7, 9] Mz N46_ := hf_N37_.tr hsN46_ (by decide) (by decide) (by decide) (by decide)
                have hb0_N46_ : zFc d_ [] [] [] [5] Mz N46_ := hb0_N37_.tr hsN46_ (by decide) (by decide) (by decide) (by decide)
                have eD1_5_N46_ : ze N46_ (d_ + 1) 5 = ze N37_ (d_ + 1) 5 := hsN46_.e (by decide)
                have eD1_7_N46_ : ze N46_ (d_ + 1) 7 = ze N37_ (d_ + 1) 7 := hsN46_.e (by decide)
                have c47_ : zMvK mv_ P_ d_ N46_ := zMvK.fr (hf_N37_.w hW) hsN46_ c42_ (by decide)
                have hse_ := zSj_e hsj_ hex_ (zRw_w hN46_ ⟨by omega, by omega⟩)
                rw [show (u1_).toNat + 1 = (u1_ + 1).toNat by omega] at hse_
                refine zr_iinc (pc := 72) (i := 1) (a := u1_) (n := 1) (L2 := [some (.ref (d_ + 1)), some (.int (Int32.ofInt (u1_ + 1))), some (.int (Int32.ofInt v35_)), some (.int (Int32.ofInt u36_))]) rfl (by decide) rfl d_Group_settle_72 ?_
                refine zw_goto (pc := 75) (tgt := 2) (by decide) d_Group_settle_75 ?_
                refine zW_le [some (.ref (d_ + 1)), some (.int (Int32.ofInt (u1_ + 1))), none, none] (⟨rfl, rfl, trivial⟩) ?_
                exact ih_2 (u1_ + 1) (by omega) (by omega) N46_ hb0_N46_ (show 1 ≤ (u1_ + 1) by first | assumption | omega) (show zSoK (fun x_ => x_) (zRw d_ 5 Mz) (zRw d_ 5 N46_) (ze Mz (d_ + 1) 7).toNat ((u1_ + 1)).toNat by exact hse_) (by omega)
              · skip
                refine zw_aload_n (pc := 39) (n := 0) (x := (d_ + 1)) rfl d_Group_settle_39 ?_
                refine zw_getF (pc := 40) f_Group_20 rfl ((hf_N37_.w hW).kr (o := 1) (by decide)) ((hf_N37_.w hW).lr (o := 1) (s := 1) (r := 4) (by decide)) d_Group_settle_40 ?_
                refine zw_iload_n (pc := 43) (n := 3) (x := Int32.ofInt u36_) rfl d_Group_settle_43 ?_
                refine zw_aload_n (pc := 44) (n := 0) (x := (d_ + 1)) rfl d_Group_settle_44 ?_
                refine zw_getF (pc := 45) f_Group_20 rfl ((hf_N37_.w hW).kr (o := 1) (by decide)) ((hf_N37_.w hW).lr (o := 1) (s := 1) (r := 4) (by decide)) d_Group_settle_45 ?_
                refine zw_iload_n (pc := 48) (n := 3) (x := Int32.ofInt u36_) rfl d_Group_settle_48 ?_
                refine zw_iconst (pc := 49) (v := Int32.ofInt 1) (by decide) d_Group_settle_49 ?_
                refine zr_isub (pc := 50) d_Group_settle_50 ?_
                refine zk_at hf_N37_.x (pc := 51) l_Group_54 ((hf_N37_.w hW).kr (o := 4) (by decide)) ((hf_N37_.w hW).lr (o := 4) (s := 0) (r := 5) (by decide)) ((hf_N37_.w hW).rr (o := 5) (t := 1) (n := 24) (by decide)) (by decide) (by omega) (by omega) (by decide) (Nat.le_of_ble_eq_true rfl) d_Group_settle_51 (fun v48_ hv48_ hv48_a hv48_b => ?_)
                have hr3_ := hv48_
                refine zk_st hf_N37_.x (pc := 54) (o := 5) (by decide) l_Group_46 ((hf_N37_.w hW).kr (o := 4) (by decide)) ((hf_N37_.w hW).lr (o := 4) (s := 0) (r := 5) (by decide)) ((hf_N37_.w hW).rr (o := 5) (t := 1) (n := 24) (by decide)) (by decide) (by omega) (by omega) (by decide) (Nat.le_of_ble_eq_true rfl) d_Group_settle_54 (fun N49_ hN49_ hsN49_ => ?_)
                have hf_N49_ : zFc d_ [] [] [] [5, 7, 9] Mz N49_ := hf_N37_.tr hsN49_ (by decide) (by decide) (by decide) (by decide)
                have hb0_N49_ : zFc d_ [] [] [] [5] Mz N49_ := hb0_N37_.tr hsN49_ (by decide) (by decide) (by decide) (by decide)
                have hb1_N49_ : zFc d_ [] [] [] [5] N2_ N49_ := hs38_.tr hsN49_ (by decide) (by decide) (by decide) (by decide)
                have eD1_5_N49_ : ze N49_ (d_ + 1) 5 = ze N37_ (d_ + 1) 5 := hsN49_.e (by decide)
                have eD1_7_N49_ : ze N49_ (d_ + 1) 7 = ze N37_ (d_ + 1) 7 := hsN49_.e (by decide)
                have c50_ : zMvK mv_ P_ d_ N49_ := zMvK.fr (hf_N37_.w hW) hsN49_ c42_ (by decide)
                have hss_ := zSj_s hsj_ (by omega) (show v35_ < ze N37_ (d_ + 5) ((u36_).toNat - 1) by rw [show (u36_).toNat - 1 = (u36_ - 1).toNat by omega]; omega) (fun j => (zRw_w hN49_ ⟨by omega, by omega⟩ j).trans (by rw [show zRw d_ 5 N37_ ((u36_).toNat - 1) = ze N37_ (d_ + 5) (u36_ - 1).toNat by rw [show (u36_ - 1).toNat = (u36_).toNat - 1 by omega]; rfl, ← hr3_]))
                rw [show (u36_).toNat - 1 = (u36_ + (-1)).toNat by omega] at hss_
                refine zr_iinc (pc := 57) (i := 3) (a := u36_) (n := -1) (L2 := [some (.ref (d_ + 1)), some (.int (Int32.ofInt u1_)), some (.int (Int32.ofInt v35_)), some (.int (Int32.ofInt (u36_ + (-1))))]) rfl (by decide) rfl d_Group_settle_57 ?_
                refine zw_goto (pc := 60) (tgt := 21) (by decide) d_Group_settle_60 ?_
                exact ih_21 (u36_ + (-1)) (by omega) (by omega) N49_ hb1_N49_ (show 0 ≤ (u36_ + (-1)) by first | assumption | omega) (show (u36_ + (-1)) ≤ u1_ by first | assumption | omega) (show zSj (fun x_ => x_) (zRw d_ 5 Mz) (zRw d_ 5 N49_) (ze Mz (d_ + 1) 7).toNat (u1_).toNat ((u36_ + (-1))).toNat v35_ by exact hss_) (by omega)
        exact lp_21 _ u1_ hu1_a hu1_b N2_ zFc.rf (show 0 ≤ u1_ by first | assumption | omega) (show u1_ ≤ u1_ by first | assumption | omega) (show zSj (fun x_ => x_) (zRw d_ 5 Mz) (zRw d_ 5 N2_) (ze Mz (d_ + 1) 7).toNat (u1_).toNat (u1_).toNat v35_ by exact hsj0_) (Nat.lt_succ_self _)
  exact lp_2 _ 1 (by decide) (by decide) Mz zFc.rf (show 1 ≤ (1 : Int) by first | assumption | omega) (show zSoK (fun x_ => x_) (zRw d_ 5 Mz) (zRw d_ 5 Mz) (ze Mz (d_ + 1) 7).toNat ((1 : Int)).toNat by exact hs0_) (Nat.lt_succ_self _)
