section ZKL
variable {d F : Nat} {K : Nat → Nat → Int} {FA FA' : List (Nat × Nat)} {CA CA' : List Nat} {FR FR' : List (Nat × Nat)} {CR CR' : List Nat} {Mz Nz Pz Qz : zMem} {e : Int}
theorem zvc_i (s : Int) : (fun k : Nat => if k < F then zvc F d Mz s k else 0) = zvc F d Mz s := by
  funext k
  by_cases g : k < F
  · rw [if_pos g]
  · rw [if_neg g, zvc_n s k (by omega)]
def zOk (F d : Nat) (Mz Nz : zMem) (top : Int) (r : Nat → Int) (ok : Prop) : Prop := (∀ t : Int, 0 ≤ t → t ≠ top → zvc F d Nz t = zvc F d Mz t) ∧ zLow d Mz Nz ∧ ((ok ∧ zvc F d Nz top = r ∧ ze Nz (d + 33) 6 = ze Mz (d + 33) 6) ∨ (¬ ok ∧ zvc F d Nz top = (fun _ => 0) ∧ ze Nz (d + 33) 6 = 1))
theorem zOk_1 {top : Int} {r f : Nat → Int} {ok : Prop} (hF : F ≤ 27) (t0 : 21 ≤ top) (h1 : zSh F d Mz Nz top f) (hf : (fun k : Nat => if k < F then f k else 0) = r) (h6 : ze Nz (d + 33) 6 = ze Mz (d + 33) 6) (hok : ok) (h2 : ∀ x : Nat, zg Pz (d + 25) x = zg Nz (d + 25) x) (h7 : ze Pz (d + 33) 6 = ze Nz (d + 33) 6) : zOk F d Mz Pz top r ok := by
  refine ⟨fun t t1 t2 => ?_, (zLow.sh h1 t0).tr (fun x _ => h2 x), Or.inl ⟨hok, ?_, h7.trans h6⟩⟩
  · rw [zvc_r h2]
    exact zSh_o hF (by omega) t1 (Ne.symm t2) h1
  · rw [zvc_r h2]
    exact (zSh_n (by omega) h1).trans hf
theorem zOk_2 {top : Int} {r f g : Nat → Int} {ok : Prop} (hF : F ≤ 27) (t0 : 21 ≤ top) (h1 : zSh F d Mz Nz top f) (hok : ¬ ok) (h2 : zSh F d Nz Pz top g) (hg : (fun k : Nat => if k < F then g k else 0) = fun _ => 0) (h7 : ze Pz (d + 33) 6 = 1) : zOk F d Mz Pz top r ok := by
  refine ⟨fun t t1 t2 => ?_, (zLow.sh h1 t0).tr (zLow.sh h2 t0), Or.inr ⟨hok, ?_, h7⟩⟩
  · rw [zSh_o hF (by omega) t1 (Ne.symm t2) h2]
    exact zSh_o hF (by omega) t1 (Ne.symm t2) h1
  · exact (zSh_n (by omega) h2).trans hg
theorem zOk_3 {top : Int} {r g : Nat → Int} {ok : Prop} (hF : F ≤ 27) (t0 : 21 ≤ top) (h1 : ∀ x : Nat, zg Nz (d + 25) x = zg Mz (d + 25) x) (hok : ¬ ok) (h2 : zSh F d Nz Pz top g) (hg : (fun k : Nat => if k < F then g k else 0) = fun _ => 0) (h7 : ze Pz (d + 33) 6 = 1) : zOk F d Mz Pz top r ok := by
  refine ⟨fun t t1 t2 => ?_, (fun x hx => (zLow.sh h2 t0 x hx).trans (h1 x)), Or.inr ⟨hok, ?_, h7⟩⟩
  · rw [zSh_o hF (by omega) t1 (Ne.symm t2) h2, zvc_r h1]
  · exact (zSh_n (by omega) h2).trans hg
def zRm (o : Option (Nat → Int)) (v : Nat → Int) (g g0 : Int) : Prop := (∀ u, o = some u → g = g0 ∧ v = u) ∧ (o = none → g = 1)
def zRa (F : Nat) (K : Nat → Nat → Int) (d : Nat) (Mz Nz : zMem) (k : Int) : Prop := zvc F d Nz 39 = zvc F d Mz (20 + ze Mz (d + 33) 3) ∧ (∀ t : Int, 21 ≤ t → t < 20 + ze Mz (d + 33) 3 → zvc F d Nz t = zvc F d Mz t) ∧ zLow d Mz Nz ∧ zfit F K (zvc F d Nz (20 + ze Mz (d + 33) 3)) ∧ zRm (zpw F K (zvc F d Mz (20 + ze Mz (d + 33) 3)) k.toNat) (zvc F d Nz (20 + ze Mz (d + 33) 3)) (ze Nz (d + 33) 6) (ze Mz (d + 33) 6)
theorem zRa_0 (hA : zTA F K) {top : Int} (ht : top = 20 + ze Mz (d + 33) 3) (t0 : 21 ≤ top) (t1 : top ≤ 38) (h1 : zSh F d Mz Nz 39 (zvc F d Mz top)) (h2 : zSh F d Nz Pz top (zone ((F : Int) - 1) 1)) (h6 : ze Pz (d + 33) 6 = ze Mz (d + 33) 6) : zRa F K d Mz Pz 0 := by
  have hF := hA.1
  have e1 : zvc F d Pz top = zone ((F : Int) - 1) 1 := (zSh_n (by omega) h2).trans (zone_n (by omega) (by omega))
  unfold zRa
  rw [← ht]
  refine ⟨?_, fun t a1 a2 => ?_, (zLow.sh h1 (by omega)).tr (zLow.sh h2 t0), ?_, fun u hu => ?_, fun hu => ?_⟩
  · rw [zSh_o hF.2 (by omega) (by omega) (by omega) h2]
    exact (zSh_n (by omega) h1).trans (zvc_i _)
  · rw [zSh_o hF.2 (by omega) (by omega) (by omega) h2, zSh_o hF.2 (by omega) (by omega) (by omega) h1]
  · rw [e1]
    exact zone_fit hA (by omega) (by omega) (by omega) (by omega)
  · have e2 : zpw F K (zvc F d Mz top) (0 : Int).toNat = some (zone ((F : Int) - 1) 1) := rfl
    rw [e2] at hu
    injection hu with hu
    exact ⟨h6, e1.trans hu⟩
  · have e2 : zpw F K (zvc F d Mz top) (0 : Int).toNat = some (zone ((F : Int) - 1) 1) := rfl
    rw [e2] at hu
    cases hu
theorem zRa_s {k top : Int} (ht : top = 20 + ze Mz (d + 33) 3) (t0 : 21 ≤ top) (t1 : top ≤ 38) (k0 : 0 ≤ k) (h : zRa F K d Mz Nz k) (hk : zOk F d Nz Pz top (zprd F K (zvc F d Nz top) (zvc F d Nz 39)) (zmok F K (zvc F d Nz top) (zvc F d Nz 39) ∧ zfit F K (zprd F K (zvc F d Nz top) (zvc F d Nz 39)))) : zRa F K d Mz Pz (k + 1) := by
  unfold zRa at h ⊢
  rw [← ht] at h ⊢
  obtain ⟨a1, a2, a3, a4, a5, a6⟩ := h
  obtain ⟨b1, b2, b3⟩ := hk
  rw [a1] at b3
  have hz : zpw F K (zvc F d Mz top) (k + 1).toNat = (match zpw F K (zvc F d Mz top) k.toNat with | none => none | some v => zif (zmok F K v (zvc F d Mz top) ∧ zfit F K (zprd F K v (zvc F d Mz top))) (some (zprd F K v (zvc F d Mz top))) none) := by
    rw [show (k + 1).toNat = k.toNat + 1 by omega]
    rfl
  refine ⟨(b1 39 (by omega) (by omega)).trans a1, fun t c1 c2 => (b1 t (by omega) (by omega)).trans (a2 t c1 c2), a3.tr b2, ?_, ?_⟩
  · rcases b3 with ⟨c1, c2, c3⟩ | ⟨c1, c2, c3⟩
    · rw [c2]
      exact c1.2
    · rw [c2]
      exact zero_fit
  · cases hw : zpw F K (zvc F d Mz top) k.toNat with
    | none =>
      have hz1 : zpw F K (zvc F d Mz top) (k + 1).toNat = none := by rw [hz, hw]
      rw [hz1]
      refine ⟨fun u hu => (by cases hu), fun _ => ?_⟩
      have g1 := a6 hw
      rcases b3 with ⟨c1, c2, c3⟩ | ⟨c1, c2, c3⟩
      · exact c3.trans g1
      · exact c3
    | some v =>
      have hz1 : zpw F K (zvc F d Mz top) (k + 1).toNat = zif (zmok F K v (zvc F d Mz top) ∧ zfit F K (zprd F K v (zvc F d Mz top))) (some (zprd F K v (zvc F d Mz top))) none := by rw [hz, hw]
      rw [hz1]
      obtain ⟨g1, g2⟩ := a5 v hw
      rw [g2] at b3
      rcases b3 with ⟨c1, c2, c3⟩ | ⟨c1, c2, c3⟩
      · rw [zif_t c1]
        refine ⟨fun u hu => ?_, fun hu => (by cases hu)⟩
        injection hu with hu
        exact ⟨c3.trans g1, c2.trans hu⟩
      · rw [zif_f c1]
        exact ⟨fun u hu => (by cases hu), fun hu => c3⟩
theorem zpo_n {v : Nat → Int} {vs : List (Nat → Int)} {n : Nat} (h : zpw F K v n = none) : zpo F K n (v :: vs) false = ([], true) := by
  show (match zpw F K v n with | none => ([], true) | some u => (u :: vs, false)) = _
  rw [h]
theorem zpo_v {v u : Nat → Int} {vs : List (Nat → Int)} {n : Nat} (h : zpw F K v n = some u) : zpo F K n (v :: vs) false = (u :: vs, false) := by
  show (match zpw F K v n with | none => ([], true) | some u => (u :: vs, false)) = _
  rw [h]
theorem zRa_e (hI : zCI F K d 1 Mz) {k : Int} {n : Nat} (hk : k.toNat = n) (h : zRa F K d Mz Nz k) (h2 : ze Nz (d + 33) 2 = ze Mz (d + 33) 2) (h35 : ∀ i : Nat, ze Nz (d + 35) i = ze Mz (d + 35) i) (h3 : ze Nz (d + 33) 3 = ze Mz (d + 33) 3) (h4 : ze Nz (d + 33) 4 = ze Mz (d + 33) 4) (h5 : ze Nz (d + 33) 5 = ze Mz (d + 33) 5) : zCI F K d 1 Nz ∧ zkS d Nz = zkS d Mz ∧ zkW F d Nz = (zpo F K n (zkW F d Mz) (zkG d Mz)).1 ∧ zkG d Nz = (zpo F K n (zkW F d Mz) (zkG d Mz)).2 ∧ zLow d Mz Nz := by
  obtain ⟨a1, a2, a3, a4, a5, a6⟩ := h
  rw [hk] at a5 a6
  have h1 : 1 ≤ ze Mz (d + 33) 3 := by
    have := hI.2.2.2.2.1
    omega
  have h6 : ze Nz (d + 33) 6 = 0 ∨ ze Nz (d + 33) 6 = 1 := by
    have g := hI.2.2.2.2.2.1
    cases hw : zpw F K (zvc F d Mz (20 + ze Mz (d + 33) 3)) n with
    | none => exact Or.inr (a6 hw)
    | some v => rw [(a5 v hw).1]; exact g
  obtain ⟨b1, b2⟩ := zCI_tv hI h2 h35 h3 h4 h5 h6 rfl a2 a4
  obtain ⟨vs, c1, c2⟩ := zkV_t (F := F) h1 h3 rfl a2
  refine ⟨b1, b2, ?_, ?_, a3⟩
  all_goals
    cases hG : zkG d Mz with
    | true =>
      have hW : zkW F d Mz = [] := by
        unfold zkW
        rw [if_pos hG]
      have hM6 : ze Mz (d + 33) 6 = 1 := by
        have g := hI.2.2.2.2.2.1
        unfold zkG at hG
        have := of_decide_eq_true hG
        omega
      have hN6 : ze Nz (d + 33) 6 = 1 := by
        cases hw : zpw F K (zvc F d Mz (20 + ze Mz (d + 33) 3)) n with
        | none => exact a6 hw
        | some v => rw [(a5 v hw).1]; exact hM6
      have hGN : zkG d Nz = true := by
        unfold zkG
        rw [hN6]
        rfl
      rw [hW]
      first
      | exact hGN
      | (unfold zkW; rw [if_pos hGN]; rfl)
    | false =>
      have hW : zkW F d Mz = zvc F d Mz (20 + ze Mz (d + 33) 3) :: vs := by
        unfold zkW
        rw [hG, c1]
        rfl
      have hM6 : ze Mz (d + 33) 6 = 0 := by
        unfold zkG at hG
        have := of_decide_eq_false hG
        omega
      rw [hW]
      cases hw : zpw F K (zvc F d Mz (20 + ze Mz (d + 33) 3)) n with
      | none =>
        have hGN : zkG d Nz = true := by
          unfold zkG
          rw [a6 hw]
          rfl
        rw [zpo_n hw]
        first
        | exact hGN
        | (unfold zkW; rw [if_pos hGN])
      | some v =>
        obtain ⟨g1, g2⟩ := a5 v hw
        have hGN : zkG d Nz = false := by
          unfold zkG
          rw [g1, hM6]
          rfl
        rw [zpo_v hw]
        first
        | exact hGN
        | (unfold zkW; rw [hGN, c2, g2]; rfl)
theorem zrk_e {x : Nat} {t : zTr} (h : ∀ y, t.1.head? = some y → y < x) : ∀ k, zrk F K x k t = t
  | 0 => rfl
  | k + 1 => by
    unfold zrk
    cases ht : t.1 with
    | nil => rfl
    | cons y r =>
      have := h y (by rw [ht]; rfl)
      simp only
      rw [if_neg (by omega)]
theorem zrk_s {x y : Nat} {r : List Nat} {W : List (Nat → Int)} {G : Bool} (h : x ≤ y) : zrk F K x (r.length + 1) (y :: r, W, G) = zrk F K x r.length (zwk1 F K (y :: r, W, G)) := by
  show (if x ≤ y then zrk F K x r.length (zwk1 F K (y :: r, W, G)) else _) = _
  rw [if_pos h]
theorem zbn_h {r : List Nat} (h : zbn r = 0) {y : Nat} (hy : r.head? = some y) : y < 2 := by
  cases r with
  | nil => cases hy
  | cons x r =>
    injection hy with hy
    rw [zbn_c] at h
    rw [← hy]
    split at h <;> omega
theorem zrk_st (hI : zCI F K d 1 Mz) {c : Int} (hcc : c = 42 ∨ c = 43 ∨ c = 45) (h1 : 1 ≤ ze Mz (d + 33) 2) (hc : c = ze Mz (d + 35) (ze Mz (d + 33) 2 - 1).toNat) (h35 : ∀ i : Nat, ze Pz (d + 35) i = ze Mz (d + 35) i) (h2 : ze Pz (d + 33) 2 = ze Mz (d + 33) 2 - 1) (h3 : ze Pz (d + 33) 3 = ze Mz (d + 33) 3 - 1) (h4 : ze Pz (d + 33) 4 = ze Mz (d + 33) 4) (h5 : ze Pz (d + 33) 5 = ze Mz (d + 33) 5) (h6 : ze Nz (d + 33) 6 = ze Mz (d + 33) 6) (hv : ∀ t : Int, zvc F d Nz t = zvc F d Mz t) {ok : Prop} {top : Int} {r : Nat → Int} (ht : top = 19 + ze Mz (d + 33) 3) (hr : r = zop F K (zsgn c) (zvc F d Mz (19 + ze Mz (d + 33) 3)) (zvc F d Mz (20 + ze Mz (d + 33) 3))) (hok : ok ↔ ((zsgn c = 4 → zmok F K (zvc F d Mz (19 + ze Mz (d + 33) 3)) (zvc F d Mz (20 + ze Mz (d + 33) 3))) ∧ zfit F K r)) (hk : zOk F d Nz Pz top r ok) : zCI F K d 1 Pz ∧ zkS d Mz = zsgn c :: zkS d Pz ∧ (zkS d Pz, zkW F d Pz, zkG d Pz) = zwk1 F K (zkS d Mz, zkW F d Mz, zkG d Mz) ∧ (zkS d Pz).head? ≠ some 1 := by
  have hb := hI.b
  obtain ⟨a1, a2, a3, a4, a5, a6, a7, a8, a9⟩ := id hI
  have hS := zkS_p h1 hc h2 (fun i _ => h35 i)
  have hx : 2 ≤ zsgn c ∧ zsgn c ≤ 4 := by rcases hcc with rfl | rfl | rfl <;> decide
  subst ht
  obtain ⟨b1, b2, b3⟩ := hk
  have hv3 : 2 ≤ ze Mz (d + 33) 3 := by
    rw [hS, zbn_c, if_pos hx.1] at a5
    omega
  obtain ⟨vs, c1, c2⟩ := zkV_2 (F := F) (Nz := Pz) hv3 h3 rfl (fun t t0 t1 => (b1 t (by omega) (by omega)).trans (hv t))
  rw [hS] at a3 a4 a5 a7 a8
  rw [zdp_c, if_neg (by omega : ¬ zsgn c ≤ 1)] at a3 a8
  rw [zop0_c, if_neg (by omega : ¬ zsgn c = 0)] at a4
  rw [zbn_c, if_pos hx.1] at a5
  have hfit : zfit F K (zvc F d Pz (19 + ze Mz (d + 33) 3)) := by
    rcases b3 with ⟨g1, g2, g3⟩ | ⟨g1, g2, g3⟩
    · rw [g2]
      exact (hok.mp g1).2
    · rw [g2]
      exact zero_fit
  have hP6 : ze Pz (d + 33) 6 = 0 ∨ ze Pz (d + 33) 6 = 1 := by
    rcases b3 with ⟨g1, g2, g3⟩ | ⟨g1, g2, g3⟩ <;> omega
  refine ⟨?_, hS, ?_, ?_⟩
  · unfold zCI
    rw [h2, h3, h4, h5]
    refine ⟨by omega, fun i hi => by rw [h35 i]; exact a2 i (by omega), by omega, by omega, by omega, hP6, a7.2.2, by omega, fun t t0 t1 => ?_⟩
    by_cases g : t = 19 + ze Mz (d + 33) 3
    · rw [g]; exact hfit
    · rw [b1 t (by omega) g, hv]
      exact a9 t t0 (by omega)
  · rw [hS]
    cases hG : zkG d Mz with
    | true =>
      have hM6 : ze Mz (d + 33) 6 = 1 := by
        unfold zkG at hG
        have := of_decide_eq_true hG
        omega
      have hGP : zkG d Pz = true := by
        unfold zkG
        rcases b3 with ⟨g1, g2, g3⟩ | ⟨g1, g2, g3⟩
        · rw [g3, h6, hM6]; rfl
        · rw [g3]; rfl
      unfold zkW
      rw [if_pos hGP, if_pos hG, hGP]
      rfl
    | false =>
      have hM6 : ze Mz (d + 33) 6 = 0 := by
        unfold zkG at hG
        have := of_decide_eq_false hG
        omega
      have hW : zkW F d Mz = zvc F d Mz (20 + ze Mz (d + 33) 3) :: zvc F d Mz (19 + ze Mz (d + 33) 3) :: vs := by
        unfold zkW
        rw [hG, c1]
        rfl
      rw [hW]
      have hw1 : zwk1 F K (zsgn c :: zkS d Pz, zvc F d Mz (20 + ze Mz (d + 33) 3) :: zvc F d Mz (19 + ze Mz (d + 33) 3) :: vs, false) = zif ((zsgn c = 4 → zmok F K (zvc F d Mz (19 + ze Mz (d + 33) 3)) (zvc F d Mz (20 + ze Mz (d + 33) 3))) ∧ zfit F K r) (zkS d Pz, r :: vs, false) (zkS d Pz, [], true) := by
        rw [hr]
        rfl
      rw [hw1]
      rcases b3 with ⟨g1, g2, g3⟩ | ⟨g1, g2, g3⟩
      · rw [zif_t (hok.mp g1)]
        have hGP : zkG d Pz = false := by
          unfold zkG
          rw [g3, h6, hM6]
          rfl
        unfold zkW
        rw [hGP, c2, g2]
        rfl
      · rw [zif_f (fun q => g1 (hok.mpr q))]
        have hGP : zkG d Pz = true := by
          unfold zkG
          rw [g3]
          rfl
        unfold zkW
        rw [hGP]
        rfl
  · intro hh
    have hw := a7.2.1 1 hh
    unfold zwp at hw
    have h4' := hw.1
    have h5' := hw.2
    have : zsgn c = 2 ∨ zsgn c = 3 ∨ zsgn c = 4 := by omega
    rcases this with g | g | g
    · exact absurd (h5' (Or.inl g)) (by decide)
    · exact absurd (h5' (Or.inr g)) (by decide)
    · exact (h4' g).1 rfl
end ZKL
set_option maxHeartbeats 4000000 in
theorem u_Calc_begin (l : Launch) (d_ : Nat) (Mz : zMem) (hW : zKW d_ Mz) (F_ : Nat) (K_ : Nat → Nat → Int) (hA_ : zTA F_ K_) : zC l m_Calc_begin 0 0 [.ref (d_ + 33)] Mz (zqcV d_ [] [] [(33, 2), (33, 3), (33, 4), (33, 5), (33, 6)] [] Mz (fun N => zCI F_ K_ d_ 0 N ∧ zkS d_ N = [] ∧ zkW F_ d_ N = [] ∧ zkG d_ N = false)) := by
  refine zC_of (L0 := [some (.ref (d_ + 33))]) md_Calc_begin (Nat.le_of_ble_eq_true rfl) rfl ?_ zQ0
  have hf : zFc d_ [] [] [(33, 2), (33, 3), (33, 4), (33, 5), (33, 6)] [] Mz Mz := zFc.rf
  have r_D33_2 := ze_r Mz (d_ + 33) 2
  have r_D33_3 := ze_r Mz (d_ + 33) 3
  have r_D33_4 := ze_r Mz (d_ + 33) 4
  have r_D33_5 := ze_r Mz (d_ + 33) 5
  have r_D33_6 := ze_r Mz (d_ + 33) 6
  refine zw_aload_n (pc := 0) (n := 0) (x := (d_ + 33)) rfl (zdal_p dlA_Calc_begin_113 (i := 0) rfl) ?_
  refine zw_iconst (pc := 1) (v := Int32.ofInt 0) (by decide) (zdal_p dlA_Calc_begin_113 (i := 1) rfl) ?_
  refine zk_putR (pc := 2) (o := 33) (by decide) f_Calc_24 rfl rfl ((hf.w hW).kr (o := 33) (by decide)) ⟨by (decide), by (decide)⟩ rfl rfl (zdal_p dlA_Calc_begin_113 (i := 2) rfl) (fun N1_ hsN1_ hvN1_ => ?_)
  have hf_N1_ : zFc d_ [] [] [(33, 2), (33, 3), (33, 4), (33, 5), (33, 6)] [] Mz N1_ := hf.tr hsN1_ (by decide) (by decide) (by decide) (by decide)
  refine zw_aload_n (pc := 5) (n := 0) (x := (d_ + 33)) rfl (zdal_p dlA_Calc_begin_113 (i := 3) rfl) ?_
  refine zw_iconst (pc := 6) (v := Int32.ofInt 0) (by decide) (zdal_p dlA_Calc_begin_113 (i := 4) rfl) ?_
  refine zk_putR (pc := 7) (o := 33) (by decide) f_Calc_28 rfl rfl ((hf_N1_.w hW).kr (o := 33) (by decide)) ⟨by (decide), by (decide)⟩ rfl rfl (zdal_p dlA_Calc_begin_113 (i := 5) rfl) (fun N2_ hsN2_ hvN2_ => ?_)
  have hf_N2_ : zFc d_ [] [] [(33, 2), (33, 3), (33, 4), (33, 5), (33, 6)] [] Mz N2_ := hf_N1_.tr hsN2_ (by decide) (by decide) (by decide) (by decide)
  have eD33_2_N2_ : ze N2_ (d_ + 33) 2 = ze N1_ (d_ + 33) 2 := hsN2_.e (by decide)
  refine zw_aload_n (pc := 10) (n := 0) (x := (d_ + 33)) rfl (zdal_p dlA_Calc_begin_113 (i := 6) rfl) ?_
  refine zw_iconst (pc := 11) (v := Int32.ofInt 0) (by decide) (zdal_p dlA_Calc_begin_113 (i := 7) rfl) ?_
  refine zk_putR (pc := 12) (o := 33) (by decide) f_Calc_31 rfl rfl ((hf_N2_.w hW).kr (o := 33) (by decide)) ⟨by (decide), by (decide)⟩ rfl rfl (zdal_p dlA_Calc_begin_113 (i := 8) rfl) (fun N3_ hsN3_ hvN3_ => ?_)
  have hf_N3_ : zFc d_ [] [] [(33, 2), (33, 3), (33, 4), (33, 5), (33, 6)] [] Mz N3_ := hf_N2_.tr hsN3_ (by decide) (by decide) (by decide) (by decide)
  have eD33_2_N3_ : ze N3_ (d_ + 33) 2 = ze N2_ (d_ + 33) 2 := hsN3_.e (by decide)
  have eD33_3_N3_ : ze N3_ (d_ + 33) 3 = ze N2_ (d_ + 33) 3 := hsN3_.e (by decide)
  refine zw_aload_n (pc := 15) (n := 0) (x := (d_ + 33)) rfl (zdal_p dlA_Calc_begin_113 (i := 9) rfl) ?_
  refine zw_iconst (pc := 16) (v := Int32.ofInt 0) (by decide) (zdal_p dlA_Calc_begin_113 (i := 10) rfl) ?_
  refine zk_putR (pc := 17) (o := 33) (by decide) f_Calc_34 rfl rfl ((hf_N3_.w hW).kr (o := 33) (by decide)) ⟨by (decide), by (decide)⟩ rfl rfl (zdal_p dlA_Calc_begin_113 (i := 11) rfl) (fun N4_ hsN4_ hvN4_ => ?_)
  have hf_N4_ : zFc d_ [] [] [(33, 2), (33, 3), (33, 4), (33, 5), (33, 6)] [] Mz N4_ := hf_N3_.tr hsN4_ (by decide) (by decide) (by decide) (by decide)
  have eD33_2_N4_ : ze N4_ (d_ + 33) 2 = ze N3_ (d_ + 33) 2 := hsN4_.e (by decide)
  have eD33_3_N4_ : ze N4_ (d_ + 33) 3 = ze N3_ (d_ + 33) 3 := hsN4_.e (by decide)
  have eD33_4_N4_ : ze N4_ (d_ + 33) 4 = ze N3_ (d_ + 33) 4 := hsN4_.e (by decide)
  refine zw_aload_n (pc := 20) (n := 0) (x := (d_ + 33)) rfl (zdal_p dlA_Calc_begin_113 (i := 12) rfl) ?_
  refine zw_iconst (pc := 21) (v := Int32.ofInt 0) (by decide) (zdal_p dlA_Calc_begin_113 (i := 13) rfl) ?_
  refine zk_putR (pc := 22) (o := 33) (by decide) f_Calc_37 rfl rfl ((hf_N4_.w hW).kr (o := 33) (by decide)) ⟨by (decide), by (decide)⟩ (z_narB (by (decide))) (z_fitB (by (decide))) (zdal_p dlA_Calc_begin_113 (i := 14) rfl) (fun N5_ hsN5_ hvN5_ => ?_)
  have hf_N5_ : zFc d_ [] [] [(33, 2), (33, 3), (33, 4), (33, 5), (33, 6)] [] Mz N5_ := hf_N4_.tr hsN5_ (by decide) (by decide) (by decide) (by decide)
  have eD33_2_N5_ : ze N5_ (d_ + 33) 2 = ze N4_ (d_ + 33) 2 := hsN5_.e (by decide)
  have eD33_3_N5_ : ze N5_ (d_ + 33) 3 = ze N4_ (d_ + 33) 3 := hsN5_.e (by decide)
  have eD33_4_N5_ : ze N5_ (d_ + 33) 4 = ze N4_ (d_ + 33) 4 := hsN5_.e (by decide)
  have eD33_5_N5_ : ze N5_ (d_ + 33) 5 = ze N4_ (d_ + 33) 5 := hsN5_.e (by decide)
  obtain ⟨k1_, k2_, k3_, k4_⟩ := zCI_0 (d := d_) (F := F_) (K := K_) (Mz := N5_) (by (exact zo_608 eD33_2_N2_ eD33_2_N3_ eD33_2_N4_ eD33_2_N5_ hvN1_)) (by (exact zo_595 eD33_3_N3_ eD33_3_N4_ eD33_3_N5_ hvN2_)) (by (exact zo_596 eD33_4_N4_ eD33_4_N5_ hvN3_)) (by (exact zo_610 eD33_5_N5_ hvN4_)) (by (exact hvN5_))
  exact zk_vret (pc := 25) rfl hf_N5_ ⟨k1_, (show zkS d_ N5_ = [] by first | with_reducible assumption | assumption | omega), (show zkW F_ d_ N5_ = [] by first | with_reducible assumption | assumption | omega), (show zkG d_ N5_ = false by first | with_reducible assumption | assumption | omega)⟩ (zdal_p dlA_Calc_begin_113 (i := 15) rfl)
set_option maxHeartbeats 4000000 in
theorem u_Calc_topShelf (l : Launch) (d_ : Nat) (Mz : zMem) (hW : zKW d_ Mz) (p0_ : 0 ≤ ze Mz (d_ + 33) 3) (p1_ : ze Mz (d_ + 33) 3 ≤ 18) : zC l m_Calc_topShelf 0 0 [.ref (d_ + 33)] Mz (zqcI d_ [] [] [] [] Mz (fun v N => v = 20 + ze Mz (d_ + 33) 3)) := by
  refine zC_of (L0 := [some (.ref (d_ + 33))]) md_Calc_topShelf (Nat.le_of_ble_eq_true rfl) rfl ?_ zQ0
  have hf : zFc d_ [] [] [] [] Mz Mz := zFc.rf
  have r_D33_3 := ze_r Mz (d_ + 33) 3
  refine zw_bipush (pc := 0) (v := Int32.ofInt 21) (by decide) (zdal_p dlA_Calc_topShelf_126 (i := 0) rfl) ?_
  refine zw_aload_n (pc := 2) (n := 0) (x := (d_ + 33)) rfl (zdal_p dlA_Calc_topShelf_126 (i := 1) rfl) ?_
  refine zk_getI (pc := 3) f_Calc_28 rfl ((hf.w hW).kr (o := 33) (by decide)) (zdal_p dlA_Calc_topShelf_126 (i := 2) rfl) ?_
  refine zr_iadd (pc := 6) (zdal_p dlA_Calc_topShelf_126 (i := 3) rfl) ?_
  refine zw_iconst (pc := 7) (v := Int32.ofInt 1) (by decide) (zdal_p dlA_Calc_topShelf_126 (i := 4) rfl) ?_
  refine zr_isub (pc := 8) (zdal_p dlA_Calc_topShelf_126 (i := 5) rfl) ?_
  exact zk_iret (pc := 9) (ty := .int) rfl rfl ⟨by (exact zo_1195 p0_), by (exact zo_1196 p1_)⟩ hf (show ((21 + (ze Mz (d_ + 33) 3)) - 1) = 20 + ze Mz (d_ + 33) 3 by first | with_reducible assumption | (exact zo_1197) | assumption) (zdal_p dlA_Calc_topShelf_126 (i := 6) rfl)
set_option maxHeartbeats 4000000 in
theorem u_Calc_nextShelf (l : Launch) (d_ : Nat) (Mz : zMem) (hW : zKW d_ Mz) (p0_ : 0 ≤ ze Mz (d_ + 33) 3) (p1_ : ze Mz (d_ + 33) 3 ≤ 17) : zC l m_Calc_nextShelf 0 0 [.ref (d_ + 33)] Mz (zqcI d_ [] [] [(33, 3)] [] Mz (fun v N => v = 21 + ze Mz (d_ + 33) 3 ∧ ze N (d_ + 33) 3 = ze Mz (d_ + 33) 3 + 1)) := by
  refine zC_of (L0 := [some (.ref (d_ + 33))]) md_Calc_nextShelf (Nat.le_of_ble_eq_true rfl) rfl ?_ zQ0
  have hf : zFc d_ [] [] [(33, 3)] [] Mz Mz := zFc.rf
  have r_D33_3 := ze_r Mz (d_ + 33) 3
  refine zw_aload_n (pc := 0) (n := 0) (x := (d_ + 33)) rfl (zdal_p dlA_Calc_nextShelf_125 (i := 0) rfl) ?_
  refine zk_getI (pc := 1) f_Calc_28 rfl ((hf.w hW).kr (o := 33) (by decide)) (zdal_p dlA_Calc_nextShelf_125 (i := 1) rfl) ?_
  refine zw_bipush (pc := 4) (v := Int32.ofInt 18) (by decide) (zdal_p dlA_Calc_nextShelf_125 (i := 2) rfl) ?_
  refine zr_icmp_ge (pc := 6) (tgt := 19) ⟨(ze_r Mz (d_ + 33) 3).1, (ze_r Mz (d_ + 33) 3).2⟩ ⟨(by decide), (by decide)⟩ (by decide) (zdal_p dlA_Calc_nextShelf_125 (i := 3) rfl) (fun hc_6 => ?_) (fun hc_6 => ?_)
  · skip
    refine zw_aload_n (pc := 19) (n := 0) (x := (d_ + 33)) rfl (zdal_p dlA_Calc_nextShelf_125 (i := 10) rfl) ?_
    refine zk_callV hf.x (pc := 20) [] [] l_Calc_43 (u_Calc_topShelf l d_ Mz (hf.w hW) (show 0 ≤ ze Mz (d_ + 33) 3 by first | with_reducible assumption | assumption | omega) (show ze Mz (d_ + 33) 3 ≤ 18 by first | with_reducible assumption | (exact zo_1198 p1_) | assumption)) rfl rfl ((hf.w hW).kr (o := 33) (by decide)) (by decide) (by decide) (Nat.le_of_ble_eq_true rfl) (zdal_p dlA_Calc_nextShelf_125 (i := 11) rfl) ?_
    rintro _ N1_ ⟨v2_, rfl, ⟨hv2_a, hv2_b⟩, hsN1_, hp0_N1_⟩
    obtain rfl := hsN1_.eq.symm
    replace hp0_N1_ : v2_ = 20 + ze Mz (d_ + 33) 3 := hp0_N1_
    show zW l m_Calc_nextShelf (zn Mz + 0, zw Mz + 0) Mz 23 [some (.ref (d_ + 33))] [.int (Int32.ofInt v2_)] _
    exact zk_iret (pc := 23) (ty := .int) rfl rfl ⟨by (exact hv2_a), by (exact hv2_b)⟩ hf ⟨(show v2_ = 21 + ze Mz (d_ + 33) 3 by first | with_reducible assumption | (exact zo_1199 hc_6 hp0_N1_ p1_) | assumption), (show ze Mz (d_ + 33) 3 = ze Mz (d_ + 33) 3 + 1 by first | with_reducible assumption | assumption | omega)⟩ (zdal_p dlA_Calc_nextShelf_125 (i := 12) rfl)
  · skip
    refine zw_aload_n (pc := 9) (n := 0) (x := (d_ + 33)) rfl (zdal_p dlA_Calc_nextShelf_125 (i := 4) rfl) ?_
    refine zw_dup (pc := 10) rfl (zdal_p dlA_Calc_nextShelf_125 (i := 5) rfl) ?_
    refine zk_getI (pc := 11) f_Calc_28 rfl ((hf.w hW).kr (o := 33) (by decide)) (zdal_p dlA_Calc_nextShelf_125 (i := 6) rfl) ?_
    refine zw_iconst (pc := 14) (v := Int32.ofInt 1) (by decide) (zdal_p dlA_Calc_nextShelf_125 (i := 7) rfl) ?_
    refine zr_iadd (pc := 15) (zdal_p dlA_Calc_nextShelf_125 (i := 8) rfl) ?_
    refine zk_putR (pc := 16) (o := 33) (by decide) f_Calc_28 rfl rfl ((hf.w hW).kr (o := 33) (by decide)) ⟨by (exact zo_74 p0_), by (exact zo_1200 p1_)⟩ rfl rfl (zdal_p dlA_Calc_nextShelf_125 (i := 9) rfl) (fun N3_ hsN3_ hvN3_ => ?_)
    have hf_N3_ : zFc d_ [] [] [(33, 3)] [] Mz N3_ := hf.tr hsN3_ (by decide) (by decide) (by decide) (by decide)
    have rD33_3_N3_ := ze_r N3_ (d_ + 33) 3
    refine zw_aload_n (pc := 19) (n := 0) (x := (d_ + 33)) rfl (zdal_p dlA_Calc_nextShelf_125 (i := 10) rfl) ?_
    refine zk_callV hf_N3_.x (pc := 20) [] [] l_Calc_43 (u_Calc_topShelf l d_ N3_ (hf_N3_.w hW) (show 0 ≤ ze N3_ (d_ + 33) 3 by first | with_reducible assumption | (exact zo_163 hvN3_ p0_ rD33_3_N3_.1) | assumption) (show ze N3_ (d_ + 33) 3 ≤ 18 by first | with_reducible assumption | (exact zo_1201 hvN3_ p1_ rD33_3_N3_.2) | assumption)) rfl rfl ((hf_N3_.w hW).kr (o := 33) (by decide)) (by decide) (by decide) (Nat.le_of_ble_eq_true rfl) (zdal_p dlA_Calc_nextShelf_125 (i := 11) rfl) ?_
    rintro _ N4_ ⟨v5_, rfl, ⟨hv5_a, hv5_b⟩, hsN4_, hp0_N4_⟩
    obtain rfl := hsN4_.eq.symm
    replace hp0_N4_ : v5_ = 20 + ze N3_ (d_ + 33) 3 := hp0_N4_
    show zW l m_Calc_nextShelf (zn Mz + 0, zw Mz + 0) N3_ 23 [some (.ref (d_ + 33))] [.int (Int32.ofInt v5_)] _
    exact zk_iret (pc := 23) (ty := .int) rfl rfl ⟨by (exact hv5_a), by (exact hv5_b)⟩ hf_N3_ ⟨(show v5_ = 21 + ze Mz (d_ + 33) 3 by first | with_reducible assumption | (exact zo_1202 hp0_N4_ hv5_a hv5_b hvN3_ p0_ p1_) | assumption), (show ze N3_ (d_ + 33) 3 = ze Mz (d_ + 33) 3 + 1 by first | with_reducible assumption | assumption | omega)⟩ (zdal_p dlA_Calc_nextShelf_125 (i := 12) rfl)
set_option maxHeartbeats 4000000 in
theorem u_Calc_pushSign (l : Launch) (d_ : Nat) (Mz : zMem) (hW : zKW d_ Mz) (a0_ : Int) (ha0_a : -2147483648 ≤ a0_) (ha0_b : a0_ < 2147483648) (p0_ : 0 ≤ ze Mz (d_ + 33) 2) (p1_ : ze Mz (d_ + 33) 2 ≤ 23) : zC l m_Calc_pushSign 0 0 [.ref (d_ + 33), .int (Int32.ofInt a0_)] Mz (zqcV d_ [] [] [(33, 2)] [35] Mz (fun N => ze N (d_ + 33) 2 = ze Mz (d_ + 33) 2 + 1 ∧ ze N (d_ + 35) (ze Mz (d_ + 33) 2).toNat = a0_ ∧ (∀ i : Nat, (i : Int) < ze Mz (d_ + 33) 2 → ze N (d_ + 35) i = ze Mz (d_ + 35) i))) := by
  refine zC_of (L0 := [some (.ref (d_ + 33)), some (.int (Int32.ofInt a0_))]) md_Calc_pushSign (Nat.le_of_ble_eq_true rfl) rfl ?_ zQ0
  have hf : zFc d_ [] [] [(33, 2)] [35] Mz Mz := zFc.rf
  have r_D33_2 := ze_r Mz (d_ + 33) 2
  refine zw_aload_n (pc := 0) (n := 0) (x := (d_ + 33)) rfl (zdal_p dlA_Calc_pushSign_118 (i := 0) rfl) ?_
  refine zk_getI (pc := 1) f_Calc_24 rfl ((hf.w hW).kr (o := 33) (by decide)) (zdal_p dlA_Calc_pushSign_118 (i := 1) rfl) ?_
  refine zw_bipush (pc := 4) (v := Int32.ofInt 24) (by decide) (zdal_p dlA_Calc_pushSign_118 (i := 2) rfl) ?_
  refine zr_icmp_ge (pc := 6) (tgt := 31) ⟨(ze_r Mz (d_ + 33) 2).1, (ze_r Mz (d_ + 33) 2).2⟩ ⟨(by decide), (by decide)⟩ (by decide) (zdal_p dlA_Calc_pushSign_118 (i := 3) rfl) (fun hc_6 => ?_) (fun hc_6 => ?_)
  · skip
    exact zk_vret (pc := 31) rfl hf ⟨(show ze Mz (d_ + 33) 2 = ze Mz (d_ + 33) 2 + 1 by first | with_reducible assumption | assumption | omega), (show ze Mz (d_ + 35) (ze Mz (d_ + 33) 2).toNat = a0_ by first | (exfalso; (exact zo_1203 hc_6 p1_)) | exact hg2_), (show (∀ i : Nat, (i : Int) < ze Mz (d_ + 33) 2 → ze Mz (d_ + 35) i = ze Mz (d_ + 35) i) by first | (exfalso; (exact zo_1203 hc_6 p1_)) | exact ho2_)⟩ (zdal_p dlA_Calc_pushSign_118 (i := 16) rfl)
  · skip
    refine zw_aload_n (pc := 9) (n := 0) (x := (d_ + 33)) rfl (zdal_p dlA_Calc_pushSign_118 (i := 4) rfl) ?_
    refine zw_getF (pc := 10) f_Calc_14 rfl ((hf.w hW).kr (o := 33) (by decide)) ((hf.w hW).lr (o := 33) (s := 1) (r := 34) (by decide)) (zdal_p dlA_Calc_pushSign_118 (i := 5) rfl) ?_
    refine zw_aload_n (pc := 13) (n := 0) (x := (d_ + 33)) rfl (zdal_p dlA_Calc_pushSign_118 (i := 6) rfl) ?_
    refine zk_getI (pc := 14) f_Calc_24 rfl ((hf.w hW).kr (o := 33) (by decide)) (zdal_p dlA_Calc_pushSign_118 (i := 7) rfl) ?_
    refine zw_iload_n (pc := 17) (n := 1) (x := Int32.ofInt a0_) rfl (zdal_p dlA_Calc_pushSign_118 (i := 8) rfl) ?_
    refine zk_st hf.x (pc := 18) (o := 35) (by decide) l_Calc_47 ((hf.w hW).kr (o := 34) (by decide)) ((hf.w hW).lr (o := 34) (s := 0) (r := 35) (by decide)) ((hf.w hW).rr (o := 35) (t := 1) (n := 24) (by decide)) (by decide) (by (exact p0_)) (by (exact zo_1204 p1_)) (by decide) (Nat.le_of_ble_eq_true rfl) (zdal_p dlA_Calc_pushSign_118 (i := 9) rfl) (fun N1_ hN1_ hsN1_ => ?_)
    have hf_N1_ : zFc d_ [] [] [(33, 2)] [35] Mz N1_ := hf.tr hsN1_ (by decide) (by decide) (by decide) (by decide)
    have eD33_2_N1_ : ze N1_ (d_ + 33) 2 = ze Mz (d_ + 33) 2 := hsN1_.e (by decide)
    have hg_ := zs_get hN1_ ⟨by (exact ha0_a), by (exact ha0_b)⟩
    have ho_ := fun (i : Nat) (hi : (i : Int) < ze Mz (d_ + 33) 2) => zs_oth hN1_ (j := i) (by (exact zo_732 hi))
    refine zw_aload_n (pc := 21) (n := 0) (x := (d_ + 33)) rfl (zdal_p dlA_Calc_pushSign_118 (i := 10) rfl) ?_
    refine zw_dup (pc := 22) rfl (zdal_p dlA_Calc_pushSign_118 (i := 11) rfl) ?_
    refine zk_getI (pc := 23) f_Calc_24 rfl ((hf_N1_.w hW).kr (o := 33) (by decide)) (zdal_p dlA_Calc_pushSign_118 (i := 12) rfl) ?_
    refine zw_iconst (pc := 26) (v := Int32.ofInt 1) (by decide) (zdal_p dlA_Calc_pushSign_118 (i := 13) rfl) ?_
    refine zr_iadd (pc := 27) (zdal_p dlA_Calc_pushSign_118 (i := 14) rfl) ?_
    refine zk_putR (pc := 28) (o := 33) (by decide) f_Calc_24 rfl rfl ((hf_N1_.w hW).kr (o := 33) (by decide)) ⟨by (exact zo_1205 eD33_2_N1_ p0_), by (exact zo_1206 eD33_2_N1_ p1_)⟩ rfl rfl (zdal_p dlA_Calc_pushSign_118 (i := 15) rfl) (fun N2_ hsN2_ hvN2_ => ?_)
    have hf_N2_ : zFc d_ [] [] [(33, 2)] [35] Mz N2_ := hf_N1_.tr hsN2_ (by decide) (by decide) (by decide) (by decide)
    have rD33_2_N2_ := ze_r N2_ (d_ + 33) 2
    have hg2_ := (hsN2_.r (by decide) _).trans hg_
    have ho2_ := fun (i : Nat) (hi : (i : Int) < ze Mz (d_ + 33) 2) => (hsN2_.r (by decide) i).trans (ho_ i hi)
    exact zk_vret (pc := 31) rfl hf_N2_ ⟨(show ze N2_ (d_ + 33) 2 = ze Mz (d_ + 33) 2 + 1 by first | with_reducible assumption | (exact zo_1207 eD33_2_N1_ hvN2_ p0_ p1_ rD33_2_N2_.1 rD33_2_N2_.2) | assumption), (show ze N2_ (d_ + 35) (ze Mz (d_ + 33) 2).toNat = a0_ by first | (exfalso; omega) | exact hg2_), (show (∀ i : Nat, (i : Int) < ze Mz (d_ + 33) 2 → ze N2_ (d_ + 35) i = ze Mz (d_ + 35) i) by first | (exfalso; omega) | exact ho2_)⟩ (zdal_p dlA_Calc_pushSign_118 (i := 16) rfl)
set_option maxHeartbeats 4000000 in
theorem u_Calc_topSign (l : Launch) (d_ : Nat) (Mz : zMem) (hW : zKW d_ Mz) (p0_ : 1 ≤ ze Mz (d_ + 33) 2) (p1_ : ze Mz (d_ + 33) 2 ≤ 24) : zC l m_Calc_topSign 0 0 [.ref (d_ + 33)] Mz (zqcI d_ [] [] [] [] Mz (fun v N => v = ze Mz (d_ + 35) (ze Mz (d_ + 33) 2 - 1).toNat)) := by
  refine zC_of (L0 := [some (.ref (d_ + 33))]) md_Calc_topSign (Nat.le_of_ble_eq_true rfl) rfl ?_ zQ0
  have hf : zFc d_ [] [] [] [] Mz Mz := zFc.rf
  have r_D33_2 := ze_r Mz (d_ + 33) 2
  refine zw_aload_n (pc := 0) (n := 0) (x := (d_ + 33)) rfl (zdal_p dlA_Calc_topSign_150 (i := 0) rfl) ?_
  refine zw_getF (pc := 1) f_Calc_14 rfl ((hf.w hW).kr (o := 33) (by decide)) ((hf.w hW).lr (o := 33) (s := 1) (r := 34) (by decide)) (zdal_p dlA_Calc_topSign_150 (i := 1) rfl) ?_
  refine zw_aload_n (pc := 4) (n := 0) (x := (d_ + 33)) rfl (zdal_p dlA_Calc_topSign_150 (i := 2) rfl) ?_
  refine zk_getI (pc := 5) f_Calc_24 rfl ((hf.w hW).kr (o := 33) (by decide)) (zdal_p dlA_Calc_topSign_150 (i := 3) rfl) ?_
  refine zw_iconst (pc := 8) (v := Int32.ofInt 1) (by decide) (zdal_p dlA_Calc_topSign_150 (i := 4) rfl) ?_
  refine zr_isub (pc := 9) (zdal_p dlA_Calc_topSign_150 (i := 5) rfl) ?_
  refine zk_at hf.x (pc := 10) l_Calc_51 ((hf.w hW).kr (o := 34) (by decide)) ((hf.w hW).lr (o := 34) (s := 0) (r := 35) (by decide)) ((hf.w hW).rr (o := 35) (t := 1) (n := 24) (by decide)) (by decide) (by (exact zo_132 p0_)) (by (exact zo_1208 p1_)) (by decide) (Nat.le_of_ble_eq_true rfl) (zdal_p dlA_Calc_topSign_150 (i := 6) rfl) (fun v1_ hv1_ hv1_a hv1_b => ?_)
  exact zk_iret (pc := 13) (ty := .int) rfl rfl ⟨by (exact hv1_a), by (exact hv1_b)⟩ hf (show v1_ = ze Mz (d_ + 35) (ze Mz (d_ + 33) 2 - 1).toNat by first | with_reducible assumption | assumption | omega) (zdal_p dlA_Calc_topSign_150 (i := 7) rfl)
set_option maxHeartbeats 4000000 in
theorem u_Calc_open (l : Launch) (d_ : Nat) (Mz : zMem) (hW : zKW d_ Mz) (a0_ : Int) (ha0_a : -2147483648 ≤ a0_) (ha0_b : a0_ < 2147483648) (ha0_z : a0_ = 0 ∨ a0_ = 1) (F_ : Nat) (K_ : Nat → Nat → Int) (hA_ : zTA F_ K_) (p0_ : zCI F_ K_ d_ 0 Mz) (p1_ : zdp (zkS d_ Mz) ≤ 6) : zC l m_Calc_open 0 0 [.ref (d_ + 33), .int (Int32.ofInt a0_)] Mz (zqcV d_ [] [] [(33, 2), (33, 4), (33, 5)] [35] Mz (fun N => zCI F_ K_ d_ 0 N ∧ zkS d_ N = (if a0_ = 0 then 1 else 0) :: zkS d_ Mz ∧ zkW F_ d_ N = zkW F_ d_ Mz ∧ zkG d_ N = zkG d_ Mz)) := by
  refine zC_of (L0 := [some (.ref (d_ + 33)), some (.int (Int32.ofInt a0_))]) md_Calc_open (Nat.le_of_ble_eq_true rfl) rfl ?_ zQ0
  have hf : zFc d_ [] [] [(33, 2), (33, 4), (33, 5)] [35] Mz Mz := zFc.rf
  have r_D33_2 := ze_r Mz (d_ + 33) 2
  have r_D33_3 := ze_r Mz (d_ + 33) 3
  have r_D33_4 := ze_r Mz (d_ + 33) 4
  have r_D33_5 := ze_r Mz (d_ + 33) 5
  have r_D33_6 := ze_r Mz (d_ + 33) 6
  obtain ⟨⟨hF1_, hF27_⟩, hAr_⟩ := id hA_
  have hb_ := p0_.b
  have hz0_ := zop0_le (zkS d_ Mz)
  obtain ⟨q1_, q2_, q3_, q4_, q5_, q6_, q7_, q8_, q9_⟩ := id p0_
  refine zw_aload_n (pc := 0) (n := 0) (x := (d_ + 33)) rfl (zdal_p dlA_Calc_open_117 (i := 0) rfl) ?_
  refine zw_iload_n (pc := 1) (n := 1) (x := Int32.ofInt a0_) rfl (zdal_p dlA_Calc_open_117 (i := 1) rfl) ?_
  refine zr_if_eq (pc := 2) (tgt := 10) ⟨ha0_a, ha0_b⟩ (by decide) (zdal_p dlA_Calc_open_117 (i := 2) rfl) (fun hc_2 => ?_) (fun hc_2 => ?_)
  · skip
    refine zw_bipush (pc := 10) (v := Int32.ofInt 126) (by decide) (zdal_p dlA_Calc_open_117 (i := 5) rfl) ?_
    refine zk_callV hf.x (pc := 12) [.int (Int32.ofInt 126)] [] l_Calc_55 (u_Calc_pushSign l d_ Mz (hf.w hW) 126 (by decide) (by decide) (show 0 ≤ ze Mz (d_ + 33) 2 by first | with_reducible assumption | (exact zo_57 q1_.1) | assumption) (show ze Mz (d_ + 33) 2 ≤ 23 by first | with_reducible assumption | (exact zo_1209 hb_.1 hb_.2.1 p1_ q1_.2) | assumption)) rfl rfl ((hf.w hW).kr (o := 33) (by decide)) (by decide) (by decide) (Nat.le_of_ble_eq_true rfl) (zdal_p dlA_Calc_open_117 (i := 6) rfl) ?_
    rintro _ N1_ ⟨rfl, hsN1_, ⟨hp0_N1_, hp1_N1_, hp2_N1_⟩⟩
    have hf_N1_ : zFc d_ [] [] [(33, 2), (33, 4), (33, 5)] [35] Mz N1_ := hf.tr hsN1_ (by decide) (by decide) (by decide) (by decide)
    have rD33_2_N1_ := ze_r N1_ (d_ + 33) 2
    have eD33_3_N1_ : ze N1_ (d_ + 33) 3 = ze Mz (d_ + 33) 3 := hsN1_.e (by decide)
    have eD33_4_N1_ : ze N1_ (d_ + 33) 4 = ze Mz (d_ + 33) 4 := hsN1_.e (by decide)
    have eD33_5_N1_ : ze N1_ (d_ + 33) 5 = ze Mz (d_ + 33) 5 := hsN1_.e (by decide)
    have eD33_6_N1_ : ze N1_ (d_ + 33) 6 = ze Mz (d_ + 33) 6 := hsN1_.e (by decide)
    show zW l m_Calc_open (zn Mz + 0, zw Mz + 0) N1_ 15 [some (.ref (d_ + 33)), some (.int (Int32.ofInt a0_))] [] _
    have hg_ := hp1_N1_
    have ho_ := hp2_N1_
    refine zw_aload_n (pc := 15) (n := 0) (x := (d_ + 33)) rfl (zdal_p dlA_Calc_open_117 (i := 7) rfl) ?_
    refine zw_dup (pc := 16) rfl (zdal_p dlA_Calc_open_117 (i := 8) rfl) ?_
    refine zk_getI (pc := 17) f_Calc_31 rfl ((hf_N1_.w hW).kr (o := 33) (by decide)) (zdal_p dlA_Calc_open_117 (i := 9) rfl) ?_
    refine zw_iconst (pc := 20) (v := Int32.ofInt 1) (by decide) (zdal_p dlA_Calc_open_117 (i := 10) rfl) ?_
    refine zr_iadd (pc := 21) (zdal_p dlA_Calc_open_117 (i := 11) rfl) ?_
    refine zk_putR (pc := 22) (o := 33) (by decide) f_Calc_31 rfl rfl ((hf_N1_.w hW).kr (o := 33) (by decide)) ⟨by (exact zo_1139 eD33_4_N1_ r_D33_4.1), by (exact zo_1210 eD33_4_N1_ p1_ q3_ r_D33_4.2)⟩ rfl rfl (zdal_p dlA_Calc_open_117 (i := 12) rfl) (fun N3_ hsN3_ hvN3_ => ?_)
    have hf_N3_ : zFc d_ [] [] [(33, 2), (33, 4), (33, 5)] [35] Mz N3_ := hf_N1_.tr hsN3_ (by decide) (by decide) (by decide) (by decide)
    have eD33_2_N3_ : ze N3_ (d_ + 33) 2 = ze N1_ (d_ + 33) 2 := hsN3_.e (by decide)
    have eD33_3_N3_ : ze N3_ (d_ + 33) 3 = ze N1_ (d_ + 33) 3 := hsN3_.e (by decide)
    have rD33_4_N3_ := ze_r N3_ (d_ + 33) 4
    have eD33_5_N3_ : ze N3_ (d_ + 33) 5 = ze N1_ (d_ + 33) 5 := hsN3_.e (by decide)
    have eD33_6_N3_ : ze N3_ (d_ + 33) 6 = ze N1_ (d_ + 33) 6 := hsN3_.e (by decide)
    have hg2_ := (hsN3_.r (by decide) _).trans hg_
    have ho2_ := fun (i : Nat) (hi : (i : Int) < ze Mz (d_ + 33) 2) => (hsN3_.r (by decide) i).trans (ho_ i hi)
    refine zw_aload_n (pc := 25) (n := 0) (x := (d_ + 33)) rfl (zdal_p dlA_Calc_open_117 (i := 13) rfl) ?_
    refine zw_dup (pc := 26) rfl (zdal_p dlA_Calc_open_117 (i := 14) rfl) ?_
    refine zk_getI (pc := 27) f_Calc_34 rfl ((hf_N3_.w hW).kr (o := 33) (by decide)) (zdal_p dlA_Calc_open_117 (i := 15) rfl) ?_
    refine zw_iload_n (pc := 30) (n := 1) (x := Int32.ofInt a0_) rfl (zdal_p dlA_Calc_open_117 (i := 16) rfl) ?_
    refine zr_if_eq (pc := 31) (tgt := 38) ⟨ha0_a, ha0_b⟩ (by decide) (zdal_p dlA_Calc_open_117 (i := 17) rfl) (fun hc_31 => ?_) (fun hc_31 => ?_)
    · skip
      refine zw_iconst (pc := 38) (v := Int32.ofInt 0) (by decide) (zdal_p dlA_Calc_open_117 (i := 20) rfl) ?_
      refine zr_iadd (pc := 39) (zdal_p dlA_Calc_open_117 (i := 21) rfl) ?_
      refine zk_putR (pc := 40) (o := 33) (by decide) f_Calc_34 rfl rfl ((hf_N3_.w hW).kr (o := 33) (by decide)) ⟨by (exact zo_1211 eD33_5_N1_ eD33_5_N3_ r_D33_5.1), by (exact zo_1212 eD33_5_N1_ eD33_5_N3_ r_D33_5.2)⟩ rfl rfl (zdal_p dlA_Calc_open_117 (i := 22) rfl) (fun N4_ hsN4_ hvN4_ => ?_)
      have hf_N4_ : zFc d_ [] [] [(33, 2), (33, 4), (33, 5)] [35] Mz N4_ := hf_N3_.tr hsN4_ (by decide) (by decide) (by decide) (by decide)
      have eD33_2_N4_ : ze N4_ (d_ + 33) 2 = ze N3_ (d_ + 33) 2 := hsN4_.e (by decide)
      have eD33_3_N4_ : ze N4_ (d_ + 33) 3 = ze N3_ (d_ + 33) 3 := hsN4_.e (by decide)
      have eD33_4_N4_ : ze N4_ (d_ + 33) 4 = ze N3_ (d_ + 33) 4 := hsN4_.e (by decide)
      have rD33_5_N4_ := ze_r N4_ (d_ + 33) 5
      have eD33_6_N4_ : ze N4_ (d_ + 33) 6 = ze N3_ (d_ + 33) 6 := hsN4_.e (by decide)
      have hg3_ := (hsN4_.r (by decide) _).trans hg2_
      have ho3_ := fun (i : Nat) (hi : (i : Int) < ze Mz (d_ + 33) 2) => (hsN4_.r (by decide) i).trans (ho2_ i hi)
      have hF_ : zCI F_ K_ d_ 0 N4_ ∧ zkS d_ N4_ = (if a0_ = 0 then 1 else 0) :: zkS d_ Mz ∧ zkW F_ d_ N4_ = zkW F_ d_ Mz ∧ zkG d_ N4_ = zkG d_ Mz := by first | (exfalso; omega) | (obtain ⟨g1_, g2_, g3_, g4_⟩ := zCI_op (F := F_) p0_ p1_ (by first | exact Or.inl rfl | exact Or.inr rfl) (by (exact zo_1037 eD33_2_N3_ eD33_2_N4_ hp0_N1_)) hg3_ ho3_ (by (exact zo_19 eD33_3_N1_ eD33_3_N3_ eD33_3_N4_)) (by (exact zo_1213 eD33_4_N1_ eD33_4_N4_ hvN3_ q3_ rD33_4_N3_.2)) (by first | (rw [if_pos rfl]; omega) | (rw [if_neg (by decide)]; (exact zo_1214 eD33_5_N1_ eD33_5_N3_ hvN4_ q4_ rD33_5_N4_.2))) (by (exact zo_19 eD33_6_N1_ eD33_6_N3_ eD33_6_N4_)) (fun t => zvc_f hf_N4_ (by decide) t); refine ⟨g1_, g2_.trans ?_, g3_, g4_⟩; congr 1; split <;> first | rfl | omega)
      have hFa_ := hF_.1
      exact zk_vret (pc := 43) rfl hf_N4_ ⟨hFa_, (show zkS d_ N4_ = (if a0_ = 0 then 1 else 0) :: zkS d_ Mz by exact hF_.2.1), (show zkW F_ d_ N4_ = zkW F_ d_ Mz by exact hF_.2.2.1), (show zkG d_ N4_ = zkG d_ Mz by exact hF_.2.2.2)⟩ (zdal_p dlA_Calc_open_117 (i := 23) rfl)
    · skip
      refine zw_iconst (pc := 34) (v := Int32.ofInt 1) (by decide) (zdal_p dlA_Calc_open_117 (i := 18) rfl) ?_
      refine zw_goto (pc := 35) (tgt := 39) (by decide) (zdal_p dlA_Calc_open_117 (i := 19) rfl) ?_
      refine zr_iadd (pc := 39) (zdal_p dlA_Calc_open_117 (i := 21) rfl) ?_
      refine zk_putR (pc := 40) (o := 33) (by decide) f_Calc_34 rfl rfl ((hf_N3_.w hW).kr (o := 33) (by decide)) ⟨by (exact zo_774 eD33_5_N1_ eD33_5_N3_ r_D33_5.1), by (exact zo_1215 eD33_5_N1_ eD33_5_N3_ hz0_ p1_ q4_ r_D33_5.2)⟩ rfl rfl (zdal_p dlA_Calc_open_117 (i := 22) rfl) (fun N5_ hsN5_ hvN5_ => ?_)
      have hf_N5_ : zFc d_ [] [] [(33, 2), (33, 4), (33, 5)] [35] Mz N5_ := hf_N3_.tr hsN5_ (by decide) (by decide) (by decide) (by decide)
      have eD33_2_N5_ : ze N5_ (d_ + 33) 2 = ze N3_ (d_ + 33) 2 := hsN5_.e (by decide)
      have eD33_3_N5_ : ze N5_ (d_ + 33) 3 = ze N3_ (d_ + 33) 3 := hsN5_.e (by decide)
      have eD33_4_N5_ : ze N5_ (d_ + 33) 4 = ze N3_ (d_ + 33) 4 := hsN5_.e (by decide)
      have rD33_5_N5_ := ze_r N5_ (d_ + 33) 5
      have eD33_6_N5_ : ze N5_ (d_ + 33) 6 = ze N3_ (d_ + 33) 6 := hsN5_.e (by decide)
      have hg3_ := (hsN5_.r (by decide) _).trans hg2_
      have ho3_ := fun (i : Nat) (hi : (i : Int) < ze Mz (d_ + 33) 2) => (hsN5_.r (by decide) i).trans (ho2_ i hi)
      have hF_ : zCI F_ K_ d_ 0 N5_ ∧ zkS d_ N5_ = (if a0_ = 0 then 1 else 0) :: zkS d_ Mz ∧ zkW F_ d_ N5_ = zkW F_ d_ Mz ∧ zkG d_ N5_ = zkG d_ Mz := by first | (exfalso; (exact zo_260 hc_2 hc_31)) | (obtain ⟨g1_, g2_, g3_, g4_⟩ := zCI_op (F := F_) p0_ p1_ (by first | exact Or.inl rfl | exact Or.inr rfl) (by omega) hg3_ ho3_ (by omega) (by omega) (by first | (rw [if_pos rfl]; omega) | (rw [if_neg (by decide)]; omega)) (by omega) (fun t => zvc_f hf_N5_ (by decide) t); refine ⟨g1_, g2_.trans ?_, g3_, g4_⟩; congr 1; split <;> first | rfl | omega)
      have hFa_ := hF_.1
      exact zk_vret (pc := 43) rfl hf_N5_ ⟨hFa_, (show zkS d_ N5_ = (if a0_ = 0 then 1 else 0) :: zkS d_ Mz by exact hF_.2.1), (show zkW F_ d_ N5_ = zkW F_ d_ Mz by exact hF_.2.2.1), (show zkG d_ N5_ = zkG d_ Mz by exact hF_.2.2.2)⟩ (zdal_p dlA_Calc_open_117 (i := 23) rfl)
  · skip
    refine zw_bipush (pc := 5) (v := Int32.ofInt 40) (by decide) (zdal_p dlA_Calc_open_117 (i := 3) rfl) ?_
    refine zw_goto (pc := 7) (tgt := 12) (by decide) (zdal_p dlA_Calc_open_117 (i := 4) rfl) ?_
    refine zk_callV hf.x (pc := 12) [.int (Int32.ofInt 40)] [] l_Calc_55 (u_Calc_pushSign l d_ Mz (hf.w hW) 40 (by decide) (by decide) (show 0 ≤ ze Mz (d_ + 33) 2 by first | with_reducible assumption | (exact zo_57 q1_.1) | assumption) (show ze Mz (d_ + 33) 2 ≤ 23 by first | with_reducible assumption | (exact zo_1209 hb_.1 hb_.2.1 p1_ q1_.2) | assumption)) rfl rfl ((hf.w hW).kr (o := 33) (by decide)) (by decide) (by decide) (Nat.le_of_ble_eq_true rfl) (zdal_p dlA_Calc_open_117 (i := 6) rfl) ?_
    rintro _ N6_ ⟨rfl, hsN6_, ⟨hp0_N6_, hp1_N6_, hp2_N6_⟩⟩
    have hf_N6_ : zFc d_ [] [] [(33, 2), (33, 4), (33, 5)] [35] Mz N6_ := hf.tr hsN6_ (by decide) (by decide) (by decide) (by decide)
    have rD33_2_N6_ := ze_r N6_ (d_ + 33) 2
    have eD33_3_N6_ : ze N6_ (d_ + 33) 3 = ze Mz (d_ + 33) 3 := hsN6_.e (by decide)
    have eD33_4_N6_ : ze N6_ (d_ + 33) 4 = ze Mz (d_ + 33) 4 := hsN6_.e (by decide)
    have eD33_5_N6_ : ze N6_ (d_ + 33) 5 = ze Mz (d_ + 33) 5 := hsN6_.e (by decide)
    have eD33_6_N6_ : ze N6_ (d_ + 33) 6 = ze Mz (d_ + 33) 6 := hsN6_.e (by decide)
    show zW l m_Calc_open (zn Mz + 0, zw Mz + 0) N6_ 15 [some (.ref (d_ + 33)), some (.int (Int32.ofInt a0_))] [] _
    have hg_ := hp1_N6_
    have ho_ := hp2_N6_
    refine zw_aload_n (pc := 15) (n := 0) (x := (d_ + 33)) rfl (zdal_p dlA_Calc_open_117 (i := 7) rfl) ?_
    refine zw_dup (pc := 16) rfl (zdal_p dlA_Calc_open_117 (i := 8) rfl) ?_
    refine zk_getI (pc := 17) f_Calc_31 rfl ((hf_N6_.w hW).kr (o := 33) (by decide)) (zdal_p dlA_Calc_open_117 (i := 9) rfl) ?_
    refine zw_iconst (pc := 20) (v := Int32.ofInt 1) (by decide) (zdal_p dlA_Calc_open_117 (i := 10) rfl) ?_
    refine zr_iadd (pc := 21) (zdal_p dlA_Calc_open_117 (i := 11) rfl) ?_
    refine zk_putR (pc := 22) (o := 33) (by decide) f_Calc_31 rfl rfl ((hf_N6_.w hW).kr (o := 33) (by decide)) ⟨by (exact zo_1139 eD33_4_N6_ r_D33_4.1), by (exact zo_1210 eD33_4_N6_ p1_ q3_ r_D33_4.2)⟩ rfl rfl (zdal_p dlA_Calc_open_117 (i := 12) rfl) (fun N8_ hsN8_ hvN8_ => ?_)
    have hf_N8_ : zFc d_ [] [] [(33, 2), (33, 4), (33, 5)] [35] Mz N8_ := hf_N6_.tr hsN8_ (by decide) (by decide) (by decide) (by decide)
    have eD33_2_N8_ : ze N8_ (d_ + 33) 2 = ze N6_ (d_ + 33) 2 := hsN8_.e (by decide)
    have eD33_3_N8_ : ze N8_ (d_ + 33) 3 = ze N6_ (d_ + 33) 3 := hsN8_.e (by decide)
    have rD33_4_N8_ := ze_r N8_ (d_ + 33) 4
    have eD33_5_N8_ : ze N8_ (d_ + 33) 5 = ze N6_ (d_ + 33) 5 := hsN8_.e (by decide)
    have eD33_6_N8_ : ze N8_ (d_ + 33) 6 = ze N6_ (d_ + 33) 6 := hsN8_.e (by decide)
    have hg2_ := (hsN8_.r (by decide) _).trans hg_
    have ho2_ := fun (i : Nat) (hi : (i : Int) < ze Mz (d_ + 33) 2) => (hsN8_.r (by decide) i).trans (ho_ i hi)
    refine zw_aload_n (pc := 25) (n := 0) (x := (d_ + 33)) rfl (zdal_p dlA_Calc_open_117 (i := 13) rfl) ?_
    refine zw_dup (pc := 26) rfl (zdal_p dlA_Calc_open_117 (i := 14) rfl) ?_
    refine zk_getI (pc := 27) f_Calc_34 rfl ((hf_N8_.w hW).kr (o := 33) (by decide)) (zdal_p dlA_Calc_open_117 (i := 15) rfl) ?_
    refine zw_iload_n (pc := 30) (n := 1) (x := Int32.ofInt a0_) rfl (zdal_p dlA_Calc_open_117 (i := 16) rfl) ?_
    refine zr_if_eq (pc := 31) (tgt := 38) ⟨ha0_a, ha0_b⟩ (by decide) (zdal_p dlA_Calc_open_117 (i := 17) rfl) (fun hc_31 => ?_) (fun hc_31 => ?_)
    · skip
      refine zw_iconst (pc := 38) (v := Int32.ofInt 0) (by decide) (zdal_p dlA_Calc_open_117 (i := 20) rfl) ?_
      refine zr_iadd (pc := 39) (zdal_p dlA_Calc_open_117 (i := 21) rfl) ?_
      refine zk_putR (pc := 40) (o := 33) (by decide) f_Calc_34 rfl rfl ((hf_N8_.w hW).kr (o := 33) (by decide)) ⟨by (exact zo_1211 eD33_5_N6_ eD33_5_N8_ r_D33_5.1), by (exact zo_1212 eD33_5_N6_ eD33_5_N8_ r_D33_5.2)⟩ rfl rfl (zdal_p dlA_Calc_open_117 (i := 22) rfl) (fun N9_ hsN9_ hvN9_ => ?_)
      have hf_N9_ : zFc d_ [] [] [(33, 2), (33, 4), (33, 5)] [35] Mz N9_ := hf_N8_.tr hsN9_ (by decide) (by decide) (by decide) (by decide)
      have eD33_2_N9_ : ze N9_ (d_ + 33) 2 = ze N8_ (d_ + 33) 2 := hsN9_.e (by decide)
      have eD33_3_N9_ : ze N9_ (d_ + 33) 3 = ze N8_ (d_ + 33) 3 := hsN9_.e (by decide)
      have eD33_4_N9_ : ze N9_ (d_ + 33) 4 = ze N8_ (d_ + 33) 4 := hsN9_.e (by decide)
      have rD33_5_N9_ := ze_r N9_ (d_ + 33) 5
      have eD33_6_N9_ : ze N9_ (d_ + 33) 6 = ze N8_ (d_ + 33) 6 := hsN9_.e (by decide)
      have hg3_ := (hsN9_.r (by decide) _).trans hg2_
      have ho3_ := fun (i : Nat) (hi : (i : Int) < ze Mz (d_ + 33) 2) => (hsN9_.r (by decide) i).trans (ho2_ i hi)
      have hF_ : zCI F_ K_ d_ 0 N9_ ∧ zkS d_ N9_ = (if a0_ = 0 then 1 else 0) :: zkS d_ Mz ∧ zkW F_ d_ N9_ = zkW F_ d_ Mz ∧ zkG d_ N9_ = zkG d_ Mz := by first | (exfalso; (exact zo_260 hc_31 hc_2)) | (obtain ⟨g1_, g2_, g3_, g4_⟩ := zCI_op (F := F_) p0_ p1_ (by first | exact Or.inl rfl | exact Or.inr rfl) (by omega) hg3_ ho3_ (by omega) (by omega) (by first | (rw [if_pos rfl]; omega) | (rw [if_neg (by decide)]; omega)) (by omega) (fun t => zvc_f hf_N9_ (by decide) t); refine ⟨g1_, g2_.trans ?_, g3_, g4_⟩; congr 1; split <;> first | rfl | omega)
      have hFa_ := hF_.1
      exact zk_vret (pc := 43) rfl hf_N9_ ⟨hFa_, (show zkS d_ N9_ = (if a0_ = 0 then 1 else 0) :: zkS d_ Mz by exact hF_.2.1), (show zkW F_ d_ N9_ = zkW F_ d_ Mz by exact hF_.2.2.1), (show zkG d_ N9_ = zkG d_ Mz by exact hF_.2.2.2)⟩ (zdal_p dlA_Calc_open_117 (i := 23) rfl)
    · skip
      refine zw_iconst (pc := 34) (v := Int32.ofInt 1) (by decide) (zdal_p dlA_Calc_open_117 (i := 18) rfl) ?_
      refine zw_goto (pc := 35) (tgt := 39) (by decide) (zdal_p dlA_Calc_open_117 (i := 19) rfl) ?_
      refine zr_iadd (pc := 39) (zdal_p dlA_Calc_open_117 (i := 21) rfl) ?_
      refine zk_putR (pc := 40) (o := 33) (by decide) f_Calc_34 rfl rfl ((hf_N8_.w hW).kr (o := 33) (by decide)) ⟨by (exact zo_774 eD33_5_N6_ eD33_5_N8_ r_D33_5.1), by (exact zo_1215 eD33_5_N6_ eD33_5_N8_ hz0_ p1_ q4_ r_D33_5.2)⟩ rfl rfl (zdal_p dlA_Calc_open_117 (i := 22) rfl) (fun N10_ hsN10_ hvN10_ => ?_)
      have hf_N10_ : zFc d_ [] [] [(33, 2), (33, 4), (33, 5)] [35] Mz N10_ := hf_N8_.tr hsN10_ (by decide) (by decide) (by decide) (by decide)
      have eD33_2_N10_ : ze N10_ (d_ + 33) 2 = ze N8_ (d_ + 33) 2 := hsN10_.e (by decide)
      have eD33_3_N10_ : ze N10_ (d_ + 33) 3 = ze N8_ (d_ + 33) 3 := hsN10_.e (by decide)
      have eD33_4_N10_ : ze N10_ (d_ + 33) 4 = ze N8_ (d_ + 33) 4 := hsN10_.e (by decide)
      have rD33_5_N10_ := ze_r N10_ (d_ + 33) 5
      have eD33_6_N10_ : ze N10_ (d_ + 33) 6 = ze N8_ (d_ + 33) 6 := hsN10_.e (by decide)
      have hg3_ := (hsN10_.r (by decide) _).trans hg2_
      have ho3_ := fun (i : Nat) (hi : (i : Int) < ze Mz (d_ + 33) 2) => (hsN10_.r (by decide) i).trans (ho2_ i hi)
      have hF_ : zCI F_ K_ d_ 0 N10_ ∧ zkS d_ N10_ = (if a0_ = 0 then 1 else 0) :: zkS d_ Mz ∧ zkW F_ d_ N10_ = zkW F_ d_ Mz ∧ zkG d_ N10_ = zkG d_ Mz := by first | (exfalso; omega) | (obtain ⟨g1_, g2_, g3_, g4_⟩ := zCI_op (F := F_) p0_ p1_ (by first | exact Or.inl rfl | exact Or.inr rfl) (by (exact zo_1216 eD33_2_N10_ eD33_2_N8_ hp0_N6_)) hg3_ ho3_ (by (exact zo_250 eD33_3_N10_ eD33_3_N6_ eD33_3_N8_)) (by (exact zo_1217 eD33_4_N10_ eD33_4_N6_ hvN8_ q3_ rD33_4_N8_.2)) (by first | (rw [if_pos rfl]; (exact zo_1218 eD33_5_N6_ eD33_5_N8_ hvN10_ q4_ rD33_5_N10_.2)) | (rw [if_neg (by decide)]; omega)) (by (exact zo_250 eD33_6_N10_ eD33_6_N6_ eD33_6_N8_)) (fun t => zvc_f hf_N10_ (by decide) t); refine ⟨g1_, g2_.trans ?_, g3_, g4_⟩; congr 1; split <;> first | rfl | omega)
      have hFa_ := hF_.1
      exact zk_vret (pc := 43) rfl hf_N10_ ⟨hFa_, (show zkS d_ N10_ = (if a0_ = 0 then 1 else 0) :: zkS d_ Mz by exact hF_.2.1), (show zkW F_ d_ N10_ = zkW F_ d_ Mz by exact hF_.2.2.1), (show zkG d_ N10_ = zkG d_ Mz by exact hF_.2.2.2)⟩ (zdal_p dlA_Calc_open_117 (i := 23) rfl)
set_option maxHeartbeats 4000000 in
theorem u_Calc_pushSingle (l : Launch) (d_ : Nat) (Mz : zMem) (hW : zKW d_ Mz) (a0_ : Int) (ha0_a : -2147483648 ≤ a0_) (ha0_b : a0_ < 2147483648) (a1_ : Int) (ha1_a : -2147483648 ≤ a1_) (ha1_b : a1_ < 2147483648) (F_ : Nat) (K_ : Nat → Nat → Int) (hA_ : zTA F_ K_) (p0_ : zKm F_ K_ d_ Mz) (p1_ : zCI F_ K_ d_ 0 Mz) (p2_ : 0 ≤ a0_) (p3_ : a0_ < F_) (p4_ : 0 ≤ a1_) (p5_ : a1_ ≤ 999) : zC l m_Calc_pushSingle 0 0 [.ref (d_ + 33), .int (Int32.ofInt a0_), .int (Int32.ofInt a1_)] Mz (zqcV d_ [] [] [(33, 3)] [25] Mz (fun N => zCI F_ K_ d_ 1 N ∧ zkS d_ N = zkS d_ Mz ∧ zkW F_ d_ N = zpu (zkG d_ Mz) (zone a0_ a1_) (zkW F_ d_ Mz) ∧ zkG d_ N = zkG d_ Mz ∧ zLow d_ Mz N)) := by
  refine zC_of (L0 := [some (.ref (d_ + 33)), some (.int (Int32.ofInt a0_)), some (.int (Int32.ofInt a1_))]) md_Calc_pushSingle (Nat.le_of_ble_eq_true rfl) rfl ?_ zQ0
  have hf : zFc d_ [] [] [(33, 3)] [25] Mz Mz := zFc.rf
  have r_D33_2 := ze_r Mz (d_ + 33) 2
  have r_D33_3 := ze_r Mz (d_ + 33) 3
  have r_D33_4 := ze_r Mz (d_ + 33) 4
  have r_D33_5 := ze_r Mz (d_ + 33) 5
  have r_D33_6 := ze_r Mz (d_ + 33) 6
  obtain ⟨⟨hF1_, hF27_⟩, hAr_⟩ := id hA_
  obtain ⟨hFc_, hKt_⟩ := id p0_
  have hb_ := p1_.b
  have hz0_ := zop0_le (zkS d_ Mz)
  obtain ⟨q1_, q2_, q3_, q4_, q5_, q6_, q7_, q8_, q9_⟩ := id p1_
  refine zw_aload_n (pc := 0) (n := 0) (x := (d_ + 33)) rfl (zdal_p dlA_Calc_pushSingle_130 (i := 0) rfl) ?_
  refine zw_getF (pc := 1) f_Calc_20 rfl ((hf.w hW).kr (o := 33) (by decide)) ((hf.w hW).lr (o := 33) (s := 0) (r := 23) (by decide)) (zdal_p dlA_Calc_pushSingle_130 (i := 1) rfl) ?_
  refine zw_aload_n (pc := 4) (n := 0) (x := (d_ + 33)) rfl (zdal_p dlA_Calc_pushSingle_130 (i := 2) rfl) ?_
  refine zk_callV hf.x (pc := 5) [] [.ref (d_ + 23)] l_Calc_58 (u_Calc_nextShelf l d_ Mz (hf.w hW) (show 0 ≤ ze Mz (d_ + 33) 3 by first | with_reducible assumption | (exact zo_1219 q5_ r_D33_3.1) | assumption) (show ze Mz (d_ + 33) 3 ≤ 17 by first | with_reducible assumption | (exact zo_1220 hb_.2.1 hb_.2.2.1 hb_.2.2.2 q5_) | assumption)) rfl rfl ((hf.w hW).kr (o := 33) (by decide)) (by decide) (by decide) (Nat.le_of_ble_eq_true rfl) (zdal_p dlA_Calc_pushSingle_130 (i := 3) rfl) ?_
  rintro _ N1_ ⟨v2_, rfl, ⟨hv2_a, hv2_b⟩, hsN1_, ⟨hp0_N1_, hp1_N1_⟩⟩
  have hf_N1_ : zFc d_ [] [] [(33, 3)] [25] Mz N1_ := hf.tr hsN1_ (by decide) (by decide) (by decide) (by decide)
  have eD33_2_N1_ : ze N1_ (d_ + 33) 2 = ze Mz (d_ + 33) 2 := hsN1_.e (by decide)
  have eD33_4_N1_ : ze N1_ (d_ + 33) 4 = ze Mz (d_ + 33) 4 := hsN1_.e (by decide)
  have eD33_5_N1_ : ze N1_ (d_ + 33) 5 = ze Mz (d_ + 33) 5 := hsN1_.e (by decide)
  have eD33_6_N1_ : ze N1_ (d_ + 33) 6 = ze Mz (d_ + 33) 6 := hsN1_.e (by decide)
  have c3_ : zKm F_ K_ d_ N1_ := zKm.fr (hf.w hW) hsN1_ p0_ (by decide)
  show zW l m_Calc_pushSingle (zn Mz + 0, zw Mz + 0) N1_ 8 [some (.ref (d_ + 33)), some (.int (Int32.ofInt a0_)), some (.int (Int32.ofInt a1_))] [.int (Int32.ofInt v2_), .ref (d_ + 23)] _
  have hsv_ := hp0_N1_
  refine zw_iload_n (pc := 8) (n := 1) (x := Int32.ofInt a0_) rfl (zdal_p dlA_Calc_pushSingle_130 (i := 4) rfl) ?_
  refine zw_iload_n (pc := 9) (n := 2) (x := Int32.ofInt a1_) rfl (zdal_p dlA_Calc_pushSingle_130 (i := 5) rfl) ?_
  refine zr_i2l (pc := 10) ⟨ha1_a, ha1_b⟩ (zdal_p dlA_Calc_pushSingle_130 (i := 6) rfl) ?_
  refine zk_callV hf_N1_.x (pc := 11) [.int (Int32.ofInt v2_), .int (Int32.ofInt a0_), .long (Int64.ofInt a1_)] [] l_Calc_61 (u_Sums_putSingle l d_ N1_ (hf_N1_.w hW) v2_ hv2_a hv2_b a0_ ha0_a ha0_b a1_ (by (exact zo_997 p4_)) (by (exact zo_1221 p5_)) F_ K_ hA_ c3_ (show 0 ≤ v2_ by first | with_reducible assumption | (exact zo_1222 hp0_N1_ hv2_a q5_) | assumption) (show v2_ ≤ 39 by first | with_reducible assumption | (exact zo_1223 hb_.2.1 hb_.2.2.1 hb_.2.2.2 hp0_N1_ q5_) | assumption)) rfl rfl ((hf_N1_.w hW).kr (o := 23) (by decide)) (by decide) (by decide) (Nat.le_of_ble_eq_true rfl) (zdal_p dlA_Calc_pushSingle_130 (i := 7) rfl) ?_
  rintro _ N4_ ⟨rfl, hsN4_, hp0_N4_⟩
  replace hp0_N4_ : zSh F_ d_ N1_ N4_ v2_ (zone a0_ a1_) := hp0_N4_
  have hf_N4_ : zFc d_ [] [] [(33, 3)] [25] Mz N4_ := hf_N1_.tr hsN4_ (by decide) (by decide) (by decide) (by decide)
  have eD33_2_N4_ : ze N4_ (d_ + 33) 2 = ze N1_ (d_ + 33) 2 := hsN4_.e (by decide)
  have eD33_3_N4_ : ze N4_ (d_ + 33) 3 = ze N1_ (d_ + 33) 3 := hsN4_.e (by decide)
  have eD33_4_N4_ : ze N4_ (d_ + 33) 4 = ze N1_ (d_ + 33) 4 := hsN4_.e (by decide)
  have eD33_5_N4_ : ze N4_ (d_ + 33) 5 = ze N1_ (d_ + 33) 5 := hsN4_.e (by decide)
  have eD33_6_N4_ : ze N4_ (d_ + 33) 6 = ze N1_ (d_ + 33) 6 := hsN4_.e (by decide)
  show zW l m_Calc_pushSingle (zn Mz + 0, zw Mz + 0) N4_ 14 [some (.ref (d_ + 33)), some (.int (Int32.ofInt a0_)), some (.int (Int32.ofInt a1_))] [] _
  have hs_ := hp0_N4_
  rw [hsv_] at hs_
  have hp_ := zCI_pv (F := F_) (u := (zone a0_ a1_)) p1_ (by (exact zo_53 eD33_2_N1_ eD33_2_N4_)) (fun i => hf_N4_.r (by decide) i) (by (exact zo_1047 eD33_3_N4_ hp1_N1_)) (by (exact zo_53 eD33_4_N1_ eD33_4_N4_)) (by (exact zo_53 eD33_5_N1_ eD33_5_N4_)) (by (exact zo_53 eD33_6_N1_ eD33_6_N4_)) ((zSh_n (by (exact zo_1224 q5_ r_D33_3.1)) hs_).trans (zone_n (by (exact p2_)) (by (exact p3_)))) (fun t t0 t1 => (zSh_o hF27_ (by (exact zo_1224 q5_ r_D33_3.1)) (by (exact zo_16 t0)) (by (exact zo_1225 t1)) hs_).trans (zvc_f hsN1_ (by decide) t)) (zone_fit hA_ (by (exact p2_)) (by (exact p3_)) (by (exact p4_)) (by (exact p5_)))
  have hpa_ := hp_.1
  have hlw_ := (zLow.f hsN1_ (by decide)).tr (zLow.sh hs_ (by (exact zo_1226 q5_ r_D33_3.1)))
  exact zk_vret (pc := 14) rfl hf_N4_ ⟨hpa_, (show zkS d_ N4_ = zkS d_ Mz by exact hp_.2.1), (show zkW F_ d_ N4_ = zpu (zkG d_ Mz) (zone a0_ a1_) (zkW F_ d_ Mz) by exact hp_.2.2.1), (show zkG d_ N4_ = zkG d_ Mz by exact hp_.2.2.2), (show zLow d_ Mz N4_ by exact hlw_)⟩ (zdal_p dlA_Calc_pushSingle_130 (i := 8) rfl)
set_option maxHeartbeats 4000000 in
theorem u_Calc_pushNamed (l : Launch) (d_ : Nat) (Mz : zMem) (hW : zKW d_ Mz) (a0_ : Int) (ha0_a : -2147483648 ≤ a0_) (ha0_b : a0_ < 2147483648) (F_ : Nat) (K_ : Nat → Nat → Int) (hA_ : zTA F_ K_) (p0_ : zKm F_ K_ d_ Mz) (p1_ : zCI F_ K_ d_ 0 Mz) (p2_ : 0 ≤ a0_) (p3_ : a0_ ≤ 7) (p4_ : zfit F_ K_ (zvc F_ d_ Mz (1 + a0_))) : zC l m_Calc_pushNamed 0 0 [.ref (d_ + 33), .int (Int32.ofInt a0_)] Mz (zqcV d_ [] [] [(33, 3)] [25] Mz (fun N => zCI F_ K_ d_ 1 N ∧ zkS d_ N = zkS d_ Mz ∧ zkW F_ d_ N = zpu (zkG d_ Mz) (zvc F_ d_ Mz (1 + a0_)) (zkW F_ d_ Mz) ∧ zkG d_ N = zkG d_ Mz ∧ zLow d_ Mz N)) := by
  refine zC_of (L0 := [some (.ref (d_ + 33)), some (.int (Int32.ofInt a0_))]) md_Calc_pushNamed (Nat.le_of_ble_eq_true rfl) rfl ?_ zQ0
  have hf : zFc d_ [] [] [(33, 3)] [25] Mz Mz := zFc.rf
  have r_D33_2 := ze_r Mz (d_ + 33) 2
  have r_D33_3 := ze_r Mz (d_ + 33) 3
  have r_D33_4 := ze_r Mz (d_ + 33) 4
  have r_D33_5 := ze_r Mz (d_ + 33) 5
  have r_D33_6 := ze_r Mz (d_ + 33) 6
  obtain ⟨⟨hF1_, hF27_⟩, hAr_⟩ := id hA_
  obtain ⟨hFc_, hKt_⟩ := id p0_
  have hb_ := p1_.b
  have hz0_ := zop0_le (zkS d_ Mz)
  obtain ⟨q1_, q2_, q3_, q4_, q5_, q6_, q7_, q8_, q9_⟩ := id p1_
  refine zw_aload_n (pc := 0) (n := 0) (x := (d_ + 33)) rfl (zdal_p dlA_Calc_pushNamed_124 (i := 0) rfl) ?_
  refine zw_getF (pc := 1) f_Calc_20 rfl ((hf.w hW).kr (o := 33) (by decide)) ((hf.w hW).lr (o := 33) (s := 0) (r := 23) (by decide)) (zdal_p dlA_Calc_pushNamed_124 (i := 1) rfl) ?_
  refine zw_iconst (pc := 4) (v := Int32.ofInt 1) (by decide) (zdal_p dlA_Calc_pushNamed_124 (i := 2) rfl) ?_
  refine zw_iload_n (pc := 5) (n := 1) (x := Int32.ofInt a0_) rfl (zdal_p dlA_Calc_pushNamed_124 (i := 3) rfl) ?_
  refine zr_iadd (pc := 6) (zdal_p dlA_Calc_pushNamed_124 (i := 4) rfl) ?_
  refine zw_aload_n (pc := 7) (n := 0) (x := (d_ + 33)) rfl (zdal_p dlA_Calc_pushNamed_124 (i := 5) rfl) ?_
  refine zk_callV hf.x (pc := 8) [] [.int (Int32.ofInt (1 + a0_)), .ref (d_ + 23)] l_Calc_58 (u_Calc_nextShelf l d_ Mz (hf.w hW) (show 0 ≤ ze Mz (d_ + 33) 3 by first | with_reducible assumption | (exact zo_1219 q5_ r_D33_3.1) | assumption) (show ze Mz (d_ + 33) 3 ≤ 17 by first | with_reducible assumption | (exact zo_1220 hb_.2.1 hb_.2.2.1 hb_.2.2.2 q5_) | assumption)) rfl rfl ((hf.w hW).kr (o := 33) (by decide)) (by decide) (by decide) (Nat.le_of_ble_eq_true rfl) (zdal_p dlA_Calc_pushNamed_124 (i := 6) rfl) ?_
  rintro _ N1_ ⟨v2_, rfl, ⟨hv2_a, hv2_b⟩, hsN1_, ⟨hp0_N1_, hp1_N1_⟩⟩
  have hf_N1_ : zFc d_ [] [] [(33, 3)] [25] Mz N1_ := hf.tr hsN1_ (by decide) (by decide) (by decide) (by decide)
  have eD33_2_N1_ : ze N1_ (d_ + 33) 2 = ze Mz (d_ + 33) 2 := hsN1_.e (by decide)
  have eD33_4_N1_ : ze N1_ (d_ + 33) 4 = ze Mz (d_ + 33) 4 := hsN1_.e (by decide)
  have eD33_5_N1_ : ze N1_ (d_ + 33) 5 = ze Mz (d_ + 33) 5 := hsN1_.e (by decide)
  have eD33_6_N1_ : ze N1_ (d_ + 33) 6 = ze Mz (d_ + 33) 6 := hsN1_.e (by decide)
  have c3_ : zKm F_ K_ d_ N1_ := zKm.fr (hf.w hW) hsN1_ p0_ (by decide)
  show zW l m_Calc_pushNamed (zn Mz + 0, zw Mz + 0) N1_ 11 [some (.ref (d_ + 33)), some (.int (Int32.ofInt a0_))] [.int (Int32.ofInt v2_), .int (Int32.ofInt (1 + a0_)), .ref (d_ + 23)] _
  have hsv_ := hp0_N1_
  refine zk_callV hf_N1_.x (pc := 11) [.int (Int32.ofInt (1 + a0_)), .int (Int32.ofInt v2_)] [] l_Calc_65 (u_Sums_copy l d_ N1_ (hf_N1_.w hW) (1 + a0_) (by (exact zo_1227 p2_)) (by (exact zo_1228 p3_)) v2_ hv2_a hv2_b F_ K_ hA_ c3_ (show 0 ≤ (1 + a0_) by first | with_reducible assumption | (exact zo_1229 p2_) | assumption) (show (1 + a0_) ≤ 39 by first | with_reducible assumption | (exact zo_1230 p3_) | assumption) (show 0 ≤ v2_ by first | with_reducible assumption | (exact zo_1222 hp0_N1_ hv2_a q5_) | assumption) (show v2_ ≤ 39 by first | with_reducible assumption | (exact zo_1223 hb_.2.1 hb_.2.2.1 hb_.2.2.2 hp0_N1_ q5_) | assumption)) rfl rfl ((hf_N1_.w hW).kr (o := 23) (by decide)) (by decide) (by decide) (Nat.le_of_ble_eq_true rfl) (zdal_p dlA_Calc_pushNamed_124 (i := 7) rfl) ?_
  rintro _ N4_ ⟨rfl, hsN4_, hp0_N4_⟩
  replace hp0_N4_ : zSh F_ d_ N1_ N4_ v2_ (zvc F_ d_ N1_ (1 + a0_)) := hp0_N4_
  have hf_N4_ : zFc d_ [] [] [(33, 3)] [25] Mz N4_ := hf_N1_.tr hsN4_ (by decide) (by decide) (by decide) (by decide)
  have eD33_2_N4_ : ze N4_ (d_ + 33) 2 = ze N1_ (d_ + 33) 2 := hsN4_.e (by decide)
  have eD33_3_N4_ : ze N4_ (d_ + 33) 3 = ze N1_ (d_ + 33) 3 := hsN4_.e (by decide)
  have eD33_4_N4_ : ze N4_ (d_ + 33) 4 = ze N1_ (d_ + 33) 4 := hsN4_.e (by decide)
  have eD33_5_N4_ : ze N4_ (d_ + 33) 5 = ze N1_ (d_ + 33) 5 := hsN4_.e (by decide)
  have eD33_6_N4_ : ze N4_ (d_ + 33) 6 = ze N1_ (d_ + 33) 6 := hsN4_.e (by decide)
  show zW l m_Calc_pushNamed (zn Mz + 0, zw Mz + 0) N4_ 14 [some (.ref (d_ + 33)), some (.int (Int32.ofInt a0_))] [] _
  have hs_ := hp0_N4_
  rw [hsv_] at hs_
  have hp_ := zCI_pv (F := F_) (u := (zvc F_ d_ Mz (1 + a0_))) p1_ (by (exact zo_53 eD33_2_N1_ eD33_2_N4_)) (fun i => hf_N4_.r (by decide) i) (by (exact zo_1047 eD33_3_N4_ hp1_N1_)) (by (exact zo_53 eD33_4_N1_ eD33_4_N4_)) (by (exact zo_53 eD33_5_N1_ eD33_5_N4_)) (by (exact zo_53 eD33_6_N1_ eD33_6_N4_)) (((zSh_n (by (exact zo_1224 q5_ r_D33_3.1)) hs_).trans (zvc_i _)).trans (zvc_f hsN1_ (by decide) _)) (fun t t0 t1 => (zSh_o hF27_ (by (exact zo_1224 q5_ r_D33_3.1)) (by (exact zo_16 t0)) (by (exact zo_1225 t1)) hs_).trans (zvc_f hsN1_ (by decide) t)) (p4_)
  have hpa_ := hp_.1
  have hlw_ := (zLow.f hsN1_ (by decide)).tr (zLow.sh hs_ (by (exact zo_1226 q5_ r_D33_3.1)))
  exact zk_vret (pc := 14) rfl hf_N4_ ⟨hpa_, (show zkS d_ N4_ = zkS d_ Mz by exact hp_.2.1), (show zkW F_ d_ N4_ = zpu (zkG d_ Mz) (zvc F_ d_ Mz (1 + a0_)) (zkW F_ d_ Mz) by exact hp_.2.2.1), (show zkG d_ N4_ = zkG d_ Mz by exact hp_.2.2.2), (show zLow d_ Mz N4_ by exact hlw_)⟩ (zdal_p dlA_Calc_pushNamed_124 (i := 8) rfl)
set_option maxHeartbeats 4000000 in
theorem u_Calc_settle (l : Launch) (d_ : Nat) (Mz : zMem) (hW : zKW d_ Mz) (a0_ : Int) (ha0_a : -2147483648 ≤ a0_) (ha0_b : a0_ < 2147483648) (ha0_z : a0_ = 0 ∨ a0_ = 1) (F_ : Nat) (K_ : Nat → Nat → Int) (hA_ : zTA F_ K_) (p0_ : zKm F_ K_ d_ Mz) (p1_ : 1 ≤ ze Mz (d_ + 33) 3) (p2_ : ze Mz (d_ + 33) 3 ≤ 18) : zC l m_Calc_settle 0 0 [.ref (d_ + 33), .int (Int32.ofInt a0_)] Mz (zqcV d_ [] [] [(33, 6)] [25] Mz (fun N => (a0_ = 1 → (∀ x : Nat, zg N (d_ + 25) x = zg Mz (d_ + 25) x) ∧ ze N (d_ + 33) 6 = ze Mz (d_ + 33) 6) ∧ (a0_ = 0 → ze N (d_ + 33) 6 = 1 ∧ zSh F_ d_ Mz N (20 + ze Mz (d_ + 33) 3) (zone (-1) 0)))) := by
  refine zC_of (L0 := [some (.ref (d_ + 33)), some (.int (Int32.ofInt a0_))]) md_Calc_settle (Nat.le_of_ble_eq_true rfl) rfl ?_ zQ0
  have hf : zFc d_ [] [] [(33, 6)] [25] Mz Mz := zFc.rf
  have r_D33_2 := ze_r Mz (d_ + 33) 2
  have r_D33_3 := ze_r Mz (d_ + 33) 3
  have r_D33_4 := ze_r Mz (d_ + 33) 4
  have r_D33_5 := ze_r Mz (d_ + 33) 5
  have r_D33_6 := ze_r Mz (d_ + 33) 6
  obtain ⟨⟨hF1_, hF27_⟩, hAr_⟩ := id hA_
  obtain ⟨hFc_, hKt_⟩ := id p0_
  refine zw_iload_n (pc := 0) (n := 1) (x := Int32.ofInt a0_) rfl (zdal_p dlA_Calc_settle_147 (i := 0) rfl) ?_
  refine zr_if_ne (pc := 1) (tgt := 22) ⟨ha0_a, ha0_b⟩ (by decide) (zdal_p dlA_Calc_settle_147 (i := 1) rfl) (fun hc_1 => ?_) (fun hc_1 => ?_)
  · skip
    exact zk_vret (pc := 22) rfl hf ⟨(show (a0_ = 1 → (∀ x : Nat, zg Mz (d_ + 25) x = zg Mz (d_ + 25) x) ∧ ze Mz (d_ + 33) 6 = ze Mz (d_ + 33) 6) by first | exact fun _ => ⟨fun x => rfl, by (exact zo_62)⟩ | (intro h_; exfalso; omega)), (show (a0_ = 0 → ze Mz (d_ + 33) 6 = 1 ∧ zSh F_ d_ Mz Mz (20 + ze Mz (d_ + 33) 3) (zone (-1) 0)) by first | exact fun _ => ⟨by omega, hs2_⟩ | (intro h_; exfalso; (exact zo_260 h_ hc_1)))⟩ (zdal_p dlA_Calc_settle_147 (i := 12) rfl)
  · skip
    refine zw_aload_n (pc := 4) (n := 0) (x := (d_ + 33)) rfl (zdal_p dlA_Calc_settle_147 (i := 2) rfl) ?_
    refine zw_iconst (pc := 5) (v := Int32.ofInt 1) (by decide) (zdal_p dlA_Calc_settle_147 (i := 3) rfl) ?_
    refine zk_putR (pc := 6) (o := 33) (by decide) f_Calc_37 rfl rfl ((hf.w hW).kr (o := 33) (by decide)) ⟨by (decide), by (decide)⟩ (z_narB (by (decide))) (z_fitB (by (decide))) (zdal_p dlA_Calc_settle_147 (i := 4) rfl) (fun N1_ hsN1_ hvN1_ => ?_)
    have hf_N1_ : zFc d_ [] [] [(33, 6)] [25] Mz N1_ := hf.tr hsN1_ (by decide) (by decide) (by decide) (by decide)
    have eD33_2_N1_ : ze N1_ (d_ + 33) 2 = ze Mz (d_ + 33) 2 := hsN1_.e (by decide)
    have eD33_3_N1_ : ze N1_ (d_ + 33) 3 = ze Mz (d_ + 33) 3 := hsN1_.e (by decide)
    have eD33_4_N1_ : ze N1_ (d_ + 33) 4 = ze Mz (d_ + 33) 4 := hsN1_.e (by decide)
    have eD33_5_N1_ : ze N1_ (d_ + 33) 5 = ze Mz (d_ + 33) 5 := hsN1_.e (by decide)
    have rD33_6_N1_ := ze_r N1_ (d_ + 33) 6
    have c2_ : zKm F_ K_ d_ N1_ := zKm.fr (hf.w hW) hsN1_ p0_ (by decide)
    refine zw_aload_n (pc := 9) (n := 0) (x := (d_ + 33)) rfl (zdal_p dlA_Calc_settle_147 (i := 5) rfl) ?_
    refine zw_getF (pc := 10) f_Calc_20 rfl ((hf_N1_.w hW).kr (o := 33) (by decide)) ((hf_N1_.w hW).lr (o := 33) (s := 0) (r := 23) (by decide)) (zdal_p dlA_Calc_settle_147 (i := 6) rfl) ?_
    refine zw_aload_n (pc := 13) (n := 0) (x := (d_ + 33)) rfl (zdal_p dlA_Calc_settle_147 (i := 7) rfl) ?_
    refine zk_callV hf_N1_.x (pc := 14) [] [.ref (d_ + 23)] l_Calc_43 (u_Calc_topShelf l d_ N1_ (hf_N1_.w hW) (show 0 ≤ ze N1_ (d_ + 33) 3 by first | with_reducible assumption | (exact zo_568 eD33_3_N1_ p1_) | assumption) (show ze N1_ (d_ + 33) 3 ≤ 18 by first | with_reducible assumption | (exact zo_1231 eD33_3_N1_ p2_) | assumption)) rfl rfl ((hf_N1_.w hW).kr (o := 33) (by decide)) (by decide) (by decide) (Nat.le_of_ble_eq_true rfl) (zdal_p dlA_Calc_settle_147 (i := 8) rfl) ?_
    rintro _ N3_ ⟨v4_, rfl, ⟨hv4_a, hv4_b⟩, hsN3_, hp0_N3_⟩
    obtain rfl := hsN3_.eq.symm
    replace hp0_N3_ : v4_ = 20 + ze N1_ (d_ + 33) 3 := hp0_N3_
    show zW l m_Calc_settle (zn Mz + 0, zw Mz + 0) N1_ 17 [some (.ref (d_ + 33)), some (.int (Int32.ofInt a0_))] [.int (Int32.ofInt v4_), .ref (d_ + 23)] _
    have hsv_ := hp0_N3_
    refine zw_iconst (pc := 17) (v := Int32.ofInt (-1)) (by decide) (zdal_p dlA_Calc_settle_147 (i := 9) rfl) ?_
    refine zw_lconst (pc := 18) (v := Int64.ofInt 0) (by decide) (zdal_p dlA_Calc_settle_147 (i := 10) rfl) ?_
    refine zk_callV hf_N1_.x (pc := 19) [.int (Int32.ofInt v4_), .int (Int32.ofInt ((-1))), .long (Int64.ofInt 0)] [] l_Calc_61 (u_Sums_putSingle l d_ N1_ (hf_N1_.w hW) v4_ hv4_a hv4_b ((-1)) (by decide) (by decide) 0 (by decide) (by decide) F_ K_ hA_ c2_ (show 0 ≤ v4_ by first | with_reducible assumption | (exact zo_1232 eD33_3_N1_ hp0_N3_ hv4_a p1_) | assumption) (show v4_ ≤ 39 by first | with_reducible assumption | (exact zo_1233 eD33_3_N1_ hp0_N3_ hv4_b p2_) | assumption)) rfl rfl ((hf_N1_.w hW).kr (o := 23) (by decide)) (by decide) (by decide) (Nat.le_of_ble_eq_true rfl) (zdal_p dlA_Calc_settle_147 (i := 11) rfl) ?_
    rintro _ N5_ ⟨rfl, hsN5_, hp0_N5_⟩
    replace hp0_N5_ : zSh F_ d_ N1_ N5_ v4_ (zone ((-1)) 0) := hp0_N5_
    have hf_N5_ : zFc d_ [] [] [(33, 6)] [25] Mz N5_ := hf_N1_.tr hsN5_ (by decide) (by decide) (by decide) (by decide)
    have eD33_2_N5_ : ze N5_ (d_ + 33) 2 = ze N1_ (d_ + 33) 2 := hsN5_.e (by decide)
    have eD33_3_N5_ : ze N5_ (d_ + 33) 3 = ze N1_ (d_ + 33) 3 := hsN5_.e (by decide)
    have eD33_4_N5_ : ze N5_ (d_ + 33) 4 = ze N1_ (d_ + 33) 4 := hsN5_.e (by decide)
    have eD33_5_N5_ : ze N5_ (d_ + 33) 5 = ze N1_ (d_ + 33) 5 := hsN5_.e (by decide)
    have eD33_6_N5_ : ze N5_ (d_ + 33) 6 = ze N1_ (d_ + 33) 6 := hsN5_.e (by decide)
    show zW l m_Calc_settle (zn Mz + 0, zw Mz + 0) N5_ 22 [some (.ref (d_ + 33)), some (.int (Int32.ofInt a0_))] [] _
    have hs_ := hp0_N5_
    rw [hsv_, show ze N1_ (d_ + 33) 3 = ze Mz (d_ + 33) 3 by (exact eD33_3_N1_)] at hs_
    have hs2_ : zSh F_ d_ Mz N5_ (20 + ze Mz (d_ + 33) 3) (zone (-1) 0) := zSh_p (fun x => hsN1_.rg (by decide) x) hs_
    exact zk_vret (pc := 22) rfl hf_N5_ ⟨(show (a0_ = 1 → (∀ x : Nat, zg N5_ (d_ + 25) x = zg Mz (d_ + 25) x) ∧ ze N5_ (d_ + 33) 6 = ze Mz (d_ + 33) 6) by first | exact fun _ => ⟨fun x => rfl, by omega⟩ | (intro h_; exfalso; (exact zo_1234 h_ hc_1))), (show (a0_ = 0 → ze N5_ (d_ + 33) 6 = 1 ∧ zSh F_ d_ Mz N5_ (20 + ze Mz (d_ + 33) 3) (zone (-1) 0)) by first | exact fun _ => ⟨by (exact zo_594 eD33_6_N5_ hvN1_), hs2_⟩ | (intro h_; exfalso; omega))⟩ (zdal_p dlA_Calc_settle_147 (i := 12) rfl)
set_option maxHeartbeats 4000000 in
theorem u_Calc_raise (l : Launch) (d_ : Nat) (Mz : zMem) (hW : zKW d_ Mz) (a0_ : Int) (ha0_a : -2147483648 ≤ a0_) (ha0_b : a0_ < 2147483648) (F_ : Nat) (K_ : Nat → Nat → Int) (hA_ : zTA F_ K_) (p0_ : zKm F_ K_ d_ Mz) (p1_ : zCI F_ K_ d_ 1 Mz) (p2_ : 0 ≤ a0_) (p3_ : a0_ ≤ 9) : zC l m_Calc_raise 0 0 [.ref (d_ + 33), .int (Int32.ofInt a0_)] Mz (zqcV d_ [] [] [(33, 6)] [25, 27] Mz (fun N => zCI F_ K_ d_ 1 N ∧ zkS d_ N = zkS d_ Mz ∧ zkW F_ d_ N = (zpo F_ K_ (a0_).toNat (zkW F_ d_ Mz) (zkG d_ Mz)).1 ∧ zkG d_ N = (zpo F_ K_ (a0_).toNat (zkW F_ d_ Mz) (zkG d_ Mz)).2 ∧ zLow d_ Mz N)) := by
  refine zC_of (L0 := [some (.ref (d_ + 33)), some (.int (Int32.ofInt a0_)), none, none, none]) md_Calc_raise (Nat.le_of_ble_eq_true rfl) rfl ?_ zQ0
  have hf : zFc d_ [] [] [(33, 6)] [25, 27] Mz Mz := zFc.rf
  have r_D12_7 := ze_r Mz (d_ + 12) 7
  have r_D33_2 := ze_r Mz (d_ + 33) 2
  have r_D33_3 := ze_r Mz (d_ + 33) 3
  have r_D33_4 := ze_r Mz (d_ + 33) 4
  have r_D33_5 := ze_r Mz (d_ + 33) 5
  have r_D33_6 := ze_r Mz (d_ + 33) 6
  obtain ⟨⟨hF1_, hF27_⟩, hAr_⟩ := id hA_
  obtain ⟨hFc_, hKt_⟩ := id p0_
  have hb_ := p1_.b
  have hz0_ := zop0_le (zkS d_ Mz)
  obtain ⟨q1_, q2_, q3_, q4_, q5_, q6_, q7_, q8_, q9_⟩ := id p1_
  have hx9_ := q9_ (20 + ze Mz (d_ + 33) 3) (by (exact zo_1235 q5_ r_D33_3.1)) (by (exact zo_8))
  refine zw_aload_n (pc := 0) (n := 0) (x := (d_ + 33)) rfl (zdal_p dlA_Calc_raise_134 (i := 0) rfl) ?_
  refine zk_callV hf.x (pc := 1) [] [] l_Calc_43 (u_Calc_topShelf l d_ Mz (hf.w hW) (show 0 ≤ ze Mz (d_ + 33) 3 by first | with_reducible assumption | (exact zo_1236 q5_ r_D33_3.1) | assumption) (show ze Mz (d_ + 33) 3 ≤ 18 by first | with_reducible assumption | (exact zo_28 hb_.2.1 hb_.2.2.1 hb_.2.2.2 q5_) | assumption)) rfl rfl ((hf.w hW).kr (o := 33) (by decide)) (by decide) (by decide) (Nat.le_of_ble_eq_true rfl) (zdal_p dlA_Calc_raise_134 (i := 1) rfl) ?_
  rintro _ N1_ ⟨v2_, rfl, ⟨hv2_a, hv2_b⟩, hsN1_, hp0_N1_⟩
  obtain rfl := hsN1_.eq.symm
  replace hp0_N1_ : v2_ = 20 + ze Mz (d_ + 33) 3 := hp0_N1_
  show zW l m_Calc_raise (zn Mz + 0, zw Mz + 0) Mz 4 [some (.ref (d_ + 33)), some (.int (Int32.ofInt a0_)), none, none, none] [.int (Int32.ofInt v2_)] _
  refine zr_toI (show v2_ = (20 + ze Mz (d_ + 33) 3) by (exact hp0_N1_)) ?_
  refine zw_istore_n (pc := 4) (i := 2) (L2 := [some (.ref (d_ + 33)), some (.int (Int32.ofInt a0_)), some (.int (Int32.ofInt ((20 + ze Mz (d_ + 33) 3)))), none, none]) rfl (by decide) rfl (zdal_p dlA_Calc_raise_134 (i := 2) rfl) ?_
  refine zw_aload_n (pc := 5) (n := 0) (x := (d_ + 33)) rfl (zdal_p dlA_Calc_raise_134 (i := 3) rfl) ?_
  refine zw_getF (pc := 6) f_Calc_20 rfl ((hf.w hW).kr (o := 33) (by decide)) ((hf.w hW).lr (o := 33) (s := 0) (r := 23) (by decide)) (zdal_p dlA_Calc_raise_134 (i := 4) rfl) ?_
  refine zw_iload_n (pc := 9) (n := 2) (x := Int32.ofInt ((20 + ze Mz (d_ + 33) 3))) rfl (zdal_p dlA_Calc_raise_134 (i := 5) rfl) ?_
  refine zw_bipush (pc := 10) (v := Int32.ofInt 39) (by decide) (zdal_p dlA_Calc_raise_134 (i := 6) rfl) ?_
  refine zk_callV hf.x (pc := 12) [.int (Int32.ofInt ((20 + ze Mz (d_ + 33) 3))), .int (Int32.ofInt 39)] [] l_Calc_65 (u_Sums_copy l d_ Mz (hf.w hW) ((20 + ze Mz (d_ + 33) 3)) (by (exact zo_1237 r_D33_3.1)) (by (exact zo_40 hb_.2.2.1 hb_.2.2.2 q5_ r_D33_3.2)) 39 (by decide) (by decide) F_ K_ hA_ p0_ (show 0 ≤ ((20 + ze Mz (d_ + 33) 3)) by first | with_reducible assumption | (exact zo_1238 q5_ r_D33_3.1) | assumption) (show ((20 + ze Mz (d_ + 33) 3)) ≤ 39 by first | with_reducible assumption | (exact zo_15 hb_.2.1 hb_.2.2.1 hb_.2.2.2 q5_) | assumption) (show 0 ≤ 39 by first | with_reducible assumption | (decide) | assumption) (show 39 ≤ 39 by first | with_reducible assumption | (decide) | assumption)) rfl rfl ((hf.w hW).kr (o := 23) (by decide)) (by decide) (by decide) (Nat.le_of_ble_eq_true rfl) (zdal_p dlA_Calc_raise_134 (i := 7) rfl) ?_
  rintro _ N3_ ⟨rfl, hsN3_, hp0_N3_⟩
  replace hp0_N3_ : zSh F_ d_ Mz N3_ 39 (zvc F_ d_ Mz ((20 + ze Mz (d_ + 33) 3))) := hp0_N3_
  have hf_N3_ : zFc d_ [] [] [(33, 6)] [25, 27] Mz N3_ := hf.tr hsN3_ (by decide) (by decide) (by decide) (by decide)
  have eD12_7_N3_ : ze N3_ (d_ + 12) 7 = ze Mz (d_ + 12) 7 := hsN3_.e (by decide)
  have eD33_2_N3_ : ze N3_ (d_ + 33) 2 = ze Mz (d_ + 33) 2 := hsN3_.e (by decide)
  have eD33_3_N3_ : ze N3_ (d_ + 33) 3 = ze Mz (d_ + 33) 3 := hsN3_.e (by decide)
  have eD33_4_N3_ : ze N3_ (d_ + 33) 4 = ze Mz (d_ + 33) 4 := hsN3_.e (by decide)
  have eD33_5_N3_ : ze N3_ (d_ + 33) 5 = ze Mz (d_ + 33) 5 := hsN3_.e (by decide)
  have eD33_6_N3_ : ze N3_ (d_ + 33) 6 = ze Mz (d_ + 33) 6 := hsN3_.e (by decide)
  have c5_ : zKm F_ K_ d_ N3_ := zKm.fr (hf.w hW) hsN3_ p0_ (by decide)
  show zW l m_Calc_raise (zn Mz + 0, zw Mz + 0) N3_ 15 [some (.ref (d_ + 33)), some (.int (Int32.ofInt a0_)), some (.int (Int32.ofInt ((20 + ze Mz (d_ + 33) 3)))), none, none] [] _
  have hc1_ := hp0_N3_
  refine zw_aload_n (pc := 15) (n := 0) (x := (d_ + 33)) rfl (zdal_p dlA_Calc_raise_134 (i := 8) rfl) ?_
  refine zw_getF (pc := 16) f_Calc_20 rfl ((hf_N3_.w hW).kr (o := 33) (by decide)) ((hf_N3_.w hW).lr (o := 33) (s := 0) (r := 23) (by decide)) (zdal_p dlA_Calc_raise_134 (i := 9) rfl) ?_
  refine zw_iload_n (pc := 19) (n := 2) (x := Int32.ofInt ((20 + ze Mz (d_ + 33) 3))) rfl (zdal_p dlA_Calc_raise_134 (i := 10) rfl) ?_
  refine zw_aload_n (pc := 20) (n := 0) (x := (d_ + 33)) rfl (zdal_p dlA_Calc_raise_134 (i := 11) rfl) ?_
  refine zw_getF (pc := 21) f_Calc_20 rfl ((hf_N3_.w hW).kr (o := 33) (by decide)) ((hf_N3_.w hW).lr (o := 33) (s := 0) (r := 23) (by decide)) (zdal_p dlA_Calc_raise_134 (i := 12) rfl) ?_
  refine zw_getF (pc := 24) f_Calc_68 rfl ((hf_N3_.w hW).kr (o := 23) (by decide)) ((hf_N3_.w hW).lr (o := 23) (s := 0) (r := 12) (by decide)) (zdal_p dlA_Calc_raise_134 (i := 13) rfl) ?_
  refine zk_getI (pc := 27) f_Calc_72 rfl ((hf_N3_.w hW).kr (o := 12) (by decide)) (zdal_p dlA_Calc_raise_134 (i := 14) rfl) ?_
  rw [hf_N3_.e (by decide)]
  refine zw_iconst (pc := 30) (v := Int32.ofInt 1) (by decide) (zdal_p dlA_Calc_raise_134 (i := 15) rfl) ?_
  refine zr_isub (pc := 31) (zdal_p dlA_Calc_raise_134 (i := 16) rfl) ?_
  refine zw_lconst (pc := 32) (v := Int64.ofInt 1) (by decide) (zdal_p dlA_Calc_raise_134 (i := 17) rfl) ?_
  refine zk_callV hf_N3_.x (pc := 33) [.int (Int32.ofInt ((20 + ze Mz (d_ + 33) 3))), .int (Int32.ofInt ((ze Mz (d_ + 12) 7) - 1)), .long (Int64.ofInt 1)] [] l_Calc_61 (u_Sums_putSingle l d_ N3_ (hf_N3_.w hW) ((20 + ze Mz (d_ + 33) 3)) (by (exact zo_1237 r_D33_3.1)) (by (exact zo_40 hb_.2.2.1 hb_.2.2.2 q5_ r_D33_3.2)) ((ze Mz (d_ + 12) 7) - 1) (by (exact zo_786 hFc_ r_D12_7.1)) (by (exact zo_601 r_D12_7.2)) 1 (by decide) (by decide) F_ K_ hA_ c5_ (show 0 ≤ ((20 + ze Mz (d_ + 33) 3)) by first | with_reducible assumption | (exact zo_1238 q5_ r_D33_3.1) | assumption) (show ((20 + ze Mz (d_ + 33) 3)) ≤ 39 by first | with_reducible assumption | (exact zo_15 hb_.2.1 hb_.2.2.1 hb_.2.2.2 q5_) | assumption)) rfl rfl ((hf_N3_.w hW).kr (o := 23) (by decide)) (by decide) (by decide) (Nat.le_of_ble_eq_true rfl) (zdal_p dlA_Calc_raise_134 (i := 18) rfl) ?_
  rintro _ N6_ ⟨rfl, hsN6_, hp0_N6_⟩
  replace hp0_N6_ : zSh F_ d_ N3_ N6_ ((20 + ze Mz (d_ + 33) 3)) (zone ((ze Mz (d_ + 12) 7) - 1) 1) := hp0_N6_
  have hf_N6_ : zFc d_ [] [] [(33, 6)] [25, 27] Mz N6_ := hf_N3_.tr hsN6_ (by decide) (by decide) (by decide) (by decide)
  have eD12_7_N6_ : ze N6_ (d_ + 12) 7 = ze N3_ (d_ + 12) 7 := hsN6_.e (by decide)
  have eD33_2_N6_ : ze N6_ (d_ + 33) 2 = ze N3_ (d_ + 33) 2 := hsN6_.e (by decide)
  have eD33_3_N6_ : ze N6_ (d_ + 33) 3 = ze N3_ (d_ + 33) 3 := hsN6_.e (by decide)
  have eD33_4_N6_ : ze N6_ (d_ + 33) 4 = ze N3_ (d_ + 33) 4 := hsN6_.e (by decide)
  have eD33_5_N6_ : ze N6_ (d_ + 33) 5 = ze N3_ (d_ + 33) 5 := hsN6_.e (by decide)
  have eD33_6_N6_ : ze N6_ (d_ + 33) 6 = ze N3_ (d_ + 33) 6 := hsN6_.e (by decide)
  have c8_ : zKm F_ K_ d_ N6_ := zKm.fr (hf_N3_.w hW) hsN6_ c5_ (by decide)
  show zW l m_Calc_raise (zn Mz + 0, zw Mz + 0) N6_ 36 [some (.ref (d_ + 33)), some (.int (Int32.ofInt a0_)), some (.int (Int32.ofInt ((20 + ze Mz (d_ + 33) 3)))), none, none] [] _
  have hp2_ := hp0_N6_
  rw [show ze Mz (d_ + 12) 7 - 1 = (F_ : Int) - 1 by (exact zo_795 hFc_ r_D12_7.2)] at hp2_
  have hra0_ := zRa_0 hA_ rfl (by (exact zo_1235 q5_ r_D33_3.1)) (by (exact zo_1239 hb_.2.1 hb_.2.2.1 hb_.2.2.2 q5_)) hc1_ hp2_ (by (exact zo_53 eD33_6_N3_ eD33_6_N6_))
  refine zw_iconst (pc := 36) (v := Int32.ofInt 0) (by decide) (zdal_p dlA_Calc_raise_134 (i := 19) rfl) ?_
  refine zw_istore_n (pc := 37) (i := 3) (L2 := [some (.ref (d_ + 33)), some (.int (Int32.ofInt a0_)), some (.int (Int32.ofInt ((20 + ze Mz (d_ + 33) 3)))), some (.int (Int32.ofInt 0)), none]) rfl (by decide) rfl (zdal_p dlA_Calc_raise_134 (i := 20) rfl) ?_
  have lp_38 : ∀ (n : Nat) (u9_ : Int) (hu9_a : -2147483648 ≤ u9_) (hu9_b : u9_ < 2147483648) (N10_ : zMem) (hs11_ : zFc d_ [] [] [(33, 6)] [25, 27] N6_ N10_) (i12_ : 0 ≤ u9_) (i13_ : u9_ ≤ a0_) (i14_ : zRa F_ K_ d_ Mz N10_ u9_), (a0_ - u9_).toNat < n → zW l m_Calc_raise (zn Mz + 0, zw Mz + 0) N10_ 38 [some (.ref (d_ + 33)), some (.int (Int32.ofInt a0_)), some (.int (Int32.ofInt ((20 + ze Mz (d_ + 33) 3)))), some (.int (Int32.ofInt u9_)), none] [] (zqcV d_ [] [] [(33, 6)] [25, 27] Mz (fun N => zCI F_ K_ d_ 1 N ∧ zkS d_ N = zkS d_ Mz ∧ zkW F_ d_ N = (zpo F_ K_ (a0_).toNat (zkW F_ d_ Mz) (zkG d_ Mz)).1 ∧ zkG d_ N = (zpo F_ K_ (a0_).toNat (zkW F_ d_ Mz) (zkG d_ Mz)).2 ∧ zLow d_ Mz N)) := by
    intro n
    induction n with
    | zero =>
      intro u9_ hu9_a hu9_b N10_ hs11_ i12_ i13_ i14_ h0
      exact absurd h0 (Nat.not_lt_zero _)
    | succ n ih_38 =>
      intro u9_ hu9_a hu9_b N10_ hs11_ i12_ i13_ i14_ hlt_38
      have hf_N10_ : zFc d_ [] [] [(33, 6)] [25, 27] Mz N10_ := hf_N6_.tr hs11_ (by decide) (by decide) (by decide) (by decide)
      have eD12_7_N10_ : ze N10_ (d_ + 12) 7 = ze N6_ (d_ + 12) 7 := hs11_.e (by decide)
      have eD33_2_N10_ : ze N10_ (d_ + 33) 2 = ze N6_ (d_ + 33) 2 := hs11_.e (by decide)
      have eD33_3_N10_ : ze N10_ (d_ + 33) 3 = ze N6_ (d_ + 33) 3 := hs11_.e (by decide)
      have eD33_4_N10_ : ze N10_ (d_ + 33) 4 = ze N6_ (d_ + 33) 4 := hs11_.e (by decide)
      have eD33_5_N10_ : ze N10_ (d_ + 33) 5 = ze N6_ (d_ + 33) 5 := hs11_.e (by decide)
      have rD33_6_N10_ := ze_r N10_ (d_ + 33) 6
      have c15_ : zKm F_ K_ d_ N10_ := zKm.fr (hf_N6_.w hW) hs11_ c8_ (by decide)
      have hra_ := (show zRa F_ K_ d_ Mz N10_ u9_ by first | with_reducible assumption | assumption)
      have hm5_ : zfit F_ K_ (zvc F_ d_ N10_ (20 + ze Mz (d_ + 33) 3)) := hra_.2.2.2.1
      have hm6_ : zfit F_ K_ (zvc F_ d_ N10_ 39) := by rw [ hra_.1]; exact hx9_
      refine zw_iload_n (pc := 38) (n := 3) (x := Int32.ofInt u9_) rfl (zdal_p dlA_Calc_raise_134 (i := 21) rfl) ?_
      refine zw_iload_n (pc := 39) (n := 1) (x := Int32.ofInt a0_) rfl (zdal_p dlA_Calc_raise_134 (i := 22) rfl) ?_
      refine zr_icmp_ge (pc := 40) (tgt := 92) ⟨hu9_a, hu9_b⟩ ⟨ha0_a, ha0_b⟩ (by decide) (zdal_p dlA_Calc_raise_134 (i := 23) rfl) (fun hc_40 => ?_) (fun hc_40 => ?_)
      · skip
        obtain ⟨f1_, f2_, f3_, f4_, f5_⟩ := zRa_e p1_ (n := (a0_).toNat) (by (exact zo_1240 hc_40 i12_ i13_ p3_)) hra_ (by (exact zo_250 eD33_2_N10_ eD33_2_N3_ eD33_2_N6_)) (fun i => hf_N10_.r (by decide) i) (by (exact zo_250 eD33_3_N10_ eD33_3_N3_ eD33_3_N6_)) (by (exact zo_250 eD33_4_N10_ eD33_4_N3_ eD33_4_N6_)) (by (exact zo_250 eD33_5_N10_ eD33_5_N3_ eD33_5_N6_))
        exact zk_vret (pc := 92) rfl hf_N10_ ⟨f1_, (show zkS d_ N10_ = zkS d_ Mz by exact f2_), (show zkW F_ d_ N10_ = (zpo F_ K_ (a0_).toNat (zkW F_ d_ Mz) (zkG d_ Mz)).1 by exact f3_), (show zkG d_ N10_ = (zpo F_ K_ (a0_).toNat (zkW F_ d_ Mz) (zkG d_ Mz)).2 by exact f4_), (show zLow d_ Mz N10_ by exact f5_)⟩ (zdal_p dlA_Calc_raise_135 (i := 23) rfl)
      · skip
        refine zw_iload_n (pc := 43) (n := 3) (x := Int32.ofInt u9_) rfl (zdal_p dlA_Calc_raise_135 (i := 0) rfl) ?_
        refine zw_bipush (pc := 44) (v := Int32.ofInt 9) (by decide) (zdal_p dlA_Calc_raise_135 (i := 1) rfl) ?_
        refine zr_icmp_ge (pc := 46) (tgt := 92) ⟨hu9_a, hu9_b⟩ ⟨(by decide), (by decide)⟩ (by decide) (zdal_p dlA_Calc_raise_135 (i := 2) rfl) (fun hc_46 => ?_) (fun hc_46 => ?_)
        · skip
          obtain ⟨f1_, f2_, f3_, f4_, f5_⟩ := zRa_e p1_ (n := (a0_).toNat) (by (exact zo_1241 hc_40 hc_46 p3_)) hra_ (by (exact zo_250 eD33_2_N10_ eD33_2_N3_ eD33_2_N6_)) (fun i => hf_N10_.r (by decide) i) (by (exact zo_250 eD33_3_N10_ eD33_3_N3_ eD33_3_N6_)) (by (exact zo_250 eD33_4_N10_ eD33_4_N3_ eD33_4_N6_)) (by (exact zo_250 eD33_5_N10_ eD33_5_N3_ eD33_5_N6_))
          exact zk_vret (pc := 92) rfl hf_N10_ ⟨f1_, (show zkS d_ N10_ = zkS d_ Mz by exact f2_), (show zkW F_ d_ N10_ = (zpo F_ K_ (a0_).toNat (zkW F_ d_ Mz) (zkG d_ Mz)).1 by exact f3_), (show zkG d_ N10_ = (zpo F_ K_ (a0_).toNat (zkW F_ d_ Mz) (zkG d_ Mz)).2 by exact f4_), (show zLow d_ Mz N10_ by exact f5_)⟩ (zdal_p dlA_Calc_raise_135 (i := 23) rfl)
        · skip
          refine zw_aload_n (pc := 49) (n := 0) (x := (d_ + 33)) rfl (zdal_p dlA_Calc_raise_135 (i := 3) rfl) ?_
          refine zw_getF (pc := 50) f_Calc_20 rfl ((hf_N10_.w hW).kr (o := 33) (by decide)) ((hf_N10_.w hW).lr (o := 33) (s := 0) (r := 23) (by decide)) (zdal_p dlA_Calc_raise_135 (i := 4) rfl) ?_
          refine zw_iload_n (pc := 53) (n := 2) (x := Int32.ofInt ((20 + ze Mz (d_ + 33) 3))) rfl (zdal_p dlA_Calc_raise_135 (i := 5) rfl) ?_
          refine zw_bipush (pc := 54) (v := Int32.ofInt 39) (by decide) (zdal_p dlA_Calc_raise_135 (i := 6) rfl) ?_
          refine zk_callV hf_N10_.x (pc := 56) [.int (Int32.ofInt ((20 + ze Mz (d_ + 33) 3))), .int (Int32.ofInt 39)] [] l_Calc_77 (u_Sums_multiply l d_ N10_ (hf_N10_.w hW) ((20 + ze Mz (d_ + 33) 3)) (by (exact zo_1237 r_D33_3.1)) (by (exact zo_40 hb_.2.2.1 hb_.2.2.2 q5_ r_D33_3.2)) 39 (by decide) (by decide) F_ K_ hA_ c15_ (show 0 ≤ ((20 + ze Mz (d_ + 33) 3)) by first | with_reducible assumption | (exact zo_1238 q5_ r_D33_3.1) | assumption) (show ((20 + ze Mz (d_ + 33) 3)) ≤ 39 by first | with_reducible assumption | (exact zo_15 hb_.2.1 hb_.2.2.1 hb_.2.2.2 q5_) | assumption) (show 0 ≤ 39 by first | with_reducible assumption | (decide) | assumption) (show 39 ≤ 39 by first | with_reducible assumption | (decide) | assumption) (show zfit F_ K_ (zvc F_ d_ N10_ ((20 + ze Mz (d_ + 33) 3))) by exact hm5_) (show zfit F_ K_ (zvc F_ d_ N10_ 39) by exact hm6_)) rfl rfl ((hf_N10_.w hW).kr (o := 23) (by decide)) (by decide) (by decide) (Nat.le_of_ble_eq_true rfl) (zdal_p dlA_Calc_raise_135 (i := 7) rfl) ?_
          rintro _ N16_ ⟨v17_, rfl, ⟨hv17_a, hv17_b⟩, hsN16_, hp0_N16_⟩
          replace hp0_N16_ : ((v17_ = 1 ∧ zmok F_ K_ (zvc F_ d_ N10_ ((20 + ze Mz (d_ + 33) 3))) (zvc F_ d_ N10_ 39) ∧ zSh F_ d_ N10_ N16_ ((20 + ze Mz (d_ + 33) 3)) (zprd F_ K_ (zvc F_ d_ N10_ ((20 + ze Mz (d_ + 33) 3))) (zvc F_ d_ N10_ 39))) ∨ (v17_ = 0 ∧ ¬ zmok F_ K_ (zvc F_ d_ N10_ ((20 + ze Mz (d_ + 33) 3))) (zvc F_ d_ N10_ 39) ∧ (∀ x : Nat, zg N16_ (d_ + 25) x = zg N10_ (d_ + 25) x))) := hp0_N16_
          have hf_N16_ : zFc d_ [] [] [(33, 6)] [25, 27] Mz N16_ := hf_N10_.tr hsN16_ (by decide) (by decide) (by decide) (by decide)
          have hb0_N16_ : zFc d_ [] [] [(33, 6)] [25, 27] N6_ N16_ := hs11_.tr hsN16_ (by decide) (by decide) (by decide) (by decide)
          have eD12_7_N16_ : ze N16_ (d_ + 12) 7 = ze N10_ (d_ + 12) 7 := hsN16_.e (by decide)
          have eD33_2_N16_ : ze N16_ (d_ + 33) 2 = ze N10_ (d_ + 33) 2 := hsN16_.e (by decide)
          have eD33_3_N16_ : ze N16_ (d_ + 33) 3 = ze N10_ (d_ + 33) 3 := hsN16_.e (by decide)
          have eD33_4_N16_ : ze N16_ (d_ + 33) 4 = ze N10_ (d_ + 33) 4 := hsN16_.e (by decide)
          have eD33_5_N16_ : ze N16_ (d_ + 33) 5 = ze N10_ (d_ + 33) 5 := hsN16_.e (by decide)
          have eD33_6_N16_ : ze N16_ (d_ + 33) 6 = ze N10_ (d_ + 33) 6 := hsN16_.e (by decide)
          have c18_ : zKm F_ K_ d_ N16_ := zKm.fr (hf_N10_.w hW) hsN16_ c15_ (by decide)
          rcases hp0_N16_ with ⟨rfl, ha56_0_hp0_N16_, ha56_1_hp0_N16_⟩ | ⟨rfl, ha56_0_hp0_N16_, ha56_1_hp0_N16_⟩
          · skip
            have hm1_ := ha56_0_hp0_N16_
            have hsh_ := ha56_1_hp0_N16_
            have hz_ : zvc F_ d_ N16_ (20 + ze Mz (d_ + 33) 3) = (zprd F_ K_ (zvc F_ d_ N10_ (20 + ze Mz (d_ + 33) 3)) (zvc F_ d_ N10_ 39)) := (zSh_n (by (exact zo_1238 q5_ r_D33_3.1)) hsh_).trans (zprd_n hA_ _ _)
            show zW l m_Calc_raise (zn Mz + 0, zw Mz + 0) N16_ 59 [some (.ref (d_ + 33)), some (.int (Int32.ofInt a0_)), some (.int (Int32.ofInt ((20 + ze Mz (d_ + 33) 3)))), some (.int (Int32.ofInt u9_)), none] [.int (Int32.ofInt 1)] _
            refine zw_istore (pc := 59) (i := 4) (L2 := [some (.ref (d_ + 33)), some (.int (Int32.ofInt a0_)), some (.int (Int32.ofInt ((20 + ze Mz (d_ + 33) 3)))), some (.int (Int32.ofInt u9_)), some (.int (Int32.ofInt 1))]) (by decide) rfl (zdal_p dlA_Calc_raise_135 (i := 8) rfl) ?_
            refine zw_aload_n (pc := 61) (n := 0) (x := (d_ + 33)) rfl (zdal_p dlA_Calc_raise_135 (i := 9) rfl) ?_
            refine zw_iload (pc := 62) (i := 4) (x := Int32.ofInt 1) rfl (zdal_p dlA_Calc_raise_135 (i := 10) rfl) ?_
            refine zr_if_eq (pc := 64) (tgt := 82) ⟨(by decide), (by decide)⟩ (by decide) (zdal_p dlA_Calc_raise_135 (i := 11) rfl) (fun hc_64 => ?_) (fun hc_64 => ?_)
            · skip
              exact absurd hc_64 (by decide)
            · skip
              refine zw_aload_n (pc := 67) (n := 0) (x := (d_ + 33)) rfl (zdal_p dlA_Calc_raise_135 (i := 12) rfl) ?_
              refine zw_getF (pc := 68) f_Calc_20 rfl ((hf_N16_.w hW).kr (o := 33) (by decide)) ((hf_N16_.w hW).lr (o := 33) (s := 0) (r := 23) (by decide)) (zdal_p dlA_Calc_raise_135 (i := 13) rfl) ?_
              refine zw_iload_n (pc := 71) (n := 2) (x := Int32.ofInt ((20 + ze Mz (d_ + 33) 3))) rfl (zdal_p dlA_Calc_raise_135 (i := 14) rfl) ?_
              refine zk_callV hf_N16_.x (pc := 72) [.int (Int32.ofInt ((20 + ze Mz (d_ + 33) 3)))] [.ref (d_ + 33)] l_Calc_81 (u_Sums_isInBounds l d_ N16_ (hf_N16_.w hW) ((20 + ze Mz (d_ + 33) 3)) (by (exact zo_1237 r_D33_3.1)) (by (exact zo_40 hb_.2.2.1 hb_.2.2.2 q5_ r_D33_3.2)) F_ K_ hA_ c18_ (show 0 ≤ ((20 + ze Mz (d_ + 33) 3)) by first | with_reducible assumption | (exact zo_1238 q5_ r_D33_3.1) | assumption) (show ((20 + ze Mz (d_ + 33) 3)) ≤ 39 by first | with_reducible assumption | (exact zo_15 hb_.2.1 hb_.2.2.1 hb_.2.2.2 q5_) | assumption) (show zbd F_ K_ (zvc F_ d_ N16_ ((20 + ze Mz (d_ + 33) 3))) by rw [hz_]; exact zprd_bd hA_ hm1_)) rfl rfl ((hf_N16_.w hW).kr (o := 23) (by decide)) (by decide) (by decide) (Nat.le_of_ble_eq_true rfl) (zdal_p dlA_Calc_raise_135 (i := 15) rfl) ?_
              rintro _ N19_ ⟨v20_, rfl, ⟨hv20_a, hv20_b⟩, hsN19_, hp0_N19_⟩
              obtain rfl := hsN19_.eq.symm
              replace hp0_N19_ : ((v20_ = 1 ∧ zfit F_ K_ (zvc F_ d_ N16_ ((20 + ze Mz (d_ + 33) 3)))) ∨ (v20_ = 0 ∧ ¬ zfit F_ K_ (zvc F_ d_ N16_ ((20 + ze Mz (d_ + 33) 3))))) := hp0_N19_
              rcases hp0_N19_ with ⟨rfl, ha72_0_hp0_N19_⟩ | ⟨rfl, ha72_0_hp0_N19_⟩
              · skip
                have hi_ := ha72_0_hp0_N19_
                rw [hz_] at hi_
                show zW l m_Calc_raise (zn Mz + 0, zw Mz + 0) N16_ 75 [some (.ref (d_ + 33)), some (.int (Int32.ofInt a0_)), some (.int (Int32.ofInt ((20 + ze Mz (d_ + 33) 3)))), some (.int (Int32.ofInt u9_)), some (.int (Int32.ofInt 1))] [.int (Int32.ofInt 1), .ref (d_ + 33)] _
                refine zr_if_eq (pc := 75) (tgt := 82) ⟨(by decide), (by decide)⟩ (by decide) (zdal_p dlA_Calc_raise_135 (i := 16) rfl) (fun hc_75 => ?_) (fun hc_75 => ?_)
                · skip
                  exact absurd hc_75 (by decide)
                · skip
                  refine zw_iconst (pc := 78) (v := Int32.ofInt 1) (by decide) (zdal_p dlA_Calc_raise_135 (i := 17) rfl) ?_
                  refine zw_goto (pc := 79) (tgt := 83) (by decide) (zdal_p dlA_Calc_raise_135 (i := 18) rfl) ?_
                  refine zk_callV hf_N16_.x (pc := 83) [.int (Int32.ofInt 1)] [] l_Calc_85 (u_Calc_settle l d_ N16_ (hf_N16_.w hW) 1 (by decide) (by decide) (by (decide)) F_ K_ hA_ c18_ (show 1 ≤ ze N16_ (d_ + 33) 3 by first | with_reducible assumption | (exact zo_1242 eD33_3_N10_ eD33_3_N16_ eD33_3_N3_ eD33_3_N6_ q5_ r_D33_3.1) | assumption) (show ze N16_ (d_ + 33) 3 ≤ 18 by first | with_reducible assumption | (exact zo_1243 eD33_3_N10_ eD33_3_N16_ eD33_3_N3_ eD33_3_N6_ hb_.2.1 hb_.2.2.1 hb_.2.2.2 q5_) | assumption)) rfl rfl ((hf_N16_.w hW).kr (o := 33) (by decide)) (by decide) (by decide) (Nat.le_of_ble_eq_true rfl) (zdal_p dlA_Calc_raise_135 (i := 20) rfl) ?_
                  rintro _ N21_ ⟨rfl, hsN21_, ⟨hp0_N21_, hp1_N21_⟩⟩
                  have hf_N21_ : zFc d_ [] [] [(33, 6)] [25, 27] Mz N21_ := hf_N16_.tr hsN21_ (by decide) (by decide) (by decide) (by decide)
                  have hb0_N21_ : zFc d_ [] [] [(33, 6)] [25, 27] N6_ N21_ := hb0_N16_.tr hsN21_ (by decide) (by decide) (by decide) (by decide)
                  have eD12_7_N21_ : ze N21_ (d_ + 12) 7 = ze N16_ (d_ + 12) 7 := hsN21_.e (by decide)
                  have eD33_2_N21_ : ze N21_ (d_ + 33) 2 = ze N16_ (d_ + 33) 2 := hsN21_.e (by decide)
                  have eD33_3_N21_ : ze N21_ (d_ + 33) 3 = ze N16_ (d_ + 33) 3 := hsN21_.e (by decide)
                  have eD33_4_N21_ : ze N21_ (d_ + 33) 4 = ze N16_ (d_ + 33) 4 := hsN21_.e (by decide)
                  have eD33_5_N21_ : ze N21_ (d_ + 33) 5 = ze N16_ (d_ + 33) 5 := hsN21_.e (by decide)
                  have rD33_6_N21_ := ze_r N21_ (d_ + 33) 6
                  show zW l m_Calc_raise (zn Mz + 0, zw Mz + 0) N21_ 86 [some (.ref (d_ + 33)), some (.int (Int32.ofInt a0_)), some (.int (Int32.ofInt ((20 + ze Mz (d_ + 33) 3)))), some (.int (Int32.ofInt u9_)), some (.int (Int32.ofInt 1))] [] _
                  have ho0_ := hp0_N21_
                  have ho1_ := hp1_N21_
                  rw [show ze N16_ (d_ + 33) 3 = ze Mz (d_ + 33) 3 by (exact zo_1187 eD33_3_N10_ eD33_3_N16_ eD33_3_N3_ eD33_3_N6_)] at ho1_
                  have hok_ : zOk F_ d_ N10_ N21_ (20 + ze Mz (d_ + 33) 3) (zprd F_ K_ (zvc F_ d_ N10_ (20 + ze Mz (d_ + 33) 3)) (zvc F_ d_ N10_ 39)) (zmok F_ K_ (zvc F_ d_ N10_ (20 + ze Mz (d_ + 33) 3)) (zvc F_ d_ N10_ 39) ∧ zfit F_ K_ (zprd F_ K_ (zvc F_ d_ N10_ (20 + ze Mz (d_ + 33) 3)) (zvc F_ d_ N10_ 39))) := by first | exact zOk_1 hF27_ (by (exact zo_1235 q5_ r_D33_3.1)) hsh_ (zprd_n hA_ _ _) (by (exact eD33_6_N16_)) ⟨hm1_, hi_⟩ (ho0_ rfl).1 (ho0_ rfl).2 | exact zOk_2 hF27_ (by omega) hsh_ (fun q_ => hi_ q_.2) (ho1_ rfl).2 (zone_z 0) (ho1_ rfl).1 | exact zOk_3 hF27_ (by omega) hrw_ (fun q_ => hm0_ q_.1) (ho1_ rfl).2 (zone_z 0) (ho1_ rfl).1
                  have hrs_ := zRa_s rfl (by (exact zo_1235 q5_ r_D33_3.1)) (by (exact zo_1239 hb_.2.1 hb_.2.2.1 hb_.2.2.2 q5_)) (by (exact i12_)) hra_ hok_
                  refine zr_iinc (pc := 86) (i := 3) (a := u9_) (n := 1) (L2 := [some (.ref (d_ + 33)), some (.int (Int32.ofInt a0_)), some (.int (Int32.ofInt ((20 + ze Mz (d_ + 33) 3)))), some (.int (Int32.ofInt (u9_ + 1))), some (.int (Int32.ofInt 1))]) rfl (by decide) rfl (zdal_p dlA_Calc_raise_135 (i := 21) rfl) ?_
                  refine zw_goto (pc := 89) (tgt := 38) (by decide) (zdal_p dlA_Calc_raise_135 (i := 22) rfl) ?_
                  refine zW_le [some (.ref (d_ + 33)), some (.int (Int32.ofInt a0_)), some (.int (Int32.ofInt ((20 + ze Mz (d_ + 33) 3)))), some (.int (Int32.ofInt (u9_ + 1))), none] (⟨rfl, rfl, rfl, rfl, trivial⟩) ?_
                  exact ih_38 (u9_ + 1) (by (exact zo_74 i12_)) (by (exact zo_1244 hc_46)) N21_ hb0_N21_ (show 0 ≤ (u9_ + 1) by first | with_reducible assumption | (exact zo_76 i12_) | assumption) (show (u9_ + 1) ≤ a0_ by first | with_reducible assumption | assumption | omega) (show zRa F_ K_ d_ Mz N21_ (u9_ + 1) by exact hrs_) (by (exact zo_147 hc_40 hlt_38))
              · skip
                have hi_ := ha72_0_hp0_N19_
                rw [hz_] at hi_
                show zW l m_Calc_raise (zn Mz + 0, zw Mz + 0) N16_ 75 [some (.ref (d_ + 33)), some (.int (Int32.ofInt a0_)), some (.int (Int32.ofInt ((20 + ze Mz (d_ + 33) 3)))), some (.int (Int32.ofInt u9_)), some (.int (Int32.ofInt 1))] [.int (Int32.ofInt 0), .ref (d_ + 33)] _
                refine zr_if_eq (pc := 75) (tgt := 82) ⟨(by decide), (by decide)⟩ (by decide) (zdal_p dlA_Calc_raise_135 (i := 16) rfl) (fun hc_75 => ?_) (fun hc_75 => ?_)
                · skip
                  refine zw_iconst (pc := 82) (v := Int32.ofInt 0) (by decide) (zdal_p dlA_Calc_raise_135 (i := 19) rfl) ?_
                  refine zk_callV hf_N16_.x (pc := 83) [.int (Int32.ofInt 0)] [] l_Calc_85 (u_Calc_settle l d_ N16_ (hf_N16_.w hW) 0 (by decide) (by decide) (by (decide)) F_ K_ hA_ c18_ (show 1 ≤ ze N16_ (d_ + 33) 3 by first | with_reducible assumption | (exact zo_1242 eD33_3_N10_ eD33_3_N16_ eD33_3_N3_ eD33_3_N6_ q5_ r_D33_3.1) | assumption) (show ze N16_ (d_ + 33) 3 ≤ 18 by first | with_reducible assumption | (exact zo_1243 eD33_3_N10_ eD33_3_N16_ eD33_3_N3_ eD33_3_N6_ hb_.2.1 hb_.2.2.1 hb_.2.2.2 q5_) | assumption)) rfl rfl ((hf_N16_.w hW).kr (o := 33) (by decide)) (by decide) (by decide) (Nat.le_of_ble_eq_true rfl) (zdal_p dlA_Calc_raise_135 (i := 20) rfl) ?_
                  rintro _ N24_ ⟨rfl, hsN24_, ⟨hp0_N24_, hp1_N24_⟩⟩
                  have hf_N24_ : zFc d_ [] [] [(33, 6)] [25, 27] Mz N24_ := hf_N16_.tr hsN24_ (by decide) (by decide) (by decide) (by decide)
                  have hb0_N24_ : zFc d_ [] [] [(33, 6)] [25, 27] N6_ N24_ := hb0_N16_.tr hsN24_ (by decide) (by decide) (by decide) (by decide)
                  have eD12_7_N24_ : ze N24_ (d_ + 12) 7 = ze N16_ (d_ + 12) 7 := hsN24_.e (by decide)
                  have eD33_2_N24_ : ze N24_ (d_ + 33) 2 = ze N16_ (d_ + 33) 2 := hsN24_.e (by decide)
                  have eD33_3_N24_ : ze N24_ (d_ + 33) 3 = ze N16_ (d_ + 33) 3 := hsN24_.e (by decide)
                  have eD33_4_N24_ : ze N24_ (d_ + 33) 4 = ze N16_ (d_ + 33) 4 := hsN24_.e (by decide)
                  have eD33_5_N24_ : ze N24_ (d_ + 33) 5 = ze N16_ (d_ + 33) 5 := hsN24_.e (by decide)
                  have rD33_6_N24_ := ze_r N24_ (d_ + 33) 6
                  show zW l m_Calc_raise (zn Mz + 0, zw Mz + 0) N24_ 86 [some (.ref (d_ + 33)), some (.int (Int32.ofInt a0_)), some (.int (Int32.ofInt ((20 + ze Mz (d_ + 33) 3)))), some (.int (Int32.ofInt u9_)), some (.int (Int32.ofInt 1))] [] _
                  have ho0_ := hp0_N24_
                  have ho1_ := hp1_N24_
                  rw [show ze N16_ (d_ + 33) 3 = ze Mz (d_ + 33) 3 by (exact zo_1187 eD33_3_N10_ eD33_3_N16_ eD33_3_N3_ eD33_3_N6_)] at ho1_
                  have hok_ : zOk F_ d_ N10_ N24_ (20 + ze Mz (d_ + 33) 3) (zprd F_ K_ (zvc F_ d_ N10_ (20 + ze Mz (d_ + 33) 3)) (zvc F_ d_ N10_ 39)) (zmok F_ K_ (zvc F_ d_ N10_ (20 + ze Mz (d_ + 33) 3)) (zvc F_ d_ N10_ 39) ∧ zfit F_ K_ (zprd F_ K_ (zvc F_ d_ N10_ (20 + ze Mz (d_ + 33) 3)) (zvc F_ d_ N10_ 39))) := by first | exact zOk_1 hF27_ (by omega) hsh_ (zprd_n hA_ _ _) (by omega) ⟨hm1_, hi_⟩ (ho0_ rfl).1 (ho0_ rfl).2 | exact zOk_2 hF27_ (by (exact zo_1235 q5_ r_D33_3.1)) hsh_ (fun q_ => hi_ q_.2) (ho1_ rfl).2 (zone_z 0) (ho1_ rfl).1 | exact zOk_3 hF27_ (by omega) hrw_ (fun q_ => hm0_ q_.1) (ho1_ rfl).2 (zone_z 0) (ho1_ rfl).1
                  have hrs_ := zRa_s rfl (by (exact zo_1235 q5_ r_D33_3.1)) (by (exact zo_1239 hb_.2.1 hb_.2.2.1 hb_.2.2.2 q5_)) (by (exact i12_)) hra_ hok_
                  refine zr_iinc (pc := 86) (i := 3) (a := u9_) (n := 1) (L2 := [some (.ref (d_ + 33)), some (.int (Int32.ofInt a0_)), some (.int (Int32.ofInt ((20 + ze Mz (d_ + 33) 3)))), some (.int (Int32.ofInt (u9_ + 1))), some (.int (Int32.ofInt 1))]) rfl (by decide) rfl (zdal_p dlA_Calc_raise_135 (i := 21) rfl) ?_
                  refine zw_goto (pc := 89) (tgt := 38) (by decide) (zdal_p dlA_Calc_raise_135 (i := 22) rfl) ?_
                  refine zW_le [some (.ref (d_ + 33)), some (.int (Int32.ofInt a0_)), some (.int (Int32.ofInt ((20 + ze Mz (d_ + 33) 3)))), some (.int (Int32.ofInt (u9_ + 1))), none] (⟨rfl, rfl, rfl, rfl, trivial⟩) ?_
                  exact ih_38 (u9_ + 1) (by (exact zo_74 i12_)) (by (exact zo_1244 hc_46)) N24_ hb0_N24_ (show 0 ≤ (u9_ + 1) by first | with_reducible assumption | (exact zo_76 i12_) | assumption) (show (u9_ + 1) ≤ a0_ by first | with_reducible assumption | assumption | omega) (show zRa F_ K_ d_ Mz N24_ (u9_ + 1) by exact hrs_) (by (exact zo_147 hc_40 hlt_38))
                · skip
                  exact absurd hc_75 (by decide)
          · skip
            have hm0_ := ha56_0_hp0_N16_
            have hrw_ := ha56_1_hp0_N16_
            show zW l m_Calc_raise (zn Mz + 0, zw Mz + 0) N16_ 59 [some (.ref (d_ + 33)), some (.int (Int32.ofInt a0_)), some (.int (Int32.ofInt ((20 + ze Mz (d_ + 33) 3)))), some (.int (Int32.ofInt u9_)), none] [.int (Int32.ofInt 0)] _
            refine zw_istore (pc := 59) (i := 4) (L2 := [some (.ref (d_ + 33)), some (.int (Int32.ofInt a0_)), some (.int (Int32.ofInt ((20 + ze Mz (d_ + 33) 3)))), some (.int (Int32.ofInt u9_)), some (.int (Int32.ofInt 0))]) (by decide) rfl (zdal_p dlA_Calc_raise_135 (i := 8) rfl) ?_
            refine zw_aload_n (pc := 61) (n := 0) (x := (d_ + 33)) rfl (zdal_p dlA_Calc_raise_135 (i := 9) rfl) ?_
            refine zw_iload (pc := 62) (i := 4) (x := Int32.ofInt 0) rfl (zdal_p dlA_Calc_raise_135 (i := 10) rfl) ?_
            refine zr_if_eq (pc := 64) (tgt := 82) ⟨(by decide), (by decide)⟩ (by decide) (zdal_p dlA_Calc_raise_135 (i := 11) rfl) (fun hc_64 => ?_) (fun hc_64 => ?_)
            · skip
              refine zw_iconst (pc := 82) (v := Int32.ofInt 0) (by decide) (zdal_p dlA_Calc_raise_135 (i := 19) rfl) ?_
              refine zk_callV hf_N16_.x (pc := 83) [.int (Int32.ofInt 0)] [] l_Calc_85 (u_Calc_settle l d_ N16_ (hf_N16_.w hW) 0 (by decide) (by decide) (by (decide)) F_ K_ hA_ c18_ (show 1 ≤ ze N16_ (d_ + 33) 3 by first | with_reducible assumption | (exact zo_1242 eD33_3_N10_ eD33_3_N16_ eD33_3_N3_ eD33_3_N6_ q5_ r_D33_3.1) | assumption) (show ze N16_ (d_ + 33) 3 ≤ 18 by first | with_reducible assumption | (exact zo_1243 eD33_3_N10_ eD33_3_N16_ eD33_3_N3_ eD33_3_N6_ hb_.2.1 hb_.2.2.1 hb_.2.2.2 q5_) | assumption)) rfl rfl ((hf_N16_.w hW).kr (o := 33) (by decide)) (by decide) (by decide) (Nat.le_of_ble_eq_true rfl) (zdal_p dlA_Calc_raise_135 (i := 20) rfl) ?_
              rintro _ N27_ ⟨rfl, hsN27_, ⟨hp0_N27_, hp1_N27_⟩⟩
              have hf_N27_ : zFc d_ [] [] [(33, 6)] [25, 27] Mz N27_ := hf_N16_.tr hsN27_ (by decide) (by decide) (by decide) (by decide)
              have hb0_N27_ : zFc d_ [] [] [(33, 6)] [25, 27] N6_ N27_ := hb0_N16_.tr hsN27_ (by decide) (by decide) (by decide) (by decide)
              have eD12_7_N27_ : ze N27_ (d_ + 12) 7 = ze N16_ (d_ + 12) 7 := hsN27_.e (by decide)
              have eD33_2_N27_ : ze N27_ (d_ + 33) 2 = ze N16_ (d_ + 33) 2 := hsN27_.e (by decide)
              have eD33_3_N27_ : ze N27_ (d_ + 33) 3 = ze N16_ (d_ + 33) 3 := hsN27_.e (by decide)
              have eD33_4_N27_ : ze N27_ (d_ + 33) 4 = ze N16_ (d_ + 33) 4 := hsN27_.e (by decide)
              have eD33_5_N27_ : ze N27_ (d_ + 33) 5 = ze N16_ (d_ + 33) 5 := hsN27_.e (by decide)
              have rD33_6_N27_ := ze_r N27_ (d_ + 33) 6
              show zW l m_Calc_raise (zn Mz + 0, zw Mz + 0) N27_ 86 [some (.ref (d_ + 33)), some (.int (Int32.ofInt a0_)), some (.int (Int32.ofInt ((20 + ze Mz (d_ + 33) 3)))), some (.int (Int32.ofInt u9_)), some (.int (Int32.ofInt 0))] [] _
              have ho0_ := hp0_N27_
              have ho1_ := hp1_N27_
              rw [show ze N16_ (d_ + 33) 3 = ze Mz (d_ + 33) 3 by (exact zo_1187 eD33_3_N10_ eD33_3_N16_ eD33_3_N3_ eD33_3_N6_)] at ho1_
              have hok_ : zOk F_ d_ N10_ N27_ (20 + ze Mz (d_ + 33) 3) (zprd F_ K_ (zvc F_ d_ N10_ (20 + ze Mz (d_ + 33) 3)) (zvc F_ d_ N10_ 39)) (zmok F_ K_ (zvc F_ d_ N10_ (20 + ze Mz (d_ + 33) 3)) (zvc F_ d_ N10_ 39) ∧ zfit F_ K_ (zprd F_ K_ (zvc F_ d_ N10_ (20 + ze Mz (d_ + 33) 3)) (zvc F_ d_ N10_ 39))) := by first | exact zOk_1 hF27_ (by omega) hsh_ (zprd_n hA_ _ _) (by omega) ⟨hm1_, hi_⟩ (ho0_ rfl).1 (ho0_ rfl).2 | exact zOk_2 hF27_ (by omega) hsh_ (fun q_ => hi_ q_.2) (ho1_ rfl).2 (zone_z 0) (ho1_ rfl).1 | exact zOk_3 hF27_ (by (exact zo_1235 q5_ r_D33_3.1)) hrw_ (fun q_ => hm0_ q_.1) (ho1_ rfl).2 (zone_z 0) (ho1_ rfl).1
              have hrs_ := zRa_s rfl (by (exact zo_1235 q5_ r_D33_3.1)) (by (exact zo_1239 hb_.2.1 hb_.2.2.1 hb_.2.2.2 q5_)) (by (exact i12_)) hra_ hok_
              refine zr_iinc (pc := 86) (i := 3) (a := u9_) (n := 1) (L2 := [some (.ref (d_ + 33)), some (.int (Int32.ofInt a0_)), some (.int (Int32.ofInt ((20 + ze Mz (d_ + 33) 3)))), some (.int (Int32.ofInt (u9_ + 1))), some (.int (Int32.ofInt 0))]) rfl (by decide) rfl (zdal_p dlA_Calc_raise_135 (i := 21) rfl) ?_
              refine zw_goto (pc := 89) (tgt := 38) (by decide) (zdal_p dlA_Calc_raise_135 (i := 22) rfl) ?_
              refine zW_le [some (.ref (d_ + 33)), some (.int (Int32.ofInt a0_)), some (.int (Int32.ofInt ((20 + ze Mz (d_ + 33) 3)))), some (.int (Int32.ofInt (u9_ + 1))), none] (⟨rfl, rfl, rfl, rfl, trivial⟩) ?_
              exact ih_38 (u9_ + 1) (by (exact zo_74 i12_)) (by (exact zo_1244 hc_46)) N27_ hb0_N27_ (show 0 ≤ (u9_ + 1) by first | with_reducible assumption | (exact zo_76 i12_) | assumption) (show (u9_ + 1) ≤ a0_ by first | with_reducible assumption | assumption | omega) (show zRa F_ K_ d_ Mz N27_ (u9_ + 1) by exact hrs_) (by (exact zo_147 hc_40 hlt_38))
            · skip
              exact absurd hc_64 (by decide)
  exact lp_38 _ 0 (by decide) (by decide) N6_ zFc.rf (show 0 ≤ (0 : Int) by first | with_reducible assumption | (decide) | assumption) (show (0 : Int) ≤ a0_ by first | with_reducible assumption | assumption | omega) (show zRa F_ K_ d_ Mz N6_ (0 : Int) by exact hra0_) (Nat.lt_succ_self _)
section ZKM
variable {d F : Nat} {K : Nat → Nat → Int} {Mz Nz Pz Qz : zMem} {e : Int}
theorem zneg_n (s : Int) : (fun k : Nat => if k < F then -zvc F d Mz s k else 0) = fun k => -zvc F d Mz s k := by
  funext k
  by_cases g : k < F
  · rw [if_pos g]
  · rw [if_neg g, zvc_n s k (by omega)]
    rfl
theorem zsgn_n1 {c : Int} (h : zcd c) (hc : c ≠ 126) : zsgn c ≠ 1 := by
  rcases h with rfl | rfl | rfl | rfl | rfl
  · decide
  · exact absurd rfl hc
  · decide
  · decide
  · decide
theorem zng_st (hS : zkS d Mz = 1 :: zkS d Nz) (hG : zkG d Nz = zkG d Mz) (h1 : 1 ≤ ze Mz (d + 33) 3) (h3 : ze Nz (d + 33) 3 = ze Mz (d + 33) 3) (hu : zvc F d Nz (20 + ze Mz (d + 33) 3) = fun k => -zvc F d Mz (20 + ze Mz (d + 33) 3) k) (h : ∀ t : Int, 21 ≤ t → t < 20 + ze Mz (d + 33) 3 → zvc F d Nz t = zvc F d Mz t) : zng (zkS d Mz) (zkW F d Mz) = zng (zkS d Nz) (zkW F d Nz) := by
  obtain ⟨vs, c1, c2⟩ := zkV_t (F := F) h1 h3 hu h
  rw [hS]
  unfold zkW
  rw [hG]
  cases zkG d Mz with
  | true => exact zng_s0 _
  | false =>
    show zng (1 :: zkS d Nz) (zkV F d Mz) = zng (zkS d Nz) (zkV F d Nz)
    rw [c1, c2]
    exact zng_s _ _ _
theorem zop_4 (v w : Nat → Int) : zop F K (zsgn 42) v w = zprd F K v w := rfl
theorem zop_a {c s : Int} (h : (c = 43 ∧ s = 1) ∨ (c = 45 ∧ s = -1)) (v w : Nat → Int) : zop F K (zsgn c) v w = fun k => v k + s * w k := by
  rcases h with ⟨rfl, rfl⟩ | ⟨rfl, rfl⟩
  · funext k
    show v k + w k = v k + 1 * w k
    rw [Int.one_mul]
  · funext k
    show v k - w k = v k + -1 * w k
    rw [Int.neg_one_mul]
    rfl
theorem zadd_n (s t c : Int) : (fun k : Nat => if k < F then zvc F d Mz s k + c * zvc F d Mz t k else 0) = fun k => zvc F d Mz s k + c * zvc F d Mz t k := by
  funext k
  by_cases g : k < F
  · rw [if_pos g]
  · rw [if_neg g, zvc_n s k (by omega), zvc_n t k (by omega), Int.mul_zero]
    rfl
theorem zrk_b {X y : Nat} {S1 S0 : List Nat} {W1 W0 : List (Nat → Int)} {G1 G0 : Bool} {A : zTr} (hi : A = zrk F K X S0.length (S0, W0, G0)) (hS : S0 = y :: S1) (hX : X ≤ y) (hT : (S1, W1, G1) = zwk1 F K (S0, W0, G0)) : A = zrk F K X S1.length (S1, W1, G1) := by
  rw [hi, hT, hS, List.length_cons]
  exact zrk_s hX
theorem zkS_h1 {x : Nat} (h : (zkS d Mz).head? = some x) : 1 ≤ ze Mz (d + 33) 2 ∧ zsgn (ze Mz (d + 35) (ze Mz (d + 33) 2 - 1).toNat) = x := by
  have h1 : 1 ≤ ze Mz (d + 33) 2 := by
    rcases Int.lt_or_le (ze Mz (d + 33) 2) 1 with g | g
    · rw [zkS_0 (by omega)] at h
      cases h
    · exact g
  refine ⟨h1, ?_⟩
  rw [zkS_h h1 rfl] at h
  injection h
theorem zsgn_0 {c : Int} (h : zcd c) (h0 : zsgn c = 0) : c = 40 := by
  rcases h with rfl | rfl | rfl | rfl | rfl
  · rfl
  all_goals exact absurd h0 (by decide)
theorem zwp_4 {y : Nat} (h : y < 4) (h1 : y ≠ 1) : zwp (zsgn 42) y := ⟨fun _ => ⟨h1, by omega⟩, fun g => absurd g (by decide)⟩
theorem zwp_2 {c : Int} {y : Nat} (hc : c = 43 ∨ c = 45) (h : y < 2) (h1 : y ≠ 1) : zwp (zsgn c) y := by
  refine ⟨fun g => ?_, fun _ => by omega⟩
  rcases hc with rfl | rfl
  · exact absurd g (by decide)
  · exact absurd g (by decide)
theorem zsgn_l4 {c : Int} (h : zcd c) (hc : c ≠ 42) : zsgn c < 4 := by
  rcases h with rfl | rfl | rfl | rfl | rfl
  · decide
  · decide
  · decide
  · decide
  · exact absurd rfl hc
def zDj (P Q : Prop) : Prop := P ∨ Q
def zD3 (c : Int) : Prop := c = 42 ∨ c = 43 ∨ c = 45
def zDf (c s : Int) : Prop := (c = 43 ∧ s = 1) ∨ (c = 45 ∧ s = -1)
theorem zD3_i {c : Int} (h : zcd c) (h1 : c ≠ 40) (h2 : c ≠ 126) : zD3 c := by
  rcases h with h | h | h | h | h
  · exact absurd h h1
  · exact absurd h h2
  · exact Or.inr (Or.inl h)
  · exact Or.inr (Or.inr h)
  · exact Or.inl h
theorem zD3_45 {c : Int} (h : zD3 c) (h1 : c ≠ 42) (h2 : c ≠ 43) : c = 45 := by
  rcases h with h | h | h
  · exact absurd h h1
  · exact absurd h h2
  · exact h
theorem zsgn_2 {c : Int} (h : zD3 c) : 2 ≤ zsgn c := by
  rcases h with rfl | rfl | rfl <;> decide
theorem zDf_s {c s : Int} (h : zDf c s) : s = 1 ∨ s = -1 := h.imp (fun g => g.2) (fun g => g.2)
theorem zDf_4 {c s : Int} (h : zDf c s) : zsgn c ≠ 4 := by
  rcases h with ⟨rfl, _⟩ | ⟨rfl, _⟩ <;> decide
end ZKM
set_option maxHeartbeats 4000000 in
theorem u_Calc_negate (l : Launch) (d_ : Nat) (Mz : zMem) (hW : zKW d_ Mz) (F_ : Nat) (K_ : Nat → Nat → Int) (hA_ : zTA F_ K_) (p0_ : zKm F_ K_ d_ Mz) (p1_ : zCI F_ K_ d_ 1 Mz) : zC l m_Calc_negate 0 0 [.ref (d_ + 33)] Mz (zqcV d_ [] [] [(33, 2), (33, 4)] [25] Mz (fun N => zCI F_ K_ d_ 1 N ∧ zkS d_ N = (zng (zkS d_ Mz) (zkW F_ d_ Mz)).1 ∧ zkW F_ d_ N = (zng (zkS d_ Mz) (zkW F_ d_ Mz)).2 ∧ zkG d_ N = zkG d_ Mz ∧ zLow d_ Mz N ∧ (zkS d_ N).head? ≠ some 1)) := by
  refine zC_of (L0 := [some (.ref (d_ + 33))]) md_Calc_negate (Nat.le_of_ble_eq_true rfl) rfl ?_ zQ0
  have hf : zFc d_ [] [] [(33, 2), (33, 4)] [25] Mz Mz := zFc.rf
  have r_D33_2 := ze_r Mz (d_ + 33) 2
  have r_D33_3 := ze_r Mz (d_ + 33) 3
  have r_D33_4 := ze_r Mz (d_ + 33) 4
  have r_D33_5 := ze_r Mz (d_ + 33) 5
  have r_D33_6 := ze_r Mz (d_ + 33) 6
  obtain ⟨⟨hF1_, hF27_⟩, hAr_⟩ := id hA_
  obtain ⟨hFc_, hKt_⟩ := id p0_
  have lp_0 : ∀ (n : Nat) (N1_ : zMem) (hs2_ : zFc d_ [] [] [(33, 2), (33, 4)] [25] Mz N1_) (i3_ : zCI F_ K_ d_ 1 N1_) (i4_ : zng (zkS d_ Mz) (zkW F_ d_ Mz) = zng (zkS d_ N1_) (zkW F_ d_ N1_)) (i5_ : zkG d_ N1_ = zkG d_ Mz) (i6_ : zLow d_ Mz N1_), (ze N1_ (d_ + 33) 2).toNat < n → zW l m_Calc_negate (zn Mz + 0, zw Mz + 0) N1_ 0 [some (.ref (d_ + 33))] [] (zqcV d_ [] [] [(33, 2), (33, 4)] [25] Mz (fun N => zCI F_ K_ d_ 1 N ∧ zkS d_ N = (zng (zkS d_ Mz) (zkW F_ d_ Mz)).1 ∧ zkW F_ d_ N = (zng (zkS d_ Mz) (zkW F_ d_ Mz)).2 ∧ zkG d_ N = zkG d_ Mz ∧ zLow d_ Mz N ∧ (zkS d_ N).head? ≠ some 1)) := by
    intro n
    induction n with
    | zero =>
      intro N1_ hs2_ i3_ i4_ i5_ i6_ h0
      exact absurd h0 (Nat.not_lt_zero _)
    | succ n ih_0 =>
      intro N1_ hs2_ i3_ i4_ i5_ i6_ hlt_0
      have hf_N1_ : zFc d_ [] [] [(33, 2), (33, 4)] [25] Mz N1_ := hf.tr hs2_ (by decide) (by decide) (by decide) (by decide)
      have rD33_2_N1_ := ze_r N1_ (d_ + 33) 2
      have eD33_3_N1_ : ze N1_ (d_ + 33) 3 = ze Mz (d_ + 33) 3 := hs2_.e (by decide)
      have rD33_4_N1_ := ze_r N1_ (d_ + 33) 4
      have eD33_5_N1_ : ze N1_ (d_ + 33) 5 = ze Mz (d_ + 33) 5 := hs2_.e (by decide)
      have eD33_6_N1_ : ze N1_ (d_ + 33) 6 = ze Mz (d_ + 33) 6 := hs2_.e (by decide)
      have c7_ : zKm F_ K_ d_ N1_ := zKm.fr (hf.w hW) hs2_ p0_ (by decide)
      have hci_ := i3_
      have hb_ := hci_.b
      have hz0_ := zop0_le (zkS d_ N1_)
      obtain ⟨q1_, q2_, q3_, q4_, q5_, -, q7_, q8_, q9_⟩ := id hci_
      refine zw_aload_n (pc := 0) (n := 0) (x := (d_ + 33)) rfl (zdal_p dlA_Calc_negate_148 (i := 0) rfl) ?_
      refine zk_getI (pc := 1) f_Calc_24 rfl ((hf_N1_.w hW).kr (o := 33) (by decide)) (zdal_p dlA_Calc_negate_148 (i := 1) rfl) ?_
      refine zr_if_le (pc := 4) (tgt := 50) ⟨(ze_r N1_ (d_ + 33) 2).1, (ze_r N1_ (d_ + 33) 2).2⟩ (by decide) (zdal_p dlA_Calc_negate_148 (i := 2) rfl) (fun hc_4 => ?_) (fun hc_4 => ?_)
      · skip
        have hh_ : (zkS d_ N1_).head? ≠ some 1 := by first | (rw [zkS_0 (by (exact hc_4))]; intro h_; cases h_) | (rw [zkS_h (by omega) ht_]; intro h_; injection h_ with h_; exact zsgn_n1 (by rw [ht_]; exact q2_ _ (by omega)) (by first | with_reducible assumption | assumption) h_)
        have he_ := zng_e hh_ (zkW F_ d_ N1_)
        rw [← (show zng (zkS d_ Mz) (zkW F_ d_ Mz) = zng (zkS d_ N1_) (zkW F_ d_ N1_) by first | with_reducible assumption | assumption)] at he_
        exact zk_vret (pc := 50) rfl hf_N1_ ⟨i3_, (show zkS d_ N1_ = (zng (zkS d_ Mz) (zkW F_ d_ Mz)).1 by rw [he_]), (show zkW F_ d_ N1_ = (zng (zkS d_ Mz) (zkW F_ d_ Mz)).2 by rw [he_]), (show zkG d_ N1_ = zkG d_ Mz by first | with_reducible assumption | assumption | omega), (show zLow d_ Mz N1_ by first | with_reducible assumption | assumption | omega), (show (zkS d_ N1_).head? ≠ some 1 by exact hh_)⟩ (zdal_p dlA_Calc_negate_149 (i := 1) rfl)
      · skip
        refine zw_aload_n (pc := 7) (n := 0) (x := (d_ + 33)) rfl (zdal_p dlA_Calc_negate_148 (i := 3) rfl) ?_
        refine zk_callV hf_N1_.x (pc := 8) [] [] l_Calc_89 (u_Calc_topSign l d_ N1_ (hf_N1_.w hW) (show 1 ≤ ze N1_ (d_ + 33) 2 by first | with_reducible assumption | assumption | omega) (show ze N1_ (d_ + 33) 2 ≤ 24 by first | with_reducible assumption | (exact zo_0 q1_.2) | assumption)) rfl rfl ((hf_N1_.w hW).kr (o := 33) (by decide)) (by decide) (by decide) (Nat.le_of_ble_eq_true rfl) (zdal_p dlA_Calc_negate_148 (i := 4) rfl) ?_
        rintro _ N8_ ⟨v9_, rfl, ⟨hv9_a, hv9_b⟩, hsN8_, hp0_N8_⟩
        obtain rfl := hsN8_.eq.symm
        replace hp0_N8_ : v9_ = ze N1_ (d_ + 35) (ze N1_ (d_ + 33) 2 - 1).toNat := hp0_N8_
        show zW l m_Calc_negate (zn Mz + 0, zw Mz + 0) N1_ 11 [some (.ref (d_ + 33))] [.int (Int32.ofInt v9_)] _
        have ht_ := hp0_N8_
        refine zw_bipush (pc := 11) (v := Int32.ofInt 126) (by decide) (zdal_p dlA_Calc_negate_148 (i := 5) rfl) ?_
        refine zr_icmp_ne (pc := 13) (tgt := 50) ⟨hv9_a, hv9_b⟩ ⟨(by decide), (by decide)⟩ (by decide) (zdal_p dlA_Calc_negate_148 (i := 6) rfl) (fun hc_13 => ?_) (fun hc_13 => ?_)
        · skip
          have hh_ : (zkS d_ N1_).head? ≠ some 1 := by first | (rw [zkS_0 (by omega)]; intro h_; cases h_) | (rw [zkS_h (by (exact zo_1 hc_4)) ht_]; intro h_; injection h_ with h_; exact zsgn_n1 (by rw [ht_]; exact q2_ _ (by (exact zo_2 hc_4))) (by first | with_reducible assumption | assumption) h_)
          have he_ := zng_e hh_ (zkW F_ d_ N1_)
          rw [← (show zng (zkS d_ Mz) (zkW F_ d_ Mz) = zng (zkS d_ N1_) (zkW F_ d_ N1_) by first | with_reducible assumption | assumption)] at he_
          exact zk_vret (pc := 50) rfl hf_N1_ ⟨i3_, (show zkS d_ N1_ = (zng (zkS d_ Mz) (zkW F_ d_ Mz)).1 by rw [he_]), (show zkW F_ d_ N1_ = (zng (zkS d_ Mz) (zkW F_ d_ Mz)).2 by rw [he_]), (show zkG d_ N1_ = zkG d_ Mz by first | with_reducible assumption | assumption | omega), (show zLow d_ Mz N1_ by first | with_reducible assumption | assumption | omega), (show (zkS d_ N1_).head? ≠ some 1 by exact hh_)⟩ (zdal_p dlA_Calc_negate_149 (i := 1) rfl)
        · skip
          refine zw_aload_n (pc := 16) (n := 0) (x := (d_ + 33)) rfl (zdal_p dlA_Calc_negate_148 (i := 7) rfl) ?_
          refine zw_dup (pc := 17) rfl (zdal_p dlA_Calc_negate_148 (i := 8) rfl) ?_
          refine zk_getI (pc := 18) f_Calc_24 rfl ((hf_N1_.w hW).kr (o := 33) (by decide)) (zdal_p dlA_Calc_negate_148 (i := 9) rfl) ?_
          refine zw_iconst (pc := 21) (v := Int32.ofInt 1) (by decide) (zdal_p dlA_Calc_negate_148 (i := 10) rfl) ?_
          refine zr_isub (pc := 22) (zdal_p dlA_Calc_negate_148 (i := 11) rfl) ?_
          refine zk_putR (pc := 23) (o := 33) (by decide) f_Calc_24 rfl rfl ((hf_N1_.w hW).kr (o := 33) (by decide)) ⟨by (exact zo_3 hc_4), by (exact zo_4 q1_.2)⟩ rfl rfl (zdal_p dlA_Calc_negate_148 (i := 12) rfl) (fun N10_ hsN10_ hvN10_ => ?_)
          have hf_N10_ : zFc d_ [] [] [(33, 2), (33, 4)] [25] Mz N10_ := hf_N1_.tr hsN10_ (by decide) (by decide) (by decide) (by decide)
          have hb0_N10_ : zFc d_ [] [] [(33, 2), (33, 4)] [25] Mz N10_ := hs2_.tr hsN10_ (by decide) (by decide) (by decide) (by decide)
          have rD33_2_N10_ := ze_r N10_ (d_ + 33) 2
          have eD33_3_N10_ : ze N10_ (d_ + 33) 3 = ze N1_ (d_ + 33) 3 := hsN10_.e (by decide)
          have eD33_4_N10_ : ze N10_ (d_ + 33) 4 = ze N1_ (d_ + 33) 4 := hsN10_.e (by decide)
          have eD33_5_N10_ : ze N10_ (d_ + 33) 5 = ze N1_ (d_ + 33) 5 := hsN10_.e (by decide)
          have eD33_6_N10_ : ze N10_ (d_ + 33) 6 = ze N1_ (d_ + 33) 6 := hsN10_.e (by decide)
          have c11_ : zKm F_ K_ d_ N10_ := zKm.fr (hf_N1_.w hW) hsN10_ c7_ (by decide)
          refine zw_aload_n (pc := 26) (n := 0) (x := (d_ + 33)) rfl (zdal_p dlA_Calc_negate_148 (i := 13) rfl) ?_
          refine zw_dup (pc := 27) rfl (zdal_p dlA_Calc_negate_148 (i := 14) rfl) ?_
          refine zk_getI (pc := 28) f_Calc_31 rfl ((hf_N10_.w hW).kr (o := 33) (by decide)) (zdal_p dlA_Calc_negate_148 (i := 15) rfl) ?_
          refine zw_iconst (pc := 31) (v := Int32.ofInt 1) (by decide) (zdal_p dlA_Calc_negate_148 (i := 16) rfl) ?_
          refine zr_isub (pc := 32) (zdal_p dlA_Calc_negate_148 (i := 17) rfl) ?_
          refine zk_putR (pc := 33) (o := 33) (by decide) f_Calc_31 rfl rfl ((hf_N10_.w hW).kr (o := 33) (by decide)) ⟨by (exact zo_5 eD33_4_N10_ q3_ rD33_4_N1_.1), by (exact zo_6 eD33_4_N10_ rD33_4_N1_.2)⟩ rfl rfl (zdal_p dlA_Calc_negate_148 (i := 18) rfl) (fun N12_ hsN12_ hvN12_ => ?_)
          have hf_N12_ : zFc d_ [] [] [(33, 2), (33, 4)] [25] Mz N12_ := hf_N10_.tr hsN12_ (by decide) (by decide) (by decide) (by decide)
          have hb0_N12_ : zFc d_ [] [] [(33, 2), (33, 4)] [25] Mz N12_ := hb0_N10_.tr hsN12_ (by decide) (by decide) (by decide) (by decide)
          have eD33_2_N12_ : ze N12_ (d_ + 33) 2 = ze N10_ (d_ + 33) 2 := hsN12_.e (by decide)
          have eD33_3_N12_ : ze N12_ (d_ + 33) 3 = ze N10_ (d_ + 33) 3 := hsN12_.e (by decide)
          have rD33_4_N12_ := ze_r N12_ (d_ + 33) 4
          have eD33_5_N12_ : ze N12_ (d_ + 33) 5 = ze N10_ (d_ + 33) 5 := hsN12_.e (by decide)
          have eD33_6_N12_ : ze N12_ (d_ + 33) 6 = ze N10_ (d_ + 33) 6 := hsN12_.e (by decide)
          have c13_ : zKm F_ K_ d_ N12_ := zKm.fr (hf_N10_.w hW) hsN12_ c11_ (by decide)
          have hv2_ : ∀ t : Int, zvc F_ d_ N12_ t = zvc F_ d_ N1_ t := fun t => (zvc_f hsN12_ (by decide) t).trans (zvc_f hsN10_ (by decide) t)
          have hx_ := q9_ (20 + ze N1_ (d_ + 33) 3) (by (exact zo_7 q5_)) (by (exact zo_8))
          refine zw_aload_n (pc := 36) (n := 0) (x := (d_ + 33)) rfl (zdal_p dlA_Calc_negate_148 (i := 19) rfl) ?_
          refine zw_getF (pc := 37) f_Calc_20 rfl ((hf_N12_.w hW).kr (o := 33) (by decide)) ((hf_N12_.w hW).lr (o := 33) (s := 0) (r := 23) (by decide)) (zdal_p dlA_Calc_negate_148 (i := 20) rfl) ?_
          refine zw_aload_n (pc := 40) (n := 0) (x := (d_ + 33)) rfl (zdal_p dlA_Calc_negate_148 (i := 21) rfl) ?_
          refine zk_callV hf_N12_.x (pc := 41) [] [.ref (d_ + 23)] l_Calc_43 (u_Calc_topShelf l d_ N12_ (hf_N12_.w hW) (show 0 ≤ ze N12_ (d_ + 33) 3 by first | with_reducible assumption | (exact zo_9 eD33_3_N10_ eD33_3_N12_ q5_) | assumption) (show ze N12_ (d_ + 33) 3 ≤ 18 by first | with_reducible assumption | (exact zo_10 eD33_3_N10_ eD33_3_N12_ hb_.2.1 hb_.2.2.1 hb_.2.2.2 q5_) | assumption)) rfl rfl ((hf_N12_.w hW).kr (o := 33) (by decide)) (by decide) (by decide) (Nat.le_of_ble_eq_true rfl) (zdal_p dlA_Calc_negate_148 (i := 22) rfl) ?_
          rintro _ N14_ ⟨v15_, rfl, ⟨hv15_a, hv15_b⟩, hsN14_, hp0_N14_⟩
          obtain rfl := hsN14_.eq.symm
          replace hp0_N14_ : v15_ = 20 + ze N12_ (d_ + 33) 3 := hp0_N14_
          show zW l m_Calc_negate (zn Mz + 0, zw Mz + 0) N12_ 44 [some (.ref (d_ + 33))] [.int (Int32.ofInt v15_), .ref (d_ + 23)] _
          refine zr_toI (show v15_ = (20 + ze N1_ (d_ + 33) 3) by (exact zo_11 eD33_3_N10_ eD33_3_N12_ hp0_N14_ hv15_b q5_)) ?_
          refine zk_callV hf_N12_.x (pc := 44) [.int (Int32.ofInt ((20 + ze N1_ (d_ + 33) 3)))] [] l_Calc_92 (u_Sums_putNegative l d_ N12_ (hf_N12_.w hW) ((20 + ze N1_ (d_ + 33) 3)) (by (exact zo_12 q5_)) (by (exact zo_13 eD33_3_N1_ hb_.2.2.1 hb_.2.2.2 q5_ r_D33_3.2)) F_ K_ hA_ c13_ (show 0 ≤ ((20 + ze N1_ (d_ + 33) 3)) by first | with_reducible assumption | (exact zo_14 q5_) | assumption) (show ((20 + ze N1_ (d_ + 33) 3)) ≤ 39 by first | with_reducible assumption | (exact zo_15 hb_.2.1 hb_.2.2.1 hb_.2.2.2 q5_) | assumption) (show zfit F_ K_ (zvc F_ d_ N12_ ((20 + ze N1_ (d_ + 33) 3))) by rw [hv2_]; exact hx_)) rfl rfl ((hf_N12_.w hW).kr (o := 23) (by decide)) (by decide) (by decide) (Nat.le_of_ble_eq_true rfl) (zdal_p dlA_Calc_negate_148 (i := 23) rfl) ?_
          rintro _ N16_ ⟨rfl, hsN16_, hp0_N16_⟩
          replace hp0_N16_ : zSh F_ d_ N12_ N16_ ((20 + ze N1_ (d_ + 33) 3)) (fun k => -(zvc F_ d_ N12_ ((20 + ze N1_ (d_ + 33) 3))) k) := hp0_N16_
          have hf_N16_ : zFc d_ [] [] [(33, 2), (33, 4)] [25] Mz N16_ := hf_N12_.tr hsN16_ (by decide) (by decide) (by decide) (by decide)
          have hb0_N16_ : zFc d_ [] [] [(33, 2), (33, 4)] [25] Mz N16_ := hb0_N12_.tr hsN16_ (by decide) (by decide) (by decide) (by decide)
          have eD33_2_N16_ : ze N16_ (d_ + 33) 2 = ze N12_ (d_ + 33) 2 := hsN16_.e (by decide)
          have eD33_3_N16_ : ze N16_ (d_ + 33) 3 = ze N12_ (d_ + 33) 3 := hsN16_.e (by decide)
          have eD33_4_N16_ : ze N16_ (d_ + 33) 4 = ze N12_ (d_ + 33) 4 := hsN16_.e (by decide)
          have eD33_5_N16_ : ze N16_ (d_ + 33) 5 = ze N12_ (d_ + 33) 5 := hsN16_.e (by decide)
          have eD33_6_N16_ : ze N16_ (d_ + 33) 6 = ze N12_ (d_ + 33) 6 := hsN16_.e (by decide)
          have c18_ : zKm F_ K_ d_ N16_ := zKm.fr (hf_N12_.w hW) hsN16_ c13_ (by decide)
          show zW l m_Calc_negate (zn Mz + 0, zw Mz + 0) N16_ 47 [some (.ref (d_ + 33))] [] _
          have hs_ := hp0_N16_
          have hu_ : zvc F_ d_ N16_ (20 + ze N1_ (d_ + 33) 3) = fun k => -zvc F_ d_ N1_ (20 + ze N1_ (d_ + 33) 3) k := by rw [zSh_n (by (exact zo_14 q5_)) hs_, zneg_n, hv2_]
          have ho_ : ∀ t : Int, 0 ≤ t → t ≠ (20 + ze N1_ (d_ + 33) 3) → zvc F_ d_ N16_ t = zvc F_ d_ N1_ t := fun t t0 t1 => (zSh_o hF27_ (by (exact zo_14 q5_)) t0 (Ne.symm t1) hs_).trans (hv2_ t)
          have hfv_ : ∀ t : Int, 21 ≤ t → t < 21 + ze N1_ (d_ + 33) 3 → zfit F_ K_ (zvc F_ d_ N16_ t) := fun t t0 t1 => by by_cases g_ : t = (20 + ze N1_ (d_ + 33) 3); (rw [g_, hu_]; exact zneg_fit hx_); (rw [ho_ t (by (exact zo_16 t0)) g_]; exact q9_ t t0 t1)
          obtain ⟨r1_, r2_, r3_⟩ := zCI_pop (F := F_) (c := 126) (Nz := N16_) hci_ (by (exact zo_1 hc_4)) (by (exact zo_17 hc_13 hp0_N8_)) (Or.inr rfl) (by (exact zo_18 eD33_2_N12_ eD33_2_N16_ hc_4 hvN10_ rD33_2_N10_.2)) (fun i => (hsN16_.r (by decide) i).trans ((hsN12_.r (by decide) i).trans (hsN10_.r (by decide) i))) (by (exact zo_19 eD33_3_N10_ eD33_3_N12_ eD33_3_N16_)) (by (exact zo_20 eD33_4_N10_ eD33_4_N16_ hvN12_ q3_ rD33_4_N12_.2)) (by rw [if_neg (by decide)]; (exact zo_21 eD33_5_N10_ eD33_5_N12_ eD33_5_N16_)) (by (exact zo_19 eD33_6_N10_ eD33_6_N12_ eD33_6_N16_)) hfv_
          have hn_ := zng_st r2_ r3_ (by (exact zo_22 q5_)) (by (exact zo_19 eD33_3_N10_ eD33_3_N12_ eD33_3_N16_)) hu_ (fun t t0 t1 => ho_ t (by (exact zo_16 t0)) (by (exact zo_23 t1)))
          have hlw_ := (zLow.f hsN10_ (by decide)).tr ((zLow.f hsN12_ (by decide)).tr (zLow.sh hs_ (by (exact zo_7 q5_))))
          refine zw_goto (pc := 47) (tgt := 0) (by decide) (zdal_p dlA_Calc_negate_149 (i := 0) rfl) ?_
          exact ih_0 N16_ hb0_N16_ r1_ (show zng (zkS d_ Mz) (zkW F_ d_ Mz) = zng (zkS d_ N16_) (zkW F_ d_ N16_) by exact (show zng (zkS d_ Mz) (zkW F_ d_ Mz) = zng (zkS d_ N1_) (zkW F_ d_ N1_) by first | with_reducible assumption | assumption).trans hn_) (show zkG d_ N16_ = zkG d_ Mz by exact r3_.trans (by first | with_reducible assumption | assumption)) (show zLow d_ Mz N16_ by exact zLow.tr (by first | with_reducible assumption | assumption) hlw_) (by (exact zo_24 eD33_2_N12_ eD33_2_N16_ hc_4 hlt_0 hvN10_ q1_.2))
  exact lp_0 _ Mz zFc.rf p1_ (show zng (zkS d_ Mz) (zkW F_ d_ Mz) = zng (zkS d_ Mz) (zkW F_ d_ Mz) by rfl) (show zkG d_ Mz = zkG d_ Mz by rfl) (show zLow d_ Mz Mz by exact zLow.rf) (Nat.lt_succ_self _)
set_option maxHeartbeats 20000000 in
theorem u_Calc_reckon (l : Launch) (d_ : Nat) (Mz : zMem) (hW : zKW d_ Mz) (a0_ : Int) (ha0_a : -2147483648 ≤ a0_) (ha0_b : a0_ < 2147483648) (ha0_z : a0_ = 0 ∨ a0_ = 1) (F_ : Nat) (K_ : Nat → Nat → Int) (hA_ : zTA F_ K_) (p0_ : zKm F_ K_ d_ Mz) (p1_ : zCI F_ K_ d_ 1 Mz) (p2_ : (zkS d_ Mz).head? ≠ some 1) : zC l m_Calc_reckon 0 0 [.ref (d_ + 33), .int (Int32.ofInt a0_)] Mz (zqcV d_ [] [] [(33, 2), (33, 3), (33, 6)] [25, 27] Mz (fun N => zCI F_ K_ d_ 1 N ∧ (zkS d_ N, zkW F_ d_ N, zkG d_ N) = zrk F_ K_ (if a0_ = 0 then 2 else 4 : Nat) (zkS d_ Mz).length (zkS d_ Mz, zkW F_ d_ Mz, zkG d_ Mz) ∧ zLow d_ Mz N ∧ (zkS d_ N).head? ≠ some 1 ∧ (∀ y, (zkS d_ N).head? = some y → y < (if a0_ = 0 then 2 else 4 : Nat)))) := by
  refine zC_of (L0 := [some (.ref (d_ + 33)), some (.int (Int32.ofInt a0_)), none, none, none]) md_Calc_reckon (Nat.le_of_ble_eq_true rfl) rfl ?_ zQ0
  have hf : zFc d_ [] [] [(33, 2), (33, 3), (33, 6)] [25, 27] Mz Mz := zFc.rf
  have r_D33_2 := ze_r Mz (d_ + 33) 2
  have r_D33_3 := ze_r Mz (d_ + 33) 3
  have r_D33_4 := ze_r Mz (d_ + 33) 4
  have r_D33_5 := ze_r Mz (d_ + 33) 5
  have r_D33_6 := ze_r Mz (d_ + 33) 6
  obtain ⟨⟨hF1_, hF27_⟩, hAr_⟩ := id hA_
  obtain ⟨hFc_, hKt_⟩ := id p0_
  have lp_0 : ∀ (n : Nat) (N1_ : zMem) (hs2_ : zFc d_ [] [] [(33, 2), (33, 3), (33, 6)] [25, 27] Mz N1_) (i3_ : zCI F_ K_ d_ 1 N1_) (i4_ : (zkS d_ N1_).head? ≠ some 1) (i5_ : zrk F_ K_ (if a0_ = 0 then 2 else 4 : Nat) (zkS d_ Mz).length (zkS d_ Mz, zkW F_ d_ Mz, zkG d_ Mz) = zrk F_ K_ (if a0_ = 0 then 2 else 4 : Nat) (zkS d_ N1_).length (zkS d_ N1_, zkW F_ d_ N1_, zkG d_ N1_)) (i6_ : zLow d_ Mz N1_), (ze N1_ (d_ + 33) 2).toNat < n → zW l m_Calc_reckon (zn Mz + 0, zw Mz + 0) N1_ 0 [some (.ref (d_ + 33)), some (.int (Int32.ofInt a0_)), none, none, none] [] (zqcV d_ [] [] [(33, 2), (33, 3), (33, 6)] [25, 27] Mz (fun N => zCI F_ K_ d_ 1 N ∧ (zkS d_ N, zkW F_ d_ N, zkG d_ N) = zrk F_ K_ (if a0_ = 0 then 2 else 4 : Nat) (zkS d_ Mz).length (zkS d_ Mz, zkW F_ d_ Mz, zkG d_ Mz) ∧ zLow d_ Mz N ∧ (zkS d_ N).head? ≠ some 1 ∧ (∀ y, (zkS d_ N).head? = some y → y < (if a0_ = 0 then 2 else 4 : Nat)))) := by
    intro n
    induction n with
    | zero =>
      intro N1_ hs2_ i3_ i4_ i5_ i6_ h0
      exact absurd h0 (Nat.not_lt_zero _)
    | succ n ih_0 =>
      intro N1_ hs2_ i3_ i4_ i5_ i6_ hlt_0
      have hf_N1_ : zFc d_ [] [] [(33, 2), (33, 3), (33, 6)] [25, 27] Mz N1_ := hf.tr hs2_ (by decide) (by decide) (by decide) (by decide)
      have rD33_2_N1_ := ze_r N1_ (d_ + 33) 2
      have rD33_3_N1_ := ze_r N1_ (d_ + 33) 3
      have eD33_4_N1_ : ze N1_ (d_ + 33) 4 = ze Mz (d_ + 33) 4 := hs2_.e (by decide)
      have eD33_5_N1_ : ze N1_ (d_ + 33) 5 = ze Mz (d_ + 33) 5 := hs2_.e (by decide)
      have rD33_6_N1_ := ze_r N1_ (d_ + 33) 6
      have c7_ : zKm F_ K_ d_ N1_ := zKm.fr (hf.w hW) hs2_ p0_ (by decide)
      have hci_ := i3_
      have hb_ := hci_.b
      have hz0_ := zop0_le (zkS d_ N1_)
      obtain ⟨q1_, q2_, q3_, q4_, q5_, -, q7_, q8_, q9_⟩ := id hci_
      have hd_ := (show (zkS d_ N1_).head? ≠ some 1 by first | with_reducible assumption | assumption)
      refine zw_aload_n (pc := 0) (n := 0) (x := (d_ + 33)) rfl (zdal_p dlA_Calc_reckon_153 (i := 0) rfl) ?_
      refine zk_getI (pc := 1) f_Calc_24 rfl ((hf_N1_.w hW).kr (o := 33) (by decide)) (zdal_p dlA_Calc_reckon_153 (i := 1) rfl) ?_
      refine zr_if_le (pc := 4) (tgt := 147) ⟨(ze_r N1_ (d_ + 33) 2).1, (ze_r N1_ (d_ + 33) 2).2⟩ (by decide) (zdal_p dlA_Calc_reckon_153 (i := 2) rfl) (fun hc_4 => ?_) (fun hc_4 => ?_)
      · skip
        have hx_ : (∀ y, (zkS d_ N1_).head? = some y → y < (if a0_ = 0 then 2 else 4 : Nat)) := by first | (intro y_ hy_; rw [zkS_0 (d := d_) (Mz := N1_) (by first | with_reducible assumption | assumption)] at hy_; cases hy_) | (have hv1_ : ze N1_ (d_ + 33) 3 ≤ 1 := (by first | with_reducible assumption | assumption); intro y_ hy_; have h_ := zbn_h (show zbn (zkS d_ N1_) = 0 by omega) hy_; split <;> omega) | (intro y_ hy_; rw [zkS_h (d := d_) (Mz := N1_) (by omega) ht_, hc_21] at hy_; injection hy_ with hy_; rw [← hy_]; split <;> decide) | (intro y_ hy_; rw [zkS_h (d := d_) (Mz := N1_) (by omega) htb_] at hy_; injection hy_ with hy_; rw [if_neg (by first | with_reducible assumption | assumption), ← hy_]; exact zsgn_l4 (by rw [htb_]; exact q2_ _ (by omega)) (by first | with_reducible assumption | assumption))
        have he_ := zrk_e (F := F_) (K := K_) (x := (if a0_ = 0 then 2 else 4 : Nat)) (t := (zkS d_ N1_, zkW F_ d_ N1_, zkG d_ N1_)) hx_ (zkS d_ N1_).length
        rw [← (show zrk F_ K_ (if a0_ = 0 then 2 else 4 : Nat) (zkS d_ Mz).length (zkS d_ Mz, zkW F_ d_ Mz, zkG d_ Mz) = zrk F_ K_ (if a0_ = 0 then 2 else 4 : Nat) (zkS d_ N1_).length (zkS d_ N1_, zkW F_ d_ N1_, zkG d_ N1_) by first | with_reducible assumption | assumption)] at he_
        exact zk_vret (pc := 147) rfl hf_N1_ ⟨i3_, (show (zkS d_ N1_, zkW F_ d_ N1_, zkG d_ N1_) = zrk F_ K_ (if a0_ = 0 then 2 else 4 : Nat) (zkS d_ Mz).length (zkS d_ Mz, zkW F_ d_ Mz, zkG d_ Mz) by exact he_.symm), (show zLow d_ Mz N1_ by first | with_reducible assumption | assumption | omega), (show (zkS d_ N1_).head? ≠ some 1 by first | with_reducible assumption | assumption | omega), (show (∀ y, (zkS d_ N1_).head? = some y → y < (if a0_ = 0 then 2 else 4 : Nat)) by exact hx_)⟩ (zdal_p dlA_Calc_reckon_156 (i := 2) rfl)
      · skip
        refine zw_aload_n (pc := 7) (n := 0) (x := (d_ + 33)) rfl (zdal_p dlA_Calc_reckon_153 (i := 3) rfl) ?_
        refine zk_getI (pc := 8) f_Calc_28 rfl ((hf_N1_.w hW).kr (o := 33) (by decide)) (zdal_p dlA_Calc_reckon_153 (i := 4) rfl) ?_
        refine zw_iconst (pc := 11) (v := Int32.ofInt 1) (by decide) (zdal_p dlA_Calc_reckon_153 (i := 5) rfl) ?_
        refine zr_icmp_le (pc := 12) (tgt := 147) ⟨(ze_r N1_ (d_ + 33) 3).1, (ze_r N1_ (d_ + 33) 3).2⟩ ⟨(by decide), (by decide)⟩ (by decide) (zdal_p dlA_Calc_reckon_153 (i := 6) rfl) (fun hc_12 => ?_) (fun hc_12 => ?_)
        · skip
          have hx_ : (∀ y, (zkS d_ N1_).head? = some y → y < (if a0_ = 0 then 2 else 4 : Nat)) := by first | (intro y_ hy_; rw [zkS_0 (d := d_) (Mz := N1_) (by first | with_reducible assumption | assumption)] at hy_; cases hy_) | (have hv1_ : ze N1_ (d_ + 33) 3 ≤ 1 := (by first | with_reducible assumption | assumption); intro y_ hy_; have h_ := zbn_h (show zbn (zkS d_ N1_) = 0 by (exact zo_25 hc_12 q5_)) hy_; split <;> omega) | (intro y_ hy_; rw [zkS_h (d := d_) (Mz := N1_) (by omega) ht_, hc_21] at hy_; injection hy_ with hy_; rw [← hy_]; split <;> decide) | (intro y_ hy_; rw [zkS_h (d := d_) (Mz := N1_) (by omega) htb_] at hy_; injection hy_ with hy_; rw [if_neg (by first | with_reducible assumption | assumption), ← hy_]; exact zsgn_l4 (by rw [htb_]; exact q2_ _ (by omega)) (by first | with_reducible assumption | assumption))
          have he_ := zrk_e (F := F_) (K := K_) (x := (if a0_ = 0 then 2 else 4 : Nat)) (t := (zkS d_ N1_, zkW F_ d_ N1_, zkG d_ N1_)) hx_ (zkS d_ N1_).length
          rw [← (show zrk F_ K_ (if a0_ = 0 then 2 else 4 : Nat) (zkS d_ Mz).length (zkS d_ Mz, zkW F_ d_ Mz, zkG d_ Mz) = zrk F_ K_ (if a0_ = 0 then 2 else 4 : Nat) (zkS d_ N1_).length (zkS d_ N1_, zkW F_ d_ N1_, zkG d_ N1_) by first | with_reducible assumption | assumption)] at he_
          exact zk_vret (pc := 147) rfl hf_N1_ ⟨i3_, (show (zkS d_ N1_, zkW F_ d_ N1_, zkG d_ N1_) = zrk F_ K_ (if a0_ = 0 then 2 else 4 : Nat) (zkS d_ Mz).length (zkS d_ Mz, zkW F_ d_ Mz, zkG d_ Mz) by exact he_.symm), (show zLow d_ Mz N1_ by first | with_reducible assumption | assumption | omega), (show (zkS d_ N1_).head? ≠ some 1 by first | with_reducible assumption | assumption | omega), (show (∀ y, (zkS d_ N1_).head? = some y → y < (if a0_ = 0 then 2 else 4 : Nat)) by exact hx_)⟩ (zdal_p dlA_Calc_reckon_156 (i := 2) rfl)
        · skip
          refine zw_aload_n (pc := 15) (n := 0) (x := (d_ + 33)) rfl (zdal_p dlA_Calc_reckon_153 (i := 7) rfl) ?_
          refine zk_callV hf_N1_.x (pc := 16) [] [] l_Calc_89 (u_Calc_topSign l d_ N1_ (hf_N1_.w hW) (show 1 ≤ ze N1_ (d_ + 33) 2 by first | with_reducible assumption | assumption | omega) (show ze N1_ (d_ + 33) 2 ≤ 24 by first | with_reducible assumption | (exact zo_0 q1_.2) | assumption)) rfl rfl ((hf_N1_.w hW).kr (o := 33) (by decide)) (by decide) (by decide) (Nat.le_of_ble_eq_true rfl) (zdal_p dlA_Calc_reckon_153 (i := 8) rfl) ?_
          rintro _ N8_ ⟨v9_, rfl, ⟨hv9_a, hv9_b⟩, hsN8_, hp0_N8_⟩
          obtain rfl := hsN8_.eq.symm
          replace hp0_N8_ : v9_ = ze N1_ (d_ + 35) (ze N1_ (d_ + 33) 2 - 1).toNat := hp0_N8_
          show zW l m_Calc_reckon (zn Mz + 0, zw Mz + 0) N1_ 19 [some (.ref (d_ + 33)), some (.int (Int32.ofInt a0_)), none, none, none] [.int (Int32.ofInt v9_)] _
          have ht_ := hp0_N8_
          refine zw_bipush (pc := 19) (v := Int32.ofInt 40) (by decide) (zdal_p dlA_Calc_reckon_153 (i := 9) rfl) ?_
          refine zr_icmp_eq (pc := 21) (tgt := 147) ⟨hv9_a, hv9_b⟩ ⟨(by decide), (by decide)⟩ (by decide) (zdal_p dlA_Calc_reckon_153 (i := 10) rfl) (fun hc_21 => ?_) (fun hc_21 => ?_)
          · skip
            have hx_ : (∀ y, (zkS d_ N1_).head? = some y → y < (if a0_ = 0 then 2 else 4 : Nat)) := by first | (intro y_ hy_; rw [zkS_0 (d := d_) (Mz := N1_) (by first | with_reducible assumption | assumption)] at hy_; cases hy_) | (have hv1_ : ze N1_ (d_ + 33) 3 ≤ 1 := (by first | with_reducible assumption | assumption); intro y_ hy_; have h_ := zbn_h (show zbn (zkS d_ N1_) = 0 by omega) hy_; split <;> omega) | (intro y_ hy_; rw [zkS_h (d := d_) (Mz := N1_) (by (exact zo_1 hc_4)) ht_, hc_21] at hy_; injection hy_ with hy_; rw [← hy_]; split <;> decide) | (intro y_ hy_; rw [zkS_h (d := d_) (Mz := N1_) (by omega) htb_] at hy_; injection hy_ with hy_; rw [if_neg (by first | with_reducible assumption | assumption), ← hy_]; exact zsgn_l4 (by rw [htb_]; exact q2_ _ (by omega)) (by first | with_reducible assumption | assumption))
            have he_ := zrk_e (F := F_) (K := K_) (x := (if a0_ = 0 then 2 else 4 : Nat)) (t := (zkS d_ N1_, zkW F_ d_ N1_, zkG d_ N1_)) hx_ (zkS d_ N1_).length
            rw [← (show zrk F_ K_ (if a0_ = 0 then 2 else 4 : Nat) (zkS d_ Mz).length (zkS d_ Mz, zkW F_ d_ Mz, zkG d_ Mz) = zrk F_ K_ (if a0_ = 0 then 2 else 4 : Nat) (zkS d_ N1_).length (zkS d_ N1_, zkW F_ d_ N1_, zkG d_ N1_) by first | with_reducible assumption | assumption)] at he_
            exact zk_vret (pc := 147) rfl hf_N1_ ⟨i3_, (show (zkS d_ N1_, zkW F_ d_ N1_, zkG d_ N1_) = zrk F_ K_ (if a0_ = 0 then 2 else 4 : Nat) (zkS d_ Mz).length (zkS d_ Mz, zkW F_ d_ Mz, zkG d_ Mz) by exact he_.symm), (show zLow d_ Mz N1_ by first | with_reducible assumption | assumption | omega), (show (zkS d_ N1_).head? ≠ some 1 by first | with_reducible assumption | assumption | omega), (show (∀ y, (zkS d_ N1_).head? = some y → y < (if a0_ = 0 then 2 else 4 : Nat)) by exact hx_)⟩ (zdal_p dlA_Calc_reckon_156 (i := 2) rfl)
          · skip
            refine zw_aload_n (pc := 24) (n := 0) (x := (d_ + 33)) rfl (zdal_p dlA_Calc_reckon_153 (i := 11) rfl) ?_
            refine zk_callV hf_N1_.x (pc := 25) [] [] l_Calc_89 (u_Calc_topSign l d_ N1_ (hf_N1_.w hW) (show 1 ≤ ze N1_ (d_ + 33) 2 by first | with_reducible assumption | assumption | omega) (show ze N1_ (d_ + 33) 2 ≤ 24 by first | with_reducible assumption | (exact zo_0 q1_.2) | assumption)) rfl rfl ((hf_N1_.w hW).kr (o := 33) (by decide)) (by decide) (by decide) (Nat.le_of_ble_eq_true rfl) (zdal_p dlA_Calc_reckon_153 (i := 12) rfl) ?_
            rintro _ N10_ ⟨v11_, rfl, ⟨hv11_a, hv11_b⟩, hsN10_, hp0_N10_⟩
            obtain rfl := hsN10_.eq.symm
            replace hp0_N10_ : v11_ = ze N1_ (d_ + 35) (ze N1_ (d_ + 33) 2 - 1).toNat := hp0_N10_
            show zW l m_Calc_reckon (zn Mz + 0, zw Mz + 0) N1_ 28 [some (.ref (d_ + 33)), some (.int (Int32.ofInt a0_)), none, none, none] [.int (Int32.ofInt v11_)] _
            have htb_ := hp0_N10_
            refine zw_bipush (pc := 28) (v := Int32.ofInt 42) (by decide) (zdal_p dlA_Calc_reckon_153 (i := 13) rfl) ?_
            have j_37 : ∀ (i12_ : zDj (ze N1_ (d_ + 35) (ze N1_ (d_ + 33) 2 - 1).toNat = 42) (a0_ = 0)), zW l m_Calc_reckon (zn Mz + 0, zw Mz + 0) N1_ 37 [some (.ref (d_ + 33)), some (.int (Int32.ofInt a0_)), none, none, none] [] (zqcV d_ [] [] [(33, 2), (33, 3), (33, 6)] [25, 27] Mz (fun N => zCI F_ K_ d_ 1 N ∧ (zkS d_ N, zkW F_ d_ N, zkG d_ N) = zrk F_ K_ (if a0_ = 0 then 2 else 4 : Nat) (zkS d_ Mz).length (zkS d_ Mz, zkW F_ d_ Mz, zkG d_ Mz) ∧ zLow d_ Mz N ∧ (zkS d_ N).head? ≠ some 1 ∧ (∀ y, (zkS d_ N).head? = some y → y < (if a0_ = 0 then 2 else 4 : Nat)))) := by
              intro i12_
              have hj_ := (show zDj (ze N1_ (d_ + 35) (ze N1_ (d_ + 33) 2 - 1).toNat = 42) (a0_ = 0) by first | with_reducible assumption | assumption)
              refine zw_aload_n (pc := 37) (n := 0) (x := (d_ + 33)) rfl (zdal_p dlA_Calc_reckon_153 (i := 17) rfl) ?_
              refine zk_callV hf_N1_.x (pc := 38) [] [] l_Calc_89 (u_Calc_topSign l d_ N1_ (hf_N1_.w hW) (show 1 ≤ ze N1_ (d_ + 33) 2 by first | with_reducible assumption | assumption | omega) (show ze N1_ (d_ + 33) 2 ≤ 24 by first | with_reducible assumption | (exact zo_0 q1_.2) | assumption)) rfl rfl ((hf_N1_.w hW).kr (o := 33) (by decide)) (by decide) (by decide) (Nat.le_of_ble_eq_true rfl) (zdal_p dlA_Calc_reckon_153 (i := 18) rfl) ?_
              rintro _ N13_ ⟨v14_, rfl, ⟨hv14_a, hv14_b⟩, hsN13_, hp0_N13_⟩
              obtain rfl := hsN13_.eq.symm
              replace hp0_N13_ : v14_ = ze N1_ (d_ + 35) (ze N1_ (d_ + 33) 2 - 1).toNat := hp0_N13_
              show zW l m_Calc_reckon (zn Mz + 0, zw Mz + 0) N1_ 41 [some (.ref (d_ + 33)), some (.int (Int32.ofInt a0_)), none, none, none] [.int (Int32.ofInt v14_)] _
              have hcd_ := q2_ (ze N1_ (d_ + 33) 2 - 1).toNat (by (exact zo_2 hc_4))
              have htc_ := hp0_N13_
              rw [← htc_] at hcd_
              have hne_ : zDj False (v14_ ≠ 126) := Or.inr (fun h_ => hd_ (by rw [zkS_h (by (exact zo_1 hc_4)) htc_, h_]; rfl))
              have hcc_ : zD3 v14_ := zD3_i hcd_ (by (exact zo_26 hp0_N13_ hp0_N8_ hc_21)) (hne_.resolve_left id)
              have hXc_ : zDj False ((if a0_ = 0 then 2 else 4 : Nat) ≤ zsgn v14_) := Or.inr (by rcases hj_ with h_ | h_; (rw [htc_, h_]; split <;> decide); (rw [if_pos h_]; exact zsgn_2 hcc_))
              refine zw_istore_n (pc := 41) (i := 2) (L2 := [some (.ref (d_ + 33)), some (.int (Int32.ofInt a0_)), some (.int (Int32.ofInt v14_)), none, none]) rfl (by decide) rfl (zdal_p dlA_Calc_reckon_153 (i := 19) rfl) ?_
              refine zw_aload_n (pc := 42) (n := 0) (x := (d_ + 33)) rfl (zdal_p dlA_Calc_reckon_153 (i := 20) rfl) ?_
              refine zk_callV hf_N1_.x (pc := 43) [] [] l_Calc_43 (u_Calc_topShelf l d_ N1_ (hf_N1_.w hW) (show 0 ≤ ze N1_ (d_ + 33) 3 by first | with_reducible assumption | (exact zo_27 hc_12) | assumption) (show ze N1_ (d_ + 33) 3 ≤ 18 by first | with_reducible assumption | (exact zo_28 hb_.2.1 hb_.2.2.1 hb_.2.2.2 q5_) | assumption)) rfl rfl ((hf_N1_.w hW).kr (o := 33) (by decide)) (by decide) (by decide) (Nat.le_of_ble_eq_true rfl) (zdal_p dlA_Calc_reckon_153 (i := 21) rfl) ?_
              rintro _ N15_ ⟨v16_, rfl, ⟨hv16_a, hv16_b⟩, hsN15_, hp0_N15_⟩
              obtain rfl := hsN15_.eq.symm
              replace hp0_N15_ : v16_ = 20 + ze N1_ (d_ + 33) 3 := hp0_N15_
              show zW l m_Calc_reckon (zn Mz + 0, zw Mz + 0) N1_ 46 [some (.ref (d_ + 33)), some (.int (Int32.ofInt a0_)), some (.int (Int32.ofInt v14_)), none, none] [.int (Int32.ofInt v16_)] _
              refine zr_toI (show v16_ = (20 + ze N1_ (d_ + 33) 3) by (exact hp0_N15_)) ?_
              refine zw_istore_n (pc := 46) (i := 3) (L2 := [some (.ref (d_ + 33)), some (.int (Int32.ofInt a0_)), some (.int (Int32.ofInt v14_)), some (.int (Int32.ofInt ((20 + ze N1_ (d_ + 33) 3)))), none]) rfl (by decide) rfl (zdal_p dlA_Calc_reckon_153 (i := 22) rfl) ?_
              refine zw_aload_n (pc := 47) (n := 0) (x := (d_ + 33)) rfl (zdal_p dlA_Calc_reckon_153 (i := 23) rfl) ?_
              refine zw_dup (pc := 48) rfl (zdal_p dlA_Calc_reckon_154 (i := 0) rfl) ?_
              refine zk_getI (pc := 49) f_Calc_24 rfl ((hf_N1_.w hW).kr (o := 33) (by decide)) (zdal_p dlA_Calc_reckon_154 (i := 1) rfl) ?_
              refine zw_iconst (pc := 52) (v := Int32.ofInt 1) (by decide) (zdal_p dlA_Calc_reckon_154 (i := 2) rfl) ?_
              refine zr_isub (pc := 53) (zdal_p dlA_Calc_reckon_154 (i := 3) rfl) ?_
              refine zk_putR (pc := 54) (o := 33) (by decide) f_Calc_24 rfl rfl ((hf_N1_.w hW).kr (o := 33) (by decide)) ⟨by (exact zo_3 hc_4), by (exact zo_4 q1_.2)⟩ rfl rfl (zdal_p dlA_Calc_reckon_154 (i := 4) rfl) (fun N17_ hsN17_ hvN17_ => ?_)
              have hf_N17_ : zFc d_ [] [] [(33, 2), (33, 3), (33, 6)] [25, 27] Mz N17_ := hf_N1_.tr hsN17_ (by decide) (by decide) (by decide) (by decide)
              have hb0_N17_ : zFc d_ [] [] [(33, 2), (33, 3), (33, 6)] [25, 27] Mz N17_ := hs2_.tr hsN17_ (by decide) (by decide) (by decide) (by decide)
              have rD33_2_N17_ := ze_r N17_ (d_ + 33) 2
              have eD33_3_N17_ : ze N17_ (d_ + 33) 3 = ze N1_ (d_ + 33) 3 := hsN17_.e (by decide)
              have eD33_4_N17_ : ze N17_ (d_ + 33) 4 = ze N1_ (d_ + 33) 4 := hsN17_.e (by decide)
              have eD33_5_N17_ : ze N17_ (d_ + 33) 5 = ze N1_ (d_ + 33) 5 := hsN17_.e (by decide)
              have eD33_6_N17_ : ze N17_ (d_ + 33) 6 = ze N1_ (d_ + 33) 6 := hsN17_.e (by decide)
              have c18_ : zKm F_ K_ d_ N17_ := zKm.fr (hf_N1_.w hW) hsN17_ c7_ (by decide)
              refine zw_aload_n (pc := 57) (n := 0) (x := (d_ + 33)) rfl (zdal_p dlA_Calc_reckon_154 (i := 5) rfl) ?_
              refine zw_dup (pc := 58) rfl (zdal_p dlA_Calc_reckon_154 (i := 6) rfl) ?_
              refine zk_getI (pc := 59) f_Calc_28 rfl ((hf_N17_.w hW).kr (o := 33) (by decide)) (zdal_p dlA_Calc_reckon_154 (i := 7) rfl) ?_
              refine zw_iconst (pc := 62) (v := Int32.ofInt 1) (by decide) (zdal_p dlA_Calc_reckon_154 (i := 8) rfl) ?_
              refine zr_isub (pc := 63) (zdal_p dlA_Calc_reckon_154 (i := 9) rfl) ?_
              refine zk_putR (pc := 64) (o := 33) (by decide) f_Calc_28 rfl rfl ((hf_N17_.w hW).kr (o := 33) (by decide)) ⟨by (exact zo_29 eD33_3_N17_ hc_12), by (exact zo_6 eD33_3_N17_ rD33_3_N1_.2)⟩ rfl rfl (zdal_p dlA_Calc_reckon_154 (i := 10) rfl) (fun N19_ hsN19_ hvN19_ => ?_)
              have hf_N19_ : zFc d_ [] [] [(33, 2), (33, 3), (33, 6)] [25, 27] Mz N19_ := hf_N17_.tr hsN19_ (by decide) (by decide) (by decide) (by decide)
              have hb0_N19_ : zFc d_ [] [] [(33, 2), (33, 3), (33, 6)] [25, 27] Mz N19_ := hb0_N17_.tr hsN19_ (by decide) (by decide) (by decide) (by decide)
              have eD33_2_N19_ : ze N19_ (d_ + 33) 2 = ze N17_ (d_ + 33) 2 := hsN19_.e (by decide)
              have rD33_3_N19_ := ze_r N19_ (d_ + 33) 3
              have eD33_4_N19_ : ze N19_ (d_ + 33) 4 = ze N17_ (d_ + 33) 4 := hsN19_.e (by decide)
              have eD33_5_N19_ : ze N19_ (d_ + 33) 5 = ze N17_ (d_ + 33) 5 := hsN19_.e (by decide)
              have eD33_6_N19_ : ze N19_ (d_ + 33) 6 = ze N17_ (d_ + 33) 6 := hsN19_.e (by decide)
              have c20_ : zKm F_ K_ d_ N19_ := zKm.fr (hf_N17_.w hW) hsN19_ c18_ (by decide)
              have hv2_ : ∀ t : Int, zvc F_ d_ N19_ t = zvc F_ d_ N1_ t := fun t => (zvc_f hsN19_ (by decide) t).trans (zvc_f hsN17_ (by decide) t)
              have hx_ := q9_ (20 + ze N1_ (d_ + 33) 3) (by (exact zo_30 hc_12)) (by (exact zo_8))
              have hvc2_ : 2 ≤ ze N1_ (d_ + 33) 3 := by first | (exact zo_31 hc_12) | (exfalso; omega)
              have hy_ := q9_ (19 + ze N1_ (d_ + 33) 3) (by (exact zo_32 hc_12)) (by (exact zo_33))
              refine zw_iconst (pc := 67) (v := Int32.ofInt 1) (by decide) (zdal_p dlA_Calc_reckon_154 (i := 11) rfl) ?_
              refine zw_istore (pc := 68) (i := 4) (L2 := [some (.ref (d_ + 33)), some (.int (Int32.ofInt a0_)), some (.int (Int32.ofInt v14_)), some (.int (Int32.ofInt ((20 + ze N1_ (d_ + 33) 3)))), some (.int (Int32.ofInt 1))]) (by decide) rfl (zdal_p dlA_Calc_reckon_154 (i := 12) rfl) ?_
              refine zw_iload_n (pc := 70) (n := 2) (x := Int32.ofInt v14_) rfl (zdal_p dlA_Calc_reckon_154 (i := 13) rfl) ?_
              refine zw_bipush (pc := 71) (v := Int32.ofInt 42) (by decide) (zdal_p dlA_Calc_reckon_154 (i := 14) rfl) ?_
              refine zr_icmp_ne (pc := 73) (tgt := 93) ⟨hv14_a, hv14_b⟩ ⟨(by decide), (by decide)⟩ (by decide) (zdal_p dlA_Calc_reckon_154 (i := 15) rfl) (fun hc_73 => ?_) (fun hc_73 => ?_)
              · skip
                refine zw_aload_n (pc := 93) (n := 0) (x := (d_ + 33)) rfl (zdal_p dlA_Calc_reckon_155 (i := 0) rfl) ?_
                refine zw_getF (pc := 94) f_Calc_20 rfl ((hf_N19_.w hW).kr (o := 33) (by decide)) ((hf_N19_.w hW).lr (o := 33) (s := 0) (r := 23) (by decide)) (zdal_p dlA_Calc_reckon_155 (i := 1) rfl) ?_
                refine zw_aload_n (pc := 97) (n := 0) (x := (d_ + 33)) rfl (zdal_p dlA_Calc_reckon_155 (i := 2) rfl) ?_
                refine zk_callV hf_N19_.x (pc := 98) [] [.ref (d_ + 23)] l_Calc_43 (u_Calc_topShelf l d_ N19_ (hf_N19_.w hW) (show 0 ≤ ze N19_ (d_ + 33) 3 by first | with_reducible assumption | (exact zo_34 eD33_3_N17_ hc_12 hvN19_ rD33_3_N19_.1) | assumption) (show ze N19_ (d_ + 33) 3 ≤ 18 by first | with_reducible assumption | (exact zo_35 eD33_3_N17_ hb_.2.1 hb_.2.2.1 hb_.2.2.2 hvN19_ q5_) | assumption)) rfl rfl ((hf_N19_.w hW).kr (o := 33) (by decide)) (by decide) (by decide) (Nat.le_of_ble_eq_true rfl) (zdal_p dlA_Calc_reckon_155 (i := 3) rfl) ?_
                rintro _ N21_ ⟨v22_, rfl, ⟨hv22_a, hv22_b⟩, hsN21_, hp0_N21_⟩
                obtain rfl := hsN21_.eq.symm
                replace hp0_N21_ : v22_ = 20 + ze N19_ (d_ + 33) 3 := hp0_N21_
                show zW l m_Calc_reckon (zn Mz + 0, zw Mz + 0) N19_ 101 [some (.ref (d_ + 33)), some (.int (Int32.ofInt a0_)), some (.int (Int32.ofInt v14_)), some (.int (Int32.ofInt ((20 + ze N1_ (d_ + 33) 3)))), some (.int (Int32.ofInt 1))] [.int (Int32.ofInt v22_), .ref (d_ + 23)] _
                refine zr_toI (show v22_ = (19 + ze N1_ (d_ + 33) 3) by (exact zo_36 eD33_3_N17_ hc_12 hp0_N21_ hv22_b hvN19_)) ?_
                refine zw_iload_n (pc := 101) (n := 3) (x := Int32.ofInt ((20 + ze N1_ (d_ + 33) 3))) rfl (zdal_p dlA_Calc_reckon_155 (i := 4) rfl) ?_
                refine zw_iload_n (pc := 102) (n := 2) (x := Int32.ofInt v14_) rfl (zdal_p dlA_Calc_reckon_155 (i := 5) rfl) ?_
                refine zw_bipush (pc := 103) (v := Int32.ofInt 43) (by decide) (zdal_p dlA_Calc_reckon_155 (i := 6) rfl) ?_
                have j_113 : ∀ (u23_ : Int) (hu23_a : -2147483648 ≤ u23_) (hu23_b : u23_ < 2147483648) (i24_ : zDf v14_ u23_), zW l m_Calc_reckon (zn Mz + 0, zw Mz + 0) N19_ 113 [some (.ref (d_ + 33)), some (.int (Int32.ofInt a0_)), some (.int (Int32.ofInt v14_)), some (.int (Int32.ofInt ((20 + ze N1_ (d_ + 33) 3)))), some (.int (Int32.ofInt 1))] [.int (Int32.ofInt u23_), .int (Int32.ofInt ((20 + ze N1_ (d_ + 33) 3))), .int (Int32.ofInt ((19 + ze N1_ (d_ + 33) 3))), .ref (d_ + 23)] (zqcV d_ [] [] [(33, 2), (33, 3), (33, 6)] [25, 27] Mz (fun N => zCI F_ K_ d_ 1 N ∧ (zkS d_ N, zkW F_ d_ N, zkG d_ N) = zrk F_ K_ (if a0_ = 0 then 2 else 4 : Nat) (zkS d_ Mz).length (zkS d_ Mz, zkW F_ d_ Mz, zkG d_ Mz) ∧ zLow d_ Mz N ∧ (zkS d_ N).head? ≠ some 1 ∧ (∀ y, (zkS d_ N).head? = some y → y < (if a0_ = 0 then 2 else 4 : Nat)))) := by
                  intro u23_ hu23_a hu23_b i24_
                  have hfc_ := (show zDf v14_ u23_ by first | with_reducible assumption | assumption)
                  have hop_ : (zop F_ K_ (zsgn v14_) (zvc F_ d_ N1_ (19 + ze N1_ (d_ + 33) 3)) (zvc F_ d_ N1_ (20 + ze N1_ (d_ + 33) 3))) = fun k_ => (zvc F_ d_ N1_ (19 + ze N1_ (d_ + 33) 3)) k_ + u23_ * (zvc F_ d_ N1_ (20 + ze N1_ (d_ + 33) 3)) k_ := zop_a hfc_ _ _
                  refine zk_callV hf_N19_.x (pc := 113) [.int (Int32.ofInt ((19 + ze N1_ (d_ + 33) 3))), .int (Int32.ofInt ((20 + ze N1_ (d_ + 33) 3))), .int (Int32.ofInt u23_)] [] l_Calc_98 (u_Sums_add l d_ N19_ (hf_N19_.w hW) ((19 + ze N1_ (d_ + 33) 3)) (by (exact zo_37 hc_12)) (by (exact zo_38 hb_.2.2.1 hb_.2.2.2 q5_ rD33_3_N1_.2)) ((20 + ze N1_ (d_ + 33) 3)) (by (exact zo_39 hc_12)) (by (exact zo_40 hb_.2.2.1 hb_.2.2.2 q5_ rD33_3_N1_.2)) u23_ hu23_a hu23_b F_ K_ hA_ c20_ (show 0 ≤ ((19 + ze N1_ (d_ + 33) 3)) by first | with_reducible assumption | (exact zo_41 hc_12) | assumption) (show ((19 + ze N1_ (d_ + 33) 3)) ≤ 39 by first | with_reducible assumption | (exact zo_42 hb_.2.1 hb_.2.2.1 hb_.2.2.2 q5_) | assumption) (show 0 ≤ ((20 + ze N1_ (d_ + 33) 3)) by first | with_reducible assumption | (exact zo_43 hc_12) | assumption) (show ((20 + ze N1_ (d_ + 33) 3)) ≤ 39 by first | with_reducible assumption | (exact zo_15 hb_.2.1 hb_.2.2.1 hb_.2.2.2 q5_) | assumption) (show ((19 + ze N1_ (d_ + 33) 3)) ≠ ((20 + ze N1_ (d_ + 33) 3)) by first | with_reducible assumption | (exact zo_44) | assumption) (show (u23_ = 1 ∨ u23_ = -1) by exact zDf_s hfc_) (show zfit F_ K_ (zvc F_ d_ N19_ ((19 + ze N1_ (d_ + 33) 3))) by rw [hv2_]; exact hy_) (show zfit F_ K_ (zvc F_ d_ N19_ ((20 + ze N1_ (d_ + 33) 3))) by rw [hv2_]; exact hx_)) rfl rfl ((hf_N19_.w hW).kr (o := 23) (by decide)) (by decide) (by decide) (Nat.le_of_ble_eq_true rfl) (zdal_p dlA_Calc_reckon_155 (i := 11) rfl) ?_
                  rintro _ N25_ ⟨rfl, hsN25_, hp0_N25_⟩
                  replace hp0_N25_ : zSh F_ d_ N19_ N25_ ((19 + ze N1_ (d_ + 33) 3)) (fun k => (zvc F_ d_ N19_ ((19 + ze N1_ (d_ + 33) 3))) k + u23_ * (zvc F_ d_ N19_ ((20 + ze N1_ (d_ + 33) 3))) k) := hp0_N25_
                  have hf_N25_ : zFc d_ [] [] [(33, 2), (33, 3), (33, 6)] [25, 27] Mz N25_ := hf_N19_.tr hsN25_ (by decide) (by decide) (by decide) (by decide)
                  have hb0_N25_ : zFc d_ [] [] [(33, 2), (33, 3), (33, 6)] [25, 27] Mz N25_ := hb0_N19_.tr hsN25_ (by decide) (by decide) (by decide) (by decide)
                  have eD33_2_N25_ : ze N25_ (d_ + 33) 2 = ze N19_ (d_ + 33) 2 := hsN25_.e (by decide)
                  have eD33_3_N25_ : ze N25_ (d_ + 33) 3 = ze N19_ (d_ + 33) 3 := hsN25_.e (by decide)
                  have eD33_4_N25_ : ze N25_ (d_ + 33) 4 = ze N19_ (d_ + 33) 4 := hsN25_.e (by decide)
                  have eD33_5_N25_ : ze N25_ (d_ + 33) 5 = ze N19_ (d_ + 33) 5 := hsN25_.e (by decide)
                  have eD33_6_N25_ : ze N25_ (d_ + 33) 6 = ze N19_ (d_ + 33) 6 := hsN25_.e (by decide)
                  have c27_ : zKm F_ K_ d_ N25_ := zKm.fr (hf_N19_.w hW) hsN25_ c20_ (by decide)
                  show zW l m_Calc_reckon (zn Mz + 0, zw Mz + 0) N25_ 116 [some (.ref (d_ + 33)), some (.int (Int32.ofInt a0_)), some (.int (Int32.ofInt v14_)), some (.int (Int32.ofInt ((20 + ze N1_ (d_ + 33) 3)))), some (.int (Int32.ofInt 1))] [] _
                  have hsh_ := hp0_N25_
                  rw [hv2_, hv2_] at hsh_
                  have hnr_ : (fun k_ : Nat => if k_ < F_ then (zop F_ K_ (zsgn v14_) (zvc F_ d_ N1_ (19 + ze N1_ (d_ + 33) 3)) (zvc F_ d_ N1_ (20 + ze N1_ (d_ + 33) 3))) k_ else 0) = (zop F_ K_ (zsgn v14_) (zvc F_ d_ N1_ (19 + ze N1_ (d_ + 33) 3)) (zvc F_ d_ N1_ (20 + ze N1_ (d_ + 33) 3))) := by rw [hop_]; exact zadd_n _ _ _
                  have hz_ := (zSh_n (by (exact zo_41 hc_12)) hsh_).trans (zadd_n _ _ _)
                  rw [← hop_] at hz_ hsh_
                  have hbd_ : zbd F_ K_ (zop F_ K_ (zsgn v14_) (zvc F_ d_ N1_ (19 + ze N1_ (d_ + 33) 3)) (zvc F_ d_ N1_ (20 + ze N1_ (d_ + 33) 3))) := by rw [hop_]; exact zadd_bd (zDf_s hfc_) hy_ hx_
                  refine zw_aload_n (pc := 116) (n := 0) (x := (d_ + 33)) rfl (zdal_p dlA_Calc_reckon_155 (i := 12) rfl) ?_
                  refine zw_iload (pc := 117) (i := 4) (x := Int32.ofInt 1) rfl (zdal_p dlA_Calc_reckon_155 (i := 13) rfl) ?_
                  refine zr_if_eq (pc := 119) (tgt := 140) ⟨(by decide), (by decide)⟩ (by decide) (zdal_p dlA_Calc_reckon_155 (i := 14) rfl) (fun hc_119 => ?_) (fun hc_119 => ?_)
                  · skip
                    exact absurd hc_119 (by decide)
                  · skip
                    refine zw_aload_n (pc := 122) (n := 0) (x := (d_ + 33)) rfl (zdal_p dlA_Calc_reckon_155 (i := 15) rfl) ?_
                    refine zw_getF (pc := 123) f_Calc_20 rfl ((hf_N25_.w hW).kr (o := 33) (by decide)) ((hf_N25_.w hW).lr (o := 33) (s := 0) (r := 23) (by decide)) (zdal_p dlA_Calc_reckon_155 (i := 16) rfl) ?_
                    refine zw_aload_n (pc := 126) (n := 0) (x := (d_ + 33)) rfl (zdal_p dlA_Calc_reckon_155 (i := 17) rfl) ?_
                    refine zk_callV hf_N25_.x (pc := 127) [] [.ref (d_ + 23), .ref (d_ + 33)] l_Calc_43 (u_Calc_topShelf l d_ N25_ (hf_N25_.w hW) (show 0 ≤ ze N25_ (d_ + 33) 3 by first | with_reducible assumption | (exact zo_45 eD33_3_N17_ eD33_3_N25_ hc_12 hvN19_ rD33_3_N19_.1) | assumption) (show ze N25_ (d_ + 33) 3 ≤ 18 by first | with_reducible assumption | (exact zo_46 eD33_3_N17_ eD33_3_N25_ hb_.2.1 hb_.2.2.1 hb_.2.2.2 hvN19_ q5_) | assumption)) rfl rfl ((hf_N25_.w hW).kr (o := 33) (by decide)) (by decide) (by decide) (Nat.le_of_ble_eq_true rfl) (zdal_p dlA_Calc_reckon_155 (i := 18) rfl) ?_
                    rintro _ N28_ ⟨v29_, rfl, ⟨hv29_a, hv29_b⟩, hsN28_, hp0_N28_⟩
                    obtain rfl := hsN28_.eq.symm
                    replace hp0_N28_ : v29_ = 20 + ze N25_ (d_ + 33) 3 := hp0_N28_
                    show zW l m_Calc_reckon (zn Mz + 0, zw Mz + 0) N25_ 130 [some (.ref (d_ + 33)), some (.int (Int32.ofInt a0_)), some (.int (Int32.ofInt v14_)), some (.int (Int32.ofInt ((20 + ze N1_ (d_ + 33) 3)))), some (.int (Int32.ofInt 1))] [.int (Int32.ofInt v29_), .ref (d_ + 23), .ref (d_ + 33)] _
                    refine zr_toI (show v29_ = (19 + ze N1_ (d_ + 33) 3) by (exact zo_47 eD33_3_N17_ eD33_3_N25_ hc_12 hp0_N28_ hv29_b hvN19_)) ?_
                    refine zk_callV hf_N25_.x (pc := 130) [.int (Int32.ofInt ((19 + ze N1_ (d_ + 33) 3)))] [.ref (d_ + 33)] l_Calc_81 (u_Sums_isInBounds l d_ N25_ (hf_N25_.w hW) ((19 + ze N1_ (d_ + 33) 3)) (by (exact zo_37 hc_12)) (by (exact zo_38 hb_.2.2.1 hb_.2.2.2 q5_ rD33_3_N1_.2)) F_ K_ hA_ c27_ (show 0 ≤ ((19 + ze N1_ (d_ + 33) 3)) by first | with_reducible assumption | (exact zo_41 hc_12) | assumption) (show ((19 + ze N1_ (d_ + 33) 3)) ≤ 39 by first | with_reducible assumption | (exact zo_42 hb_.2.1 hb_.2.2.1 hb_.2.2.2 q5_) | assumption) (show zbd F_ K_ (zvc F_ d_ N25_ ((19 + ze N1_ (d_ + 33) 3))) by rw [hz_]; exact hbd_)) rfl rfl ((hf_N25_.w hW).kr (o := 23) (by decide)) (by decide) (by decide) (Nat.le_of_ble_eq_true rfl) (zdal_p dlA_Calc_reckon_155 (i := 19) rfl) ?_
                    rintro _ N30_ ⟨v31_, rfl, ⟨hv31_a, hv31_b⟩, hsN30_, hp0_N30_⟩
                    obtain rfl := hsN30_.eq.symm
                    replace hp0_N30_ : ((v31_ = 1 ∧ zfit F_ K_ (zvc F_ d_ N25_ ((19 + ze N1_ (d_ + 33) 3)))) ∨ (v31_ = 0 ∧ ¬ zfit F_ K_ (zvc F_ d_ N25_ ((19 + ze N1_ (d_ + 33) 3))))) := hp0_N30_
                    rcases hp0_N30_ with ⟨rfl, ha130_0_hp0_N30_⟩ | ⟨rfl, ha130_0_hp0_N30_⟩
                    · skip
                      have hi_ := ha130_0_hp0_N30_
                      rw [hz_] at hi_
                      show zW l m_Calc_reckon (zn Mz + 0, zw Mz + 0) N25_ 133 [some (.ref (d_ + 33)), some (.int (Int32.ofInt a0_)), some (.int (Int32.ofInt v14_)), some (.int (Int32.ofInt ((20 + ze N1_ (d_ + 33) 3)))), some (.int (Int32.ofInt 1))] [.int (Int32.ofInt 1), .ref (d_ + 33)] _
                      refine zr_if_eq (pc := 133) (tgt := 140) ⟨(by decide), (by decide)⟩ (by decide) (zdal_p dlA_Calc_reckon_155 (i := 20) rfl) (fun hc_133 => ?_) (fun hc_133 => ?_)
                      · skip
                        exact absurd hc_133 (by decide)
                      · skip
                        refine zw_iconst (pc := 136) (v := Int32.ofInt 1) (by decide) (zdal_p dlA_Calc_reckon_155 (i := 21) rfl) ?_
                        refine zw_goto (pc := 137) (tgt := 141) (by decide) (zdal_p dlA_Calc_reckon_155 (i := 22) rfl) ?_
                        refine zk_callV hf_N25_.x (pc := 141) [.int (Int32.ofInt 1)] [] l_Calc_85 (u_Calc_settle l d_ N25_ (hf_N25_.w hW) 1 (by decide) (by decide) (by (decide)) F_ K_ hA_ c27_ (show 1 ≤ ze N25_ (d_ + 33) 3 by first | with_reducible assumption | (exact zo_48 eD33_3_N17_ eD33_3_N25_ hc_12 hvN19_ rD33_3_N19_.1) | assumption) (show ze N25_ (d_ + 33) 3 ≤ 18 by first | with_reducible assumption | (exact zo_46 eD33_3_N17_ eD33_3_N25_ hb_.2.1 hb_.2.2.1 hb_.2.2.2 hvN19_ q5_) | assumption)) rfl rfl ((hf_N25_.w hW).kr (o := 33) (by decide)) (by decide) (by decide) (Nat.le_of_ble_eq_true rfl) d_Calc_reckon_141 ?_
                        rintro _ N32_ ⟨rfl, hsN32_, ⟨hp0_N32_, hp1_N32_⟩⟩
                        have hf_N32_ : zFc d_ [] [] [(33, 2), (33, 3), (33, 6)] [25, 27] Mz N32_ := hf_N25_.tr hsN32_ (by decide) (by decide) (by decide) (by decide)
                        have hb0_N32_ : zFc d_ [] [] [(33, 2), (33, 3), (33, 6)] [25, 27] Mz N32_ := hb0_N25_.tr hsN32_ (by decide) (by decide) (by decide) (by decide)
                        have eD33_2_N32_ : ze N32_ (d_ + 33) 2 = ze N25_ (d_ + 33) 2 := hsN32_.e (by decide)
                        have eD33_3_N32_ : ze N32_ (d_ + 33) 3 = ze N25_ (d_ + 33) 3 := hsN32_.e (by decide)
                        have eD33_4_N32_ : ze N32_ (d_ + 33) 4 = ze N25_ (d_ + 33) 4 := hsN32_.e (by decide)
                        have eD33_5_N32_ : ze N32_ (d_ + 33) 5 = ze N25_ (d_ + 33) 5 := hsN32_.e (by decide)
                        have rD33_6_N32_ := ze_r N32_ (d_ + 33) 6
                        have c34_ : zKm F_ K_ d_ N32_ := zKm.fr (hf_N25_.w hW) hsN32_ c27_ (by decide)
                        show zW l m_Calc_reckon (zn Mz + 0, zw Mz + 0) N32_ 144 [some (.ref (d_ + 33)), some (.int (Int32.ofInt a0_)), some (.int (Int32.ofInt v14_)), some (.int (Int32.ofInt ((20 + ze N1_ (d_ + 33) 3)))), some (.int (Int32.ofInt 1))] [] _
                        have ho0_ := hp0_N32_
                        have ho1_ := hp1_N32_
                        rw [show 20 + ze N25_ (d_ + 33) 3 = (19 + ze N1_ (d_ + 33) 3) by (exact zo_49 eD33_3_N17_ eD33_3_N25_ hc_12 hp0_N28_ hv29_b hvN19_)] at ho1_
                        have hok_ : zOk F_ d_ N19_ N32_ (19 + ze N1_ (d_ + 33) 3) (zop F_ K_ (zsgn v14_) (zvc F_ d_ N1_ (19 + ze N1_ (d_ + 33) 3)) (zvc F_ d_ N1_ (20 + ze N1_ (d_ + 33) 3))) ((zsgn v14_ = 4 → zmok F_ K_ (zvc F_ d_ N1_ (19 + ze N1_ (d_ + 33) 3)) (zvc F_ d_ N1_ (20 + ze N1_ (d_ + 33) 3))) ∧ zfit F_ K_ (zop F_ K_ (zsgn v14_) (zvc F_ d_ N1_ (19 + ze N1_ (d_ + 33) 3)) (zvc F_ d_ N1_ (20 + ze N1_ (d_ + 33) 3)))) := by first | exact zOk_1 hF27_ (by (exact zo_32 hc_12)) hsh_ hnr_ (by (exact eD33_6_N25_)) ⟨fun h4_ => by first | exact hm1_ | exact absurd h4_ (zDf_4 hfc_), hi_⟩ (ho0_ rfl).1 (ho0_ rfl).2 | exact zOk_2 hF27_ (by omega) hsh_ (fun q_ => hi_ q_.2) (ho1_ rfl).2 (zone_z 0) (ho1_ rfl).1 | exact zOk_3 hF27_ (by omega) hrw_ (fun q_ => hm0_ (q_.1 (by rw [hc4_]; rfl))) (ho1_ rfl).2 (zone_z 0) (ho1_ rfl).1
                        obtain ⟨r1_, r2_, r3_, r4_⟩ := zrk_st (F := F_) hci_ hcc_ (by (exact zo_1 hc_4)) htc_ (fun i => (hsN32_.r (by decide) i).trans ((hsN25_.r (by decide) i).trans ((hsN19_.r (by decide) i).trans (hsN17_.r (by decide) i)))) (by (exact zo_50 eD33_2_N19_ eD33_2_N25_ eD33_2_N32_ hc_4 hvN17_ rD33_2_N17_.2)) (by (exact zo_51 eD33_3_N17_ eD33_3_N25_ eD33_3_N32_ hc_12 hp0_N28_ hv29_b hvN19_)) (by (exact zo_52 eD33_4_N17_ eD33_4_N19_ eD33_4_N25_ eD33_4_N32_)) (by (exact zo_52 eD33_5_N17_ eD33_5_N19_ eD33_5_N25_ eD33_5_N32_)) (by (exact zo_53 eD33_6_N17_ eD33_6_N19_)) hv2_ rfl rfl Iff.rfl hok_
                        have hrk_ := zrk_b (show zrk F_ K_ (if a0_ = 0 then 2 else 4 : Nat) (zkS d_ Mz).length (zkS d_ Mz, zkW F_ d_ Mz, zkG d_ Mz) = zrk F_ K_ (if a0_ = 0 then 2 else 4 : Nat) (zkS d_ N1_).length (zkS d_ N1_, zkW F_ d_ N1_, zkG d_ N1_) by first | with_reducible assumption | assumption) r2_ (hXc_.resolve_left id) r3_
                        have hlw_ := (zLow.f hsN17_ (by decide)).tr ((zLow.f hsN19_ (by decide)).tr hok_.2.1)
                        refine zw_goto (pc := 144) (tgt := 0) (by decide) d_Calc_reckon_144 ?_
                        refine zW_le [some (.ref (d_ + 33)), some (.int (Int32.ofInt a0_)), none, none, none] (⟨rfl, rfl, trivial⟩) ?_
                        exact ih_0 N32_ hb0_N32_ r1_ (show (zkS d_ N32_).head? ≠ some 1 by exact r4_) (show zrk F_ K_ (if a0_ = 0 then 2 else 4 : Nat) (zkS d_ Mz).length (zkS d_ Mz, zkW F_ d_ Mz, zkG d_ Mz) = zrk F_ K_ (if a0_ = 0 then 2 else 4 : Nat) (zkS d_ N32_).length (zkS d_ N32_, zkW F_ d_ N32_, zkG d_ N32_) by exact hrk_) (show zLow d_ Mz N32_ by exact zLow.tr (by first | with_reducible assumption | assumption) hlw_) (by (exact zo_54 eD33_2_N19_ eD33_2_N25_ eD33_2_N32_ hc_4 hlt_0 hvN17_ q1_.2))
                    · skip
                      have hi_ := ha130_0_hp0_N30_
                      rw [hz_] at hi_
                      show zW l m_Calc_reckon (zn Mz + 0, zw Mz + 0) N25_ 133 [some (.ref (d_ + 33)), some (.int (Int32.ofInt a0_)), some (.int (Int32.ofInt v14_)), some (.int (Int32.ofInt ((20 + ze N1_ (d_ + 33) 3)))), some (.int (Int32.ofInt 1))] [.int (Int32.ofInt 0), .ref (d_ + 33)] _
                      refine zr_if_eq (pc := 133) (tgt := 140) ⟨(by decide), (by decide)⟩ (by decide) (zdal_p dlA_Calc_reckon_155 (i := 20) rfl) (fun hc_133 => ?_) (fun hc_133 => ?_)
                      · skip
                        refine zw_iconst (pc := 140) (v := Int32.ofInt 0) (by decide) (zdal_p dlA_Calc_reckon_155 (i := 23) rfl) ?_
                        refine zk_callV hf_N25_.x (pc := 141) [.int (Int32.ofInt 0)] [] l_Calc_85 (u_Calc_settle l d_ N25_ (hf_N25_.w hW) 0 (by decide) (by decide) (by (decide)) F_ K_ hA_ c27_ (show 1 ≤ ze N25_ (d_ + 33) 3 by first | with_reducible assumption | (exact zo_48 eD33_3_N17_ eD33_3_N25_ hc_12 hvN19_ rD33_3_N19_.1) | assumption) (show ze N25_ (d_ + 33) 3 ≤ 18 by first | with_reducible assumption | (exact zo_46 eD33_3_N17_ eD33_3_N25_ hb_.2.1 hb_.2.2.1 hb_.2.2.2 hvN19_ q5_) | assumption)) rfl rfl ((hf_N25_.w hW).kr (o := 33) (by decide)) (by decide) (by decide) (Nat.le_of_ble_eq_true rfl) d_Calc_reckon_141 ?_
                        rintro _ N35_ ⟨rfl, hsN35_, ⟨hp0_N35_, hp1_N35_⟩⟩
                        have hf_N35_ : zFc d_ [] [] [(33, 2), (33, 3), (33, 6)] [25, 27] Mz N35_ := hf_N25_.tr hsN35_ (by decide) (by decide) (by decide) (by decide)
                        have hb0_N35_ : zFc d_ [] [] [(33, 2), (33, 3), (33, 6)] [25, 27] Mz N35_ := hb0_N25_.tr hsN35_ (by decide) (by decide) (by decide) (by decide)
                        have eD33_2_N35_ : ze N35_ (d_ + 33) 2 = ze N25_ (d_ + 33) 2 := hsN35_.e (by decide)
                        have eD33_3_N35_ : ze N35_ (d_ + 33) 3 = ze N25_ (d_ + 33) 3 := hsN35_.e (by decide)
                        have eD33_4_N35_ : ze N35_ (d_ + 33) 4 = ze N25_ (d_ + 33) 4 := hsN35_.e (by decide)
                        have eD33_5_N35_ : ze N35_ (d_ + 33) 5 = ze N25_ (d_ + 33) 5 := hsN35_.e (by decide)
                        have rD33_6_N35_ := ze_r N35_ (d_ + 33) 6
                        have c37_ : zKm F_ K_ d_ N35_ := zKm.fr (hf_N25_.w hW) hsN35_ c27_ (by decide)
                        show zW l m_Calc_reckon (zn Mz + 0, zw Mz + 0) N35_ 144 [some (.ref (d_ + 33)), some (.int (Int32.ofInt a0_)), some (.int (Int32.ofInt v14_)), some (.int (Int32.ofInt ((20 + ze N1_ (d_ + 33) 3)))), some (.int (Int32.ofInt 1))] [] _
                        have ho0_ := hp0_N35_
                        have ho1_ := hp1_N35_
                        rw [show 20 + ze N25_ (d_ + 33) 3 = (19 + ze N1_ (d_ + 33) 3) by (exact zo_49 eD33_3_N17_ eD33_3_N25_ hc_12 hp0_N28_ hv29_b hvN19_)] at ho1_
                        have hok_ : zOk F_ d_ N19_ N35_ (19 + ze N1_ (d_ + 33) 3) (zop F_ K_ (zsgn v14_) (zvc F_ d_ N1_ (19 + ze N1_ (d_ + 33) 3)) (zvc F_ d_ N1_ (20 + ze N1_ (d_ + 33) 3))) ((zsgn v14_ = 4 → zmok F_ K_ (zvc F_ d_ N1_ (19 + ze N1_ (d_ + 33) 3)) (zvc F_ d_ N1_ (20 + ze N1_ (d_ + 33) 3))) ∧ zfit F_ K_ (zop F_ K_ (zsgn v14_) (zvc F_ d_ N1_ (19 + ze N1_ (d_ + 33) 3)) (zvc F_ d_ N1_ (20 + ze N1_ (d_ + 33) 3)))) := by first | exact zOk_1 hF27_ (by omega) hsh_ hnr_ (by omega) ⟨fun h4_ => by first | exact hm1_ | exact absurd h4_ (zDf_4 hfc_), hi_⟩ (ho0_ rfl).1 (ho0_ rfl).2 | exact zOk_2 hF27_ (by (exact zo_32 hc_12)) hsh_ (fun q_ => hi_ q_.2) (ho1_ rfl).2 (zone_z 0) (ho1_ rfl).1 | exact zOk_3 hF27_ (by omega) hrw_ (fun q_ => hm0_ (q_.1 (by rw [hc4_]; rfl))) (ho1_ rfl).2 (zone_z 0) (ho1_ rfl).1
                        obtain ⟨r1_, r2_, r3_, r4_⟩ := zrk_st (F := F_) hci_ hcc_ (by (exact zo_1 hc_4)) htc_ (fun i => (hsN35_.r (by decide) i).trans ((hsN25_.r (by decide) i).trans ((hsN19_.r (by decide) i).trans (hsN17_.r (by decide) i)))) (by (exact zo_50 eD33_2_N19_ eD33_2_N25_ eD33_2_N35_ hc_4 hvN17_ rD33_2_N17_.2)) (by (exact zo_51 eD33_3_N17_ eD33_3_N25_ eD33_3_N35_ hc_12 hp0_N28_ hv29_b hvN19_)) (by (exact zo_52 eD33_4_N17_ eD33_4_N19_ eD33_4_N25_ eD33_4_N35_)) (by (exact zo_52 eD33_5_N17_ eD33_5_N19_ eD33_5_N25_ eD33_5_N35_)) (by (exact zo_53 eD33_6_N17_ eD33_6_N19_)) hv2_ rfl rfl Iff.rfl hok_
                        have hrk_ := zrk_b (show zrk F_ K_ (if a0_ = 0 then 2 else 4 : Nat) (zkS d_ Mz).length (zkS d_ Mz, zkW F_ d_ Mz, zkG d_ Mz) = zrk F_ K_ (if a0_ = 0 then 2 else 4 : Nat) (zkS d_ N1_).length (zkS d_ N1_, zkW F_ d_ N1_, zkG d_ N1_) by first | with_reducible assumption | assumption) r2_ (hXc_.resolve_left id) r3_
                        have hlw_ := (zLow.f hsN17_ (by decide)).tr ((zLow.f hsN19_ (by decide)).tr hok_.2.1)
                        refine zw_goto (pc := 144) (tgt := 0) (by decide) d_Calc_reckon_144 ?_
                        refine zW_le [some (.ref (d_ + 33)), some (.int (Int32.ofInt a0_)), none, none, none] (⟨rfl, rfl, trivial⟩) ?_
                        exact ih_0 N35_ hb0_N35_ r1_ (show (zkS d_ N35_).head? ≠ some 1 by exact r4_) (show zrk F_ K_ (if a0_ = 0 then 2 else 4 : Nat) (zkS d_ Mz).length (zkS d_ Mz, zkW F_ d_ Mz, zkG d_ Mz) = zrk F_ K_ (if a0_ = 0 then 2 else 4 : Nat) (zkS d_ N35_).length (zkS d_ N35_, zkW F_ d_ N35_, zkG d_ N35_) by exact hrk_) (show zLow d_ Mz N35_ by exact zLow.tr (by first | with_reducible assumption | assumption) hlw_) (by (exact zo_54 eD33_2_N19_ eD33_2_N25_ eD33_2_N35_ hc_4 hlt_0 hvN17_ q1_.2))
                      · skip
                        exact absurd hc_133 (by decide)
                refine zr_icmp_ne (pc := 105) (tgt := 112) ⟨hv14_a, hv14_b⟩ ⟨(by decide), (by decide)⟩ (by decide) (zdal_p dlA_Calc_reckon_155 (i := 7) rfl) (fun hc_105 => ?_) (fun hc_105 => ?_)
                · skip
                  refine zw_iconst (pc := 112) (v := Int32.ofInt (-1)) (by decide) (zdal_p dlA_Calc_reckon_155 (i := 10) rfl) ?_
                  exact j_113 ((-1)) (by decide) (by decide) (show zDf v14_ ((-1)) by first | exact Or.inl ⟨by assumption, rfl⟩ | exact Or.inr ⟨zD3_45 hcc_ (by first | with_reducible assumption | assumption) (by first | with_reducible assumption | assumption), rfl⟩)
                · skip
                  refine zw_iconst (pc := 108) (v := Int32.ofInt 1) (by decide) (zdal_p dlA_Calc_reckon_155 (i := 8) rfl) ?_
                  refine zw_goto (pc := 109) (tgt := 113) (by decide) (zdal_p dlA_Calc_reckon_155 (i := 9) rfl) ?_
                  exact j_113 1 (by decide) (by decide) (show zDf v14_ 1 by first | exact Or.inl ⟨by assumption, rfl⟩ | exact Or.inr ⟨zD3_45 hcc_ (by first | with_reducible assumption | assumption) (by first | with_reducible assumption | assumption), rfl⟩)
              · skip
                refine zw_aload_n (pc := 76) (n := 0) (x := (d_ + 33)) rfl (zdal_p dlA_Calc_reckon_154 (i := 16) rfl) ?_
                refine zw_getF (pc := 77) f_Calc_20 rfl ((hf_N19_.w hW).kr (o := 33) (by decide)) ((hf_N19_.w hW).lr (o := 33) (s := 0) (r := 23) (by decide)) (zdal_p dlA_Calc_reckon_154 (i := 17) rfl) ?_
                refine zw_aload_n (pc := 80) (n := 0) (x := (d_ + 33)) rfl (zdal_p dlA_Calc_reckon_154 (i := 18) rfl) ?_
                refine zk_callV hf_N19_.x (pc := 81) [] [.ref (d_ + 23)] l_Calc_43 (u_Calc_topShelf l d_ N19_ (hf_N19_.w hW) (show 0 ≤ ze N19_ (d_ + 33) 3 by first | with_reducible assumption | (exact zo_34 eD33_3_N17_ hc_12 hvN19_ rD33_3_N19_.1) | assumption) (show ze N19_ (d_ + 33) 3 ≤ 18 by first | with_reducible assumption | (exact zo_35 eD33_3_N17_ hb_.2.1 hb_.2.2.1 hb_.2.2.2 hvN19_ q5_) | assumption)) rfl rfl ((hf_N19_.w hW).kr (o := 33) (by decide)) (by decide) (by decide) (Nat.le_of_ble_eq_true rfl) (zdal_p dlA_Calc_reckon_154 (i := 19) rfl) ?_
                rintro _ N38_ ⟨v39_, rfl, ⟨hv39_a, hv39_b⟩, hsN38_, hp0_N38_⟩
                obtain rfl := hsN38_.eq.symm
                replace hp0_N38_ : v39_ = 20 + ze N19_ (d_ + 33) 3 := hp0_N38_
                show zW l m_Calc_reckon (zn Mz + 0, zw Mz + 0) N19_ 84 [some (.ref (d_ + 33)), some (.int (Int32.ofInt a0_)), some (.int (Int32.ofInt v14_)), some (.int (Int32.ofInt ((20 + ze N1_ (d_ + 33) 3)))), some (.int (Int32.ofInt 1))] [.int (Int32.ofInt v39_), .ref (d_ + 23)] _
                refine zr_toI (show v39_ = (19 + ze N1_ (d_ + 33) 3) by (exact zo_36 eD33_3_N17_ hc_12 hp0_N38_ hv39_b hvN19_)) ?_
                refine zw_iload_n (pc := 84) (n := 3) (x := Int32.ofInt ((20 + ze N1_ (d_ + 33) 3))) rfl (zdal_p dlA_Calc_reckon_154 (i := 20) rfl) ?_
                refine zk_callV hf_N19_.x (pc := 85) [.int (Int32.ofInt ((19 + ze N1_ (d_ + 33) 3))), .int (Int32.ofInt ((20 + ze N1_ (d_ + 33) 3)))] [] l_Calc_77 (u_Sums_multiply l d_ N19_ (hf_N19_.w hW) ((19 + ze N1_ (d_ + 33) 3)) (by (exact zo_37 hc_12)) (by (exact zo_38 hb_.2.2.1 hb_.2.2.2 q5_ rD33_3_N1_.2)) ((20 + ze N1_ (d_ + 33) 3)) (by (exact zo_39 hc_12)) (by (exact zo_40 hb_.2.2.1 hb_.2.2.2 q5_ rD33_3_N1_.2)) F_ K_ hA_ c20_ (show 0 ≤ ((19 + ze N1_ (d_ + 33) 3)) by first | with_reducible assumption | (exact zo_41 hc_12) | assumption) (show ((19 + ze N1_ (d_ + 33) 3)) ≤ 39 by first | with_reducible assumption | (exact zo_42 hb_.2.1 hb_.2.2.1 hb_.2.2.2 q5_) | assumption) (show 0 ≤ ((20 + ze N1_ (d_ + 33) 3)) by first | with_reducible assumption | (exact zo_43 hc_12) | assumption) (show ((20 + ze N1_ (d_ + 33) 3)) ≤ 39 by first | with_reducible assumption | (exact zo_15 hb_.2.1 hb_.2.2.1 hb_.2.2.2 q5_) | assumption) (show zfit F_ K_ (zvc F_ d_ N19_ ((19 + ze N1_ (d_ + 33) 3))) by rw [hv2_]; exact hy_) (show zfit F_ K_ (zvc F_ d_ N19_ ((20 + ze N1_ (d_ + 33) 3))) by rw [hv2_]; exact hx_)) rfl rfl ((hf_N19_.w hW).kr (o := 23) (by decide)) (by decide) (by decide) (Nat.le_of_ble_eq_true rfl) (zdal_p dlA_Calc_reckon_154 (i := 21) rfl) ?_
                rintro _ N40_ ⟨v41_, rfl, ⟨hv41_a, hv41_b⟩, hsN40_, hp0_N40_⟩
                replace hp0_N40_ : ((v41_ = 1 ∧ zmok F_ K_ (zvc F_ d_ N19_ ((19 + ze N1_ (d_ + 33) 3))) (zvc F_ d_ N19_ ((20 + ze N1_ (d_ + 33) 3))) ∧ zSh F_ d_ N19_ N40_ ((19 + ze N1_ (d_ + 33) 3)) (zprd F_ K_ (zvc F_ d_ N19_ ((19 + ze N1_ (d_ + 33) 3))) (zvc F_ d_ N19_ ((20 + ze N1_ (d_ + 33) 3))))) ∨ (v41_ = 0 ∧ ¬ zmok F_ K_ (zvc F_ d_ N19_ ((19 + ze N1_ (d_ + 33) 3))) (zvc F_ d_ N19_ ((20 + ze N1_ (d_ + 33) 3))) ∧ (∀ x : Nat, zg N40_ (d_ + 25) x = zg N19_ (d_ + 25) x))) := hp0_N40_
                have hf_N40_ : zFc d_ [] [] [(33, 2), (33, 3), (33, 6)] [25, 27] Mz N40_ := hf_N19_.tr hsN40_ (by decide) (by decide) (by decide) (by decide)
                have hb0_N40_ : zFc d_ [] [] [(33, 2), (33, 3), (33, 6)] [25, 27] Mz N40_ := hb0_N19_.tr hsN40_ (by decide) (by decide) (by decide) (by decide)
                have eD33_2_N40_ : ze N40_ (d_ + 33) 2 = ze N19_ (d_ + 33) 2 := hsN40_.e (by decide)
                have eD33_3_N40_ : ze N40_ (d_ + 33) 3 = ze N19_ (d_ + 33) 3 := hsN40_.e (by decide)
                have eD33_4_N40_ : ze N40_ (d_ + 33) 4 = ze N19_ (d_ + 33) 4 := hsN40_.e (by decide)
                have eD33_5_N40_ : ze N40_ (d_ + 33) 5 = ze N19_ (d_ + 33) 5 := hsN40_.e (by decide)
                have eD33_6_N40_ : ze N40_ (d_ + 33) 6 = ze N19_ (d_ + 33) 6 := hsN40_.e (by decide)
                have c42_ : zKm F_ K_ d_ N40_ := zKm.fr (hf_N19_.w hW) hsN40_ c20_ (by decide)
                rcases hp0_N40_ with ⟨rfl, ha85_0_hp0_N40_, ha85_1_hp0_N40_⟩ | ⟨rfl, ha85_0_hp0_N40_, ha85_1_hp0_N40_⟩
                · skip
                  have hm1_ := ha85_0_hp0_N40_
                  have hsh_ := ha85_1_hp0_N40_
                  rw [hv2_, hv2_] at hm1_
                  rw [hv2_, hv2_] at hsh_
                  have hc4_ : v14_ = 42 := by assumption
                  have hz_ : zvc F_ d_ N40_ (19 + ze N1_ (d_ + 33) 3) = (zop F_ K_ (zsgn v14_) (zvc F_ d_ N1_ (19 + ze N1_ (d_ + 33) 3)) (zvc F_ d_ N1_ (20 + ze N1_ (d_ + 33) 3))) := by rw [hc4_, zop_4]; exact (zSh_n (by (exact zo_41 hc_12)) hsh_).trans (zprd_n hA_ _ _)
                  have hbd_ : zbd F_ K_ (zop F_ K_ (zsgn v14_) (zvc F_ d_ N1_ (19 + ze N1_ (d_ + 33) 3)) (zvc F_ d_ N1_ (20 + ze N1_ (d_ + 33) 3))) := by rw [hc4_, zop_4]; exact zprd_bd hA_ hm1_
                  have hnr_ := zprd_n hA_ (zvc F_ d_ N1_ (19 + ze N1_ (d_ + 33) 3)) (zvc F_ d_ N1_ (20 + ze N1_ (d_ + 33) 3))
                  rw [← zop_4 (F := F_) (K := K_), ← hc4_] at hsh_ hnr_
                  show zW l m_Calc_reckon (zn Mz + 0, zw Mz + 0) N40_ 88 [some (.ref (d_ + 33)), some (.int (Int32.ofInt a0_)), some (.int (Int32.ofInt v14_)), some (.int (Int32.ofInt ((20 + ze N1_ (d_ + 33) 3)))), some (.int (Int32.ofInt 1))] [.int (Int32.ofInt 1)] _
                  refine zw_istore (pc := 88) (i := 4) (L2 := [some (.ref (d_ + 33)), some (.int (Int32.ofInt a0_)), some (.int (Int32.ofInt v14_)), some (.int (Int32.ofInt ((20 + ze N1_ (d_ + 33) 3)))), some (.int (Int32.ofInt 1))]) (by decide) rfl (zdal_p dlA_Calc_reckon_154 (i := 22) rfl) ?_
                  refine zw_goto (pc := 90) (tgt := 116) (by decide) (zdal_p dlA_Calc_reckon_154 (i := 23) rfl) ?_
                  refine zw_aload_n (pc := 116) (n := 0) (x := (d_ + 33)) rfl (zdal_p dlA_Calc_reckon_155 (i := 12) rfl) ?_
                  refine zw_iload (pc := 117) (i := 4) (x := Int32.ofInt 1) rfl (zdal_p dlA_Calc_reckon_155 (i := 13) rfl) ?_
                  refine zr_if_eq (pc := 119) (tgt := 140) ⟨(by decide), (by decide)⟩ (by decide) (zdal_p dlA_Calc_reckon_155 (i := 14) rfl) (fun hc_119 => ?_) (fun hc_119 => ?_)
                  · skip
                    exact absurd hc_119 (by decide)
                  · skip
                    refine zw_aload_n (pc := 122) (n := 0) (x := (d_ + 33)) rfl (zdal_p dlA_Calc_reckon_155 (i := 15) rfl) ?_
                    refine zw_getF (pc := 123) f_Calc_20 rfl ((hf_N40_.w hW).kr (o := 33) (by decide)) ((hf_N40_.w hW).lr (o := 33) (s := 0) (r := 23) (by decide)) (zdal_p dlA_Calc_reckon_155 (i := 16) rfl) ?_
                    refine zw_aload_n (pc := 126) (n := 0) (x := (d_ + 33)) rfl (zdal_p dlA_Calc_reckon_155 (i := 17) rfl) ?_
                    refine zk_callV hf_N40_.x (pc := 127) [] [.ref (d_ + 23), .ref (d_ + 33)] l_Calc_43 (u_Calc_topShelf l d_ N40_ (hf_N40_.w hW) (show 0 ≤ ze N40_ (d_ + 33) 3 by first | with_reducible assumption | (exact zo_45 eD33_3_N17_ eD33_3_N40_ hc_12 hvN19_ rD33_3_N19_.1) | assumption) (show ze N40_ (d_ + 33) 3 ≤ 18 by first | with_reducible assumption | (exact zo_46 eD33_3_N17_ eD33_3_N40_ hb_.2.1 hb_.2.2.1 hb_.2.2.2 hvN19_ q5_) | assumption)) rfl rfl ((hf_N40_.w hW).kr (o := 33) (by decide)) (by decide) (by decide) (Nat.le_of_ble_eq_true rfl) (zdal_p dlA_Calc_reckon_155 (i := 18) rfl) ?_
                    rintro _ N43_ ⟨v44_, rfl, ⟨hv44_a, hv44_b⟩, hsN43_, hp0_N43_⟩
                    obtain rfl := hsN43_.eq.symm
                    replace hp0_N43_ : v44_ = 20 + ze N40_ (d_ + 33) 3 := hp0_N43_
                    show zW l m_Calc_reckon (zn Mz + 0, zw Mz + 0) N40_ 130 [some (.ref (d_ + 33)), some (.int (Int32.ofInt a0_)), some (.int (Int32.ofInt v14_)), some (.int (Int32.ofInt ((20 + ze N1_ (d_ + 33) 3)))), some (.int (Int32.ofInt 1))] [.int (Int32.ofInt v44_), .ref (d_ + 23), .ref (d_ + 33)] _
                    refine zr_toI (show v44_ = (19 + ze N1_ (d_ + 33) 3) by (exact zo_47 eD33_3_N17_ eD33_3_N40_ hc_12 hp0_N43_ hv44_b hvN19_)) ?_
                    refine zk_callV hf_N40_.x (pc := 130) [.int (Int32.ofInt ((19 + ze N1_ (d_ + 33) 3)))] [.ref (d_ + 33)] l_Calc_81 (u_Sums_isInBounds l d_ N40_ (hf_N40_.w hW) ((19 + ze N1_ (d_ + 33) 3)) (by (exact zo_37 hc_12)) (by (exact zo_38 hb_.2.2.1 hb_.2.2.2 q5_ rD33_3_N1_.2)) F_ K_ hA_ c42_ (show 0 ≤ ((19 + ze N1_ (d_ + 33) 3)) by first | with_reducible assumption | (exact zo_41 hc_12) | assumption) (show ((19 + ze N1_ (d_ + 33) 3)) ≤ 39 by first | with_reducible assumption | (exact zo_42 hb_.2.1 hb_.2.2.1 hb_.2.2.2 q5_) | assumption) (show zbd F_ K_ (zvc F_ d_ N40_ ((19 + ze N1_ (d_ + 33) 3))) by rw [hz_]; exact hbd_)) rfl rfl ((hf_N40_.w hW).kr (o := 23) (by decide)) (by decide) (by decide) (Nat.le_of_ble_eq_true rfl) (zdal_p dlA_Calc_reckon_155 (i := 19) rfl) ?_
                    rintro _ N45_ ⟨v46_, rfl, ⟨hv46_a, hv46_b⟩, hsN45_, hp0_N45_⟩
                    obtain rfl := hsN45_.eq.symm
                    replace hp0_N45_ : ((v46_ = 1 ∧ zfit F_ K_ (zvc F_ d_ N40_ ((19 + ze N1_ (d_ + 33) 3)))) ∨ (v46_ = 0 ∧ ¬ zfit F_ K_ (zvc F_ d_ N40_ ((19 + ze N1_ (d_ + 33) 3))))) := hp0_N45_
                    rcases hp0_N45_ with ⟨rfl, ha130_0_hp0_N45_⟩ | ⟨rfl, ha130_0_hp0_N45_⟩
                    · skip
                      have hi_ := ha130_0_hp0_N45_
                      rw [hz_] at hi_
                      show zW l m_Calc_reckon (zn Mz + 0, zw Mz + 0) N40_ 133 [some (.ref (d_ + 33)), some (.int (Int32.ofInt a0_)), some (.int (Int32.ofInt v14_)), some (.int (Int32.ofInt ((20 + ze N1_ (d_ + 33) 3)))), some (.int (Int32.ofInt 1))] [.int (Int32.ofInt 1), .ref (d_ + 33)] _
                      refine zr_if_eq (pc := 133) (tgt := 140) ⟨(by decide), (by decide)⟩ (by decide) (zdal_p dlA_Calc_reckon_155 (i := 20) rfl) (fun hc_133 => ?_) (fun hc_133 => ?_)
                      · skip
                        exact absurd hc_133 (by decide)
                      · skip
                        refine zw_iconst (pc := 136) (v := Int32.ofInt 1) (by decide) (zdal_p dlA_Calc_reckon_155 (i := 21) rfl) ?_
                        refine zw_goto (pc := 137) (tgt := 141) (by decide) (zdal_p dlA_Calc_reckon_155 (i := 22) rfl) ?_
                        refine zk_callV hf_N40_.x (pc := 141) [.int (Int32.ofInt 1)] [] l_Calc_85 (u_Calc_settle l d_ N40_ (hf_N40_.w hW) 1 (by decide) (by decide) (by (decide)) F_ K_ hA_ c42_ (show 1 ≤ ze N40_ (d_ + 33) 3 by first | with_reducible assumption | (exact zo_48 eD33_3_N17_ eD33_3_N40_ hc_12 hvN19_ rD33_3_N19_.1) | assumption) (show ze N40_ (d_ + 33) 3 ≤ 18 by first | with_reducible assumption | (exact zo_46 eD33_3_N17_ eD33_3_N40_ hb_.2.1 hb_.2.2.1 hb_.2.2.2 hvN19_ q5_) | assumption)) rfl rfl ((hf_N40_.w hW).kr (o := 33) (by decide)) (by decide) (by decide) (Nat.le_of_ble_eq_true rfl) d_Calc_reckon_141 ?_
                        rintro _ N47_ ⟨rfl, hsN47_, ⟨hp0_N47_, hp1_N47_⟩⟩
                        have hf_N47_ : zFc d_ [] [] [(33, 2), (33, 3), (33, 6)] [25, 27] Mz N47_ := hf_N40_.tr hsN47_ (by decide) (by decide) (by decide) (by decide)
                        have hb0_N47_ : zFc d_ [] [] [(33, 2), (33, 3), (33, 6)] [25, 27] Mz N47_ := hb0_N40_.tr hsN47_ (by decide) (by decide) (by decide) (by decide)
                        have eD33_2_N47_ : ze N47_ (d_ + 33) 2 = ze N40_ (d_ + 33) 2 := hsN47_.e (by decide)
                        have eD33_3_N47_ : ze N47_ (d_ + 33) 3 = ze N40_ (d_ + 33) 3 := hsN47_.e (by decide)
                        have eD33_4_N47_ : ze N47_ (d_ + 33) 4 = ze N40_ (d_ + 33) 4 := hsN47_.e (by decide)
                        have eD33_5_N47_ : ze N47_ (d_ + 33) 5 = ze N40_ (d_ + 33) 5 := hsN47_.e (by decide)
                        have rD33_6_N47_ := ze_r N47_ (d_ + 33) 6
                        have c49_ : zKm F_ K_ d_ N47_ := zKm.fr (hf_N40_.w hW) hsN47_ c42_ (by decide)
                        show zW l m_Calc_reckon (zn Mz + 0, zw Mz + 0) N47_ 144 [some (.ref (d_ + 33)), some (.int (Int32.ofInt a0_)), some (.int (Int32.ofInt v14_)), some (.int (Int32.ofInt ((20 + ze N1_ (d_ + 33) 3)))), some (.int (Int32.ofInt 1))] [] _
                        have ho0_ := hp0_N47_
                        have ho1_ := hp1_N47_
                        rw [show 20 + ze N40_ (d_ + 33) 3 = (19 + ze N1_ (d_ + 33) 3) by (exact zo_49 eD33_3_N17_ eD33_3_N40_ hc_12 hp0_N43_ hv44_b hvN19_)] at ho1_
                        have hok_ : zOk F_ d_ N19_ N47_ (19 + ze N1_ (d_ + 33) 3) (zop F_ K_ (zsgn v14_) (zvc F_ d_ N1_ (19 + ze N1_ (d_ + 33) 3)) (zvc F_ d_ N1_ (20 + ze N1_ (d_ + 33) 3))) ((zsgn v14_ = 4 → zmok F_ K_ (zvc F_ d_ N1_ (19 + ze N1_ (d_ + 33) 3)) (zvc F_ d_ N1_ (20 + ze N1_ (d_ + 33) 3))) ∧ zfit F_ K_ (zop F_ K_ (zsgn v14_) (zvc F_ d_ N1_ (19 + ze N1_ (d_ + 33) 3)) (zvc F_ d_ N1_ (20 + ze N1_ (d_ + 33) 3)))) := by first | exact zOk_1 hF27_ (by (exact zo_32 hc_12)) hsh_ hnr_ (by (exact eD33_6_N40_)) ⟨fun h4_ => by first | exact hm1_ | exact absurd h4_ (zDf_4 hfc_), hi_⟩ (ho0_ rfl).1 (ho0_ rfl).2 | exact zOk_2 hF27_ (by omega) hsh_ (fun q_ => hi_ q_.2) (ho1_ rfl).2 (zone_z 0) (ho1_ rfl).1 | exact zOk_3 hF27_ (by omega) hrw_ (fun q_ => hm0_ (q_.1 (by rw [hc4_]; rfl))) (ho1_ rfl).2 (zone_z 0) (ho1_ rfl).1
                        obtain ⟨r1_, r2_, r3_, r4_⟩ := zrk_st (F := F_) hci_ hcc_ (by (exact zo_1 hc_4)) htc_ (fun i => (hsN47_.r (by decide) i).trans ((hsN40_.r (by decide) i).trans ((hsN19_.r (by decide) i).trans (hsN17_.r (by decide) i)))) (by (exact zo_50 eD33_2_N19_ eD33_2_N40_ eD33_2_N47_ hc_4 hvN17_ rD33_2_N17_.2)) (by (exact zo_51 eD33_3_N17_ eD33_3_N40_ eD33_3_N47_ hc_12 hp0_N43_ hv44_b hvN19_)) (by (exact zo_52 eD33_4_N17_ eD33_4_N19_ eD33_4_N40_ eD33_4_N47_)) (by (exact zo_52 eD33_5_N17_ eD33_5_N19_ eD33_5_N40_ eD33_5_N47_)) (by (exact zo_53 eD33_6_N17_ eD33_6_N19_)) hv2_ rfl rfl Iff.rfl hok_
                        have hrk_ := zrk_b (show zrk F_ K_ (if a0_ = 0 then 2 else 4 : Nat) (zkS d_ Mz).length (zkS d_ Mz, zkW F_ d_ Mz, zkG d_ Mz) = zrk F_ K_ (if a0_ = 0 then 2 else 4 : Nat) (zkS d_ N1_).length (zkS d_ N1_, zkW F_ d_ N1_, zkG d_ N1_) by first | with_reducible assumption | assumption) r2_ (hXc_.resolve_left id) r3_
                        have hlw_ := (zLow.f hsN17_ (by decide)).tr ((zLow.f hsN19_ (by decide)).tr hok_.2.1)
                        refine zw_goto (pc := 144) (tgt := 0) (by decide) d_Calc_reckon_144 ?_
                        refine zW_le [some (.ref (d_ + 33)), some (.int (Int32.ofInt a0_)), none, none, none] (⟨rfl, rfl, trivial⟩) ?_
                        exact ih_0 N47_ hb0_N47_ r1_ (show (zkS d_ N47_).head? ≠ some 1 by exact r4_) (show zrk F_ K_ (if a0_ = 0 then 2 else 4 : Nat) (zkS d_ Mz).length (zkS d_ Mz, zkW F_ d_ Mz, zkG d_ Mz) = zrk F_ K_ (if a0_ = 0 then 2 else 4 : Nat) (zkS d_ N47_).length (zkS d_ N47_, zkW F_ d_ N47_, zkG d_ N47_) by exact hrk_) (show zLow d_ Mz N47_ by exact zLow.tr (by first | with_reducible assumption | assumption) hlw_) (by (exact zo_54 eD33_2_N19_ eD33_2_N40_ eD33_2_N47_ hc_4 hlt_0 hvN17_ q1_.2))
                    · skip
                      have hi_ := ha130_0_hp0_N45_
                      rw [hz_] at hi_
                      show zW l m_Calc_reckon (zn Mz + 0, zw Mz + 0) N40_ 133 [some (.ref (d_ + 33)), some (.int (Int32.ofInt a0_)), some (.int (Int32.ofInt v14_)), some (.int (Int32.ofInt ((20 + ze N1_ (d_ + 33) 3)))), some (.int (Int32.ofInt 1))] [.int (Int32.ofInt 0), .ref (d_ + 33)] _
                      refine zr_if_eq (pc := 133) (tgt := 140) ⟨(by decide), (by decide)⟩ (by decide) (zdal_p dlA_Calc_reckon_155 (i := 20) rfl) (fun hc_133 => ?_) (fun hc_133 => ?_)
                      · skip
                        refine zw_iconst (pc := 140) (v := Int32.ofInt 0) (by decide) (zdal_p dlA_Calc_reckon_155 (i := 23) rfl) ?_
                        refine zk_callV hf_N40_.x (pc := 141) [.int (Int32.ofInt 0)] [] l_Calc_85 (u_Calc_settle l d_ N40_ (hf_N40_.w hW) 0 (by decide) (by decide) (by (decide)) F_ K_ hA_ c42_ (show 1 ≤ ze N40_ (d_ + 33) 3 by first | with_reducible assumption | (exact zo_48 eD33_3_N17_ eD33_3_N40_ hc_12 hvN19_ rD33_3_N19_.1) | assumption) (show ze N40_ (d_ + 33) 3 ≤ 18 by first | with_reducible assumption | (exact zo_46 eD33_3_N17_ eD33_3_N40_ hb_.2.1 hb_.2.2.1 hb_.2.2.2 hvN19_ q5_) | assumption)) rfl rfl ((hf_N40_.w hW).kr (o := 33) (by decide)) (by decide) (by decide) (Nat.le_of_ble_eq_true rfl) d_Calc_reckon_141 ?_
                        rintro _ N50_ ⟨rfl, hsN50_, ⟨hp0_N50_, hp1_N50_⟩⟩
                        have hf_N50_ : zFc d_ [] [] [(33, 2), (33, 3), (33, 6)] [25, 27] Mz N50_ := hf_N40_.tr hsN50_ (by decide) (by decide) (by decide) (by decide)
                        have hb0_N50_ : zFc d_ [] [] [(33, 2), (33, 3), (33, 6)] [25, 27] Mz N50_ := hb0_N40_.tr hsN50_ (by decide) (by decide) (by decide) (by decide)
                        have eD33_2_N50_ : ze N50_ (d_ + 33) 2 = ze N40_ (d_ + 33) 2 := hsN50_.e (by decide)
                        have eD33_3_N50_ : ze N50_ (d_ + 33) 3 = ze N40_ (d_ + 33) 3 := hsN50_.e (by decide)
                        have eD33_4_N50_ : ze N50_ (d_ + 33) 4 = ze N40_ (d_ + 33) 4 := hsN50_.e (by decide)
                        have eD33_5_N50_ : ze N50_ (d_ + 33) 5 = ze N40_ (d_ + 33) 5 := hsN50_.e (by decide)
                        have rD33_6_N50_ := ze_r N50_ (d_ + 33) 6
                        have c52_ : zKm F_ K_ d_ N50_ := zKm.fr (hf_N40_.w hW) hsN50_ c42_ (by decide)
                        show zW l m_Calc_reckon (zn Mz + 0, zw Mz + 0) N50_ 144 [some (.ref (d_ + 33)), some (.int (Int32.ofInt a0_)), some (.int (Int32.ofInt v14_)), some (.int (Int32.ofInt ((20 + ze N1_ (d_ + 33) 3)))), some (.int (Int32.ofInt 1))] [] _
                        have ho0_ := hp0_N50_
                        have ho1_ := hp1_N50_
                        rw [show 20 + ze N40_ (d_ + 33) 3 = (19 + ze N1_ (d_ + 33) 3) by (exact zo_49 eD33_3_N17_ eD33_3_N40_ hc_12 hp0_N43_ hv44_b hvN19_)] at ho1_
                        have hok_ : zOk F_ d_ N19_ N50_ (19 + ze N1_ (d_ + 33) 3) (zop F_ K_ (zsgn v14_) (zvc F_ d_ N1_ (19 + ze N1_ (d_ + 33) 3)) (zvc F_ d_ N1_ (20 + ze N1_ (d_ + 33) 3))) ((zsgn v14_ = 4 → zmok F_ K_ (zvc F_ d_ N1_ (19 + ze N1_ (d_ + 33) 3)) (zvc F_ d_ N1_ (20 + ze N1_ (d_ + 33) 3))) ∧ zfit F_ K_ (zop F_ K_ (zsgn v14_) (zvc F_ d_ N1_ (19 + ze N1_ (d_ + 33) 3)) (zvc F_ d_ N1_ (20 + ze N1_ (d_ + 33) 3)))) := by first | exact zOk_1 hF27_ (by omega) hsh_ hnr_ (by omega) ⟨fun h4_ => by first | exact hm1_ | exact absurd h4_ (zDf_4 hfc_), hi_⟩ (ho0_ rfl).1 (ho0_ rfl).2 | exact zOk_2 hF27_ (by (exact zo_32 hc_12)) hsh_ (fun q_ => hi_ q_.2) (ho1_ rfl).2 (zone_z 0) (ho1_ rfl).1 | exact zOk_3 hF27_ (by omega) hrw_ (fun q_ => hm0_ (q_.1 (by rw [hc4_]; rfl))) (ho1_ rfl).2 (zone_z 0) (ho1_ rfl).1
                        obtain ⟨r1_, r2_, r3_, r4_⟩ := zrk_st (F := F_) hci_ hcc_ (by (exact zo_1 hc_4)) htc_ (fun i => (hsN50_.r (by decide) i).trans ((hsN40_.r (by decide) i).trans ((hsN19_.r (by decide) i).trans (hsN17_.r (by decide) i)))) (by (exact zo_50 eD33_2_N19_ eD33_2_N40_ eD33_2_N50_ hc_4 hvN17_ rD33_2_N17_.2)) (by (exact zo_51 eD33_3_N17_ eD33_3_N40_ eD33_3_N50_ hc_12 hp0_N43_ hv44_b hvN19_)) (by (exact zo_52 eD33_4_N17_ eD33_4_N19_ eD33_4_N40_ eD33_4_N50_)) (by (exact zo_52 eD33_5_N17_ eD33_5_N19_ eD33_5_N40_ eD33_5_N50_)) (by (exact zo_53 eD33_6_N17_ eD33_6_N19_)) hv2_ rfl rfl Iff.rfl hok_
                        have hrk_ := zrk_b (show zrk F_ K_ (if a0_ = 0 then 2 else 4 : Nat) (zkS d_ Mz).length (zkS d_ Mz, zkW F_ d_ Mz, zkG d_ Mz) = zrk F_ K_ (if a0_ = 0 then 2 else 4 : Nat) (zkS d_ N1_).length (zkS d_ N1_, zkW F_ d_ N1_, zkG d_ N1_) by first | with_reducible assumption | assumption) r2_ (hXc_.resolve_left id) r3_
                        have hlw_ := (zLow.f hsN17_ (by decide)).tr ((zLow.f hsN19_ (by decide)).tr hok_.2.1)
                        refine zw_goto (pc := 144) (tgt := 0) (by decide) d_Calc_reckon_144 ?_
                        refine zW_le [some (.ref (d_ + 33)), some (.int (Int32.ofInt a0_)), none, none, none] (⟨rfl, rfl, trivial⟩) ?_
                        exact ih_0 N50_ hb0_N50_ r1_ (show (zkS d_ N50_).head? ≠ some 1 by exact r4_) (show zrk F_ K_ (if a0_ = 0 then 2 else 4 : Nat) (zkS d_ Mz).length (zkS d_ Mz, zkW F_ d_ Mz, zkG d_ Mz) = zrk F_ K_ (if a0_ = 0 then 2 else 4 : Nat) (zkS d_ N50_).length (zkS d_ N50_, zkW F_ d_ N50_, zkG d_ N50_) by exact hrk_) (show zLow d_ Mz N50_ by exact zLow.tr (by first | with_reducible assumption | assumption) hlw_) (by (exact zo_54 eD33_2_N19_ eD33_2_N40_ eD33_2_N50_ hc_4 hlt_0 hvN17_ q1_.2))
                      · skip
                        exact absurd hc_133 (by decide)
                · skip
                  have hm0_ := ha85_0_hp0_N40_
                  have hrw_ := ha85_1_hp0_N40_
                  rw [hv2_, hv2_] at hm0_
                  have hc4_ : v14_ = 42 := by assumption
                  show zW l m_Calc_reckon (zn Mz + 0, zw Mz + 0) N40_ 88 [some (.ref (d_ + 33)), some (.int (Int32.ofInt a0_)), some (.int (Int32.ofInt v14_)), some (.int (Int32.ofInt ((20 + ze N1_ (d_ + 33) 3)))), some (.int (Int32.ofInt 1))] [.int (Int32.ofInt 0)] _
                  refine zw_istore (pc := 88) (i := 4) (L2 := [some (.ref (d_ + 33)), some (.int (Int32.ofInt a0_)), some (.int (Int32.ofInt v14_)), some (.int (Int32.ofInt ((20 + ze N1_ (d_ + 33) 3)))), some (.int (Int32.ofInt 0))]) (by decide) rfl (zdal_p dlA_Calc_reckon_154 (i := 22) rfl) ?_
                  refine zw_goto (pc := 90) (tgt := 116) (by decide) (zdal_p dlA_Calc_reckon_154 (i := 23) rfl) ?_
                  refine zw_aload_n (pc := 116) (n := 0) (x := (d_ + 33)) rfl (zdal_p dlA_Calc_reckon_155 (i := 12) rfl) ?_
                  refine zw_iload (pc := 117) (i := 4) (x := Int32.ofInt 0) rfl (zdal_p dlA_Calc_reckon_155 (i := 13) rfl) ?_
                  refine zr_if_eq (pc := 119) (tgt := 140) ⟨(by decide), (by decide)⟩ (by decide) (zdal_p dlA_Calc_reckon_155 (i := 14) rfl) (fun hc_119 => ?_) (fun hc_119 => ?_)
                  · skip
                    refine zw_iconst (pc := 140) (v := Int32.ofInt 0) (by decide) (zdal_p dlA_Calc_reckon_155 (i := 23) rfl) ?_
                    refine zk_callV hf_N40_.x (pc := 141) [.int (Int32.ofInt 0)] [] l_Calc_85 (u_Calc_settle l d_ N40_ (hf_N40_.w hW) 0 (by decide) (by decide) (by (decide)) F_ K_ hA_ c42_ (show 1 ≤ ze N40_ (d_ + 33) 3 by first | with_reducible assumption | (exact zo_48 eD33_3_N17_ eD33_3_N40_ hc_12 hvN19_ rD33_3_N19_.1) | assumption) (show ze N40_ (d_ + 33) 3 ≤ 18 by first | with_reducible assumption | (exact zo_46 eD33_3_N17_ eD33_3_N40_ hb_.2.1 hb_.2.2.1 hb_.2.2.2 hvN19_ q5_) | assumption)) rfl rfl ((hf_N40_.w hW).kr (o := 33) (by decide)) (by decide) (by decide) (Nat.le_of_ble_eq_true rfl) d_Calc_reckon_141 ?_
                    rintro _ N53_ ⟨rfl, hsN53_, ⟨hp0_N53_, hp1_N53_⟩⟩
                    have hf_N53_ : zFc d_ [] [] [(33, 2), (33, 3), (33, 6)] [25, 27] Mz N53_ := hf_N40_.tr hsN53_ (by decide) (by decide) (by decide) (by decide)
                    have hb0_N53_ : zFc d_ [] [] [(33, 2), (33, 3), (33, 6)] [25, 27] Mz N53_ := hb0_N40_.tr hsN53_ (by decide) (by decide) (by decide) (by decide)
                    have eD33_2_N53_ : ze N53_ (d_ + 33) 2 = ze N40_ (d_ + 33) 2 := hsN53_.e (by decide)
                    have eD33_3_N53_ : ze N53_ (d_ + 33) 3 = ze N40_ (d_ + 33) 3 := hsN53_.e (by decide)
                    have eD33_4_N53_ : ze N53_ (d_ + 33) 4 = ze N40_ (d_ + 33) 4 := hsN53_.e (by decide)
                    have eD33_5_N53_ : ze N53_ (d_ + 33) 5 = ze N40_ (d_ + 33) 5 := hsN53_.e (by decide)
                    have rD33_6_N53_ := ze_r N53_ (d_ + 33) 6
                    have c55_ : zKm F_ K_ d_ N53_ := zKm.fr (hf_N40_.w hW) hsN53_ c42_ (by decide)
                    show zW l m_Calc_reckon (zn Mz + 0, zw Mz + 0) N53_ 144 [some (.ref (d_ + 33)), some (.int (Int32.ofInt a0_)), some (.int (Int32.ofInt v14_)), some (.int (Int32.ofInt ((20 + ze N1_ (d_ + 33) 3)))), some (.int (Int32.ofInt 0))] [] _
                    have ho0_ := hp0_N53_
                    have ho1_ := hp1_N53_
                    rw [show 20 + ze N40_ (d_ + 33) 3 = (19 + ze N1_ (d_ + 33) 3) by (exact zo_55 eD33_3_N17_ eD33_3_N40_ hc_12 hvN19_ rD33_3_N19_.2)] at ho1_
                    have hok_ : zOk F_ d_ N19_ N53_ (19 + ze N1_ (d_ + 33) 3) (zop F_ K_ (zsgn v14_) (zvc F_ d_ N1_ (19 + ze N1_ (d_ + 33) 3)) (zvc F_ d_ N1_ (20 + ze N1_ (d_ + 33) 3))) ((zsgn v14_ = 4 → zmok F_ K_ (zvc F_ d_ N1_ (19 + ze N1_ (d_ + 33) 3)) (zvc F_ d_ N1_ (20 + ze N1_ (d_ + 33) 3))) ∧ zfit F_ K_ (zop F_ K_ (zsgn v14_) (zvc F_ d_ N1_ (19 + ze N1_ (d_ + 33) 3)) (zvc F_ d_ N1_ (20 + ze N1_ (d_ + 33) 3)))) := by first | exact zOk_1 hF27_ (by omega) hsh_ hnr_ (by omega) ⟨fun h4_ => by first | exact hm1_ | exact absurd h4_ (zDf_4 hfc_), hi_⟩ (ho0_ rfl).1 (ho0_ rfl).2 | exact zOk_2 hF27_ (by omega) hsh_ (fun q_ => hi_ q_.2) (ho1_ rfl).2 (zone_z 0) (ho1_ rfl).1 | exact zOk_3 hF27_ (by (exact zo_32 hc_12)) hrw_ (fun q_ => hm0_ (q_.1 (by rw [hc4_]; rfl))) (ho1_ rfl).2 (zone_z 0) (ho1_ rfl).1
                    obtain ⟨r1_, r2_, r3_, r4_⟩ := zrk_st (F := F_) hci_ hcc_ (by (exact zo_1 hc_4)) htc_ (fun i => (hsN53_.r (by decide) i).trans ((hsN40_.r (by decide) i).trans ((hsN19_.r (by decide) i).trans (hsN17_.r (by decide) i)))) (by (exact zo_50 eD33_2_N19_ eD33_2_N40_ eD33_2_N53_ hc_4 hvN17_ rD33_2_N17_.2)) (by (exact zo_56 eD33_3_N17_ eD33_3_N40_ eD33_3_N53_ hc_12 hvN19_ rD33_3_N19_.2)) (by (exact zo_52 eD33_4_N17_ eD33_4_N19_ eD33_4_N40_ eD33_4_N53_)) (by (exact zo_52 eD33_5_N17_ eD33_5_N19_ eD33_5_N40_ eD33_5_N53_)) (by (exact zo_53 eD33_6_N17_ eD33_6_N19_)) hv2_ rfl rfl Iff.rfl hok_
                    have hrk_ := zrk_b (show zrk F_ K_ (if a0_ = 0 then 2 else 4 : Nat) (zkS d_ Mz).length (zkS d_ Mz, zkW F_ d_ Mz, zkG d_ Mz) = zrk F_ K_ (if a0_ = 0 then 2 else 4 : Nat) (zkS d_ N1_).length (zkS d_ N1_, zkW F_ d_ N1_, zkG d_ N1_) by first | with_reducible assumption | assumption) r2_ (hXc_.resolve_left id) r3_
                    have hlw_ := (zLow.f hsN17_ (by decide)).tr ((zLow.f hsN19_ (by decide)).tr hok_.2.1)
                    refine zw_goto (pc := 144) (tgt := 0) (by decide) d_Calc_reckon_144 ?_
                    refine zW_le [some (.ref (d_ + 33)), some (.int (Int32.ofInt a0_)), none, none, none] (⟨rfl, rfl, trivial⟩) ?_
                    exact ih_0 N53_ hb0_N53_ r1_ (show (zkS d_ N53_).head? ≠ some 1 by exact r4_) (show zrk F_ K_ (if a0_ = 0 then 2 else 4 : Nat) (zkS d_ Mz).length (zkS d_ Mz, zkW F_ d_ Mz, zkG d_ Mz) = zrk F_ K_ (if a0_ = 0 then 2 else 4 : Nat) (zkS d_ N53_).length (zkS d_ N53_, zkW F_ d_ N53_, zkG d_ N53_) by exact hrk_) (show zLow d_ Mz N53_ by exact zLow.tr (by first | with_reducible assumption | assumption) hlw_) (by (exact zo_54 eD33_2_N19_ eD33_2_N40_ eD33_2_N53_ hc_4 hlt_0 hvN17_ q1_.2))
                  · skip
                    exact absurd hc_119 (by decide)
            refine zr_icmp_eq (pc := 30) (tgt := 37) ⟨hv11_a, hv11_b⟩ ⟨(by decide), (by decide)⟩ (by decide) (zdal_p dlA_Calc_reckon_153 (i := 14) rfl) (fun hc_30 => ?_) (fun hc_30 => ?_)
            · skip
              exact j_37 (show zDj (ze N1_ (d_ + 35) (ze N1_ (d_ + 33) 2 - 1).toNat = 42) (a0_ = 0) by first | (refine Or.inl ?_; rw [← htb_]; assumption) | (refine Or.inr ?_; assumption))
            · skip
              refine zw_iload_n (pc := 33) (n := 1) (x := Int32.ofInt a0_) rfl (zdal_p dlA_Calc_reckon_153 (i := 15) rfl) ?_
              refine zr_if_ne (pc := 34) (tgt := 147) ⟨ha0_a, ha0_b⟩ (by decide) (zdal_p dlA_Calc_reckon_153 (i := 16) rfl) (fun hc_34 => ?_) (fun hc_34 => ?_)
              · skip
                have hx_ : (∀ y, (zkS d_ N1_).head? = some y → y < (if a0_ = 0 then 2 else 4 : Nat)) := by first | (intro y_ hy_; rw [zkS_0 (d := d_) (Mz := N1_) (by first | with_reducible assumption | assumption)] at hy_; cases hy_) | (have hv1_ : ze N1_ (d_ + 33) 3 ≤ 1 := (by first | with_reducible assumption | assumption); intro y_ hy_; have h_ := zbn_h (show zbn (zkS d_ N1_) = 0 by omega) hy_; split <;> omega) | (intro y_ hy_; rw [zkS_h (d := d_) (Mz := N1_) (by (exact zo_1 hc_4)) ht_, hc_21] at hy_; injection hy_ with hy_; rw [← hy_]; split <;> decide) | (intro y_ hy_; rw [zkS_h (d := d_) (Mz := N1_) (by (exact zo_1 hc_4)) htb_] at hy_; injection hy_ with hy_; rw [if_neg (by first | with_reducible assumption | assumption), ← hy_]; exact zsgn_l4 (by rw [htb_]; exact q2_ _ (by (exact zo_2 hc_4))) (by first | with_reducible assumption | assumption))
                have he_ := zrk_e (F := F_) (K := K_) (x := (if a0_ = 0 then 2 else 4 : Nat)) (t := (zkS d_ N1_, zkW F_ d_ N1_, zkG d_ N1_)) hx_ (zkS d_ N1_).length
                rw [← (show zrk F_ K_ (if a0_ = 0 then 2 else 4 : Nat) (zkS d_ Mz).length (zkS d_ Mz, zkW F_ d_ Mz, zkG d_ Mz) = zrk F_ K_ (if a0_ = 0 then 2 else 4 : Nat) (zkS d_ N1_).length (zkS d_ N1_, zkW F_ d_ N1_, zkG d_ N1_) by first | with_reducible assumption | assumption)] at he_
                exact zk_vret (pc := 147) rfl hf_N1_ ⟨i3_, (show (zkS d_ N1_, zkW F_ d_ N1_, zkG d_ N1_) = zrk F_ K_ (if a0_ = 0 then 2 else 4 : Nat) (zkS d_ Mz).length (zkS d_ Mz, zkW F_ d_ Mz, zkG d_ Mz) by exact he_.symm), (show zLow d_ Mz N1_ by first | with_reducible assumption | assumption | omega), (show (zkS d_ N1_).head? ≠ some 1 by first | with_reducible assumption | assumption | omega), (show (∀ y, (zkS d_ N1_).head? = some y → y < (if a0_ = 0 then 2 else 4 : Nat)) by exact hx_)⟩ (zdal_p dlA_Calc_reckon_156 (i := 2) rfl)
              · skip
                exact j_37 (show zDj (ze N1_ (d_ + 35) (ze N1_ (d_ + 33) 2 - 1).toNat = 42) (a0_ = 0) by first | (refine Or.inl ?_; rw [← htb_]; assumption) | (refine Or.inr ?_; assumption))
  exact lp_0 _ Mz zFc.rf p1_ (show (zkS d_ Mz).head? ≠ some 1 by first | with_reducible assumption | assumption | omega) (show zrk F_ K_ (if a0_ = 0 then 2 else 4 : Nat) (zkS d_ Mz).length (zkS d_ Mz, zkW F_ d_ Mz, zkG d_ Mz) = zrk F_ K_ (if a0_ = 0 then 2 else 4 : Nat) (zkS d_ Mz).length (zkS d_ Mz, zkW F_ d_ Mz, zkG d_ Mz) by rfl) (show zLow d_ Mz Mz by exact zLow.rf) (Nat.lt_succ_self _)
set_option maxHeartbeats 4000000 in
theorem u_Calc_put (l : Launch) (d_ : Nat) (Mz : zMem) (hW : zKW d_ Mz) (a0_ : Int) (ha0_a : -2147483648 ≤ a0_) (ha0_b : a0_ < 2147483648) (F_ : Nat) (K_ : Nat → Nat → Int) (hA_ : zTA F_ K_) (p0_ : zKm F_ K_ d_ Mz) (p1_ : zCI F_ K_ d_ 1 Mz) (p2_ : (zkS d_ Mz).head? ≠ some 1) (p3_ : (a0_ = 42 ∨ a0_ = 43 ∨ a0_ = 45)) : zC l m_Calc_put 0 0 [.ref (d_ + 33), .int (Int32.ofInt a0_)] Mz (zqcV d_ [] [] [(33, 2), (33, 3), (33, 6)] [25, 27, 35] Mz (fun N => zCI F_ K_ d_ 0 N ∧ zkS d_ N = zsgn a0_ :: (zrk F_ K_ (if a0_ = 42 then 4 else 2 : Nat) (zkS d_ Mz).length (zkS d_ Mz, zkW F_ d_ Mz, zkG d_ Mz)).1 ∧ zkW F_ d_ N = (zrk F_ K_ (if a0_ = 42 then 4 else 2 : Nat) (zkS d_ Mz).length (zkS d_ Mz, zkW F_ d_ Mz, zkG d_ Mz)).2.1 ∧ zkG d_ N = (zrk F_ K_ (if a0_ = 42 then 4 else 2 : Nat) (zkS d_ Mz).length (zkS d_ Mz, zkW F_ d_ Mz, zkG d_ Mz)).2.2 ∧ zLow d_ Mz N)) := by
  refine zC_of (L0 := [some (.ref (d_ + 33)), some (.int (Int32.ofInt a0_))]) md_Calc_put (Nat.le_of_ble_eq_true rfl) rfl ?_ zQ0
  have hf : zFc d_ [] [] [(33, 2), (33, 3), (33, 6)] [25, 27, 35] Mz Mz := zFc.rf
  have r_D33_2 := ze_r Mz (d_ + 33) 2
  have r_D33_3 := ze_r Mz (d_ + 33) 3
  have r_D33_4 := ze_r Mz (d_ + 33) 4
  have r_D33_5 := ze_r Mz (d_ + 33) 5
  have r_D33_6 := ze_r Mz (d_ + 33) 6
  obtain ⟨⟨hF1_, hF27_⟩, hAr_⟩ := id hA_
  obtain ⟨hFc_, hKt_⟩ := id p0_
  refine zw_aload_n (pc := 0) (n := 0) (x := (d_ + 33)) rfl (zdal_p dlA_Calc_put_160 (i := 0) rfl) ?_
  refine zw_iload_n (pc := 1) (n := 1) (x := Int32.ofInt a0_) rfl (zdal_p dlA_Calc_put_160 (i := 1) rfl) ?_
  refine zw_bipush (pc := 2) (v := Int32.ofInt 42) (by decide) (zdal_p dlA_Calc_put_160 (i := 2) rfl) ?_
  refine zr_icmp_ne (pc := 4) (tgt := 11) ⟨ha0_a, ha0_b⟩ ⟨(by decide), (by decide)⟩ (by decide) (zdal_p dlA_Calc_put_160 (i := 3) rfl) (fun hc_4 => ?_) (fun hc_4 => ?_)
  · skip
    refine zw_iconst (pc := 11) (v := Int32.ofInt 0) (by decide) (zdal_p dlA_Calc_put_160 (i := 6) rfl) ?_
    refine zk_callV hf.x (pc := 12) [.int (Int32.ofInt 0)] [] l_Calc_95 (u_Calc_reckon l d_ Mz (hf.w hW) 0 (by decide) (by decide) (by (decide)) F_ K_ hA_ p0_ p1_ (show (zkS d_ Mz).head? ≠ some 1 by first | with_reducible assumption | assumption | omega)) rfl rfl ((hf.w hW).kr (o := 33) (by decide)) (by decide) (by decide) (Nat.le_of_ble_eq_true rfl) (zdal_p dlA_Calc_put_160 (i := 7) rfl) ?_
    rintro _ N1_ ⟨rfl, hsN1_, ⟨hp0_N1_, hp1_N1_, hp2_N1_, hp3_N1_, hp4_N1_⟩⟩
    have hf_N1_ : zFc d_ [] [] [(33, 2), (33, 3), (33, 6)] [25, 27, 35] Mz N1_ := hf.tr hsN1_ (by decide) (by decide) (by decide) (by decide)
    have rD33_2_N1_ := ze_r N1_ (d_ + 33) 2
    have rD33_3_N1_ := ze_r N1_ (d_ + 33) 3
    have eD33_4_N1_ : ze N1_ (d_ + 33) 4 = ze Mz (d_ + 33) 4 := hsN1_.e (by decide)
    have eD33_5_N1_ : ze N1_ (d_ + 33) 5 = ze Mz (d_ + 33) 5 := hsN1_.e (by decide)
    have rD33_6_N1_ := ze_r N1_ (d_ + 33) 6
    show zW l m_Calc_put (zn Mz + 0, zw Mz + 0) N1_ 15 [some (.ref (d_ + 33)), some (.int (Int32.ofInt a0_))] [] _
    have hci_ := hp0_N1_
    have hb_ := hci_.b
    obtain ⟨q1_, q2_, q3_, q4_, q5_, q6_, q7_, q8_, q9_⟩ := id hci_
    have hT_ := hp1_N1_
    have hl_ := hp2_N1_
    have hd_ := hp3_N1_
    have hxx_ := hp4_N1_
    first | rw [if_neg (by decide : ¬ (1 : Int) = 0)] at hT_ hxx_ | rw [if_pos (rfl : (0 : Int) = 0)] at hT_ hxx_
    have hwp_ : ∀ y, (zkS d_ N1_).head? = some y → zwp (zsgn a0_) y := fun y_ hy_ => by have g_ := hxx_ y_ hy_; have g1_ : y_ ≠ 1 := fun e_ => hd_ (by rw [hy_, e_]); first | (rw [show a0_ = 42 by omega]; exact zwp_4 g_ g1_) | exact zwp_2 (by omega) g_ g1_
    refine zw_aload_n (pc := 15) (n := 0) (x := (d_ + 33)) rfl (zdal_p dlA_Calc_put_160 (i := 8) rfl) ?_
    refine zw_iload_n (pc := 16) (n := 1) (x := Int32.ofInt a0_) rfl (zdal_p dlA_Calc_put_160 (i := 9) rfl) ?_
    refine zk_callV hf_N1_.x (pc := 17) [.int (Int32.ofInt a0_)] [] l_Calc_55 (u_Calc_pushSign l d_ N1_ (hf_N1_.w hW) a0_ ha0_a ha0_b (show 0 ≤ ze N1_ (d_ + 33) 2 by first | with_reducible assumption | (exact zo_57 q1_.1) | assumption) (show ze N1_ (d_ + 33) 2 ≤ 23 by first | with_reducible assumption | (exact zo_58 hb_.1 hb_.2.2.2 q1_.2) | assumption)) rfl rfl ((hf_N1_.w hW).kr (o := 33) (by decide)) (by decide) (by decide) (Nat.le_of_ble_eq_true rfl) (zdal_p dlA_Calc_put_160 (i := 10) rfl) ?_
    rintro _ N4_ ⟨rfl, hsN4_, ⟨hp0_N4_, hp1_N4_, hp2_N4_⟩⟩
    have hf_N4_ : zFc d_ [] [] [(33, 2), (33, 3), (33, 6)] [25, 27, 35] Mz N4_ := hf_N1_.tr hsN4_ (by decide) (by decide) (by decide) (by decide)
    have rD33_2_N4_ := ze_r N4_ (d_ + 33) 2
    have eD33_3_N4_ : ze N4_ (d_ + 33) 3 = ze N1_ (d_ + 33) 3 := hsN4_.e (by decide)
    have eD33_4_N4_ : ze N4_ (d_ + 33) 4 = ze N1_ (d_ + 33) 4 := hsN4_.e (by decide)
    have eD33_5_N4_ : ze N4_ (d_ + 33) 5 = ze N1_ (d_ + 33) 5 := hsN4_.e (by decide)
    have eD33_6_N4_ : ze N4_ (d_ + 33) 6 = ze N1_ (d_ + 33) 6 := hsN4_.e (by decide)
    show zW l m_Calc_put (zn Mz + 0, zw Mz + 0) N4_ 20 [some (.ref (d_ + 33)), some (.int (Int32.ofInt a0_))] [] _
    have hf_ := zCI_bs (F := F_) (Nz := N4_) hci_ (show _ by (exact p3_)) hwp_ hp0_N4_ hp1_N4_ hp2_N4_ (by (exact eD33_3_N4_)) (by (exact eD33_4_N4_)) (by (exact eD33_5_N4_)) (by (exact eD33_6_N4_)) (fun t => zvc_f hsN4_ (by decide) t)
    obtain ⟨r1_, r2_, r3_, r4_⟩ := hf_
    exact zk_vret (pc := 20) rfl hf_N4_ ⟨r1_, (show zkS d_ N4_ = zsgn a0_ :: (zrk F_ K_ (if a0_ = 42 then 4 else 2 : Nat) (zkS d_ Mz).length (zkS d_ Mz, zkW F_ d_ Mz, zkG d_ Mz)).1 by (first | rw [if_pos (show a0_ = 42 by omega)] | rw [if_neg (show ¬ a0_ = 42 by (exact zo_59 hc_4))]); rw [← hT_]; exact r2_), (show zkW F_ d_ N4_ = (zrk F_ K_ (if a0_ = 42 then 4 else 2 : Nat) (zkS d_ Mz).length (zkS d_ Mz, zkW F_ d_ Mz, zkG d_ Mz)).2.1 by (first | rw [if_pos (show a0_ = 42 by omega)] | rw [if_neg (show ¬ a0_ = 42 by (exact zo_59 hc_4))]); rw [← hT_]; exact r3_), (show zkG d_ N4_ = (zrk F_ K_ (if a0_ = 42 then 4 else 2 : Nat) (zkS d_ Mz).length (zkS d_ Mz, zkW F_ d_ Mz, zkG d_ Mz)).2.2 by (first | rw [if_pos (show a0_ = 42 by omega)] | rw [if_neg (show ¬ a0_ = 42 by (exact zo_59 hc_4))]); rw [← hT_]; exact r4_), (show zLow d_ Mz N4_ by exact hl_.tr (zLow.f hsN4_ (by decide)))⟩ (zdal_p dlA_Calc_put_160 (i := 11) rfl)
  · skip
    refine zw_iconst (pc := 7) (v := Int32.ofInt 1) (by decide) (zdal_p dlA_Calc_put_160 (i := 4) rfl) ?_
    refine zw_goto (pc := 8) (tgt := 12) (by decide) (zdal_p dlA_Calc_put_160 (i := 5) rfl) ?_
    refine zk_callV hf.x (pc := 12) [.int (Int32.ofInt 1)] [] l_Calc_95 (u_Calc_reckon l d_ Mz (hf.w hW) 1 (by decide) (by decide) (by (decide)) F_ K_ hA_ p0_ p1_ (show (zkS d_ Mz).head? ≠ some 1 by first | with_reducible assumption | assumption | omega)) rfl rfl ((hf.w hW).kr (o := 33) (by decide)) (by decide) (by decide) (Nat.le_of_ble_eq_true rfl) (zdal_p dlA_Calc_put_160 (i := 7) rfl) ?_
    rintro _ N7_ ⟨rfl, hsN7_, ⟨hp0_N7_, hp1_N7_, hp2_N7_, hp3_N7_, hp4_N7_⟩⟩
    have hf_N7_ : zFc d_ [] [] [(33, 2), (33, 3), (33, 6)] [25, 27, 35] Mz N7_ := hf.tr hsN7_ (by decide) (by decide) (by decide) (by decide)
    have rD33_2_N7_ := ze_r N7_ (d_ + 33) 2
    have rD33_3_N7_ := ze_r N7_ (d_ + 33) 3
    have eD33_4_N7_ : ze N7_ (d_ + 33) 4 = ze Mz (d_ + 33) 4 := hsN7_.e (by decide)
    have eD33_5_N7_ : ze N7_ (d_ + 33) 5 = ze Mz (d_ + 33) 5 := hsN7_.e (by decide)
    have rD33_6_N7_ := ze_r N7_ (d_ + 33) 6
    show zW l m_Calc_put (zn Mz + 0, zw Mz + 0) N7_ 15 [some (.ref (d_ + 33)), some (.int (Int32.ofInt a0_))] [] _
    have hci_ := hp0_N7_
    have hb_ := hci_.b
    obtain ⟨q1_, q2_, q3_, q4_, q5_, q6_, q7_, q8_, q9_⟩ := id hci_
    have hT_ := hp1_N7_
    have hl_ := hp2_N7_
    have hd_ := hp3_N7_
    have hxx_ := hp4_N7_
    first | rw [if_neg (by decide : ¬ (1 : Int) = 0)] at hT_ hxx_ | rw [if_pos (rfl : (0 : Int) = 0)] at hT_ hxx_
    have hwp_ : ∀ y, (zkS d_ N7_).head? = some y → zwp (zsgn a0_) y := fun y_ hy_ => by have g_ := hxx_ y_ hy_; have g1_ : y_ ≠ 1 := fun e_ => hd_ (by rw [hy_, e_]); first | (rw [show a0_ = 42 by (exact hc_4)]; exact zwp_4 g_ g1_) | exact zwp_2 (by omega) g_ g1_
    refine zw_aload_n (pc := 15) (n := 0) (x := (d_ + 33)) rfl (zdal_p dlA_Calc_put_160 (i := 8) rfl) ?_
    refine zw_iload_n (pc := 16) (n := 1) (x := Int32.ofInt a0_) rfl (zdal_p dlA_Calc_put_160 (i := 9) rfl) ?_
    refine zk_callV hf_N7_.x (pc := 17) [.int (Int32.ofInt a0_)] [] l_Calc_55 (u_Calc_pushSign l d_ N7_ (hf_N7_.w hW) a0_ ha0_a ha0_b (show 0 ≤ ze N7_ (d_ + 33) 2 by first | with_reducible assumption | (exact zo_57 q1_.1) | assumption) (show ze N7_ (d_ + 33) 2 ≤ 23 by first | with_reducible assumption | (exact zo_58 hb_.1 hb_.2.2.2 q1_.2) | assumption)) rfl rfl ((hf_N7_.w hW).kr (o := 33) (by decide)) (by decide) (by decide) (Nat.le_of_ble_eq_true rfl) (zdal_p dlA_Calc_put_160 (i := 10) rfl) ?_
    rintro _ N10_ ⟨rfl, hsN10_, ⟨hp0_N10_, hp1_N10_, hp2_N10_⟩⟩
    have hf_N10_ : zFc d_ [] [] [(33, 2), (33, 3), (33, 6)] [25, 27, 35] Mz N10_ := hf_N7_.tr hsN10_ (by decide) (by decide) (by decide) (by decide)
    have rD33_2_N10_ := ze_r N10_ (d_ + 33) 2
    have eD33_3_N10_ : ze N10_ (d_ + 33) 3 = ze N7_ (d_ + 33) 3 := hsN10_.e (by decide)
    have eD33_4_N10_ : ze N10_ (d_ + 33) 4 = ze N7_ (d_ + 33) 4 := hsN10_.e (by decide)
    have eD33_5_N10_ : ze N10_ (d_ + 33) 5 = ze N7_ (d_ + 33) 5 := hsN10_.e (by decide)
    have eD33_6_N10_ : ze N10_ (d_ + 33) 6 = ze N7_ (d_ + 33) 6 := hsN10_.e (by decide)
    show zW l m_Calc_put (zn Mz + 0, zw Mz + 0) N10_ 20 [some (.ref (d_ + 33)), some (.int (Int32.ofInt a0_))] [] _
    have hf_ := zCI_bs (F := F_) (Nz := N10_) hci_ (show _ by (exact p3_)) hwp_ hp0_N10_ hp1_N10_ hp2_N10_ (by (exact eD33_3_N10_)) (by (exact eD33_4_N10_)) (by (exact eD33_5_N10_)) (by (exact eD33_6_N10_)) (fun t => zvc_f hsN10_ (by decide) t)
    obtain ⟨r1_, r2_, r3_, r4_⟩ := hf_
    exact zk_vret (pc := 20) rfl hf_N10_ ⟨r1_, (show zkS d_ N10_ = zsgn a0_ :: (zrk F_ K_ (if a0_ = 42 then 4 else 2 : Nat) (zkS d_ Mz).length (zkS d_ Mz, zkW F_ d_ Mz, zkG d_ Mz)).1 by (first | rw [if_pos (show a0_ = 42 by (exact hc_4))] | rw [if_neg (show ¬ a0_ = 42 by omega)]); rw [← hT_]; exact r2_), (show zkW F_ d_ N10_ = (zrk F_ K_ (if a0_ = 42 then 4 else 2 : Nat) (zkS d_ Mz).length (zkS d_ Mz, zkW F_ d_ Mz, zkG d_ Mz)).2.1 by (first | rw [if_pos (show a0_ = 42 by (exact hc_4))] | rw [if_neg (show ¬ a0_ = 42 by omega)]); rw [← hT_]; exact r3_), (show zkG d_ N10_ = (zrk F_ K_ (if a0_ = 42 then 4 else 2 : Nat) (zkS d_ Mz).length (zkS d_ Mz, zkW F_ d_ Mz, zkG d_ Mz)).2.2 by (first | rw [if_pos (show a0_ = 42 by (exact hc_4))] | rw [if_neg (show ¬ a0_ = 42 by omega)]); rw [← hT_]; exact r4_), (show zLow d_ Mz N10_ by exact hl_.tr (zLow.f hsN10_ (by decide)))⟩ (zdal_p dlA_Calc_put_160 (i := 11) rfl)
set_option maxHeartbeats 4000000 in
theorem u_Calc_close (l : Launch) (d_ : Nat) (Mz : zMem) (hW : zKW d_ Mz) (F_ : Nat) (K_ : Nat → Nat → Int) (hA_ : zTA F_ K_) (p0_ : zCI F_ K_ d_ 1 Mz) (p1_ : (zkS d_ Mz).head? = some 0) : zC l m_Calc_close 0 0 [.ref (d_ + 33)] Mz (zqcV d_ [] [] [(33, 2), (33, 4), (33, 5)] [] Mz (fun N => zCI F_ K_ d_ 1 N ∧ zkS d_ N = (zkS d_ Mz).tail ∧ zkW F_ d_ N = zkW F_ d_ Mz ∧ zkG d_ N = zkG d_ Mz)) := by
  refine zC_of (L0 := [some (.ref (d_ + 33))]) md_Calc_close (Nat.le_of_ble_eq_true rfl) rfl ?_ zQ0
  have hf : zFc d_ [] [] [(33, 2), (33, 4), (33, 5)] [] Mz Mz := zFc.rf
  have r_D33_2 := ze_r Mz (d_ + 33) 2
  have r_D33_3 := ze_r Mz (d_ + 33) 3
  have r_D33_4 := ze_r Mz (d_ + 33) 4
  have r_D33_5 := ze_r Mz (d_ + 33) 5
  have r_D33_6 := ze_r Mz (d_ + 33) 6
  obtain ⟨⟨hF1_, hF27_⟩, hAr_⟩ := id hA_
  have hb_ := p0_.b
  have hz0_ := zop0_le (zkS d_ Mz)
  obtain ⟨q1_, q2_, q3_, q4_, q5_, q6_, q7_, q8_, q9_⟩ := id p0_
  obtain ⟨h1_, h2_⟩ := zkS_h1 p1_
  have h40_ := zsgn_0 (q2_ _ (by (exact zo_60 h1_))) h2_
  refine zw_aload_n (pc := 0) (n := 0) (x := (d_ + 33)) rfl (zdal_p dlA_Calc_close_159 (i := 0) rfl) ?_
  refine zk_getI (pc := 1) f_Calc_24 rfl ((hf.w hW).kr (o := 33) (by decide)) (zdal_p dlA_Calc_close_159 (i := 1) rfl) ?_
  refine zr_if_le (pc := 4) (tgt := 37) ⟨(ze_r Mz (d_ + 33) 2).1, (ze_r Mz (d_ + 33) 2).2⟩ (by decide) (zdal_p dlA_Calc_close_159 (i := 2) rfl) (fun hc_4 => ?_) (fun hc_4 => ?_)
  · skip
    exact zk_vret (pc := 37) rfl hf ⟨p0_, (show zkS d_ Mz = (zkS d_ Mz).tail by first | (exfalso; (exact zo_61 h1_ hc_4)) | (rw [r2_]; rfl)), (show zkW F_ d_ Mz = zkW F_ d_ Mz by exact zkW_f (by (exact zo_62)) (zkV_f (by (exact zo_62)) (fun t _ _ => zvc_f hf (by decide) t))), (show zkG d_ Mz = zkG d_ Mz by exact zkG_f (by (exact zo_62)))⟩ (zdal_p dlA_Calc_close_159 (i := 21) rfl)
  · skip
    refine zw_aload_n (pc := 7) (n := 0) (x := (d_ + 33)) rfl (zdal_p dlA_Calc_close_159 (i := 3) rfl) ?_
    refine zw_dup (pc := 8) rfl (zdal_p dlA_Calc_close_159 (i := 4) rfl) ?_
    refine zk_getI (pc := 9) f_Calc_24 rfl ((hf.w hW).kr (o := 33) (by decide)) (zdal_p dlA_Calc_close_159 (i := 5) rfl) ?_
    refine zw_iconst (pc := 12) (v := Int32.ofInt 1) (by decide) (zdal_p dlA_Calc_close_159 (i := 6) rfl) ?_
    refine zr_isub (pc := 13) (zdal_p dlA_Calc_close_159 (i := 7) rfl) ?_
    refine zk_putR (pc := 14) (o := 33) (by decide) f_Calc_24 rfl rfl ((hf.w hW).kr (o := 33) (by decide)) ⟨by (exact zo_63 h1_), by (exact zo_4 q1_.2)⟩ rfl rfl (zdal_p dlA_Calc_close_159 (i := 8) rfl) (fun N1_ hsN1_ hvN1_ => ?_)
    have hf_N1_ : zFc d_ [] [] [(33, 2), (33, 4), (33, 5)] [] Mz N1_ := hf.tr hsN1_ (by decide) (by decide) (by decide) (by decide)
    have rD33_2_N1_ := ze_r N1_ (d_ + 33) 2
    have eD33_3_N1_ : ze N1_ (d_ + 33) 3 = ze Mz (d_ + 33) 3 := hsN1_.e (by decide)
    have eD33_4_N1_ : ze N1_ (d_ + 33) 4 = ze Mz (d_ + 33) 4 := hsN1_.e (by decide)
    have eD33_5_N1_ : ze N1_ (d_ + 33) 5 = ze Mz (d_ + 33) 5 := hsN1_.e (by decide)
    have eD33_6_N1_ : ze N1_ (d_ + 33) 6 = ze Mz (d_ + 33) 6 := hsN1_.e (by decide)
    refine zw_aload_n (pc := 17) (n := 0) (x := (d_ + 33)) rfl (zdal_p dlA_Calc_close_159 (i := 9) rfl) ?_
    refine zw_dup (pc := 18) rfl (zdal_p dlA_Calc_close_159 (i := 10) rfl) ?_
    refine zk_getI (pc := 19) f_Calc_31 rfl ((hf_N1_.w hW).kr (o := 33) (by decide)) (zdal_p dlA_Calc_close_159 (i := 11) rfl) ?_
    refine zw_iconst (pc := 22) (v := Int32.ofInt 1) (by decide) (zdal_p dlA_Calc_close_159 (i := 12) rfl) ?_
    refine zr_isub (pc := 23) (zdal_p dlA_Calc_close_159 (i := 13) rfl) ?_
    refine zk_putR (pc := 24) (o := 33) (by decide) f_Calc_31 rfl rfl ((hf_N1_.w hW).kr (o := 33) (by decide)) ⟨by (exact zo_5 eD33_4_N1_ q3_ r_D33_4.1), by (exact zo_6 eD33_4_N1_ r_D33_4.2)⟩ rfl rfl (zdal_p dlA_Calc_close_159 (i := 14) rfl) (fun N2_ hsN2_ hvN2_ => ?_)
    have hf_N2_ : zFc d_ [] [] [(33, 2), (33, 4), (33, 5)] [] Mz N2_ := hf_N1_.tr hsN2_ (by decide) (by decide) (by decide) (by decide)
    have eD33_2_N2_ : ze N2_ (d_ + 33) 2 = ze N1_ (d_ + 33) 2 := hsN2_.e (by decide)
    have eD33_3_N2_ : ze N2_ (d_ + 33) 3 = ze N1_ (d_ + 33) 3 := hsN2_.e (by decide)
    have rD33_4_N2_ := ze_r N2_ (d_ + 33) 4
    have eD33_5_N2_ : ze N2_ (d_ + 33) 5 = ze N1_ (d_ + 33) 5 := hsN2_.e (by decide)
    have eD33_6_N2_ : ze N2_ (d_ + 33) 6 = ze N1_ (d_ + 33) 6 := hsN2_.e (by decide)
    refine zw_aload_n (pc := 27) (n := 0) (x := (d_ + 33)) rfl (zdal_p dlA_Calc_close_159 (i := 15) rfl) ?_
    refine zw_dup (pc := 28) rfl (zdal_p dlA_Calc_close_159 (i := 16) rfl) ?_
    refine zk_getI (pc := 29) f_Calc_34 rfl ((hf_N2_.w hW).kr (o := 33) (by decide)) (zdal_p dlA_Calc_close_159 (i := 17) rfl) ?_
    refine zw_iconst (pc := 32) (v := Int32.ofInt 1) (by decide) (zdal_p dlA_Calc_close_159 (i := 18) rfl) ?_
    refine zr_isub (pc := 33) (zdal_p dlA_Calc_close_159 (i := 19) rfl) ?_
    refine zk_putR (pc := 34) (o := 33) (by decide) f_Calc_34 rfl rfl ((hf_N2_.w hW).kr (o := 33) (by decide)) ⟨by (exact zo_64 eD33_5_N1_ eD33_5_N2_ q4_ r_D33_5.1), by (exact zo_65 eD33_5_N1_ eD33_5_N2_ r_D33_5.2)⟩ rfl rfl (zdal_p dlA_Calc_close_159 (i := 20) rfl) (fun N3_ hsN3_ hvN3_ => ?_)
    have hf_N3_ : zFc d_ [] [] [(33, 2), (33, 4), (33, 5)] [] Mz N3_ := hf_N2_.tr hsN3_ (by decide) (by decide) (by decide) (by decide)
    have eD33_2_N3_ : ze N3_ (d_ + 33) 2 = ze N2_ (d_ + 33) 2 := hsN3_.e (by decide)
    have eD33_3_N3_ : ze N3_ (d_ + 33) 3 = ze N2_ (d_ + 33) 3 := hsN3_.e (by decide)
    have eD33_4_N3_ : ze N3_ (d_ + 33) 4 = ze N2_ (d_ + 33) 4 := hsN3_.e (by decide)
    have rD33_5_N3_ := ze_r N3_ (d_ + 33) 5
    have eD33_6_N3_ : ze N3_ (d_ + 33) 6 = ze N2_ (d_ + 33) 6 := hsN3_.e (by decide)
    obtain ⟨r1_, r2_, r3_⟩ := zCI_pop (F := F_) (c := 40) (Nz := N3_) p0_ h1_ h40_.symm (Or.inl rfl) (by (exact zo_66 eD33_2_N2_ eD33_2_N3_ hvN1_)) (fun i => hf_N3_.r (by decide) i) (by (exact zo_19 eD33_3_N1_ eD33_3_N2_ eD33_3_N3_)) (by (exact zo_20 eD33_4_N1_ eD33_4_N3_ hvN2_ q3_ rD33_4_N2_.2)) (by rw [if_pos rfl]; (exact zo_67 eD33_5_N1_ eD33_5_N2_ hvN3_ q4_ rD33_5_N3_.2)) (by (exact zo_19 eD33_6_N1_ eD33_6_N2_ eD33_6_N3_)) (fun t t0 t1 => by rw [zvc_f hf_N3_ (by decide)]; exact q9_ t t0 t1)
    exact zk_vret (pc := 37) rfl hf_N3_ ⟨r1_, (show zkS d_ N3_ = (zkS d_ Mz).tail by first | (exfalso; omega) | (rw [r2_]; rfl)), (show zkW F_ d_ N3_ = zkW F_ d_ Mz by exact zkW_f (by (exact zo_19 eD33_6_N1_ eD33_6_N2_ eD33_6_N3_)) (zkV_f (by (exact zo_19 eD33_3_N1_ eD33_3_N2_ eD33_3_N3_)) (fun t _ _ => zvc_f hf_N3_ (by decide) t))), (show zkG d_ N3_ = zkG d_ Mz by exact zkG_f (by (exact zo_19 eD33_6_N1_ eD33_6_N2_ eD33_6_N3_)))⟩ (zdal_p dlA_Calc_close_159 (i := 21) rfl)
def zsb (i : Nat) : Nat → Int := fun j => ((zsB.getD i []).getD j 0).toInt
def zsl (i : Nat) : Nat := zsL.getD i 0
theorem zsl_6 {i : Nat} (hi : i < zsN) : 3 ≤ zsl i ∧ zsl i ≤ 6 := by
  have h : ∀ i, i < 4 → 3 ≤ zsl i ∧ zsl i ≤ 6 := by decide +kernel
  exact h i hi
theorem zsb_L {i j : Nat} (hi : i < zsN) (hj : j < zsl i) : zpL (zsb i j) = true := by
  have h : ∀ i, i < 4 → ∀ j, j < zsl i → zpL (zsb i j) = true := by decide +kernel
  exact h i hi j hj
theorem zsb_k {i : Nat} (hi : i < zsN) : zkw i = zw2 (zsb i) 0 (zsl i) := by
  have h : ∀ i, i < 4 → zkw i = zw2 (zsb i) 0 (zsl i) := by decide +kernel
  exact h i hi
theorem zsb_c {i j : Nat} (hi : i < zsN) (hj : j < zsl i) : ztc i (Int32.ofInt (j : Int)) = Int32.ofInt (zsb i j) := by
  have h : ∀ i, i < 4 → ∀ j, j < zsl i → ztc i (Int32.ofInt (j : Int)) = Int32.ofInt (zsb i j) := by decide +kernel
  exact h i hi j hj
theorem u_String_length (l : Launch) (M : zMem) (i : Nat) (hi : i < zsN) : zC l m_String_length 0 0 [.ref (zK i)] M (fun r M' => M' = M ∧ r = some (.int (nI (zsL.getD i 0)))) := by
  refine zC_of (L0 := [some (.ref (zK i))]) md_String_length (Nat.le_of_ble_eq_true rfl) rfl ?_ zQ0
  refine zw_aload_n (pc := 0) (n := 0) (x := zK i) rfl d_String_length_0 ?_
  refine zt_val (pc := 1) hi y_9 d_String_length_1 ?_
  refine zt_len (pc := 4) hi d_String_length_4 ?_
  refine zw_aload_n (pc := 5) (n := 0) (x := zK i) rfl d_String_length_5 ?_
  refine zw_callT (pc := 6) (i := i) [] [.int (nI (zsL.getD i 0))] l_String_335 (c_String_coder l M i hi) rfl rfl hi rfl (by decide) (Nat.le_of_ble_eq_true rfl) d_String_length_6 (fun r M' h _ _ => ?_)
  obtain ⟨rfl, rfl⟩ := h
  refine zw_ishr (pc := 9) d_String_length_9 ?_
  have e : nI (zsL.getD i 0) >>> ((0 : Int32) &&& 31) = nI (zsL.getD i 0) := by
    have h4 : i < 4 := hi
    match i, h4 with
    | 0, _ => decide
    | 1, _ => decide
    | 2, _ => decide
    | 3, _ => decide
  exact zw_iret (S := []) (pc := 10) (ty := .int) rfl rfl d_String_length_10 ⟨rfl, by rw [e]⟩
theorem u_String_charAt (l : Launch) (M : zMem) (i : Nat) (hi : i < zsN) (x : Int32) (hx : vp_in x (zsL.getD i 0)) : zC l m_String_charAt 0 0 [.ref (zK i), .int x] M (fun r M' => M' = M ∧ r = some (.int (ztc i x))) := by
  refine zC_of (L0 := [some (.ref (zK i)), some (.int x)]) md_String_charAt (Nat.le_of_ble_eq_true rfl) rfl ?_ zQ0
  refine zw_aload_n (pc := 0) (n := 0) (x := zK i) rfl d_String_charAt_0 ?_
  refine zw_callT (pc := 1) (i := i) [] [] l_String_492 (c_String_isLatin1 l M i hi) rfl rfl hi rfl (by decide) (Nat.le_of_ble_eq_true rfl) d_String_charAt_1 (fun r M' h _ _ => ?_)
  obtain ⟨rfl, rfl⟩ := h
  refine zw_if_eq (pc := 4) (x := 1) (S := []) (tgt := 16) (by decide) d_String_charAt_4 (fun hc => absurd hc (by decide)) (fun _ => ?_)
  refine zw_aload_n (pc := 7) (n := 0) (x := zK i) rfl d_String_charAt_7 ?_
  refine zt_val (pc := 8) hi y_9 d_String_charAt_8 ?_
  refine zw_iload_n (pc := 11) (n := 1) (x := x) rfl d_String_charAt_11 ?_
  refine zw_callS (pc := 12) [.ref (zK (200 + i)), .int x] [] l_String_495 (c_StringLatin1_charAt l M' i hi x hx) rfl rfl (by decide) ⟨Nat.le_refl _, Nat.le_refl _⟩ (Nat.le_of_ble_eq_true rfl) d_String_charAt_12 (fun r M' h _ _ => ?_)
  obtain ⟨rfl, rfl⟩ := h
  exact zw_iret (S := []) (pc := 15) (ty := .char) rfl (pk_nc _) d_String_charAt_15 ⟨rfl, rfl⟩
section ZKT
variable {l : Launch} {k : zMeth} {X : Nat × Nat} {Mz : zMem} {pc : Nat} {L : List (Option Value)} {S : List Value} {Q : Option Value → zMem → Prop}
theorem zk_len {ix i : Nat} (hi : i < zsN) (hl' : zMLV (zo k) ix m_String_length) (hR : zF m_String_length + 1 ≤ zF k ∧ 8 + (zl m_String_length + 11) + zLo m_String_length ≤ zLo k) (hc8 : (S.map fun v => v.category).sum ≤ 8) (hd : decode (zb k) pc = .ok (.invokevirtual ix, 3)) (kk : zW l k X Mz (pc + 3) L (.int (Int32.ofInt ((zsl i : Nat) : Int)) :: S) Q) : zW l k X Mz pc L (.ref (zK i) :: S) Q := by
  refine zw_callT (i := i) [] S hl' (u_String_length l Mz i hi) rfl rfl hi rfl hR hc8 hd (fun r M' h _ _ => ?_)
  obtain ⟨rfl, rfl⟩ := h
  have h6 := zsl_6 hi
  have e : nI (zsL.getD i 0) = Int32.ofInt ((zsl i : Nat) : Int) := zk_nI (n := zsl i) (by omega)
  rw [e]
  exact kk
theorem zk_chr {ix i : Nat} {x : Int} (hi : i < zsN) (h0 : 0 ≤ x) (h1 : x < zsl i) (hl' : zMLV (zo k) ix m_String_charAt) (hR : zF m_String_charAt + 1 ≤ zF k ∧ 8 + (zl m_String_charAt + 11) + zLo m_String_charAt ≤ zLo k) (hc8 : (S.map fun v => v.category).sum ≤ 8) (hd : decode (zb k) pc = .ok (.invokevirtual ix, 3)) (kk : ∀ v : Int, v = zsb i x.toNat → -2147483648 ≤ v → v < 2147483648 → zW l k X Mz (pc + 3) L (.int (Int32.ofInt v) :: S) Q) : zW l k X Mz pc L (.int (Int32.ofInt x) :: .ref (zK i) :: S) Q := by
  have h6 := zsl_6 hi
  have hx : vp_in (Int32.ofInt x) (zsL.getD i 0) := by
    rw [vp_in_iff, z32 ⟨by omega, by omega⟩]
    exact ⟨h0, h1⟩
  refine zw_callT (i := i) [.int (Int32.ofInt x)] S hl' (u_String_charAt l Mz i hi _ hx) rfl rfl hi rfl hR hc8 hd (fun r M' h _ _ => ?_)
  obtain ⟨rfl, rfl⟩ := h
  have e : ztc i (Int32.ofInt x) = Int32.ofInt (zsb i x.toNat) := by
    have h := zsb_c (i := i) (j := x.toNat) hi (by omega)
    rwa [Int.toNat_of_nonneg h0] at h
  have hl := zpL_t.mp (zsb_L (i := i) (j := x.toNat) hi (by omega))
  rw [e]
  exact kk _ rfl (by omega) (by omega)
end ZKT
theorem zw2_p {b : Nat → Int} {s : Nat} (k : Nat) (h : ∀ i, i < k → zpL (b (s + i)) = true) : 0 ≤ zw2 b s k :=
  (zw2_b (n := 0) (b := b) (s := s) k (fun i h1 h2 => by
    have := h (i - s) (by omega)
    rwa [show s + (i - s) = i by omega] at this)).1
theorem zw2_inj {b c : Nat → Int} {s t : Nat} : ∀ k m : Nat, (∀ i, i < k → zpL (b (s + i)) = true) → (∀ i, i < m → zpL (c (t + i)) = true) → zw2 b s k = zw2 c t m → k = m ∧ ∀ i, i < k → b (s + i) = c (t + i)
  | 0, 0, _, _, _ => ⟨rfl, fun i h => absurd h (by omega)⟩
  | 0, m + 1, _, h2, h => by
    have a1 := zw2_p (b := c) (s := t) m (fun i hi => h2 i (by omega))
    have a2 := zpL_t.mp (h2 m (by omega))
    have e : (0 : Int) = 27 * zw2 c t m + (c (t + m) - 96) := h
    exact absurd e (by omega)
  | k + 1, 0, h1, _, h => by
    have a1 := zw2_p (b := b) (s := s) k (fun i hi => h1 i (by omega))
    have a2 := zpL_t.mp (h1 k (by omega))
    have e : 27 * zw2 b s k + (b (s + k) - 96) = 0 := h
    exact absurd e (by omega)
  | k + 1, m + 1, h1, h2, h => by
    have a2 := zpL_t.mp (h1 k (by omega))
    have b2 := zpL_t.mp (h2 m (by omega))
    have e : 27 * zw2 b s k + (b (s + k) - 96) = 27 * zw2 c t m + (c (t + m) - 96) := h
    have e1 : zw2 b s k = zw2 c t m := by omega
    have e2 : b (s + k) = c (t + m) := by omega
    obtain ⟨r1, r2⟩ := zw2_inj k m (fun i hi => h1 i (by omega)) (fun i hi => h2 i (by omega)) e1
    refine ⟨by omega, fun i hi => ?_⟩
    by_cases g : i = k
    · subst g
      rw [e2, r1]
    · exact r2 i (by omega)
theorem zkd_1 {b : Nat → Int} {n s : Nat} (h : zkd b n s = 1) : s < n ∧ s < zen b n s ∧ zen b n s ≤ n ∧ zen b n s ≤ s + 6 ∧ ∀ j, s ≤ j → j < zen b n s → zpL (b j) = true := by
  by_cases h0 : n ≤ s
  · rw [(zkd_0 h0).1] at h
    exact absurd h (by decide)
  have hs : s < n := by omega
  cases hl : zpL (b s) with
  | true =>
    obtain ⟨k1, k2⟩ := zkd_L hs hl
    rw [k1] at h
    by_cases g : zru zpL b n s ≤ s + 6
    · rw [k2]
      exact ⟨hs, zru_gt hs hl, zru_le (by omega), g, fun j h1 h2 => (zru_in (j - s) s j (by omega) h1 h2).1⟩
    · rw [if_neg g] at h
      exact absurd h (by decide)
  | false =>
    cases hd : zpD (b s) with
    | true =>
      rw [(zkd_D hs hl hd).1] at h
      split at h <;> exact absurd h (by decide)
    | false =>
      rw [(zkd_S hs hl hd).1] at h
      split at h <;> exact absurd h (by decide)
theorem zkd_2 {b : Nat → Int} {n s : Nat} (h : zkd b n s = 2) : s < n ∧ s < zen b n s ∧ zen b n s ≤ n ∧ zen b n s ≤ s + 3 ∧ ∀ j, s ≤ j → j < zen b n s → zpD (b j) = true := by
  by_cases h0 : n ≤ s
  · rw [(zkd_0 h0).1] at h
    exact absurd h (by decide)
  have hs : s < n := by omega
  cases hl : zpL (b s) with
  | true =>
    rw [(zkd_L hs hl).1] at h
    split at h <;> exact absurd h (by decide)
  | false =>
    cases hd : zpD (b s) with
    | true =>
      obtain ⟨k1, k2⟩ := zkd_D hs hl hd
      rw [k1] at h
      by_cases g : zru zpD b n s ≤ s + 3 ∧ ¬ (zru zpD b n s < n ∧ zpL (b (zru zpD b n s)) = true)
      · rw [k2]
        exact ⟨hs, zru_gt hs hd, zru_le (by omega), g.1, fun j h1 h2 => (zru_in (j - s) s j (by omega) h1 h2).1⟩
      · rw [if_neg g] at h
        exact absurd h (by decide)
    | false =>
      rw [(zkd_S hs hl hd).1] at h
      split at h <;> exact absurd h (by decide)
theorem znu_b {b : Nat → Int} {n s : Nat} (h : zkd b n s = 2) : 0 ≤ znu b n s ∧ znu b n s ≤ 999 := by
  obtain ⟨h1, h2, h3, h4, h5⟩ := zkd_2 h
  have key : ∀ k : Nat, k ≤ zen b n s - s → 0 ≤ zvl b s k ∧ zvl b s k < (10 : Int) ^ k := by
    intro k
    induction k with
    | zero =>
      intro _
      show (0 : Int) ≤ 0 ∧ (0 : Int) < (10 : Int) ^ 0
      rw [Int.pow_zero]
      omega
    | succ k ih =>
      intro hk
      have i1 := ih (by omega)
      have i2 := zpD_t.mp (h5 (s + k) (by omega) (by omega))
      show 0 ≤ 10 * zvl b s k + (b (s + k) - 48) ∧ 10 * zvl b s k + (b (s + k) - 48) < (10 : Int) ^ (k + 1)
      rw [Int.pow_succ]
      generalize (10 : Int) ^ k = p at i1 ⊢
      omega
  have h6 := key (zen b n s - s) (Nat.le_refl _)
  unfold znu
  obtain g | g | g : zen b n s - s = 1 ∨ zen b n s - s = 2 ∨ zen b n s - s = 3 := by omega
  all_goals
    rw [g] at h6 ⊢
    have : (10 : Int) ^ 1 = 10 ∧ (10 : Int) ^ 2 = 100 ∧ (10 : Int) ^ 3 = 1000 := by decide
    omega
theorem zkey_w {b : Nat → Int} {n s i : Nat} (hi : i < zsN) (h : zkd b n s = 1) : zkey b n s = zkw i ↔ (zen b n s - s = zsl i ∧ ∀ j, j < zsl i → b (s + j) = zsb i j) := by
  obtain ⟨h1, h2, h3, h4, h5⟩ := zkd_1 h
  rw [zsb_k hi]
  unfold zkey
  constructor
  · intro e
    obtain ⟨r1, r2⟩ := zw2_inj _ _ (fun j hj => h5 (s + j) (by omega) (by omega)) (fun j hj => by rw [Nat.zero_add]; exact zsb_L hi hj) e
    refine ⟨r1, fun j hj => ?_⟩
    have := r2 j (by omega)
    rwa [Nat.zero_add] at this
  · rintro ⟨e1, e2⟩
    rw [e1]
    have key : ∀ k, k ≤ zsl i → zw2 b s k = zw2 (zsb i) 0 k := by
      intro k
      induction k with
      | zero => intro _; rfl
      | succ k ih =>
        intro hk
        show 27 * zw2 b s k + (b (s + k) - 96) = 27 * zw2 (zsb i) 0 k + (zsb i (0 + k) - 96)
        rw [ih (by omega), e2 k (by omega), Nat.zero_add]
    exact key _ (Nat.le_refl _)
theorem zYt.x {b : Nat → Int} {n : Nat} {M : zMem} (h : zYt b n M) : (0 ≤ ze M 1 2 ∧ ze M 1 2 ≤ n) ∧ 0 ≤ ze M 1 3 ∧ ze M 1 3 ≤ n := by
  have h1 := h.1
  have h2 := h.2.1
  have h3 := zen_le (b := b) (n := n) (s := (ze M 1 2).toNat) (by omega)
  omega
theorem zYt.n {b : Nat → Int} {n : Nat} {M N : zMem} (h : zYt b n M) (hp : ze N 1 2 = (zru zpB b n (ze M 1 3).toNat : Nat)) : ze N 1 2 = ((znx b n (ze M 1 2).toNat : Nat) : Int) ∧ (ze N 1 2).toNat = znx b n (ze M 1 2).toNat := by
  have h2 := h.2.1
  have e : (ze M 1 3).toNat = zen b n (ze M 1 2).toNat := by omega
  rw [e] at hp
  unfold znx
  exact ⟨hp, by omega⟩
theorem zYt.v2 {b : Nat → Int} {n : Nat} {M : zMem} (h : zYt b n M) (h2 : zkd b n (ze M 1 2).toNat = 2) : ze M 1 5 = znu b n (ze M 1 2).toNat ∧ 0 ≤ ze M 1 5 ∧ ze M 1 5 ≤ 999 := by
  have e : ze M 1 5 = znu b n (ze M 1 2).toNat := h.2.2.2.2.1 h2
  have := znu_b h2
  exact ⟨e, by omega, by omega⟩
theorem zYt.v1 {b : Nat → Int} {n : Nat} {M : zMem} (h : zYt b n M) (h2 : zkd b n (ze M 1 2).toNat = 1) : ze M 1 5 = zkey b n (ze M 1 2).toNat := h.2.2.2.1 h2
def zup {α : Type} (f : Nat → α) : Nat → Nat → List α
  | 0, _ => []
  | k + 1, i => f i :: zup f k (i + 1)
theorem zup_c {α : Type} {f g : Nat → α} : ∀ k i, (∀ j, i ≤ j → j < i + k → f j = g j) → zup f k i = zup g k i
  | 0, _, _ => rfl
  | k + 1, i, h => by
    show f i :: zup f k (i + 1) = g i :: zup g k (i + 1)
    rw [h i (by omega) (by omega), zup_c k (i + 1) (fun j h1 h2 => h j (by omega) (by omega))]
theorem zup_s {α : Type} {f : Nat → α} : ∀ k i, zup f (k + 1) i = zup f k i ++ [f (i + k)]
  | 0, _ => rfl
  | k + 1, i => by
    show f i :: zup f (k + 1) (i + 1) = f i :: (zup f k (i + 1) ++ [f (i + (k + 1))])
    rw [zup_s k (i + 1), show i + 1 + k = i + (k + 1) by omega]
theorem zup_l {α : Type} {f : Nat → α} : ∀ k i, (zup f k i).length = k
  | 0, _ => rfl
  | k + 1, i => by
    show (zup f k (i + 1)).length + 1 = k + 1
    rw [zup_l k (i + 1)]
def zNe (F d : Nat) (Mz : zMem) : Nat → Int × (Nat → Int) := fun k => (ze Mz (d + 37) k, zvc F d Mz (1 + k))
def zNl (F d : Nat) (Mz : zMem) : List (Int × (Nat → Int)) := zup (zNe F d Mz) (ze Mz (d + 0) 6).toNat 0
def zNm (nm : List (Int × (Nat → Int))) (F : Nat) (K : Nat → Nat → Int) (d : Nat) (Mz : zMem) : Prop := (0 ≤ ze Mz (d + 0) 6 ∧ ze Mz (d + 0) 6 ≤ 8) ∧ zNl F d Mz = nm ∧ ∀ k : Nat, (k : Int) < ze Mz (d + 0) 6 → zfit F K (zvc F d Mz (1 + k))
section ZKN
variable {d F : Nat} {K : Nat → Nat → Int} {FA : List (Nat × Nat)} {CA : List Nat} {FR : List (Nat × Nat)} {CR : List Nat} {Mz Nz Pz : zMem} {nm : List (Int × (Nat → Int))}
theorem zNm_e (h6 : ze Nz (d + 0) 6 = ze Mz (d + 0) 6) (h37 : ∀ k : Nat, ze Nz (d + 37) k = ze Mz (d + 37) k) (hv : ∀ k : Nat, k < 8 → zvc F d Nz (1 + k) = zvc F d Mz (1 + k)) (h : zNm nm F K d Mz) : zNm nm F K d Nz := by
  obtain ⟨a1, a2, a3⟩ := h
  unfold zNm
  rw [h6]
  refine ⟨a1, ?_, fun k hk => by rw [hv k (by omega)]; exact a3 k hk⟩
  rw [← a2]
  unfold zNl
  rw [h6]
  exact zup_c _ _ (fun j _ hj => by
    unfold zNe
    rw [h37, hv j (by omega)])
theorem zNm.fr (_ : zKW d Mz) (hf : zFc d FA CA FR CR Mz Nz) (h : zNm nm F K d Mz) (hd : (0 < 38 ∧ 0 ∉ CR ∧ (0, 6) ∉ FR) ∧ (37 < 38 ∧ 37 ∉ CR ∧ ∀ x ∈ FR, x.1 ≠ 37) ∧ 25 < 38 ∧ 25 ∉ CR ∧ ∀ x ∈ FR, x.1 ≠ 25) : zNm nm F K d Nz :=
  zNm_e (hf.e hd.1) (fun k => hf.r hd.2.1 k) (fun k _ => zvc_f hf hd.2.2 _) h
theorem zNm.l (hf : zFc d FA CA FR CR Mz Nz) (hl : zLow d Mz Nz) (hF : F ≤ 27) (h : zNm nm F K d Mz) (hd : (0 < 38 ∧ 0 ∉ CR ∧ (0, 6) ∉ FR) ∧ 37 < 38 ∧ 37 ∉ CR ∧ ∀ x ∈ FR, x.1 ≠ 37) : zNm nm F K d Nz :=
  zNm_e (hf.e hd.1) (fun k => hf.r hd.2 k) (fun k hk => hl.v hF (by omega) (by omega)) h
theorem zNm_0 (h : zNm nm F K d Mz) {x : Int} : zfd nm x = zfd (zup (zNe F d Mz) ((ze Mz (d + 0) 6).toNat - (0 : Int).toNat) (0 : Int).toNat) x := by
  rw [← h.2.1]
  rfl
theorem zNm_s {x u v : Int} {o : Option (Nat → Int)} (h : o = zfd (zup (zNe F d Mz) ((ze Mz (d + 0) 6).toNat - u.toNat) u.toNat) x) (u0 : 0 ≤ u) (u1 : u < ze Mz (d + 0) 6) (hv : v = ze Mz (d + 37) u.toNat) (hx : v ≠ x) : o = zfd (zup (zNe F d Mz) ((ze Mz (d + 0) 6).toNat - (u + 1).toNat) (u + 1).toNat) x := by
  rw [h, show (ze Mz (d + 0) 6).toNat - u.toNat = (ze Mz (d + 0) 6).toNat - (u + 1).toNat + 1 by omega, show (u + 1).toNat = u.toNat + 1 by omega]
  show (if ze Mz (d + 37) u.toNat = x then _ else _) = _
  rw [← hv, if_neg hx]
theorem zNm_f {x u v : Int} {o : Option (Nat → Int)} (h : o = zfd (zup (zNe F d Mz) ((ze Mz (d + 0) 6).toNat - u.toNat) u.toNat) x) (u0 : 0 ≤ u) (u1 : u < ze Mz (d + 0) 6) (hv : v = ze Mz (d + 37) u.toNat) (hx : v = x) : o = some (zvc F d Mz (1 + u)) := by
  rw [h, show (ze Mz (d + 0) 6).toNat - u.toNat = (ze Mz (d + 0) 6).toNat - u.toNat - 1 + 1 by omega]
  show (if ze Mz (d + 37) u.toNat = x then some (zvc F d Mz (1 + (u.toNat : Int))) else _) = _
  rw [← hv, if_pos hx, Int.toNat_of_nonneg u0]
theorem zNm_n {x u : Int} {o : Option (Nat → Int)} (h : o = zfd (zup (zNe F d Mz) ((ze Mz (d + 0) 6).toNat - u.toNat) u.toNat) x) (u1 : ze Mz (d + 0) 6 ≤ u) : o = none := by
  rw [h, show (ze Mz (d + 0) 6).toNat - u.toNat = 0 by omega]
  rfl
end ZKN
def zKst (ph F d : Nat) (Mz : zMem) : zFst := (ph, (ze Mz 1 2).toNat, zkS d Mz, zkW F d Mz, (ze Mz 4 1).toNat, zkG d Mz)
section ZKX
variable {d F n : Nat} {b : Nat → Int} {K : Nat → Nat → Int} {nm : List (Int × (Nat → Int))} {Mz Nz Pz Rz : zMem} {FA : List (Nat × Nat)} {CA : List Nat} {FR : List (Nat × Nat)} {CR : List Nat}
theorem zkS_q (hf : zFc d FA CA FR CR Mz Nz) (hd : (33 < 38 ∧ 33 ∉ CR ∧ (33, 2) ∉ FR) ∧ 35 < 38 ∧ 35 ∉ CR ∧ ∀ x ∈ FR, x.1 ≠ 35) : zkS d Nz = zkS d Mz := zkS_f (hf.e hd.1) (fun i _ => hf.r hd.2 i)
theorem zkG_q (hf : zFc d FA CA FR CR Mz Nz) (hd : 33 < 38 ∧ 33 ∉ CR ∧ (33, 6) ∉ FR) : zkG d Nz = zkG d Mz := zkG_f (hf.e hd)
theorem zkW_q (hf : zFc d FA CA FR CR Mz Nz) (hd : (33 < 38 ∧ 33 ∉ CR ∧ (33, 6) ∉ FR) ∧ (33 < 38 ∧ 33 ∉ CR ∧ (33, 3) ∉ FR) ∧ 25 < 38 ∧ 25 ∉ CR ∧ ∀ x ∈ FR, x.1 ≠ 25) : zkW F d Nz = zkW F d Mz := zkW_f (hf.e hd.1) (zkV_f (hf.e hd.2.1) (fun t _ _ => zvc_f hf hd.2.2 t))
theorem zfs_0 {p un : Nat} {sg : List Nat} {vs : List (Nat → Int)} {g : Bool} : zfs b n F K nm (0, p, sg, vs, un, g) = zif (zisg b n p 45 ∨ zisg b n p 40) (zif (zuo sg un) (0, znx b n p, (if b p = 40 then 0 else 1) :: sg, vs, un + 1, g) zFt)
    (zif (zkd b n p = 2) (zif (zuo sg un) (1, znx b n p, sg, zpu g (zone ((F : Int) - 1) (znu b n p)) vs, un + 1, g) zFt)
    (zif (zkd b n p = 1 ∧ zkey b n p = zkw 3) (zif (zuo sg un ∧ zkd b n (znx b n p) = 2 ∧ znu b n (znx b n p) < F) (1, znx b n (znx b n p), sg, zpu g (zone (znu b n (znx b n p)) 1) vs, un + 1, g) zFt)
    (zif (zuo sg un ∧ zisn b n p) (match zfd nm (zkey b n p) with | none => zFt | some v => (1, znx b n p, sg, zpu g v vs, un + 1, g)) zFt))) := rfl
theorem zfs_1 {p un : Nat} {sg : List Nat} {vs : List (Nat → Int)} {g : Bool} : zfs b n F K nm (1, p, sg, vs, un, g) = zif (zisg b n p 94) (zif (zkd b n (znx b n p) = 2 ∧ znu b n (znx b n p) ≤ 9) (2, znx b n (znx b n p), (zng sg (zpo F K (znu b n (znx b n p)).toNat vs g).1).1, (zng sg (zpo F K (znu b n (znx b n p)).toNat vs g).1).2, un, (zpo F K (znu b n (znx b n p)).toNat vs g).2) zFt)
    (2, p, (zng sg vs).1, (zng sg vs).2, un, g) := rfl
theorem zfs_2 {p un : Nat} {sg : List Nat} {vs : List (Nat → Int)} {g : Bool} : zfs b n F K nm (2, p, sg, vs, un, g) = zif (zisg b n p 42) (0, znx b n p, 4 :: (zrk F K 4 sg.length (sg, vs, g)).1, (zrk F K 4 sg.length (sg, vs, g)).2.1, un, (zrk F K 4 sg.length (sg, vs, g)).2.2)
    (zif (zisg b n p 43 ∨ zisg b n p 45) (0, znx b n p, (if b p = 43 then 2 else 3) :: (zrk F K 2 sg.length (sg, vs, g)).1, (zrk F K 2 sg.length (sg, vs, g)).2.1, un, (zrk F K 2 sg.length (sg, vs, g)).2.2)
    (zif (zisg b n p 41 ∧ 0 ∈ sg) (1, znx b n p, (zrk F K 2 sg.length (sg, vs, g)).1.tail, (zrk F K 2 sg.length (sg, vs, g)).2.1, un, (zrk F K 2 sg.length (sg, vs, g)).2.2)
    (zif (0 ∈ sg) zFt (3, p, (zrk F K 2 sg.length (sg, vs, g)).1, (zrk F K 2 sg.length (sg, vs, g)).2.1, un, (zrk F K 2 sg.length (sg, vs, g)).2.2)))) := rfl
theorem zs0_o {c : Int} (h : zisg b n (ze Mz 1 2).toNat 45 ∨ zisg b n (ze Mz 1 2).toNat 40) (hz : zuo (zkS d Mz) (ze Mz 4 1).toNat) (hc : (c = 1 ∧ b (ze Mz 1 2).toNat = 40) ∨ (c = 0 ∧ b (ze Mz 1 2).toNat ≠ 40)) (hS : zkS d Nz = (if c = 0 then 1 else 0) :: zkS d Mz) (hW : zkW F d Nz = zkW F d Mz) (hG : zkG d Nz = zkG d Mz) (hu : ze Nz 4 1 = ze Mz 4 1 + 1) (u0 : 0 ≤ ze Mz 4 1) (hp : (ze Nz 1 2).toNat = znx b n (ze Mz 1 2).toNat) : zfs b n F K nm (zKst 0 F d Mz) = zKst 0 F d Nz := by
  unfold zKst
  rw [zfs_0, zif_t h, zif_t hz, hS, hW, hG, hp, show (ze Nz 4 1).toNat = (ze Mz 4 1).toNat + 1 by omega]
  rcases hc with ⟨rfl, e⟩ | ⟨rfl, e⟩
  · rw [if_pos e]; rfl
  · rw [if_neg e]; rfl
theorem zs0_of (h : zisg b n (ze Mz 1 2).toNat 45 ∨ zisg b n (ze Mz 1 2).toNat 40) (hz : ¬ zuo (zkS d Mz) (ze Mz 4 1).toNat) : zfs b n F K nm (zKst 0 F d Mz) = zFt := by
  unfold zKst
  rw [zfs_0, zif_t h, zif_f hz]
theorem zs0_n (h : ¬ (zisg b n (ze Mz 1 2).toNat 45 ∨ zisg b n (ze Mz 1 2).toNat 40)) (h2 : zkd b n (ze Mz 1 2).toNat = 2) (hz : zuo (zkS d Mz) (ze Mz 4 1).toNat) (hS : zkS d Nz = zkS d Mz) (hW : zkW F d Nz = zpu (zkG d Mz) (zone ((F : Int) - 1) (znu b n (ze Mz 1 2).toNat)) (zkW F d Mz)) (hG : zkG d Nz = zkG d Mz) (hu : ze Nz 4 1 = ze Mz 4 1 + 1) (u0 : 0 ≤ ze Mz 4 1) (hp : (ze Nz 1 2).toNat = znx b n (ze Mz 1 2).toNat) : zfs b n F K nm (zKst 0 F d Mz) = zKst 1 F d Nz := by
  unfold zKst
  rw [zfs_0, zif_f h, zif_t h2, zif_t hz, hS, hW, hG, hp, show (ze Nz 4 1).toNat = (ze Mz 4 1).toNat + 1 by omega]
theorem zs0_nf (h : ¬ (zisg b n (ze Mz 1 2).toNat 45 ∨ zisg b n (ze Mz 1 2).toNat 40)) (h2 : zkd b n (ze Mz 1 2).toNat = 2) (hz : ¬ zuo (zkS d Mz) (ze Mz 4 1).toNat) : zfs b n F K nm (zKst 0 F d Mz) = zFt := by
  unfold zKst
  rw [zfs_0, zif_f h, zif_t h2, zif_f hz]
theorem zs0_s (h : ¬ (zisg b n (ze Mz 1 2).toNat 45 ∨ zisg b n (ze Mz 1 2).toNat 40)) (h2 : zkd b n (ze Mz 1 2).toNat ≠ 2) (h3 : zkd b n (ze Mz 1 2).toNat = 1 ∧ zkey b n (ze Mz 1 2).toNat = zkw 3) (hz : zuo (zkS d Mz) (ze Mz 4 1).toNat) (h4 : zkd b n (znx b n (ze Mz 1 2).toNat) = 2 ∧ znu b n (znx b n (ze Mz 1 2).toNat) < F) (hS : zkS d Nz = zkS d Mz) (hW : zkW F d Nz = zpu (zkG d Mz) (zone (znu b n (znx b n (ze Mz 1 2).toNat)) 1) (zkW F d Mz)) (hG : zkG d Nz = zkG d Mz) (hu : ze Nz 4 1 = ze Mz 4 1 + 1) (u0 : 0 ≤ ze Mz 4 1) (hp : (ze Nz 1 2).toNat = znx b n (znx b n (ze Mz 1 2).toNat)) : zfs b n F K nm (zKst 0 F d Mz) = zKst 1 F d Nz := by
  unfold zKst
  rw [zfs_0, zif_f h, zif_f h2, zif_t h3, zif_t ⟨hz, h4.1, h4.2⟩, hS, hW, hG, hp, show (ze Nz 4 1).toNat = (ze Mz 4 1).toNat + 1 by omega]
theorem zs0_sf (h : ¬ (zisg b n (ze Mz 1 2).toNat 45 ∨ zisg b n (ze Mz 1 2).toNat 40)) (h2 : zkd b n (ze Mz 1 2).toNat ≠ 2) (h3 : zkd b n (ze Mz 1 2).toNat = 1 ∧ zkey b n (ze Mz 1 2).toNat = zkw 3) (hz : ¬ (zuo (zkS d Mz) (ze Mz 4 1).toNat ∧ zkd b n (znx b n (ze Mz 1 2).toNat) = 2 ∧ znu b n (znx b n (ze Mz 1 2).toNat) < F)) : zfs b n F K nm (zKst 0 F d Mz) = zFt := by
  unfold zKst
  rw [zfs_0, zif_f h, zif_f h2, zif_t h3, zif_f hz]
theorem zs0_w (h : ¬ (zisg b n (ze Mz 1 2).toNat 45 ∨ zisg b n (ze Mz 1 2).toNat 40)) (h2 : zkd b n (ze Mz 1 2).toNat ≠ 2) (h3 : ¬ (zkd b n (ze Mz 1 2).toNat = 1 ∧ zkey b n (ze Mz 1 2).toNat = zkw 3)) (hz : zuo (zkS d Mz) (ze Mz 4 1).toNat) (h4 : zisn b n (ze Mz 1 2).toNat) {v : Nat → Int} (h5 : zfd nm (zkey b n (ze Mz 1 2).toNat) = some v) (hS : zkS d Nz = zkS d Mz) (hW : zkW F d Nz = zpu (zkG d Mz) v (zkW F d Mz)) (hG : zkG d Nz = zkG d Mz) (hu : ze Nz 4 1 = ze Mz 4 1 + 1) (u0 : 0 ≤ ze Mz 4 1) (hp : (ze Nz 1 2).toNat = znx b n (ze Mz 1 2).toNat) : zfs b n F K nm (zKst 0 F d Mz) = zKst 1 F d Nz := by
  unfold zKst
  rw [zfs_0, zif_f h, zif_f h2, zif_f h3, zif_t ⟨hz, h4⟩, h5, hS, hW, hG, hp, show (ze Nz 4 1).toNat = (ze Mz 4 1).toNat + 1 by omega]
theorem zs0_wf (h : ¬ (zisg b n (ze Mz 1 2).toNat 45 ∨ zisg b n (ze Mz 1 2).toNat 40)) (h2 : zkd b n (ze Mz 1 2).toNat ≠ 2) (h3 : ¬ (zkd b n (ze Mz 1 2).toNat = 1 ∧ zkey b n (ze Mz 1 2).toNat = zkw 3)) (hz : ¬ (zuo (zkS d Mz) (ze Mz 4 1).toNat ∧ zisn b n (ze Mz 1 2).toNat)) : zfs b n F K nm (zKst 0 F d Mz) = zFt := by
  unfold zKst
  rw [zfs_0, zif_f h, zif_f h2, zif_f h3, zif_f hz]
theorem zs0_wn (h : ¬ (zisg b n (ze Mz 1 2).toNat 45 ∨ zisg b n (ze Mz 1 2).toNat 40)) (h2 : zkd b n (ze Mz 1 2).toNat ≠ 2) (h3 : ¬ (zkd b n (ze Mz 1 2).toNat = 1 ∧ zkey b n (ze Mz 1 2).toNat = zkw 3)) (h5 : zfd nm (zkey b n (ze Mz 1 2).toNat) = none) : zfs b n F K nm (zKst 0 F d Mz) = zFt := by
  unfold zKst
  rw [zfs_0, zif_f h, zif_f h2, zif_f h3]
  by_cases hz : zuo (zkS d Mz) (ze Mz 4 1).toNat ∧ zisn b n (ze Mz 1 2).toNat
  · rw [zif_t hz, h5]
  · rw [zif_f hz]
theorem zs1_p {x : Int} (h : zisg b n (ze Mz 1 2).toNat 94) (h2 : zkd b n (znx b n (ze Mz 1 2).toNat) = 2 ∧ znu b n (znx b n (ze Mz 1 2).toNat) ≤ 9) (hx : x = znu b n (znx b n (ze Mz 1 2).toNat)) (hS : zkS d Nz = (zng (zkS d Mz) (zpo F K x.toNat (zkW F d Mz) (zkG d Mz)).1).1) (hW : zkW F d Nz = (zng (zkS d Mz) (zpo F K x.toNat (zkW F d Mz) (zkG d Mz)).1).2) (hG : zkG d Nz = (zpo F K x.toNat (zkW F d Mz) (zkG d Mz)).2) (hu : ze Nz 4 1 = ze Mz 4 1) (hp : (ze Nz 1 2).toNat = znx b n (znx b n (ze Mz 1 2).toNat)) : zfs b n F K nm (zKst 1 F d Mz) = zKst 2 F d Nz := by
  subst hx
  unfold zKst
  rw [zfs_1, zif_t h, zif_t h2, hS, hW, hG, hp, hu]
theorem zs1_f (h : zisg b n (ze Mz 1 2).toNat 94) (h2 : ¬ (zkd b n (znx b n (ze Mz 1 2).toNat) = 2 ∧ znu b n (znx b n (ze Mz 1 2).toNat) ≤ 9)) : zfs b n F K nm (zKst 1 F d Mz) = zFt := by
  unfold zKst
  rw [zfs_1, zif_t h, zif_f h2]
theorem zs1_n (h : ¬ zisg b n (ze Mz 1 2).toNat 94) (hS : zkS d Nz = (zng (zkS d Mz) (zkW F d Mz)).1) (hW : zkW F d Nz = (zng (zkS d Mz) (zkW F d Mz)).2) (hG : zkG d Nz = zkG d Mz) (hu : ze Nz 4 1 = ze Mz 4 1) (hp : ze Nz 1 2 = ze Mz 1 2) : zfs b n F K nm (zKst 1 F d Mz) = zKst 2 F d Nz := by
  unfold zKst
  rw [zfs_1, zif_f h, hS, hW, hG, hp, hu]
theorem zs2_s {c : Int} (hk : zkd b n (ze Mz 1 2).toNat = 3) (hc : b (ze Mz 1 2).toNat = c) (hcc : c = 42 ∨ c = 43 ∨ c = 45) (hS : zkS d Nz = zsgn c :: (zrk F K (if c = 42 then 4 else 2 : Nat) (zkS d Mz).length (zkS d Mz, zkW F d Mz, zkG d Mz)).1) (hW : zkW F d Nz = (zrk F K (if c = 42 then 4 else 2 : Nat) (zkS d Mz).length (zkS d Mz, zkW F d Mz, zkG d Mz)).2.1) (hG : zkG d Nz = (zrk F K (if c = 42 then 4 else 2 : Nat) (zkS d Mz).length (zkS d Mz, zkW F d Mz, zkG d Mz)).2.2) (hu : ze Nz 4 1 = ze Mz 4 1) (hp : (ze Nz 1 2).toNat = znx b n (ze Mz 1 2).toNat) : zfs b n F K nm (zKst 2 F d Mz) = zKst 0 F d Nz := by
  unfold zKst
  rw [zfs_2, hS, hW, hG, hp, hu]
  rcases hcc with rfl | rfl | rfl
  · rw [zif_t ⟨hk, hc⟩]
    rfl
  · rw [zif_f (fun q => by have := q.2; omega), zif_t (Or.inl ⟨hk, hc⟩), if_pos hc]
    rfl
  · rw [zif_f (fun q => by have := q.2; omega), zif_t (Or.inr ⟨hk, hc⟩), if_neg (by omega)]
    rfl
theorem zs2_c {c : Nat × Nat} (h : zisg b n (ze Mz 1 2).toNat 41) (h0 : 0 ∈ zkS d Mz) (hR : (zkS d Rz, zkW F d Rz, zkG d Rz) = zrk F K 2 (zkS d Mz).length (zkS d Mz, zkW F d Mz, zkG d Mz)) (hS : zkS d Nz = (zkS d Rz).tail) (hW : zkW F d Nz = zkW F d Rz) (hG : zkG d Nz = zkG d Rz) (hu : ze Nz 4 1 = ze Mz 4 1) (hp : (ze Nz 1 2).toNat = znx b n (ze Mz 1 2).toNat) : zfs b n F K nm (zKst 2 F d Mz) = zKst 1 F d Nz := by
  unfold zKst
  rw [zfs_2, zif_f (fun q => by have := q.2; have := h.2; omega), zif_f (fun q => by have := h.2; rcases q with q | q <;> (have := q.2; omega)), zif_t ⟨h, h0⟩, hS, hW, hG, hp, hu, ← hR]
theorem zs2_f (h4 : ¬ (zisg b n (ze Mz 1 2).toNat 42 ∨ zisg b n (ze Mz 1 2).toNat 43 ∨ zisg b n (ze Mz 1 2).toNat 45)) (h : ¬ (zisg b n (ze Mz 1 2).toNat 41 ∧ 0 ∈ zkS d Mz)) (h0 : 0 ∈ zkS d Mz) : zfs b n F K nm (zKst 2 F d Mz) = zFt := by
  unfold zKst
  rw [zfs_2, zif_f (fun q => h4 (Or.inl q)), zif_f (fun q => h4 (Or.inr q)), zif_f h, zif_t h0]
theorem zs2_e (h4 : ¬ (zisg b n (ze Mz 1 2).toNat 42 ∨ zisg b n (ze Mz 1 2).toNat 43 ∨ zisg b n (ze Mz 1 2).toNat 45)) (h0 : ¬ 0 ∈ zkS d Mz) (hR : (zkS d Nz, zkW F d Nz, zkG d Nz) = zrk F K 2 (zkS d Mz).length (zkS d Mz, zkW F d Mz, zkG d Mz)) (hu : ze Nz 4 1 = ze Mz 4 1) (hp : ze Nz 1 2 = ze Mz 1 2) : zfs b n F K nm (zKst 2 F d Mz) = zKst 3 F d Nz := by
  unfold zKst
  rw [zfs_2, zif_f (fun q => h4 (Or.inl q)), zif_f (fun q => h4 (Or.inr q)), zif_f (fun q => h0 q.2), zif_f h0, hu, hp, ← hR]
theorem zCI.m {e : Int} (h : zCI F K d e Mz) : 0 < ze Mz (d + 33) 5 ↔ 0 ∈ zkS d Mz := by
  have h5 := h.2.2.2.1
  rw [zop0_m, h5]
  omega
theorem zCI.h {e : Int} (h : zCI F K d e Mz) (h0 : 0 < ze Mz (d + 33) 5) (h1 : (zkS d Mz).head? ≠ some 1) (h2 : ∀ y, (zkS d Mz).head? = some y → y < 2) : (zkS d Mz).head? = some 0 := by
  have hm := h.m.mp h0
  cases hs : zkS d Mz with
  | nil => rw [hs] at hm; exact absurd hm List.not_mem_nil
  | cons y r =>
    rw [hs] at h1 h2
    have := h2 y rfl
    have h3 : y ≠ 1 := fun g => h1 (by rw [g]; rfl)
    rw [show y = 0 by omega]
    rfl
theorem zCI.z {e : Int} (h : zCI F K d e Mz) (h0 : ze Mz (d + 33) 5 ≤ 0) (h1 : (zkS d Mz).head? ≠ some 1) (h2 : ∀ y, (zkS d Mz).head? = some y → y < 2) : zkS d Mz = [] := by
  cases hs : zkS d Mz with
  | nil => rfl
  | cons y r =>
    have hm : ¬ 0 ∈ zkS d Mz := fun g => by
      have := h.m.mpr g
      omega
    rw [hs] at h1 h2 hm
    have := h2 y rfl
    have h3 : y ≠ 1 := fun g => h1 (by rw [g]; rfl)
    exact absurd (show 0 ∈ y :: r by rw [show y = 0 by omega]; exact List.mem_cons_self) hm
theorem zop0_t {l : List Nat} (h : l.head? = some 0) : zop0 l = zop0 l.tail + 1 := by
  cases l with
  | nil => cases h
  | cons x r =>
    injection h with h
    rw [zop0_c, if_pos h]
    rfl
end ZKX
