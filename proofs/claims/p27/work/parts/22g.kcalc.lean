section ZKL
variable {d F : Nat} {K : Nat → Nat → Int} {FA FA' : List (Nat × Nat)} {CA CA' : List Nat} {FR FR' : List (Nat × Nat)} {CR CR' : List Nat} {Mz Nz Pz Qz : zMem} {e : Int}
theorem zvc_i (s : Int) : (fun k : Nat => if k < F then zvc F d Mz s k else 0) = zvc F d Mz s := by
  funext k
  by_cases g : k < F
  · rw [if_pos g]
  · rw [if_neg g, zvc_n s k (by omega)]
def zOk (F d : Nat) (Mz Nz : zMem) (top : Int) (r : Nat → Int) (ok : Prop) : Prop := (∀ t : Int, 0 ≤ t → t ≠ top → zvc F d Nz t = zvc F d Mz t) ∧ zLow d Mz Nz ∧ ((ok ∧ zvc F d Nz top = r ∧ ze Nz (d + 33) 6 = ze Mz (d + 33) 6) ∨ (¬ ok ∧ zvc F d Nz top = (fun _ => 0) ∧ ze Nz (d + 33) 6 = 1))
theorem zOk_1 {top : Int} {r f : Nat → Int} {ok : Prop} (hF : F ≤ 27) (t0 : 21 ≤ top) (h1 : zSh F d Mz Nz top f) (hf : (fun k : Nat => if k < F then f k else 0) = r) (h6 : ze Nz (d + 33) 6 = ze Mz (d + 33) 6) (hok : ok) (h2 : ∀ x : Nat, zg Pz (d + 25) x = zg Nz (d + 25) x) (h7 : ze Pz (d + 33) 6 = ze Nz (d + 33) 6) : zOk F d Mz Pz top r ok := by
  refine ⟨fun t t1 t2 => ?_, (zLow.sh h1 t0).tr (fun x _ => h2 x), Or.inl ⟨hok, ?_, h7.trans h6⟩⟩
  · rw [zvc_r h2]
    exact zSh_o hF (by omega) t1 (Ne.symm t2) h1
  · rw [zvc_r h2]
    exact (zSh_n (by omega) h1).trans hf
theorem zOk_2 {top : Int} {r f g : Nat → Int} {ok : Prop} (hF : F ≤ 27) (t0 : 21 ≤ top) (h1 : zSh F d Mz Nz top f) (hok : ¬ ok) (h2 : zSh F d Nz Pz top g) (hg : (fun k : Nat => if k < F then g k else 0) = fun _ => 0) (h7 : ze Pz (d + 33) 6 = 1) : zOk F d Mz Pz top r ok := by
  refine ⟨fun t t1 t2 => ?_, (zLow.sh h1 t0).tr (zLow.sh h2 t0), Or.inr ⟨hok, ?_, h7⟩⟩
  · rw [zSh_o hF (by omega) t1 (Ne.symm t2) h2]
    exact zSh_o hF (by omega) t1 (Ne.symm t2) h1
  · exact (zSh_n (by omega) h2).trans hg
theorem zOk_3 {top : Int} {r g : Nat → Int} {ok : Prop} (hF : F ≤ 27) (t0 : 21 ≤ top) (h1 : ∀ x : Nat, zg Nz (d + 25) x = zg Mz (d + 25) x) (hok : ¬ ok) (h2 : zSh F d Nz Pz top g) (hg : (fun k : Nat => if k < F then g k else 0) = fun _ => 0) (h7 : ze Pz (d + 33) 6 = 1) : zOk F d Mz Pz top r ok := by
  refine ⟨fun t t1 t2 => ?_, (fun x hx => (zLow.sh h2 t0 x hx).trans (h1 x)), Or.inr ⟨hok, ?_, h7⟩⟩
  · rw [zSh_o hF (by omega) t1 (Ne.symm t2) h2, zvc_r h1]
  · exact (zSh_n (by omega) h2).trans hg
def zRm (o : Option (Nat → Int)) (v : Nat → Int) (g g0 : Int) : Prop := (∀ u, o = some u → g = g0 ∧ v = u) ∧ (o = none → g = 1)
def zRa (F : Nat) (K : Nat → Nat → Int) (d : Nat) (Mz Nz : zMem) (k : Int) : Prop := zvc F d Nz 39 = zvc F d Mz (20 + ze Mz (d + 33) 3) ∧ (∀ t : Int, 21 ≤ t → t < 20 + ze Mz (d + 33) 3 → zvc F d Nz t = zvc F d Mz t) ∧ zLow d Mz Nz ∧ zfit F K (zvc F d Nz (20 + ze Mz (d + 33) 3)) ∧ zRm (zpw F K (zvc F d Mz (20 + ze Mz (d + 33) 3)) k.toNat) (zvc F d Nz (20 + ze Mz (d + 33) 3)) (ze Nz (d + 33) 6) (ze Mz (d + 33) 6)
theorem zRa_0 (hA : zTA F K) {top : Int} (ht : top = 20 + ze Mz (d + 33) 3) (t0 : 21 ≤ top) (t1 : top ≤ 38) (h1 : zSh F d Mz Nz 39 (zvc F d Mz top)) (h2 : zSh F d Nz Pz top (zone ((F : Int) - 1) 1)) (h6 : ze Pz (d + 33) 6 = ze Mz (d + 33) 6) : zRa F K d Mz Pz 0 := by
  have hF := hA.1
  have e1 : zvc F d Pz top = zone ((F : Int) - 1) 1 := (zSh_n (by omega) h2).trans (zone_n (by omega) (by omega))
  unfold zRa
  rw [← ht]
  refine ⟨?_, fun t a1 a2 => ?_, (zLow.sh h1 (by omega)).tr (zLow.sh h2 t0), ?_, fun u hu => ?_, fun hu => ?_⟩
  · rw [zSh_o hF.2 (by omega) (by omega) (by omega) h2]
    exact (zSh_n (by omega) h1).trans (zvc_i _)
  · rw [zSh_o hF.2 (by omega) (by omega) (by omega) h2, zSh_o hF.2 (by omega) (by omega) (by omega) h1]
  · rw [e1]
    exact zone_fit hA (by omega) (by omega) (by omega) (by omega)
  · have e2 : zpw F K (zvc F d Mz top) (0 : Int).toNat = some (zone ((F : Int) - 1) 1) := rfl
    rw [e2] at hu
    injection hu with hu
    exact ⟨h6, e1.trans hu⟩
  · have e2 : zpw F K (zvc F d Mz top) (0 : Int).toNat = some (zone ((F : Int) - 1) 1) := rfl
    rw [e2] at hu
    cases hu
theorem zRa_s {k top : Int} (ht : top = 20 + ze Mz (d + 33) 3) (t0 : 21 ≤ top) (t1 : top ≤ 38) (k0 : 0 ≤ k) (h : zRa F K d Mz Nz k) (hk : zOk F d Nz Pz top (zprd F K (zvc F d Nz top) (zvc F d Nz 39)) (zmok F K (zvc F d Nz top) (zvc F d Nz 39) ∧ zfit F K (zprd F K (zvc F d Nz top) (zvc F d Nz 39)))) : zRa F K d Mz Pz (k + 1) := by
  unfold zRa at h ⊢
  rw [← ht] at h ⊢
  obtain ⟨a1, a2, a3, a4, a5, a6⟩ := h
  obtain ⟨b1, b2, b3⟩ := hk
  rw [a1] at b3
  have hz : zpw F K (zvc F d Mz top) (k + 1).toNat = (match zpw F K (zvc F d Mz top) k.toNat with | none => none | some v => zif (zmok F K v (zvc F d Mz top) ∧ zfit F K (zprd F K v (zvc F d Mz top))) (some (zprd F K v (zvc F d Mz top))) none) := by
    rw [show (k + 1).toNat = k.toNat + 1 by omega]
    rfl
  refine ⟨(b1 39 (by omega) (by omega)).trans a1, fun t c1 c2 => (b1 t (by omega) (by omega)).trans (a2 t c1 c2), a3.tr b2, ?_, ?_⟩
  · rcases b3 with ⟨c1, c2, c3⟩ | ⟨c1, c2, c3⟩
    · rw [c2]
      exact c1.2
    · rw [c2]
      exact zero_fit
  · cases hw : zpw F K (zvc F d Mz top) k.toNat with
    | none =>
      have hz1 : zpw F K (zvc F d Mz top) (k + 1).toNat = none := by rw [hz, hw]
      rw [hz1]
      refine ⟨fun u hu => (by cases hu), fun _ => ?_⟩
      have g1 := a6 hw
      rcases b3 with ⟨c1, c2, c3⟩ | ⟨c1, c2, c3⟩
      · exact c3.trans g1
      · exact c3
    | some v =>
      have hz1 : zpw F K (zvc F d Mz top) (k + 1).toNat = zif (zmok F K v (zvc F d Mz top) ∧ zfit F K (zprd F K v (zvc F d Mz top))) (some (zprd F K v (zvc F d Mz top))) none := by rw [hz, hw]
      rw [hz1]
      obtain ⟨g1, g2⟩ := a5 v hw
      rw [g2] at b3
      rcases b3 with ⟨c1, c2, c3⟩ | ⟨c1, c2, c3⟩
      · rw [zif_t c1]
        refine ⟨fun u hu => ?_, fun hu => (by cases hu)⟩
        injection hu with hu
        exact ⟨c3.trans g1, c2.trans hu⟩
      · rw [zif_f c1]
        exact ⟨fun u hu => (by cases hu), fun hu => c3⟩
theorem zpo_n {v : Nat → Int} {vs : List (Nat → Int)} {n : Nat} (h : zpw F K v n = none) : zpo F K n (v :: vs) false = ([], true) := by
  show (match zpw F K v n with | none => ([], true) | some u => (u :: vs, false)) = _
  rw [h]
theorem zpo_v {v u : Nat → Int} {vs : List (Nat → Int)} {n : Nat} (h : zpw F K v n = some u) : zpo F K n (v :: vs) false = (u :: vs, false) := by
  show (match zpw F K v n with | none => ([], true) | some u => (u :: vs, false)) = _
  rw [h]
theorem zRa_e (hI : zCI F K d 1 Mz) {k : Int} {n : Nat} (hk : k.toNat = n) (h : zRa F K d Mz Nz k) (h2 : ze Nz (d + 33) 2 = ze Mz (d + 33) 2) (h35 : ∀ i : Nat, ze Nz (d + 35) i = ze Mz (d + 35) i) (h3 : ze Nz (d + 33) 3 = ze Mz (d + 33) 3) (h4 : ze Nz (d + 33) 4 = ze Mz (d + 33) 4) (h5 : ze Nz (d + 33) 5 = ze Mz (d + 33) 5) : zCI F K d 1 Nz ∧ zkS d Nz = zkS d Mz ∧ zkW F d Nz = (zpo F K n (zkW F d Mz) (zkG d Mz)).1 ∧ zkG d Nz = (zpo F K n (zkW F d Mz) (zkG d Mz)).2 ∧ zLow d Mz Nz := by
  obtain ⟨a1, a2, a3, a4, a5, a6⟩ := h
  rw [hk] at a5 a6
  have h1 : 1 ≤ ze Mz (d + 33) 3 := by
    have := hI.2.2.2.2.1
    omega
  have h6 : ze Nz (d + 33) 6 = 0 ∨ ze Nz (d + 33) 6 = 1 := by
    have g := hI.2.2.2.2.2.1
    cases hw : zpw F K (zvc F d Mz (20 + ze Mz (d + 33) 3)) n with
    | none => exact Or.inr (a6 hw)
    | some v => rw [(a5 v hw).1]; exact g
  obtain ⟨b1, b2⟩ := zCI_tv hI h2 h35 h3 h4 h5 h6 rfl a2 a4
  obtain ⟨vs, c1, c2⟩ := zkV_t (F := F) h1 h3 rfl a2
  refine ⟨b1, b2, ?_, ?_, a3⟩
  all_goals
    cases hG : zkG d Mz with
    | true =>
      have hW : zkW F d Mz = [] := by
        unfold zkW
        rw [if_pos hG]
      have hM6 : ze Mz (d + 33) 6 = 1 := by
        have g := hI.2.2.2.2.2.1
        unfold zkG at hG
        have := of_decide_eq_true hG
        omega
      have hN6 : ze Nz (d + 33) 6 = 1 := by
        cases hw : zpw F K (zvc F d Mz (20 + ze Mz (d + 33) 3)) n with
        | none => exact a6 hw
        | some v => rw [(a5 v hw).1]; exact hM6
      have hGN : zkG d Nz = true := by
        unfold zkG
        rw [hN6]
        rfl
      rw [hW]
      first
      | exact hGN
      | (unfold zkW; rw [if_pos hGN]; rfl)
    | false =>
      have hW : zkW F d Mz = zvc F d Mz (20 + ze Mz (d + 33) 3) :: vs := by
        unfold zkW
        rw [hG, c1]
        rfl
      have hM6 : ze Mz (d + 33) 6 = 0 := by
        unfold zkG at hG
        have := of_decide_eq_false hG
        omega
      rw [hW]
      cases hw : zpw F K (zvc F d Mz (20 + ze Mz (d + 33) 3)) n with
      | none =>
        have hGN : zkG d Nz = true := by
          unfold zkG
          rw [a6 hw]
          rfl
        rw [zpo_n hw]
        first
        | exact hGN
        | (unfold zkW; rw [if_pos hGN])
      | some v =>
        obtain ⟨g1, g2⟩ := a5 v hw
        have hGN : zkG d Nz = false := by
          unfold zkG
          rw [g1, hM6]
          rfl
        rw [zpo_v hw]
        first
        | exact hGN
        | (unfold zkW; rw [hGN, c2, g2]; rfl)
theorem zrk_e {x : Nat} {t : zTr} (h : ∀ y, t.1.head? = some y → y < x) : ∀ k, zrk F K x k t = t
  | 0 => rfl
  | k + 1 => by
    unfold zrk
    cases ht : t.1 with
    | nil => rfl
    | cons y r =>
      have := h y (by rw [ht]; rfl)
      simp only
      rw [if_neg (by omega)]
theorem zrk_s {x y : Nat} {r : List Nat} {W : List (Nat → Int)} {G : Bool} (h : x ≤ y) : zrk F K x (r.length + 1) (y :: r, W, G) = zrk F K x r.length (zwk1 F K (y :: r, W, G)) := by
  show (if x ≤ y then zrk F K x r.length (zwk1 F K (y :: r, W, G)) else _) = _
  rw [if_pos h]
theorem zbn_h {r : List Nat} (h : zbn r = 0) {y : Nat} (hy : r.head? = some y) : y < 2 := by
  cases r with
  | nil => cases hy
  | cons x r =>
    injection hy with hy
    rw [zbn_c] at h
    rw [← hy]
    split at h <;> omega
theorem zrk_st (hI : zCI F K d 1 Mz) {c : Int} (hcc : c = 42 ∨ c = 43 ∨ c = 45) (h1 : 1 ≤ ze Mz (d + 33) 2) (hc : c = ze Mz (d + 35) (ze Mz (d + 33) 2 - 1).toNat) (h35 : ∀ i : Nat, ze Pz (d + 35) i = ze Mz (d + 35) i) (h2 : ze Pz (d + 33) 2 = ze Mz (d + 33) 2 - 1) (h3 : ze Pz (d + 33) 3 = ze Mz (d + 33) 3 - 1) (h4 : ze Pz (d + 33) 4 = ze Mz (d + 33) 4) (h5 : ze Pz (d + 33) 5 = ze Mz (d + 33) 5) (h6 : ze Nz (d + 33) 6 = ze Mz (d + 33) 6) (hv : ∀ t : Int, zvc F d Nz t = zvc F d Mz t) {ok : Prop} {top : Int} {r : Nat → Int} (ht : top = 19 + ze Mz (d + 33) 3) (hr : r = zop F K (zsgn c) (zvc F d Mz (19 + ze Mz (d + 33) 3)) (zvc F d Mz (20 + ze Mz (d + 33) 3))) (hok : ok ↔ ((zsgn c = 4 → zmok F K (zvc F d Mz (19 + ze Mz (d + 33) 3)) (zvc F d Mz (20 + ze Mz (d + 33) 3))) ∧ zfit F K r)) (hk : zOk F d Nz Pz top r ok) : zCI F K d 1 Pz ∧ zkS d Mz = zsgn c :: zkS d Pz ∧ (zkS d Pz, zkW F d Pz, zkG d Pz) = zwk1 F K (zkS d Mz, zkW F d Mz, zkG d Mz) ∧ (zkS d Pz).head? ≠ some 1 := by
  have hb := hI.b
  obtain ⟨a1, a2, a3, a4, a5, a6, a7, a8, a9⟩ := id hI
  have hS := zkS_p h1 hc h2 (fun i _ => h35 i)
  have hx : 2 ≤ zsgn c ∧ zsgn c ≤ 4 := by rcases hcc with rfl | rfl | rfl <;> decide
  subst ht
  obtain ⟨b1, b2, b3⟩ := hk
  have hv3 : 2 ≤ ze Mz (d + 33) 3 := by
    rw [hS, zbn_c, if_pos hx.1] at a5
    omega
  obtain ⟨vs, c1, c2⟩ := zkV_2 (F := F) (Nz := Pz) hv3 h3 rfl (fun t t0 t1 => (b1 t (by omega) (by omega)).trans (hv t))
  rw [hS] at a3 a4 a5 a7 a8
  rw [zdp_c, if_neg (by omega : ¬ zsgn c ≤ 1)] at a3 a8
  rw [zop0_c, if_neg (by omega : ¬ zsgn c = 0)] at a4
  rw [zbn_c, if_pos hx.1] at a5
  have hfit : zfit F K (zvc F d Pz (19 + ze Mz (d + 33) 3)) := by
    rcases b3 with ⟨g1, g2, g3⟩ | ⟨g1, g2, g3⟩
    · rw [g2]
      exact (hok.mp g1).2
    · rw [g2]
      exact zero_fit
  have hP6 : ze Pz (d + 33) 6 = 0 ∨ ze Pz (d + 33) 6 = 1 := by
    rcases b3 with ⟨g1, g2, g3⟩ | ⟨g1, g2, g3⟩ <;> omega
  refine ⟨?_, hS, ?_, ?_⟩
  · unfold zCI
    rw [h2, h3, h4, h5]
    refine ⟨by omega, fun i hi => by rw [h35 i]; exact a2 i (by omega), by omega, by omega, by omega, hP6, a7.2.2, by omega, fun t t0 t1 => ?_⟩
    by_cases g : t = 19 + ze Mz (d + 33) 3
    · rw [g]; exact hfit
    · rw [b1 t (by omega) g, hv]
      exact a9 t t0 (by omega)
  · rw [hS]
    cases hG : zkG d Mz with
    | true =>
      have hM6 : ze Mz (d + 33) 6 = 1 := by
        unfold zkG at hG
        have := of_decide_eq_true hG
        omega
      have hGP : zkG d Pz = true := by
        unfold zkG
        rcases b3 with ⟨g1, g2, g3⟩ | ⟨g1, g2, g3⟩
        · rw [g3, h6, hM6]; rfl
        · rw [g3]; rfl
      unfold zkW
      rw [if_pos hGP, if_pos hG, hGP]
      rfl
    | false =>
      have hM6 : ze Mz (d + 33) 6 = 0 := by
        unfold zkG at hG
        have := of_decide_eq_false hG
        omega
      have hW : zkW F d Mz = zvc F d Mz (20 + ze Mz (d + 33) 3) :: zvc F d Mz (19 + ze Mz (d + 33) 3) :: vs := by
        unfold zkW
        rw [hG, c1]
        rfl
      rw [hW]
      have hw1 : zwk1 F K (zsgn c :: zkS d Pz, zvc F d Mz (20 + ze Mz (d + 33) 3) :: zvc F d Mz (19 + ze Mz (d + 33) 3) :: vs, false) = zif ((zsgn c = 4 → zmok F K (zvc F d Mz (19 + ze Mz (d + 33) 3)) (zvc F d Mz (20 + ze Mz (d + 33) 3))) ∧ zfit F K r) (zkS d Pz, r :: vs, false) (zkS d Pz, [], true) := by
        rw [hr]
        rfl
      rw [hw1]
      rcases b3 with ⟨g1, g2, g3⟩ | ⟨g1, g2, g3⟩
      · rw [zif_t (hok.mp g1)]
        have hGP : zkG d Pz = false := by
          unfold zkG
          rw [g3, h6, hM6]
          rfl
        unfold zkW
        rw [hGP, c2, g2]
        rfl
      · rw [zif_f (fun q => g1 (hok.mpr q))]
        have hGP : zkG d Pz = true := by
          unfold zkG
          rw [g3]
          rfl
        unfold zkW
        rw [hGP]
        rfl
  · intro hh
    have hw := a7.2.1 1 hh
    unfold zwp at hw
    have h4' := hw.1
    have h5' := hw.2
    have : zsgn c = 2 ∨ zsgn c = 3 ∨ zsgn c = 4 := by omega
    rcases this with g | g | g
    · exact absurd (h5' (Or.inl g)) (by decide)
    · exact absurd (h5' (Or.inr g)) (by decide)
    · exact (h4' g).1 rfl
end ZKL
