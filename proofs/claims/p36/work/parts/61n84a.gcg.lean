noncomputable def gsr (T : zGT) (X : Nat) : Nat := @dite _ (∃ i : Nat, ∃ R, gLC T X R ∧ zSrt T R ((i : Nat) : Int)) (Classical.propDecidable _) (fun h => Classical.choose h) (fun _ => 0)
theorem gsr_u {T : zGT} (hO : gOK T) {X R : Nat} {v : Int} (h : gLC T X R) (hv : zSrt T R v) : v = ((gsr T X : Nat) : Int) := by
  have he : ∃ i : Nat, ∃ R, gLC T X R ∧ zSrt T R ((i : Nat) : Int) := ⟨v.toNat, R, h, by rw [Int.toNat_of_nonneg hv.1.1]; exact hv⟩
  have hs := Classical.choose_spec he
  have e : gsr T X = Classical.choose he := by
    unfold gsr
    rw [dif_pos he]
  obtain ⟨R', h1, h2⟩ := hs
  obtain rfl := h.uq h1
  rw [e]
  exact hv.u hO h2
theorem gsr_c {T : zGT} {X Y : Nat} (h : ∀ R, gLC T X R ↔ gLC T Y R) : gsr T X = gsr T Y := by
  have e : (fun i : Nat => ∃ R, gLC T X R ∧ zSrt T R ((i : Nat) : Int)) = (fun i : Nat => ∃ R, gLC T Y R ∧ zSrt T R ((i : Nat) : Int)) := funext fun i => propext ⟨fun ⟨R, h1, h2⟩ => ⟨R, (h R).mp h1, h2⟩, fun ⟨R, h1, h2⟩ => ⟨R, (h R).mpr h1, h2⟩⟩
  unfold gsr
  rw [e]
section GCG
variable {T : zGT} {H g x y h : Nat}
theorem gmz (hA : gGr T) (hG : gGd T) : gm T 0 0 = 0 := hA.1.2.1 0 (by have := hG.1; omega)
theorem gCl_i (hA : gGr T) (hG : gGd T) (hX : gEx T) (hB : gCl T H) (ha : h < gN T) (hb : H.testBit h = true) : H.testBit (gi T h) = true := by
  obtain ⟨V, ⟨hv1, hv2, -⟩, -⟩ := gOr_x hG hX ha
  have hin : ∀ k, H.testBit (gpw T h k) = true := fun k => by
    induction k with
    | zero => exact hb
    | succ k ih => exact hB.2 _ _ (gpw_lt hG ha k) ha ih hb
  have h1 := hA.2 h ha
  have hl := hA.l hG ha
  have key : ∀ b, b < gN T → gm T b h = 0 → gi T h = b := fun b hb1 hb2 => by
    have e : gm T b (gm T h (gi T h)) = gm T (gm T b h) (gi T h) := (hA.1.1 _ _ _ hb1 ha h1.1).symm
    rw [h1.2, hb2, hA.1.2.2 b hb1, hA.1.2.1 _ h1.1] at e
    exact e.symm
  by_cases g : V = 1
  · rw [g] at hv2
    have e : h = 0 := hv2
    have := key 0 (by have := hG.1; omega) (by rw [e]; exact gmz hA hG)
    rw [this]
    exact hB.1
  · rw [show V - 1 = V - 2 + 1 by omega] at hv2
    rw [key _ (gpw_lt hG ha (V - 2)) hv2]
    exact hin _
theorem gcos_k (hA : gGr T) (hG : gGd T) (hB : gCl T H) (hx : x < gN T) : ∀ k, k ≤ gN T → (∀ h, h < k → H.testBit h = true → gup (gcoF T H x) x k ≤ gm T h x) ∧ ∃ h, h < gN T ∧ H.testBit h = true ∧ gup (gcoF T H x) x k = gm T h x
  | 0, _ => ⟨fun h hh => absurd hh (Nat.not_lt_zero h), 0, by omega, hB.1, (hA.1.2.1 x hx).symm⟩
  | k + 1, hk => by
    obtain ⟨h1, h2, h3, h4, h5⟩ := gcos_k hA hG hB hx k (by omega)
    have e : gup (gcoF T H x) x (k + 1) = if (H.testBit k && decide (gm T k x < gup (gcoF T H x) x k)) = true then gm T k x else gup (gcoF T H x) x k := rfl
    rw [e]
    by_cases c : (H.testBit k && decide (gm T k x < gup (gcoF T H x) x k)) = true
    · rw [if_pos c]
      rw [Bool.and_eq_true, decide_eq_true_iff] at c
      refine ⟨fun h hh hb => ?_, k, by omega, c.1, rfl⟩
      by_cases q : h = k
      · rw [q]
        exact Nat.le_refl _
      · exact Nat.le_trans (Nat.le_of_lt c.2) (h1 h (by omega) hb)
    · rw [if_neg c]
      refine ⟨fun h hh hb => ?_, h2, h3, h4, h5⟩
      by_cases q : h = k
      · rw [q] at hb ⊢
        rcases Nat.lt_or_ge (gm T k x) (gup (gcoF T H x) x k) with q2 | q2
        · refine absurd ?_ c
          rw [hb, decide_eq_true q2]
          rfl
        · exact q2
      · exact h1 h (by omega) hb
theorem gcos_x (hA : gGr T) (hG : gGd T) (hB : gCl T H) (hx : x < gN T) : (∀ h, h < gN T → H.testBit h = true → gcos T H x ≤ gm T h x) ∧ ∃ h, h < gN T ∧ H.testBit h = true ∧ gcos T H x = gm T h x := by
  rw [gcos_e]
  exact gcos_k hA hG hB hx (gN T) (Nat.le_refl _)
theorem gcos_h (hA : gGr T) (hG : gGd T) (hX : gEx T) (hB : gCl T H) (hx : x < gN T) (ha : h < gN T) (hb : H.testBit h = true) : gcos T H (gm T h x) = gcos T H x := by
  have hy := hG.2.2.2 h x ha hx
  obtain ⟨a1, k, k1, k2, k3⟩ := gcos_x hA hG hB hx
  obtain ⟨b1, m, m1, m2, m3⟩ := gcos_x hA hG hB hy
  have hi := hA.2 h ha
  have hib := gCl_i hA hG hX hB ha hb
  refine Nat.le_antisymm ?_ ?_
  · have e : gm T (gm T k (gi T h)) (gm T h x) = gm T k x := by
      rw [hA.1.1 _ _ _ k1 hi.1 hy, ← hA.1.1 _ _ _ hi.1 ha hx, hA.l hG ha, hA.1.2.1 x hx]
    rw [k3, ← e]
    exact b1 _ (hG.2.2.2 _ _ k1 hi.1) (hB.2 _ _ k1 hi.1 k2 hib)
  · rw [m3, ← hA.1.1 _ _ _ m1 ha hx]
    exact a1 _ (hG.2.2.2 _ _ m1 ha) (hB.2 _ _ m1 ha m2 hb)
theorem gcos_lt (hA : gGr T) (hG : gGd T) (hB : gCl T H) (hx : x < gN T) : gcos T H x < gN T := by
  obtain ⟨-, k, k1, k2, k3⟩ := gcos_x hA hG hB hx
  rw [k3]
  exact hG.2.2.2 _ _ k1 hx
theorem gcos_i (hA : gGr T) (hG : gGd T) (hX : gEx T) (hB : gCl T H) (hx : x < gN T) : gcos T H (gcos T H x) = gcos T H x := by
  obtain ⟨-, k, k1, k2, k3⟩ := gcos_x hA hG hB hx
  conv => lhs; rw [k3]
  exact gcos_h hA hG hX hB hx k1 k2
theorem gcos_n (hA : gGr T) (hG : gGd T) (hX : gEx T) (hB : gCl T H) (hH : H < 2 ^ gN T) (hx : x < gN T) (hc : gcos T H x = x) : zct (fun y => gcos T H y = x) (gN T) = gcb H := by
  have h24 := hG.2.1
  rw [gcb_nz hH (by omega), ← zct_ip (p := fun i => H.testBit i = true) (g := fun h => gm T h x) (n := gN T) (gN T) (fun k hk _ => hG.2.2.2 _ _ hk hx) (fun i j hij hj _ _ e => by
    have := hA.rc hG hx (by omega : i < gN T) hj e
    omega)]
  refine zct_c (fun y hy => ?_)
  constructor
  · intro e
    obtain ⟨-, k, k1, k2, k3⟩ := gcos_x hA hG hB hy
    have hi := hA.2 k k1
    refine ⟨gi T k, hi.1, gCl_i hA hG hX hB k1 k2, ?_⟩
    show gm T (gi T k) x = y
    rw [← e, k3, ← hA.1.1 _ _ _ hi.1 k1 hy, hA.l hG k1, hA.1.2.1 y hy]
  · rintro ⟨k, k1, k2, k3⟩
    have e : gm T k x = y := k3
    rw [← e, gcos_h hA hG hX hB hx k1 k2, hc]
theorem gtr_in (hA : gGr T) (hG : gGd T) (hX : gEx T) (hB : gCl T H) (hH : H < 2 ^ gN T) (ha : h < gN T) (hb : H.testBit h = true) : gtr T H h = H := by
  have hi := hA.2 h ha
  have hib := gCl_i hA hG hX hB ha hb
  refine Nat.eq_of_testBit_eq fun y => ?_
  rw [Bool.eq_iff_iff, gtr_x hG ha]
  constructor
  · rintro ⟨x, x1, x2, rfl⟩
    exact hB.2 _ _ (hG.2.2.2 _ _ hi.1 x1) ha (hB.2 _ _ hi.1 x1 hib x2) hb
  · intro hy
    have hyn := gbit_lt hH hy
    refine ⟨gm T (gm T h y) (gi T h), hG.2.2.2 _ _ (hG.2.2.2 _ _ ha hyn) hi.1, hB.2 _ _ (hG.2.2.2 _ _ ha hyn) hi.1 (hB.2 _ _ ha hyn hb hy) hib, ?_⟩
    rw [← hA.1.1 _ _ _ hi.1 (hG.2.2.2 _ _ ha hyn) hi.1, ← hA.1.1 _ _ _ hi.1 ha hyn, hA.l hG ha, hA.1.2.1 y hyn, hA.1.1 _ _ _ hyn hi.1 ha, hA.l hG ha, hA.1.2.2 y hyn]
theorem gtr_co (hA : gGr T) (hG : gGd T) (hX : gEx T) (hB : gCl T H) (hH : H < 2 ^ gN T) (hx : x < gN T) : gtr T H (gcos T H x) = gtr T H x := by
  obtain ⟨-, k, k1, k2, k3⟩ := gcos_x hA hG hB hx
  rw [k3, ← gtr_cm hA hG k1 hx, gtr_in hA hG hX hB hH k1 k2]
theorem gsr_co (hA : gGr T) (hG : gGd T) (hX : gEx T) (hB : gCl T H) (hx : x < gN T) : gsr T (H ||| 2 ^ gcos T H x) = gsr T (H ||| 2 ^ x) := by
  obtain ⟨-, k, k1, k2, k3⟩ := gcos_x hA hG hB hx
  have hi := hA.2 k k1
  have hib := gCl_i hA hG hX hB k1 k2
  have hy := hG.2.2.2 k x k1 hx
  have key : ∀ C, gCl T C → (gSb (H ||| 2 ^ gcos T H x) C ↔ gSb (H ||| 2 ^ x) C) := fun C hC => by
    rw [k3]
    constructor
    · intro h
      have h1 : gSb H C := fun q hq => h q (gSb.ol _ _ q hq)
      have h2 : C.testBit (gm T k x) = true := h _ (gSb.orr _ _ _ (by rw [Nat.testBit_two_pow, decide_eq_true_iff]))
      refine gSb.or h1 (gSb.p2 ?_)
      have h3 := hC.2 _ _ hi.1 hy (h1 _ hib) h2
      rw [← hA.1.1 _ _ _ hi.1 k1 hx, hA.l hG k1, hA.1.2.1 x hx] at h3
      exact h3
    · intro h
      have h1 : gSb H C := fun q hq => h q (gSb.ol _ _ q hq)
      have h2 : C.testBit x = true := h _ (gSb.orr _ _ _ (by rw [Nat.testBit_two_pow, decide_eq_true_iff]))
      exact gSb.or h1 (gSb.p2 (hC.2 _ _ k1 hx (h1 _ k2) h2))
  refine gsr_c (fun R => ?_)
  constructor
  · rintro ⟨a1, a2, a3, a4⟩
    exact ⟨a1, (key R a3).mp a2, a3, fun C hC hs => a4 C hC ((key C hC).mpr hs)⟩
  · rintro ⟨a1, a2, a3, a4⟩
    exact ⟨a1, (key R a3).mpr a2, a3, fun C hC hs => a4 C hC ((key C hC).mp hs)⟩
end GCG
noncomputable def zmi (T : zGT) (H : Nat) (F : Nat → Int) (x : Nat) : Int := zif (gtr T H x = H ∧ gcos T H x = x) (F x) 0
noncomputable def zni (T : zGT) (H : Nat) (F : Nat → Int) (x : Nat) : Int := zif (gtr T H x = H) (F x) 0
theorem zsm_zct {c : Int} (p : Nat → Prop) : ∀ n, zsm (fun g => zif (p g) c 0) n = c * ((zct p n : Nat) : Int)
  | 0 => (Int.mul_zero c).symm
  | n + 1 => by
    show zsm (fun g => zif (p g) c 0) n + zif (p n) c 0 = c * ((zct p (n + 1) : Nat) : Int)
    rw [zsm_zct p n]
    by_cases h : p n
    · rw [zif_t h, zct_t h]
      show _ = c * (((zct p n : Nat) : Int) + 1)
      rw [Int.mul_add, Int.mul_one]
    · rw [zif_f h, zct_f h, Int.add_zero]
theorem zcg_m {T : zGT} {H : Nat} (hA : gGr T) (hG : gGd T) (hX : gEx T) (hB : gCl T H) (hH : H < 2 ^ gN T) (F : Nat → Int) (hF : ∀ g, g < gN T → F (gcos T H g) = F g) : zsm (zni T H F) (gN T) = ((gcb H : Nat) : Int) * zsm (zmi T H F) (gN T) := by
  have e1 : ∀ g, g < gN T → zni T H F g = zsm (fun x => zif (gcos T H g = x) (zmi T H F x) 0) (gN T) := fun g hg => by
    rw [zsm_1 (f := fun x => zif (gcos T H g = x) (zmi T H F x) 0) (a := gcos T H g) (gcos_lt hA hG hB hg) (fun i _ hi => zif_f (fun q => hi q.symm))]
    show _ = zif (gcos T H g = gcos T H g) (zmi T H F (gcos T H g)) 0
    rw [zif_t rfl]
    unfold zni zmi
    rw [gtr_co hA hG hX hB hH hg, gcos_i hA hG hX hB hg, hF g hg]
    by_cases c : gtr T H g = H
    · rw [zif_t c, zif_t ⟨c, rfl⟩]
    · rw [zif_f c, zif_f (fun q => c q.1)]
  rw [zsm_c _ e1, zsm_sw, ← zsm_mul]
  refine zsm_c _ (fun x hx => ?_)
  rw [zsm_zct (c := zmi T H F x) (fun g => gcos T H g = x)]
  unfold zmi
  by_cases c : gtr T H x = H ∧ gcos T H x = x
  · rw [zif_t c, gcos_n hA hG hX hB hH hx c.2, Int.mul_comm]
  · rw [zif_f c, Int.mul_zero, Int.zero_mul]
theorem gmm_z (T : zGT) (H : Nat) : ∀ k, ((gup (gmmF T H) 0 k : Nat) : Int) = zsm (zmi T H (fun _ => 1)) k
  | 0 => rfl
  | k + 1 => by
    show ((gmmF T H k (gup (gmmF T H) 0 k) : Nat) : Int) = zsm (zmi T H (fun _ => 1)) k + zif (gtr T H k = H ∧ gcos T H k = k) 1 0
    rw [← gmm_z T H k]
    unfold gmmF
    by_cases c : gtr T H k = H ∧ gcos T H k = k
    · rw [if_pos c, zif_t c]
      rfl
    · rw [if_neg c, zif_f c, Int.add_zero]
theorem zni_n (T : zGT) (H : Nat) (n : Nat) : zsm (zni T H (fun _ => 1)) n = ((zct (fun g => gtr T H g = H) n : Nat) : Int) := by
  have h := zsm_zct (c := 1) (fun g => gtr T H g = H) n
  rw [Int.one_mul] at h
  exact h
noncomputable def zcgF (T : zGT) (H : Nat) (f : Nat → Int) : Nat → Int := fun x => f (gsr T (H ||| 2 ^ x))
def zCgr (T : zGT) (H : Nat) (f : Nat → Int) : Prop := ((gmm T H : Nat) : Int) ∣ zsm (zmi T H (zcgF T H f)) (gN T)
section ZCG
variable {T : zGT} {H : Nat} {f : Nat → Int}
theorem zcg_f (hT : T ∈ gTabs) (hA : gGr T) (hF : H ∈ gF T) (f : Nat → Int) : zsm (zni T H (zcgF T H f)) (gN T) = ((gcb H : Nat) : Int) * zsm (zmi T H (zcgF T H f)) (gN T) ∧ ((zct (fun g => gtr T H g = H) (gN T) : Nat) : Int) = ((gcb H : Nat) : Int) * ((gmm T H : Nat) : Int) ∧ 1 ≤ gcb H := by
  have hO := gTabs_ok T hT
  have hX := gTabs_ex T hT
  have hs := (hO.2.2.1.2.1 H hF).1
  have hsb := (hO.2.1.2.2 H hs).1
  refine ⟨zcg_m hA hO.1 hX hsb.2.2 hsb.2.1 _ (fun g hg => ?_), ?_, ?_⟩
  · unfold zcgF
    rw [gsr_co hA hO.1 hX hsb.2.2 hg]
  · rw [← zni_n, zcg_m hA hO.1 hX hsb.2.2 hsb.2.1 (fun _ => 1) (fun _ _ => rfl)]
    rw [show ((gmm T H : Nat) : Int) = zsm (zmi T H (fun _ => 1)) (gN T) from gmm_z T H (gN T)]
  · exact gcb_p hsb.2.2.1 (hO.sb hs)
theorem zcg_d (hT : T ∈ gTabs) (hA : gGr T) (hF : H ∈ gF T) : ((zct (fun g => gtr T H g = H) (gN T) : Nat) : Int) ∣ zsm (zni T H (zcgF T H f)) (gN T) ↔ zCgr T H f := by
  obtain ⟨h1, h2, h3⟩ := zcg_f hT hA hF f
  rw [h1, h2]
  exact Int.mul_dvd_mul_iff_left (by omega)
theorem zmi_b {F : Nat → Int} {B : Nat} (h : ∀ x, (F x).natAbs ≤ B) (x : Nat) : (zmi T H F x).natAbs ≤ B := by
  unfold zmi
  by_cases c : gtr T H x = H ∧ gcos T H x = x
  · rw [zif_t c]
    exact h x
  · rw [zif_f c]
    exact Nat.zero_le _
theorem zni_b {F : Nat → Int} {B : Nat} (h : ∀ x, (F x).natAbs ≤ B) (x : Nat) : (zni T H F x).natAbs ≤ B := by
  unfold zni
  by_cases c : gtr T H x = H
  · rw [zif_t c]
    exact h x
  · rw [zif_f c]
    exact Nat.zero_le _
end ZCG
def zMkO (T : zGT) (f : Nat → Int) (v : Int) : Prop := (v = 0 ∧ ∀ j, j < (gF T).length → zCgr T (gFn T j) f) ∨ ∃ j : Nat, j < (gF T).length ∧ v = (j : Int) + 1 ∧ ¬ zCgr T (gFn T j) f ∧ ∀ i, i < j → zCgr T (gFn T i) f
theorem zMkO_u {T : zGT} {f : Nat → Int} {v w : Int} (h : zMkO T f v) (h' : zMkO T f w) : v = w := by
  rcases h with ⟨a1, a2⟩ | ⟨j, a1, a2, a3, a4⟩ <;> rcases h' with ⟨b1, b2⟩ | ⟨i, b1, b2, b3, b4⟩
  · omega
  · exact absurd (a2 i b1) b3
  · exact absurd (b2 j a1) a3
  · rcases Nat.lt_trichotomy i j with g | g | g
    · exact absurd (a4 i g) b3
    · omega
    · exact absurd (b4 j g) a3
def zMss (T : zGT) (H : Nat) (M : zMem) (x : Int) : Prop := True ∧ ∀ f : Nat → Int, zsm (fun k => f (ze M 109 k).toNat) (ze M 81 55).toNat = zsm (zmi T H (zcgF T H f)) x.toNat
section ZMS
variable {T : zGT} {H : Nat} {M N P : zMem} {x : Int} {S C : List Nat}
theorem zMss_0 (h : ze M 81 55 = 0) : zMss T H M 0 := ⟨trivial, fun f => by
  rw [h]
  rfl⟩
theorem zMss_n (h : zMss T H M x) (x0 : 0 ≤ x) (hn : gtr T H x.toNat ≠ H ∨ gcos T H x.toNat ≠ x.toNat) : zMss T H M (x + 1) := ⟨trivial, fun f => by
  rw [h.2 f, show (x + 1).toNat = x.toNat + 1 by omega]
  show _ = zsm (zmi T H (zcgF T H f)) x.toNat + zif (gtr T H x.toNat = H ∧ gcos T H x.toNat = x.toNat) (zcgF T H f x.toNat) 0
  rw [zif_f (fun q => by
    rcases hn with hn | hn
    · exact hn q.1
    · exact hn q.2), Int.add_zero]⟩
theorem zMss_s {v : Int} (h : zMss T H M x) (x0 : 0 ≤ x) (h1 : gtr T H x.toNat = H) (h2 : gcos T H x.toNat = x.toNat) (hv : v = ((gsr T (H ||| 2 ^ x.toNat) : Nat) : Int)) (hN : N = zsI M 109 (ze M 81 55).toNat (Int32.ofInt v)) (hv2 : zn32 v) (hP : zFr [55] [] N P) (h55 : ze P 81 55 = ze M 81 55 + 1) (c0 : 0 ≤ ze M 81 55) : zMss T H P (x + 1) := ⟨trivial, fun f => by
  have e1 : ∀ k : Nat, k < (ze M 81 55).toNat → f (ze P 109 k).toNat = f (ze M 109 k).toNat := fun k hk => by
    rw [hP.ie (by decide) (by decide) k, zs_oth hN (by omega)]
  have e2 : ze P 109 (ze M 81 55).toNat = v := by
    rw [hP.ie (by decide) (by decide)]
    exact zs_get hN hv2
  rw [h55, show (ze M 81 55 + 1).toNat = (ze M 81 55).toNat + 1 by omega, show (x + 1).toNat = x.toNat + 1 by omega]
  show zsm (fun k => f (ze P 109 k).toNat) (ze M 81 55).toNat + f (ze P 109 (ze M 81 55).toNat).toNat = zsm (zmi T H (zcgF T H f)) x.toNat + zif (gtr T H x.toNat = H ∧ gcos T H x.toNat = x.toNat) (zcgF T H f x.toNat) 0
  rw [zif_t ⟨h1, h2⟩, zsm_c _ e1, h.2 f, e2, hv, Int.toNat_natCast]
  rfl⟩
theorem zMss.fr (hf : zFr S C M N) (h : zMss T H M x) (hs : 55 ∉ S) (hc : 109 ∉ C) : zMss T H N x := ⟨trivial, fun f => by
  rw [hf.e hs, ← h.2 f]
  exact zsm_c _ (fun k _ => by rw [hf.ie (by decide) hc k])⟩
end ZMS
theorem zsm_s64 {f : Nat → Int} {a b x k : Int} (h : Int64.ofInt a = Int64.ofInt (zsm f k.toNat)) (hb : Int64.ofInt b = Int64.ofInt (a + x)) (hx : x = f k.toNat) (k0 : 0 ≤ k) : Int64.ofInt b = Int64.ofInt (zsm f (k + 1).toNat) := by
  rw [show (k + 1).toNat = k.toNat + 1 by omega]
  show _ = Int64.ofInt (zsm f k.toNat + f k.toNat)
  rw [hb, Int64.ofInt_add, h, hx, ← Int64.ofInt_add]
theorem gsr_lt {T : zGT} (hT : T ∈ gTabs) (X : Nat) : gsr T X < (gF T).length := by
  have hF := (gT_zTA hT).1.1
  by_cases h : ∃ i : Nat, ∃ R, gLC T X R ∧ zSrt T R ((i : Nat) : Int)
  · have hs := Classical.choose_spec h
    have e : gsr T X = Classical.choose h := by
      unfold gsr
      rw [dif_pos h]
    obtain ⟨R', h1, h2⟩ := hs
    have h3 := h2.1
    rw [e]
    omega
  · unfold gsr
    rw [dif_neg h]
    omega
theorem zCgr_c {T : zGT} (hT : T ∈ gTabs) {H : Nat} {f f' : Nat → Int} (h : ∀ j, j < (gF T).length → f j = f' j) : zCgr T H f ↔ zCgr T H f' := by
  have e : zcgF T H f = zcgF T H f' := funext fun x => h _ (gsr_lt hT _)
  unfold zCgr
  rw [e]
theorem zMkO_c {T : zGT} (hT : T ∈ gTabs) {f f' : Nat → Int} {v : Int} (h : ∀ j, j < (gF T).length → f j = f' j) (ho : zMkO T f v) : zMkO T f' v := by
  rcases ho with ⟨a1, a2⟩ | ⟨j, a1, a2, a3, a4⟩
  · exact Or.inl ⟨a1, fun j hj => (zCgr_c hT h).mp (a2 j hj)⟩
  · exact Or.inr ⟨j, a1, a2, fun q => a3 ((zCgr_c hT h).mpr q), fun i hi => (zCgr_c hT h).mp (a4 i hi)⟩
theorem zmi_sb {T : zGT} (hT : T ∈ gTabs) {H n B : Nat} {f : Nat → Int} (hn : n ≤ 24) (hf : ∀ j, j < (gF T).length → (f j).natAbs ≤ B) : (zsm (zmi T H (zcgF T H f)) n).natAbs ≤ 24 * B := by
  have h := zsm_b (f := zmi T H (zcgF T H f)) (B := B) n (fun i _ => zmi_b (fun x => hf _ (gsr_lt hT _)) i)
  exact Nat.le_trans h (Nat.mul_le_mul_right _ hn)
theorem zni_sb {T : zGT} (hT : T ∈ gTabs) {H n B : Nat} {f : Nat → Int} (hn : n ≤ 24) (hf : ∀ j, j < (gF T).length → (f j).natAbs ≤ B) : (zsm (zni T H (zcgF T H f)) n).natAbs ≤ 24 * B := by
  have h := zsm_b (f := zni T H (zcgF T H f)) (B := B) n (fun i _ => zni_b (fun x => hf _ (gsr_lt hT _)) i)
  exact Nat.le_trans h (Nat.mul_le_mul_right _ hn)
theorem zlrem_d {a b : Int} (a0 : -4611686018427387903 ≤ a) (a1 : a ≤ 4611686018427387903) (b0 : 1 ≤ b) (b1 : b ≤ 1000) : zlrem a b = 0 ↔ b ∣ a := by
  have hq := zq_t a0 a1 b0 (by omega)
  have e : zlrem a b = a.tmod b := by
    have hb := zq_td a b0
    have hmul : (a.tdiv b * b).natAbs ≤ a.natAbs := by
      rw [Int.natAbs_mul, Int.natAbs_tdiv]
      exact Nat.div_mul_le_self _ _
    have hm : (a.tmod b).natAbs ≤ b.natAbs := by
      rw [Int.natAbs_tmod]
      exact Nat.le_of_lt (Nat.mod_lt _ (by omega))
    have hd := Int.tmod_def a b
    unfold zlrem
    have e1 : Int64.ofInt a / Int64.ofInt b = Int64.ofInt (a.tdiv b) := by
      have h1 : (Int64.ofInt a / Int64.ofInt b).toInt = a.tdiv b := hq
      rw [← h1, Int64.ofInt_toInt]
    rw [e1, ← Int64.ofInt_mul, ← Int64.ofInt_sub, Int.mul_comm (a.tdiv b), ← hd]
    exact z64 ⟨by omega, by omega⟩
  rw [e]
  exact (Int.dvd_iff_tmod_eq_zero).symm
theorem zsh_2 {k : Int} (k0 : 0 ≤ k) (k1 : k < 31) : (zshl 1 k).toNat = 2 ^ k.toNat := by
  have h : ∀ p : Nat, p < 31 → (zshl 1 (p : Int)).toNat = 2 ^ p := by decide +kernel
  have h2 := h k.toNat (by omega)
  rw [Int.toNat_of_nonneg k0] at h2
  exact h2
theorem norm_in {T : zGT} {H : Nat} {v g : Int} (hv : v = ((zbq (gNb T H) (gN T) : Nat) : Int)) (hg : 0 ≤ g ∧ g < (gN T : Int)) : zbt v g ↔ gtr T H g.toNat = H := by
  show v.toNat.testBit g.toNat = true ↔ _
  rw [hv, Int.toNat_natCast, zbq_t]
  exact ⟨fun q => q.2, fun q => ⟨by omega, q⟩⟩
theorem norm_or {T : zGT} {H : Nat} {v g : Int} (hv : v = ((H : Nat) : Int)) (hH : H < 16777216) (g0 : 0 ≤ g) (g1 : g < 31) : (zor v (zshl 1 g)).toNat = H ||| 2 ^ g.toNat := by
  have h1 := zsh_2 g0 g1
  have h2 : 0 ≤ zshl 1 g := by
    have h : ∀ p : Nat, p < 31 → 0 ≤ zshl 1 (p : Int) := by decide +kernel
    have h3 := h g.toNat (by omega)
    rwa [Int.toNat_of_nonneg g0] at h3
  have h3 : zshl 1 g = ((2 ^ g.toNat : Nat) : Int) := by
    rw [← h1]
    exact (Int.toNat_of_nonneg h2).symm
  have h4 : 2 ^ g.toNat < 2 ^ 31 := Nat.pow_lt_pow_right (by decide) (by omega)
  rw [hv, h3, zor_n _ _ (by omega) (by omega), Int.toNat_natCast]
theorem zsm_n64 {f : Nat → Int} {a k : Int} (h : Int64.ofInt a = Int64.ofInt (zsm f k.toNat)) (hx : f k.toNat = 0) (k0 : 0 ≤ k) : Int64.ofInt a = Int64.ofInt (zsm f (k + 1).toNat) := by
  rw [show (k + 1).toNat = k.toNat + 1 by omega]
  show _ = Int64.ofInt (zsm f k.toNat + f k.toNat)
  rw [hx, Int.add_zero]
  exact h
theorem nrm_p {T : zGT} (hT : T ∈ gTabs) {H : Nat} (hF : H ∈ gF T) : 1 ≤ zct (fun g => gtr T H g = H) (gN T) := by
  have hO := gTabs_ok T hT
  have hX := gTabs_ex T hT
  have h1 := hO.1.1
  have h2 : zct (fun g => gtr T H g = H) (0 + 1) = zct (fun g => gtr T H g = H) 0 + 1 := zct_t (hX.2.2.1 H hF)
  have h3 := zct_ad (fun g => gtr T H g = H) 1 (gN T - 1)
  rw [show 1 + (gN T - 1) = gN T by omega] at h3
  rw [h3]
  have h4 : zct (fun g => gtr T H g = H) 1 = zct (fun g => gtr T H g = H) 0 + 1 := h2
  omega
theorem zsh_0 {k : Int} (k0 : 0 ≤ k) (k1 : k < 31) : 0 ≤ zshl 1 k := by
  have h : ∀ p : Nat, p < 31 → 0 ≤ zshl 1 (p : Int) := by decide +kernel
  have h2 := h k.toNat (by omega)
  rwa [Int.toNat_of_nonneg k0] at h2
def zNb (b : Nat → Int) (n p : Nat) (v : Int) (q : Nat) : Prop := ∃ s t : Nat, ((p < n ∧ b p = 45 ∧ s = p + 1) ∨ (¬ (p < n ∧ b p = 45) ∧ s = p)) ∧ t = zru zpD b n s ∧ (s + 1 ≤ t ∧ t ≤ s + 6) ∧ (t < n → zpB (b t) = true) ∧ ((p < n ∧ b p = 45 ∧ v = -zvl b s (t - s)) ∨ (¬ (p < n ∧ b p = 45) ∧ v = zvl b s (t - s))) ∧ q = zru zpB b n t
theorem zNb_u {b : Nat → Int} {n p q q' : Nat} {v v' : Int} (h : zNb b n p v q) (h' : zNb b n p v' q') : v = v' ∧ q = q' := by
  obtain ⟨s, t, a1, a2, a3, a4, a5, a6⟩ := h
  obtain ⟨s', t', b1, b2, b3, b4, b5, b6⟩ := h'
  have es : s = s' := by
    rcases a1 with ⟨x1, x2, x3⟩ | ⟨x1, x3⟩ <;> rcases b1 with ⟨y1, y2, y3⟩ | ⟨y1, y3⟩
    · omega
    · exact absurd ⟨x1, x2⟩ y1
    · exact absurd ⟨y1, y2⟩ x1
    · omega
  subst es
  have et : t = t' := a2.trans b2.symm
  subst et
  refine ⟨?_, a6.trans b6.symm⟩
  rcases a5 with ⟨x1, x2, x3⟩ | ⟨x1, x3⟩ <;> rcases b5 with ⟨y1, y2, y3⟩ | ⟨y1, y3⟩
  · rw [x3, y3]
  · exact absurd ⟨x1, x2⟩ y1
  · exact absurd ⟨y1, y2⟩ x1
  · rw [x3, y3]
def zRwn (b : Nat → Int) (n : Nat) (p : Nat) (f : Nat → Int) : Nat → Nat → Prop
  | 0, q => q = p
  | k + 1, q => ∃ q', zRwn b n p f k q' ∧ zNb b n q' (f k) q
theorem zRwn_u {b : Nat → Int} {n p : Nat} {f f' : Nat → Int} : ∀ {k q q' : Nat}, zRwn b n p f k q → zRwn b n p f' k q' → (∀ i, i < k → f i = f' i) ∧ q = q'
  | 0, _, _, h, h' => ⟨fun i hi => absurd hi (Nat.not_lt_zero i), h.trans h'.symm⟩
  | k + 1, q, q', ⟨r, h1, h2⟩, ⟨r', h1', h2'⟩ => by
    obtain ⟨e1, rfl⟩ := zRwn_u h1 h1'
    obtain ⟨e2, e3⟩ := zNb_u h2 h2'
    refine ⟨fun i hi => ?_, e3⟩
    by_cases g : i = k
    · rw [g]
      exact e2
    · exact e1 i (by omega)
theorem zRwn_c {b : Nat → Int} {n p : Nat} {f f' : Nat → Int} : ∀ {k q : Nat}, (∀ i, i < k → f i = f' i) → zRwn b n p f k q → zRwn b n p f' k q
  | 0, _, _, h => h
  | k + 1, q, hc, ⟨r, h1, h2⟩ => ⟨r, zRwn_c (fun i hi => hc i (by omega)) h1, by
    rw [← hc k (by omega)]
    exact h2⟩
theorem zRwn_p {b : Nat → Int} {n p : Nat} {f : Nat → Int} : ∀ {m k q : Nat}, k ≤ m → zRwn b n p f m q → ∃ r, zRwn b n p f k r
  | 0, k, q, hk, h => ⟨q, by rw [show k = 0 by omega]; exact h⟩
  | m + 1, k, q, hk, h => by
    by_cases g : k = m + 1
    · rw [g]
      exact ⟨q, h⟩
    · obtain ⟨r, h1, -⟩ := h
      exact zRwn_p (by omega) h1
def zRown (b : Nat → Int) (n F : Nat) (f : Nat → Int) : Prop := ∃ q, zRwn b n (zru zpB b n 0) f F q ∧ n ≤ q
theorem zRown_u {b : Nat → Int} {n F : Nat} {f f' : Nat → Int} (h : zRown b n F f) (h' : zRown b n F f') : ∀ i, i < F → f i = f' i := by
  obtain ⟨q, h1, -⟩ := h
  obtain ⟨q', h2, -⟩ := h'
  exact (zRwn_u h1 h2).1
theorem zRown_n {b : Nat → Int} {n F k q : Nat} {g : Nat → Int} (h : zRwn b n (zru zpB b n 0) g k q) (hk : k < F) (hn : ¬ ∃ v r, zNb b n q v r) : ¬ ∃ f, zRown b n F f := by
  rintro ⟨f, r, h1, -⟩
  obtain ⟨r2, h2⟩ := zRwn_p (k := k + 1) (by omega) h1
  obtain ⟨r3, h3, h4⟩ := h2
  obtain ⟨-, e⟩ := zRwn_u h h3
  rw [← e] at h4
  exact hn ⟨_, _, h4⟩
theorem zRown_e {b : Nat → Int} {n F q : Nat} {g : Nat → Int} (h : zRwn b n (zru zpB b n 0) g F q) (hq : q < n) : ¬ ∃ f, zRown b n F f := by
  rintro ⟨f, r, h1, h2⟩
  obtain ⟨-, e⟩ := zRwn_u h h1
  omega
theorem zRwn_s {b : Nat → Int} {n p k q r : Nat} {f g : Nat → Int} {v : Int} (h : zRwn b n p f k q) (h2 : zNb b n q v r) (hg : ∀ i, i < k → g i = f i) (hv : g k = v) : zRwn b n p g (k + 1) r := ⟨q, zRwn_c (fun i hi => (hg i hi).symm) h, by
  rw [hv]
  exact h2⟩
def zNs (b : Nat → Int) (n p : Nat) (v : Int) (t : Nat) : Prop := ∃ s : Nat, ((p < n ∧ b p = 45 ∧ s = p + 1) ∨ (¬ (p < n ∧ b p = 45) ∧ s = p)) ∧ t = zru zpD b n s ∧ (s + 1 ≤ t ∧ t ≤ s + 6) ∧ ((p < n ∧ b p = 45 ∧ v = -zvl b s (t - s)) ∨ (¬ (p < n ∧ b p = 45) ∧ v = zvl b s (t - s)))
theorem zNs.b {b : Nat → Int} {n p t q : Nat} {v : Int} (h : zNs b n p v t) (ht : t < n → zpB (b t) = true) (hq : q = zru zpB b n t) : zNb b n p v q := by
  obtain ⟨s, h1, h2, h3, h4⟩ := h
  exact ⟨s, t, h1, h2, h3, ht, h4, hq⟩
theorem zNs_no {b : Nat → Int} {n p : Nat} (h : ¬ ∃ v t, zNs b n p v t) : ¬ ∃ v q, zNb b n p v q := by
  rintro ⟨v, q, s, t, h1, h2, h3, h4, h5, h6⟩
  exact h ⟨v, t, s, h1, h2, h3, h5⟩
theorem zNs_t {b : Nat → Int} {n p t t' : Nat} {v v' : Int} (h : zNs b n p v t) (h' : zNs b n p v' t') : t = t' := by
  obtain ⟨s, a1, a2, a3, a4⟩ := h
  obtain ⟨s', b1, b2, b3, b4⟩ := h'
  have es : s = s' := by
    rcases a1 with ⟨x1, x2, x3⟩ | ⟨x1, x3⟩ <;> rcases b1 with ⟨y1, y2, y3⟩ | ⟨y1, y3⟩
    · omega
    · exact absurd ⟨x1, x2⟩ y1
    · exact absurd ⟨y1, y2⟩ x1
    · omega
  subst es
  exact a2.trans b2.symm
theorem zNs_nb {b : Nat → Int} {n p t : Nat} {v : Int} (h : zNs b n p v t) (h1 : t < n) (h2 : zpB (b t) = false) : ¬ ∃ v q, zNb b n p v q := by
  rintro ⟨v', q, s', t', b1, b2, b3, b4, b5, b6⟩
  have e := zNs_t h ⟨s', b1, b2, b3, b5⟩
  rw [← e] at b4
  have := b4 h1
  rw [h2] at this
  cases this
theorem zNb_no {b : Nat → Int} {n p s t : Nat} (hs : (p < n ∧ b p = 45 ∧ s = p + 1) ∨ (¬ (p < n ∧ b p = 45) ∧ s = p)) (ht : t = zru zpD b n s) (hb : ¬ (s + 1 ≤ t ∧ t ≤ s + 6) ∨ (t < n ∧ zpB (b t) = false)) : ¬ ∃ v q, zNb b n p v q := by
  rintro ⟨v, q, s', t', b1, b2, b3, b4, b5, b6⟩
  have es : s' = s := by
    rcases hs with ⟨x1, x2, x3⟩ | ⟨x1, x3⟩ <;> rcases b1 with ⟨y1, y2, y3⟩ | ⟨y1, y3⟩
    · omega
    · exact absurd ⟨x1, x2⟩ y1
    · exact absurd ⟨y1, y2⟩ x1
    · omega
  subst es
  have et : t' = t := b2.trans ht.symm
  subst et
  rcases hb with hb | ⟨h1, h2⟩
  · exact hb b3
  · have := b4 h1
    rw [h2] at this
    cases this
theorem zNs_n2 {b : Nat → Int} {n p s t : Nat} (hs : (p < n ∧ b p = 45 ∧ s = p + 1) ∨ (¬ (p < n ∧ b p = 45) ∧ s = p)) (ht : t = zru zpD b n s) (hb : ¬ (s + 1 ≤ t ∧ t ≤ s + 6)) : ¬ ∃ v t, zNs b n p v t := by
  rintro ⟨v, t', s', b1, b2, b3, b4⟩
  have es : s' = s := by
    rcases hs with ⟨x1, x2, x3⟩ | ⟨x1, x3⟩ <;> rcases b1 with ⟨y1, y2, y3⟩ | ⟨y1, y3⟩
    · omega
    · exact absurd ⟨x1, x2⟩ y1
    · exact absurd ⟨y1, y2⟩ x1
    · omega
  subst es
  have et : t' = t := b2.trans ht.symm
  subst et
  exact hb b3
theorem zvl_dn {b : Nat → Int} {s : Nat} : ∀ k : Nat, (∀ i, i < k → zpD (b (s + i)) = true) → 0 ≤ zvl b s k ∧ zvl b s k + 1 ≤ 10 ^ k
  | 0, _ => by
    show (0 : Int) ≤ 0 ∧ (0 : Int) + 1 ≤ 10 ^ 0
    decide
  | k + 1, h => by
    have ih := zvl_dn (b := b) (s := s) k (fun i hi => h i (by omega))
    have h2 := zpD_t.mp (h k (by omega))
    rw [Int.pow_succ]
    show 0 ≤ 10 * zvl b s k + (b (s + k) - 48) ∧ 10 * zvl b s k + (b (s + k) - 48) + 1 ≤ 10 ^ k * 10
    omega
theorem zvl_6 {b : Nat → Int} {n s : Nat} {t : Nat} (ht : t = zru zpD b n s) (h1 : s ≤ t) (h6 : t ≤ s + 6) : 0 ≤ zvl b s (t - s) ∧ zvl b s (t - s) ≤ 999999 := by
  have h := zvl_dn (b := b) (s := s) (t - s) (fun i hi => (zru_in (P := zpD) (b := b) (n := n) (s + i) s (s + i) (by omega) (by omega) (by omega)).1)
  have h10 : ∀ k, k < 7 → (10 : Int) ^ k ≤ 1000000 := by decide
  have h2 := h10 (t - s) (by omega)
  omega
def zR82 (b : Nat → Int) (n : Nat) (M : zMem) : Prop := n ≤ 700 ∧ zBy b n ∧ ∀ k, k < n → ze M 82 k = b k
theorem zR82.fr {b : Nat → Int} {n : Nat} {S C : List Nat} {M N : zMem} (hf : zFr S C M N) (h : zR82 b n M) (_ : True) (hc : 82 ∉ C) : zR82 b n N := ⟨h.1, h.2.1, fun k hk => (hf.ie (by decide) hc k).trans (h.2.2 k hk)⟩
theorem zRp.r82 {b : Nat → Int} {n : Nat} {M : zMem} (h : zRp b n M) : zR82 b n M := ⟨h.2.1, h.2.2.1, h.2.2.2⟩
theorem zvl_7 {b : Nat → Int} {s k : Nat} (hk : k ≤ 7) (h : ∀ i, i < k → zpD (b (s + i)) = true) : 0 ≤ zvl b s k ∧ zvl b s k ≤ 9999999 := by
  have h1 := zvl_dn (b := b) (s := s) k h
  have h10 : ∀ k, k < 8 → (10 : Int) ^ k ≤ 10000000 := by decide
  have h2 := h10 k (by omega)
  omega
theorem zdg_s {b : Nat → Int} {n : Nat} {S L V W pos : Int} (s0 : 0 ≤ S) (l0 : 0 ≤ L) (hp : pos = S + L) (hn : pos < n) (hd : 48 ≤ b pos.toNat ∧ b pos.toNat ≤ 57) (hD : ∀ i : Nat, (i : Int) < L → zpD (b (S.toNat + i)) = true) (hV : V = zvl b S.toNat L.toNat) (hZ : zru zpD b n pos.toNat = zru zpD b n S.toNat) (hW : W = 10 * V + b pos.toNat - 48) : (∀ i : Nat, (i : Int) < L + 1 → zpD (b (S.toNat + i)) = true) ∧ W = zvl b S.toNat (L + 1).toNat ∧ zru zpD b n (pos + 1).toNat = zru zpD b n S.toNat := by
  have e : pos.toNat = S.toNat + L.toNat := by omega
  have hdt := zpD_t.mpr hd
  refine ⟨fun i hi => ?_, ?_, ?_⟩
  · by_cases g : (i : Int) = L
    · rw [show S.toNat + i = pos.toNat by omega]
      exact hdt
    · exact hD i (by omega)
  · rw [show (L + 1).toNat = L.toNat + 1 by omega]
    show W = 10 * zvl b S.toNat L.toNat + (b (S.toNat + L.toNat) - 48)
    rw [hW, ← hV, ← e]
    omega
  · rw [← hZ, zru_t (p := pos.toNat) (by omega) hdt, show (pos + 1).toNat = pos.toNat + 1 by omega]
theorem zNb_e {b : Nat → Int} {n p : Nat} (h : n ≤ p) : ¬ ∃ v q, zNb b n p v q := by
  rintro ⟨v, q, s, t, b1, b2, b3, b4, b5, b6⟩
  have es : s = p := by
    rcases b1 with ⟨y1, y2, y3⟩ | ⟨y1, y3⟩
    · omega
    · exact y3
  rw [es, zru_f (fun z => by have := z.1; omega)] at b2
  omega
