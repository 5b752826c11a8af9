/-! the landed part reads a troupe: the other takes its place -/
theorem zFc.sp {d : Nat} {FA : List (Nat × Nat)} {CA : List Nat} {FR : List (Nat × Nat)} {CR : List Nat} {M N : zMem} {q j r : Nat} (h : zFc d FA CA FR CR M N) (h2 : zf M q j = some r) : zf N q j = some r := by
  rw [h.2.2.1]
  exact h2
theorem zNm_z {F d : Nat} {K : Nat → Nat → Int} {M : zMem} (h : ze M (d + 0) 6 = 0) : zNm [] F K d M := by
  refine ⟨by omega, ?_, fun k hk => absurd hk (by omega)⟩
  unfold zNl
  rw [h]
  rfl
/-- nothing but the class's own changes; now and spare stay or are exchanged -/
def zSwp (d d2 : Nat) (M N : zMem) : Prop := N.1 = M.1 ∧ zsh N = zsh M ∧ (∀ q, 81 ≤ q → zi N q = zi M q ∧ zj N q = zj M q ∧ zf N q = zf M q) ∧ (zf N = zf M ∨ (zf N 0 2 = some (d + 0) ∧ zf N 0 3 = some (d2 + 0) ∧ ∀ q j, ¬ (q = 0 ∧ (j = 2 ∨ j = 3)) → zf N q j = zf M q j))
theorem zSwp_0 {d d2 : Nat} {FA : List (Nat × Nat)} {CA : List Nat} {FR : List (Nat × Nat)} {CR : List Nat} {M N : zMem} (h : zFc d FA CA FR CR M N) (hW : zKW d M) (hc : (∀ x ∈ FA, x.1 < 81) ∧ ∀ x ∈ CA, x < 81) : zSwp d d2 M N := by
  have hd := hW.2.1
  refine ⟨h.1, h.2.1, fun q hq => ?_, Or.inl h.2.2.1⟩
  have h2 := h.o (q := q) (Or.inr (by omega)) ⟨fun z => by have := hc.2 q z; omega, fun x hx e => by have := hc.1 x hx; omega⟩
  exact ⟨h2.1, h2.2, by rw [h.2.2.1]⟩
def zqTr (d d2 : Nat) (b : Nat → Int) (n : Nat) (M : zMem) : Option Value → zMem → Prop := fun r N => ∃ v : Int, r = some (.int (Int32.ofInt v)) ∧ zn32 v ∧ zTrA b n v ∧ ze N 1 1 = 0 ∧ zSwp d d2 M N
theorem zk_swap {l : Launch} {d d2 : Nat} {b : Nat → Int} {n : Nat} {X : Nat × Nat} {M N : zMem} {x : Int} {FA : List (Nat × Nat)} {CA : List Nat} {FR : List (Nat × Nat)} {CR : List Nat} (hf : zFc d FA CA FR CR M N) (hW : zKW d M) (hnow : zf M 0 2 = some (d2 + 0)) (hc : (∀ x ∈ FA, x.1 < 81) ∧ ∀ x ∈ CA, x < 81) (hl : ze N 1 1 = 0) (hv : zTrA b n (ze N (d + 1) 7)) : zW l m_T_troupe X N 71 [some (.ref 0), some (.ref (d + 0)), some (.int (Int32.ofInt x))] [] (zqTr d d2 b n M) := by
  have hWN := hf.w hW
  have hd := hW.2.1
  have hn2 := hf.sp hnow
  refine zw_aload_n (pc := 71) (n := 0) (x := 0) rfl d_T_troupe_71 ?_
  refine zw_aload_n (pc := 72) (n := 0) (x := 0) rfl d_T_troupe_72 ?_
  refine zw_getF (pc := 73) f_T_28 rfl (hWN.ka (o := 0) (by decide)) hn2 d_T_troupe_73 ?_
  refine zw_putR (pc := 76) (x := d2 + 0) (Or.inl ⟨f_T_32, rfl⟩) rfl (hWN.ka (o := 0) (by decide)) (fun _ => rfl) (fun _ => rfl) d_T_troupe_76 ?_
  refine zw_aload_n (pc := 79) (n := 0) (x := 0) rfl d_T_troupe_79 ?_
  refine zw_aload_n (pc := 80) (n := 1) (x := d + 0) rfl d_T_troupe_80 ?_
  refine zw_putR (pc := 81) (x := d + 0) (Or.inl ⟨f_T_28, rfl⟩) rfl (hWN.ka (o := 0) (by decide)) (fun _ => rfl) (fun _ => rfl) d_T_troupe_81 ?_
  refine zw_aload_n (pc := 84) (n := 0) (x := 0) rfl d_T_troupe_84 ?_
  refine zw_getF (pc := 85) (r := d + 0) f_T_28 rfl (hWN.ka (o := 0) (by decide)) (show zup2 (zup2 (zf N) 0 3 (some (d2 + 0))) 0 2 (some (d + 0)) 0 2 = some (d + 0) from zup2_s) d_T_troupe_85 ?_
  have hg : zf (zsF (zsF N 0 3 (some (d2 + 0))) 0 2 (some (d + 0))) (d + 0) 0 = some (d + 1) := by
    show zup2 (zup2 (zf N) 0 3 _) 0 2 _ (d + 0) 0 = _
    rw [zup2_q (by omega), zup2_q (by omega)]
    exact hWN.lr (o := 0) (s := 0) (r := 1) (by decide)
  refine zw_getF (pc := 88) f_T_61 rfl (hWN.kr (o := 0) (by decide)) hg d_T_troupe_88 ?_
  refine zw_getI (pc := 91) f_T_65 rfl (hWN.kr (o := 1) (by decide)) d_T_troupe_91 ?_
  refine zw_iret (S := []) (pc := 94) (ty := .int) rfl rfl d_T_troupe_94 ⟨ze N (d + 1) 7, ?_, ze_r N (d + 1) 7, hv, hl, ?_⟩
  · show some (Value.int (zi N (d + 1) 7)) = _
    rw [ze_of]
  · have h0 := zSwp_0 (d2 := d2) hf hW hc
    obtain ⟨a1, a2, a3, a4⟩ := h0
    have hfN : ∀ q j, ¬ (q = 0 ∧ (j = 2 ∨ j = 3)) → zf (zsF (zsF N 0 3 (some (d2 + 0))) 0 2 (some (d + 0))) q j = zf M q j := fun q j hqj => by
      show zup2 (zup2 (zf N) 0 3 _) 0 2 _ q j = _
      rw [zup2_n (fun z => hqj ⟨z.1, Or.inl z.2⟩), zup2_n (fun z => hqj ⟨z.1, Or.inr z.2⟩), hf.2.2.1]
    refine ⟨a1, a2, fun q hq => ⟨(a3 q hq).1, (a3 q hq).2.1, funext fun j => hfN q j (fun z => by omega)⟩, Or.inr ⟨(show zup2 (zup2 (zf N) 0 3 (some (d2 + 0))) 0 2 (some (d + 0)) 0 2 = some (d + 0) from zup2_s), ?_, hfN⟩⟩
    show zup2 (zup2 (zf N) 0 3 (some (d2 + 0))) 0 2 (some (d + 0)) 0 3 = some (d2 + 0)
    rw [zup2_n (fun z => absurd z.2 (by decide))]
    exact zup2_s
