def zTrP (b : Nat → Int) (n s P : Nat) (mv : List Nat) (T : zGT) : Prop := ∃ q q2 q3 : Nat, ∃ nm : List (Int × (Nat → Int)), zHd b n s P q ∧ zRg (zbs b n P) (0, q, []) (1, q2, mv) ∧ T ∈ gTabs ∧ zTm mv T ∧ zRg (zls b n (gF T).length (gmkI T)) (0, q2, []) (1, q3, nm)
theorem zTrP.g {b : Nat → Int} {n s P : Nat} {mv : List Nat} {T : zGT} (h : zTrP b n s P mv T) : zTrG b n s mv T := by
  obtain ⟨q, q2, q3, nm, h⟩ := h
  exact ⟨P, q, q2, q3, nm, h⟩
theorem zTrP_u {b : Nat → Int} {n s P P' : Nat} {mv mv' : List Nat} {T T' : zGT} (h : zTrP b n s P mv T) (h' : zTrP b n s P' mv' T') : P = P' ∧ mv = mv' ∧ T = T' := by
  have hT := zTrG_u h.g h'.g
  obtain ⟨q, q2, q3, nm, a1, a2, -⟩ := h
  obtain ⟨q', q2', q3', nm', b1, b2, -⟩ := h'
  obtain ⟨rfl, rfl⟩ := zHd_u a1 b1
  exact ⟨rfl, (zTrG_m (s := s) a2 b2).2, hT⟩
def zKS (P : Nat) (mv : List Nat) (T : zGT) (d : Nat) (M : zMem) : Prop := zMvK mv P d M ∧ zGc mv P T d M ∧ zTt T d M ∧ zFir T d M ∧ zKm (gF T).length (gmkI T) d M ∧ zSbK T d M
def zqTrG (d d2 : Nat) (b : Nat → Int) (n : Nat) (M : zMem) : Option Value → zMem → Prop := fun r N => ∃ v : Int, r = some (.int (Int32.ofInt v)) ∧ zn32 v ∧ ze N 1 1 = 0 ∧ zSwp d d2 M N ∧ ((v = -1 ∧ zTrB b n (zru zpB b n 0) ∧ zf N = zf M ∧ ∀ q, d2 ≤ q → q < d2 + 38 → zi N q = zi M q) ∨ ∃ P : Nat, ∃ mv : List Nat, ∃ T : zGT, zTrP b n (zru zpB b n 0) P mv T ∧ v = (gN T : Int) ∧ (zf N 0 2 = some (d + 0) ∧ zf N 0 3 = some (d2 + 0)) ∧ zKS P mv T d N)
theorem zFc.ot {d d2 : Nat} {FA : List (Nat × Nat)} {CA : List Nat} {FR : List (Nat × Nat)} {CR : List Nat} {M N : zMem} (hf : zFc d FA CA FR CR M N) (hd : (d = 5 ∧ d2 = 43) ∨ (d = 43 ∧ d2 = 5)) (hc : (∀ x ∈ FA, x.1 < 5) ∧ ∀ x ∈ CA, x < 5) : ∀ q, d2 ≤ q → q < d2 + 38 → zi N q = zi M q := fun q h1 h2 =>
  (hf.o (by omega) ⟨fun z => by have := hc.2 q z; omega, fun x hx e => by have := hc.1 x hx; omega⟩).1
theorem zk_swapG {l : Launch} {d d2 P : Nat} {mv : List Nat} {T : zGT} {b : Nat → Int} {n : Nat} {X : Nat × Nat} {M N : zMem} {x : Int} {FA : List (Nat × Nat)} {CA : List Nat} {FR : List (Nat × Nat)} {CR : List Nat} (hf : zFc d FA CA FR CR M N) (hW : zKW d M) (hnow : zf M 0 2 = some (d2 + 0)) (hc : (∀ x ∈ FA, x.1 < 81) ∧ ∀ x ∈ CA, x < 81) (hl : ze N 1 1 = 0) (hp : zTrP b n (zru zpB b n 0) P mv T) (hs : zKS P mv T d N) : zW l m_T_troupe X N 71 [some (.ref 0), some (.ref (d + 0)), some (.int (Int32.ofInt x))] [] (zqTrG d d2 b n M) := by
  have hWN := hf.w hW
  have hd := hW.2.1
  have hn2 := hf.sp hnow
  refine zw_aload_n (pc := 71) (n := 0) (x := 0) rfl (zdal_p dlA_T_troupe_68 (i := 13) rfl) ?_
  refine zw_aload_n (pc := 72) (n := 0) (x := 0) rfl (zdal_p dlA_T_troupe_68 (i := 14) rfl) ?_
  refine zw_getF (pc := 73) f_T_28 rfl (hWN.ka (o := 0) (by decide)) hn2 (zdal_p dlA_T_troupe_68 (i := 15) rfl) ?_
  refine zw_putR (pc := 76) (x := d2 + 0) (Or.inl ⟨f_T_32, rfl⟩) rfl (hWN.ka (o := 0) (by decide)) (fun _ => rfl) (fun _ => rfl) (zdal_p dlA_T_troupe_68 (i := 16) rfl) ?_
  refine zw_aload_n (pc := 79) (n := 0) (x := 0) rfl (zdal_p dlA_T_troupe_68 (i := 17) rfl) ?_
  refine zw_aload_n (pc := 80) (n := 1) (x := d + 0) rfl (zdal_p dlA_T_troupe_68 (i := 18) rfl) ?_
  refine zw_putR (pc := 81) (x := d + 0) (Or.inl ⟨f_T_28, rfl⟩) rfl (hWN.ka (o := 0) (by decide)) (fun _ => rfl) (fun _ => rfl) (zdal_p dlA_T_troupe_68 (i := 19) rfl) ?_
  refine zw_aload_n (pc := 84) (n := 0) (x := 0) rfl (zdal_p dlA_T_troupe_68 (i := 20) rfl) ?_
  refine zw_getF (pc := 85) (r := d + 0) f_T_28 rfl (hWN.ka (o := 0) (by decide)) (show zup2 (zup2 (zf N) 0 3 (some (d2 + 0))) 0 2 (some (d + 0)) 0 2 = some (d + 0) from zup2_s) (zdal_p dlA_T_troupe_68 (i := 21) rfl) ?_
  have hg : zf (zsF (zsF N 0 3 (some (d2 + 0))) 0 2 (some (d + 0))) (d + 0) 0 = some (d + 1) := by
    show zup2 (zup2 (zf N) 0 3 _) 0 2 _ (d + 0) 0 = _
    rw [zup2_q (by omega), zup2_q (by omega)]
    exact hWN.lr (o := 0) (s := 0) (r := 1) (by decide)
  refine zw_getF (pc := 88) f_T_61 rfl (hWN.kr (o := 0) (by decide)) hg (zdal_p dlA_T_troupe_68 (i := 22) rfl) ?_
  refine zw_getI (pc := 91) f_T_65 rfl (hWN.kr (o := 1) (by decide)) (zdal_p dlA_T_troupe_68 (i := 23) rfl) ?_
  have hu1 : zup2 (zup2 (zf N) 0 3 (some (d2 + 0))) 0 2 (some (d + 0)) 0 2 = some (d + 0) := zup2_s
  have hu2 : zup2 (zup2 (zf N) 0 3 (some (d2 + 0))) 0 2 (some (d + 0)) 0 3 = some (d2 + 0) := by
    rw [zup2_n (fun z => absurd z.2 (by decide))]
    exact zup2_s
  have hsz := hs.2.1.2.1
  refine zw_iret (S := []) (pc := 94) (ty := .int) rfl rfl (zdal_p dlA_T_troupe_69 (i := 0) rfl) ⟨ze N (d + 1) 7, ?_, ze_r N (d + 1) 7, hl, ?_, Or.inr ⟨P, mv, T, hp, hsz, ⟨hu1, hu2⟩, hs⟩⟩
  · show some (Value.int (zi N (d + 1) 7)) = _
    rw [ze_of]
  · have h0 := zSwp_0 (d2 := d2) hf hW hc
    obtain ⟨a1, a2, a3, a4⟩ := h0
    have hfN : ∀ q j, ¬ (q = 0 ∧ (j = 2 ∨ j = 3)) → zf (zsF (zsF N 0 3 (some (d2 + 0))) 0 2 (some (d + 0))) q j = zf M q j := fun q j hqj => by
      show zup2 (zup2 (zf N) 0 3 _) 0 2 _ q j = _
      rw [zup2_n (fun z => hqj ⟨z.1, Or.inl z.2⟩), zup2_n (fun z => hqj ⟨z.1, Or.inr z.2⟩), hf.2.2.1]
    exact ⟨a1, a2, fun q hq => ⟨(a3 q hq).1, (a3 q hq).2.1, funext fun j => hfN q j (fun z => by omega)⟩, Or.inr ⟨hu1, hu2, hfN⟩⟩
