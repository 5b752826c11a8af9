def zKt0 : List (Nat × Nat × Nat) := [(0, 0, 1), (0, 1, 4), (1, 0, 2), (2, 0, 3), (4, 0, 1)]
def zKo0 : List (Nat × Nat) := [(0, 3), (1, 4), (2, 5), (4, 6)]
def zKr0 : List (Nat × Nat × Nat) := [(3, 1, 700)]
def zKt : List (Nat × Nat × Nat) := [(0, 0, 1), (0, 1, 12), (0, 2, 23), (0, 3, 28), (0, 4, 33), (0, 5, 36), (1, 0, 2), (1, 1, 4), (1, 2, 6), (1, 3, 8), (1, 4, 10), (2, 0, 3), (4, 0, 5), (6, 0, 7), (8, 0, 9), (10, 0, 11), (12, 0, 1), (12, 1, 13), (12, 2, 15), (12, 3, 17), (12, 4, 19), (12, 5, 21), (13, 0, 14), (15, 0, 16), (17, 0, 18), (19, 0, 20), (21, 0, 22), (23, 0, 12), (23, 1, 24), (23, 2, 26), (24, 0, 25), (26, 0, 27), (28, 0, 12), (28, 1, 29), (28, 2, 31), (29, 0, 30), (31, 0, 32), (33, 0, 23), (33, 1, 34), (34, 0, 35), (36, 0, 37)]
def zKo : List (Nat × Nat) := [(0, 7), (1, 8), (2, 5), (4, 5), (6, 5), (8, 5), (10, 5), (12, 9), (13, 5), (15, 5), (17, 5), (19, 5), (21, 5), (23, 10), (24, 11), (26, 11), (28, 12), (29, 5), (31, 5), (33, 13), (34, 5), (36, 5)]
def zKr : List (Nat × Nat × Nat) := [(3, 1, 4), (5, 1, 24), (7, 1, 576), (9, 1, 24), (11, 1, 24), (14, 1, 35), (16, 1, 35), (18, 1, 35), (20, 1, 27), (22, 1, 729), (25, 2, 1080), (27, 2, 27), (30, 1, 27), (32, 1, 24), (35, 1, 24), (37, 1, 8)]
def zKB (b : Nat) (t : List (Nat × Nat × Nat)) (o : List (Nat × Nat)) (r : List (Nat × Nat × Nat)) (M : zMem) : Prop := (∀ e ∈ t, zf M (b + e.1) e.2.1 = some (b + e.2.2)) ∧ (∀ e ∈ o, (zsh M (b + e.1)).1 = e.2) ∧ ∀ e ∈ r, zsh M (b + e.1) = (e.2.1, e.2.2)
def zKW (d : Nat) (M : zMem) : Prop := 81 ≤ zn M ∧ (d = 5 ∨ d = 43) ∧ zKB 0 zKt0 zKo0 zKr0 M ∧ zKB d zKt zKo zKr M
theorem zKW.lr {d : Nat} {M : zMem} (h : zKW d M) {o s r : Nat} (hm : (o, s, r) ∈ zKt) : zf M (d + o) s = some (d + r) := h.2.2.2.1 _ hm
theorem zKW.kr {d : Nat} {M : zMem} (h : zKW d M) {o t : Nat} (hm : (o, t) ∈ zKo) : (zsh M (d + o)).1 = t := h.2.2.2.2.1 _ hm
theorem zKW.rr {d : Nat} {M : zMem} (h : zKW d M) {o t n : Nat} (hm : (o, t, n) ∈ zKr) : zsh M (d + o) = (t, n) := h.2.2.2.2.2 _ hm
theorem zKW.la {d : Nat} {M : zMem} (h : zKW d M) {o s r : Nat} (hm : (o, s, r) ∈ zKt0) : zf M o s = some r := by
  have := h.2.2.1.1 _ hm
  simpa using this
theorem zKW.ka {d : Nat} {M : zMem} (h : zKW d M) {o t : Nat} (hm : (o, t) ∈ zKo0) : (zsh M o).1 = t := by
  have := h.2.2.1.2.1 _ hm
  simpa using this
theorem zKW.ra {d : Nat} {M : zMem} (h : zKW d M) {o t n : Nat} (hm : (o, t, n) ∈ zKr0) : zsh M o = (t, n) := by
  have := h.2.2.1.2.2 _ hm
  simpa using this
def zFc (d : Nat) (FA : List (Nat × Nat)) (CA : List Nat) (FR : List (Nat × Nat)) (CR : List Nat) (M N : zMem) : Prop := N.1 = M.1 ∧ zsh N = zsh M ∧ zf N = zf M ∧ (∀ q, (q < d ∨ d + 38 ≤ q) → q ∉ CA → ∀ j, (q, j) ∉ FA → zi N q j = zi M q j ∧ zj N q j = zj M q j) ∧ ∀ o, o < 38 → o ∉ CR → ∀ j, (o, j) ∉ FR → zi N (d + o) j = zi M (d + o) j ∧ zj N (d + o) j = zj M (d + o) j
section ZFC
variable {d : Nat} {FA FA' : List (Nat × Nat)} {CA CA' : List Nat} {FR FR' : List (Nat × Nat)} {CR CR' : List Nat} {M N P : zMem}
theorem zFc.rf : zFc d FA CA FR CR M M := ⟨rfl, rfl, rfl, fun _ _ _ _ _ => ⟨rfl, rfl⟩, fun _ _ _ _ _ => ⟨rfl, rfl⟩⟩
theorem zFc.tr (h : zFc d FA CA FR CR M N) (h2 : zFc d FA' CA' FR' CR' N P) (s1 : ∀ x ∈ FA', x ∈ FA) (s2 : ∀ x ∈ CA', x ∈ CA) (s3 : ∀ x ∈ FR', x ∈ FR) (s4 : ∀ x ∈ CR', x ∈ CR) : zFc d FA CA FR CR M P := by
  obtain ⟨a1, a2, a3, a4, a5⟩ := h
  obtain ⟨b1, b2, b3, b4, b5⟩ := h2
  refine ⟨b1.trans a1, b2.trans a2, b3.trans a3, fun q hq hc j hj => ?_, fun o ho hc j hj => ?_⟩
  · have x := b4 q hq (fun z => hc (s2 _ z)) j (fun z => hj (s1 _ z))
    have y := a4 q hq hc j hj
    exact ⟨x.1.trans y.1, x.2.trans y.2⟩
  · have x := b5 o ho (fun z => hc (s4 _ z)) j (fun z => hj (s3 _ z))
    have y := a5 o ho hc j hj
    exact ⟨x.1.trans y.1, x.2.trans y.2⟩
theorem zFc.w (h : zFc d FA CA FR CR M N) (hW : zKW d M) : zKW d N := by
  obtain ⟨a1, a2, a3, -, -⟩ := h
  obtain ⟨b1, b2, b3, b4⟩ := hW
  refine ⟨?_, b2, ?_, ?_⟩
  · unfold zn at b1 ⊢
    rw [a1]; exact b1
  · unfold zKB at b3 ⊢
    rw [a2, a3]; exact b3
  · unfold zKB at b4 ⊢
    rw [a2, a3]; exact b4
theorem zFc.x (h : zFc d FA CA FR CR M N) : zn N ≤ ((zn M + 0, zw M + 0) : Nat × Nat).1 ∧ zw N ≤ ((zn M + 0, zw M + 0) : Nat × Nat).2 := by
  unfold zn zw
  rw [h.1]
  exact ⟨Nat.le_refl _, Nat.le_refl _⟩
theorem zFc.e (h : zFc d FA CA FR CR M N) {o j : Nat} (ho : o < 38 ∧ o ∉ CR ∧ (o, j) ∉ FR) : ze N (d + o) j = ze M (d + o) j := by
  unfold ze
  rw [(h.2.2.2.2 o ho.1 ho.2.1 j ho.2.2).1]
theorem zFc.ea (h : zFc d FA CA FR CR M N) (hW : zKW d M) {q j : Nat} (ho : q < 5 ∧ q ∉ CA ∧ (q, j) ∉ FA) : ze N q j = ze M q j := by
  have hd := hW.2.1
  unfold ze
  rw [(h.2.2.2.1 q (Or.inl (by omega)) ho.2.1 j ho.2.2).1]
theorem zFc.r (h : zFc d FA CA FR CR M N) {o : Nat} (ho : o < 38 ∧ o ∉ CR ∧ ∀ x ∈ FR, x.1 ≠ o) (n : Nat) : ze N (d + o) n = ze M (d + o) n := by
  unfold ze
  rw [(h.2.2.2.2 o ho.1 ho.2.1 n (fun z => ho.2.2 _ z rfl)).1]
theorem zFc.rg (h : zFc d FA CA FR CR M N) {o : Nat} (ho : o < 38 ∧ o ∉ CR ∧ ∀ x ∈ FR, x.1 ≠ o) (n : Nat) : zg N (d + o) n = zg M (d + o) n := by
  unfold zg
  rw [(h.2.2.2.2 o ho.1 ho.2.1 n (fun z => ho.2.2 _ z rfl)).2]
theorem zFc.ra (h : zFc d FA CA FR CR M N) (hW : zKW d M) {q : Nat} (ho : q < 5 ∧ q ∉ CA ∧ ∀ x ∈ FA, x.1 ≠ q) (n : Nat) : ze N q n = ze M q n := by
  have hd := hW.2.1
  unfold ze
  rw [(h.2.2.2.1 q (Or.inl (by omega)) ho.2.1 n (fun z => ho.2.2 _ z rfl)).1]
theorem zFc.o (h : zFc d FA CA FR CR M N) {q : Nat} (hq : q < d ∨ d + 38 ≤ q) (ho : q ∉ CA ∧ ∀ x ∈ FA, x.1 ≠ q) : zi N q = zi M q ∧ zj N q = zj M q :=
  ⟨funext fun n => (h.2.2.2.1 q hq ho.1 n (fun z => ho.2 _ z rfl)).1, funext fun n => (h.2.2.2.1 q hq ho.1 n (fun z => ho.2 _ z rfl)).2⟩
theorem zFc.eq (h : zFc d [] [] [] [] M N) : N = M := by
  obtain ⟨a1, a2, a3, a4, a5⟩ := h
  obtain ⟨m1, m2, m3, m4, m5⟩ := M
  obtain ⟨n1, n2, n3, n4, n5⟩ := N
  have key : ∀ q j, n3 q j = m3 q j ∧ n4 q j = m4 q j := by
    intro q j
    by_cases h : q < d ∨ d + 38 ≤ q
    · exact a4 q h List.not_mem_nil j List.not_mem_nil
    · have := a5 (q - d) (by omega) List.not_mem_nil j List.not_mem_nil
      rw [show d + (q - d) = q by omega] at this
      exact this
  have e3 : n3 = m3 := funext fun q => funext fun j => (key q j).1
  have e4 : n4 = m4 := funext fun q => funext fun j => (key q j).2
  have e1 : n1 = m1 := a1
  have e2 : n2 = m2 := a2
  have e5 : n5 = m5 := a3
  rw [e1, e2, e3, e4, e5]
theorem zFc.sR {o i : Nat} {v : Int32} (ho : o < 38) : zFc d [] [] [] [o] M (zsI M (d + o) i v) := by
  refine ⟨rfl, rfl, rfl, fun q hq _ j _ => ⟨?_, rfl⟩, fun p hp hc j _ => ⟨?_, rfl⟩⟩
  · exact congrFun (zup2_q (by omega)) j
  · exact congrFun (zup2_q (fun e => hc (by have : p = o := by omega
                                            rw [this]; exact List.mem_singleton.mpr rfl))) j
theorem zFc.sRJ {o i : Nat} {v : Int64} (ho : o < 38) : zFc d [] [] [] [o] M (zsJ M (d + o) i v) := by
  refine ⟨rfl, rfl, rfl, fun q hq _ j _ => ⟨rfl, ?_⟩, fun p hp hc j _ => ⟨rfl, ?_⟩⟩
  · exact congrFun (zup2_q (by omega)) j
  · exact congrFun (zup2_q (fun e => hc (by have : p = o := by omega
                                            rw [this]; exact List.mem_singleton.mpr rfl))) j
theorem zFc.sA {q i : Nat} {v : Int32} (hW : zKW d M) (hq : q < 5) : zFc d [] [q] [] [] M (zsI M q i v) := by
  have hd := hW.2.1
  refine ⟨rfl, rfl, rfl, fun p hp hc j _ => ⟨?_, rfl⟩, fun p hp hc j _ => ⟨?_, rfl⟩⟩
  · exact congrFun (zup2_q (fun e => hc (by rw [e]; exact List.mem_singleton.mpr rfl))) j
  · exact congrFun (zup2_q (by omega)) j
theorem zFc.pR {o j : Nat} {v : Int32} (ho : o < 38) : zFc d [] [] [(o, j)] [] M (zsI M (d + o) j v) := by
  refine ⟨rfl, rfl, rfl, fun q hq _ i _ => ⟨?_, rfl⟩, fun p hp hc i hi => ⟨?_, rfl⟩⟩
  · exact congrFun (zup2_q (by omega)) i
  · refine zup2_n (fun z => hi ?_)
    have : p = o := by omega
    rw [this, z.2]
    exact List.mem_singleton.mpr rfl
theorem zFc.pA {q j : Nat} {v : Int32} (hW : zKW d M) (hq : q < 5) : zFc d [(q, j)] [] [] [] M (zsI M q j v) := by
  have hd := hW.2.1
  refine ⟨rfl, rfl, rfl, fun p hp hc i hi => ⟨?_, rfl⟩, fun p hp hc i _ => ⟨?_, rfl⟩⟩
  · refine zup2_n (fun z => hi ?_)
    rw [z.1, z.2]
    exact List.mem_singleton.mpr rfl
  · exact congrFun (zup2_q (by omega)) i
end ZFC
def zqcI (d : Nat) (FA : List (Nat × Nat)) (CA : List Nat) (FR : List (Nat × Nat)) (CR : List Nat) (M : zMem) (P : Int → zMem → Prop) : Option Value → zMem → Prop := fun r N => ∃ v : Int, r = some (.int (Int32.ofInt v)) ∧ zn32 v ∧ zFc d FA CA FR CR M N ∧ P v N
def zqcJ (d : Nat) (FA : List (Nat × Nat)) (CA : List Nat) (FR : List (Nat × Nat)) (CR : List Nat) (M : zMem) (P : Int → zMem → Prop) : Option Value → zMem → Prop := fun r N => ∃ v : Int, r = some (.long (Int64.ofInt v)) ∧ zn64 v ∧ zFc d FA CA FR CR M N ∧ P v N
def zqcV (d : Nat) (FA : List (Nat × Nat)) (CA : List Nat) (FR : List (Nat × Nat)) (CR : List Nat) (M : zMem) (P : zMem → Prop) : Option Value → zMem → Prop := fun r N => r = none ∧ zFc d FA CA FR CR M N ∧ P N
section ZKR
variable {l : Launch} {k : zMeth} {X : Nat × Nat} {M : zMem} {pc : Nat} {L : List (Option Value)} {S : List Value} {Q : Option Value → zMem → Prop} {a b : Int} {d : Nat}
theorem zk_getI {ix ci j q : Nat} (hF : zFL (zo k) ix ci j) (hg : zG ci j = 0) (hk : (zsh M q).1 = ci + 3) (hd : decode (zb k) pc = .ok (.getfield ix, 3)) (kk : zW l k X M (pc + 3) L (.int (Int32.ofInt (ze M q j)) :: S) Q) : zW l k X M pc L (.ref q :: S) Q :=
  zw_getI hF hg hk hd (by rw [ze_of]; exact kk)
theorem zk_putR {ix ci j o : Nat} {v : Int} (ho : o < 38) (hF : zFL (zo k) ix ci j) (hfin : (zT ci j).2.2.2 = false) (hg : zG ci j = 0) (hk : (zsh M (d + o)).1 = ci + 3) (hv : zn32 v) (hn : narrow (zY ci j) (.int (Int32.ofInt v)) = .int (Int32.ofInt v)) (hft : fits (zY ci j) (.int (Int32.ofInt v)) = true) (hd : decode (zb k) pc = .ok (.putfield ix, 3)) (kk : ∀ N : zMem, zFc d [] [] [(o, j)] [] M N → ze N (d + o) j = v → zW l k X N (pc + 3) L S Q) : zW l k X M pc L (.int (Int32.ofInt v) :: .ref (d + o) :: S) Q :=
  zw_putI hF hfin hg hk hn hft hd (kk _ (zFc.pR ho) (zs_get rfl hv))
theorem zk_putA {ix ci j q : Nat} {v : Int} (hW : zKW d M) (ho : q < 5) (hF : zFL (zo k) ix ci j) (hfin : (zT ci j).2.2.2 = false) (hg : zG ci j = 0) (hk : (zsh M q).1 = ci + 3) (hv : zn32 v) (hn : narrow (zY ci j) (.int (Int32.ofInt v)) = .int (Int32.ofInt v)) (hft : fits (zY ci j) (.int (Int32.ofInt v)) = true) (hd : decode (zb k) pc = .ok (.putfield ix, 3)) (kk : ∀ N : zMem, zFc d [(q, j)] [] [] [] M N → ze N q j = v → zW l k X N (pc + 3) L S Q) : zW l k X M pc L (.int (Int32.ofInt v) :: .ref q :: S) Q :=
  zw_putI hF hfin hg hk hn hft hd (kk _ (zFc.pA hW ho) (zs_get rfl hv))
end ZKR
theorem zk_nmI {l : Launch} {k : zMeth} {X : Nat × Nat} {M : zMem} {pc : Nat} {L : List (Option Value)} {S : List Value} {Q : Option Value → zMem → Prop} {a : Int} (kk : ∀ v : Int, zn32 v → (zn32 a → v = a) → zW l k X M pc L (.int (Int32.ofInt v) :: S) Q) : zW l k X M pc L (.int (Int32.ofInt a) :: S) Q := by
  have h := kk (Int32.ofInt a).toInt (z32r _) (fun ha => z32 ha)
  rwa [Int32.ofInt_toInt] at h
theorem zk_nmJ {l : Launch} {k : zMeth} {X : Nat × Nat} {M : zMem} {pc : Nat} {L : List (Option Value)} {S : List Value} {Q : Option Value → zMem → Prop} {a : Int} (kk : ∀ v : Int, zn64 v → Int64.ofInt v = Int64.ofInt a → zW l k X M pc L (.long (Int64.ofInt v) :: S) Q) : zW l k X M pc L (.long (Int64.ofInt a) :: S) Q := by
  have h := kk (Int64.ofInt a).toInt (z64r _) (Int64.ofInt_toInt _)
  rwa [Int64.ofInt_toInt] at h
def zat (M : zMem) (r n : Nat) (x : Int) : Int := if 0 ≤ x ∧ x < n then ze M r x.toNat else 0
def zatJ (M : zMem) (r n : Nat) (x : Int) : Int := if 0 ≤ x ∧ x < n then zg M r x.toNat else 0
def zpt (M : zMem) (r n : Nat) (x v : Int) : zMem := if 0 ≤ x ∧ x < n then zsI M r x.toNat (Int32.ofInt v) else M
def zptJ (M : zMem) (r n : Nat) (x v : Int) : zMem := if 0 ≤ x ∧ x < n then zsJ M r x.toNat (Int64.ofInt v) else M
theorem zk_nI {n : Nat} (hn : n ≤ 65536) : nI n = Int32.ofInt (n : Int) := by
  unfold nI
  exact (Int32.ofInt_eq_ofNat).symm
theorem k_IntRow_at (l : Launch) (M : zMem) (q r n : Nat) (hk : (zsh M q).1 = 2 + 3) (hl : zf M q 0 = some r) (hr : zsh M r = (1, n)) (hn : n ≤ 65536) (x : Int) (hx : zn32 x) : zC l m_IntRow_at 0 0 [.ref q, .int (Int32.ofInt x)] M (fun v N => v = some (.int (Int32.ofInt (zat M r n x))) ∧ N = M) := by
  have hn32 : zn32 (n : Int) := ⟨by omega, by omega⟩
  refine zC_of (L0 := [some (.ref q), some (.int (Int32.ofInt x))]) md_IntRow_at (Nat.le_of_ble_eq_true rfl) rfl ?_ zQ0
  refine zw_iload_n (pc := 0) (n := 1) (x := Int32.ofInt x) rfl (zdal_p dlA_IntRow_at_23 (i := 0) rfl) ?_
  refine zr_if_lt (pc := 1) (tgt := 22) hx (by decide) (zdal_p dlA_IntRow_at_23 (i := 1) rfl) (fun hc_1 => ?_) (fun hc_1 => ?_)
  · refine zw_iconst (pc := 22) (v := Int32.ofInt 0) (by decide) (zdal_p dlA_IntRow_at_23 (i := 12) rfl) ?_
    refine zw_iret (S := []) (pc := 23) (ty := .int) rfl rfl (zdal_p dlA_IntRow_at_23 (i := 13) rfl) ⟨?_, rfl⟩
    unfold zat
    rw [if_neg (by omega)]
  · refine zw_iload_n (pc := 4) (n := 1) (x := Int32.ofInt x) rfl (zdal_p dlA_IntRow_at_23 (i := 2) rfl) ?_
    refine zw_aload_n (pc := 5) (n := 0) (x := q) rfl (zdal_p dlA_IntRow_at_23 (i := 3) rfl) ?_
    refine zw_getF (pc := 6) f_IntRow_13 rfl hk hl (zdal_p dlA_IntRow_at_23 (i := 4) rfl) ?_
    refine zw_alen (pc := 9) (Or.inl hr) (zdal_p dlA_IntRow_at_23 (i := 5) rfl) ?_
    rw [zk_nI hn]
    refine zr_icmp_ge (pc := 10) (tgt := 22) hx hn32 (by decide) (zdal_p dlA_IntRow_at_23 (i := 6) rfl) (fun hc_10 => ?_) (fun hc_10 => ?_)
    · refine zw_iconst (pc := 22) (v := Int32.ofInt 0) (by decide) (zdal_p dlA_IntRow_at_23 (i := 12) rfl) ?_
      refine zw_iret (S := []) (pc := 23) (ty := .int) rfl rfl (zdal_p dlA_IntRow_at_23 (i := 13) rfl) ⟨?_, rfl⟩
      unfold zat
      rw [if_neg (by omega)]
    · refine zw_aload_n (pc := 13) (n := 0) (x := q) rfl (zdal_p dlA_IntRow_at_23 (i := 7) rfl) ?_
      refine zw_getF (pc := 14) f_IntRow_13 rfl hk hl (zdal_p dlA_IntRow_at_23 (i := 8) rfl) ?_
      refine zw_iload_n (pc := 17) (n := 1) (x := Int32.ofInt x) rfl (zdal_p dlA_IntRow_at_23 (i := 9) rfl) ?_
      refine zr_iald (pc := 18) hr hn hc_1 hc_10 (zdal_p dlA_IntRow_at_23 (i := 10) rfl) ?_
      refine zw_goto (pc := 19) (tgt := 23) (by decide) (zdal_p dlA_IntRow_at_23 (i := 11) rfl) ?_
      refine zw_iret (S := []) (pc := 23) (ty := .int) rfl rfl (zdal_p dlA_IntRow_at_23 (i := 13) rfl) ⟨?_, rfl⟩
      unfold zat
      rw [if_pos ⟨hc_1, hc_10⟩]
theorem k_LongRow_at (l : Launch) (M : zMem) (q r n : Nat) (hk : (zsh M q).1 = 8 + 3) (hl : zf M q 0 = some r) (hr : zsh M r = (2, n)) (hn : n ≤ 65536) (x : Int) (hx : zn32 x) : zC l m_LongRow_at 0 0 [.ref q, .int (Int32.ofInt x)] M (fun v N => v = some (.long (Int64.ofInt (zatJ M r n x))) ∧ N = M) := by
  have hn32 : zn32 (n : Int) := ⟨by omega, by omega⟩
  refine zC_of (L0 := [some (.ref q), some (.int (Int32.ofInt x))]) md_LongRow_at (Nat.le_of_ble_eq_true rfl) rfl ?_ zQ0
  refine zw_iload_n (pc := 0) (n := 1) (x := Int32.ofInt x) rfl (zdal_p dlA_LongRow_at_129 (i := 0) rfl) ?_
  refine zr_if_lt (pc := 1) (tgt := 22) hx (by decide) (zdal_p dlA_LongRow_at_129 (i := 1) rfl) (fun hc_1 => ?_) (fun hc_1 => ?_)
  · refine zw_lconst (pc := 22) (v := Int64.ofInt 0) (by decide) (zdal_p dlA_LongRow_at_129 (i := 12) rfl) ?_
    refine zw_lret (S := []) (pc := 23) rfl (zdal_p dlA_LongRow_at_129 (i := 13) rfl) ⟨?_, rfl⟩
    unfold zatJ
    rw [if_neg (by omega)]
  · refine zw_iload_n (pc := 4) (n := 1) (x := Int32.ofInt x) rfl (zdal_p dlA_LongRow_at_129 (i := 2) rfl) ?_
    refine zw_aload_n (pc := 5) (n := 0) (x := q) rfl (zdal_p dlA_LongRow_at_129 (i := 3) rfl) ?_
    refine zw_getF (pc := 6) f_LongRow_13 rfl hk hl (zdal_p dlA_LongRow_at_129 (i := 4) rfl) ?_
    refine zw_alen (pc := 9) (Or.inr hr) (zdal_p dlA_LongRow_at_129 (i := 5) rfl) ?_
    rw [zk_nI hn]
    refine zr_icmp_ge (pc := 10) (tgt := 22) hx hn32 (by decide) (zdal_p dlA_LongRow_at_129 (i := 6) rfl) (fun hc_10 => ?_) (fun hc_10 => ?_)
    · refine zw_lconst (pc := 22) (v := Int64.ofInt 0) (by decide) (zdal_p dlA_LongRow_at_129 (i := 12) rfl) ?_
      refine zw_lret (S := []) (pc := 23) rfl (zdal_p dlA_LongRow_at_129 (i := 13) rfl) ⟨?_, rfl⟩
      unfold zatJ
      rw [if_neg (by omega)]
    · refine zw_aload_n (pc := 13) (n := 0) (x := q) rfl (zdal_p dlA_LongRow_at_129 (i := 7) rfl) ?_
      refine zw_getF (pc := 14) f_LongRow_13 rfl hk hl (zdal_p dlA_LongRow_at_129 (i := 8) rfl) ?_
      refine zw_iload_n (pc := 17) (n := 1) (x := Int32.ofInt x) rfl (zdal_p dlA_LongRow_at_129 (i := 9) rfl) ?_
      refine zr_lald (pc := 18) hr hn hc_1 hc_10 (zdal_p dlA_LongRow_at_129 (i := 10) rfl) ?_
      refine zw_goto (pc := 19) (tgt := 23) (by decide) (zdal_p dlA_LongRow_at_129 (i := 11) rfl) ?_
      refine zw_lret (S := []) (pc := 23) rfl (zdal_p dlA_LongRow_at_129 (i := 13) rfl) ⟨?_, rfl⟩
      unfold zatJ
      rw [if_pos ⟨hc_1, hc_10⟩]
theorem k_IntRow_put (l : Launch) (M : zMem) (q r n : Nat) (hk : (zsh M q).1 = 2 + 3) (hl : zf M q 0 = some r) (hr : zsh M r = (1, n)) (hn : n ≤ 65536) (x : Int) (hx : zn32 x) (v : Int) : zC l m_IntRow_put 0 0 [.ref q, .int (Int32.ofInt x), .int (Int32.ofInt v)] M (fun w N => w = none ∧ N = zpt M r n x v) := by
  have hn32 : zn32 (n : Int) := ⟨by omega, by omega⟩
  refine zC_of (L0 := [some (.ref q), some (.int (Int32.ofInt x)), some (.int (Int32.ofInt v))]) md_IntRow_put (Nat.le_of_ble_eq_true rfl) rfl ?_ zQ0
  refine zw_iload_n (pc := 0) (n := 1) (x := Int32.ofInt x) rfl (zdal_p dlA_IntRow_put_22 (i := 0) rfl) ?_
  refine zr_if_lt (pc := 1) (tgt := 20) hx (by decide) (zdal_p dlA_IntRow_put_22 (i := 1) rfl) (fun hc_1 => ?_) (fun hc_1 => ?_)
  · refine zw_vret (S := []) (pc := 20) rfl (zdal_p dlA_IntRow_put_22 (i := 12) rfl) ⟨rfl, ?_⟩
    unfold zpt
    rw [if_neg (by omega)]
  · refine zw_iload_n (pc := 4) (n := 1) (x := Int32.ofInt x) rfl (zdal_p dlA_IntRow_put_22 (i := 2) rfl) ?_
    refine zw_aload_n (pc := 5) (n := 0) (x := q) rfl (zdal_p dlA_IntRow_put_22 (i := 3) rfl) ?_
    refine zw_getF (pc := 6) f_IntRow_13 rfl hk hl (zdal_p dlA_IntRow_put_22 (i := 4) rfl) ?_
    refine zw_alen (pc := 9) (Or.inl hr) (zdal_p dlA_IntRow_put_22 (i := 5) rfl) ?_
    rw [zk_nI hn]
    refine zr_icmp_ge (pc := 10) (tgt := 20) hx hn32 (by decide) (zdal_p dlA_IntRow_put_22 (i := 6) rfl) (fun hc_10 => ?_) (fun hc_10 => ?_)
    · refine zw_vret (S := []) (pc := 20) rfl (zdal_p dlA_IntRow_put_22 (i := 12) rfl) ⟨rfl, ?_⟩
      unfold zpt
      rw [if_neg (by omega)]
    · obtain ⟨g1, g2⟩ := z_rin hc_1 hc_10 hn
      refine zw_aload_n (pc := 13) (n := 0) (x := q) rfl (zdal_p dlA_IntRow_put_22 (i := 7) rfl) ?_
      refine zw_getF (pc := 14) f_IntRow_13 rfl hk hl (zdal_p dlA_IntRow_put_22 (i := 8) rfl) ?_
      refine zw_iload_n (pc := 17) (n := 1) (x := Int32.ofInt x) rfl (zdal_p dlA_IntRow_put_22 (i := 9) rfl) ?_
      refine zw_iload_n (pc := 18) (n := 2) (x := Int32.ofInt v) rfl (zdal_p dlA_IntRow_put_22 (i := 10) rfl) ?_
      refine zw_iast (pc := 19) hr g1 (zdal_p dlA_IntRow_put_22 (i := 11) rfl) ?_
      rw [g2]
      refine zw_vret (S := []) (pc := 20) rfl (zdal_p dlA_IntRow_put_22 (i := 12) rfl) ⟨rfl, ?_⟩
      unfold zpt
      rw [if_pos ⟨hc_1, hc_10⟩]
theorem k_LongRow_put (l : Launch) (M : zMem) (q r n : Nat) (hk : (zsh M q).1 = 8 + 3) (hl : zf M q 0 = some r) (hr : zsh M r = (2, n)) (hn : n ≤ 65536) (x : Int) (hx : zn32 x) (v : Int) : zC l m_LongRow_put 0 0 [.ref q, .int (Int32.ofInt x), .long (Int64.ofInt v)] M (fun w N => w = none ∧ N = zptJ M r n x v) := by
  have hn32 : zn32 (n : Int) := ⟨by omega, by omega⟩
  refine zC_of (L0 := [some (.ref q), some (.int (Int32.ofInt x)), some (.long (Int64.ofInt v)), none]) md_LongRow_put (Nat.le_of_ble_eq_true rfl) rfl ?_ zQ0
  refine zw_iload_n (pc := 0) (n := 1) (x := Int32.ofInt x) rfl (zdal_p dlA_LongRow_put_62 (i := 0) rfl) ?_
  refine zr_if_lt (pc := 1) (tgt := 20) hx (by decide) (zdal_p dlA_LongRow_put_62 (i := 1) rfl) (fun hc_1 => ?_) (fun hc_1 => ?_)
  · refine zw_vret (S := []) (pc := 20) rfl (zdal_p dlA_LongRow_put_62 (i := 12) rfl) ⟨rfl, ?_⟩
    unfold zptJ
    rw [if_neg (by omega)]
  · refine zw_iload_n (pc := 4) (n := 1) (x := Int32.ofInt x) rfl (zdal_p dlA_LongRow_put_62 (i := 2) rfl) ?_
    refine zw_aload_n (pc := 5) (n := 0) (x := q) rfl (zdal_p dlA_LongRow_put_62 (i := 3) rfl) ?_
    refine zw_getF (pc := 6) f_LongRow_13 rfl hk hl (zdal_p dlA_LongRow_put_62 (i := 4) rfl) ?_
    refine zw_alen (pc := 9) (Or.inr hr) (zdal_p dlA_LongRow_put_62 (i := 5) rfl) ?_
    rw [zk_nI hn]
    refine zr_icmp_ge (pc := 10) (tgt := 20) hx hn32 (by decide) (zdal_p dlA_LongRow_put_62 (i := 6) rfl) (fun hc_10 => ?_) (fun hc_10 => ?_)
    · refine zw_vret (S := []) (pc := 20) rfl (zdal_p dlA_LongRow_put_62 (i := 12) rfl) ⟨rfl, ?_⟩
      unfold zptJ
      rw [if_neg (by omega)]
    · obtain ⟨g1, g2⟩ := z_rin hc_1 hc_10 hn
      refine zw_aload_n (pc := 13) (n := 0) (x := q) rfl (zdal_p dlA_LongRow_put_62 (i := 7) rfl) ?_
      refine zw_getF (pc := 14) f_LongRow_13 rfl hk hl (zdal_p dlA_LongRow_put_62 (i := 8) rfl) ?_
      refine zw_iload_n (pc := 17) (n := 1) (x := Int32.ofInt x) rfl (zdal_p dlA_LongRow_put_62 (i := 9) rfl) ?_
      refine zw_lload_n (pc := 18) (n := 2) (x := Int64.ofInt v) rfl (zdal_p dlA_LongRow_put_62 (i := 10) rfl) ?_
      refine zw_last (pc := 19) hr g1 (zdal_p dlA_LongRow_put_62 (i := 11) rfl) ?_
      rw [g2]
      refine zw_vret (S := []) (pc := 20) rfl (zdal_p dlA_LongRow_put_62 (i := 12) rfl) ⟨rfl, ?_⟩
      unfold zptJ
      rw [if_pos ⟨hc_1, hc_10⟩]
section ZKC
variable {l : Launch} {k : zMeth} {X : Nat × Nat} {M : zMem} {pc : Nat} {L : List (Option Value)} {S : List Value} {Q : Option Value → zMem → Prop} {a b : Int} {d : Nat}
theorem zk_callV (hX : zn M ≤ X.1 ∧ zw M ≤ X.2) {k' : zMeth} {Q' : Option Value → zMem → Prop} {ix q : Nat} (vs rest : List Value) (hl' : zMLV (zo k) ix k') (hC : zC l k' 0 0 (.ref q :: vs) M Q') (hS : S = vs.reverse ++ .ref q :: rest) (hn : vs.length = zna k') (hb : (zsh M q).1 = zo k' + 3) (h12 : zo k' < 12) (hR : zF k' + 1 ≤ zF k ∧ 8 + (zl k' + 11) + zLo k' ≤ zLo k) (hc8 : (rest.map fun v => v.category).sum ≤ 8) (hd : decode (zb k) pc = .ok (.invokevirtual ix, 3))
    (kk : ∀ (r : Option Value) (M' : zMem), Q' r M' → zW l k X M' (pc + 3) L (r.toList ++ rest) Q) : zW l k X M pc L S Q :=
  zw_callV vs rest hl' hC hS hn hb h12 hR hX hc8 hd (fun r M' h _ _ => kk r M' h)
theorem zk_at (hX : zn M ≤ X.1 ∧ zw M ≤ X.2) {ix q r n : Nat} {x : Int} (hl' : zMLV (zo k) ix m_IntRow_at) (hk : (zsh M q).1 = 2 + 3) (hl : zf M q 0 = some r) (hr : zsh M r = (1, n)) (hn : n ≤ 65536) (h0 : 0 ≤ x) (h1 : x < n) (hR : zF m_IntRow_at + 1 ≤ zF k ∧ 8 + (zl m_IntRow_at + 11) + zLo m_IntRow_at ≤ zLo k) (hc8 : (S.map fun v => v.category).sum ≤ 8) (hd : decode (zb k) pc = .ok (.invokevirtual ix, 3))
    (kk : ∀ v : Int, v = ze M r x.toNat → -2147483648 ≤ v → v < 2147483648 → zW l k X M (pc + 3) L (.int (Int32.ofInt v) :: S) Q) : zW l k X M pc L (.int (Int32.ofInt x) :: .ref q :: S) Q := by
  refine zk_callV hX [.int (Int32.ofInt x)] S hl' (k_IntRow_at l M q r n hk hl hr hn x ⟨by omega, by omega⟩) rfl rfl hk (by decide) hR hc8 hd ?_
  rintro _ N1_ ⟨rfl, e1_⟩
  rw [e1_]
  have e : zat M r n x = ze M r x.toNat := by
    unfold zat
    rw [if_pos ⟨h0, h1⟩]
  rw [e]
  exact kk _ rfl (ze_r M r _).1 (ze_r M r _).2
theorem zk_atG (hX : zn M ≤ X.1 ∧ zw M ≤ X.2) {ix q r n : Nat} {x : Int} (hl' : zMLV (zo k) ix m_IntRow_at) (hk : (zsh M q).1 = 2 + 3) (hl : zf M q 0 = some r) (hr : zsh M r = (1, n)) (hn : n ≤ 65536) (hx : zn32 x) (hR : zF m_IntRow_at + 1 ≤ zF k ∧ 8 + (zl m_IntRow_at + 11) + zLo m_IntRow_at ≤ zLo k) (hc8 : (S.map fun v => v.category).sum ≤ 8) (hd : decode (zb k) pc = .ok (.invokevirtual ix, 3))
    (kk : ∀ v : Int, v = zat M r n x → -2147483648 ≤ v → v < 2147483648 → zW l k X M (pc + 3) L (.int (Int32.ofInt v) :: S) Q) : zW l k X M pc L (.int (Int32.ofInt x) :: .ref q :: S) Q := by
  refine zk_callV hX [.int (Int32.ofInt x)] S hl' (k_IntRow_at l M q r n hk hl hr hn x hx) rfl rfl hk (by decide) hR hc8 hd ?_
  rintro _ N1_ ⟨rfl, e1_⟩
  rw [e1_]
  have e : -2147483648 ≤ zat M r n x ∧ zat M r n x < 2147483648 := by
    unfold zat
    split
    · exact ze_r M r _
    · omega
  exact kk _ rfl e.1 e.2
theorem zk_atJ (hX : zn M ≤ X.1 ∧ zw M ≤ X.2) {ix q r n : Nat} {x : Int} (hl' : zMLV (zo k) ix m_LongRow_at) (hk : (zsh M q).1 = 8 + 3) (hl : zf M q 0 = some r) (hr : zsh M r = (2, n)) (hn : n ≤ 65536) (h0 : 0 ≤ x) (h1 : x < n) (hR : zF m_LongRow_at + 1 ≤ zF k ∧ 8 + (zl m_LongRow_at + 11) + zLo m_LongRow_at ≤ zLo k) (hc8 : (S.map fun v => v.category).sum ≤ 8) (hd : decode (zb k) pc = .ok (.invokevirtual ix, 3))
    (kk : ∀ v : Int, v = zg M r x.toNat → -9223372036854775808 ≤ v → v < 9223372036854775808 → zW l k X M (pc + 3) L (.long (Int64.ofInt v) :: S) Q) : zW l k X M pc L (.int (Int32.ofInt x) :: .ref q :: S) Q := by
  refine zk_callV hX [.int (Int32.ofInt x)] S hl' (k_LongRow_at l M q r n hk hl hr hn x ⟨by omega, by omega⟩) rfl rfl hk (by decide) hR hc8 hd ?_
  rintro _ N1_ ⟨rfl, e1_⟩
  rw [e1_]
  have e : zatJ M r n x = zg M r x.toNat := by
    unfold zatJ
    rw [if_pos ⟨h0, h1⟩]
  rw [e]
  exact kk _ rfl (zg_r M r _).1 (zg_r M r _).2
theorem zk_st (hX : zn M ≤ X.1 ∧ zw M ≤ X.2) {ix q o n : Nat} {x v : Int} (ho : o < 38) (hl' : zMLV (zo k) ix m_IntRow_put) (hk : (zsh M q).1 = 2 + 3) (hl : zf M q 0 = some (d + o)) (hr : zsh M (d + o) = (1, n)) (hn : n ≤ 65536) (h0 : 0 ≤ x) (h1 : x < n) (hR : zF m_IntRow_put + 1 ≤ zF k ∧ 8 + (zl m_IntRow_put + 11) + zLo m_IntRow_put ≤ zLo k) (hc8 : (S.map fun v => v.category).sum ≤ 8) (hd : decode (zb k) pc = .ok (.invokevirtual ix, 3))
    (kk : ∀ N : zMem, N = zsI M (d + o) x.toNat (Int32.ofInt v) → zFc d [] [] [] [o] M N → zW l k X N (pc + 3) L S Q) : zW l k X M pc L (.int (Int32.ofInt v) :: .int (Int32.ofInt x) :: .ref q :: S) Q := by
  refine zk_callV hX [.int (Int32.ofInt x), .int (Int32.ofInt v)] S hl' (k_IntRow_put l M q (d + o) n hk hl hr hn x ⟨by omega, by omega⟩ v) rfl rfl hk (by decide) hR hc8 hd ?_
  rintro _ _ ⟨rfl, rfl⟩
  have e : zpt M (d + o) n x v = zsI M (d + o) x.toNat (Int32.ofInt v) := by
    unfold zpt
    rw [if_pos ⟨h0, h1⟩]
  rw [e]
  exact kk _ rfl (zFc.sR ho)
theorem zk_stA (hX : zn M ≤ X.1 ∧ zw M ≤ X.2) (hW : zKW d M) {ix q r n : Nat} {x v : Int} (ho : r < 5) (hl' : zMLV (zo k) ix m_IntRow_put) (hk : (zsh M q).1 = 2 + 3) (hl : zf M q 0 = some r) (hr : zsh M r = (1, n)) (hn : n ≤ 65536) (h0 : 0 ≤ x) (h1 : x < n) (hR : zF m_IntRow_put + 1 ≤ zF k ∧ 8 + (zl m_IntRow_put + 11) + zLo m_IntRow_put ≤ zLo k) (hc8 : (S.map fun v => v.category).sum ≤ 8) (hd : decode (zb k) pc = .ok (.invokevirtual ix, 3))
    (kk : ∀ N : zMem, N = zsI M r x.toNat (Int32.ofInt v) → zFc d [] [r] [] [] M N → zW l k X N (pc + 3) L S Q) : zW l k X M pc L (.int (Int32.ofInt v) :: .int (Int32.ofInt x) :: .ref q :: S) Q := by
  refine zk_callV hX [.int (Int32.ofInt x), .int (Int32.ofInt v)] S hl' (k_IntRow_put l M q r n hk hl hr hn x ⟨by omega, by omega⟩ v) rfl rfl hk (by decide) hR hc8 hd ?_
  rintro _ _ ⟨rfl, rfl⟩
  have e : zpt M r n x v = zsI M r x.toNat (Int32.ofInt v) := by
    unfold zpt
    rw [if_pos ⟨h0, h1⟩]
  rw [e]
  exact kk _ rfl (zFc.sA hW ho)
theorem zk_stJ (hX : zn M ≤ X.1 ∧ zw M ≤ X.2) {ix q o n : Nat} {x v : Int} (ho : o < 38) (hl' : zMLV (zo k) ix m_LongRow_put) (hk : (zsh M q).1 = 8 + 3) (hl : zf M q 0 = some (d + o)) (hr : zsh M (d + o) = (2, n)) (hn : n ≤ 65536) (h0 : 0 ≤ x) (h1 : x < n) (hR : zF m_LongRow_put + 1 ≤ zF k ∧ 8 + (zl m_LongRow_put + 11) + zLo m_LongRow_put ≤ zLo k) (hc8 : (S.map fun v => v.category).sum ≤ 8) (hd : decode (zb k) pc = .ok (.invokevirtual ix, 3))
    (kk : ∀ N : zMem, N = zsJ M (d + o) x.toNat (Int64.ofInt v) → zFc d [] [] [] [o] M N → zW l k X N (pc + 3) L S Q) : zW l k X M pc L (.long (Int64.ofInt v) :: .int (Int32.ofInt x) :: .ref q :: S) Q := by
  refine zk_callV hX [.int (Int32.ofInt x), .long (Int64.ofInt v)] S hl' (k_LongRow_put l M q (d + o) n hk hl hr hn x ⟨by omega, by omega⟩ v) rfl rfl hk (by decide) hR hc8 hd ?_
  rintro _ _ ⟨rfl, rfl⟩
  have e : zptJ M (d + o) n x v = zsJ M (d + o) x.toNat (Int64.ofInt v) := by
    unfold zptJ
    rw [if_pos ⟨h0, h1⟩]
  rw [e]
  exact kk _ rfl (zFc.sRJ ho)
theorem zk_iret {FA : List (Nat × Nat)} {CA : List Nat} {FR : List (Nat × Nat)} {CR : List Nat} {M0 : zMem} {P : Int → zMem → Prop} {ty : FieldType} (hr : zr k = some ty) (hn : narrow ty (.int (Int32.ofInt a)) = .int (Int32.ofInt a)) (ha : zn32 a) (hf : zFc d FA CA FR CR M0 M) (hP : P a M) (hd : decode (zb k) pc = .ok (.ireturn, 1)) : zW l k X M pc L [.int (Int32.ofInt a)] (zqcI d FA CA FR CR M0 P) := zw_iret (S := []) hr hn hd ⟨a, rfl, ha, hf, hP⟩
theorem zk_lret {FA : List (Nat × Nat)} {CA : List Nat} {FR : List (Nat × Nat)} {CR : List Nat} {M0 : zMem} {P : Int → zMem → Prop} (hr : zr k = some .long) (ha : zn64 a) (hf : zFc d FA CA FR CR M0 M) (hP : P a M) (hd : decode (zb k) pc = .ok (.lreturn, 1)) : zW l k X M pc L [.long (Int64.ofInt a)] (zqcJ d FA CA FR CR M0 P) := zw_lret (S := []) hr hd ⟨a, rfl, ha, hf, hP⟩
theorem zk_vret {FA : List (Nat × Nat)} {CA : List Nat} {FR : List (Nat × Nat)} {CR : List Nat} {M0 : zMem} {P : zMem → Prop} (hr : zr k = none) (hf : zFc d FA CA FR CR M0 M) (hP : P M) (hd : decode (zb k) pc = .ok (.return_, 1)) : zW l k X M pc L [] (zqcV d FA CA FR CR M0 P) := zw_vret (S := []) hr hd ⟨rfl, hf, hP⟩
end ZKC
