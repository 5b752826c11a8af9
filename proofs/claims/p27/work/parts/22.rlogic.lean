def ze (M : zMem) (q k : Nat) : Int := (zi M q k).toInt
def zg (M : zMem) (q k : Nat) : Int := (zj M q k).toInt
theorem ze_of (M : zMem) (q k : Nat) : zi M q k = Int32.ofInt (ze M q k) := (Int32.ofInt_toInt _).symm
theorem zg_of (M : zMem) (q k : Nat) : zj M q k = Int64.ofInt (zg M q k) := (Int64.ofInt_toInt _).symm
theorem z32r (x : Int32) : -2147483648 ≤ x.toInt ∧ x.toInt < 2147483648 := by
  have h1 := x.toInt_lt
  have h2 := x.le_toInt
  omega
theorem z64r (x : Int64) : -9223372036854775808 ≤ x.toInt ∧ x.toInt < 9223372036854775808 := by
  have h1 := x.toInt_lt
  have h2 := x.le_toInt
  omega
theorem ze_r (M : zMem) (q k : Nat) : -2147483648 ≤ ze M q k ∧ ze M q k < 2147483648 := z32r _
theorem zg_r (M : zMem) (q k : Nat) : -9223372036854775808 ≤ zg M q k ∧ zg M q k < 9223372036854775808 := z64r _
def zn32 (a : Int) : Prop := -2147483648 ≤ a ∧ a < 2147483648
def zn64 (a : Int) : Prop := -9223372036854775808 ≤ a ∧ a < 9223372036854775808
theorem z32 {a : Int} (h : zn32 a) : (Int32.ofInt a).toInt = a := Int32.toInt_ofInt_of_le (by have := h.1; omega) (by have := h.2; omega)
theorem z64 {a : Int} (h : zn64 a) : (Int64.ofInt a).toInt = a := Int64.toInt_ofInt_of_le (by have := h.1; omega) (by have := h.2; omega)
theorem z32i {a b : Int} (ha : zn32 a) (hb : zn32 b) : Int32.ofInt a = Int32.ofInt b ↔ a = b := by
  constructor
  · intro h
    have := congrArg Int32.toInt h
    rwa [z32 ha, z32 hb] at this
  · rintro rfl; rfl
theorem z32l {a b : Int} (ha : zn32 a) (hb : zn32 b) : Int32.ofInt a < Int32.ofInt b ↔ a < b := by
  rw [Int32.lt_iff_toInt_lt, z32 ha, z32 hb]
theorem z32e {a b : Int} (ha : zn32 a) (hb : zn32 b) : Int32.ofInt a ≤ Int32.ofInt b ↔ a ≤ b := by
  rw [Int32.le_iff_toInt_le, z32 ha, z32 hb]
theorem z32z : zn32 0 := ⟨by decide, by decide⟩
theorem z_zero : (0 : Int32) = Int32.ofInt 0 := by decide
def zcmp (a b : Int) : Int := if a > b then 1 else if a = b then 0 else -1
theorem zcmp_s (a b : Int) : (zcmp a b = 1 ∧ b < a) ∨ (zcmp a b = 0 ∧ a = b) ∨ (zcmp a b = -1 ∧ a < b) := by
  unfold zcmp
  split
  · exact Or.inl ⟨rfl, by omega⟩
  · split
    · exact Or.inr (Or.inl ⟨rfl, by omega⟩)
    · exact Or.inr (Or.inr ⟨rfl, by omega⟩)
theorem z_lcmp {a b : Int} (ha : zn64 a) (hb : zn64 b) : lg_cmp (Int64.ofInt a) (Int64.ofInt b) = Int32.ofInt (zcmp a b) := by
  unfold lg_cmp zcmp
  have h1 : Int64.ofInt a > Int64.ofInt b ↔ a > b := by
    show Int64.ofInt b < Int64.ofInt a ↔ _
    rw [Int64.lt_iff_toInt_lt, z64 ha, z64 hb]
  have h2 : Int64.ofInt a = Int64.ofInt b ↔ a = b := by
    constructor
    · intro h
      have := congrArg Int64.toInt h
      rwa [z64 ha, z64 hb] at this
    · rintro rfl; rfl
  by_cases h : a > b
  · rw [if_pos (h1.mpr h), if_pos h]; rfl
  · rw [if_neg (fun x => h (h1.mp x)), if_neg h]
    by_cases h' : a = b
    · rw [if_pos (h2.mpr h'), if_pos h']; rfl
    · rw [if_neg (fun x => h' (h2.mp x)), if_neg h']; rfl
def zor (a b : Int) : Int := (Int32.ofInt a ||| Int32.ofInt b).toInt
def zand (a b : Int) : Int := (Int32.ofInt a &&& Int32.ofInt b).toInt
def zxor (a b : Int) : Int := (Int32.ofInt a ^^^ Int32.ofInt b).toInt
def zshl (a b : Int) : Int := (Int32.ofInt a <<< (Int32.ofInt b &&& 31)).toInt
def zshr (a b : Int) : Int := (Int32.ofInt a >>> (Int32.ofInt b &&& 31)).toInt
def zquo (a b : Int) : Int := (Int32.ofInt a / Int32.ofInt b).toInt
def zrem (a b : Int) : Int := (Int32.ofInt a - Int32.ofInt a / Int32.ofInt b * Int32.ofInt b).toInt
theorem zor_r (a b : Int) : -2147483648 ≤ zor a b ∧ zor a b < 2147483648 := z32r _
theorem zand_r (a b : Int) : -2147483648 ≤ zand a b ∧ zand a b < 2147483648 := z32r _
theorem zxor_r (a b : Int) : -2147483648 ≤ zxor a b ∧ zxor a b < 2147483648 := z32r _
theorem zshl_r (a b : Int) : -2147483648 ≤ zshl a b ∧ zshl a b < 2147483648 := z32r _
theorem zshr_r (a b : Int) : -2147483648 ≤ zshr a b ∧ zshr a b < 2147483648 := z32r _
theorem zquo_r (a b : Int) : -2147483648 ≤ zquo a b ∧ zquo a b < 2147483648 := z32r _
theorem zrem_r (a b : Int) : -2147483648 ≤ zrem a b ∧ zrem a b < 2147483648 := z32r _
def zlquo (a b : Int) : Int := (Int64.ofInt a / Int64.ofInt b).toInt
def zlrem (a b : Int) : Int := (Int64.ofInt a - Int64.ofInt a / Int64.ofInt b * Int64.ofInt b).toInt
def zlor (a b : Int) : Int := (Int64.ofInt a ||| Int64.ofInt b).toInt
def zlshl (a b : Int) : Int := (Int64.ofInt a <<< ((Int32.ofInt b).toInt64 &&& 63)).toInt
theorem zlquo_r (a b : Int) : -9223372036854775808 ≤ zlquo a b ∧ zlquo a b < 9223372036854775808 := z64r _
theorem zlrem_r (a b : Int) : -9223372036854775808 ≤ zlrem a b ∧ zlrem a b < 9223372036854775808 := z64r _
theorem zlor_r (a b : Int) : -9223372036854775808 ≤ zlor a b ∧ zlor a b < 9223372036854775808 := z64r _
theorem zlshl_r (a b : Int) : -9223372036854775808 ≤ zlshl a b ∧ zlshl a b < 9223372036854775808 := z64r _
theorem z32ne {b : Int} (hb : zn32 b) (h : b ≠ 0) : ¬ Int32.ofInt b = 0 := fun e => h ((z32i hb z32z).mp (e.trans z_zero))
theorem z64ne {b : Int} (hb : zn64 b) (h : b ≠ 0) : ¬ Int64.ofInt b = 0 := fun e => h (by
  have := congrArg Int64.toInt e
  rw [z64 hb] at this
  exact this)
def zFr (S C : List Nat) (M N : zMem) : Prop := N.1 = M.1 ∧ zsh N = zsh M ∧ zf N = zf M ∧ (∀ q, q ≠ 81 → q ∉ C → zi N q = zi M q ∧ zj N q = zj M q) ∧ ∀ j, j ∉ S → zi N 81 j = zi M 81 j ∧ zj N 81 j = zj M 81 j
theorem zFr.rf {S C : List Nat} {M : zMem} : zFr S C M M := ⟨rfl, rfl, rfl, fun _ _ _ => ⟨rfl, rfl⟩, fun _ _ => ⟨rfl, rfl⟩⟩
theorem zFr.tr {S C S' C' : List Nat} {M N P : zMem} (h : zFr S C M N) (h2 : zFr S' C' N P) (hs : ∀ x ∈ S', x ∈ S) (hc : ∀ x ∈ C', x ∈ C) : zFr S C M P := by
  obtain ⟨a1, a2, a3, a4, a5⟩ := h
  obtain ⟨b1, b2, b3, b4, b5⟩ := h2
  exact ⟨b1.trans a1, b2.trans a2, b3.trans a3, fun q h1 h2 => ⟨(b4 q h1 (fun x => h2 (hc _ x))).1.trans (a4 q h1 h2).1, (b4 q h1 (fun x => h2 (hc _ x))).2.trans (a4 q h1 h2).2⟩, fun j h1 => ⟨(b5 j (fun x => h1 (hs _ x))).1.trans (a5 j h1).1, (b5 j (fun x => h1 (hs _ x))).2.trans (a5 j h1).2⟩⟩
theorem zFr.up {S C S' C' : List Nat} {M N : zMem} (h : zFr S' C' M N) (hs : ∀ x ∈ S', x ∈ S) (hc : ∀ x ∈ C', x ∈ C) : zFr S C M N := zFr.rf.tr h hs hc
theorem zFr.w {S C : List Nat} {M N : zMem} (h : zFr S C M N) (hW : zMt M) : zMt N := by
  obtain ⟨a1, a2, a3, -, -⟩ := h
  obtain ⟨b1, b2, b3⟩ := hW
  refine ⟨?_, ?_, ?_⟩
  · unfold zn at b1 ⊢
    rw [a1]; exact b1
  · rw [a2]; exact b2
  · rw [a2, a3]; exact b3
theorem zFr.e {S C : List Nat} {M N : zMem} (h : zFr S C M N) {j : Nat} (hj : j ∉ S) : ze N 81 j = ze M 81 j := by
  unfold ze
  rw [(h.2.2.2.2 j hj).1]
theorem zFr.g {S C : List Nat} {M N : zMem} (h : zFr S C M N) {j : Nat} (hj : j ∉ S) : zg N 81 j = zg M 81 j := by
  unfold zg
  rw [(h.2.2.2.2 j hj).2]
theorem zFr.i {S C : List Nat} {M N : zMem} (h : zFr S C M N) {q : Nat} (h1 : q ≠ 81) (hq : q ∉ C) : zi N q = zi M q := (h.2.2.2.1 q h1 hq).1
theorem zFr.j {S C : List Nat} {M N : zMem} (h : zFr S C M N) {q : Nat} (h1 : q ≠ 81) (hq : q ∉ C) : zj N q = zj M q := (h.2.2.2.1 q h1 hq).2
theorem zFr.ie {S C : List Nat} {M N : zMem} (h : zFr S C M N) {q : Nat} (h1 : q ≠ 81) (hq : q ∉ C) (n : Nat) : ze N q n = ze M q n := by
  unfold ze
  rw [h.i h1 hq]
theorem zFr.jg {S C : List Nat} {M N : zMem} (h : zFr S C M N) {q : Nat} (h1 : q ≠ 81) (hq : q ∉ C) (n : Nat) : zg N q n = zg M q n := by
  unfold zg
  rw [h.j h1 hq]
theorem zFr.eq {M N : zMem} (h : zFr [] [] M N) : N = M := by
  obtain ⟨a1, a2, a3, a4, a5⟩ := h
  obtain ⟨m1, m2, m3, m4, m5⟩ := M
  obtain ⟨n1, n2, n3, n4, n5⟩ := N
  have e3 : n3 = m3 := by
    funext q j
    by_cases h : q = 81
    · subst h
      exact (a5 j List.not_mem_nil).1
    · exact congrFun (a4 q h List.not_mem_nil).1 j
  have e4 : n4 = m4 := by
    funext q j
    by_cases h : q = 81
    · subst h
      exact (a5 j List.not_mem_nil).2
    · exact congrFun (a4 q h List.not_mem_nil).2 j
  have e1 : n1 = m1 := a1
  have e2 : n2 = m2 := a2
  have e5 : n5 = m5 := a3
  rw [e1, e2, e3, e4, e5]
theorem zFr.sA {M : zMem} {q i : Nat} {v : Int32} (hq : q ≠ 81) : zFr [] [q] M (zsI M q i v) := by
  refine ⟨rfl, rfl, rfl, fun r _ h2 => ⟨zup2_q (fun e => h2 (by rw [e]; exact List.mem_singleton.mpr rfl)), rfl⟩, fun j _ => ⟨?_, rfl⟩⟩
  exact congrFun (zup2_q (Ne.symm hq)) j
theorem zFr.sB {M : zMem} {q i : Nat} {v : Int64} (hq : q ≠ 81) : zFr [] [q] M (zsJ M q i v) := by
  refine ⟨rfl, rfl, rfl, fun r _ h2 => ⟨rfl, zup2_q (fun e => h2 (by rw [e]; exact List.mem_singleton.mpr rfl))⟩, fun j _ => ⟨rfl, ?_⟩⟩
  exact congrFun (zup2_q (Ne.symm hq)) j
theorem zFr.pI {M : zMem} {j : Nat} {v : Int32} : zFr [j] [] M (zsI M 81 j v) := ⟨rfl, rfl, rfl, fun r h _ => ⟨zup2_q h, rfl⟩, fun i h => ⟨zup2_n (fun z => h (by rw [z.2]; exact List.mem_singleton.mpr rfl)), rfl⟩⟩
theorem zFr.pJ {M : zMem} {j : Nat} {v : Int64} : zFr [j] [] M (zsJ M 81 j v) := ⟨rfl, rfl, rfl, fun r h _ => ⟨rfl, zup2_q h⟩, fun i h => ⟨rfl, zup2_n (fun z => h (by rw [z.2]; exact List.mem_singleton.mpr rfl))⟩⟩
theorem zs_get {M N : zMem} {q i : Nat} {v : Int} (h : N = zsI M q i (Int32.ofInt v)) (hv : zn32 v) : ze N q i = v := by
  rw [h]
  show (zup2 (zi M) q i _ q i).toInt = v
  rw [zup2_s, z32 hv]
theorem zs_oth {M N : zMem} {q i : Nat} {v : Int32} (h : N = zsI M q i v) {j : Nat} (hj : j ≠ i) : ze N q j = ze M q j := by
  rw [h]
  show (zup2 (zi M) q i _ q j).toInt = _
  rw [zup2_n (fun z => hj z.2)]
  rfl
theorem zs_getJ {M N : zMem} {q i : Nat} {v : Int} (h : N = zsJ M q i (Int64.ofInt v)) (hv : zn64 v) : zg N q i = v := by
  rw [h]
  show (zup2 (zj M) q i _ q i).toInt = v
  rw [zup2_s, z64 hv]
theorem zs_othJ {M N : zMem} {q i : Nat} {v : Int64} (h : N = zsJ M q i v) {j : Nat} (hj : j ≠ i) : zg N q j = zg M q j := by
  rw [h]
  show (zup2 (zj M) q i _ q j).toInt = _
  rw [zup2_n (fun z => hj z.2)]
  rfl
def zB (q n : Nat) (lo hi : Int) (M : zMem) : Prop := ∀ k, k < n → lo ≤ ze M q k ∧ ze M q k ≤ hi
theorem zB.g {M : zMem} {q n : Nat} {lo hi : Int} (h : zB q n lo hi M) {e : Int} (h0 : 0 ≤ e) (h1 : e < n) : lo ≤ ze M q e.toNat ∧ ze M q e.toNat ≤ hi := h _ (by omega)
theorem zB.s {M N : zMem} {q n i : Nat} {lo hi v : Int} (h : zB q n lo hi M) (hN : N = zsI M q i (Int32.ofInt v)) (h0 : lo ≤ v) (h1 : v ≤ hi) (hl : -2147483648 ≤ lo) (hh : hi < 2147483648) : zB q n lo hi N := by
  intro j hj
  by_cases e : j = i
  · subst e
    rw [zs_get hN ⟨by omega, by omega⟩]
    exact ⟨h0, h1⟩
  · rw [zs_oth hN e]
    exact h j hj
theorem zB.fr {S C : List Nat} {M N : zMem} {q n : Nat} {lo hi : Int} (hf : zFr S C M N) (h : zB q n lo hi M) (h1 : q ≠ 81) (hq : q ∉ C) : zB q n lo hi N := by
  intro j hj
  rw [hf.ie h1 hq]
  exact h j hj
theorem zB.of {q n : Nat} {lo hi lo' hi' : Int} {M : zMem} (h : zB q n lo hi M) (h0 : lo' ≤ lo) (h1 : hi ≤ hi') : zB q n lo' hi' M := fun j hj => ⟨by have := (h j hj).1; omega, by have := (h j hj).2; omega⟩
def zpI (S C : List Nat) (M : zMem) (P : Int → zMem → Prop) : Option Value → zMem → Prop := fun r N => ∃ v : Int, r = some (.int (Int32.ofInt v)) ∧ zn32 v ∧ zFr S C M N ∧ P v N
def zpJ (S C : List Nat) (M : zMem) (P : Int → zMem → Prop) : Option Value → zMem → Prop := fun r N => ∃ v : Int, r = some (.long (Int64.ofInt v)) ∧ zn64 v ∧ zFr S C M N ∧ P v N
def zpV (S C : List Nat) (M : zMem) (P : zMem → Prop) : Option Value → zMem → Prop := fun r N => r = none ∧ zFr S C M N ∧ P N
section ZR
variable {l : Launch} {k : zMeth} {X : Nat × Nat} {M : zMem} {pc : Nat} {L : List (Option Value)} {S : List Value} {Q : Option Value → zMem → Prop} {a b : Int}
theorem zr_iadd  (hd : decode (zb k) pc = .ok (.iadd, 1)) (kk : zW l k X M (pc + 1) L (.int (Int32.ofInt (a + b)) :: S) Q) : zW l k X M pc L (.int (Int32.ofInt b) :: .int (Int32.ofInt a) :: S) Q := zw_iadd hd (by rw [← Int32.ofInt_add]; exact kk)
theorem zr_isub  (hd : decode (zb k) pc = .ok (.isub, 1)) (kk : zW l k X M (pc + 1) L (.int (Int32.ofInt (a - b)) :: S) Q) : zW l k X M pc L (.int (Int32.ofInt b) :: .int (Int32.ofInt a) :: S) Q := zw_isub hd (by rw [← Int32.ofInt_sub]; exact kk)
theorem zr_imul  (hd : decode (zb k) pc = .ok (.imul, 1)) (kk : zW l k X M (pc + 1) L (.int (Int32.ofInt (a * b)) :: S) Q) : zW l k X M pc L (.int (Int32.ofInt b) :: .int (Int32.ofInt a) :: S) Q := zw_imul hd (by rw [← Int32.ofInt_mul]; exact kk)
theorem zr_ladd  (hd : decode (zb k) pc = .ok (.ladd, 1)) (kk : zW l k X M (pc + 1) L (.long (Int64.ofInt (a + b)) :: S) Q) : zW l k X M pc L (.long (Int64.ofInt b) :: .long (Int64.ofInt a) :: S) Q := zw_ladd hd (by rw [← Int64.ofInt_add]; exact kk)
theorem zr_lsub  (hd : decode (zb k) pc = .ok (.lsub, 1)) (kk : zW l k X M (pc + 1) L (.long (Int64.ofInt (a - b)) :: S) Q) : zW l k X M pc L (.long (Int64.ofInt b) :: .long (Int64.ofInt a) :: S) Q := zw_lsub hd (by rw [← Int64.ofInt_sub]; exact kk)
theorem zr_lmul  (hd : decode (zb k) pc = .ok (.lmul, 1)) (kk : zW l k X M (pc + 1) L (.long (Int64.ofInt (a * b)) :: S) Q) : zW l k X M pc L (.long (Int64.ofInt b) :: .long (Int64.ofInt a) :: S) Q := zw_lmul hd (by rw [← Int64.ofInt_mul]; exact kk)
theorem zr_ior  (hd : decode (zb k) pc = .ok (.ior, 1)) (kk : zW l k X M (pc + 1) L (.int (Int32.ofInt (zor a b)) :: S) Q) : zW l k X M pc L (.int (Int32.ofInt b) :: .int (Int32.ofInt a) :: S) Q := zw_ior hd (by rw [show Int32.ofInt a ||| Int32.ofInt b = Int32.ofInt (zor a b) from (Int32.ofInt_toInt _).symm]; exact kk)
theorem zr_iand  (hd : decode (zb k) pc = .ok (.iand, 1)) (kk : zW l k X M (pc + 1) L (.int (Int32.ofInt (zand a b)) :: S) Q) : zW l k X M pc L (.int (Int32.ofInt b) :: .int (Int32.ofInt a) :: S) Q := zw_iand hd (by rw [show Int32.ofInt a &&& Int32.ofInt b = Int32.ofInt (zand a b) from (Int32.ofInt_toInt _).symm]; exact kk)
theorem zr_ixor  (hd : decode (zb k) pc = .ok (.ixor, 1)) (kk : zW l k X M (pc + 1) L (.int (Int32.ofInt (zxor a b)) :: S) Q) : zW l k X M pc L (.int (Int32.ofInt b) :: .int (Int32.ofInt a) :: S) Q := zw_ixor hd (by rw [show Int32.ofInt a ^^^ Int32.ofInt b = Int32.ofInt (zxor a b) from (Int32.ofInt_toInt _).symm]; exact kk)
theorem zr_ishl  (hd : decode (zb k) pc = .ok (.ishl, 1)) (kk : zW l k X M (pc + 1) L (.int (Int32.ofInt (zshl a b)) :: S) Q) : zW l k X M pc L (.int (Int32.ofInt b) :: .int (Int32.ofInt a) :: S) Q := zw_ishl hd (by rw [show Int32.ofInt a <<< (Int32.ofInt b &&& 31) = Int32.ofInt (zshl a b) from (Int32.ofInt_toInt _).symm]; exact kk)
theorem zr_ishr  (hd : decode (zb k) pc = .ok (.ishr, 1)) (kk : zW l k X M (pc + 1) L (.int (Int32.ofInt (zshr a b)) :: S) Q) : zW l k X M pc L (.int (Int32.ofInt b) :: .int (Int32.ofInt a) :: S) Q := zw_ishr hd (by rw [show Int32.ofInt a >>> (Int32.ofInt b &&& 31) = Int32.ofInt (zshr a b) from (Int32.ofInt_toInt _).symm]; exact kk)
theorem zr_idiv (hb : zn32 b) (h0 : b ≠ 0) (hd : decode (zb k) pc = .ok (.idiv, 1)) (kk : zW l k X M (pc + 1) L (.int (Int32.ofInt (zquo a b)) :: S) Q) : zW l k X M pc L (.int (Int32.ofInt b) :: .int (Int32.ofInt a) :: S) Q := zw_idiv (z32ne hb h0) hd (by rw [show Int32.ofInt a / Int32.ofInt b = Int32.ofInt (zquo a b) from (Int32.ofInt_toInt _).symm]; exact kk)
theorem zr_irem (hb : zn32 b) (h0 : b ≠ 0) (hd : decode (zb k) pc = .ok (.irem, 1)) (kk : zW l k X M (pc + 1) L (.int (Int32.ofInt (zrem a b)) :: S) Q) : zW l k X M pc L (.int (Int32.ofInt b) :: .int (Int32.ofInt a) :: S) Q := zw_irem (z32ne hb h0) hd (by rw [show Int32.ofInt a - Int32.ofInt a / Int32.ofInt b * Int32.ofInt b = Int32.ofInt (zrem a b) from (Int32.ofInt_toInt _).symm]; exact kk)
theorem zr_ldiv (hb : zn64 b) (h0 : b ≠ 0) (hd : decode (zb k) pc = .ok (.ldiv, 1)) (kk : zW l k X M (pc + 1) L (.long (Int64.ofInt (zlquo a b)) :: S) Q) : zW l k X M pc L (.long (Int64.ofInt b) :: .long (Int64.ofInt a) :: S) Q := zw_ldiv (z64ne hb h0) hd (by rw [show Int64.ofInt a / Int64.ofInt b = Int64.ofInt (zlquo a b) from (Int64.ofInt_toInt _).symm]; exact kk)
theorem zr_lrem (hb : zn64 b) (h0 : b ≠ 0) (hd : decode (zb k) pc = .ok (.lrem, 1)) (kk : zW l k X M (pc + 1) L (.long (Int64.ofInt (zlrem a b)) :: S) Q) : zW l k X M pc L (.long (Int64.ofInt b) :: .long (Int64.ofInt a) :: S) Q := zw_lrem (z64ne hb h0) hd (by rw [show Int64.ofInt a - Int64.ofInt a / Int64.ofInt b * Int64.ofInt b = Int64.ofInt (zlrem a b) from (Int64.ofInt_toInt _).symm]; exact kk)
theorem zr_ineg  (hd : decode (zb k) pc = .ok (.ineg, 1)) (kk : zW l k X M (pc + 1) L (.int (Int32.ofInt (-a)) :: S) Q) : zW l k X M pc L (.int (Int32.ofInt a) :: S) Q := zw_ineg hd (by rw [← Int32.ofInt_neg]; exact kk)
theorem zr_lneg  (hd : decode (zb k) pc = .ok (.lneg, 1)) (kk : zW l k X M (pc + 1) L (.long (Int64.ofInt (-a)) :: S) Q) : zW l k X M pc L (.long (Int64.ofInt a) :: S) Q := zw_lneg hd (by rw [← Int64.ofInt_neg]; exact kk)
theorem zr_i2l (ha : zn32 a) (hd : decode (zb k) pc = .ok (.i2l, 1)) (kk : zW l k X M (pc + 1) L (.long (Int64.ofInt a) :: S) Q) : zW l k X M pc L (.int (Int32.ofInt a) :: S) Q := zw_i2l hd (by rw [Int32.toInt64_ofInt (by have := ha.1; show -2147483648 ≤ a; exact this) (by have := ha.2; show a ≤ 2147483647; omega)]; exact kk)
theorem zr_l2i  (hd : decode (zb k) pc = .ok (.l2i, 1)) (kk : zW l k X M (pc + 1) L (.int (Int32.ofInt a) :: S) Q) : zW l k X M pc L (.long (Int64.ofInt a) :: S) Q := zw_l2i hd (by rw [Int64.toInt32_ofInt]; exact kk)
theorem zr_lcmp (ha : zn64 a) (hb : zn64 b) (hd : decode (zb k) pc = .ok (.lcmp, 1)) (kk : zW l k X M (pc + 1) L (.int (Int32.ofInt (zcmp a b)) :: S) Q) : zW l k X M pc L (.long (Int64.ofInt b) :: .long (Int64.ofInt a) :: S) Q := zw_lcmp hd (by rw [z_lcmp ha hb]; exact kk)
theorem zr_lor  (hd : decode (zb k) pc = .ok (.lor, 1)) (kk : zW l k X M (pc + 1) L (.long (Int64.ofInt (zlor a b)) :: S) Q) : zW l k X M pc L (.long (Int64.ofInt b) :: .long (Int64.ofInt a) :: S) Q := zw_lor hd (by rw [show Int64.ofInt a ||| Int64.ofInt b = Int64.ofInt (zlor a b) from (Int64.ofInt_toInt _).symm]; exact kk)
theorem zr_lshl  (hd : decode (zb k) pc = .ok (.lshl, 1)) (kk : zW l k X M (pc + 1) L (.long (Int64.ofInt (zlshl a b)) :: S) Q) : zW l k X M pc L (.int (Int32.ofInt b) :: .long (Int64.ofInt a) :: S) Q := zw_lshl hd (by rw [show Int64.ofInt a <<< ((Int32.ofInt b).toInt64 &&& 63) = Int64.ofInt (zlshl a b) from (Int64.ofInt_toInt _).symm]; exact kk)
theorem zr_nmI (kk : ∀ v : Int, zn32 v → zW l k X M pc L (.int (Int32.ofInt v) :: S) Q) : zW l k X M pc L (.int (Int32.ofInt a) :: S) Q := by
  have h := kk (Int32.ofInt a).toInt (z32r _)
  rwa [Int32.ofInt_toInt] at h
theorem zr_nmJ (kk : ∀ v : Int, zn64 v → zW l k X M pc L (.long (Int64.ofInt v) :: S) Q) : zW l k X M pc L (.long (Int64.ofInt a) :: S) Q := by
  have h := kk (Int64.ofInt a).toInt (z64r _)
  rwa [Int64.ofInt_toInt] at h
theorem zr_toI {a' : Int} (e : a = a') (kk : zW l k X M pc L (.int (Int32.ofInt a') :: S) Q) : zW l k X M pc L (.int (Int32.ofInt a) :: S) Q := by rw [e]; exact kk
theorem zr_toJ {a' : Int} (e : a = a') (kk : zW l k X M pc L (.long (Int64.ofInt a') :: S) Q) : zW l k X M pc L (.long (Int64.ofInt a) :: S) Q := by rw [e]; exact kk
theorem zr_iinc {i : Nat} {n : Int} {L2 : List (Option Value)} (hL : L[i]? = some (some (.int (Int32.ofInt a)))) (hn : i < zl k) (h2 : zst1 L i (.int (Int32.ofInt (a + n))) = L2) (hd : decode (zb k) pc = .ok (.iinc i n, 3)) (kk : zW l k X M (pc + 3) L2 S Q) : zW l k X M pc L S Q := zw_iinc hL (Int32.ofInt_add a n).symm hn h2 hd kk
theorem zr_if_eq (ha : zn32 a) {off : Int} {tgt : Nat} (ht : (pc : Int) + off = (tgt : Int)) (hd : decode (zb k) pc = .ok (.ifCond .eq off, 3)) (kt : a = 0 → zW l k X M tgt L S Q) (kk : a ≠ 0 → zW l k X M (pc + 3) L S Q) : zW l k X M pc L (.int (Int32.ofInt a) :: S) Q := zw_if_eq ht hd (fun h => kt ((z32i ha z32z).mp h)) (fun h => kk (fun e => h ((z32i ha z32z).mpr e)))
theorem zr_icmp_eq (ha : zn32 a) (hb : zn32 b) {off : Int} {tgt : Nat} (ht : (pc : Int) + off = (tgt : Int)) (hd : decode (zb k) pc = .ok (.if_icmp .eq off, 3)) (kt : a = b → zW l k X M tgt L S Q) (kk : a ≠ b → zW l k X M (pc + 3) L S Q) : zW l k X M pc L (.int (Int32.ofInt b) :: .int (Int32.ofInt a) :: S) Q := zw_icmp_eq ht hd (fun h => kt ((z32i ha hb).mp h)) (fun h => kk (fun e => h ((z32i ha hb).mpr e)))
theorem zr_if_ne (ha : zn32 a) {off : Int} {tgt : Nat} (ht : (pc : Int) + off = (tgt : Int)) (hd : decode (zb k) pc = .ok (.ifCond .ne off, 3)) (kt : a ≠ 0 → zW l k X M tgt L S Q) (kk : a = 0 → zW l k X M (pc + 3) L S Q) : zW l k X M pc L (.int (Int32.ofInt a) :: S) Q := zw_if_ne ht hd (fun h => kt (fun e => h ((z32i ha z32z).mpr e))) (fun h => kk ((z32i ha z32z).mp h))
theorem zr_icmp_ne (ha : zn32 a) (hb : zn32 b) {off : Int} {tgt : Nat} (ht : (pc : Int) + off = (tgt : Int)) (hd : decode (zb k) pc = .ok (.if_icmp .ne off, 3)) (kt : a ≠ b → zW l k X M tgt L S Q) (kk : a = b → zW l k X M (pc + 3) L S Q) : zW l k X M pc L (.int (Int32.ofInt b) :: .int (Int32.ofInt a) :: S) Q := zw_icmp_ne ht hd (fun h => kt (fun e => h ((z32i ha hb).mpr e))) (fun h => kk ((z32i ha hb).mp h))
theorem zr_if_lt (ha : zn32 a) {off : Int} {tgt : Nat} (ht : (pc : Int) + off = (tgt : Int)) (hd : decode (zb k) pc = .ok (.ifCond .lt off, 3)) (kt : a < 0 → zW l k X M tgt L S Q) (kk : 0 ≤ a → zW l k X M (pc + 3) L S Q) : zW l k X M pc L (.int (Int32.ofInt a) :: S) Q := zw_if_lt ht hd (fun h => kt ((z32l ha z32z).mp h)) (fun h => kk (Int.not_lt.mp (fun e => h ((z32l ha z32z).mpr e))))
theorem zr_icmp_lt (ha : zn32 a) (hb : zn32 b) {off : Int} {tgt : Nat} (ht : (pc : Int) + off = (tgt : Int)) (hd : decode (zb k) pc = .ok (.if_icmp .lt off, 3)) (kt : a < b → zW l k X M tgt L S Q) (kk : b ≤ a → zW l k X M (pc + 3) L S Q) : zW l k X M pc L (.int (Int32.ofInt b) :: .int (Int32.ofInt a) :: S) Q := zw_icmp_lt ht hd (fun h => kt ((z32l ha hb).mp h)) (fun h => kk (Int.not_lt.mp (fun e => h ((z32l ha hb).mpr e))))
theorem zr_if_ge (ha : zn32 a) {off : Int} {tgt : Nat} (ht : (pc : Int) + off = (tgt : Int)) (hd : decode (zb k) pc = .ok (.ifCond .ge off, 3)) (kt : 0 ≤ a → zW l k X M tgt L S Q) (kk : a < 0 → zW l k X M (pc + 3) L S Q) : zW l k X M pc L (.int (Int32.ofInt a) :: S) Q := zw_if_ge ht hd (fun h => kt ((z32e z32z ha).mp h)) (fun h => kk (Int.not_le.mp (fun e => h ((z32e z32z ha).mpr e))))
theorem zr_icmp_ge (ha : zn32 a) (hb : zn32 b) {off : Int} {tgt : Nat} (ht : (pc : Int) + off = (tgt : Int)) (hd : decode (zb k) pc = .ok (.if_icmp .ge off, 3)) (kt : b ≤ a → zW l k X M tgt L S Q) (kk : a < b → zW l k X M (pc + 3) L S Q) : zW l k X M pc L (.int (Int32.ofInt b) :: .int (Int32.ofInt a) :: S) Q := zw_icmp_ge ht hd (fun h => kt ((z32e hb ha).mp h)) (fun h => kk (Int.not_le.mp (fun e => h ((z32e hb ha).mpr e))))
theorem zr_if_gt (ha : zn32 a) {off : Int} {tgt : Nat} (ht : (pc : Int) + off = (tgt : Int)) (hd : decode (zb k) pc = .ok (.ifCond .gt off, 3)) (kt : 0 < a → zW l k X M tgt L S Q) (kk : a ≤ 0 → zW l k X M (pc + 3) L S Q) : zW l k X M pc L (.int (Int32.ofInt a) :: S) Q := zw_if_gt ht hd (fun h => kt ((z32l z32z ha).mp h)) (fun h => kk (Int.not_lt.mp (fun e => h ((z32l z32z ha).mpr e))))
theorem zr_icmp_gt (ha : zn32 a) (hb : zn32 b) {off : Int} {tgt : Nat} (ht : (pc : Int) + off = (tgt : Int)) (hd : decode (zb k) pc = .ok (.if_icmp .gt off, 3)) (kt : b < a → zW l k X M tgt L S Q) (kk : a ≤ b → zW l k X M (pc + 3) L S Q) : zW l k X M pc L (.int (Int32.ofInt b) :: .int (Int32.ofInt a) :: S) Q := zw_icmp_gt ht hd (fun h => kt ((z32l hb ha).mp h)) (fun h => kk (Int.not_lt.mp (fun e => h ((z32l hb ha).mpr e))))
theorem zr_if_le (ha : zn32 a) {off : Int} {tgt : Nat} (ht : (pc : Int) + off = (tgt : Int)) (hd : decode (zb k) pc = .ok (.ifCond .le off, 3)) (kt : a ≤ 0 → zW l k X M tgt L S Q) (kk : 0 < a → zW l k X M (pc + 3) L S Q) : zW l k X M pc L (.int (Int32.ofInt a) :: S) Q := zw_if_le ht hd (fun h => kt ((z32e ha z32z).mp h)) (fun h => kk (Int.not_le.mp (fun e => h ((z32e ha z32z).mpr e))))
theorem zr_icmp_le (ha : zn32 a) (hb : zn32 b) {off : Int} {tgt : Nat} (ht : (pc : Int) + off = (tgt : Int)) (hd : decode (zb k) pc = .ok (.if_icmp .le off, 3)) (kt : a ≤ b → zW l k X M tgt L S Q) (kk : b < a → zW l k X M (pc + 3) L S Q) : zW l k X M pc L (.int (Int32.ofInt b) :: .int (Int32.ofInt a) :: S) Q := zw_icmp_le ht hd (fun h => kt ((z32e ha hb).mp h)) (fun h => kk (Int.not_le.mp (fun e => h ((z32e ha hb).mpr e))))
theorem zr_tabOut (ha : zn32 a) {dflt lo hi : Int} {offs : Array Int} {len : Nat} {tgt : Nat} (h : a < lo ∨ hi < a) (ht : (pc : Int) + dflt = (tgt : Int)) (hd : decode (zb k) pc = .ok (.tableswitch dflt lo hi offs, len)) (kk : zW l k X M tgt L S Q) : zW l k X M pc L (.int (Int32.ofInt a) :: S) Q := zw_tabOut (by rw [z32 ha]; exact h) ht hd kk
theorem zr_tabIn {c : Int} (hc : zn32 c) (e : a = c) {dflt lo hi : Int} {offs : Array Int} {len : Nat} {off : Int} {tgt : Nat} (h1 : ¬ c < lo) (h2 : ¬ hi < c) (ho : offs[(c - lo).toNat]? = some off) (ht : (pc : Int) + off = (tgt : Int)) (hd : decode (zb k) pc = .ok (.tableswitch dflt lo hi offs, len)) (kk : zW l k X M tgt L S Q) : zW l k X M pc L (.int (Int32.ofInt a) :: S) Q := by
  rw [e]
  exact zw_tabIn (by rw [z32 hc]; exact h1) (by rw [z32 hc]; exact h2) (by rw [z32 hc]; exact ho) ht hd kk
theorem z_rin {e : Int} {n : Nat} (h0 : 0 ≤ e) (h1 : e < n) (hn : n ≤ 65536) : vp_in (Int32.ofInt e) n ∧ (Int32.ofInt e).toNatClampNeg = e.toNat := by
  have hr : zn32 e := ⟨by omega, by omega⟩
  exact ⟨vp_in_iff.mpr (by rw [z32 hr]; exact ⟨h0, h1⟩), Int32.toNatClampNeg_ofInt_of_le (by omega) (by omega)⟩
theorem zr_iald {q n : Nat} {e : Int} (hs : zsh M q = (1, n)) (hn : n ≤ 65536) (h0 : 0 ≤ e) (h1 : e < n) (hd : decode (zb k) pc = .ok (.iaload, 1)) (kk : zW l k X M (pc + 1) L (.int (Int32.ofInt (ze M q e.toNat)) :: S) Q) : zW l k X M pc L (.int (Int32.ofInt e) :: .ref q :: S) Q := by
  obtain ⟨g1, g2⟩ := z_rin h0 h1 hn
  refine zw_iald hs g1 hd ?_
  rw [g2, ze_of]
  exact kk
theorem zr_lald {q n : Nat} {e : Int} (hs : zsh M q = (2, n)) (hn : n ≤ 65536) (h0 : 0 ≤ e) (h1 : e < n) (hd : decode (zb k) pc = .ok (.laload, 1)) (kk : zW l k X M (pc + 1) L (.long (Int64.ofInt (zg M q e.toNat)) :: S) Q) : zW l k X M pc L (.int (Int32.ofInt e) :: .ref q :: S) Q := by
  obtain ⟨g1, g2⟩ := z_rin h0 h1 hn
  refine zw_lald hs g1 hd ?_
  rw [g2, zg_of]
  exact kk
theorem zr_iast {q n : Nat} {e v : Int} (hs : zsh M q = (1, n)) (hn : n ≤ 65536) (hq : q ≠ 81) (h0 : 0 ≤ e) (h1 : e < n) (hd : decode (zb k) pc = .ok (.iastore, 1)) (kk : ∀ N : zMem, N = zsI M q e.toNat (Int32.ofInt v) → zFr [] [q] M N → zW l k X N (pc + 1) L S Q) : zW l k X M pc L (.int (Int32.ofInt v) :: .int (Int32.ofInt e) :: .ref q :: S) Q := by
  obtain ⟨g1, g2⟩ := z_rin h0 h1 hn
  refine zw_iast hs g1 hd ?_
  rw [g2]
  exact kk _ rfl (zFr.sA hq)
theorem zr_last {q n : Nat} {e v : Int} (hs : zsh M q = (2, n)) (hn : n ≤ 65536) (hq : q ≠ 81) (h0 : 0 ≤ e) (h1 : e < n) (hd : decode (zb k) pc = .ok (.lastore, 1)) (kk : ∀ N : zMem, N = zsJ M q e.toNat (Int64.ofInt v) → zFr [] [q] M N → zW l k X N (pc + 1) L S Q) : zW l k X M pc L (.long (Int64.ofInt v) :: .int (Int32.ofInt e) :: .ref q :: S) Q := by
  obtain ⟨g1, g2⟩ := z_rin h0 h1 hn
  refine zw_last hs g1 hd ?_
  rw [g2]
  exact kk _ rfl (zFr.sB hq)
theorem zr_getI (hW : zMt M) {ix j : Nat} (hF : zFL (zo k) ix 11 j) (hg : zG 11 j = 0) (hd : decode (zb k) pc = .ok (.getfield ix, 3)) (kk : zW l k X M (pc + 3) L (.int (Int32.ofInt (ze M 81 j)) :: S) Q) : zW l k X M pc L (.ref 81 :: S) Q :=
  zw_getI hF hg hW.2.1 hd (by rw [ze_of]; exact kk)
theorem zr_getJ (hW : zMt M) {ix j : Nat} (hF : zFL (zo k) ix 11 j) (hg : zG 11 j = 1) (hd : decode (zb k) pc = .ok (.getfield ix, 3)) (kk : zW l k X M (pc + 3) L (.long (Int64.ofInt (zg M 81 j)) :: S) Q) : zW l k X M pc L (.ref 81 :: S) Q :=
  zw_getJ hF hg hW.2.1 hd (by rw [zg_of]; exact kk)
theorem zr_getF (hW : zMt M) {ix j r : Nat} (hF : zFL (zo k) ix 11 j) (hg : zG 11 j = 2) (hr : zf M 81 j = some r) (hd : decode (zb k) pc = .ok (.getfield ix, 3)) (kk : zW l k X M (pc + 3) L (.ref r :: S) Q) : zW l k X M pc L (.ref 81 :: S) Q :=
  zw_getF hF hg hW.2.1 hr hd kk
theorem zr_putI (hW : zMt M) {ix j : Nat} {v : Int} (hF : zFL (zo k) ix 11 j) (hfin : (zT 11 j).2.2.2 = false) (hg : zG 11 j = 0) (hv : zn32 v) (hn : narrow (zY 11 j) (.int (Int32.ofInt v)) = .int (Int32.ofInt v)) (hft : fits (zY 11 j) (.int (Int32.ofInt v)) = true) (hd : decode (zb k) pc = .ok (.putfield ix, 3)) (kk : ∀ N : zMem, zFr [j] [] M N → ze N 81 j = v → zW l k X N (pc + 3) L S Q) : zW l k X M pc L (.int (Int32.ofInt v) :: .ref 81 :: S) Q :=
  zw_putI hF hfin hg hW.2.1 hn hft hd (kk _ zFr.pI (zs_get rfl hv))
theorem zr_putJ (hW : zMt M) {ix j : Nat} {v : Int} (hF : zFL (zo k) ix 11 j) (hfin : (zT 11 j).2.2.2 = false) (hg : zG 11 j = 1) (hn : narrow (zY 11 j) (.long (Int64.ofInt v)) = .long (Int64.ofInt v)) (hft : fits (zY 11 j) (.long (Int64.ofInt v)) = true) (hd : decode (zb k) pc = .ok (.putfield ix, 3)) (kk : ∀ N : zMem, zFr [j] [] M N → (zn64 v → zg N 81 j = v) → zW l k X N (pc + 3) L S Q) : zW l k X M pc L (.long (Int64.ofInt v) :: .ref 81 :: S) Q :=
  zw_putJ hF hfin hg hW.2.1 hn hft hd (kk _ zFr.pJ (fun hv => zs_getJ rfl hv))
theorem zr_callV (hW : zMt M) (hX : zn M ≤ X.1 ∧ zw M ≤ X.2) {k' : zMeth} {Q' : Option Value → zMem → Prop} {ix : Nat} (vs rest : List Value) (hl' : zMLV (zo k) ix k') (hC : zC l k' 0 0 (.ref 81 :: vs) M Q') (hS : S = vs.reverse ++ .ref 81 :: rest) (hn : vs.length = zna k') (ho : zo k' = 11) (hR : zF k' + 1 ≤ zF k ∧ 8 + (zl k' + 11) + zLo k' ≤ zLo k) (hc8 : (rest.map fun v => v.category).sum ≤ 8) (hd : decode (zb k) pc = .ok (.invokevirtual ix, 3))
    (kk : ∀ (r : Option Value) (M' : zMem), Q' r M' → zW l k X M' (pc + 3) L (r.toList ++ rest) Q) : zW l k X M pc L S Q :=
  zw_callV vs rest hl' hC hS hn (by rw [ho]; exact hW.2.1) (by rw [ho]; decide) hR hX hc8 hd (fun r M' h _ _ => kk r M' h)
theorem zr_callS (hX : zn M ≤ X.1 ∧ zw M ≤ X.2) {k' : zMeth} {Q' : Option Value → zMem → Prop} {ix : Nat} (vs rest : List Value) (hl' : zMLS (zo k) ix k') (hC : zC l k' 0 0 vs M Q') (hS : S = vs.reverse ++ rest) (hn : vs.length = zna k') (hR : zF k' + 1 ≤ zF k ∧ 8 + (zl k' + 11) + zLo k' ≤ zLo k) (hc8 : (rest.map fun v => v.category).sum ≤ 8) (hd : decode (zb k) pc = .ok (.invokestatic ix, 3))
    (kk : ∀ (r : Option Value) (M' : zMem), Q' r M' → zW l k X M' (pc + 3) L (r.toList ++ rest) Q) : zW l k X M pc L S Q :=
  zw_callS vs rest hl' hC hS hn hR hX hc8 hd (fun r M' h _ _ => kk r M' h)
theorem zr_ldc2 {ix : Nat} {c : Int64} {n : Int} (hv : c = Int64.ofInt n) (hw : Cond.constantLong (zR (zo k)) ix c ∈ z_tbl) (hd : decode (zb k) pc = .ok (.ldc2_w ix, 3)) (kk : zW l k X M (pc + 3) L (.long (Int64.ofInt n) :: S) Q) : zW l k X M pc L S Q := zw_ldc2 hw hd (by rw [hv]; exact kk)
theorem zr_ialdn {q n : Nat} {e : Int} (hs : zsh M q = (1, n)) (hn : n ≤ 65536) (h0 : 0 ≤ e) (h1 : e < n) (hd : decode (zb k) pc = .ok (.iaload, 1)) (kk : ∀ v : Int, v = ze M q e.toNat → -2147483648 ≤ v → v < 2147483648 → zW l k X M (pc + 1) L (.int (Int32.ofInt v) :: S) Q) : zW l k X M pc L (.int (Int32.ofInt e) :: .ref q :: S) Q := zr_iald hs hn h0 h1 hd (kk _ rfl (ze_r M q _).1 (ze_r M q _).2)
theorem zr_laldn {q n : Nat} {e : Int} (hs : zsh M q = (2, n)) (hn : n ≤ 65536) (h0 : 0 ≤ e) (h1 : e < n) (hd : decode (zb k) pc = .ok (.laload, 1)) (kk : ∀ v : Int, v = zg M q e.toNat → -9223372036854775808 ≤ v → v < 9223372036854775808 → zW l k X M (pc + 1) L (.long (Int64.ofInt v) :: S) Q) : zW l k X M pc L (.int (Int32.ofInt e) :: .ref q :: S) Q := zr_lald hs hn h0 h1 hd (kk _ rfl (zg_r M q _).1 (zg_r M q _).2)
theorem zr_getI0 {Sf C : List Nat} {M0 : zMem} (hf : zFr Sf C M0 M) (hW : zMt M0) {ix j : Nat} (hj : j ∉ Sf) (hF : zFL (zo k) ix 11 j) (hg : zG 11 j = 0) (hd : decode (zb k) pc = .ok (.getfield ix, 3)) (kk : zW l k X M (pc + 3) L (.int (Int32.ofInt (ze M0 81 j)) :: S) Q) : zW l k X M pc L (.ref 81 :: S) Q :=
  zr_getI (hf.w hW) hF hg hd (by rw [hf.e hj]; exact kk)
theorem zr_iret {Sf C : List Nat} {M0 : zMem} {P : Int → zMem → Prop} {ty : FieldType} (hr : zr k = some ty) (hn : narrow ty (.int (Int32.ofInt a)) = .int (Int32.ofInt a)) (ha : zn32 a) (hf : zFr Sf C M0 M) (hP : P a M) (hd : decode (zb k) pc = .ok (.ireturn, 1)) : zW l k X M pc L [.int (Int32.ofInt a)] (zpI Sf C M0 P) := zw_iret (S := []) hr hn hd ⟨a, rfl, ha, hf, hP⟩
theorem zr_lret {Sf C : List Nat} {M0 : zMem} {P : Int → zMem → Prop} (hr : zr k = some .long) (ha : zn64 a) (hf : zFr Sf C M0 M) (hP : P a M) (hd : decode (zb k) pc = .ok (.lreturn, 1)) : zW l k X M pc L [.long (Int64.ofInt a)] (zpJ Sf C M0 P) := zw_lret (S := []) hr hd ⟨a, rfl, ha, hf, hP⟩
theorem zr_vret {Sf C : List Nat} {M0 : zMem} {P : zMem → Prop} (hr : zr k = none) (hf : zFr Sf C M0 M) (hP : P M) (hd : decode (zb k) pc = .ok (.return_, 1)) : zW l k X M pc L [] (zpV Sf C M0 P) := zw_vret (S := []) hr hd ⟨rfl, hf, hP⟩
theorem zFr.x {Sf C : List Nat} {M0 N : zMem} (h : zFr Sf C M0 N) : zn N ≤ ((zn M0 + 0, zw M0 + 0) : Nat × Nat).1 ∧ zw N ≤ ((zn M0 + 0, zw M0 + 0) : Nat × Nat).2 := by
  unfold zn zw
  rw [h.1]
  exact ⟨Nat.le_refl _, Nat.le_refl _⟩
theorem z_narB {v : Int} (h : v = 0 ∨ v = 1) : narrow .boolean (.int (Int32.ofInt v)) = .int (Int32.ofInt v) := by rcases h with rfl | rfl <;> rfl
theorem z_fitB {v : Int} (h : v = 0 ∨ v = 1) : fits .boolean (.int (Int32.ofInt v)) = true := by rcases h with rfl | rfl <;> rfl
end ZR
theorem zh_82 {M : zMem} (h : zMt M) : zf M 81 0 = some 82 ∧ zsh M 82 = (1, 700) := h.2.2 (0, 82, 1, 700) (List.mem_of_getElem? (i := 0) rfl)
theorem zh_83 {M : zMem} (h : zMt M) : zf M 81 15 = some 83 ∧ zsh M 83 = (1, 24) := h.2.2 (15, 83, 1, 24) (List.mem_of_getElem? (i := 1) rfl)
theorem zh_84 {M : zMem} (h : zMt M) : zf M 81 19 = some 84 ∧ zsh M 84 = (1, 24) := h.2.2 (19, 84, 1, 24) (List.mem_of_getElem? (i := 2) rfl)
theorem zh_85 {M : zMem} (h : zMt M) : zf M 81 21 = some 85 ∧ zsh M 85 = (1, 144) := h.2.2 (21, 85, 1, 144) (List.mem_of_getElem? (i := 3) rfl)
theorem zh_86 {M : zMem} (h : zMt M) : zf M 81 22 = some 86 ∧ zsh M 86 = (1, 6) := h.2.2 (22, 86, 1, 6) (List.mem_of_getElem? (i := 4) rfl)
theorem zh_87 {M : zMem} (h : zMt M) : zf M 81 23 = some 87 ∧ zsh M 87 = (1, 576) := h.2.2 (23, 87, 1, 576) (List.mem_of_getElem? (i := 5) rfl)
theorem zh_88 {M : zMem} (h : zMt M) : zf M 81 24 = some 88 ∧ zsh M 88 = (1, 24) := h.2.2 (24, 88, 1, 24) (List.mem_of_getElem? (i := 6) rfl)
theorem zh_89 {M : zMem} (h : zMt M) : zf M 81 27 = some 89 ∧ zsh M 89 = (1, 128) := h.2.2 (27, 89, 1, 128) (List.mem_of_getElem? (i := 7) rfl)
theorem zh_90 {M : zMem} (h : zMt M) : zf M 81 28 = some 90 ∧ zsh M 90 = (1, 128) := h.2.2 (28, 90, 1, 128) (List.mem_of_getElem? (i := 8) rfl)
theorem zh_91 {M : zMem} (h : zMt M) : zf M 81 29 = some 91 ∧ zsh M 91 = (1, 64) := h.2.2 (29, 91, 1, 64) (List.mem_of_getElem? (i := 9) rfl)
theorem zh_92 {M : zMem} (h : zMt M) : zf M 81 30 = some 92 ∧ zsh M 92 = (1, 64) := h.2.2 (30, 92, 1, 64) (List.mem_of_getElem? (i := 10) rfl)
theorem zh_93 {M : zMem} (h : zMt M) : zf M 81 31 = some 93 ∧ zsh M 93 = (1, 4096) := h.2.2 (31, 93, 1, 4096) (List.mem_of_getElem? (i := 11) rfl)
theorem zh_94 {M : zMem} (h : zMt M) : zf M 81 32 = some 94 ∧ zsh M 94 = (1, 1536) := h.2.2 (32, 94, 1, 1536) (List.mem_of_getElem? (i := 12) rfl)
theorem zh_95 {M : zMem} (h : zMt M) : zf M 81 33 = some 95 ∧ zsh M 95 = (2, 2560) := h.2.2 (33, 95, 2, 2560) (List.mem_of_getElem? (i := 13) rfl)
theorem zh_96 {M : zMem} (h : zMt M) : zf M 81 34 = some 96 ∧ zsh M 96 = (2, 64) := h.2.2 (34, 96, 2, 64) (List.mem_of_getElem? (i := 14) rfl)
theorem zh_97 {M : zMem} (h : zMt M) : zf M 81 35 = some 97 ∧ zsh M 97 = (2, 64) := h.2.2 (35, 97, 2, 64) (List.mem_of_getElem? (i := 15) rfl)
theorem zh_98 {M : zMem} (h : zMt M) : zf M 81 36 = some 98 ∧ zsh M 98 = (2, 64) := h.2.2 (36, 98, 2, 64) (List.mem_of_getElem? (i := 16) rfl)
theorem zh_99 {M : zMem} (h : zMt M) : zf M 81 37 = some 99 ∧ zsh M 99 = (2, 64) := h.2.2 (37, 99, 2, 64) (List.mem_of_getElem? (i := 17) rfl)
theorem zh_100 {M : zMem} (h : zMt M) : zf M 81 40 = some 100 ∧ zsh M 100 = (1, 80) := h.2.2 (40, 100, 1, 80) (List.mem_of_getElem? (i := 18) rfl)
theorem zh_101 {M : zMem} (h : zMt M) : zf M 81 44 = some 101 ∧ zsh M 101 = (2, 8) := h.2.2 (44, 101, 2, 8) (List.mem_of_getElem? (i := 19) rfl)
theorem zh_102 {M : zMem} (h : zMt M) : zf M 81 45 = some 102 ∧ zsh M 102 = (2, 512) := h.2.2 (45, 102, 2, 512) (List.mem_of_getElem? (i := 20) rfl)
theorem zh_103 {M : zMem} (h : zMt M) : zf M 81 46 = some 103 ∧ zsh M 103 = (2, 8) := h.2.2 (46, 103, 2, 8) (List.mem_of_getElem? (i := 21) rfl)
theorem zh_104 {M : zMem} (h : zMt M) : zf M 81 47 = some 104 ∧ zsh M 104 = (2, 512) := h.2.2 (47, 104, 2, 512) (List.mem_of_getElem? (i := 22) rfl)
theorem zh_105 {M : zMem} (h : zMt M) : zf M 81 48 = some 105 ∧ zsh M 105 = (2, 64) := h.2.2 (48, 105, 2, 64) (List.mem_of_getElem? (i := 23) rfl)
theorem zh_106 {M : zMem} (h : zMt M) : zf M 81 49 = some 106 ∧ zsh M 106 = (1, 128) := h.2.2 (49, 106, 1, 128) (List.mem_of_getElem? (i := 24) rfl)
theorem zh_107 {M : zMem} (h : zMt M) : zf M 81 50 = some 107 ∧ zsh M 107 = (2, 64) := h.2.2 (50, 107, 2, 64) (List.mem_of_getElem? (i := 25) rfl)
theorem zh_108 {M : zMem} (h : zMt M) : zf M 81 51 = some 108 ∧ zsh M 108 = (2, 64) := h.2.2 (51, 108, 2, 64) (List.mem_of_getElem? (i := 26) rfl)
theorem zh_109 {M : zMem} (h : zMt M) : zf M 81 54 = some 109 ∧ zsh M 109 = (1, 24) := h.2.2 (54, 109, 1, 24) (List.mem_of_getElem? (i := 27) rfl)
theorem zh_110 {M : zMem} (h : zMt M) : zf M 81 56 = some 110 ∧ zsh M 110 = (1, 65536) := h.2.2 (56, 110, 1, 65536) (List.mem_of_getElem? (i := 28) rfl)
theorem zh_111 {M : zMem} (h : zMt M) : zf M 81 59 = some 111 ∧ zsh M 111 = (2, 768) := h.2.2 (59, 111, 2, 768) (List.mem_of_getElem? (i := 29) rfl)
theorem zh_112 {M : zMem} (h : zMt M) : zf M 81 61 = some 112 ∧ zsh M 112 = (1, 6) := h.2.2 (61, 112, 1, 6) (List.mem_of_getElem? (i := 30) rfl)
theorem zh_113 {M : zMem} (h : zMt M) : zf M 81 62 = some 113 ∧ zsh M 113 = (1, 7) := h.2.2 (62, 113, 1, 7) (List.mem_of_getElem? (i := 31) rfl)
