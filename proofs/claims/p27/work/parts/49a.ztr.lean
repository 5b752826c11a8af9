def zTrG (b : Nat → Int) (n s : Nat) (mv : List Nat) (T : zGT) : Prop := ∃ P q q2 q3 : Nat, ∃ nm : List (Int × (Nat → Int)), zHd b n s P q ∧ zRg (zbs b n P) (0, q, []) (1, q2, mv) ∧ T ∈ gTabs ∧ zTm mv T ∧ zRg (zls b n (gF T).length (gmkI T)) (0, q2, []) (1, q3, nm)
def zTrB (b : Nat → Int) (n s : Nat) : Prop := (¬ ∃ P q, zHd b n s P q) ∨ (∃ P q, zHd b n s P q ∧ zRg (zbs b n P) (0, q, []) zMf) ∨ ∃ P q q2 : Nat, ∃ mv : List Nat, ∃ T : zGT, zHd b n s P q ∧ zRg (zbs b n P) (0, q, []) (1, q2, mv) ∧ T ∈ gTabs ∧ zTm mv T ∧ zRg (zls b n (gF T).length (gmkI T)) (0, q2, []) zLf
theorem zHd_u {b : Nat → Int} {n s P q P' q' : Nat} (h : zHd b n s P q) (h' : zHd b n s P' q') : P = P' ∧ q = q' := by
  obtain ⟨a1, ⟨a2, a3, a4, a5⟩, a6, a7⟩ := h
  obtain ⟨b1, ⟨b2, b3, b4, b5⟩, b6, b7⟩ := h'
  exact ⟨by omega, by omega⟩
theorem zTrG_m {b : Nat → Int} {n s P q q2 q2' : Nat} {mv mv' : List Nat} (h : zRg (zbs b n P) (0, q, []) (1, q2, mv)) (h' : zRg (zbs b n P) (0, q, []) (1, q2', mv')) : q2 = q2' ∧ mv = mv' := by
  have e := zRg.end h h' zbs_1 zbs_1
  exact ⟨congrArg (fun t : zMst => t.2.1) e, congrArg (fun t : zMst => t.2.2) e⟩
theorem zTrG_u {b : Nat → Int} {n s : Nat} {mv mv' : List Nat} {T T' : zGT} (h : zTrG b n s mv T) (h' : zTrG b n s mv' T') : T = T' := by
  obtain ⟨P, q, q2, q3, nm, a1, a2, a3, a4, a5⟩ := h
  obtain ⟨P', q', q2', q3', nm', b1, b2, b3, b4, b5⟩ := h'
  obtain ⟨rfl, rfl⟩ := zHd_u a1 b1
  obtain ⟨rfl, rfl⟩ := zTrG_m (s := s) a2 b2
  exact zTm_uq a4 b4
theorem zTrG_b {b : Nat → Int} {n s : Nat} {mv : List Nat} {T : zGT} (h : zTrG b n s mv T) : ¬ zTrB b n s := by
  obtain ⟨P, q, q2, q3, nm, a1, a2, a3, a4, a5⟩ := h
  rintro (h | ⟨P', q', b1, b2⟩ | ⟨P', q', q2', mv', T', b1, b2, b3, b4, b5⟩)
  · exact h ⟨P, q, a1⟩
  · obtain ⟨rfl, rfl⟩ := zHd_u a1 b1
    have e := zRg.end a2 b2 zbs_1 zbs_F
    have e1 : (1 : Nat) = 2 := congrArg (fun t : zMst => t.1) e
    omega
  · obtain ⟨rfl, rfl⟩ := zHd_u a1 b1
    obtain ⟨rfl, rfl⟩ := zTrG_m (s := s) a2 b2
    obtain rfl := zTm_uq a4 b4
    have e := zRg.end a5 b5 zls_1 zls_2
    have e1 : (1 : Nat) = 2 := congrArg (fun t : zLst => t.1) e
    omega
def zap (f : Nat → Int) (n v : Int) : Nat → Int := fun j => if n ≤ (j : Int) ∧ (j : Int) < n + 4 then zand (zshr v (24 - 8 * ((j : Int) - n))) 255 else f j
theorem zap_c {f g : Nat → Int} {n v : Int} (h : ∀ k : Nat, (k : Int) < n → f k = g k) : ∀ k : Nat, (k : Int) < n + 4 → zap f n v k = zap g n v k := fun k hk => by
  unfold zap
  by_cases c : n ≤ (k : Int) ∧ (k : Int) < n + 4
  · rw [if_pos c, if_pos c]
  · rw [if_neg c, if_neg c]
    exact h k (by omega)
def zApI (c : Nat) (n m v : Int) (M N : zMem) : Prop := ∀ j : Nat, ze N c j = if n ≤ (j : Int) ∧ (j : Int) < m then zand (zshr v (24 - 8 * ((j : Int) - n))) 255 else ze M c j
theorem zApI_0 {c : Nat} {n v : Int} {M : zMem} : zApI c n n v M M := fun j => by rw [if_neg (by omega)]
theorem zApI_s {c : Nat} {n m v w s : Int} {M N P Q : zMem} (h : zApI c n m v M N) (n0 : 0 ≤ n) (hm : n ≤ m) (hw : w = zand (zshr v s) 255) (hs : s = 24 - 8 * (m - n)) (hr : zn32 w) (hP : P = zsI N c m.toNat (Int32.ofInt w)) (hQ : ∀ j : Nat, ze Q c j = ze P c j) : zApI c n (m + 1) v M Q := fun j => by
  rw [hQ]
  by_cases g : (j : Int) = m
  · rw [show j = m.toNat by omega, zs_get hP hr, if_pos ⟨by omega, by omega⟩, hw, hs, Int.toNat_of_nonneg (by omega)]
  · rw [zs_oth hP (by omega), h j]
    by_cases c1 : n ≤ (j : Int) ∧ (j : Int) < m
    · rw [if_pos c1, if_pos ⟨c1.1, by omega⟩]
    · rw [if_neg c1, if_neg (by omega)]
theorem zApI_e {c : Nat} {n m v : Int} {M N : zMem} (h : zApI c n m v M N) (hm : m = n + 4) : ∀ j : Nat, ze N c j = zap (fun j => ze M c j) n v j := fun j => by
  rw [h j, hm]
  rfl
def zfd5 (f : Nat → Int) (n a b c d e : Int) : Nat → Int := zap (zap (zap (zap (zap f n a) (n + 4) b) (n + 8) c) (n + 12) d) (n + 16) e
theorem zfd5_c {f g : Nat → Int} {n a b c d e : Int} (h : ∀ k : Nat, (k : Int) < n → f k = g k) : ∀ k : Nat, (k : Int) < n + 20 → zfd5 f n a b c d e k = zfd5 g n a b c d e k := by
  have h1 := zap_c (v := a) h
  have h2 := zap_c (v := b) h1
  rw [show n + 4 + 4 = n + 8 by omega] at h2
  have h3 := zap_c (v := c) h2
  rw [show n + 8 + 4 = n + 12 by omega] at h3
  have h4 := zap_c (v := d) h3
  rw [show n + 12 + 4 = n + 16 by omega] at h4
  have h5 := zap_c (v := e) h4
  rw [show n + 16 + 4 = n + 20 by omega] at h5
  exact h5
def zBt (f : Nat → Int) (n : Int) : Prop := ∀ k : Nat, (k : Int) < n → 0 ≤ f k ∧ f k ≤ 255
theorem zand255 (x : Int) : 0 ≤ zand x 255 ∧ zand x 255 ≤ 255 := by
  have h1 : ((Int32.ofInt x &&& Int32.ofInt 255).toBitVec).toNat ≤ 255 := by
    rw [Int32.toBitVec_and, BitVec.toNat_and]
    exact Nat.le_trans Nat.and_le_right (by decide)
  have h2 : zand x 255 = (((Int32.ofInt x &&& Int32.ofInt 255).toBitVec).toNat : Int) := by
    show ((Int32.ofInt x &&& Int32.ofInt 255).toBitVec).toInt = _
    rw [BitVec.toInt_eq_toNat_of_lt (by omega)]
  omega
theorem zap_b {f : Nat → Int} {n v : Int} (h : zBt f n) : zBt (zap f n v) (n + 4) := fun k hk => by
  unfold zap
  by_cases c : n ≤ (k : Int) ∧ (k : Int) < n + 4
  · rw [if_pos c]
    exact zand255 _
  · rw [if_neg c]
    exact h k (by omega)
theorem zfd5_b {f : Nat → Int} {n a b c d e : Int} (h : zBt f n) : zBt (zfd5 f n a b c d e) (n + 20) := by
  have h1 := zap_b (v := a) h
  have h2 := zap_b (v := b) h1
  have h3 := zap_b (v := c) h2
  have h4 := zap_b (v := d) h3
  have h5 := zap_b (v := e) h4
  rw [show n + 4 + 4 = n + 8 by omega] at h2 h3 h4 h5
  rw [show n + 8 + 4 = n + 12 by omega] at h3 h4 h5
  rw [show n + 12 + 4 = n + 16 by omega] at h4 h5
  rw [show n + 16 + 4 = n + 20 by omega] at h5
  exact h5
def zRp (b : Nat → Int) (n : Nat) (M : zMem) : Prop := ze M 81 1 = n ∧ n ≤ 700 ∧ zBy b n ∧ ∀ k, k < n → ze M 82 k = b k
def zCdR (P : Int) (mv : List Nat) (T : zGT) (M : zMem) : Prop := gTb mv (fun i => zrc M 85 i P) T
theorem zCdR.fr {P : Int} {mv : List Nat} {T : zGT} {S C : List Nat} {M N : zMem} (hf : zFr S C M N) (h : zCdR P mv T M) (_ : True) (hc : 85 ∉ C) : zCdR P mv T N := by
  unfold zCdR at h ⊢
  have e : (fun i => zrc N 85 i P) = (fun i => zrc M 85 i P) := funext fun i => zrc_f (fun k => hf.ie (by decide) hc k) i P
  rw [e]
  exact h
theorem zCdR.p {P Q : Int} {mv : List Nat} {T : zGT} {M : zMem} (h : zCdR P mv T M) (e : Q = P) : zCdR Q mv T M := by
  rw [e]
  exact h
def zcn (f : Nat → Int) (i : Int) : Nat → Int
  | 0 => 0
  | k + 1 => zcn f i k + (if f k = i then 1 else 0)
theorem zcn_b (f : Nat → Int) (i : Int) : ∀ k : Nat, 0 ≤ zcn f i k ∧ zcn f i k ≤ k
  | 0 => ⟨Int.le_refl _, Int.le_refl _⟩
  | k + 1 => by
    have ih := zcn_b f i k
    show 0 ≤ zcn f i k + (if f k = i then 1 else 0) ∧ zcn f i k + (if f k = i then 1 else 0) ≤ ((k + 1 : Nat) : Int)
    split <;> omega
theorem zcn_c {f g : Nat → Int} {i : Int} : ∀ k : Nat, (∀ s, s < k → g s = f s) → zcn g i k = zcn f i k
  | 0, _ => rfl
  | k + 1, h => by
    show zcn g i k + (if g k = i then 1 else 0) = zcn f i k + (if f k = i then 1 else 0)
    rw [zcn_c k (fun s hs => h s (by omega)), h k (by omega)]
def zSoF (M : zMem) (F k : Int) : Prop := ∀ i : Nat, (i : Int) < F → ze M 92 i = zcn (fun s => ze M 90 s) i k.toNat
theorem zSoF_0 {M : zMem} {F : Int} (h : ∀ i : Nat, (i : Int) < F → ze M 92 i = 0) : zSoF M F 0 := fun i hi => h i hi
theorem zSoF_s {M N P : zMem} {F k w x o v : Int} (h : zSoF M F k) (k0 : 0 ≤ k) (k1 : k ≤ 1000) (hN : N = zsI M 90 k.toNat (Int32.ofInt w)) (w0 : 0 ≤ w) (w1 : w < F) (w2 : w ≤ 1000) (h92 : ∀ j, ze N 92 j = ze M 92 j) (hx : x = ze N 90 k.toNat) (ho : o = ze N 92 x.toNat) (hP : P = zsI N 92 x.toNat (Int32.ofInt v)) (h90 : ∀ j, ze P 90 j = ze N 90 j) (hv : v = o + 1) : zSoF P F (k + 1) := fun i hi => by
  have hxw : x = w := hx.trans (zs_get hN ⟨by omega, by omega⟩)
  rw [show (k + 1).toNat = k.toNat + 1 by omega]
  have e1 : zcn (fun s => ze P 90 s) i k.toNat = zcn (fun s => ze M 90 s) i k.toNat := zcn_c _ (fun s hs => (h90 s).trans (zs_oth hN (by omega)))
  have e2 : ze P 90 k.toNat = w := (h90 _).trans (hx.symm.trans hxw)
  show ze P 92 i = zcn (fun s => ze P 90 s) i k.toNat + (if ze P 90 k.toNat = i then 1 else 0)
  rw [e1, e2, ← h i hi]
  have hb := zcn_b (fun s => ze M 90 s) w k.toNat
  have hw := h w.toNat (by omega)
  rw [show ((w.toNat : Nat) : Int) = w by omega] at hw
  have ho2 : o = ze M 92 w.toNat := by rw [ho, hxw, h92]
  by_cases g : i = w.toNat
  · rw [if_pos (by omega), g]
    have h3 := zs_get (i := x.toNat) hP ⟨by omega, by omega⟩
    rw [hxw] at h3
    omega
  · rw [if_neg (by omega), zs_oth hP (by omega), h92, Int.add_zero]
def zSoM (T : zGT) (M : zMem) : Prop := zSoF M ((gF T).length : Int) (ze M 81 25)
theorem zSoM.fr {T : zGT} {S C : List Nat} {M N : zMem} (hf : zFr S C M N) (h : zSoM T M) (hs : 25 ∉ S) (hc : 90 ∉ C ∧ 92 ∉ C) : zSoM T N := fun i hi => by
  rw [hf.ie (by decide) hc.2, hf.e hs]
  have e : (fun s => ze N 90 s) = (fun s => ze M 90 s) := funext fun s => hf.ie (by decide) hc.1 s
  rw [e]
  exact h i hi
def zCdS (P : Int) (mv : List Nat) (T : zGT) (M : zMem) : Prop := zCdR P mv T M ∧ zSoM T M
theorem zCdS.fr {P : Int} {mv : List Nat} {T : zGT} {S C : List Nat} {M N : zMem} (hf : zFr S C M N) (h : zCdS P mv T M) (hs : 25 ∉ S) (hc : 85 ∉ C ∧ 90 ∉ C ∧ 92 ∉ C) : zCdS P mv T N := ⟨zCdR.fr hf h.1 trivial hc.1, zSoM.fr hf h.2 hs hc.2⟩
theorem zCdS.p {P Q : Int} {mv : List Nat} {T : zGT} {M : zMem} (h : zCdS P mv T M) (e : Q = P) : zCdS Q mv T M := ⟨h.1.p e, h.2⟩
section ZRP
variable {b : Nat → Int} {n : Nat} {M N : zMem} {S C : List Nat}
theorem zRp.fr (hf : zFr S C M N) (h : zRp b n M) (hs : 1 ∉ S) (hc : 82 ∉ C) : zRp b n N :=
  ⟨(hf.e hs).trans h.1, h.2.1, h.2.2.1, fun k hk => (hf.ie (by decide) hc k).trans (h.2.2.2 k hk)⟩
theorem zTb_g {M0 : zMem} (hp : zPm M0) (hF : zFin M0) (hg : zGr M0 N) {a : Int} (hs : zSt M0 N a) (ha : ze N 81 20 ≤ a) : ∃ T : zGT, zTb M0 N T ∧ zCdR (ze M0 81 12) (zMvs M0) T N := by
  obtain ⟨T, hT, hn⟩ := gTb_i (mv := zMvs M0) (c := fun i => zrc N 85 i (ze M0 81 12)) (n := (ze N 81 20).toNat) hp hF (fun x => (hg.2.1 x).trans ⟨fun ⟨i, h1, h2⟩ => ⟨i, by omega, h2⟩, fun ⟨i, h1, h2⟩ => ⟨i, by omega, h2⟩⟩) (fun i j h1 h2 => hs i j (by omega) h1 (by omega))
  have h20 := hg.1
  exact ⟨T, ⟨hT.1, by omega, hT.2.2.2.1, hT.2.2.2.2, hT.2.2.1⟩, hT⟩
theorem zGB.rm {T : zGT} (h : zGB T M) : zRmk (gF T).length (gmkI T) M :=
  ⟨h.2.2.2.1.1, fun i j hi hj => h.2.2.2.2.2.2 i j (Or.inl (by omega)) hi hj⟩
end ZRP
