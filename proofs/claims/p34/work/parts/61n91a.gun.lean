def zpar (y : Nat) : Bool := zbx (fun i => y.testBit i) 32
def zpm (q x : Nat) : Bool := zpar (x &&& q)
theorem zbx_a (q : Nat → Bool) (n : Nat) : ∀ m : Nat, zbx q (n + m) = Bool.xor (zbx q n) (zbx (fun i => q (n + i)) m)
  | 0 => by
    show zbx q n = Bool.xor (zbx q n) false
    cases zbx q n <;> rfl
  | m + 1 => by
    show Bool.xor (zbx q (n + m)) (q (n + m)) = Bool.xor (zbx q n) (Bool.xor (zbx (fun i => q (n + i)) m) (q (n + m)))
    rw [zbx_a q n m]
    cases zbx q n <;> cases zbx (fun i => q (n + i)) m <;> cases q (n + m) <;> rfl
theorem zbx_xx (p q : Nat → Bool) : ∀ m : Nat, zbx (fun i => Bool.xor (p i) (q i)) m = Bool.xor (zbx p m) (zbx q m)
  | 0 => rfl
  | m + 1 => by
    show Bool.xor (zbx (fun i => Bool.xor (p i) (q i)) m) (Bool.xor (p m) (q m)) = Bool.xor (Bool.xor (zbx p m) (p m)) (Bool.xor (zbx q m) (q m))
    rw [zbx_xx p q m]
    cases zbx p m <;> cases zbx q m <;> cases p m <;> cases q m <;> rfl
theorem zpar_x (x y : Nat) : zpar (x ^^^ y) = Bool.xor (zpar x) (zpar y) := by
  unfold zpar
  rw [← zbx_xx]
  exact zbx_c 32 (fun i _ => by rw [Nat.testBit_xor])
theorem zpm_x (q x y : Nat) : zpm q (x ^^^ y) = Bool.xor (zpm q x) (zpm q y) := by
  unfold zpm
  rw [show (x ^^^ y) &&& q = (x &&& q) ^^^ (y &&& q) from Nat.eq_of_testBit_eq fun i => by
    rw [Nat.testBit_and, Nat.testBit_xor, Nat.testBit_xor, Nat.testBit_and, Nat.testBit_and]
    cases x.testBit i <;> cases y.testBit i <;> cases q.testBit i <;> rfl, zpar_x]
theorem zpm_q (p q x : Nat) : zpm (p ^^^ q) x = Bool.xor (zpm p x) (zpm q x) := by
  unfold zpm
  rw [show x &&& (p ^^^ q) = (x &&& p) ^^^ (x &&& q) from Nat.eq_of_testBit_eq fun i => by
    rw [Nat.testBit_and, Nat.testBit_xor, Nat.testBit_xor, Nat.testBit_and, Nat.testBit_and]
    cases x.testBit i <;> cases p.testBit i <;> cases q.testBit i <;> rfl, zpar_x]
theorem zpar_0 : zpar 0 = false := zbx_0 32 (fun i _ => Nat.zero_testBit i)
theorem zpm_0 (x : Nat) : zpm 0 x = false := by
  unfold zpm
  rw [Nat.and_zero]
  exact zpar_0
theorem zpm_00 (q : Nat) : zpm q 0 = false := by
  unfold zpm
  rw [Nat.zero_and]
  exact zpar_0
noncomputable def kunf (k y : Nat) : Nat := Nat.xor y (Nat.shiftRight y k)
noncomputable def kunp (y : Nat) : Bool := ktb (kunf 1 (kunf 2 (kunf 4 (kunf 8 (kunf 16 y))))) 0
theorem kunf_x (k y : Nat) : zbx (fun i => (kunf k y).testBit i) k = zbx (fun i => y.testBit i) (k + k) := by
  rw [zbx_a, ← zbx_xx]
  refine zbx_c k (fun i _ => ?_)
  show (y ^^^ (y >>> k)).testBit i = Bool.xor (y.testBit i) (y.testBit (k + i))
  rw [Nat.testBit_xor, Nat.testBit_shiftRight]
theorem kunp_e (y : Nat) : kunp y = zpar y := by
  unfold kunp
  rw [ktb_e]
  have e : ∀ z : Nat, z.testBit 0 = zbx (fun i => z.testBit i) 1 := fun z => by
    show z.testBit 0 = Bool.xor false (z.testBit 0)
    cases z.testBit 0 <;> rfl
  exact (e _).trans ((kunf_x 1 _).trans ((kunf_x 2 _).trans ((kunf_x 4 _).trans ((kunf_x 8 _).trans (kunf_x 16 y)))))
noncomputable def kunE (chk : Nat → Bool) : List Nat → Nat → Bool := List.rec chk (fun d _ ih x => cond (ih x) (ih (Nat.lor x (Nat.pow 2 d))) false)
theorem kunE_s {chk : Nat → Bool} : ∀ {l : List Nat} {x : Nat}, kunE chk l x = true → ∀ y : Nat, (∀ i, y.testBit i = true → i ∈ l ∨ x.testBit i = true) → chk (x ||| y) = true
  | [], x, h, y, hy => by
    have e : x ||| y = x := Nat.eq_of_testBit_eq fun i => by
      rw [Nat.testBit_or]
      cases hb : y.testBit i with
      | false => cases x.testBit i <;> rfl
      | true =>
        rcases hy i hb with q | q
        · cases q
        · rw [Bool.or_true, q]
    rw [e]
    exact h
  | d :: l, x, h, y, hy => by
    have h2 : kunE chk l x = true ∧ kunE chk l (x ||| 2 ^ d) = true := kcd.mp h
    cases hd : y.testBit d with
    | true =>
      have h3 := kunE_s h2.2 y (fun i hi => by
        rcases hy i hi with q | q
        · rcases List.mem_cons.mp q with q | q
          · refine Or.inr ?_
            rw [Nat.testBit_or, q, Nat.testBit_two_pow_self, Bool.or_true]
          · exact Or.inl q
        · refine Or.inr ?_
          rw [Nat.testBit_or, q]
          rfl)
      have e : x ||| 2 ^ d ||| y = x ||| y := Nat.eq_of_testBit_eq fun i => by
        rw [Nat.testBit_or, Nat.testBit_or, Nat.testBit_or, Nat.testBit_two_pow]
        by_cases q : d = i
        · rw [← q, hd, Bool.or_true, Bool.or_true]
        · rw [decide_eq_false q, Bool.or_false]
      rw [e] at h3
      exact h3
    | false =>
      refine kunE_s h2.1 y (fun i hi => ?_)
      rcases hy i hi with q | q
      · rcases List.mem_cons.mp q with q | q
        · rw [q, hd] at hi
          cases hi
        · exact Or.inl q
      · exact Or.inr q
noncomputable def kgsR (P g s n : Nat) : Nat := kup (fun y r => cond (ktb s y) (Nat.lor r (Nat.pow 2 (kgm P y g))) r) 0 n
theorem kgsR_t (P g s y : Nat) : ∀ n, (kgsR P g s n).testBit y = true ↔ ∃ x, x < n ∧ s.testBit x = true ∧ kgm P x g = y
  | 0 => by
    show (Nat.testBit 0 y = true) ↔ _
    rw [Nat.zero_testBit]
    constructor
    · intro h
      exact absurd h (by decide)
    · rintro ⟨x, hx, -⟩
      omega
  | n + 1 => by
    have ih := kgsR_t P g s y n
    show ((cond (ktb s n) (Nat.lor (kgsR P g s n) (Nat.pow 2 (kgm P n g))) (kgsR P g s n)).testBit y = true) ↔ _
    rw [kib]
    by_cases h : s.testBit n = true
    · rw [if_pos h]
      show ((kgsR P g s n ||| 2 ^ kgm P n g).testBit y = true) ↔ _
      rw [Nat.testBit_or, Bool.or_eq_true, ih, Nat.testBit_two_pow, decide_eq_true_iff]
      constructor
      · rintro (⟨x, h1, h2, h3⟩ | h1)
        · exact ⟨x, by omega, h2, h3⟩
        · exact ⟨n, by omega, h, h1⟩
      · rintro ⟨x, h1, h2, h3⟩
        by_cases e : x = n
        · rw [e] at h3
          exact Or.inr h3
        · exact Or.inl ⟨x, by omega, h2, h3⟩
    · rw [if_neg h, ih]
      constructor
      · rintro ⟨x, h1, h2⟩
        exact ⟨x, by omega, h2⟩
      · rintro ⟨x, h1, h2, h3⟩
        by_cases e : x = n
        · rw [e] at h2
          exact absurd h2 h
        · exact ⟨x, by omega, h2, h3⟩
noncomputable def kunC (n P t F R : Nat) : Bool := Nat.beq (kgsB P t R n) (kgsR P t F n)
theorem kunC_s {T : zGT} (hA : gGr T) (hG : gGd T) {t F R : Nat} (ht : t < gN T) (hR : R < 2 ^ gN T) : kunC T.1 T.2.1 t F R = true ↔ gtr T F t = R := by
  have it := (hA.2 t ht).1
  unfold kunC
  rw [kbq]
  constructor
  · intro h
    refine Nat.eq_of_testBit_eq fun y => ?_
    rw [Bool.eq_iff_iff, gtr_x hG ht]
    constructor
    · rintro ⟨x, hx, hxF, e⟩
      have h1 : (kgsR T.2.1 t F T.1).testBit (kgm T.2.1 x t) = true := (kgsR_t _ _ _ _ _).mpr ⟨x, hx, hxF, rfl⟩
      rw [← h] at h1
      obtain ⟨z, hz, hzR, e2⟩ := (kgsB_t _ _ _ _ _).mp h1
      have e3 : gm T t z = gm T x t := e2
      rw [hA.1.1 _ _ _ it hx ht, ← e3, ← hA.1.1 _ _ _ it ht hz, hA.l hG ht, hA.1.2.1 z hz] at e
      rw [← e]
      exact hzR
    · intro hy
      have hyn := gbit_lt hR hy
      have h1 : (kgsB T.2.1 t R T.1).testBit (kgm T.2.1 t y) = true := (kgsB_t _ _ _ _ _).mpr ⟨y, hyn, hy, rfl⟩
      rw [h] at h1
      obtain ⟨x, hx, hxF, e2⟩ := (kgsR_t _ _ _ _ _).mp h1
      have e3 : gm T x t = gm T t y := e2
      refine ⟨x, hx, hxF, ?_⟩
      rw [hA.1.1 _ _ _ it hx ht, e3, ← hA.1.1 _ _ _ it ht hyn, hA.l hG ht, hA.1.2.1 y hyn]
  · intro h
    refine Nat.eq_of_testBit_eq fun y => ?_
    rw [Bool.eq_iff_iff, kgsB_t, kgsR_t]
    constructor
    · rintro ⟨z, hz, hzR, e⟩
      rw [← h] at hzR
      obtain ⟨x, hx, hxF, e2⟩ := (gtr_x hG ht z).mp hzR
      refine ⟨x, hx, hxF, ?_⟩
      rw [← e, ← e2]
      show gm T x t = gm T t (gm T (gm T (gi T t) x) t)
      rw [hA.1.1 _ _ _ it hx ht, ← hA.1.1 _ _ _ ht it (hG.2.2.2 _ _ hx ht), (hA.2 t ht).2, hA.1.2.1 _ (hG.2.2.2 _ _ hx ht)]
    · rintro ⟨x, hx, hxF, e⟩
      have hz : (gtr T F t).testBit (gm T (gm T (gi T t) x) t) = true := (gtr_x hG ht _).mpr ⟨x, hx, hxF, rfl⟩
      rw [h] at hz
      refine ⟨_, hG.2.2.2 _ _ (hG.2.2.2 _ _ it hx) ht, hz, ?_⟩
      rw [← e]
      show gm T t (gm T (gm T (gi T t) x) t) = gm T x t
      rw [hA.1.1 _ _ _ it hx ht, ← hA.1.1 _ _ _ ht it (hG.2.2.2 _ _ hx ht), (hA.2 t ht).2, hA.1.2.1 _ (hG.2.2.2 _ _ hx ht)]
noncomputable def kunK (n X : Nat) (S : List Nat) : Nat := List.rec (Nat.pred (Nat.pow 2 n)) (fun s _ ih => cond (Nat.beq (Nat.land s X) X) (Nat.land ih s) ih) S
theorem kunK_t (n X i : Nat) : ∀ S : List Nat, (kunK n X S).testBit i = true ↔ i < n ∧ ∀ s ∈ S, s &&& X = X → s.testBit i = true
  | [] => by
    show (2 ^ n - 1).testBit i = true ↔ _
    rw [Nat.testBit_two_pow_sub_one, decide_eq_true_iff]
    exact ⟨fun h => ⟨h, fun s hs => by cases hs⟩, fun h => h.1⟩
  | s :: S => by
    have ih := kunK_t n X i S
    show (cond (Nat.beq (Nat.land s X) X) (Nat.land (kunK n X S) s) (kunK n X S)).testBit i = true ↔ _
    rw [kif]
    by_cases h : Nat.land s X = X
    · rw [if_pos h]
      show (kunK n X S &&& s).testBit i = true ↔ _
      rw [Nat.testBit_and, Bool.and_eq_true, ih]
      constructor
      · rintro ⟨⟨h1, h2⟩, h3⟩
        refine ⟨h1, fun r hr hx => ?_⟩
        rcases List.mem_cons.mp hr with q | q
        · rw [q]
          exact h3
        · exact h2 r q hx
      · rintro ⟨h1, h2⟩
        exact ⟨⟨h1, fun r hr => h2 r (List.mem_cons_of_mem _ hr)⟩, h2 s List.mem_cons_self h⟩
    · rw [if_neg h, ih]
      constructor
      · rintro ⟨h1, h2⟩
        refine ⟨h1, fun r hr hx => ?_⟩
        rcases List.mem_cons.mp hr with q | q
        · rw [q] at hx
          exact absurd hx h
        · exact h2 r q hx
      · rintro ⟨h1, h2⟩
        exact ⟨h1, fun r hr => h2 r (List.mem_cons_of_mem _ hr)⟩
theorem gSb_an {s X : Nat} : s &&& X = X ↔ gSb X s := by
  constructor
  · intro h k hk
    rw [← h, Nat.testBit_and, Bool.and_eq_true] at hk
    exact hk.1
  · intro h
    refine Nat.eq_of_testBit_eq fun k => ?_
    rw [Nat.testBit_and]
    cases hk : X.testBit k with
    | false => exact Bool.and_false _
    | true => rw [h k hk, Bool.and_true]
theorem kunK_s {T : zGT} (hO : gOK T) {H x : Nat} (hH : H ∈ gS T) (hx : x < gN T) : gLC T (H ||| 2 ^ x) (kunK (gN T) (H ||| 2 ^ x) (gS T)) := by
  obtain ⟨R, hR, hl⟩ := (hO.2.1.2.2 H hH).2 x hx
  have e : kunK (gN T) (H ||| 2 ^ x) (gS T) = R := by
    refine Nat.eq_of_testBit_eq fun i => ?_
    rw [Bool.eq_iff_iff, kunK_t]
    constructor
    · rintro ⟨-, h2⟩
      exact h2 R hR (gSb_an.mpr hl.2.1)
    · intro h
      refine ⟨gbit_lt hl.1 h, fun s hs hX => ?_⟩
      exact hl.2.2.2 s (hO.2.1.2.2 s hs).1.2.2 (gSb_an.mp hX) i h
  rw [e]
  exact hl
theorem knth_g : ∀ (l : List Nat) (i : Nat), knth l i = l.getD i 0
  | [], _ => rfl
  | x :: l, 0 => rfl
  | x :: l, i + 1 => by
    show knth l i = _
    rw [knth_g l i]
    rfl
abbrev zUD : Type := Nat × Nat × Nat × List Nat × List Nat × List (List Nat)
noncomputable def kund : List zUD → Nat → zUD := List.rec (fun _ => (0, 0, 0, [], [], [])) (fun x _ ih i => cond (Nat.beq i 0) x (ih (Nat.pred i)))
noncomputable def kunq (q x : Nat) : Nat := Nat.mod (Nat.shiftRight q (Nat.mul 5 x)) 32
noncomputable def kunb (nf s : Nat) : Nat := Nat.sub (Nat.sub nf 1) s
noncomputable def kunM (nf j a b c : Nat) : Nat := Nat.xor (Nat.xor (Nat.xor (Nat.pow 2 (kunb nf j)) (Nat.pow 2 (kunb nf a))) (Nat.pow 2 (kunb nf b))) (Nat.pow 2 (kunb nf c))
noncomputable def kunl (l : List Nat) : Nat := List.rec 0 (fun d _ ih => Nat.lor (Nat.pow 2 d) ih) l
noncomputable def kunx (l : List Nat) : Nat := List.rec 0 (fun c _ ih => Nat.xor (Nat.shiftRight c 5) ih) l
noncomputable def kunA (l : List (List Nat)) (p : List Nat → Bool) : Bool := List.rec true (fun x _ ih => cond (p x) ih false) l
noncomputable def kunm (l : List Nat) (m : Nat) : Bool := List.rec false (fun c _ ih => cond (Nat.beq (Nat.shiftRight c 10) m) true ih) l
noncomputable def kunV (n P : Nat) (S F : List Nat) (nf j H Q TQ x : Nat) : Bool := cond (Nat.ble j (kunq Q x)) (cond (Nat.ble (Nat.succ (kunq Q x)) nf) (cond (Nat.ble (Nat.succ (kunq TQ x)) n) (kunC n P (kunq TQ x) (knth F (kunq Q x)) (kunK n (Nat.lor H (Nat.pow 2 x)) S)) false) false) false
noncomputable def kunS (n P : Nat) (S F : List Nat) (nf j H Q TQ B : Nat) : Bool := klt n (fun x => cond (kunC n P x H H) (cond (kunV n P S F nf j H Q TQ x) (cond (Nat.beq (kcv n P H x) x) (ktb B x) (cond (ktb B x) false true)) false) (cond (ktb B x) false true))
noncomputable def kunN (n B : Nat) : Nat := kup (fun x r => cond (ktb B x) (Nat.succ r) r) 0 n
noncomputable def kunn (n nf Q B y : Nat) : Nat := kup (fun x r => cond (ktb B x) (cond (ktb y (kunb nf (kunq Q x))) (Nat.succ r) r) r) 0 n
noncomputable def kunL (Lc : List Nat) (y : Nat) : Bool := kall Lc (fun c => cond (kunp (Nat.land y (Nat.shiftRight c 10))) false true)
noncomputable def kunF (Fc : List (List Nat)) (y : Nat) : Bool := kunA Fc (fun l => cond (kunp (Nat.land y (kunx l))) false true)
noncomputable def kunk (n nf Q B : Nat) (Lc : List Nat) (Fc : List (List Nat)) (y : Nat) : Bool := cond (kunF Fc y) (cond (Nat.beq (Nat.mod (Nat.mul 2 (kunn n nf Q B y)) (kunN n B)) 0) (kunL Lc y) (cond (kunL Lc y) false true)) true
noncomputable def kunP (n P nf j Q B : Nat) (Lc : List Nat) : Bool := klt n (fun g => cond (ktb B g) (klt n (fun k => cond (ktb B k) (cond (Nat.beq (kunM nf j (kunq Q g) (kunq Q k) (kunq Q (kgm P g k))) 0) true (kunm Lc (kunM nf j (kunq Q g) (kunq Q k) (kunq Q (kgm P g k))))) true)) true)
noncomputable def kunc (P nf j Q B : Nat) (ds Lc : List Nat) : Bool := kall Lc (fun c => cond (cond (ktb B (Nat.mod (Nat.shiftRight c 5) 32)) (ktb B (Nat.mod c 32)) false) (cond (Nat.beq (Nat.shiftRight c 10) (kunM nf j (kunq Q (Nat.mod (Nat.shiftRight c 5) 32)) (kunq Q (Nat.mod c 32)) (kunq Q (kgm P (Nat.mod (Nat.shiftRight c 5) 32) (Nat.mod c 32))))) (Nat.beq (Nat.land (Nat.shiftRight c 10) (kunl ds)) (Nat.shiftRight c 10)) false) false)
noncomputable def kunv (nf j : Nat) (ds : List Nat) (Fc : List (List Nat)) (D : List zUD) : Bool := kunA Fc (fun l => cond (Nat.beq (Nat.land (kunx l) (kunl ds)) (kunx l)) (kall l (fun c => cond (Nat.ble (Nat.succ j) (Nat.mod c 32)) (cond (Nat.ble (Nat.succ (Nat.mod c 32)) nf) (kunm (kund D (Nat.mod c 32)).2.2.2.2.1 (Nat.shiftRight c 5)) false) false)) false)
noncomputable def kunw (n nf Q B : Nat) (ds : List Nat) : Bool := klt n (fun x => cond (ktb B x) (ktb (kunl ds) (kunb nf (kunq Q x))) true)
noncomputable def kunJ (n P : Nat) (S F : List Nat) (nf j H : Nat) (d : zUD) (D : List zUD) : Bool := cond (Nat.ble (Nat.succ d.2.2.1) (Nat.pow 2 n)) (cond (kunS n P S F nf j H d.1 d.2.1 d.2.2.1) (cond (kunw n nf d.1 d.2.2.1 d.2.2.2.1) (cond (kunP n P nf j d.1 d.2.2.1 d.2.2.2.2.1) (cond (kunc P nf j d.1 d.2.2.1 d.2.2.2.1 d.2.2.2.2.1) (cond (kunv nf j d.2.2.2.1 d.2.2.2.2.2 D) (kunE (kunk n nf d.1 d.2.2.1 d.2.2.2.2.1 d.2.2.2.2.2) d.2.2.2.1 0) false) false) false) false) false) false
noncomputable def kunT (n P : Nat) (S F : List Nat) (D : List zUD) : Bool := klt (klen F) (fun j => kunJ n P S F (klen F) j (knth F j) (kund D j) D)
noncomputable def kunW (T : zGT) (D : List zUD) : Bool := Prod.rec (fun n t => Prod.rec (fun P t => Prod.rec (fun S t => Prod.rec (fun F _ => kunT n P S F D) t) t) t) T
theorem kunW_s {T : zGT} {D : List zUD} (h : kunW T D = true) : ∃ D, kunT T.1 T.2.1 T.2.2.1 T.2.2.2.1 D = true := ⟨D, h⟩
theorem kunA_s {p : List Nat → Bool} : ∀ {l : List (List Nat)}, kunA l p = true ↔ ∀ x ∈ l, p x = true
  | [] => ⟨fun _ x hx => (by cases hx), fun _ => rfl⟩
  | y :: l => by
    show cond (p y) (kunA l p) false = true ↔ _
    rw [kcd, kunA_s]
    constructor
    · rintro ⟨h1, h2⟩ x hx
      rcases List.mem_cons.mp hx with q | q
      · rw [q]
        exact h1
      · exact h2 x q
    · exact fun h => ⟨h y List.mem_cons_self, fun x hx => h x (List.mem_cons_of_mem _ hx)⟩
theorem kall_i {p : Nat → Bool} : ∀ {l : List Nat}, kall l p = true ↔ ∀ x ∈ l, p x = true
  | [] => ⟨fun _ x hx => (by cases hx), fun _ => rfl⟩
  | y :: l => by
    show cond (p y) (kall l p) false = true ↔ _
    rw [kcd, kall_i]
    constructor
    · rintro ⟨h1, h2⟩ x hx
      rcases List.mem_cons.mp hx with q | q
      · rw [q]
        exact h1
      · exact h2 x q
    · exact fun h => ⟨h y List.mem_cons_self, fun x hx => h x (List.mem_cons_of_mem _ hx)⟩
theorem kunm_s {m : Nat} : ∀ {l : List Nat}, kunm l m = true → ∃ c ∈ l, c >>> 10 = m
  | [], h => by cases h
  | y :: l, h => by
    have h2 : cond (Nat.beq (Nat.shiftRight y 10) m) true (kunm l m) = true := h
    rcases kcor.mp h2 with q | q
    · exact ⟨y, List.mem_cons_self, kbq.mp q⟩
    · obtain ⟨c, h3, h4⟩ := kunm_s q
      exact ⟨c, List.mem_cons_of_mem _ h3, h4⟩
theorem kunl_t (i : Nat) : ∀ l : List Nat, (kunl l).testBit i = true ↔ i ∈ l
  | [] => by
    show (0 : Nat).testBit i = true ↔ _
    rw [Nat.zero_testBit]
    exact ⟨fun h => (by cases h), fun h => (by cases h)⟩
  | d :: l => by
    show (2 ^ d ||| kunl l).testBit i = true ↔ _
    rw [Nat.testBit_or, Bool.or_eq_true, kunl_t i l, Nat.testBit_two_pow, decide_eq_true_iff, List.mem_cons]
    constructor
    · rintro (h | h)
      · exact Or.inl h.symm
      · exact Or.inr h
    · rintro (h | h)
      · exact Or.inl h.symm
      · exact Or.inr h
theorem knot {b : Bool} : cond b false true = true ↔ b = false := by cases b <;> decide
theorem kcv_g (T : zGT) (H x : Nat) : kcv T.1 T.2.1 H x = gcos T H x := by
  rw [gcos_e]
  refine kup_c x (gN T) (fun k r _ => ?_)
  rw [kib, kil]
  show (if H.testBit k = true then (if gm T k x < r then gm T k x else r) else r) = (if H.testBit k && decide (gm T k x < r) then gm T k x else r)
  cases H.testBit k <;> simp
noncomputable def gUs (T : zGT) (j x : Nat) : Nat := gsr T (gFn T j ||| 2 ^ x)
def gUr (T : zGT) (j x : Nat) : Prop := x < gN T ∧ gtr T (gFn T j) x = gFn T j ∧ gcos T (gFn T j) x = x
noncomputable def gUq (T : zGT) (j g k : Nat) : Nat := kunM (gF T).length j (gUs T j g) (gUs T j k) (gUs T j (gcos T (gFn T j) (gm T g k)))
def zyC (T : zGT) (j r : Nat) : Prop := ∀ g k, gUr T j g → gUr T j k → zpm (gUq T j g k) r = false
def zyg (T : zGT) (r : Nat) : Nat → Int := fun s => if r.testBit ((gF T).length - 1 - s) = true then -1 else 1
def zyR (T : zGT) (j r : Nat) : Prop := zCgr T (gFn T j) (zyg T r)
section KUNS
variable {T : zGT} {j Q TQ B r : Nat}
theorem kunS_s (hT : T ∈ gTabs) (hA : gGr T) (hj : j < (gF T).length) (h : kunS T.1 T.2.1 T.2.2.1 T.2.2.2.1 (gF T).length j (gFn T j) Q TQ B = true) {x : Nat} (hx : x < gN T) : (gtr T (gFn T j) x = gFn T j → kunq Q x = gUs T j x ∧ j ≤ gUs T j x ∧ gUs T j x < (gF T).length) ∧ (B.testBit x = true ↔ gtr T (gFn T j) x = gFn T j ∧ gcos T (gFn T j) x = x) := by
  have hO := gTabs_ok T hT
  have hG := hO.1
  have hHs := (hO.2.2.1.2.1 _ (gFn_m hj)).1
  have hH := (hO.2.1.2.2 _ hHs).1
  have hc := kunC_s hA hG hx hH.2.1 (F := gFn T j)
  have h1 : cond (kunC T.1 T.2.1 x (gFn T j) (gFn T j)) (cond (kunV T.1 T.2.1 T.2.2.1 T.2.2.2.1 (gF T).length j (gFn T j) Q TQ x) (cond (Nat.beq (kcv T.1 T.2.1 (gFn T j) x) x) (ktb B x) (cond (ktb B x) false true)) false) (cond (ktb B x) false true) = true := klt_s h x hx
  by_cases g : gtr T (gFn T j) x = gFn T j
  · rw [hc.mpr g] at h1
    have h2 : kunV T.1 T.2.1 T.2.2.1 T.2.2.2.1 (gF T).length j (gFn T j) Q TQ x = true ∧ cond (Nat.beq (kcv T.1 T.2.1 (gFn T j) x) x) (ktb B x) (cond (ktb B x) false true) = true := kcd.mp h1
    refine ⟨fun _ => ?_, ?_⟩
    · obtain ⟨v1, v2⟩ := kcd.mp h2.1
      obtain ⟨v2, v3⟩ := kcd.mp v2
      obtain ⟨v3, v4⟩ := kcd.mp v3
      have v1 := kbl.mp v1
      have v2 : kunq Q x < (gF T).length := kbl.mp v2
      have v3 : kunq TQ x < gN T := kbl.mp v3
      have hl := kunK_s hO hHs hx
      have v5 := (kunC_s hA hG v3 hl.1).mp v4
      rw [knth_g] at v5
      obtain ⟨l, Kp, ol⟩ := gTabs_ol T hT
      have v6 := gtr_gl hA hO ol (gFn_m v2) v3 v5
      have hs : zSrt T (kunK (gN T) (gFn T j ||| 2 ^ x) (gS T)) ((kunq Q x : Nat) : Int) := ⟨⟨by omega, by omega⟩, by rw [Int.toNat_natCast]; exact v6.symm⟩
      have v7 := gsr_u hO hl hs
      have v8 : kunq Q x = gUs T j x := Int.ofNat_inj.mp v7
      rw [← v8]
      exact ⟨rfl, v1, v2⟩
    · have h3 := h2.2
      rw [kcv_g, kif] at h3
      by_cases q : gcos T (gFn T j) x = x
      · rw [if_pos q, ktb_e] at h3
        exact ⟨fun _ => ⟨g, q⟩, fun _ => h3⟩
      · rw [if_neg q, knot, ktb_e] at h3
        exact ⟨fun a => (by rw [h3] at a; cases a), fun a => absurd a.2 q⟩
  · refine ⟨fun q => absurd q g, ?_⟩
    have h2 : kunC T.1 T.2.1 x (gFn T j) (gFn T j) = false := by
      cases hb : kunC T.1 T.2.1 x (gFn T j) (gFn T j) with
      | false => rfl
      | true => exact absurd (hc.mp hb) g
    rw [h2] at h1
    have h3 : cond (ktb B x) false true = true := h1
    rw [knot, ktb_e] at h3
    exact ⟨fun a => (by rw [h3] at a; cases a), fun a => absurd a.1 g⟩
theorem kunn_s (hS : ∀ x, x < gN T → (gtr T (gFn T j) x = gFn T j → kunq Q x = gUs T j x ∧ j ≤ gUs T j x ∧ gUs T j x < (gF T).length) ∧ (B.testBit x = true ↔ gtr T (gFn T j) x = gFn T j ∧ gcos T (gFn T j) x = x)) {y : Nat} (hy : ∀ x, x < gN T → B.testBit x = true → y.testBit ((gF T).length - 1 - gUs T j x) = r.testBit ((gF T).length - 1 - gUs T j x)) : ∀ k, k ≤ gN T → zsm (zmi T (gFn T j) (zcgF T (gFn T j) (zyg T r))) k = ((kunN k B : Nat) : Int) - 2 * ((kunn k (gF T).length Q B y : Nat) : Int) ∧ gup (gmmF T (gFn T j)) 0 k = kunN k B
  | 0, _ => ⟨rfl, rfl⟩
  | k + 1, hk => by
    obtain ⟨i1, i2⟩ := kunn_s hS hy k (by omega)
    obtain ⟨s1, s2⟩ := hS k (by omega)
    have e1 : kunN (k + 1) B = if B.testBit k = true then kunN k B + 1 else kunN k B := by
      show cond (ktb B k) (Nat.succ (kunN k B)) (kunN k B) = _
      exact kib _ _ _ _
    have e2 : kunn (k + 1) (gF T).length Q B y = if B.testBit k = true then (if y.testBit ((gF T).length - 1 - kunq Q k) = true then kunn k (gF T).length Q B y + 1 else kunn k (gF T).length Q B y) else kunn k (gF T).length Q B y := by
      show cond (ktb B k) (cond (ktb y (kunb (gF T).length (kunq Q k))) (Nat.succ (kunn k (gF T).length Q B y)) (kunn k (gF T).length Q B y)) (kunn k (gF T).length Q B y) = _
      rw [kib, kib]
      rfl
    have e3 : zsm (zmi T (gFn T j) (zcgF T (gFn T j) (zyg T r))) (k + 1) = zsm (zmi T (gFn T j) (zcgF T (gFn T j) (zyg T r))) k + zif (gtr T (gFn T j) k = gFn T j ∧ gcos T (gFn T j) k = k) (zyg T r (gUs T j k)) 0 := rfl
    have e4 : gup (gmmF T (gFn T j)) 0 (k + 1) = if gtr T (gFn T j) k = gFn T j ∧ gcos T (gFn T j) k = k then gup (gmmF T (gFn T j)) 0 k + 1 else gup (gmmF T (gFn T j)) 0 k := rfl
    rw [e1, e2, e3, e4]
    by_cases q : gtr T (gFn T j) k = gFn T j ∧ gcos T (gFn T j) k = k
    · have hb := s2.mpr q
      rw [if_pos hb, if_pos hb, zif_t q, if_pos q, (s1 q.1).1, hy k (by omega) hb]
      refine ⟨?_, by rw [i2]⟩
      rw [i1]
      unfold zyg
      by_cases c : r.testBit ((gF T).length - 1 - gUs T j k) = true
      · rw [if_pos c, if_pos c]
        omega
      · rw [if_neg c, if_neg c]
        omega
    · have hb : ¬ B.testBit k = true := fun a => q (s2.mp a)
      rw [if_neg hb, if_neg hb, zif_f q, if_neg q]
      exact ⟨by rw [i1]; omega, i2⟩
end KUNS
theorem kunx_p {r : Nat} : ∀ {l : List Nat}, (∀ c ∈ l, zpm (c >>> 5) r = false) → zpm (kunx l) r = false
  | [], _ => zpm_0 r
  | c :: l, h => by
    show zpm (c >>> 5 ^^^ kunx l) r = false
    rw [zpm_q, h c List.mem_cons_self, kunx_p (fun x hx => h x (List.mem_cons_of_mem _ hx))]
    rfl
theorem kunT_j {T : zGT} {D : List zUD} {j : Nat} (hD : kunT T.1 T.2.1 T.2.2.1 T.2.2.2.1 D = true) (hj : j < (gF T).length) : kunJ T.1 T.2.1 T.2.2.1 T.2.2.2.1 (gF T).length j (gFn T j) (kund D j) D = true := by
  have h := hD
  unfold kunT at h
  rw [klen_e] at h
  have h1 : kunJ T.1 T.2.1 T.2.2.1 T.2.2.2.1 (gF T).length j (knth T.2.2.2.1 j) (kund D j) D = true := klt_s h j hj
  rw [knth_g] at h1
  exact h1
section KUNT
variable {T : zGT} {D : List zUD} {j Q B r : Nat}
theorem kunM_q (hT : T ∈ gTabs) (hA : gGr T) (hj : j < (gF T).length) (hS : ∀ x, x < gN T → (gtr T (gFn T j) x = gFn T j → kunq Q x = gUs T j x ∧ j ≤ gUs T j x ∧ gUs T j x < (gF T).length) ∧ (B.testBit x = true ↔ gtr T (gFn T j) x = gFn T j ∧ gcos T (gFn T j) x = x)) {g k : Nat} (hg : gUr T j g) (hk : gUr T j k) : kunM (gF T).length j (kunq Q g) (kunq Q k) (kunq Q (kgm T.2.1 g k)) = gUq T j g k := by
  have hO := gTabs_ok T hT
  have hG := hO.1
  have hHs := (hO.2.2.1.2.1 _ (gFn_m hj)).1
  have hH := (hO.2.1.2.2 _ hHs).1
  have hn : gtr T (gFn T j) (gm T g k) = gFn T j := by rw [← gtr_cm hA hG hg.1 hk.1, hg.2.1, hk.2.1]
  have hx : gm T g k < gN T := hG.2.2.2 g k hg.1 hk.1
  have e1 : kunq Q (kgm T.2.1 g k) = gUs T j (gm T g k) := ((hS _ hx).1 hn).1
  have e2 : gUs T j (gcos T (gFn T j) (gm T g k)) = gUs T j (gm T g k) := gsr_co hA hG (gTabs_ex T hT) hH.2.2 hx
  unfold gUq
  rw [((hS g hg.1).1 hg.2.1).1, ((hS k hk.1).1 hk.2.1).1, e1, e2]
theorem kunB_r (hS : ∀ x, x < gN T → (gtr T (gFn T j) x = gFn T j → kunq Q x = gUs T j x ∧ j ≤ gUs T j x ∧ gUs T j x < (gF T).length) ∧ (B.testBit x = true ↔ gtr T (gFn T j) x = gFn T j ∧ gcos T (gFn T j) x = x)) (hB : B < 2 ^ gN T) {x : Nat} : B.testBit x = true ↔ gUr T j x := by
  constructor
  · intro h
    have hx := gbit_lt hB h
    exact ⟨hx, ((hS x hx).2.mp h).1, ((hS x hx).2.mp h).2⟩
  · intro h
    exact (hS x h.1).2.mpr ⟨h.2.1, h.2.2⟩
theorem kun_d (hT : T ∈ gTabs) (hA : gGr T) (hD : kunT T.1 T.2.1 T.2.2.1 T.2.2.2.1 D = true) (hj : j < (gF T).length) : (kund D j).2.2.1 < 2 ^ gN T ∧ ∀ x, x < gN T → (gtr T (gFn T j) x = gFn T j → kunq (kund D j).1 x = gUs T j x ∧ j ≤ gUs T j x ∧ gUs T j x < (gF T).length) ∧ ((kund D j).2.2.1.testBit x = true ↔ gtr T (gFn T j) x = gFn T j ∧ gcos T (gFn T j) x = x) := by
  have h := kunT_j hD hj
  unfold kunJ at h
  obtain ⟨a1, a2⟩ := kcd.mp h
  exact ⟨kbl.mp a1, fun x hx => kunS_s hT hA hj (kcd.mp a2).1 hx⟩
theorem kun_c (hT : T ∈ gTabs) (hA : gGr T) (hD : kunT T.1 T.2.1 T.2.2.1 T.2.2.2.1 D = true) (hj : j < (gF T).length) : ∀ c ∈ (kund D j).2.2.2.2.1, (∃ g k, gUr T j g ∧ gUr T j k ∧ c >>> 10 = gUq T j g k) ∧ c >>> 10 &&& kunl (kund D j).2.2.2.1 = c >>> 10 := by
  obtain ⟨hB, hS⟩ := kun_d hT hA hD hj
  have h := kunT_j hD hj
  unfold kunJ at h
  have h5 := (kcd.mp (kcd.mp (kcd.mp (kcd.mp (kcd.mp h).2).2).2).2).1
  intro c hc
  obtain ⟨b1, b2⟩ := kcd.mp (kall_i.mp h5 c hc)
  obtain ⟨b3, b4⟩ := kcd.mp b1
  obtain ⟨b5, b6⟩ := kcd.mp b2
  rw [ktb_e] at b3 b4
  have hg := (kunB_r hS hB).mp b3
  have hk := (kunB_r hS hB).mp b4
  exact ⟨⟨_, _, hg, hk, (kbq.mp b5).trans (kunM_q hT hA hj hS hg hk)⟩, kbq.mp b6⟩
theorem gun_j (hT : T ∈ gTabs) (hA : gGr T) (hD : kunT T.1 T.2.1 T.2.2.1 T.2.2.2.1 D = true) (hj : j < (gF T).length) (hi : ∀ i, j < i → i < (gF T).length → zyC T i r) : zyR T j r ↔ zyC T j r := by
  obtain ⟨hB, hS⟩ := kun_d hT hA hD hj
  have hC := kun_c hT hA hD hj
  have h := kunT_j hD hj
  unfold kunJ at h
  obtain ⟨-, h⟩ := kcd.mp h
  obtain ⟨-, h⟩ := kcd.mp h
  obtain ⟨h3, h⟩ := kcd.mp h
  obtain ⟨h4, h⟩ := kcd.mp h
  obtain ⟨-, h⟩ := kcd.mp h
  obtain ⟨h6, h7⟩ := kcd.mp h
  have hy : ∀ x, x < gN T → (kund D j).2.2.1.testBit x = true → (r &&& kunl (kund D j).2.2.2.1).testBit ((gF T).length - 1 - gUs T j x) = r.testBit ((gF T).length - 1 - gUs T j x) := fun x hx hb => by
    have h8 : cond (ktb (kund D j).2.2.1 x) (ktb (kunl (kund D j).2.2.2.1) (kunb (gF T).length (kunq (kund D j).1 x))) true = true := klt_s h3 x hx
    rw [kib, if_pos hb, ktb_e, ((hS x hx).1 ((hS x hx).2.mp hb).1).1] at h8
    have h9 : (kunl (kund D j).2.2.2.1).testBit ((gF T).length - 1 - gUs T j x) = true := h8
    rw [Nat.testBit_and, h9, Bool.and_true]
  obtain ⟨s1, s2⟩ := kunn_s hS hy (gN T) (Nat.le_refl _)
  have hU : zyR T j r ↔ Nat.mod (Nat.mul 2 (kunn (gN T) (gF T).length (kund D j).1 (kund D j).2.2.1 (r &&& kunl (kund D j).2.2.2.1))) (kunN (gN T) (kund D j).2.2.1) = 0 := by
    unfold zyR zCgr
    rw [s1, show gmm T (gFn T j) = kunN (gN T) (kund D j).2.2.1 from s2]
    generalize kunn (gN T) (gF T).length (kund D j).1 (kund D j).2.2.1 (r &&& kunl (kund D j).2.2.2.1) = c
    generalize kunN (gN T) (kund D j).2.2.1 = m
    show _ ↔ 2 * c % m = 0
    rw [← Nat.dvd_iff_mod_eq_zero, ← Int.natCast_dvd_natCast]
    constructor
    · intro q
      have q2 := Int.dvd_sub (Int.dvd_refl (m : Int)) q
      rw [show (m : Int) - ((m : Int) - 2 * (c : Int)) = ((2 * c : Nat) : Int) by omega] at q2
      exact q2
    · intro q
      have q2 := Int.dvd_sub (Int.dvd_refl (m : Int)) q
      rw [show (m : Int) - ((2 * c : Nat) : Int) = (m : Int) - 2 * (c : Int) by omega] at q2
      exact q2
  have hm : ∀ q : Nat, q &&& kunl (kund D j).2.2.2.1 = q → zpar ((r &&& kunl (kund D j).2.2.2.1) &&& q) = zpm q r := fun q hq => by
    unfold zpm
    rw [Nat.and_assoc, Nat.and_comm (kunl (kund D j).2.2.2.1) q, hq]
  have hL : zyC T j r ↔ kunL (kund D j).2.2.2.2.1 (r &&& kunl (kund D j).2.2.2.1) = true := by
    unfold kunL
    rw [kall_i]
    constructor
    · intro q c hc
      obtain ⟨⟨g, k, hg, hk, e⟩, e2⟩ := hC c hc
      show cond (kunp (Nat.land (r &&& kunl (kund D j).2.2.2.1) (Nat.shiftRight c 10))) false true = true
      rw [knot, kunp_e]
      show zpar ((r &&& kunl (kund D j).2.2.2.1) &&& c >>> 10) = false
      rw [hm _ e2, e]
      exact q g k hg hk
    · intro q g k hg hk
      have h8 : cond (ktb (kund D j).2.2.1 g) (klt T.1 (fun k => cond (ktb (kund D j).2.2.1 k) (cond (Nat.beq (kunM (gF T).length j (kunq (kund D j).1 g) (kunq (kund D j).1 k) (kunq (kund D j).1 (kgm T.2.1 g k))) 0) true (kunm (kund D j).2.2.2.2.1 (kunM (gF T).length j (kunq (kund D j).1 g) (kunq (kund D j).1 k) (kunq (kund D j).1 (kgm T.2.1 g k))))) true)) true = true := klt_s h4 g hg.1
      rw [kib, if_pos ((kunB_r hS hB).mpr hg)] at h8
      have h9 : cond (ktb (kund D j).2.2.1 k) (cond (Nat.beq (kunM (gF T).length j (kunq (kund D j).1 g) (kunq (kund D j).1 k) (kunq (kund D j).1 (kgm T.2.1 g k))) 0) true (kunm (kund D j).2.2.2.2.1 (kunM (gF T).length j (kunq (kund D j).1 g) (kunq (kund D j).1 k) (kunq (kund D j).1 (kgm T.2.1 g k))))) true = true := klt_s h8 k hk.1
      rw [kib, if_pos ((kunB_r hS hB).mpr hk), kunM_q hT hA hj hS hg hk] at h9
      rcases kcor.mp h9 with e | e
      · rw [kbq.mp e]
        exact zpm_0 r
      · obtain ⟨c, hc, e2⟩ := kunm_s e
        have h10 : cond (kunp (Nat.land (r &&& kunl (kund D j).2.2.2.1) (Nat.shiftRight c 10))) false true = true := q c hc
        rw [knot, kunp_e] at h10
        have h11 : zpar ((r &&& kunl (kund D j).2.2.2.1) &&& c >>> 10) = false := h10
        rw [hm _ (hC c hc).2, e2] at h11
        exact h11
  have hF : kunF (kund D j).2.2.2.2.2 (r &&& kunl (kund D j).2.2.2.1) = true := by
    unfold kunF
    rw [kunA_s]
    intro l hl
    obtain ⟨b1, b2⟩ := kcd.mp (kunA_s.mp h6 l hl)
    show cond (kunp (Nat.land (r &&& kunl (kund D j).2.2.2.1) (kunx l))) false true = true
    rw [knot, kunp_e]
    show zpar ((r &&& kunl (kund D j).2.2.2.1) &&& kunx l) = false
    rw [hm _ (kbq.mp b1)]
    refine kunx_p (fun c hc => ?_)
    obtain ⟨b3, b4⟩ := kcd.mp (kall_i.mp b2 c hc)
    obtain ⟨b4, b5⟩ := kcd.mp b4
    have b3 : j < Nat.mod c 32 := kbl.mp b3
    have b4 : Nat.mod c 32 < (gF T).length := kbl.mp b4
    obtain ⟨c', hc', e⟩ := kunm_s b5
    obtain ⟨⟨g, k, hg, hk, e2⟩, -⟩ := kun_c hT hA hD b4 c' hc'
    have e3 : c >>> 5 = gUq T (Nat.mod c 32) g k := e.symm.trans e2
    rw [e3]
    exact hi _ b3 b4 g k hg hk
  have h8 := kunE_s h7 (r &&& kunl (kund D j).2.2.2.1) (fun i hb => by
    rw [Nat.testBit_and, Bool.and_eq_true] at hb
    exact Or.inl ((kunl_t i _).mp hb.2))
  rw [Nat.zero_or] at h8
  unfold kunk at h8
  rw [hF] at h8
  have h9 : cond (Nat.beq (Nat.mod (Nat.mul 2 (kunn (gN T) (gF T).length (kund D j).1 (kund D j).2.2.1 (r &&& kunl (kund D j).2.2.2.1))) (kunN (gN T) (kund D j).2.2.1)) 0) (kunL (kund D j).2.2.2.2.1 (r &&& kunl (kund D j).2.2.2.1)) (cond (kunL (kund D j).2.2.2.2.1 (r &&& kunl (kund D j).2.2.2.1)) false true) = true := h8
  rw [hU, hL]
  rw [kif] at h9
  constructor
  · intro q
    rw [if_pos q] at h9
    exact h9
  · intro q
    by_cases e : Nat.mod (Nat.mul 2 (kunn (gN T) (gF T).length (kund D j).1 (kund D j).2.2.1 (r &&& kunl (kund D j).2.2.2.1))) (kunN (gN T) (kund D j).2.2.1) = 0
    · exact e
    · rw [if_neg e, knot, q] at h9
      cases h9
theorem gun_a (hT : T ∈ gTabs) (hA : gGr T) (hD : kunT T.1 T.2.1 T.2.2.1 T.2.2.2.1 D = true) : ∀ d j, (gF T).length - j = d → ((∀ i, j ≤ i → i < (gF T).length → zyR T i r) ↔ ∀ i, j ≤ i → i < (gF T).length → zyC T i r)
  | 0, j, hd => ⟨fun _ i h1 h2 => absurd h2 (by omega), fun _ i h1 h2 => absurd h2 (by omega)⟩
  | d + 1, j, hd => by
    have ih := gun_a hT hA hD d (j + 1) (by omega)
    constructor
    · intro h i h1 h2
      have h3 := ih.mp (fun i' h4 h5 => h i' (by omega) h5)
      by_cases e : i = j
      · rw [e]
        rw [e] at h2
        exact (gun_j hT hA hD h2 (fun i' h4 h5 => h3 i' (by omega) h5)).mp (h j (Nat.le_refl _) h2)
      · exact h3 i (by omega) h2
    · intro h i h1 h2
      by_cases e : i = j
      · rw [e]
        rw [e] at h2
        exact (gun_j hT hA hD h2 (fun i' h4 h5 => h i' (by omega) h5)).mpr (h j (Nat.le_refl _) h2)
      · exact ih.mpr (fun i' h4 h5 => h i' (by omega) h5) i (by omega) h2
end KUNT
