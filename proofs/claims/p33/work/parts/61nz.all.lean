def zpar (y : Nat) : Bool := zbx (fun i => y.testBit i) 32
def zpm (q x : Nat) : Bool := zpar (x &&& q)
theorem zbx_a (q : Nat → Bool) (n : Nat) : ∀ m : Nat, zbx q (n + m) = Bool.xor (zbx q n) (zbx (fun i => q (n + i)) m)
  | 0 => by
    show zbx q n = Bool.xor (zbx q n) false
    cases zbx q n <;> rfl
  | m + 1 => by
    show Bool.xor (zbx q (n + m)) (q (n + m)) = Bool.xor (zbx q n) (Bool.xor (zbx (fun i => q (n + i)) m) (q (n + m)))
    rw [zbx_a q n m]
    cases zbx q n <;> cases zbx (fun i => q (n + i)) m <;> cases q (n + m) <;> rfl
theorem zbx_xx (p q : Nat → Bool) : ∀ m : Nat, zbx (fun i => Bool.xor (p i) (q i)) m = Bool.xor (zbx p m) (zbx q m)
  | 0 => rfl
  | m + 1 => by
    show Bool.xor (zbx (fun i => Bool.xor (p i) (q i)) m) (Bool.xor (p m) (q m)) = Bool.xor (Bool.xor (zbx p m) (p m)) (Bool.xor (zbx q m) (q m))
    rw [zbx_xx p q m]
    cases zbx p m <;> cases zbx q m <;> cases p m <;> cases q m <;> rfl
theorem zpar_x (x y : Nat) : zpar (x ^^^ y) = Bool.xor (zpar x) (zpar y) := by
  unfold zpar
  rw [← zbx_xx]
  exact zbx_c 32 (fun i _ => by rw [Nat.testBit_xor])
theorem zpm_x (q x y : Nat) : zpm q (x ^^^ y) = Bool.xor (zpm q x) (zpm q y) := by
  unfold zpm
  rw [show (x ^^^ y) &&& q = (x &&& q) ^^^ (y &&& q) from Nat.eq_of_testBit_eq fun i => by
    rw [Nat.testBit_and, Nat.testBit_xor, Nat.testBit_xor, Nat.testBit_and, Nat.testBit_and]
    cases x.testBit i <;> cases y.testBit i <;> cases q.testBit i <;> rfl, zpar_x]
theorem zpm_q (p q x : Nat) : zpm (p ^^^ q) x = Bool.xor (zpm p x) (zpm q x) := by
  unfold zpm
  rw [show x &&& (p ^^^ q) = (x &&& p) ^^^ (x &&& q) from Nat.eq_of_testBit_eq fun i => by
    rw [Nat.testBit_and, Nat.testBit_xor, Nat.testBit_xor, Nat.testBit_and, Nat.testBit_and]
    cases x.testBit i <;> cases p.testBit i <;> cases q.testBit i <;> rfl, zpar_x]
theorem zpar_0 : zpar 0 = false := zbx_0 32 (fun i _ => Nat.zero_testBit i)
theorem zpm_0 (x : Nat) : zpm 0 x = false := by
  unfold zpm
  rw [Nat.and_zero]
  exact zpar_0
theorem zpm_00 (q : Nat) : zpm q 0 = false := by
  unfold zpm
  rw [Nat.zero_and]
  exact zpar_0
noncomputable def kunf (k y : Nat) : Nat := Nat.xor y (Nat.shiftRight y k)
noncomputable def kunp (y : Nat) : Bool := ktb (kunf 1 (kunf 2 (kunf 4 (kunf 8 (kunf 16 y))))) 0
theorem kunf_x (k y : Nat) : zbx (fun i => (kunf k y).testBit i) k = zbx (fun i => y.testBit i) (k + k) := by
  rw [zbx_a, ← zbx_xx]
  refine zbx_c k (fun i _ => ?_)
  show (y ^^^ (y >>> k)).testBit i = Bool.xor (y.testBit i) (y.testBit (k + i))
  rw [Nat.testBit_xor, Nat.testBit_shiftRight]
theorem kunp_e (y : Nat) : kunp y = zpar y := by
  unfold kunp
  rw [ktb_e]
  have e : ∀ z : Nat, z.testBit 0 = zbx (fun i => z.testBit i) 1 := fun z => by
    show z.testBit 0 = Bool.xor false (z.testBit 0)
    cases z.testBit 0 <;> rfl
  exact (e _).trans ((kunf_x 1 _).trans ((kunf_x 2 _).trans ((kunf_x 4 _).trans ((kunf_x 8 _).trans (kunf_x 16 y)))))
noncomputable def kunE (chk : Nat → Bool) : List Nat → Nat → Bool := List.rec chk (fun d _ ih x => cond (ih x) (ih (Nat.lor x (Nat.pow 2 d))) false)
theorem kunE_s {chk : Nat → Bool} : ∀ {l : List Nat} {x : Nat}, kunE chk l x = true → ∀ y : Nat, (∀ i, y.testBit i = true → i ∈ l ∨ x.testBit i = true) → chk (x ||| y) = true
  | [], x, h, y, hy => by
    have e : x ||| y = x := Nat.eq_of_testBit_eq fun i => by
      rw [Nat.testBit_or]
      cases hb : y.testBit i with
      | false => cases x.testBit i <;> rfl
      | true =>
        rcases hy i hb with q | q
        · cases q
        · rw [Bool.or_true, q]
    rw [e]
    exact h
  | d :: l, x, h, y, hy => by
    have h2 : kunE chk l x = true ∧ kunE chk l (x ||| 2 ^ d) = true := kcd.mp h
    cases hd : y.testBit d with
    | true =>
      have h3 := kunE_s h2.2 y (fun i hi => by
        rcases hy i hi with q | q
        · rcases List.mem_cons.mp q with q | q
          · refine Or.inr ?_
            rw [Nat.testBit_or, q, Nat.testBit_two_pow_self, Bool.or_true]
          · exact Or.inl q
        · refine Or.inr ?_
          rw [Nat.testBit_or, q]
          rfl)
      have e : x ||| 2 ^ d ||| y = x ||| y := Nat.eq_of_testBit_eq fun i => by
        rw [Nat.testBit_or, Nat.testBit_or, Nat.testBit_or, Nat.testBit_two_pow]
        by_cases q : d = i
        · rw [← q, hd, Bool.or_true, Bool.or_true]
        · rw [decide_eq_false q, Bool.or_false]
      rw [e] at h3
      exact h3
    | false =>
      refine kunE_s h2.1 y (fun i hi => ?_)
      rcases hy i hi with q | q
      · rcases List.mem_cons.mp q with q | q
        · rw [q, hd] at hi
          cases hi
        · exact Or.inl q
      · exact Or.inr q
noncomputable def kgsR (P g s n : Nat) : Nat := kup (fun y r => cond (ktb s y) (Nat.lor r (Nat.pow 2 (kgm P y g))) r) 0 n
theorem kgsR_t (P g s y : Nat) : ∀ n, (kgsR P g s n).testBit y = true ↔ ∃ x, x < n ∧ s.testBit x = true ∧ kgm P x g = y
  | 0 => by
    show (Nat.testBit 0 y = true) ↔ _
    rw [Nat.zero_testBit]
    constructor
    · intro h
      exact absurd h (by decide)
    · rintro ⟨x, hx, -⟩
      omega
  | n + 1 => by
    have ih := kgsR_t P g s y n
    show ((cond (ktb s n) (Nat.lor (kgsR P g s n) (Nat.pow 2 (kgm P n g))) (kgsR P g s n)).testBit y = true) ↔ _
    rw [kib]
    by_cases h : s.testBit n = true
    · rw [if_pos h]
      show ((kgsR P g s n ||| 2 ^ kgm P n g).testBit y = true) ↔ _
      rw [Nat.testBit_or, Bool.or_eq_true, ih, Nat.testBit_two_pow, decide_eq_true_iff]
      constructor
      · rintro (⟨x, h1, h2, h3⟩ | h1)
        · exact ⟨x, by omega, h2, h3⟩
        · exact ⟨n, by omega, h, h1⟩
      · rintro ⟨x, h1, h2, h3⟩
        by_cases e : x = n
        · rw [e] at h3
          exact Or.inr h3
        · exact Or.inl ⟨x, by omega, h2, h3⟩
    · rw [if_neg h, ih]
      constructor
      · rintro ⟨x, h1, h2⟩
        exact ⟨x, by omega, h2⟩
      · rintro ⟨x, h1, h2, h3⟩
        by_cases e : x = n
        · rw [e] at h2
          exact absurd h2 h
        · exact ⟨x, by omega, h2, h3⟩
noncomputable def kunC (n P t F R : Nat) : Bool := Nat.beq (kgsB P t R n) (kgsR P t F n)
theorem kunC_s {T : zGT} (hA : gGr T) (hG : gGd T) {t F R : Nat} (ht : t < gN T) (hR : R < 2 ^ gN T) : kunC T.1 T.2.1 t F R = true ↔ gtr T F t = R := by
  have it := (hA.2 t ht).1
  unfold kunC
  rw [kbq]
  constructor
  · intro h
    refine Nat.eq_of_testBit_eq fun y => ?_
    rw [Bool.eq_iff_iff, gtr_x hG ht]
    constructor
    · rintro ⟨x, hx, hxF, e⟩
      have h1 : (kgsR T.2.1 t F T.1).testBit (kgm T.2.1 x t) = true := (kgsR_t _ _ _ _ _).mpr ⟨x, hx, hxF, rfl⟩
      rw [← h] at h1
      obtain ⟨z, hz, hzR, e2⟩ := (kgsB_t _ _ _ _ _).mp h1
      have e3 : gm T t z = gm T x t := e2
      rw [hA.1.1 _ _ _ it hx ht, ← e3, ← hA.1.1 _ _ _ it ht hz, hA.l hG ht, hA.1.2.1 z hz] at e
      rw [← e]
      exact hzR
    · intro hy
      have hyn := gbit_lt hR hy
      have h1 : (kgsB T.2.1 t R T.1).testBit (kgm T.2.1 t y) = true := (kgsB_t _ _ _ _ _).mpr ⟨y, hyn, hy, rfl⟩
      rw [h] at h1
      obtain ⟨x, hx, hxF, e2⟩ := (kgsR_t _ _ _ _ _).mp h1
      have e3 : gm T x t = gm T t y := e2
      refine ⟨x, hx, hxF, ?_⟩
      rw [hA.1.1 _ _ _ it hx ht, e3, ← hA.1.1 _ _ _ it ht hyn, hA.l hG ht, hA.1.2.1 y hyn]
  · intro h
    refine Nat.eq_of_testBit_eq fun y => ?_
    rw [Bool.eq_iff_iff, kgsB_t, kgsR_t]
    constructor
    · rintro ⟨z, hz, hzR, e⟩
      rw [← h] at hzR
      obtain ⟨x, hx, hxF, e2⟩ := (gtr_x hG ht z).mp hzR
      refine ⟨x, hx, hxF, ?_⟩
      rw [← e, ← e2]
      show gm T x t = gm T t (gm T (gm T (gi T t) x) t)
      rw [hA.1.1 _ _ _ it hx ht, ← hA.1.1 _ _ _ ht it (hG.2.2.2 _ _ hx ht), (hA.2 t ht).2, hA.1.2.1 _ (hG.2.2.2 _ _ hx ht)]
    · rintro ⟨x, hx, hxF, e⟩
      have hz : (gtr T F t).testBit (gm T (gm T (gi T t) x) t) = true := (gtr_x hG ht _).mpr ⟨x, hx, hxF, rfl⟩
      rw [h] at hz
      refine ⟨_, hG.2.2.2 _ _ (hG.2.2.2 _ _ it hx) ht, hz, ?_⟩
      rw [← e]
      show gm T t (gm T (gm T (gi T t) x) t) = gm T x t
      rw [hA.1.1 _ _ _ it hx ht, ← hA.1.1 _ _ _ ht it (hG.2.2.2 _ _ hx ht), (hA.2 t ht).2, hA.1.2.1 _ (hG.2.2.2 _ _ hx ht)]
noncomputable def kunK (n X : Nat) (S : List Nat) : Nat := List.rec (Nat.pred (Nat.pow 2 n)) (fun s _ ih => cond (Nat.beq (Nat.land s X) X) (Nat.land ih s) ih) S
theorem kunK_t (n X i : Nat) : ∀ S : List Nat, (kunK n X S).testBit i = true ↔ i < n ∧ ∀ s ∈ S, s &&& X = X → s.testBit i = true
  | [] => by
    show (2 ^ n - 1).testBit i = true ↔ _
    rw [Nat.testBit_two_pow_sub_one, decide_eq_true_iff]
    exact ⟨fun h => ⟨h, fun s hs => by cases hs⟩, fun h => h.1⟩
  | s :: S => by
    have ih := kunK_t n X i S
    show (cond (Nat.beq (Nat.land s X) X) (Nat.land (kunK n X S) s) (kunK n X S)).testBit i = true ↔ _
    rw [kif]
    by_cases h : Nat.land s X = X
    · rw [if_pos h]
      show (kunK n X S &&& s).testBit i = true ↔ _
      rw [Nat.testBit_and, Bool.and_eq_true, ih]
      constructor
      · rintro ⟨⟨h1, h2⟩, h3⟩
        refine ⟨h1, fun r hr hx => ?_⟩
        rcases List.mem_cons.mp hr with q | q
        · rw [q]
          exact h3
        · exact h2 r q hx
      · rintro ⟨h1, h2⟩
        exact ⟨⟨h1, fun r hr => h2 r (List.mem_cons_of_mem _ hr)⟩, h2 s List.mem_cons_self h⟩
    · rw [if_neg h, ih]
      constructor
      · rintro ⟨h1, h2⟩
        refine ⟨h1, fun r hr hx => ?_⟩
        rcases List.mem_cons.mp hr with q | q
        · rw [q] at hx
          exact absurd hx h
        · exact h2 r q hx
      · rintro ⟨h1, h2⟩
        exact ⟨h1, fun r hr => h2 r (List.mem_cons_of_mem _ hr)⟩
theorem gSb_an {s X : Nat} : s &&& X = X ↔ gSb X s := by
  constructor
  · intro h k hk
    rw [← h, Nat.testBit_and, Bool.and_eq_true] at hk
    exact hk.1
  · intro h
    refine Nat.eq_of_testBit_eq fun k => ?_
    rw [Nat.testBit_and]
    cases hk : X.testBit k with
    | false => exact Bool.and_false _
    | true => rw [h k hk, Bool.and_true]
theorem kunK_s {T : zGT} (hO : gOK T) {H x : Nat} (hH : H ∈ gS T) (hx : x < gN T) : gLC T (H ||| 2 ^ x) (kunK (gN T) (H ||| 2 ^ x) (gS T)) := by
  obtain ⟨R, hR, hl⟩ := (hO.2.1.2.2 H hH).2 x hx
  have e : kunK (gN T) (H ||| 2 ^ x) (gS T) = R := by
    refine Nat.eq_of_testBit_eq fun i => ?_
    rw [Bool.eq_iff_iff, kunK_t]
    constructor
    · rintro ⟨-, h2⟩
      exact h2 R hR (gSb_an.mpr hl.2.1)
    · intro h
      refine ⟨gbit_lt hl.1 h, fun s hs hX => ?_⟩
      exact hl.2.2.2 s (hO.2.1.2.2 s hs).1.2.2 (gSb_an.mp hX) i h
  rw [e]
  exact hl
theorem knth_g : ∀ (l : List Nat) (i : Nat), knth l i = l.getD i 0
  | [], _ => rfl
  | x :: l, 0 => rfl
  | x :: l, i + 1 => by
    show knth l i = _
    rw [knth_g l i]
    rfl
abbrev zUD : Type := Nat × Nat × Nat × List Nat × List Nat × List (List Nat)
noncomputable def kund : List zUD → Nat → zUD := List.rec (fun _ => (0, 0, 0, [], [], [])) (fun x _ ih i => cond (Nat.beq i 0) x (ih (Nat.pred i)))
noncomputable def kunq (q x : Nat) : Nat := Nat.mod (Nat.shiftRight q (Nat.mul 5 x)) 32
noncomputable def kunb (nf s : Nat) : Nat := Nat.sub (Nat.sub nf 1) s
noncomputable def kunM (nf j a b c : Nat) : Nat := Nat.xor (Nat.xor (Nat.xor (Nat.pow 2 (kunb nf j)) (Nat.pow 2 (kunb nf a))) (Nat.pow 2 (kunb nf b))) (Nat.pow 2 (kunb nf c))
noncomputable def kunl (l : List Nat) : Nat := List.rec 0 (fun d _ ih => Nat.lor (Nat.pow 2 d) ih) l
noncomputable def kunx (l : List Nat) : Nat := List.rec 0 (fun c _ ih => Nat.xor (Nat.shiftRight c 5) ih) l
noncomputable def kunA (l : List (List Nat)) (p : List Nat → Bool) : Bool := List.rec true (fun x _ ih => cond (p x) ih false) l
noncomputable def kunm (l : List Nat) (m : Nat) : Bool := List.rec false (fun c _ ih => cond (Nat.beq (Nat.shiftRight c 10) m) true ih) l
noncomputable def kunV (n P : Nat) (S F : List Nat) (nf j H Q TQ x : Nat) : Bool := cond (Nat.ble j (kunq Q x)) (cond (Nat.ble (Nat.succ (kunq Q x)) nf) (cond (Nat.ble (Nat.succ (kunq TQ x)) n) (kunC n P (kunq TQ x) (knth F (kunq Q x)) (kunK n (Nat.lor H (Nat.pow 2 x)) S)) false) false) false
noncomputable def kunS (n P : Nat) (S F : List Nat) (nf j H Q TQ B : Nat) : Bool := klt n (fun x => cond (kunC n P x H H) (cond (kunV n P S F nf j H Q TQ x) (cond (Nat.beq (kcv n P H x) x) (ktb B x) (cond (ktb B x) false true)) false) (cond (ktb B x) false true))
noncomputable def kunN (n B : Nat) : Nat := kup (fun x r => cond (ktb B x) (Nat.succ r) r) 0 n
noncomputable def kunn (n nf Q B y : Nat) : Nat := kup (fun x r => cond (ktb B x) (cond (ktb y (kunb nf (kunq Q x))) (Nat.succ r) r) r) 0 n
noncomputable def kunL (Lc : List Nat) (y : Nat) : Bool := kall Lc (fun c => cond (kunp (Nat.land y (Nat.shiftRight c 10))) false true)
noncomputable def kunF (Fc : List (List Nat)) (y : Nat) : Bool := kunA Fc (fun l => cond (kunp (Nat.land y (kunx l))) false true)
noncomputable def kunk (n nf Q B : Nat) (Lc : List Nat) (Fc : List (List Nat)) (y : Nat) : Bool := cond (kunF Fc y) (cond (Nat.beq (Nat.mod (Nat.mul 2 (kunn n nf Q B y)) (kunN n B)) 0) (kunL Lc y) (cond (kunL Lc y) false true)) true
noncomputable def kunP (n P nf j Q B : Nat) (Lc : List Nat) : Bool := klt n (fun g => cond (ktb B g) (klt n (fun k => cond (ktb B k) (cond (Nat.beq (kunM nf j (kunq Q g) (kunq Q k) (kunq Q (kgm P g k))) 0) true (kunm Lc (kunM nf j (kunq Q g) (kunq Q k) (kunq Q (kgm P g k))))) true)) true)
noncomputable def kunc (P nf j Q B : Nat) (ds Lc : List Nat) : Bool := kall Lc (fun c => cond (cond (ktb B (Nat.mod (Nat.shiftRight c 5) 32)) (ktb B (Nat.mod c 32)) false) (cond (Nat.beq (Nat.shiftRight c 10) (kunM nf j (kunq Q (Nat.mod (Nat.shiftRight c 5) 32)) (kunq Q (Nat.mod c 32)) (kunq Q (kgm P (Nat.mod (Nat.shiftRight c 5) 32) (Nat.mod c 32))))) (Nat.beq (Nat.land (Nat.shiftRight c 10) (kunl ds)) (Nat.shiftRight c 10)) false) false)
noncomputable def kunv (nf j : Nat) (ds : List Nat) (Fc : List (List Nat)) (D : List zUD) : Bool := kunA Fc (fun l => cond (Nat.beq (Nat.land (kunx l) (kunl ds)) (kunx l)) (kall l (fun c => cond (Nat.ble (Nat.succ j) (Nat.mod c 32)) (cond (Nat.ble (Nat.succ (Nat.mod c 32)) nf) (kunm (kund D (Nat.mod c 32)).2.2.2.2.1 (Nat.shiftRight c 5)) false) false)) false)
noncomputable def kunw (n nf Q B : Nat) (ds : List Nat) : Bool := klt n (fun x => cond (ktb B x) (ktb (kunl ds) (kunb nf (kunq Q x))) true)
noncomputable def kunJ (n P : Nat) (S F : List Nat) (nf j H : Nat) (d : zUD) (D : List zUD) : Bool := cond (Nat.ble (Nat.succ d.2.2.1) (Nat.pow 2 n)) (cond (kunS n P S F nf j H d.1 d.2.1 d.2.2.1) (cond (kunw n nf d.1 d.2.2.1 d.2.2.2.1) (cond (kunP n P nf j d.1 d.2.2.1 d.2.2.2.2.1) (cond (kunc P nf j d.1 d.2.2.1 d.2.2.2.1 d.2.2.2.2.1) (cond (kunv nf j d.2.2.2.1 d.2.2.2.2.2 D) (kunE (kunk n nf d.1 d.2.2.1 d.2.2.2.2.1 d.2.2.2.2.2) d.2.2.2.1 0) false) false) false) false) false) false
noncomputable def kunT (n P : Nat) (S F : List Nat) (D : List zUD) : Bool := klt (klen F) (fun j => kunJ n P S F (klen F) j (knth F j) (kund D j) D)
noncomputable def kunZ : List zGT → List (List zUD) → Bool := List.rec (fun _ => true) (fun T _ ih l => List.rec false (fun D t _ => cond (kunT T.1 T.2.1 T.2.2.1 T.2.2.2.1 D) (ih t) false) l)
theorem kunZ_s : ∀ {l : List zGT} {L : List (List zUD)}, kunZ l L = true → ∀ T ∈ l, ∃ D, kunT T.1 T.2.1 T.2.2.1 T.2.2.2.1 D = true
  | [], _, _, T, hT => by cases hT
  | y :: l, [], h, T, hT => by cases h
  | y :: l, D :: L, h, T, hT => by
    have h2 : kunT y.1 y.2.1 y.2.2.1 y.2.2.2.1 D = true ∧ kunZ l L = true := kcd.mp h
    rcases List.mem_cons.mp hT with q | q
    · rw [q]
      exact ⟨D, h2.1⟩
    · exact kunZ_s h2.2 T q
theorem kunA_s {p : List Nat → Bool} : ∀ {l : List (List Nat)}, kunA l p = true ↔ ∀ x ∈ l, p x = true
  | [] => ⟨fun _ x hx => by cases hx, fun _ => rfl⟩
  | y :: l => by
    show cond (p y) (kunA l p) false = true ↔ _
    rw [kcd, kunA_s]
    constructor
    · rintro ⟨h1, h2⟩ x hx
      rcases List.mem_cons.mp hx with q | q
      · rw [q]
        exact h1
      · exact h2 x q
    · exact fun h => ⟨h y List.mem_cons_self, fun x hx => h x (List.mem_cons_of_mem _ hx)⟩
theorem kall_i {p : Nat → Bool} : ∀ {l : List Nat}, kall l p = true ↔ ∀ x ∈ l, p x = true
  | [] => ⟨fun _ x hx => by cases hx, fun _ => rfl⟩
  | y :: l => by
    show cond (p y) (kall l p) false = true ↔ _
    rw [kcd, kall_i]
    constructor
    · rintro ⟨h1, h2⟩ x hx
      rcases List.mem_cons.mp hx with q | q
      · rw [q]
        exact h1
      · exact h2 x q
    · exact fun h => ⟨h y List.mem_cons_self, fun x hx => h x (List.mem_cons_of_mem _ hx)⟩
theorem kunm_s {m : Nat} : ∀ {l : List Nat}, kunm l m = true → ∃ c ∈ l, c >>> 10 = m
  | [], h => by cases h
  | y :: l, h => by
    have h2 : cond (Nat.beq (Nat.shiftRight y 10) m) true (kunm l m) = true := h
    rcases kcor.mp h2 with q | q
    · exact ⟨y, List.mem_cons_self, kbq.mp q⟩
    · obtain ⟨c, h3, h4⟩ := kunm_s q
      exact ⟨c, List.mem_cons_of_mem _ h3, h4⟩
theorem kunl_t (i : Nat) : ∀ l : List Nat, (kunl l).testBit i = true ↔ i ∈ l
  | [] => by
    show (0 : Nat).testBit i = true ↔ _
    rw [Nat.zero_testBit]
    exact ⟨fun h => by cases h, fun h => by cases h⟩
  | d :: l => by
    show (2 ^ d ||| kunl l).testBit i = true ↔ _
    rw [Nat.testBit_or, Bool.or_eq_true, kunl_t i l, Nat.testBit_two_pow, decide_eq_true_iff, List.mem_cons]
    constructor
    · rintro (h | h)
      · exact Or.inl h.symm
      · exact Or.inr h
    · rintro (h | h)
      · exact Or.inl h.symm
      · exact Or.inr h
theorem knot {b : Bool} : cond b false true = true ↔ b = false := by cases b <;> decide
theorem kcv_g (T : zGT) (H x : Nat) : kcv T.1 T.2.1 H x = gcos T H x := by
  rw [gcos_e]
  refine kup_c x (gN T) (fun k r _ => ?_)
  rw [kib, kil]
  show (if H.testBit k = true then (if gm T k x < r then gm T k x else r) else r) = (if H.testBit k && decide (gm T k x < r) then gm T k x else r)
  cases H.testBit k <;> simp
noncomputable def gUs (T : zGT) (j x : Nat) : Nat := gsr T (gFn T j ||| 2 ^ x)
def gUr (T : zGT) (j x : Nat) : Prop := x < gN T ∧ gtr T (gFn T j) x = gFn T j ∧ gcos T (gFn T j) x = x
noncomputable def gUq (T : zGT) (j g k : Nat) : Nat := kunM (gF T).length j (gUs T j g) (gUs T j k) (gUs T j (gcos T (gFn T j) (gm T g k)))
def zyC (T : zGT) (j r : Nat) : Prop := ∀ g k, gUr T j g → gUr T j k → zpm (gUq T j g k) r = false
def zyg (T : zGT) (r : Nat) : Nat → Int := fun s => if r.testBit ((gF T).length - 1 - s) = true then -1 else 1
def zyR (T : zGT) (j r : Nat) : Prop := zCgr T (gFn T j) (zyg T r)
section KUNS
variable {T : zGT} {j Q TQ B r : Nat}
theorem kunS_s (hT : T ∈ gTabs) (hA : gGr T) (hj : j < (gF T).length) (h : kunS T.1 T.2.1 T.2.2.1 T.2.2.2.1 (gF T).length j (gFn T j) Q TQ B = true) {x : Nat} (hx : x < gN T) : (gtr T (gFn T j) x = gFn T j → kunq Q x = gUs T j x ∧ j ≤ gUs T j x ∧ gUs T j x < (gF T).length) ∧ (B.testBit x = true ↔ gtr T (gFn T j) x = gFn T j ∧ gcos T (gFn T j) x = x) := by
  have hO := gTabs_ok T hT
  have hG := hO.1
  have hHs := (hO.2.2.1.2.1 _ (gFn_m hj)).1
  have hH := (hO.2.1.2.2 _ hHs).1
  have hc := kunC_s hA hG hx hH.2.1 (F := gFn T j)
  have h1 : cond (kunC T.1 T.2.1 x (gFn T j) (gFn T j)) (cond (kunV T.1 T.2.1 T.2.2.1 T.2.2.2.1 (gF T).length j (gFn T j) Q TQ x) (cond (Nat.beq (kcv T.1 T.2.1 (gFn T j) x) x) (ktb B x) (cond (ktb B x) false true)) false) (cond (ktb B x) false true) = true := klt_s h x hx
  by_cases g : gtr T (gFn T j) x = gFn T j
  · rw [hc.mpr g] at h1
    have h2 : kunV T.1 T.2.1 T.2.2.1 T.2.2.2.1 (gF T).length j (gFn T j) Q TQ x = true ∧ cond (Nat.beq (kcv T.1 T.2.1 (gFn T j) x) x) (ktb B x) (cond (ktb B x) false true) = true := kcd.mp h1
    refine ⟨fun _ => ?_, ?_⟩
    · obtain ⟨v1, v2⟩ := kcd.mp h2.1
      obtain ⟨v2, v3⟩ := kcd.mp v2
      obtain ⟨v3, v4⟩ := kcd.mp v3
      have v1 := kbl.mp v1
      have v2 : kunq Q x < (gF T).length := kbl.mp v2
      have v3 : kunq TQ x < gN T := kbl.mp v3
      have hl := kunK_s hO hHs hx
      have v5 := (kunC_s hA hG v3 hl.1).mp v4
      rw [knth_g] at v5
      obtain ⟨l, Kp, ol⟩ := gTabs_ol T hT
      have v6 := gtr_gl hA hO ol (gFn_m v2) v3 v5
      have hs : zSrt T (kunK (gN T) (gFn T j ||| 2 ^ x) (gS T)) ((kunq Q x : Nat) : Int) := ⟨⟨by omega, by omega⟩, by rw [Int.toNat_natCast]; exact v6.symm⟩
      have v7 := gsr_u hO hl hs
      have v8 : kunq Q x = gUs T j x := Int.ofNat_inj.mp v7
      rw [← v8]
      exact ⟨rfl, v1, v2⟩
    · have h3 := h2.2
      rw [kcv_g, kif] at h3
      by_cases q : gcos T (gFn T j) x = x
      · rw [if_pos q, ktb_e] at h3
        exact ⟨fun _ => ⟨g, q⟩, fun _ => h3⟩
      · rw [if_neg q, knot, ktb_e] at h3
        exact ⟨fun a => by rw [h3] at a; cases a, fun a => absurd a.2 q⟩
  · refine ⟨fun q => absurd q g, ?_⟩
    have h2 : kunC T.1 T.2.1 x (gFn T j) (gFn T j) = false := by
      cases hb : kunC T.1 T.2.1 x (gFn T j) (gFn T j) with
      | false => rfl
      | true => exact absurd (hc.mp hb) g
    rw [h2] at h1
    have h3 : cond (ktb B x) false true = true := h1
    rw [knot, ktb_e] at h3
    exact ⟨fun a => by rw [h3] at a; cases a, fun a => absurd a.1 g⟩
theorem kunn_s (hS : ∀ x, x < gN T → (gtr T (gFn T j) x = gFn T j → kunq Q x = gUs T j x ∧ j ≤ gUs T j x ∧ gUs T j x < (gF T).length) ∧ (B.testBit x = true ↔ gtr T (gFn T j) x = gFn T j ∧ gcos T (gFn T j) x = x)) {y : Nat} (hy : ∀ x, x < gN T → B.testBit x = true → y.testBit ((gF T).length - 1 - gUs T j x) = r.testBit ((gF T).length - 1 - gUs T j x)) : ∀ k, k ≤ gN T → zsm (zmi T (gFn T j) (zcgF T (gFn T j) (zyg T r))) k = ((kunN k B : Nat) : Int) - 2 * ((kunn k (gF T).length Q B y : Nat) : Int) ∧ gup (gmmF T (gFn T j)) 0 k = kunN k B
  | 0, _ => ⟨rfl, rfl⟩
  | k + 1, hk => by
    obtain ⟨i1, i2⟩ := kunn_s hS hy k (by omega)
    obtain ⟨s1, s2⟩ := hS k (by omega)
    have e1 : kunN (k + 1) B = if B.testBit k = true then kunN k B + 1 else kunN k B := by
      show cond (ktb B k) (Nat.succ (kunN k B)) (kunN k B) = _
      exact kib _ _ _ _
    have e2 : kunn (k + 1) (gF T).length Q B y = if B.testBit k = true then (if y.testBit ((gF T).length - 1 - kunq Q k) = true then kunn k (gF T).length Q B y + 1 else kunn k (gF T).length Q B y) else kunn k (gF T).length Q B y := by
      show cond (ktb B k) (cond (ktb y (kunb (gF T).length (kunq Q k))) (Nat.succ (kunn k (gF T).length Q B y)) (kunn k (gF T).length Q B y)) (kunn k (gF T).length Q B y) = _
      rw [kib, kib]
      rfl
    have e3 : zsm (zmi T (gFn T j) (zcgF T (gFn T j) (zyg T r))) (k + 1) = zsm (zmi T (gFn T j) (zcgF T (gFn T j) (zyg T r))) k + zif (gtr T (gFn T j) k = gFn T j ∧ gcos T (gFn T j) k = k) (zyg T r (gUs T j k)) 0 := rfl
    have e4 : gup (gmmF T (gFn T j)) 0 (k + 1) = if gtr T (gFn T j) k = gFn T j ∧ gcos T (gFn T j) k = k then gup (gmmF T (gFn T j)) 0 k + 1 else gup (gmmF T (gFn T j)) 0 k := rfl
    rw [e1, e2, e3, e4]
    by_cases q : gtr T (gFn T j) k = gFn T j ∧ gcos T (gFn T j) k = k
    · have hb := s2.mpr q
      rw [if_pos hb, if_pos hb, zif_t q, if_pos q, (s1 q.1).1, hy k (by omega) hb]
      refine ⟨?_, by rw [i2]⟩
      rw [i1]
      unfold zyg
      by_cases c : r.testBit ((gF T).length - 1 - gUs T j k) = true
      · rw [if_pos c, if_pos c]
        omega
      · rw [if_neg c, if_neg c]
        omega
    · have hb : ¬ B.testBit k = true := fun a => q (s2.mp a)
      rw [if_neg hb, if_neg hb, zif_f q, if_neg q]
      exact ⟨by rw [i1]; omega, i2⟩
end KUNS
theorem kunx_p {r : Nat} : ∀ {l : List Nat}, (∀ c ∈ l, zpm (c >>> 5) r = false) → zpm (kunx l) r = false
  | [], _ => zpm_0 r
  | c :: l, h => by
    show zpm (c >>> 5 ^^^ kunx l) r = false
    rw [zpm_q, h c List.mem_cons_self, kunx_p (fun x hx => h x (List.mem_cons_of_mem _ hx))]
    rfl
theorem kunT_j {T : zGT} {D : List zUD} {j : Nat} (hD : kunT T.1 T.2.1 T.2.2.1 T.2.2.2.1 D = true) (hj : j < (gF T).length) : kunJ T.1 T.2.1 T.2.2.1 T.2.2.2.1 (gF T).length j (gFn T j) (kund D j) D = true := by
  have h := hD
  unfold kunT at h
  rw [klen_e] at h
  have h1 : kunJ T.1 T.2.1 T.2.2.1 T.2.2.2.1 (gF T).length j (knth T.2.2.2.1 j) (kund D j) D = true := klt_s h j hj
  rw [knth_g] at h1
  exact h1
section KUNT
variable {T : zGT} {D : List zUD} {j Q B r : Nat}
theorem kunM_q (hT : T ∈ gTabs) (hA : gGr T) (hj : j < (gF T).length) (hS : ∀ x, x < gN T → (gtr T (gFn T j) x = gFn T j → kunq Q x = gUs T j x ∧ j ≤ gUs T j x ∧ gUs T j x < (gF T).length) ∧ (B.testBit x = true ↔ gtr T (gFn T j) x = gFn T j ∧ gcos T (gFn T j) x = x)) {g k : Nat} (hg : gUr T j g) (hk : gUr T j k) : kunM (gF T).length j (kunq Q g) (kunq Q k) (kunq Q (kgm T.2.1 g k)) = gUq T j g k := by
  have hO := gTabs_ok T hT
  have hG := hO.1
  have hHs := (hO.2.2.1.2.1 _ (gFn_m hj)).1
  have hH := (hO.2.1.2.2 _ hHs).1
  have hn : gtr T (gFn T j) (gm T g k) = gFn T j := by rw [← gtr_cm hA hG hg.1 hk.1, hg.2.1, hk.2.1]
  have hx : gm T g k < gN T := hG.2.2.2 g k hg.1 hk.1
  have e1 : kunq Q (kgm T.2.1 g k) = gUs T j (gm T g k) := ((hS _ hx).1 hn).1
  have e2 : gUs T j (gcos T (gFn T j) (gm T g k)) = gUs T j (gm T g k) := gsr_co hA hG (gTabs_ex T hT) hH.2.2 hx
  unfold gUq
  rw [((hS g hg.1).1 hg.2.1).1, ((hS k hk.1).1 hk.2.1).1, e1, e2]
theorem kunB_r (hS : ∀ x, x < gN T → (gtr T (gFn T j) x = gFn T j → kunq Q x = gUs T j x ∧ j ≤ gUs T j x ∧ gUs T j x < (gF T).length) ∧ (B.testBit x = true ↔ gtr T (gFn T j) x = gFn T j ∧ gcos T (gFn T j) x = x)) (hB : B < 2 ^ gN T) {x : Nat} : B.testBit x = true ↔ gUr T j x := by
  constructor
  · intro h
    have hx := gbit_lt hB h
    exact ⟨hx, ((hS x hx).2.mp h).1, ((hS x hx).2.mp h).2⟩
  · intro h
    exact (hS x h.1).2.mpr ⟨h.2.1, h.2.2⟩
theorem kun_d (hT : T ∈ gTabs) (hA : gGr T) (hD : kunT T.1 T.2.1 T.2.2.1 T.2.2.2.1 D = true) (hj : j < (gF T).length) : (kund D j).2.2.1 < 2 ^ gN T ∧ ∀ x, x < gN T → (gtr T (gFn T j) x = gFn T j → kunq (kund D j).1 x = gUs T j x ∧ j ≤ gUs T j x ∧ gUs T j x < (gF T).length) ∧ ((kund D j).2.2.1.testBit x = true ↔ gtr T (gFn T j) x = gFn T j ∧ gcos T (gFn T j) x = x) := by
  have h := kunT_j hD hj
  unfold kunJ at h
  obtain ⟨a1, a2⟩ := kcd.mp h
  exact ⟨kbl.mp a1, fun x hx => kunS_s hT hA hj (kcd.mp a2).1 hx⟩
theorem kun_c (hT : T ∈ gTabs) (hA : gGr T) (hD : kunT T.1 T.2.1 T.2.2.1 T.2.2.2.1 D = true) (hj : j < (gF T).length) : ∀ c ∈ (kund D j).2.2.2.2.1, (∃ g k, gUr T j g ∧ gUr T j k ∧ c >>> 10 = gUq T j g k) ∧ c >>> 10 &&& kunl (kund D j).2.2.2.1 = c >>> 10 := by
  obtain ⟨hB, hS⟩ := kun_d hT hA hD hj
  have h := kunT_j hD hj
  unfold kunJ at h
  have h5 := (kcd.mp (kcd.mp (kcd.mp (kcd.mp (kcd.mp h).2).2).2).2).1
  intro c hc
  obtain ⟨b1, b2⟩ := kcd.mp (kall_i.mp h5 c hc)
  obtain ⟨b3, b4⟩ := kcd.mp b1
  obtain ⟨b5, b6⟩ := kcd.mp b2
  rw [ktb_e] at b3 b4
  have hg := (kunB_r hS hB).mp b3
  have hk := (kunB_r hS hB).mp b4
  exact ⟨⟨_, _, hg, hk, (kbq.mp b5).trans (kunM_q hT hA hj hS hg hk)⟩, kbq.mp b6⟩
theorem gun_j (hT : T ∈ gTabs) (hA : gGr T) (hD : kunT T.1 T.2.1 T.2.2.1 T.2.2.2.1 D = true) (hj : j < (gF T).length) (hi : ∀ i, j < i → i < (gF T).length → zyC T i r) : zyR T j r ↔ zyC T j r := by
  obtain ⟨hB, hS⟩ := kun_d hT hA hD hj
  have hC := kun_c hT hA hD hj
  have h := kunT_j hD hj
  unfold kunJ at h
  obtain ⟨-, h⟩ := kcd.mp h
  obtain ⟨-, h⟩ := kcd.mp h
  obtain ⟨h3, h⟩ := kcd.mp h
  obtain ⟨h4, h⟩ := kcd.mp h
  obtain ⟨-, h⟩ := kcd.mp h
  obtain ⟨h6, h7⟩ := kcd.mp h
  have hy : ∀ x, x < gN T → (kund D j).2.2.1.testBit x = true → (r &&& kunl (kund D j).2.2.2.1).testBit ((gF T).length - 1 - gUs T j x) = r.testBit ((gF T).length - 1 - gUs T j x) := fun x hx hb => by
    have h8 : cond (ktb (kund D j).2.2.1 x) (ktb (kunl (kund D j).2.2.2.1) (kunb (gF T).length (kunq (kund D j).1 x))) true = true := klt_s h3 x hx
    rw [kib, if_pos hb, ktb_e, ((hS x hx).1 ((hS x hx).2.mp hb).1).1] at h8
    have h9 : (kunl (kund D j).2.2.2.1).testBit ((gF T).length - 1 - gUs T j x) = true := h8
    rw [Nat.testBit_and, h9, Bool.and_true]
  obtain ⟨s1, s2⟩ := kunn_s hS hy (gN T) (Nat.le_refl _)
  have hU : zyR T j r ↔ Nat.mod (Nat.mul 2 (kunn (gN T) (gF T).length (kund D j).1 (kund D j).2.2.1 (r &&& kunl (kund D j).2.2.2.1))) (kunN (gN T) (kund D j).2.2.1) = 0 := by
    unfold zyR zCgr
    rw [s1, show gmm T (gFn T j) = kunN (gN T) (kund D j).2.2.1 from s2]
    generalize kunn (gN T) (gF T).length (kund D j).1 (kund D j).2.2.1 (r &&& kunl (kund D j).2.2.2.1) = c
    generalize kunN (gN T) (kund D j).2.2.1 = m
    show _ ↔ 2 * c % m = 0
    rw [← Nat.dvd_iff_mod_eq_zero, ← Int.natCast_dvd_natCast]
    constructor
    · intro q
      have q2 := Int.dvd_sub (Int.dvd_refl (m : Int)) q
      rw [show (m : Int) - ((m : Int) - 2 * (c : Int)) = ((2 * c : Nat) : Int) by omega] at q2
      exact q2
    · intro q
      have q2 := Int.dvd_sub (Int.dvd_refl (m : Int)) q
      rw [show (m : Int) - ((2 * c : Nat) : Int) = (m : Int) - 2 * (c : Int) by omega] at q2
      exact q2
  have hm : ∀ q : Nat, q &&& kunl (kund D j).2.2.2.1 = q → zpar ((r &&& kunl (kund D j).2.2.2.1) &&& q) = zpm q r := fun q hq => by
    unfold zpm
    rw [Nat.and_assoc, Nat.and_comm (kunl (kund D j).2.2.2.1) q, hq]
  have hL : zyC T j r ↔ kunL (kund D j).2.2.2.2.1 (r &&& kunl (kund D j).2.2.2.1) = true := by
    unfold kunL
    rw [kall_i]
    constructor
    · intro q c hc
      obtain ⟨⟨g, k, hg, hk, e⟩, e2⟩ := hC c hc
      show cond (kunp (Nat.land (r &&& kunl (kund D j).2.2.2.1) (Nat.shiftRight c 10))) false true = true
      rw [knot, kunp_e]
      show zpar ((r &&& kunl (kund D j).2.2.2.1) &&& c >>> 10) = false
      rw [hm _ e2, e]
      exact q g k hg hk
    · intro q g k hg hk
      have h8 : cond (ktb (kund D j).2.2.1 g) (klt T.1 (fun k => cond (ktb (kund D j).2.2.1 k) (cond (Nat.beq (kunM (gF T).length j (kunq (kund D j).1 g) (kunq (kund D j).1 k) (kunq (kund D j).1 (kgm T.2.1 g k))) 0) true (kunm (kund D j).2.2.2.2.1 (kunM (gF T).length j (kunq (kund D j).1 g) (kunq (kund D j).1 k) (kunq (kund D j).1 (kgm T.2.1 g k))))) true)) true = true := klt_s h4 g hg.1
      rw [kib, if_pos ((kunB_r hS hB).mpr hg)] at h8
      have h9 : cond (ktb (kund D j).2.2.1 k) (cond (Nat.beq (kunM (gF T).length j (kunq (kund D j).1 g) (kunq (kund D j).1 k) (kunq (kund D j).1 (kgm T.2.1 g k))) 0) true (kunm (kund D j).2.2.2.2.1 (kunM (gF T).length j (kunq (kund D j).1 g) (kunq (kund D j).1 k) (kunq (kund D j).1 (kgm T.2.1 g k))))) true = true := klt_s h8 k hk.1
      rw [kib, if_pos ((kunB_r hS hB).mpr hk), kunM_q hT hA hj hS hg hk] at h9
      rcases kcor.mp h9 with e | e
      · rw [kbq.mp e]
        exact zpm_0 r
      · obtain ⟨c, hc, e2⟩ := kunm_s e
        have h10 : cond (kunp (Nat.land (r &&& kunl (kund D j).2.2.2.1) (Nat.shiftRight c 10))) false true = true := q c hc
        rw [knot, kunp_e] at h10
        have h11 : zpar ((r &&& kunl (kund D j).2.2.2.1) &&& c >>> 10) = false := h10
        rw [hm _ (hC c hc).2, e2] at h11
        exact h11
  have hF : kunF (kund D j).2.2.2.2.2 (r &&& kunl (kund D j).2.2.2.1) = true := by
    unfold kunF
    rw [kunA_s]
    intro l hl
    obtain ⟨b1, b2⟩ := kcd.mp (kunA_s.mp h6 l hl)
    show cond (kunp (Nat.land (r &&& kunl (kund D j).2.2.2.1) (kunx l))) false true = true
    rw [knot, kunp_e]
    show zpar ((r &&& kunl (kund D j).2.2.2.1) &&& kunx l) = false
    rw [hm _ (kbq.mp b1)]
    refine kunx_p (fun c hc => ?_)
    obtain ⟨b3, b4⟩ := kcd.mp (kall_i.mp b2 c hc)
    obtain ⟨b4, b5⟩ := kcd.mp b4
    have b3 : j < Nat.mod c 32 := kbl.mp b3
    have b4 : Nat.mod c 32 < (gF T).length := kbl.mp b4
    obtain ⟨c', hc', e⟩ := kunm_s b5
    obtain ⟨⟨g, k, hg, hk, e2⟩, -⟩ := kun_c hT hA hD b4 c' hc'
    have e3 : c >>> 5 = gUq T (Nat.mod c 32) g k := e.symm.trans e2
    rw [e3]
    exact hi _ b3 b4 g k hg hk
  have h8 := kunE_s h7 (r &&& kunl (kund D j).2.2.2.1) (fun i hb => by
    rw [Nat.testBit_and, Bool.and_eq_true] at hb
    exact Or.inl ((kunl_t i _).mp hb.2))
  rw [Nat.zero_or] at h8
  unfold kunk at h8
  rw [hF] at h8
  have h9 : cond (Nat.beq (Nat.mod (Nat.mul 2 (kunn (gN T) (gF T).length (kund D j).1 (kund D j).2.2.1 (r &&& kunl (kund D j).2.2.2.1))) (kunN (gN T) (kund D j).2.2.1)) 0) (kunL (kund D j).2.2.2.2.1 (r &&& kunl (kund D j).2.2.2.1)) (cond (kunL (kund D j).2.2.2.2.1 (r &&& kunl (kund D j).2.2.2.1)) false true) = true := h8
  rw [hU, hL]
  rw [kif] at h9
  constructor
  · intro q
    rw [if_pos q] at h9
    exact h9
  · intro q
    by_cases e : Nat.mod (Nat.mul 2 (kunn (gN T) (gF T).length (kund D j).1 (kund D j).2.2.1 (r &&& kunl (kund D j).2.2.2.1))) (kunN (gN T) (kund D j).2.2.1) = 0
    · exact e
    · rw [if_neg e, knot, q] at h9
      cases h9
theorem gun_a (hT : T ∈ gTabs) (hA : gGr T) (hD : kunT T.1 T.2.1 T.2.2.1 T.2.2.2.1 D = true) : ∀ d j, (gF T).length - j = d → ((∀ i, j ≤ i → i < (gF T).length → zyR T i r) ↔ ∀ i, j ≤ i → i < (gF T).length → zyC T i r)
  | 0, j, hd => ⟨fun _ i h1 h2 => absurd h2 (by omega), fun _ i h1 h2 => absurd h2 (by omega)⟩
  | d + 1, j, hd => by
    have ih := gun_a hT hA hD d (j + 1) (by omega)
    constructor
    · intro h i h1 h2
      have h3 := ih.mp (fun i' h4 h5 => h i' (by omega) h5)
      by_cases e : i = j
      · rw [e]
        rw [e] at h2
        exact (gun_j hT hA hD h2 (fun i' h4 h5 => h3 i' (by omega) h5)).mp (h j (Nat.le_refl _) h2)
      · exact h3 i (by omega) h2
    · intro h i h1 h2
      by_cases e : i = j
      · rw [e]
        rw [e] at h2
        exact (gun_j hT hA hD h2 (fun i' h4 h5 => h i' (by omega) h5)).mpr (h j (Nat.le_refl _) h2)
      · exact ih.mpr (fun i' h4 h5 => h i' (by omega) h5) i (by omega) h2
end KUNT
def gUD_0 : List zUD := [(0, 0, 1, [0], [], [])]
def gUD_1 : List zUD := [(32, 0, 3, [0, 1], [], []), (33, 0, 1, [0], [], [])]
def gUD_2 : List zUD := [(1056, 0, 7, [0, 1], [3105], []), (1057, 0, 1, [0], [], [])]
def gUD_3 : List zUD := [(100384, 0, 15, [1, 2, 3, 4], [30754], []), (135201, 0, 5, [0, 3], [], []), (133250, 0, 3, [0, 2], [], []), (102531, 0, 3, [0, 1], [], []), (135300, 0, 1, [0], [], [])]
def gUD_4 : List zUD := [(67616, 0, 15, [0, 1, 2], [6178], []), (67617, 0, 5, [0, 1], [], []), (67650, 0, 1, [0], [], [])]
def gUD_5 : List zUD := [(66624, 0, 15, [0, 1, 2], [6177], []), (66625, 0, 3, [0, 1], [], []), (67650, 0, 1, [0], [], [])]
def gUD_6 : List zUD := [(34880, 0, 15, [0, 1, 2], [6177], []), (34881, 0, 3, [0, 1], [], []), (67650, 0, 1, [0], [], [])]
def gUD_7 : List zUD := [(1082400, 0, 31, [0, 1], [3105], []), (1082401, 0, 1, [0], [], [])]
def gUD_8 : List zUD := [(1082400, 0, 31, [0, 1], [3105], []), (1082401, 0, 1, [0], [], [])]
def gUD_9 : List zUD := [(1082400, 0, 31, [0, 1], [3105], []), (1082401, 0, 1, [0], [], [])]
def gUD_10 : List zUD := [(1082400, 0, 31, [0, 1], [3105], []), (1082401, 0, 1, [0], [], [])]
def gUD_11 : List zUD := [(1082400, 0, 31, [0, 1], [3105], []), (1082401, 0, 1, [0], [], [])]
def gUD_12 : List zUD := [(1082400, 0, 31, [0, 1], [3105], []), (1082401, 0, 1, [0], [], [])]
def gUD_13 : List zUD := [(102860832, 0, 63, [0, 1, 2, 3], [10306, 15394], [[161]]), (103910433, 0, 21, [0, 2], [5186], []), (102860898, 0, 3, [0, 1], [], []), (103910499, 0, 1, [0], [], [])]
def gUD_14 : List zUD := [(102829088, 0, 63, [0, 1, 2, 3], [10306, 15394], [[161]]), (103910433, 0, 21, [0, 2], [5186], []), (102829154, 0, 3, [0, 1], [], []), (103910499, 0, 1, [0], [], [])]
def gUD_15 : List zUD := [(70323232, 0, 63, [0, 1, 2, 3], [10306, 15394], [[161]]), (103910433, 0, 21, [0, 2], [5186], []), (70323298, 0, 3, [0, 1], [], []), (103910499, 0, 1, [0], [], [])]
def gUD_16 : List zUD := [(70354976, 0, 63, [0, 1, 2, 3], [10306, 15394], [[161]]), (103910433, 0, 21, [0, 2], [5186], []), (70355042, 0, 3, [0, 1], [], []), (103910499, 0, 1, [0], [], [])]
def gUD_17 : List zUD := [(35718176, 67112960, 63, [1, 2, 3], [10274], []), (1073740833, 0, 1, [2], [], []), (102829154, 0, 3, [0, 1], [], []), (103910499, 0, 1, [0], [], [])]
def gUD_18 : List zUD := [(68192288, 2228224, 63, [1, 2, 3], [10274], []), (1073740833, 0, 1, [2], [], []), (70355042, 0, 3, [0, 1], [], []), (103910499, 0, 1, [0], [], [])]
def gUD_19 : List zUD := [(68224032, 2101248, 63, [1, 2, 3], [10274], []), (1073740833, 0, 1, [2], [], []), (70323298, 0, 3, [0, 1], [], []), (103910499, 0, 1, [0], [], [])]
def gUD_20 : List zUD := [(35686432, 67239936, 63, [1, 2, 3], [10274], []), (1073740833, 0, 1, [2], [], []), (102860898, 0, 3, [0, 1], [], []), (103910499, 0, 1, [0], [], [])]
def gUD_21 : List zUD := [(35718176, 67111936, 63, [1, 2, 3], [10274], []), (1073740833, 0, 1, [2], [], []), (102829154, 0, 3, [0, 1], [], []), (103910499, 0, 1, [0], [], [])]
def gUD_22 : List zUD := [(68192288, 3211264, 63, [1, 2, 3], [10274], []), (1073740833, 0, 1, [2], [], []), (70355042, 0, 3, [0, 1], [], []), (103910499, 0, 1, [0], [], [])]
def gUD_23 : List zUD := [(103876640, 0, 63, [0, 1, 2, 3], [10306, 15394], [[161]]), (103910433, 0, 13, [0, 2], [5186], []), (103876706, 0, 3, [0, 1], [], []), (103910499, 0, 1, [0], [], [])]
def gUD_24 : List zUD := [(102829088, 0, 63, [0, 1, 2, 3], [10306, 15394], [[161]]), (103910433, 0, 13, [0, 2], [5186], []), (102829154, 0, 3, [0, 1], [], []), (103910499, 0, 1, [0], [], [])]
def gUD_25 : List zUD := [(69307424, 0, 63, [0, 1, 2, 3], [10306, 15394], [[161]]), (103910433, 0, 13, [0, 2], [5186], []), (69307490, 0, 3, [0, 1], [], []), (103910499, 0, 1, [0], [], [])]
def gUD_26 : List zUD := [(70354976, 0, 63, [0, 1, 2, 3], [10306, 15394], [[161]]), (103910433, 0, 13, [0, 2], [5186], []), (70355042, 0, 3, [0, 1], [], []), (103910499, 0, 1, [0], [], [])]
def gUD_27 : List zUD := [(69239840, 68608, 63, [1, 2, 3], [10274], []), (1073740833, 0, 1, [2], [], []), (69307490, 0, 3, [0, 1], [], []), (103910499, 0, 1, [0], [], [])]
def gUD_28 : List zUD := [(34670624, 70254592, 63, [1, 2, 3], [10274], []), (1073740833, 0, 1, [2], [], []), (103876706, 0, 3, [0, 1], [], []), (103910499, 0, 1, [0], [], [])]
def gUD_29 : List zUD := [(68224032, 2100224, 63, [1, 2, 3], [10274], []), (1073740833, 0, 1, [2], [], []), (70323298, 0, 3, [0, 1], [], []), (103910499, 0, 1, [0], [], [])]
def gUD_30 : List zUD := [(35686432, 100728832, 63, [1, 2, 3], [10274], []), (1073740833, 0, 1, [2], [], []), (102860898, 0, 3, [0, 1], [], []), (103910499, 0, 1, [0], [], [])]
def gUD_31 : List zUD := [(69239840, 68608, 63, [1, 2, 3], [10274], []), (1073740833, 0, 1, [2], [], []), (69307490, 0, 3, [0, 1], [], []), (103910499, 0, 1, [0], [], [])]
def gUD_32 : List zUD := [(34670624, 102760448, 63, [1, 2, 3], [10274], []), (1073740833, 0, 1, [2], [], []), (103876706, 0, 3, [0, 1], [], []), (103910499, 0, 1, [0], [], [])]
def gUD_33 : List zUD := [(103876640, 0, 63, [0, 1, 2, 3], [10306, 15394], [[161]]), (103910433, 0, 13, [0, 2], [5186], []), (103876706, 0, 3, [0, 1], [], []), (103910499, 0, 1, [0], [], [])]
def gUD_34 : List zUD := [(70323232, 0, 63, [0, 1, 2, 3], [10306, 15394], [[161]]), (103910433, 0, 13, [0, 2], [5186], []), (70323298, 0, 3, [0, 1], [], []), (103910499, 0, 1, [0], [], [])]
def gUD_35 : List zUD := [(69307424, 0, 63, [0, 1, 2, 3], [10306, 15394], [[161]]), (103910433, 0, 13, [0, 2], [5186], []), (69307490, 0, 3, [0, 1], [], []), (103910499, 0, 1, [0], [], [])]
def gUD_36 : List zUD := [(102860832, 0, 63, [0, 1, 2, 3], [10306, 15394], [[161]]), (103910433, 0, 13, [0, 2], [5186], []), (102860898, 0, 3, [0, 1], [], []), (103910499, 0, 1, [0], [], [])]
def gUD_37 : List zUD := [(103843904, 0, 63, [0, 1, 2, 3], [10273, 15395], [[161]]), (103844961, 0, 7, [0, 2], [5153], []), (103909442, 0, 9, [0, 1], [], []), (103910499, 0, 1, [0], [], [])]
def gUD_38 : List zUD := [(101812288, 0, 63, [0, 1, 2, 3], [10273, 15395], [[161]]), (101813345, 0, 7, [0, 2], [5153], []), (103909442, 0, 9, [0, 1], [], []), (103910499, 0, 1, [0], [], [])]
def gUD_39 : List zUD := [(36800576, 0, 63, [0, 1, 2, 3], [10273, 15396], [[161]]), (36801633, 0, 7, [0, 2], [5153], []), (103909442, 0, 9, [0, 1], [], []), (103910499, 0, 1, [0], [], [])]
def gUD_40 : List zUD := [(34637888, 68157440, 63, [1, 2, 3], [10273], []), (1072758753, 0, 1, [2], [], []), (103909442, 0, 9, [0, 1], [], []), (103910499, 0, 1, [0], [], [])]
def gUD_41 : List zUD := [(34637888, 35651584, 63, [1, 2, 3], [10273], []), (1072758753, 0, 1, [2], [], []), (103909442, 0, 9, [0, 1], [], []), (103910499, 0, 1, [0], [], [])]
def gUD_42 : List zUD := [(103843904, 0, 63, [0, 1, 2, 3], [10273, 15395], [[161]]), (103844961, 0, 7, [0, 2], [5153], []), (103909442, 0, 9, [0, 1], [], []), (103910499, 0, 1, [0], [], [])]
def gUD_43 : List zUD := [(36800576, 0, 63, [0, 1, 2, 3], [10273, 15395], [[161]]), (36801633, 0, 7, [0, 2], [5153], []), (103909442, 0, 9, [0, 1], [], []), (103910499, 0, 1, [0], [], [])]
def gUD_44 : List zUD := [(101812288, 0, 63, [0, 1, 2, 3], [10273, 15396], [[161]]), (101813345, 0, 7, [0, 2], [5153], []), (103909442, 0, 9, [0, 1], [], []), (103910499, 0, 1, [0], [], [])]
def gUD_45 : List zUD := [(102795360, 0, 63, [0, 1, 2, 3], [10273, 15394], [[161]]), (103844961, 0, 7, [0, 2], [5153], []), (102860898, 0, 3, [0, 1], [], []), (103910499, 0, 1, [0], [], [])]
def gUD_46 : List zUD := [(70289504, 0, 63, [0, 1, 2, 3], [10273, 15394], [[161]]), (103844961, 0, 7, [0, 2], [5153], []), (70355042, 0, 3, [0, 1], [], []), (103910499, 0, 1, [0], [], [])]
def gUD_47 : List zUD := [(68257888, 0, 63, [0, 1, 2, 3], [10273, 15394], [[161]]), (101813345, 0, 7, [0, 2], [5153], []), (70355042, 0, 3, [0, 1], [], []), (103910499, 0, 1, [0], [], [])]
def gUD_48 : List zUD := [(101779552, 0, 63, [0, 1, 2, 3], [10273, 15394], [[161]]), (101813345, 0, 7, [0, 2], [5153], []), (103876706, 0, 3, [0, 1], [], []), (103910499, 0, 1, [0], [], [])]
def gUc_A : List (List zUD) := [gUD_0, gUD_1, gUD_2, gUD_3, gUD_4, gUD_5, gUD_6, gUD_7, gUD_8, gUD_9, gUD_10, gUD_11, gUD_12, gUD_13, gUD_14, gUD_15, gUD_16, gUD_17, gUD_18, gUD_19, gUD_20, gUD_21, gUD_22, gUD_23, gUD_24, gUD_25, gUD_26, gUD_27, gUD_28, gUD_29, gUD_30, gUD_31, gUD_32, gUD_33, gUD_34, gUD_35, gUD_36, gUD_37, gUD_38, gUD_39, gUD_40, gUD_41, gUD_42, gUD_43, gUD_44, gUD_45, gUD_46, gUD_47, gUD_48]
theorem kun_A : kunZ gTc_A gUc_A = true := by decide +kernel
def gUD_49 : List zUD := [(35752032, 0, 63, [0, 1, 2, 3], [10273, 15394], [[161]]), (36801633, 0, 7, [0, 2], [5153], []), (102860898, 0, 3, [0, 1], [], []), (103910499, 0, 1, [0], [], [])]
def gUD_50 : List zUD := [(36767840, 0, 63, [0, 1, 2, 3], [10273, 15394], [[161]]), (36801633, 0, 7, [0, 2], [5153], []), (103876706, 0, 3, [0, 1], [], []), (103910499, 0, 1, [0], [], [])]
def gUD_51 : List zUD := [(68226144, 0, 63, [0, 1, 2, 3], [10273, 15395], [[161]]), (101813345, 0, 7, [0, 2], [5153], []), (70323298, 0, 3, [0, 1], [], []), (103910499, 0, 1, [0], [], [])]
def gUD_52 : List zUD := [(35720288, 0, 63, [0, 1, 2, 3], [10273, 15395], [[161]]), (36801633, 0, 7, [0, 2], [5153], []), (102829154, 0, 3, [0, 1], [], []), (103910499, 0, 1, [0], [], [])]
def gUD_53 : List zUD := [(103875648, 0, 63, [0, 1, 2, 3], [10273, 15394], [[161]]), (103908449, 0, 11, [0, 2], [5153], []), (103877698, 0, 5, [0, 1], [], []), (103910499, 0, 1, [0], [], [])]
def gUD_54 : List zUD := [(101780544, 0, 63, [0, 1, 2, 3], [10273, 15394], [[161]]), (101813345, 0, 7, [0, 2], [5153], []), (103877698, 0, 5, [0, 1], [], []), (103910499, 0, 1, [0], [], [])]
def gUD_55 : List zUD := [(36768832, 0, 63, [0, 1, 2, 3], [10273, 15396], [[161]]), (36801633, 0, 11, [0, 2], [5153], []), (103877698, 0, 5, [0, 1], [], []), (103910499, 0, 1, [0], [], [])]
def gUD_56 : List zUD := [(34669632, 101711872, 63, [1, 2, 3], [10273], []), (1073711073, 0, 1, [2], [], []), (103877698, 0, 5, [0, 1], [], []), (103910499, 0, 1, [0], [], [])]
def gUD_57 : List zUD := [(102827104, 0, 63, [0, 1, 2, 3], [10273, 15394], [[161]]), (103908449, 0, 11, [0, 2], [5153], []), (102829154, 0, 3, [0, 1], [], []), (103910499, 0, 1, [0], [], [])]
def gUD_58 : List zUD := [(36767840, 0, 63, [0, 1, 2, 3], [10273, 15395], [[161]]), (36801633, 0, 11, [0, 2], [5153], []), (103876706, 0, 3, [0, 1], [], []), (103910499, 0, 1, [0], [], [])]
def gUD_59 : List zUD := [(34669632, 36700160, 63, [1, 2, 3], [10273], []), (1073711073, 0, 1, [2], [], []), (103877698, 0, 5, [0, 1], [], []), (103910499, 0, 1, [0], [], [])]
def gUD_60 : List zUD := [(103875648, 0, 63, [0, 1, 2, 3], [10273, 15394], [[161]]), (103908449, 0, 11, [0, 2], [5153], []), (103877698, 0, 5, [0, 1], [], []), (103910499, 0, 1, [0], [], [])]
def gUD_61 : List zUD := [(36768832, 0, 63, [0, 1, 2, 3], [10273, 15394], [[161]]), (36801633, 0, 7, [0, 2], [5153], []), (103877698, 0, 5, [0, 1], [], []), (103910499, 0, 1, [0], [], [])]
def gUD_62 : List zUD := [(101780544, 0, 63, [0, 1, 2, 3], [10273, 15396], [[161]]), (101813345, 0, 11, [0, 2], [5153], []), (103877698, 0, 5, [0, 1], [], []), (103910499, 0, 1, [0], [], [])]
def gUD_63 : List zUD := [(70321248, 0, 63, [0, 1, 2, 3], [10273, 15394], [[161]]), (103908449, 0, 11, [0, 2], [5153], []), (70323298, 0, 3, [0, 1], [], []), (103910499, 0, 1, [0], [], [])]
def gUD_64 : List zUD := [(101779552, 0, 63, [0, 1, 2, 3], [10273, 15395], [[161]]), (101813345, 0, 11, [0, 2], [5153], []), (103876706, 0, 3, [0, 1], [], []), (103910499, 0, 1, [0], [], [])]
def gUD_65 : List zUD := [(35720288, 0, 63, [0, 1, 2, 3], [10273, 15396], [[161]]), (36801633, 0, 7, [0, 2], [5153], []), (102829154, 0, 3, [0, 1], [], []), (103910499, 0, 1, [0], [], [])]
def gUD_66 : List zUD := [(69241952, 0, 63, [0, 1, 2, 3], [10273, 15395], [[161]]), (103844961, 0, 7, [0, 2], [5153], []), (69307490, 0, 3, [0, 1], [], []), (103910499, 0, 1, [0], [], [])]
def gUD_67 : List zUD := [(35752032, 0, 63, [0, 1, 2, 3], [10273, 15396], [[161]]), (36801633, 0, 11, [0, 2], [5153], []), (102860898, 0, 3, [0, 1], [], []), (103910499, 0, 1, [0], [], [])]
def gUD_68 : List zUD := [(102859840, 0, 63, [0, 1, 2, 3], [10273, 15394], [[161]]), (103908449, 0, 19, [0, 2], [5153], []), (102861890, 0, 5, [0, 1], [], []), (103910499, 0, 1, [0], [], [])]
def gUD_69 : List zUD := [(102796352, 0, 63, [0, 1, 2, 3], [10273, 15394], [[161]]), (103844961, 0, 7, [0, 2], [5153], []), (102861890, 0, 5, [0, 1], [], []), (103910499, 0, 1, [0], [], [])]
def gUD_70 : List zUD := [(35753024, 0, 63, [0, 1, 2, 3], [10273, 15395], [[161]]), (36801633, 0, 11, [0, 2], [5153], []), (102861890, 0, 5, [0, 1], [], []), (103910499, 0, 1, [0], [], [])]
def gUD_71 : List zUD := [(35685440, 100696064, 63, [1, 2, 3], [10273], []), (1073711073, 0, 1, [2], [], []), (102861890, 0, 5, [0, 1], [], []), (103910499, 0, 1, [0], [], [])]
def gUD_72 : List zUD := [(102827104, 0, 63, [0, 1, 2, 3], [10273, 15394], [[161]]), (103908449, 0, 19, [0, 2], [5153], []), (102829154, 0, 3, [0, 1], [], []), (103910499, 0, 1, [0], [], [])]
def gUD_73 : List zUD := [(69305440, 0, 63, [0, 1, 2, 3], [10273, 15394], [[161]]), (103908449, 0, 11, [0, 2], [5153], []), (69307490, 0, 3, [0, 1], [], []), (103910499, 0, 1, [0], [], [])]
def gUD_74 : List zUD := [(35685440, 33685504, 63, [1, 2, 3], [10273], []), (1073711073, 0, 1, [2], [], []), (102861890, 0, 5, [0, 1], [], []), (103910499, 0, 1, [0], [], [])]
def gUD_75 : List zUD := [(102859840, 0, 63, [0, 1, 2, 3], [10273, 15394], [[161]]), (103908449, 0, 11, [0, 2], [5153], []), (102861890, 0, 5, [0, 1], [], []), (103910499, 0, 1, [0], [], [])]
def gUD_76 : List zUD := [(35753024, 0, 63, [0, 1, 2, 3], [10273, 15394], [[161]]), (36801633, 0, 7, [0, 2], [5153], []), (102861890, 0, 5, [0, 1], [], []), (103910499, 0, 1, [0], [], [])]
def gUD_77 : List zUD := [(102796352, 0, 63, [0, 1, 2, 3], [10273, 15395], [[161]]), (103844961, 0, 19, [0, 2], [5153], []), (102861890, 0, 5, [0, 1], [], []), (103910499, 0, 1, [0], [], [])]
def gUD_78 : List zUD := [(102795360, 0, 63, [0, 1, 2, 3], [10273, 15395], [[161]]), (103844961, 0, 19, [0, 2], [5153], []), (102860898, 0, 3, [0, 1], [], []), (103910499, 0, 1, [0], [], [])]
def gUD_79 : List zUD := [(68226144, 0, 63, [0, 1, 2, 3], [10273, 15396], [[161]]), (101813345, 0, 7, [0, 2], [5153], []), (70323298, 0, 3, [0, 1], [], []), (103910499, 0, 1, [0], [], [])]
def gUD_80 : List zUD := [(69241952, 0, 63, [0, 1, 2, 3], [10273, 15395], [[161]]), (103844961, 0, 7, [0, 2], [5153], []), (69307490, 0, 3, [0, 1], [], []), (103910499, 0, 1, [0], [], [])]
def gUD_81 : List zUD := [(68257888, 0, 63, [0, 1, 2, 3], [10273, 15396], [[161]]), (101813345, 0, 11, [0, 2], [5153], []), (70355042, 0, 3, [0, 1], [], []), (103910499, 0, 1, [0], [], [])]
def gUD_82 : List zUD := [(70321248, 0, 63, [0, 1, 2, 3], [10273, 15394], [[161]]), (103908449, 0, 19, [0, 2], [5153], []), (70323298, 0, 3, [0, 1], [], []), (103910499, 0, 1, [0], [], [])]
def gUD_83 : List zUD := [(70353984, 0, 63, [0, 1, 2, 3], [10273, 15394], [[161]]), (103908449, 0, 19, [0, 2], [5153], []), (70356034, 0, 5, [0, 1], [], []), (103910499, 0, 1, [0], [], [])]
def gUD_84 : List zUD := [(70290496, 0, 63, [0, 1, 2, 3], [10273, 15394], [[161]]), (103844961, 0, 7, [0, 2], [5153], []), (70356034, 0, 5, [0, 1], [], []), (103910499, 0, 1, [0], [], [])]
def gUD_85 : List zUD := [(68258880, 0, 63, [0, 1, 2, 3], [10273, 15395], [[161]]), (101813345, 0, 11, [0, 2], [5153], []), (70356034, 0, 5, [0, 1], [], []), (103910499, 0, 1, [0], [], [])]
def gUD_86 : List zUD := [(68191296, 3178496, 63, [1, 2, 3], [10273], []), (1073711073, 0, 1, [2], [], []), (70356034, 0, 5, [0, 1], [], []), (103910499, 0, 1, [0], [], [])]
def gUD_87 : List zUD := [(69305440, 0, 63, [0, 1, 2, 3], [10273, 15394], [[161]]), (103908449, 0, 11, [0, 2], [5153], []), (69307490, 0, 3, [0, 1], [], []), (103910499, 0, 1, [0], [], [])]
def gUD_88 : List zUD := [(70289504, 0, 63, [0, 1, 2, 3], [10273, 15395], [[161]]), (103844961, 0, 19, [0, 2], [5153], []), (70355042, 0, 3, [0, 1], [], []), (103910499, 0, 1, [0], [], [])]
def gUD_89 : List zUD := [(68191296, 1179648, 63, [1, 2, 3], [10273], []), (1073711073, 0, 1, [2], [], []), (70356034, 0, 5, [0, 1], [], []), (103910499, 0, 1, [0], [], [])]
def gUD_90 : List zUD := [(70353984, 0, 63, [0, 1, 2, 3], [10273, 15394], [[161]]), (103908449, 0, 11, [0, 2], [5153], []), (70356034, 0, 5, [0, 1], [], []), (103910499, 0, 1, [0], [], [])]
def gUD_91 : List zUD := [(68258880, 0, 63, [0, 1, 2, 3], [10273, 15394], [[161]]), (101813345, 0, 7, [0, 2], [5153], []), (70356034, 0, 5, [0, 1], [], []), (103910499, 0, 1, [0], [], [])]
def gUD_92 : List zUD := [(70290496, 0, 63, [0, 1, 2, 3], [10273, 15395], [[161]]), (103844961, 0, 19, [0, 2], [5153], []), (70356034, 0, 5, [0, 1], [], []), (103910499, 0, 1, [0], [], [])]
def gUD_93 : List zUD := [(247132686368, 0, 255, [8, 9, 10, 11, 12, 13, 14, 15], [39321701, 40108132, 43253829, 44564548, 51118118, 53477412, 62914594], [[267394, 135939, 68868, 35461], [530497, 135939, 68868, 17990], [68868, 35461, 17990, 8647]]), (496380420129, 0, 85, [1, 6, 7, 14], [16975940], []), (457860974850, 0, 51, [2, 5, 7, 13], [8556580], []), (424509808899, 0, 51, [3, 4, 7, 12], [4349988], []), (423360866596, 0, 15, [3, 5, 6, 11], [2203682], []), (458665342245, 0, 15, [2, 4, 6, 10], [1134626], []), (487858743750, 0, 15, [1, 4, 5, 9], [575522], []), (255999751623, 0, 15, [1, 2, 3, 8], [276514], []), (532021518600, 0, 17, [0, 7], [], []), (531814137129, 0, 5, [0, 6], [], []), (526647798250, 0, 3, [0, 5], [], []), (527592439275, 0, 3, [0, 4], [], []), (428939296236, 0, 3, [0, 3], [], []), (463235167725, 0, 3, [0, 2], [], []), (496588275150, 0, 5, [0, 1], [], []), (532021755375, 0, 1, [0], [], [])]
def gUD_94 : List zUD := [(211733809184, 0, 255, [1, 2, 4, 5, 6, 7], [153700, 163908, 202788, 245794], [[2305, 1474], [1474, 771]]), (248276717601, 0, 85, [0, 3, 6], [73796], []), (211733842050, 0, 51, [1, 2, 3, 5], [47140], []), (248276684931, 0, 51, [0, 3, 4], [24612], []), (248276717700, 0, 17, [0, 3], [], []), (246127236325, 0, 3, [0, 2], [], []), (213883525350, 0, 3, [0, 1], [], []), (248276819175, 0, 1, [0], [], [])]
def gUD_95 : List zUD := [(108618908704, 34359742464, 255, [2, 4, 5, 6, 7], [163874, 217124], []), (1099510714401, 0, 5, [3, 6], [], []), (211701272706, 0, 51, [1, 2, 3, 5], [47140], []), (240487989219, 0, 9, [1, 4], [], []), (248276717700, 0, 17, [0, 3], [], []), (246062161125, 0, 3, [0, 2], [], []), (213915999462, 0, 3, [0, 1], [], []), (248276819175, 0, 1, [0], [], [])]
def gUD_96 : List zUD := [(209584162848, 1073872896, 255, [1, 4, 5, 6, 7], [163874, 215076], []), (1099510714401, 0, 5, [3, 6], [], []), (211733842050, 0, 51, [1, 2, 3, 5], [47140], []), (1071564953571, 0, 5, [2, 4], [], []), (248276717700, 0, 17, [0, 3], [], []), (246127236325, 0, 3, [0, 2], [], []), (213883525350, 0, 3, [0, 1], [], []), (248276819175, 0, 1, [0], [], [])]
def gUc_B : List (List zUD) := [gUD_49, gUD_50, gUD_51, gUD_52, gUD_53, gUD_54, gUD_55, gUD_56, gUD_57, gUD_58, gUD_59, gUD_60, gUD_61, gUD_62, gUD_63, gUD_64, gUD_65, gUD_66, gUD_67, gUD_68, gUD_69, gUD_70, gUD_71, gUD_72, gUD_73, gUD_74, gUD_75, gUD_76, gUD_77, gUD_78, gUD_79, gUD_80, gUD_81, gUD_82, gUD_83, gUD_84, gUD_85, gUD_86, gUD_87, gUD_88, gUD_89, gUD_90, gUD_91, gUD_92, gUD_93, gUD_94, gUD_95, gUD_96]
theorem kun_B : kunZ gTc_B gUc_B = true := by decide +kernel
def gUD_97 : List zUD := [(108553865248, 34359869440, 255, [2, 4, 5, 6, 7], [163874, 217124], []), (1099510714401, 0, 5, [3, 6], [], []), (211733842050, 0, 51, [1, 2, 3, 5], [47140], []), (239578618851, 0, 5, [1, 4], [], []), (248276717700, 0, 17, [0, 3], [], []), (246127236325, 0, 3, [0, 2], [], []), (213883525350, 0, 3, [0, 1], [], []), (248276819175, 0, 1, [0], [], [])]
def gUD_98 : List zUD := [(212704757792, 67239936, 255, [1, 4, 5, 6, 7], [182340, 196642], []), (212774031393, 0, 85, [1, 2, 3, 6], [79940], []), (1099510712450, 0, 3, [3, 5], [], []), (1098609851555, 0, 3, [2, 4], [], []), (248276717700, 0, 17, [0, 3], [], []), (248207613093, 0, 5, [0, 2], [], []), (212843338950, 0, 5, [0, 1], [], []), (248276819175, 0, 1, [0], [], [])]
def gUD_99 : List zUD := [(212703776800, 0, 255, [1, 3, 4, 5, 6, 7], [157765, 174148, 196642, 245796], [[1154, 643]]), (212774031393, 0, 85, [1, 2, 3, 6], [79940], []), (248204467362, 0, 15, [0, 2, 5], [36898], []), (248140504227, 0, 15, [0, 2, 4], [20514], []), (248276717700, 0, 17, [0, 3], [], []), (248207613093, 0, 5, [0, 2], [], []), (212843338950, 0, 5, [0, 1], [], []), (248276819175, 0, 1, [0], [], [])]
def gUD_100 : List zUD := [(106369781792, 68786585600, 255, [3, 4, 5, 6, 7], [188484, 196642], []), (212774031393, 0, 85, [1, 2, 3, 6], [79940], []), (1098608802978, 0, 3, [2, 5], [], []), (210453396675, 0, 3, [1, 4], [], []), (248276717700, 0, 17, [0, 3], [], []), (248207613093, 0, 5, [0, 2], [], []), (212843338950, 0, 5, [0, 1], [], []), (248276819175, 0, 1, [0], [], [])]
def gUD_101 : List zUD := [(211630101536, 0, 255, [1, 2, 4, 5, 6, 7], [153667, 163906, 202786, 245796], [[2305, 1474], [1474, 771]]), (248173009953, 0, 85, [0, 3, 6], [73794], []), (211663656066, 0, 15, [1, 2, 3, 5], [47138], []), (248139455619, 0, 15, [0, 3, 4], [24610], []), (248173010052, 0, 5, [0, 3], [], []), (246127236325, 0, 3, [0, 2], [], []), (213915999462, 0, 3, [0, 1], [], []), (248276819175, 0, 1, [0], [], [])]
def gUD_102 : List zUD := [(105398833184, 0, 255, [2, 3, 4, 5, 6, 7], [159811, 163906, 208930, 245798], [[2113, 1474], [1474, 579]]), (212843338785, 0, 85, [0, 1, 6], [67650], []), (208478048450, 0, 15, [1, 2, 3, 5], [47138], []), (109764123843, 0, 15, [0, 1, 4], [18466], []), (245052444900, 0, 3, [0, 3], [], []), (246062161125, 0, 3, [0, 2], [], []), (212843338950, 0, 5, [0, 1], [], []), (248276819175, 0, 1, [0], [], [])]
def gUD_103 : List zUD := [(104224393248, 2181038080, 255, [3, 4, 5, 6, 7], [147494, 237602], []), (213674621985, 0, 65, [1, 6], [], []), (205285985250, 0, 33, [2, 5], [], []), (109693768899, 0, 15, [1, 2, 3, 4], [30754], []), (145194360036, 0, 3, [0, 3], [], []), (179490231525, 0, 3, [0, 2], [], []), (212843338950, 0, 5, [0, 1], [], []), (248276819175, 0, 1, [0], [], [])]
def gUD_104 : List zUD := [(37750999072, 68720525312, 255, [2, 4, 5, 6, 7], [147494, 233506], []), (213674621985, 0, 65, [1, 6], [], []), (1070492257250, 0, 17, [3, 5], [], []), (209551790275, 0, 15, [1, 2, 3, 4], [30754], []), (245052444900, 0, 3, [0, 3], [], []), (246062161125, 0, 3, [0, 2], [], []), (212843338950, 0, 5, [0, 1], [], []), (248276819175, 0, 1, [0], [], [])]
def gUD_105 : List zUD := [(37652336672, 68753031168, 255, [3, 4, 5, 6, 7], [147494, 237602], []), (213674621985, 0, 65, [1, 6], [], []), (1070720974818, 0, 33, [2, 5], [], []), (209551790275, 0, 15, [1, 2, 3, 4], [30754], []), (245052444900, 0, 3, [0, 3], [], []), (246062161125, 0, 3, [0, 2], [], []), (212843338950, 0, 5, [0, 1], [], []), (248276819175, 0, 1, [0], [], [])]
def gUD_106 : List zUD := [(74190063648, 34361835520, 255, [2, 4, 5, 6, 7], [147492, 233506], []), (1098577345569, 0, 17, [3, 6], [], []), (239679278050, 0, 33, [1, 5], [], []), (211632167043, 0, 15, [1, 2, 3, 4], [30754], []), (248173010052, 0, 5, [0, 3], [], []), (246062161125, 0, 3, [0, 2], [], []), (213883525350, 0, 3, [0, 1], [], []), (248276819175, 0, 1, [0], [], [])]
def gUD_107 : List zUD := [(208342812704, 1140850688, 255, [1, 4, 5, 6, 7], [147492, 231458], []), (1098577345569, 0, 17, [3, 6], [], []), (1071567047650, 0, 17, [2, 5], [], []), (211664704643, 0, 15, [1, 2, 3, 4], [30754], []), (248173010052, 0, 5, [0, 3], [], []), (246127236325, 0, 3, [0, 2], [], []), (213915999462, 0, 3, [0, 1], [], []), (248276819175, 0, 1, [0], [], [])]
def gUD_108 : List zUD := [(74124956704, 34426847232, 255, [2, 4, 5, 6, 7], [147492, 233506], []), (1098577345569, 0, 17, [3, 6], [], []), (240491003874, 0, 17, [1, 5], [], []), (211664704643, 0, 15, [1, 2, 3, 4], [30754], []), (248173010052, 0, 5, [0, 3], [], []), (246127236325, 0, 3, [0, 2], [], []), (213915999462, 0, 3, [0, 1], [], []), (248276819175, 0, 1, [0], [], [])]
def gUD_109 : List zUD := [(108618908704, 34359742464, 255, [2, 4, 5, 6, 7], [163874, 217124], []), (1099510714401, 0, 5, [3, 6], [], []), (211701272706, 0, 51, [1, 2, 3, 5], [47140], []), (240487989219, 0, 9, [1, 4], [], []), (248276717700, 0, 17, [0, 3], [], []), (246062161125, 0, 3, [0, 2], [], []), (213915999462, 0, 3, [0, 1], [], []), (248276819175, 0, 1, [0], [], [])]
def gUD_110 : List zUD := [(209584162848, 1073872896, 255, [1, 4, 5, 6, 7], [163874, 215076], []), (1099510714401, 0, 5, [3, 6], [], []), (211733842050, 0, 51, [1, 2, 3, 5], [47140], []), (1071564953571, 0, 5, [2, 4], [], []), (248276717700, 0, 17, [0, 3], [], []), (246127236325, 0, 3, [0, 2], [], []), (213883525350, 0, 3, [0, 1], [], []), (248276819175, 0, 1, [0], [], [])]
def gUD_111 : List zUD := [(209583211648, 0, 255, [1, 3, 4, 5, 6, 7], [157733, 174116, 196641, 245828], [[1154, 643]]), (211733841025, 0, 51, [1, 2, 3, 6], [79908], []), (246124090594, 0, 15, [0, 2, 5], [36897], []), (243979752675, 0, 15, [0, 2, 4], [20513], []), (248276717700, 0, 17, [0, 3], [], []), (246127236325, 0, 3, [0, 2], [], []), (213883525350, 0, 3, [0, 1], [], []), (248276819175, 0, 1, [0], [], [])]
def gUD_112 : List zUD := [(105329591424, 35433480192, 255, [3, 4, 5, 6, 7], [188452, 196641], []), (211733841025, 0, 51, [1, 2, 3, 6], [79908], []), (1071563904994, 0, 5, [2, 5], [], []), (239578618851, 0, 5, [1, 4], [], []), (248276717700, 0, 17, [0, 3], [], []), (246127236325, 0, 3, [0, 2], [], []), (213883525350, 0, 3, [0, 1], [], []), (248276819175, 0, 1, [0], [], [])]
def gUD_113 : List zUD := [(108617830528, 0, 255, [2, 3, 4, 5, 6, 7], [159781, 176164, 196641, 245860], [[1090, 579]]), (211701239937, 0, 51, [1, 2, 3, 6], [79908], []), (213911805154, 0, 15, [0, 1, 5], [34849], []), (110836784355, 0, 15, [0, 1, 4], [18465], []), (248276717700, 0, 17, [0, 3], [], []), (246062161125, 0, 3, [0, 2], [], []), (213915999462, 0, 3, [0, 1], [], []), (248276819175, 0, 1, [0], [], [])]
def gUD_114 : List zUD := [(72043499648, 35433480192, 255, [3, 4, 5, 6, 7], [188452, 196641], []), (211701239937, 0, 51, [1, 2, 3, 6], [79908], []), (240486940642, 0, 9, [1, 5], [], []), (1070653964259, 0, 9, [2, 4], [], []), (248276717700, 0, 17, [0, 3], [], []), (246062161125, 0, 3, [0, 2], [], []), (213915999462, 0, 3, [0, 1], [], []), (248276819175, 0, 1, [0], [], [])]
def gUD_115 : List zUD := [(4503378134048, 0, 511, [1, 2, 3, 4, 5], [34948, 37029, 41059, 47204, 49185, 55332, 59427, 61477], []), (5674898719777, 0, 73, [0, 4], [17507], []), (5671677400226, 0, 7, [0, 3], [9249], []), (5606112138403, 0, 7, [0, 2], [5153], []), (4575386047652, 0, 7, [0, 1], [3105], []), (5674898724005, 0, 1, [0], [], [])]
def gUD_116 : List zUD := [(37453224281120, 140739837173760, 1023, [1, 2, 3], [10274], []), (1125899906841633, 0, 1, [2], [], []), (107824183053410, 0, 3, [0, 1], [], []), (108958055500899, 0, 1, [0], [], [])]
def gUD_117 : List zUD := [(71504798745632, 2336730650624, 1023, [1, 2, 3], [10274], []), (1125899906841633, 0, 1, [2], [], []), (73772608588898, 0, 3, [0, 1], [], []), (108958055500899, 0, 1, [0], [], [])]
def gUD_118 : List zUD := [(71504831251488, 6734510825472, 1023, [1, 2, 3], [10274], []), (1125899906841633, 0, 1, [2], [], []), (73772576083042, 0, 3, [0, 1], [], []), (108958055500899, 0, 1, [0], [], [])]
def gUD_119 : List zUD := [(71504798745632, 2474102493184, 1023, [1, 2, 3], [10274], []), (1125899906841633, 0, 1, [2], [], []), (73772608588898, 0, 3, [0, 1], [], []), (108958055500899, 0, 1, [0], [], [])]
def gUD_120 : List zUD := [(37453256786976, 140746080393216, 1023, [1, 2, 3], [10274], []), (1125899906841633, 0, 1, [2], [], []), (107824150547554, 0, 3, [0, 1], [], []), (108958055500899, 0, 1, [0], [], [])]
def gUD_121 : List zUD := [(37453256786976, 211108388409344, 1023, [1, 2, 3], [10274], []), (1125899906841633, 0, 1, [2], [], []), (107824150547554, 0, 3, [0, 1], [], []), (108958055500899, 0, 1, [0], [], [])]
def gUD_122 : List zUD := [(110553905705879584, 148618787980050432, 4095, [3, 5, 6, 7, 8, 9], [557124, 729157, 827430, 983074], [[8449]]), (185991400705397793, 148618787980050432, 1365, [3, 4, 8], [270404], []), (1152921504605964450, 0, 3, [4, 7], [], []), (1152921504605901987, 0, 3, [4, 6], [], []), (296327390508096708, 0, 15, [1, 2, 3, 5], [47138], []), (1152921504605967525, 0, 1, [4], [], []), (334610188547171526, 0, 5, [0, 3], [], []), (332465145512238375, 0, 3, [0, 2], [], []), (298689248860841256, 0, 3, [0, 1], [], []), (334719146498762025, 0, 1, [0], [], [])]
def gUD_123 : List zUD := [(74382032555246624, 39476935377817600, 4095, [2, 3, 4], [20612, 24610], []), (1152921504605899809, 0, 5, [1, 3], [], []), (1152889618739232738, 0, 1, [2], [], []), (148764065110527075, 0, 273, [0, 1], [3204], []), (148764065110560900, 0, 1, [0], [], [])]
def gUD_124 : List zUD := [(116007516698150944, 144255934162534400, 4095, [2, 5, 6, 7, 8, 9], [557092, 692293, 856102, 983074], [[4226]]), (1152921504605967393, 0, 5, [4, 8], [], []), (188209149011724450, 144255934162534400, 819, [2, 4, 7], [135204], []), (1152921504605901987, 0, 3, [4, 6], [], []), (296327429027536068, 0, 15, [1, 2, 3, 5], [47138], []), (1152921504605967525, 0, 1, [4], [], []), (334610294743803078, 0, 5, [0, 3], [], []), (332465078875233575, 0, 3, [0, 2], [], []), (298689248860841256, 0, 3, [0, 1], [], []), (334719146498762025, 0, 1, [0], [], [])]
def gUD_125 : List zUD := [(40644685549635616, 144255934162534400, 4095, [3, 5, 6, 7, 8, 9], [557094, 696389, 860196, 983074], [[4354]]), (1152921504605967393, 0, 5, [4, 8], [], []), (187082115199961250, 144255934162534400, 819, [3, 4, 7], [139300], []), (1152921504605901987, 0, 3, [4, 6], [], []), (292987009691261188, 0, 15, [1, 2, 3, 5], [47138], []), (1152921504605967525, 0, 1, [4], [], []), (331338045063469350, 0, 3, [0, 3], [], []), (332396909219259687, 0, 3, [0, 2], [], []), (297564414139475208, 0, 5, [0, 1], [], []), (334719146498762025, 0, 1, [0], [], [])]
def gUD_126 : List zUD := [(116007411574212640, 144255934162534400, 4095, [2, 5, 6, 7, 8, 9], [557094, 692293, 856100, 983074], [[4226]]), (1152921504605967393, 0, 5, [4, 8], [], []), (188209149011724450, 144255934162534400, 819, [2, 4, 7], [135204], []), (1152921504605901987, 0, 3, [4, 6], [], []), (296327323903597764, 0, 15, [1, 2, 3, 5], [47138], []), (1152921504605967525, 0, 1, [4], [], []), (334610188547171526, 0, 5, [0, 3], [], []), (332465078875233575, 0, 3, [0, 2], [], []), (298689215607350568, 0, 3, [0, 1], [], []), (334719146498762025, 0, 1, [0], [], [])]
def gUD_127 : List zUD := [(40644756347389984, 144255934162534400, 4095, [3, 5, 6, 7, 8, 9], [557092, 696389, 860198, 983074], [[4354]]), (1152921504605967393, 0, 5, [4, 8], [], []), (187082115199961250, 144255934162534400, 819, [3, 4, 7], [139300], []), (1152921504605901987, 0, 3, [4, 6], [], []), (292987077270935812, 0, 15, [1, 2, 3, 5], [47138], []), (1152921504605967525, 0, 1, [4], [], []), (331338045063469350, 0, 3, [0, 3], [], []), (332396975726241063, 0, 3, [0, 2], [], []), (297564449538352392, 0, 5, [0, 1], [], []), (334719146498762025, 0, 1, [0], [], [])]
def gUD_128 : List zUD := [(116217318334367776, 144121922590867456, 4095, [2, 5, 6, 7, 8, 9], [557092, 692293, 856104, 983074], [[4226]]), (1152921504605967393, 0, 5, [4, 8], [], []), (188277252160653474, 144121922590867456, 243, [2, 4, 7], [135204], []), (1152921504605901987, 0, 3, [4, 6], [], []), (296366972791430340, 0, 15, [1, 2, 3, 5], [47138], []), (1152921504605967525, 0, 1, [4], [], []), (334719040094512326, 0, 5, [0, 3], [], []), (332396975726304551, 0, 3, [0, 2], [], []), (298689248860841256, 0, 3, [0, 1], [], []), (334719146498762025, 0, 1, [0], [], [])]
def gUD_129 : List zUD := [(40674343372556320, 144121922590867456, 4095, [3, 5, 6, 7, 8, 9], [557096, 696389, 860196, 983074], [[4354]]), (1152921504605967393, 0, 5, [4, 8], [], []), (187116166774425762, 144121922590867456, 243, [3, 4, 7], [139300], []), (1152921504605901987, 0, 3, [4, 6], [], []), (292883756529981700, 0, 15, [1, 2, 3, 5], [47138], []), (1152921504605967525, 0, 1, [4], [], []), (331235890340075814, 0, 3, [0, 3], [], []), (332396909219259687, 0, 3, [0, 2], [], []), (297528165689238792, 0, 5, [0, 1], [], []), (334719146498762025, 0, 1, [0], [], [])]
def gUD_130 : List zUD := [(74382032555246624, 39478033815638016, 4095, [2, 3, 4], [20612, 24610], []), (1152921504605899809, 0, 5, [1, 3], [], []), (1152921473437925346, 0, 1, [2], [], []), (148764065110527075, 0, 81, [0, 1], [3204], []), (148764065110560900, 0, 1, [0], [], [])]
def gUD_131 : List zUD := [(80080769277593632, 144121922590867456, 4095, [2, 5, 6, 7, 8, 9], [557094, 626789, 921636, 983074], [[2179]]), (1152921504605967393, 0, 5, [4, 8], [], []), (1152921504605964450, 0, 3, [4, 7], [], []), (188277252160591011, 144121922590867456, 243, [2, 4, 6], [69668], []), (296259220754636996, 0, 15, [1, 2, 3, 5], [47138], []), (1152921504605967525, 0, 1, [4], [], []), (334610188547171526, 0, 5, [0, 3], [], []), (332396975726241063, 0, 3, [0, 2], [], []), (298655164032917800, 0, 3, [0, 1], [], []), (334719146498762025, 0, 1, [0], [], [])]
def gUD_132 : List zUD := [(40780962645248032, 144121922590867456, 4095, [2, 5, 6, 7, 8, 9], [557092, 626789, 921638, 983074], [[2179]]), (1152921504605967393, 0, 5, [4, 8], [], []), (1152921504605964450, 0, 3, [4, 7], [], []), (188277252160591011, 144121922590867456, 243, [2, 4, 6], [69668], []), (292987077270935812, 0, 15, [1, 2, 3, 5], [47138], []), (1152921504605967525, 0, 1, [4], [], []), (331338045063469350, 0, 3, [0, 3], [], []), (332396975726241063, 0, 3, [0, 2], [], []), (297564449538352392, 0, 5, [0, 1], [], []), (334719146498762025, 0, 1, [0], [], [])]
def gUD_133 : List zUD := [(74382032555246624, 73222045672083456, 4095, [2, 3, 4], [20612, 24610], []), (1152921504605899809, 0, 5, [1, 3], [], []), (1152921473437925346, 0, 1, [2], [], []), (148764065110527075, 0, 81, [0, 1], [3204], []), (148764065110560900, 0, 1, [0], [], [])]
def gUD_134 : List zUD := [(290561379592669216, 6896274374656000, 4095, [1, 5, 6, 7, 8, 9], [557092, 624741, 919592, 983074], [[2115]]), (1152921504605967393, 0, 5, [4, 8], [], []), (1152921504605964450, 0, 3, [4, 7], [], []), (294044774301799587, 6896274374656000, 243, [1, 4, 6], [67620], []), (296366972791430340, 0, 15, [1, 2, 3, 5], [47138], []), (1152921504605967525, 0, 1, [4], [], []), (334719040094512326, 0, 5, [0, 3], [], []), (332396975726304551, 0, 3, [0, 2], [], []), (298689248860841256, 0, 3, [0, 1], [], []), (334719146498762025, 0, 1, [0], [], [])]
def gUD_135 : List zUD := [(145280745766750240, 6896274374656000, 4095, [3, 5, 6, 7, 8, 9], [557096, 630885, 925732, 983074], [[2307]]), (1152921504605967393, 0, 5, [4, 8], [], []), (1152921504605964450, 0, 3, [4, 7], [], []), (221984979026023587, 6896274374656000, 243, [3, 4, 6], [73764], []), (153408507523308804, 0, 15, [1, 2, 3, 5], [47138], []), (1152921504605967525, 0, 1, [4], [], []), (226629453584999718, 0, 3, [0, 3], [], []), (262659284716002599, 0, 3, [0, 2], [], []), (297528165689238792, 0, 5, [0, 1], [], []), (334719146498762025, 0, 1, [0], [], [])]
def gUD_136 : List zUD := [(145318092654872608, 6896274374656000, 4095, [3, 5, 6, 7, 8, 9], [557094, 630885, 925732, 983074], [[2307]]), (1152921504605967393, 0, 5, [4, 8], [], []), (1152921504605964450, 0, 3, [4, 7], [], []), (221984979026023587, 6896274374656000, 243, [3, 4, 6], [73764], []), (153375554386730244, 0, 15, [1, 2, 3, 5], [47138], []), (1152921504605967525, 0, 1, [4], [], []), (226629453584999718, 0, 3, [0, 3], [], []), (262591181567073575, 0, 3, [0, 2], [], []), (297564414139475208, 0, 5, [0, 1], [], []), (334719146498762025, 0, 1, [0], [], [])]
def gUD_137 : List zUD := [(290521835828774944, 6896274374656000, 4095, [1, 5, 6, 7, 8, 9], [557092, 624741, 919590, 983074], [[2115]]), (1152921504605967393, 0, 5, [4, 8], [], []), (1152921504605964450, 0, 3, [4, 7], [], []), (294044774301799587, 6896274374656000, 243, [1, 4, 6], [67620], []), (296327429027536068, 0, 15, [1, 2, 3, 5], [47138], []), (1152921504605967525, 0, 1, [4], [], []), (334610294743803078, 0, 5, [0, 3], [], []), (332465078875233575, 0, 3, [0, 2], [], []), (298689248860841256, 0, 3, [0, 1], [], []), (334719146498762025, 0, 1, [0], [], [])]
def gUD_138 : List zUD := [(116217384808875040, 72061992151552000, 4095, [2, 5, 6, 7, 8, 9], [557090, 692326, 856104, 983078], [[4226]]), (1152920583336360993, 0, 65, [4, 8], [], []), (188277246727001250, 72061992151552000, 63, [2, 4, 7], [135202], []), (1152920514616884387, 0, 3, [4, 6], [], []), (296367044797012164, 0, 195, [1, 2, 3, 5], [47142], []), (1152920583336361125, 0, 1, [4], [], []), (334719146394851526, 0, 65, [0, 3], [], []), (332396975791252775, 0, 3, [0, 2], [], []), (298689215607350568, 0, 3, [0, 1], [], []), (334719146498762025, 0, 1, [0], [], [])]
def gUD_139 : List zUD := [(290561446067176480, 4573968438661120, 4095, [1, 5, 6, 7, 8, 9], [557090, 624743, 919592, 983078], [[2115]]), (1152920583336360993, 0, 65, [4, 8], [], []), (1152920580115135650, 0, 3, [4, 7], [], []), (294044702263743651, 4573968438661120, 63, [1, 4, 6], [67618], []), (296367044797012164, 0, 195, [1, 2, 3, 5], [47142], []), (1152920583336361125, 0, 1, [4], [], []), (334719146394851526, 0, 65, [0, 3], [], []), (332396975791252775, 0, 3, [0, 2], [], []), (298689215607350568, 0, 3, [0, 1], [], []), (334719146498762025, 0, 1, [0], [], [])]
def gUD_140 : List zUD := [(110417632771048480, 2286984252887040, 4095, [1, 5, 6, 7, 8, 9], [557090, 624743, 919590, 983082], [[2115]]), (186899384535874593, 74309393851613184, 1025, [4, 8], [], []), (216172750102855650, 0, 33, [4, 7], [], []), (113900888967615651, 2286984185775168, 63, [1, 4, 6], [67618], []), (296367044797012164, 0, 195, [1, 2, 3, 5], [47142], []), (216172753324081125, 0, 1, [4], [], []), (334719146394851526, 0, 65, [0, 3], [], []), (332396975791252775, 0, 3, [0, 2], [], []), (298689215607350568, 0, 3, [0, 1], [], []), (334719146498762025, 0, 1, [0], [], [])]
def gUD_141 : List zUD := [(75683859659883552, 108087490635632640, 4095, [2, 5, 6, 7, 8, 9], [557090, 626793, 921638, 983082], [[2179]]), (186899384535874593, 111464090777419776, 1025, [4, 8], [], []), (1123647110596499426, 0, 5, [4, 7], [], []), (183773652468339875, 108087490602074208, 63, [2, 4, 6], [69666], []), (296367044797012164, 0, 195, [1, 2, 3, 5], [47142], []), (1123647213675714533, 0, 1, [4], [], []), (334719146394851526, 0, 65, [0, 3], [], []), (332396975791252775, 0, 3, [0, 2], [], []), (298689215607350568, 0, 3, [0, 1], [], []), (334719146498762025, 0, 1, [0], [], [])]
def gUD_142 : List zUD := [(80046721798898720, 36030996109332480, 4095, [2, 5, 6, 7, 8, 9], [557090, 626790, 921638, 983080], [[2179]]), (1151978123630214177, 72567767433216, 257, [4, 8], [], []), (1152005713627709410, 0, 33, [4, 7], [], []), (188136514607355043, 36030996042220608, 63, [2, 4, 6], [69666], []), (296367044797012164, 0, 195, [1, 2, 3, 5], [47142], []), (1152005816706924517, 0, 1, [4], [], []), (334719146394851526, 0, 65, [0, 3], [], []), (332396975791252775, 0, 3, [0, 2], [], []), (298689215607350568, 0, 3, [0, 1], [], []), (334719146498762025, 0, 1, [0], [], [])]
def gUD_143 : List zUD := [(290556120307729440, 1231453090222080, 4095, [1, 5, 6, 7, 8, 9], [557090, 624744, 919590, 983080], [[2115]]), (1151978123630214177, 108851651149824, 257, [4, 8], [], []), (1152892886165985250, 0, 5, [4, 7], [], []), (294039376504296611, 1231453056663648, 63, [1, 4, 6], [67618], []), (296367044797012164, 0, 195, [1, 2, 3, 5], [47142], []), (1152892889387210725, 0, 1, [4], [], []), (334719146394851526, 0, 65, [0, 3], [], []), (332396975791252775, 0, 3, [0, 2], [], []), (298689215607350568, 0, 3, [0, 1], [], []), (334719146498762025, 0, 1, [0], [], [])]
def gUD_144 : List zUD := [(110377911877634080, 3518439389921280, 4095, [1, 5, 6, 7, 8, 9], [557094, 624743, 919586, 983082], [[2115]]), (186899384535874593, 74309393851613184, 1025, [4, 8], [], []), (215257988439444450, 36063981391052800, 513, [4, 7], [], []), (113900888967615651, 2286984185775168, 63, [1, 4, 6], [67618], []), (296327323903597764, 0, 15, [1, 2, 3, 5], [47138], []), (216172753324081125, 0, 1, [4], [], []), (334610188547171526, 0, 5, [0, 3], [], []), (332465078875233575, 0, 3, [0, 2], [], []), (298689215607350568, 0, 3, [0, 1], [], []), (334719146498762025, 0, 1, [0], [], [])]
def gUD_145 : List zUD := [(40640287373232160, 144118488791777280, 4095, [2, 5, 6, 7, 8, 9], [557094, 626791, 921634, 983080], [[2179]]), (1151978123630214177, 72567767433216, 257, [4, 8], [], []), (215257988439444450, 36063981391052800, 513, [4, 7], [], []), (188136581179348131, 36030996042220608, 63, [2, 4, 6], [69666], []), (292987009691261188, 0, 15, [1, 2, 3, 5], [47138], []), (1152006682142834661, 0, 1, [4], [], []), (331338045063469350, 0, 3, [0, 3], [], []), (332396909219259687, 0, 3, [0, 2], [], []), (297564414139475208, 0, 5, [0, 1], [], []), (334719146498762025, 0, 1, [0], [], [])]
def gUc_C : List (List zUD) := [gUD_97, gUD_98, gUD_99, gUD_100, gUD_101, gUD_102, gUD_103, gUD_104, gUD_105, gUD_106, gUD_107, gUD_108, gUD_109, gUD_110, gUD_111, gUD_112, gUD_113, gUD_114, gUD_115, gUD_116, gUD_117, gUD_118, gUD_119, gUD_120, gUD_121, gUD_122, gUD_123, gUD_124, gUD_125, gUD_126, gUD_127, gUD_128, gUD_129, gUD_130, gUD_131, gUD_132, gUD_133, gUD_134, gUD_135, gUD_136, gUD_137, gUD_138, gUD_139, gUD_140, gUD_141, gUD_142, gUD_143, gUD_144, gUD_145]
theorem kun_C : kunZ gTc_C gUc_C = true := by decide +kernel
def gUD_146 : List zUD := [(75577169487824928, 108088727552655360, 4095, [2, 5, 6, 7, 8, 9], [557094, 626793, 921634, 983082], [[2179]]), (186899384535874593, 111464090777419776, 1025, [4, 8], [], []), (1123647213675711458, 0, 129, [4, 7], [], []), (183773652468339875, 108087490602074208, 63, [2, 4, 6], [69666], []), (296259220787142852, 0, 15, [1, 2, 3, 5], [47138], []), (1123647213675714533, 0, 1, [4], [], []), (334610188547171526, 0, 5, [0, 3], [], []), (332396975791252775, 0, 3, [0, 2], [], []), (298655164000411944, 0, 3, [0, 1], [], []), (334719146498762025, 0, 1, [0], [], [])]
def gUD_147 : List zUD := [(40674338947696672, 144117390353891328, 4095, [2, 5, 6, 7, 8, 9], [557096, 626791, 921634, 983078], [[2179]]), (1152920583336360993, 0, 65, [4, 8], [], []), (216171888760556514, 144115325514809344, 129, [4, 7], [], []), (188277181228749987, 144117387166224384, 63, [2, 4, 6], [69666], []), (292883756529981700, 0, 15, [1, 2, 3, 5], [47138], []), (1152920583336361125, 0, 1, [4], [], []), (331235890340075814, 0, 3, [0, 3], [], []), (332396909219259687, 0, 3, [0, 2], [], []), (297528165689238792, 0, 5, [0, 1], [], []), (334719146498762025, 0, 1, [0], [], [])]
def gUD_148 : List zUD := [(145314793990064160, 2357490402459648, 4095, [3, 5, 6, 7, 8, 9], [557094, 630888, 925730, 983080], [[2307]]), (1151978123630214177, 108851651149824, 257, [4, 8], [], []), (1152892023951297506, 0, 129, [4, 7], [], []), (221981680458732707, 1231453056663648, 63, [3, 4, 6], [73762], []), (153375554419236100, 0, 15, [1, 2, 3, 5], [47138], []), (1152892023951300581, 0, 1, [4], [], []), (226629453682517286, 0, 3, [0, 3], [], []), (262591181502061863, 0, 3, [0, 2], [], []), (297564414139475208, 0, 5, [0, 1], [], []), (334719146498762025, 0, 1, [0], [], [])]
def gUD_149 : List zUD := [(145280742415599648, 2392640414810112, 4095, [3, 5, 6, 7, 8, 9], [557096, 630886, 925730, 983078], [[2307]]), (1152920583336360993, 0, 65, [4, 8], [], []), (1152006683015220194, 140741783322624, 65, [4, 7], [], []), (221984975772390563, 2392537369153536, 63, [3, 4, 6], [73762], []), (153408507555814660, 0, 15, [1, 2, 3, 5], [47138], []), (1152920583336361125, 0, 1, [4], [], []), (226629453682517286, 0, 3, [0, 3], [], []), (262659284650990887, 0, 3, [0, 2], [], []), (297528165689238792, 0, 5, [0, 1], [], []), (334719146498762025, 0, 1, [0], [], [])]
def gUD_150 : List zUD := [(37227335629473824, 218464267527127040, 4095, [2, 3, 4], [20546, 24610], []), (112589990684261409, 0, 1025, [1, 3], [], []), (1152921473468304354, 0, 1, [2], [], []), (111609368184754275, 0, 69, [0, 1], [3138], []), (148764065110560900, 0, 1, [0], [], [])]
def gUD_151 : List zUD := [(74345748671563808, 40745805083181056, 4095, [2, 3, 4], [20546, 24610], []), (1151905555862780961, 0, 257, [1, 3], [], []), (1152921473468304354, 0, 1, [2], [], []), (148727781226844259, 0, 69, [0, 1], [3138], []), (148764065110560900, 0, 1, [0], [], [])]
def gUD_152 : List zUD := [(74381997121800224, 40638226889834496, 4095, [2, 3, 4], [20546, 24610], []), (1152920512469400609, 0, 65, [1, 3], [], []), (1152889618769611746, 0, 1, [2], [], []), (148764029677080675, 0, 261, [0, 1], [3138], []), (148764065110560900, 0, 1, [0], [], [])]
def gUD_153 : List zUD := [(40640225157023776, 144118520972574720, 4095, [2, 5, 6, 7, 8, 9], [557092, 626789, 921634, 983080], [[2179]]), (1151978123630214177, 72567767433216, 257, [4, 8], [], []), (215257988439444450, 36063981391052800, 513, [4, 7], [], []), (188136514672366755, 36030996042220608, 63, [2, 4, 6], [69666], []), (292987077270935812, 0, 15, [1, 2, 3, 5], [47138], []), (1152005817552076773, 0, 1, [4], [], []), (331338045063469350, 0, 3, [0, 3], [], []), (332396975726241063, 0, 3, [0, 2], [], []), (297564449538352392, 0, 5, [0, 1], [], []), (334719146498762025, 0, 1, [0], [], [])]
def gUD_154 : List zUD := [(110377850734118944, 3518471570718720, 4095, [1, 5, 6, 7, 8, 9], [557092, 624741, 919586, 983082], [[2115]]), (186899384535874593, 74309393851613184, 1025, [4, 8], [], []), (215257988439444450, 36063981391052800, 513, [4, 7], [], []), (113900789207143587, 2286984185775168, 63, [1, 4, 6], [67618], []), (296327429027536068, 0, 15, [1, 2, 3, 5], [47138], []), (216171888733323237, 0, 1, [4], [], []), (334610294743803078, 0, 5, [0, 3], [], []), (332465078875233575, 0, 3, [0, 2], [], []), (298689248860841256, 0, 3, [0, 1], [], []), (334719146498762025, 0, 1, [0], [], [])]
def gUD_155 : List zUD := [(116217318301893664, 72064259827177472, 4095, [2, 5, 6, 7, 8, 9], [557090, 692324, 856104, 983076], [[4226]]), (1152921503707167777, 0, 17, [4, 8], [], []), (188277252090467490, 72064259827177472, 207, [2, 4, 7], [135202], []), (1152921503640059043, 0, 3, [4, 6], [], []), (296366972926564548, 0, 51, [1, 2, 3, 5], [47140], []), (1152921503707167909, 0, 1, [4], [], []), (334719040198219974, 0, 17, [0, 3], [], []), (332396975791252775, 0, 3, [0, 2], [], []), (298689248860841256, 0, 3, [0, 1], [], []), (334719146498762025, 0, 1, [0], [], [])]
def gUD_156 : List zUD := [(290561379560195104, 6825836904716288, 4095, [1, 5, 6, 7, 8, 9], [557090, 624741, 919592, 983076], [[2115]]), (1152921503707167777, 0, 17, [4, 8], [], []), (1152921503704022178, 0, 3, [4, 7], [], []), (294044774134191267, 6825836904716288, 207, [1, 4, 6], [67618], []), (296366972926564548, 0, 51, [1, 2, 3, 5], [47140], []), (1152921503707167909, 0, 1, [4], [], []), (334719040198219974, 0, 17, [0, 3], [], []), (332396975791252775, 0, 3, [0, 2], [], []), (298689248860841256, 0, 3, [0, 1], [], []), (334719146498762025, 0, 1, [0], [], [])]
def gUD_157 : List zUD := [(110417394633147424, 2287052905254912, 4095, [1, 5, 6, 7, 8, 9], [557090, 624741, 919588, 983082], [[2115]]), (186899384535874593, 74309393851613184, 1025, [4, 8], [], []), (216171888730177506, 0, 129, [4, 7], [], []), (113900789207143587, 2286984185775168, 63, [1, 4, 6], [67618], []), (296366972926564548, 0, 51, [1, 2, 3, 5], [47140], []), (216171888733323237, 0, 1, [4], [], []), (334719040198219974, 0, 17, [0, 3], [], []), (332396975791252775, 0, 3, [0, 2], [], []), (298689248860841256, 0, 3, [0, 1], [], []), (334719146498762025, 0, 1, [0], [], [])]
def gUD_158 : List zUD := [(75683822115619872, 108087559288002560, 4095, [2, 5, 6, 7, 8, 9], [557090, 626793, 921636, 983082], [[2179]]), (186899384535874593, 111464090777419776, 1025, [4, 8], [], []), (1123648106055833570, 0, 5, [4, 7], [], []), (183773652468339875, 108087524928258144, 207, [2, 4, 6], [69666], []), (296366972926564548, 0, 51, [1, 2, 3, 5], [47140], []), (1123648106156496869, 0, 1, [4], [], []), (334719040198219974, 0, 17, [0, 3], [], []), (332396975791252775, 0, 3, [0, 2], [], []), (298689248860841256, 0, 3, [0, 1], [], []), (334719146498762025, 0, 1, [0], [], [])]
def gUD_159 : List zUD := [(80046684254635040, 36031064761700352, 4095, [2, 5, 6, 7, 8, 9], [557090, 626788, 921636, 983080], [[2179]]), (1151978123630214177, 72567767433216, 257, [4, 8], [], []), (1152005816606261218, 0, 129, [4, 7], [], []), (188136514607355043, 36030996042220608, 63, [2, 4, 6], [69666], []), (296366972926564548, 0, 51, [1, 2, 3, 5], [47140], []), (1152005816706924517, 0, 1, [4], [], []), (334719040198219974, 0, 17, [0, 3], [], []), (332396975791252775, 0, 3, [0, 2], [], []), (298689248860841256, 0, 3, [0, 1], [], []), (334719146498762025, 0, 1, [0], [], [])]
def gUD_160 : List zUD := [(290555882169828384, 1231521742592000, 4095, [1, 5, 6, 7, 8, 9], [557090, 624744, 919588, 983080], [[2115]]), (1151978123630214177, 108851651149824, 257, [4, 8], [], []), (1152892917274089442, 0, 5, [4, 7], [], []), (294039276743824547, 1231487382847584, 207, [1, 4, 6], [67618], []), (296366972926564548, 0, 51, [1, 2, 3, 5], [47140], []), (1152892917277235173, 0, 1, [4], [], []), (334719040198219974, 0, 17, [0, 3], [], []), (332396975791252775, 0, 3, [0, 2], [], []), (298689248860841256, 0, 3, [0, 1], [], []), (334719146498762025, 0, 1, [0], [], [])]
def gUD_161 : List zUD := [(75577207032088608, 108088624641212416, 4095, [2, 5, 6, 7, 8, 9], [557092, 626793, 921634, 983082], [[2179]]), (186899384535874593, 111464090777419776, 1025, [4, 8], [], []), (1123648106156493794, 0, 33, [4, 7], [], []), (183773652468339875, 108087524928258144, 207, [2, 4, 6], [69666], []), (296259292657590468, 0, 15, [1, 2, 3, 5], [47138], []), (1123648106156496869, 0, 1, [4], [], []), (334610294743803078, 0, 5, [0, 3], [], []), (332396975791252775, 0, 3, [0, 2], [], []), (298655130746921256, 0, 3, [0, 1], [], []), (334719146498762025, 0, 1, [0], [], [])]
def gUD_162 : List zUD := [(145383000247568416, 6757632827195392, 4095, [3, 5, 6, 7, 8, 9], [557096, 630885, 925730, 983076], [[2307]]), (1152921503707167777, 0, 17, [4, 8], [], []), (1123648106156493794, 6755399642382336, 33, [4, 7], [], []), (222019063785919651, 6757667183794176, 207, [3, 4, 6], [73762], []), (153272168081464580, 0, 15, [1, 2, 3, 5], [47138], []), (1152921503707167909, 0, 1, [4], [], []), (226527199003616550, 0, 3, [0, 3], [], []), (262591114995080487, 0, 3, [0, 2], [], []), (297528165689238792, 0, 5, [0, 1], [], []), (334719146498762025, 0, 1, [0], [], [])]
def gUD_163 : List zUD := [(145314830461634592, 2357387491016704, 4095, [3, 5, 6, 7, 8, 9], [557092, 630888, 925730, 983080], [[2307]]), (1151978123630214177, 108851651149824, 257, [4, 8], [], []), (1152892916432079842, 0, 33, [4, 7], [], []), (221981680458732707, 1231487382847584, 207, [3, 4, 6], [73762], []), (153375522238438660, 0, 15, [1, 2, 3, 5], [47138], []), (1152892916432082917, 0, 1, [4], [], []), (226629453682517286, 0, 3, [0, 3], [], []), (262591114995080487, 0, 3, [0, 2], [], []), (297564449538352392, 0, 5, [0, 1], [], []), (334719146498762025, 0, 1, [0], [], [])]
def gUD_164 : List zUD := [(145383000215062560, 2258431343853568, 4095, [3, 5, 6, 7, 8, 9], [557096, 630884, 925730, 983076], [[2307]]), (1152921503707167777, 0, 17, [4, 8], [], []), (1152892917277232098, 6597076058112, 17, [4, 7], [], []), (222019063850931363, 2258465602934784, 207, [3, 4, 6], [73762], []), (153272168113970436, 0, 15, [1, 2, 3, 5], [47138], []), (1152921503707167909, 0, 1, [4], [], []), (226527199101134118, 0, 3, [0, 3], [], []), (262591114930068775, 0, 3, [0, 2], [], []), (297528165689238792, 0, 5, [0, 1], [], []), (334719146498762025, 0, 1, [0], [], [])]
def gUD_165 : List zUD := [(37227335629473824, 146407774073552896, 4095, [2, 3, 4], [20546, 24610], []), (112589990684261409, 0, 1025, [1, 3], [], []), (1152921504576408546, 0, 1, [2], [], []), (111609368184754275, 0, 21, [0, 1], [3138], []), (148764065110560900, 0, 1, [0], [], [])]
def gUD_166 : List zUD := [(74345748671563808, 41801337318572032, 4095, [2, 3, 4], [20546, 24610], []), (1151905555862780961, 0, 257, [1, 3], [], []), (1152921504576408546, 0, 1, [2], [], []), (148727781226844259, 0, 21, [0, 1], [3138], []), (148764065110560900, 0, 1, [0], [], [])]
def gUD_167 : List zUD := [(74382032520677408, 41763954093096960, 4095, [2, 3, 4], [20546, 24610], []), (1152921503637961761, 0, 17, [1, 3], [], []), (1152889618769611746, 0, 1, [2], [], []), (148764065075957859, 0, 261, [0, 1], [3138], []), (148764065110560900, 0, 1, [0], [], [])]
def gUD_168 : List zUD := [(145318159158806560, 4538787222781952, 4095, [3, 5, 6, 7, 8, 9], [557092, 630885, 925730, 983078], [[2307]]), (1152920583336360993, 0, 65, [4, 8], [], []), (1123647213675711458, 4503737066323968, 129, [4, 7], [], []), (221984909232903331, 4573968373649408, 63, [3, 4, 6], [73762], []), (153375488822418692, 0, 15, [1, 2, 3, 5], [47138], []), (1152920583336361125, 0, 1, [4], [], []), (226629353727010086, 0, 3, [0, 3], [], []), (262591181502061863, 0, 3, [0, 2], [], []), (297564449538352392, 0, 5, [0, 1], [], []), (334719146498762025, 0, 1, [0], [], [])]
def gUD_169 : List zUD := [(110417394498013216, 3413021533667328, 4095, [1, 5, 6, 7, 8, 9], [557092, 624741, 919586, 983082], [[2115]]), (186899384535874593, 111464090777419776, 1025, [4, 8], [], []), (216171888760556514, 0, 129, [4, 7], [], []), (113900789207143587, 3412884093665376, 63, [1, 4, 6], [67618], []), (296366972791430340, 0, 15, [1, 2, 3, 5], [47138], []), (216171888760559589, 0, 1, [4], [], []), (334719040094512326, 0, 5, [0, 3], [], []), (332396975726304551, 0, 3, [0, 2], [], []), (298689248860841256, 0, 3, [0, 1], [], []), (334719146498762025, 0, 1, [0], [], [])]
def gUD_170 : List zUD := [(145318192412297248, 6790585963773952, 4095, [3, 5, 6, 7, 8, 9], [557094, 630885, 925730, 983076], [[2307]]), (1152921503707167777, 0, 17, [4, 8], [], []), (1123648106156493794, 6755399642382336, 33, [4, 7], [], []), (221985012211455139, 6825770332723200, 207, [3, 4, 6], [73762], []), (153375421242744068, 0, 15, [1, 2, 3, 5], [47138], []), (1152921503707167909, 0, 1, [4], [], []), (226629353727010086, 0, 3, [0, 3], [], []), (262591114995080487, 0, 3, [0, 2], [], []), (297564414139475208, 0, 5, [0, 1], [], []), (334719146498762025, 0, 1, [0], [], [])]
def gUD_171 : List zUD := [(75513497634703392, 108121577777790976, 4095, [2, 5, 6, 7, 8, 9], [557092, 626791, 921634, 983082], [[2179]]), (186899384535874593, 111464090777419776, 1025, [4, 8], [], []), (1123648106156493794, 0, 33, [4, 7], [], []), (183705549319410851, 108121576502722656, 207, [2, 4, 6], [69666], []), (296400991144878276, 0, 15, [1, 2, 3, 5], [47138], []), (1123648106156496869, 0, 1, [4], [], []), (334719040094512326, 0, 5, [0, 3], [], []), (332465078940181799, 0, 3, [0, 2], [], []), (298655130746921256, 0, 3, [0, 1], [], []), (334719146498762025, 0, 1, [0], [], [])]
def gUD_172 : List zUD := [(116007516665676832, 72127971372048384, 4095, [2, 5, 6, 7, 8, 9], [557090, 692324, 856102, 983076], [[4226]]), (1152921503707167777, 0, 17, [4, 8], [], []), (188209148941538466, 72127971372048384, 783, [2, 4, 7], [135202], []), (1152921503640059043, 0, 3, [4, 6], [], []), (296327429162670276, 0, 51, [1, 2, 3, 5], [47140], []), (1152921503707167909, 0, 1, [4], [], []), (334610294847510726, 0, 17, [0, 3], [], []), (332465078940181799, 0, 3, [0, 2], [], []), (298689248860841256, 0, 3, [0, 1], [], []), (334719146498762025, 0, 1, [0], [], [])]
def gUD_173 : List zUD := [(290521835796300832, 6825836904716288, 4095, [1, 5, 6, 7, 8, 9], [557090, 624741, 919590, 983076], [[2115]]), (1152921503707167777, 0, 17, [4, 8], [], []), (1152921503704022178, 0, 3, [4, 7], [], []), (294044774134191267, 6825836904716288, 207, [1, 4, 6], [67618], []), (296327429162670276, 0, 51, [1, 2, 3, 5], [47140], []), (1152921503707167909, 0, 1, [4], [], []), (334610294847510726, 0, 17, [0, 3], [], []), (332465078940181799, 0, 3, [0, 2], [], []), (298689248860841256, 0, 3, [0, 1], [], []), (334719146498762025, 0, 1, [0], [], [])]
def gUD_174 : List zUD := [(110377850869253152, 2322202917605376, 4095, [1, 5, 6, 7, 8, 9], [557090, 624741, 919588, 983082], [[2115]]), (186899384535874593, 111464090777419776, 1025, [4, 8], [], []), (215257988409065442, 36063981391052800, 513, [4, 7], [], []), (113900789207143587, 3412884093665376, 63, [1, 4, 6], [67618], []), (296327429162670276, 0, 51, [1, 2, 3, 5], [47140], []), (216171888760559589, 0, 1, [4], [], []), (334610294847510726, 0, 17, [0, 3], [], []), (332465078940181799, 0, 3, [0, 2], [], []), (298689248860841256, 0, 3, [0, 1], [], []), (334719146498762025, 0, 1, [0], [], [])]
def gUD_175 : List zUD := [(75475118917288992, 108156760874817536, 4095, [2, 5, 6, 7, 8, 9], [557090, 626791, 921636, 983082], [[2179]]), (186899384535874593, 111464090777419776, 1025, [4, 8], [], []), (1123648106055833570, 0, 5, [4, 7], [], []), (183705549319410851, 108121576502722656, 207, [2, 4, 6], [69666], []), (296327429162670276, 0, 51, [1, 2, 3, 5], [47140], []), (1123648106156496869, 0, 1, [4], [], []), (334610294847510726, 0, 17, [0, 3], [], []), (332465078940181799, 0, 3, [0, 2], [], []), (298689248860841256, 0, 3, [0, 1], [], []), (334719146498762025, 0, 1, [0], [], [])]
def gUD_176 : List zUD := [(79978581105706016, 36099167910629376, 4095, [2, 5, 6, 7, 8, 9], [557090, 626788, 921636, 983078], [[2179]]), (1152920583336360993, 0, 65, [4, 8], [], []), (1152005816606261218, 70437463654400, 129, [4, 7], [], []), (188209011507827875, 144185556887146496, 63, [2, 4, 6], [69666], []), (296327429162670276, 0, 51, [1, 2, 3, 5], [47140], []), (1152920583336361125, 0, 1, [4], [], []), (334610294847510726, 0, 17, [0, 3], [], []), (332465078940181799, 0, 3, [0, 2], [], []), (298689248860841256, 0, 3, [0, 1], [], []), (334719146498762025, 0, 1, [0], [], [])]
def gUD_177 : List zUD := [(290521830595363872, 1196371730243584, 4095, [1, 5, 6, 7, 8, 9], [557090, 624742, 919588, 983078], [[2115]]), (1152920583336360993, 106300440576, 65, [4, 8], [], []), (1152921476659124194, 0, 5, [4, 7], [], []), (294044768933254307, 1161187358146656, 783, [1, 4, 6], [67618], []), (296327429162670276, 0, 51, [1, 2, 3, 5], [47140], []), (1152921476662269925, 0, 1, [4], [], []), (334610294847510726, 0, 17, [0, 3], [], []), (332465078940181799, 0, 3, [0, 2], [], []), (298689248860841256, 0, 3, [0, 1], [], []), (334719146498762025, 0, 1, [0], [], [])]
def gUD_178 : List zUD := [(145318125872810016, 2287087273377792, 4095, [3, 5, 6, 7, 8, 9], [557092, 630886, 925730, 983078], [[2307]]), (1152920583336360993, 106300440576, 65, [4, 8], [], []), (1152921476662266850, 0, 17, [4, 7], [], []), (221984975804896419, 1161187358146656, 783, [3, 4, 6], [73762], []), (153375522108415236, 0, 15, [1, 2, 3, 5], [47138], []), (1152921476662269925, 0, 1, [4], [], []), (226629453584999718, 0, 3, [0, 3], [], []), (262591114930068775, 0, 3, [0, 2], [], []), (297564449538352392, 0, 5, [0, 1], [], []), (334719146498762025, 0, 1, [0], [], [])]
def gUD_179 : List zUD := [(145318192379791392, 2286992876371968, 4095, [3, 5, 6, 7, 8, 9], [557094, 630884, 925730, 983076], [[2307]]), (1152921503707167777, 0, 17, [4, 8], [], []), (1152921476662266850, 8598323200, 17, [4, 7], [], []), (221985012276466851, 2322177147805696, 783, [3, 4, 6], [73762], []), (153375421275249924, 0, 15, [1, 2, 3, 5], [47138], []), (1152921503707167909, 0, 1, [4], [], []), (226629353824527654, 0, 3, [0, 3], [], []), (262591114930068775, 0, 3, [0, 2], [], []), (297564414139475208, 0, 5, [0, 1], [], []), (334719146498762025, 0, 1, [0], [], [])]
def gUD_180 : List zUD := [(37227335629473824, 146473680346710016, 4095, [2, 3, 4], [20546, 24610], []), (112589990684261409, 0, 1025, [1, 3], [], []), (1152921504576408546, 0, 1, [2], [], []), (111609368184754275, 0, 21, [0, 1], [3138], []), (148764065110560900, 0, 1, [0], [], [])]
def gUD_181 : List zUD := [(74381997121800224, 41765088868335616, 4095, [2, 3, 4], [20546, 24610], []), (1152920512469400609, 0, 65, [1, 3], [], []), (1152921504576408546, 0, 1, [2], [], []), (148764029677080675, 0, 21, [0, 1], [3138], []), (148764065110560900, 0, 1, [0], [], [])]
def gUD_182 : List zUD := [(74382032520677408, 41765052463874048, 4095, [2, 3, 4], [20546, 24610], []), (1152921503637961761, 0, 17, [1, 3], [], []), (1152921473468304354, 0, 1, [2], [], []), (148764065075957859, 0, 69, [0, 1], [3138], []), (148764065110560900, 0, 1, [0], [], [])]
def gUD_183 : List zUD := [(80080835748005920, 36033198288797696, 4095, [2, 5, 6, 7, 8, 9], [557092, 626789, 921634, 983078], [[2179]]), (1152920583336360993, 0, 65, [4, 8], [], []), (1152892023951297506, 4535485464576, 129, [4, 7], [], []), (188277181293761699, 72061992086540288, 63, [2, 4, 6], [69666], []), (296259259306582212, 0, 15, [1, 2, 3, 5], [47138], []), (1152920583336361125, 0, 1, [4], [], []), (334610294743803078, 0, 5, [0, 3], [], []), (332396909154247975, 0, 3, [0, 2], [], []), (298655164000411944, 0, 3, [0, 1], [], []), (334719146498762025, 0, 1, [0], [], [])]
def gUD_184 : List zUD := [(80046784173541408, 36032099850911744, 4095, [2, 5, 6, 7, 8, 9], [557092, 626789, 921634, 983080], [[2179]]), (1151978123630214177, 108851651149824, 257, [4, 8], [], []), (1152006683015220194, 0, 65, [4, 7], [], []), (188136581244359843, 36032095554895968, 63, [2, 4, 6], [69666], []), (296366906219405508, 0, 15, [1, 2, 3, 5], [47138], []), (1152006683015223269, 0, 1, [4], [], []), (334719040094512326, 0, 5, [0, 3], [], []), (332396909154247975, 0, 3, [0, 2], [], []), (298689215574876456, 0, 3, [0, 1], [], []), (334719146498762025, 0, 1, [0], [], [])]
def gUD_185 : List zUD := [(80080869001496608, 36035396239360000, 4095, [2, 5, 6, 7, 8, 9], [557094, 626789, 921634, 983076], [[2179]]), (1152921503707167777, 0, 17, [4, 8], [], []), (1152892916432079842, 6597271093248, 33, [4, 7], [], []), (188277318598497443, 72064193255184384, 207, [2, 4, 6], [69666], []), (296259154182643908, 0, 15, [1, 2, 3, 5], [47138], []), (1152921503707167909, 0, 1, [4], [], []), (334610188547171526, 0, 5, [0, 3], [], []), (332396909154247975, 0, 3, [0, 2], [], []), (298655130746921256, 0, 3, [0, 1], [], []), (334719146498762025, 0, 1, [0], [], [])]
def gUD_186 : List zUD := [(80012699313080352, 36134352289005568, 4095, [2, 5, 6, 7, 8, 9], [557092, 626791, 921634, 983080], [[2179]]), (1151978123630214177, 108851651149824, 257, [4, 8], [], []), (1152892917277232098, 0, 17, [4, 7], [], []), (188204750965281955, 36134351208972384, 207, [2, 4, 6], [69666], []), (296400991079866564, 0, 15, [1, 2, 3, 5], [47138], []), (1152892917277235173, 0, 1, [4], [], []), (334719040094512326, 0, 5, [0, 3], [], []), (332465078875170087, 0, 3, [0, 2], [], []), (298655130714415400, 0, 3, [0, 1], [], []), (334719146498762025, 0, 1, [0], [], [])]
def gUD_187 : List zUD := [(80080868968990752, 36031004732817408, 4095, [2, 5, 6, 7, 8, 9], [557094, 626788, 921634, 983076], [[2179]]), (1152921503707167777, 0, 17, [4, 8], [], []), (1152921476662266850, 8598323200, 17, [4, 7], [], []), (188277318663509155, 72059801651126272, 783, [2, 4, 6], [69666], []), (296259154215149764, 0, 15, [1, 2, 3, 5], [47138], []), (1152921503707167909, 0, 1, [4], [], []), (334610188547171526, 0, 5, [0, 3], [], []), (332396909219259687, 0, 3, [0, 2], [], []), (298655130714415400, 0, 3, [0, 1], [], []), (334719146498762025, 0, 1, [0], [], [])]
def gUD_188 : List zUD := [(80080802462009376, 36031099129823232, 4095, [2, 5, 6, 7, 8, 9], [557092, 626790, 921634, 983078], [[2179]]), (1152920583336360993, 106300440576, 65, [4, 8], [], []), (1152921476662266850, 0, 17, [4, 7], [], []), (188277247865754787, 36029999609806944, 783, [2, 4, 6], [69666], []), (296259292592578756, 0, 15, [1, 2, 3, 5], [47138], []), (1152921476662269925, 0, 1, [4], [], []), (334610294743803078, 0, 5, [0, 3], [], []), (332396975726241063, 0, 3, [0, 2], [], []), (298655130714415400, 0, 3, [0, 1], [], []), (334719146498762025, 0, 1, [0], [], [])]
def gUD_189 : List zUD := [(40644756314915872, 72127971372048384, 4095, [3, 5, 6, 7, 8, 9], [557090, 696420, 860198, 983076], [[4354]]), (1152921503707167777, 0, 17, [4, 8], [], []), (187082115163296930, 72127971372048384, 783, [3, 4, 7], [139298], []), (1152921503640059043, 0, 3, [4, 6], [], []), (292987077369405700, 0, 51, [1, 2, 3, 5], [47140], []), (1152921503707167909, 0, 1, [4], [], []), (331338045160891686, 0, 3, [0, 3], [], []), (332396975726241063, 0, 3, [0, 2], [], []), (297564449572921608, 0, 17, [0, 1], [], []), (334719146498762025, 0, 1, [0], [], [])]
def gUD_190 : List zUD := [(40780962612773920, 72064259827177472, 4095, [2, 5, 6, 7, 8, 9], [557090, 626789, 921638, 983076], [[2179]]), (1152921503707167777, 0, 17, [4, 8], [], []), (1152921503704022178, 0, 3, [4, 7], [], []), (188277252026504355, 72064259827177472, 207, [2, 4, 6], [69666], []), (292987077369405700, 0, 51, [1, 2, 3, 5], [47140], []), (1152921503707167909, 0, 1, [4], [], []), (331338045160891686, 0, 3, [0, 3], [], []), (332396975726241063, 0, 3, [0, 2], [], []), (297564449572921608, 0, 17, [0, 1], [], []), (334719146498762025, 0, 1, [0], [], [])]
def gUD_191 : List zUD := [(40640225258636320, 72059827420925952, 4095, [2, 5, 6, 7, 8, 9], [557090, 626789, 921636, 983080], [[2179]]), (1151978123630214177, 108851651149824, 257, [4, 8], [], []), (215257988409065442, 36063981391052800, 513, [4, 7], [], []), (188136514672366755, 36032095554895968, 63, [2, 4, 6], [69666], []), (292987077369405700, 0, 51, [1, 2, 3, 5], [47140], []), (1152005817579313125, 0, 1, [4], [], []), (331338045160891686, 0, 3, [0, 3], [], []), (332396975726241063, 0, 3, [0, 2], [], []), (297564449572921608, 0, 17, [0, 1], [], []), (334719146498762025, 0, 1, [0], [], [])]
def gUD_192 : List zUD := [(40606272304841760, 72163148227942400, 4095, [3, 5, 6, 7, 8, 9], [557090, 630887, 925732, 983080], [[2307]]), (1151978123630214177, 108851651149824, 257, [4, 8], [], []), (1152892916331419618, 0, 5, [4, 7], [], []), (187078816632607907, 36134351208972384, 207, [3, 4, 6], [73762], []), (292987077369405700, 0, 51, [1, 2, 3, 5], [47140], []), (1152892916432082917, 0, 1, [4], [], []), (331338045160891686, 0, 3, [0, 3], [], []), (332396975726241063, 0, 3, [0, 2], [], []), (297564449572921608, 0, 17, [0, 1], [], []), (334719146498762025, 0, 1, [0], [], [])]
def gUD_193 : List zUD := [(40609467760509984, 72092780557504512, 4095, [3, 5, 6, 7, 8, 9], [557090, 630884, 925732, 983078], [[2307]]), (1152920583336360993, 0, 65, [4, 8], [], []), (216171887787507682, 72057662757404672, 129, [4, 7], [], []), (187082012088276131, 72198331593396224, 63, [3, 4, 6], [73762], []), (292987077369405700, 0, 51, [1, 2, 3, 5], [47140], []), (1152920583336361125, 0, 1, [4], [], []), (331338045160891686, 0, 3, [0, 3], [], []), (332396975726241063, 0, 3, [0, 2], [], []), (297564449572921608, 0, 17, [0, 1], [], []), (334719146498762025, 0, 1, [0], [], [])]
def gUD_194 : List zUD := [(40780958452024352, 72058796628779008, 4095, [2, 5, 6, 7, 8, 9], [557090, 626790, 921636, 983078], [[2179]]), (1152920583336360993, 106300440576, 65, [4, 8], [], []), (1152921476659124194, 0, 5, [4, 7], [], []), (188277247865754787, 36029999609806944, 783, [2, 4, 6], [69666], []), (292987077369405700, 0, 51, [1, 2, 3, 5], [47140], []), (1152921476662269925, 0, 1, [4], [], []), (331338045160891686, 0, 3, [0, 3], [], []), (332396975726241063, 0, 3, [0, 2], [], []), (297564449572921608, 0, 17, [0, 1], [], []), (334719146498762025, 0, 1, [0], [], [])]
def gUc_D : List (List zUD) := [gUD_146, gUD_147, gUD_148, gUD_149, gUD_150, gUD_151, gUD_152, gUD_153, gUD_154, gUD_155, gUD_156, gUD_157, gUD_158, gUD_159, gUD_160, gUD_161, gUD_162, gUD_163, gUD_164, gUD_165, gUD_166, gUD_167, gUD_168, gUD_169, gUD_170, gUD_171, gUD_172, gUD_173, gUD_174, gUD_175, gUD_176, gUD_177, gUD_178, gUD_179, gUD_180, gUD_181, gUD_182, gUD_183, gUD_184, gUD_185, gUD_186, gUD_187, gUD_188, gUD_189, gUD_190, gUD_191, gUD_192, gUD_193, gUD_194]
theorem kun_D : kunZ gTc_D gUc_D = true := by decide +kernel
def gUD_195 : List zUD := [(74345748671563808, 109355267304620032, 4095, [2, 3, 4], [20546, 24610], []), (1151905555862780961, 0, 257, [1, 3], [], []), (1152921504576408546, 0, 1, [2], [], []), (148727781226844259, 0, 21, [0, 1], [3138], []), (148764065110560900, 0, 1, [0], [], [])]
def gUD_196 : List zUD := [(74381997121800224, 109253112581226496, 4095, [2, 3, 4], [20546, 24610], []), (1152920512469400609, 0, 65, [1, 3], [], []), (1152921504576408546, 0, 1, [2], [], []), (148764029677080675, 0, 21, [0, 1], [3138], []), (148764065110560900, 0, 1, [0], [], [])]
def gUD_197 : List zUD := [(74382032520677408, 109253076176764928, 4095, [2, 3, 4], [20546, 24610], []), (1152921503637961761, 0, 17, [1, 3], [], []), (1152921473468304354, 0, 1, [2], [], []), (148764065075957859, 0, 69, [0, 1], [3138], []), (148764065110560900, 0, 1, [0], [], [])]
def gUD_198 : List zUD := [(38352136024655936, 75647612456271872, 4095, [2, 3, 4], [20513, 24611], []), (144084401749295073, 0, 257, [1, 3], [], []), (1152921504606816322, 0, 1, [2], [], []), (112734168579936387, 0, 7, [0, 1], [3105], []), (148764065110560900, 0, 1, [0], [], [])]
def gUD_199 : List zUD := [(272106172435898233358368, 77919046967349422850048, 65535, [11, 12, 19, 20, 21, 22, 23, 24, 25, 26], [70873252074, 72477573352, 73014444100, 77850476649, 78385250408, 86438314057, 86977282120, 96636764229, 103085506602, 104689827880, 109521666086, 128849018914], [[1074266113, 134938628], [134938628, 67633157], [1074266113, 1082394625, 279969795, 134938628, 136413188, 68175877, 33865734], [134782980, 134938628, 33865734, 17063943]]), (507235477046864451477537, 77919046967349422850048, 21845, [6, 13, 14, 18, 25], [34376515652, 34636628040], []), (1208925819613917662677250, 275146342400, 51, [15, 17, 18, 24], [17616076836], []), (1208925819613918704804099, 0, 51, [15, 16, 18, 23], [8959033380], []), (699480339533865095079300, 0, 3855, [8, 10, 11, 12, 14, 16, 17, 22], [4313055272, 4318036010, 4365221992, 4366532713, 4431544393, 4434427976, 4513071138], [[4199561, 2102026, 134414, 68239], [2102026, 530508, 134414, 34384], [134414, 68239, 34384, 8658]]), (663073571126457864138117, 75557863728113615118336, 3855, [6, 9, 14, 15, 21], [2164260898, 2181627976], []), (662311898561164110462374, 75557863725983042895872, 195, [9, 10, 13, 20], [1083703334], []), (701271421841431179820455, 0, 195, [8, 9, 13, 19], [546045990], []), (1208925819614203556929800, 0, 17, [7, 18], [], []), (932397333016376640120425, 0, 771, [2, 5, 7, 17], [134385704], []), (895727441800972962451050, 0, 771, [3, 4, 7, 16], [67264552], []), (1208925819613928670744171, 0, 3, [7, 15], [], []), (974749759286366313237900, 0, 1285, [1, 6, 7, 14], [16975944], []), (975168678059259228847533, 0, 65, [1, 13], [], []), (894462604718665633617550, 0, 15, [3, 5, 6, 12], [4300834], []), (933244404938330025452175, 0, 15, [2, 4, 6, 11], [2183202], []), (964199447771758471108400, 0, 15, [1, 4, 5, 10], [1099810], []), (965723945247176688402225, 0, 3, [1, 9], [], []), (710448416209820128633650, 0, 15, [1, 2, 3, 8], [276514], []), (1013937784192666514869875, 0, 257, [0, 7], [], []), (1013709282806608480266900, 0, 5, [0, 6], [], []), (1008029055846802234627925, 0, 3, [0, 5], [], []), (1009067699637864918379350, 0, 3, [0, 4], [], []), (900597526356273327237975, 0, 3, [0, 3], [], []), (938306061362740698375000, 0, 3, [0, 2], [], []), (974978260672920901479225, 0, 5, [0, 1], [], []), (1013937784192914791689050, 0, 1, [0], [], [])]
def gUD_200 : List zUD := [(284760703293047239182368, 37815825351113179136000, 65535, [9, 12, 19, 20, 21, 22, 23, 24, 25, 26], [70871679209, 72477573352, 73014444068, 77850476649, 78383677544, 85904064585, 87509958728, 92341796933, 103616610346, 104157151272, 113816633382, 128849018914], [[537395202, 134889476], [134889476, 67633157], [537395202, 545522690, 279969795, 134889476, 136396804, 68191237, 33914886], [134815748, 134889476, 33914886, 17080327]]), (1208925819613919743057953, 283467841536, 85, [15, 17, 18, 25], [34795946052], []), (516423136946044902050050, 37815825351113179136000, 13107, [5, 13, 14, 18, 24], [17196646436, 17456726056], []), (1208925819613918704804099, 0, 51, [15, 16, 18, 23], [8959033380], []), (700661007573945412825380, 0, 3855, [8, 9, 11, 12, 14, 16, 17, 22], [4314103880, 4316463177, 4364697704, 4366532713, 4429971498, 4435476520, 4513071138], [[2102026, 529548, 134414, 68239], [4200521, 529548, 68239, 18001], [134414, 68239, 18001, 8658]]), (629870616380119606210917, 37778931864065263272192, 3855, [5, 10, 14, 15, 21], [2164260898, 2182119464], []), (641651525565710996584422, 37778931862991521447936, 165, [10, 11, 13, 20], [1085276229], []), (717246276032069980108775, 0, 165, [8, 10, 13, 19], [546570309], []), (1208925819614203556929800, 0, 17, [7, 18], [], []), (974749944878679212018985, 0, 1285, [1, 6, 7, 17], [134416456], []), (895727441800972962451050, 0, 771, [3, 4, 7, 16], [67264552], []), (1208925819613928670744171, 0, 3, [7, 15], [], []), (932397228205200717230700, 0, 771, [2, 5, 7, 14], [16945192], []), (944215021870666823481325, 0, 33, [2, 13], [], []), (894462650562846674114190, 0, 15, [3, 5, 6, 12], [4300834], []), (933244661495219431891599, 0, 15, [2, 4, 6, 11], [2183202], []), (943919877355006941193200, 0, 5, [2, 10], [], []), (965379863617818836293425, 0, 15, [1, 4, 5, 9], [575522], []), (710448446783910804448050, 0, 15, [1, 2, 3, 8], [276514], []), (1013937784192666514869875, 0, 257, [0, 7], [], []), (1013709505517299126069908, 0, 5, [0, 6], [], []), (1008028881161725779203925, 0, 3, [0, 5], [], []), (1009067699637864918379350, 0, 3, [0, 4], [], []), (900597526356273327237975, 0, 3, [0, 3], [], []), (938306131236638006535000, 0, 3, [0, 2], [], []), (974978223554543258266425, 0, 5, [0, 1], [], []), (1013937784192914791689050, 0, 1, [0], [], [])]
def gUD_201 : List zUD := [(271649244118452868843552, 152259948001955414016, 65535, [15, 16, 19, 20, 21, 22, 23, 24, 25, 26], [69357011143, 69793218636, 75698798731, 79524003941, 81637933156, 88080384069, 90261422148, 95026151501, 103179878438, 104689827886, 109521666084, 128849018914], [[1073750017, 545406978, 276905987, 33759238], [545406978, 276905987, 138969092, 71598085, 33759238, 34349062], [138969092, 71598085, 33759238, 34349062, 34996230, 35979270], [33759238, 34996230, 35979270, 16785415], [1073750017, 1086324993, 276905987, 71598085, 33759238, 34996230, 16826631]]), (701576129210975461318689, 152259948001955414016, 21845, [3, 8, 17, 18, 25], [34360000588, 34762399812], []), (659414607481390733986050, 151263301404418323251200, 12291, [9, 12, 18, 24], [17453023276], []), (660524870890327127466243, 0, 12291, [9, 11, 18, 23], [8860991532], []), (619810039052586653318436, 75557935783508361347072, 3075, [10, 14, 17, 22], [4447010858], []), (620990527090512506125605, 0, 3075, [10, 13, 17, 21], [2291138602], []), (687674348764381642734150, 0, 255, [8, 11, 12, 13, 14, 15, 16, 20], [1080295458, 1099169828, 1119879237, 1126170724, 1151336549, 1161822276, 1174667302], [[2102026, 1051915, 529548, 264845], [529548, 264845, 137294, 67151], [1051915, 264845, 67151, 8658]]), (286350556488193639237191, 147646010183716442112, 255, [3, 8, 9, 10, 19], [537133090, 538452036], []), (974940400254669580149000, 0, 4097, [1, 18], [], []), (936208895146027921702185, 0, 1025, [2, 17], [], []), (881555726149689674518250, 0, 15, [3, 4, 7, 16], [67264546], []), (882700506989652812157675, 0, 15, [3, 5, 6, 15], [33660962], []), (921659011881696794169100, 0, 15, [2, 5, 7, 14], [16945186], []), (922877267074180572730125, 0, 15, [2, 4, 6, 13], [8474658], []), (961940800062047834127150, 0, 51, [1, 6, 7, 12], [4392996], []), (962765213285756138153775, 0, 51, [1, 4, 5, 11], [2148388], []), (633977431235171623894800, 0, 3, [2, 10], [], []), (672699721978975432009521, 0, 3, [1, 9], [], []), (702223475495514309191250, 0, 85, [1, 2, 3, 8], [276548], []), (1005665564508357211803475, 0, 3, [0, 7], [], []), (1006847100555487976706900, 0, 3, [0, 6], [], []), (1007850352842997440899925, 0, 3, [0, 5], [], []), (1009067699637864918379350, 0, 3, [0, 4], [], []), (897059213632933121059575, 0, 5, [0, 3], [], []), (936018662916171724843800, 0, 5, [0, 2], [], []), (974940214299588192692025, 0, 17, [0, 1], [], []), (1013937784192914791689050, 0, 1, [0], [], [])]
def gUD_202 : List zUD := [(194186828086192550021152, 77919047112484680892416, 65535, [11, 12, 19, 20, 21, 22, 23, 24, 25, 26], [69262639303, 69793218632, 75698798731, 79461089381, 81606475876, 88048926789, 90198507588, 95026151497, 103085506598, 104689827882, 109521666084, 128849018914], [[1074003969, 138461188, 71327749, 33857542], [138461188, 71327749, 33857542, 34013190], [34013190, 17039367], [1074003969, 1086326785, 278396931, 71327749, 33857542, 34701318, 17319943]]), (351397122848151762640929, 77919047112484680892416, 21845, [6, 13, 17, 18, 25], [34368127048, 34762457156], []), (1208925110731994956040450, 144255925564211200, 771, [14, 16, 18, 24], [17532190760], []), (1208925111824909513892099, 0, 771, [14, 15, 18, 23], [8908701736], []), (662311377930810106576164, 75557935783508361347072, 3075, [9, 10, 17, 22], [4430757930], []), (701270903666284364299557, 0, 3075, [8, 9, 17, 21], [2282487850], []), (699480258216298220464550, 0, 255, [8, 10, 11, 12, 13, 15, 16, 20], [1083441188, 1088421926, 1110442084, 1111752805, 1143210053, 1146093636, 1182793762], [[2102410, 1053451, 134414, 68239], [1053451, 268365, 134414, 34384], [134414, 68239, 34384, 8658]]), (663073094689902044787111, 75557863866651813875712, 255, [6, 9, 13, 14, 19], [545259554, 554238020], []), (1208925373322859459649800, 0, 257, [7, 18], [], []), (975168455784399420521769, 0, 1025, [1, 17], [], []), (932397140299660945631850, 0, 51, [2, 5, 7, 16], [67276836], []), (895727319778389500743275, 0, 51, [3, 4, 7, 15], [33710116], []), (1208925121113583745650284, 0, 3, [7, 14], [], []), (974749498986068205751725, 0, 85, [1, 6, 7, 13], [8587332], []), (894462604718665633617550, 0, 15, [3, 5, 6, 12], [4300834], []), (933244579384479500165775, 0, 15, [2, 4, 6, 11], [2183202], []), (964199550128496820574000, 0, 15, [1, 4, 5, 10], [1099810], []), (965723434588284263595825, 0, 3, [1, 9], [], []), (710448446783910804448050, 0, 15, [1, 2, 3, 8], [276514], []), (1013937523856049124789875, 0, 17, [0, 7], [], []), (1013709282806608480266900, 0, 5, [0, 6], [], []), (1008029055846802234627925, 0, 3, [0, 5], [], []), (1009067839112980911057750, 0, 3, [0, 4], [], []), (900597526356273327237975, 0, 3, [0, 3], [], []), (938306131236638006535000, 0, 3, [0, 2], [], []), (974978223554543258266425, 0, 5, [0, 1], [], []), (1013937784192914791689050, 0, 1, [0], [], [])]
def gUD_203 : List zUD := [(285158062324649099854880, 37778936366591148822528, 65535, [9, 17, 19, 20, 21, 22, 23, 24, 25, 26], [69927960747, 71538049193, 73149186216, 78920024203, 79457419401, 82141249672, 85899345954, 91268055144, 103616610348, 106300440618, 109521666088, 111803367460], [[1083310081, 539238402, 539508738, 541343746, 545284098, 68812805], [539508738, 541343746, 270630915, 134479876, 135332356, 68812805, 33718790], [134479876, 33816582], [539238402, 539508738, 134479876, 135332356, 68812805, 33718790, 16883719]]), (1208925187259103760883745, 148618787703226368, 1285, [12, 15, 18, 25], [34665922632], []), (700739255293033769410818, 0, 13107, [8, 9, 13, 14, 16, 17, 18, 24], [17255628936, 17264279689, 17322999976, 17331126441, 17449091116, 17473470504, 17649631268], [[4199177, 2102410, 527628, 264845], [8394824, 2102410, 264845, 18001], [527628, 264845, 18001, 8658]]), (642222854475928984453091, 37778967891754180673536, 2313, [10, 11, 16, 23], [8660189288], []), (593486425313178931342692, 37778936366591148822528, 255, [4, 11, 13, 15, 22], [4303355938, 4330635300], []), (1208925184796197714803045, 0, 15, [12, 14, 15, 21], [2202009634], []), (631266261389244369385926, 37778936366556790128768, 255, [4, 10, 12, 13, 20], [1079001124, 1082130466], []), (717771494830012624371687, 0, 153, [8, 10, 11, 19], [540278884], []), (974939991153455058395400, 0, 4369, [1, 6, 7, 18], [268634248], []), (895727441800971855122025, 0, 771, [3, 4, 7, 17], [134373416], []), (932290111213895122505322, 0, 771, [2, 5, 7, 16], [67276840], []), (1208925410187285316129131, 0, 5, [6, 15], [], []), (894509871860471119106700, 0, 51, [3, 5, 6, 14], [16883748], []), (933507198833298210476685, 0, 51, [2, 4, 6, 13], [8474660], []), (1208925194129951923255950, 0, 3, [6, 12], [], []), (944454597610443479220207, 0, 9, [2, 11], [], []), (944455462311192670535664, 0, 9, [2, 10], [], []), (965200183503485799032625, 0, 51, [1, 4, 5, 9], [575524], []), (710479545265237871126322, 0, 51, [1, 2, 3, 8], [276516], []), (1013937784192666514869875, 0, 257, [0, 7], [], []), (1013937561047029934346900, 0, 17, [0, 6], [], []), (1007850352842997440899925, 0, 3, [0, 5], [], []), (1009067699637864918379350, 0, 3, [0, 4], [], []), (900597526356273327237975, 0, 3, [0, 3], [], []), (938377542564129471753048, 0, 3, [0, 2], [], []), (974940214299588192692025, 0, 17, [0, 1], [], []), (1013937784192914791689050, 0, 1, [0], [], [])]
def gUD_204 : List zUD := [(268217005560176094316576, 4727014232869463654400, 65535, [14, 16, 19, 20, 21, 22, 23, 24, 25, 26], [69340233895, 69793218604, 75698798731, 79524003941, 81621155940, 85983232069, 87509958733, 92341796932, 105243476006, 107441291300, 112206020654, 128849018914], [[536879106, 139493380, 71598085, 34873350], [139493380, 71598085, 33759238, 34471942, 34873350, 35979270], [33759238, 34471942, 35979270, 16785415], [536879106, 549454082, 276905987, 71598085, 33759238, 34471942, 16826631]]), (662845701879100710592545, 155838093934698292051968, 20485, [9, 12, 18, 25], [34632892492], []), (690139163155278463240450, 4727014232869463654400, 13107, [3, 8, 17, 18, 24], [17180131372, 17582530596], []), (660524870890327127466243, 0, 12291, [9, 11, 18, 23], [8860991532], []), (641503430771656990107620, 37778967891754180673536, 2565, [10, 15, 17, 22], [4463788105], []), (641577109837478342141925, 0, 2565, [10, 13, 17, 21], [2291138633], []), (697967631957549051791814, 0, 255, [8, 11, 12, 13, 14, 15, 16, 20], [1080295458, 1103101990, 1115947076, 1126170724, 1151336549, 1157890117, 1178599460], [[2102026, 1053835, 527628, 264845], [1053835, 264845, 137294, 67151], [527628, 264845, 67151, 8658]]), (285206865990625109002791, 4722402511666665226368, 255, [3, 8, 9, 10, 19], [537133090, 538452004], []), (974940400254669580149000, 0, 4097, [1, 18], [], []), (944214789709003726235625, 0, 513, [2, 17], [], []), (895280108103404202188394, 0, 15, [3, 4, 7, 16], [67264546], []), (931915411367939945456235, 0, 15, [2, 5, 7, 15], [33722402], []), (894174372022275951746700, 0, 15, [3, 5, 6, 14], [16883746], []), (933170545904439001834125, 0, 15, [2, 4, 6, 13], [8474658], []), (974521480611034323281358, 0, 85, [1, 6, 7, 12], [4393028], []), (962765213285756138153775, 0, 51, [1, 4, 5, 11], [2148388], []), (641983334523878987785200, 0, 5, [2, 10], [], []), (672699721978975432009521, 0, 3, [1, 9], [], []), (710229361332789760019250, 0, 51, [1, 2, 3, 8], [276516], []), (1013671459071363181800051, 0, 5, [0, 7], [], []), (1013709282806608480266900, 0, 5, [0, 6], [], []), (1007850352842997440899925, 0, 3, [0, 5], [], []), (1009067699637864918379350, 0, 3, [0, 4], [], []), (900490304758499613957975, 0, 3, [0, 3], [], []), (938306061362740698375000, 0, 3, [0, 2], [], []), (974940214299588192692025, 0, 17, [0, 1], [], []), (1013937784192914791689050, 0, 1, [0], [], [])]
def gUD_205 : List zUD := [(209128687512710528731168, 37815829859102254694400, 65535, [9, 12, 19, 20, 21, 22, 23, 24, 25, 26], [69261066407, 69793218600, 75698798731, 79461089381, 81604903012, 85904064581, 87509958729, 92341796932, 105227223078, 107378376740, 112206020650, 128849018914], [[537133058, 138510340, 71344133, 33890310], [138510340, 71344133, 33890310, 33964038], [33964038, 17039367], [537133058, 549454850, 278396931, 71344133, 33890310, 34684934, 17335303]]), (1208925112913426025553953, 148618787703226368, 1285, [14, 16, 18, 25], [34712059976], []), (365159541395088972450050, 37815829859102254694400, 13107, [5, 13, 17, 18, 24], [17188257832, 17582555172], []), (1208925111824909513892099, 0, 771, [14, 15, 18, 23], [8908701736], []), (641651004864984154875876, 37778967891754180673536, 2565, [10, 11, 17, 22], [4432330825], []), (717245762184594723940325, 0, 2565, [8, 10, 17, 21], [2283012169], []), (700660855290666184717638, 0, 255, [8, 9, 11, 12, 13, 15, 16, 20], [1084489796, 1086849093, 1109917796, 1111752805, 1141637158, 1147142180, 1182793762], [[1053451, 267405, 134414, 68239], [2103370, 267405, 68239, 18001], [134414, 68239, 18001, 8658]]), (629870107188044121912711, 37778936366556790128768, 255, [5, 10, 13, 14, 19], [545259554, 554729508], []), (1208925373322859459649800, 0, 257, [7, 18], [], []), (944214789709003726235625, 0, 513, [2, 17], [], []), (974749721587871801527626, 0, 85, [1, 6, 7, 16], [67307588], []), (895727319778389500743275, 0, 51, [3, 4, 7, 15], [33710116], []), (1208925121113583745650284, 0, 3, [7, 14], [], []), (932396934058667410044525, 0, 51, [2, 5, 7, 13], [8556580], []), (894462650562846674114190, 0, 15, [3, 5, 6, 12], [4300834], []), (933244731130522944365199, 0, 15, [2, 4, 6, 11], [2183202], []), (943919353573455753634800, 0, 5, [2, 10], [], []), (965380004217734151493425, 0, 15, [1, 4, 5, 9], [575522], []), (710448416209820128633650, 0, 15, [1, 2, 3, 8], [276514], []), (1013937523856049124789875, 0, 17, [0, 7], [], []), (1013709505517299126069908, 0, 5, [0, 6], [], []), (1008028881161725779203925, 0, 3, [0, 5], [], []), (1009067839112980911057750, 0, 3, [0, 4], [], []), (900597526356273327237975, 0, 3, [0, 3], [], []), (938306061362740698375000, 0, 3, [0, 2], [], []), (974978260672920901479225, 0, 5, [0, 1], [], []), (1013937784192914791689050, 0, 1, [0], [], [])]
def gUD_206 : List zUD := [(270592305362916415375392, 2398076729584422748160, 65535, [13, 18, 19, 20, 21, 22, 23, 24, 25, 26], [69533171819, 72209137769, 73291268200, 77309411366, 82141249768, 87509958733, 88055218249, 91268055112, 104161345578, 105763569710, 109521666088, 120527519778], [[1076903937, 270925827, 277020675, 68239365], [541597698, 270630915, 270925827, 272793603, 277020675, 34217990], [270630915, 270925827, 134250500, 135790852, 68239365, 34217990, 16802055], [134250500, 16809991]]), (663492490116763375107105, 77919046967349146025984, 16705, [9, 15, 16, 25], [34460926152], []), (717320068636524020730850, 37815825351104580812800, 8481, [8, 14, 17, 24], [17331126440], []), (622703765614131350349123, 0, 3855, [10, 11, 12, 13, 16, 17, 18, 23], [8660189224, 8669626410, 8729395272, 8734638153, 8864661609, 8867807336, 9059696674], [[8393480, 4199561, 265485, 133774], [4199561, 2103370, 133774, 67151], [265485, 133774, 67151, 33232]]), (617919499252699550691684, 2398076729584422748160, 255, [3, 10, 14, 15, 22], [4296015910, 4345307170], []), (661131306664401634852197, 0, 195, [9, 11, 15, 21], [2183659558], []), (717172487928707003954150, 0, 165, [8, 12, 14, 20], [1094975557], []), (285214030118980534651431, 2398076729582241711168, 255, [3, 8, 9, 10, 19], [537665570, 537919526], []), (895727476669417211055720, 0, 771, [3, 4, 7, 18], [268591144], []), (932397228205097537349225, 0, 771, [2, 5, 7, 17], [134385704], []), (974749759286295446277450, 0, 1285, [1, 6, 7, 16], [67307592], []), (975168677986691461414251, 0, 65, [1, 15], [], []), (944215020743667405009900, 0, 33, [2, 14], [], []), (894461206282577473427085, 0, 15, [3, 5, 6, 13], [8495138], []), (933207684770397814481550, 0, 15, [2, 4, 6, 12], [4280354], []), (963018820905861865232175, 0, 15, [1, 4, 5, 11], [2148386], []), (634890517817102004118320, 0, 15, [1, 2, 3, 10], [1062946], []), (672937223309524973125425, 0, 3, [1, 9], [], []), (717541436334517814027250, 0, 5, [2, 8], [], []), (1013937784192666514869875, 0, 257, [0, 7], [], []), (1013709282806608480266900, 0, 5, [0, 6], [], []), (1008028881161725779203925, 0, 3, [0, 5], [], []), (1009067839112980911057750, 0, 3, [0, 4], [], []), (900597421749736811785047, 0, 3, [0, 3], [], []), (938306131236638006535000, 0, 3, [0, 2], [], []), (974978260672920901479225, 0, 5, [0, 1], [], []), (1013937784192914791689050, 0, 1, [0], [], [])]
def gUD_207 : List zUD := [(247008287179841085933600, 37781237706000737239040, 65535, [9, 17, 19, 20, 21, 22, 23, 24, 25, 26], [69391089771, 72074920041, 73149186152, 77309411364, 82141249704, 87509958733, 88047353929, 91268055112, 104153481258, 105763569708, 109521666088, 120393302050], [[1083244545, 270671875, 270811139, 272777219, 276848643, 68485125], [539525122, 270671875, 272777219, 34119686], [270671875, 270811139, 134348804, 135791108, 68485125, 34119686, 16876039], [134348804, 16908295]]), (1208317076334518289300513, 76092819304051900416, 4369, [11, 15, 18, 25], [34663825544], []), (641688417934349252398050, 37815825351104580812800, 8481, [10, 14, 16, 24], [17264804008], []), (700622961127939675302147, 0, 3855, [8, 9, 12, 13, 16, 17, 18, 23], [8661499976, 8665956425, 8728871016, 8732803177, 8859156522, 8870953000, 9059696674], [[4199177, 2102410, 265485, 133774], [8394824, 2102410, 133774, 18001], [265485, 133774, 18001, 8658]]), (479850195518079391969636, 37781237706000737239040, 255, [4, 12, 14, 15, 22], [4299161636, 4345315362], []), (1208314770280403018186085, 0, 51, [11, 13, 15, 21], [2191523876], []), (717246274905070561637350, 0, 165, [8, 10, 14, 20], [1091829829], []), (630712284894364207628775, 37781237705966375404608, 255, [4, 10, 11, 12, 19], [540033058, 541065252], []), (974749944878679177415944, 0, 1285, [1, 6, 7, 18], [268634184], []), (895727441800971855122025, 0, 771, [3, 4, 7, 17], [134373416], []), (932397228205131930643050, 0, 771, [2, 5, 7, 16], [67276840], []), (1208507308382778834287979, 0, 17, [6, 15], [], []), (944215020743667405009900, 0, 33, [2, 14], [], []), (894461497606157661623949, 0, 15, [3, 5, 6, 13], [8495138], []), (933207768005972467606158, 0, 15, [2, 4, 6, 12], [4280354], []), (1208322841092674826534543, 0, 3, [6, 11], [], []), (943919877355006941193200, 0, 5, [2, 10], [], []), (965379863617818836293425, 0, 15, [1, 4, 5, 9], [575522], []), (710448446783910804448050, 0, 15, [1, 2, 3, 8], [276514], []), (1013937784192666514869875, 0, 257, [0, 7], [], []), (1013709505517299126069908, 0, 5, [0, 6], [], []), (1008028881161725779203925, 0, 3, [0, 5], [], []), (1009067699637864918379350, 0, 3, [0, 4], [], []), (900597526356273327237975, 0, 3, [0, 3], [], []), (938306131236638006535000, 0, 3, [0, 2], [], []), (974978223554543258266425, 0, 5, [0, 1], [], []), (1013937784192914791689050, 0, 1, [0], [], [])]
def gUD_208 : List zUD := [(198457491944740528324773920, 233549578151289248481804288, 262143, [3, 4, 5, 6, 7, 8], [278632, 294950, 327746, 376903, 417832, 466978], [[2114, 1091]]), (1237940039285380273998566433, 0, 21, [3, 7], [139330], []), (202087963472277262093682850, 232340652331639434935009280, 12483, [1, 3, 6], [67622], []), (318258211236053525338528963, 0, 63, [0, 1, 2, 5], [34882, 39970], [[166]]), (1208893914997130924935585764, 0, 21, [1, 4], [18498], []), (1237940039285380273998566565, 0, 1, [3], [], []), (319468321142117470216396998, 0, 21, [0, 2], [5186], []), (318258289634715978190560519, 0, 3, [0, 1], [], []), (319468397234936845135257864, 0, 1, [0], [], [])]
def gUD_209 : List zUD := [(237107884962160775406879776, 78584900713530942524755968, 262143, [2, 4, 5, 6, 7, 8], [278760, 295110, 327714, 376934, 413736, 430118], [[2114, 1091]]), (1237939088125138088413363233, 0, 4161, [2, 7], [135366], []), (318221691329376668732167330, 0, 12483, [0, 1, 3, 6], [67782, 76838], [[293]]), (240847999220076787426105539, 77375974893881128977960960, 63, [1, 2, 5], [34850], []), (1207905760752969472565051364, 0, 25, [1, 4], [18531], []), (319468397234936845031347365, 0, 4161, [0, 3], [9414], []), (1237939088125138088413363398, 0, 1, [2], [], []), (318221691329376668838240519, 0, 3, [0, 1], [], []), (319468397234936845135257864, 0, 1, [0], [], [])]
def gUD_210 : List zUD := [(44882592037775942397002784, 309497037602902290187948032, 262143, [6, 7, 8, 9, 10, 11], [2162728, 2228266, 2359334, 2556105, 2621474, 2818153, 2949222, 3014762], []), (1237940039285380274899123233, 0, 1, [10], [], []), (244588121548443339030862018, 232121062709021161209987072, 12483, [1, 5, 9], [526374], []), (283274957226799728620281059, 77375974893881128977960960, 63, [1, 4, 8], [264226], []), (321735135448124055317979396, 38687987482967196810871872, 63, [1, 3, 7], [133154], []), (354604023696615059340207397, 116058059274628451111272544, 63, [1, 2, 6], [67618], []), (1237940039285380274033203398, 0, 1, [5], [], []), (1237939126171547775872793831, 0, 1, [4], [], []), (1237070275276383882143858664, 0, 1, [3], [], []), (1211342858803711599232133097, 0, 1, [2], [], []), (438022340292477985763962218, 0, 3, [0, 1], [], []), (439269046198038162060979563, 0, 1, [0], [], [])]
def gUD_211 : List zUD := [(44772797121757981054109728, 309863020516683728690479104, 262143, [6, 7, 8, 9, 10, 11], [2162728, 2228266, 2359334, 2556137, 2621474, 2818121, 2949191, 3014731], []), (1237940039285380274899123233, 0, 1, [10], [], []), (244441728327086101621835970, 232340652331639434935009280, 12483, [1, 5, 9], [526374], []), (283165162310781567561345251, 77522368185044293755469824, 63, [1, 4, 8], [264226], []), (321881528669481492443048196, 38798963026634705870028896, 63, [1, 3, 7], [133154], []), (354567425391275749987887397, 77409031387201424473456704, 63, [1, 2, 6], [67618], []), (1237940039285380274033203398, 0, 1, [5], [], []), (1237939126171547775872793831, 0, 1, [4], [], []), (1237912036299188762824409064, 0, 1, [3], [], []), (1211342859571575335698104297, 0, 1, [2], [], []), (438058938597817295116282218, 0, 3, [0, 1], [], []), (439269046198038162060979563, 0, 1, [0], [], [])]
def gUD_212 : List zUD := [(199515412716206755553511488, 239597527653127790857814016, 262143, [3, 4, 5, 6, 7, 8], [278663, 295014, 327713, 376873, 417895, 466979], [[2114, 1091]]), (1237940039285380273998435489, 0, 7, [3, 7], [139297], []), (199670185622276029679831106, 239593985874887938903375872, 37449, [1, 3, 6], [67686], []), (319391616084163922013396195, 0, 63, [0, 1, 2, 5], [34849, 39971], [[166]]), (1237910680291543423941319908, 0, 7, [1, 4], [18465], []), (1237940039285380273998566565, 0, 1, [3], [], []), (319392837065297550706417926, 0, 7, [0, 2], [5153], []), (319467178559716594400107751, 0, 9, [0, 1], [], []), (319468397234936845135257864, 0, 1, [0], [], [])]
def gUD_213 : List zUD := [(194827322626752232856553536, 79790359662112849069899776, 262143, [3, 4, 5, 6, 7, 8], [278563, 294949, 327713, 376868, 417929, 466985], [[1091, 580]]), (232112798134232850154651617, 77371326242314761044754432, 273, [3, 7], [139396], []), (1237940039285353035385243714, 0, 73, [1, 6], [67683], []), (317048184412394510666144995, 0, 3591, [0, 1, 2, 5], [34849, 39977], [[166]]), (199667748271834499630996708, 78580253250947861564096512, 3591, [1, 3, 4], [18465], []), (1236927091645502751093293029, 0, 1, [3], [], []), (317048184412395714432475398, 0, 7, [0, 2], [5153], []), (319468397234935710155513063, 0, 513, [0, 1], [], []), (319468397234936845135257864, 0, 1, [0], [], [])]
def gUD_214 : List zUD := [(194827322588507987553355840, 79790359626296248131321856, 262143, [3, 4, 5, 6, 7, 8], [278563, 294949, 327713, 376868, 417926, 466982], [[1091, 580]]), (232112797198568213914320865, 77371326314370156059426816, 2065, [3, 7], [139396], []), (1237940038392823122918344770, 0, 521, [1, 6], [67683], []), (317048184370772668721634531, 0, 455, [0, 1, 2, 5], [34849, 39974], [[166]]), (199667748238128899814563044, 78580253214849797460066304, 455, [1, 3, 4], [18465], []), (1236927090738055120127262693, 0, 1, [3], [], []), (317048184410214349934960902, 0, 7, [0, 2], [5153], []), (319468397197746963802725607, 0, 65, [0, 1], [], []), (319468397234936845135257864, 0, 1, [0], [], [])]
def gUD_215 : List zUD := [(194830787011900293001578560, 79789111050411433888251904, 262143, [3, 4, 5, 6, 7, 8], [278563, 294949, 327713, 376868, 417926, 466982], [[1091, 580]]), (232083061954596719032270817, 77373613640829501819584512, 16401, [3, 7], [139396], []), (1237910791972651407573747778, 0, 4105, [1, 6], [67683], []), (317049179311667031317912803, 0, 455, [0, 1, 2, 5], [34849, 39974], [[166]]), (199666643773034114916261092, 78580178277238982200786944, 455, [1, 3, 4], [18465], []), (1236927090738055120127262693, 0, 1, [3], [], []), (317050471736673695695118598, 0, 7, [0, 2], [5153], []), (319467178596906475663367399, 0, 65, [0, 1], [], []), (319468397234936845135257864, 0, 1, [0], [], [])]
def gUD_216 : List zUD := [(158451967636985922837350464, 229108599712353347633152, 262143, [2, 4, 5, 6, 7, 8], [278563, 294949, 327713, 376868, 413830, 462886], [[1091, 580]]), (270769868775011469942063073, 77373613640829501819584512, 16401, [2, 7], [135300], []), (279564095785882995819513922, 0, 32777, [1, 6], [67683], []), (274700252188781771805138147, 0, 455, [0, 1, 3, 5], [34849, 44070], [[293]]), (163476750222343953038154980, 2398079017668086595584, 455, [1, 2, 4], [18465], []), (315841508987542120975048965, 0, 7, [0, 3], [9249], []), (270799353869918535469236198, 0, 1, [2], [], []), (279536066255791125173607655, 0, 65, [0, 1], [], []), (319468397234936845135257864, 0, 1, [0], [], [])]
def gUD_217 : List zUD := [(158448532105411187907266624, 113340328663948495683584, 262143, [2, 4, 5, 6, 7, 8], [278572, 294958, 327713, 376877, 413799, 462883], [[1091, 580]]), (270798460355752465188061153, 77371326314370224776806400, 2177, [2, 7], [135399], []), (279534848473154130156685378, 0, 36865, [1, 6], [67980], []), (274694421969438371171441891, 0, 63, [0, 1, 3, 5], [34849, 44067], [[293]]), (163477858179909880186608868, 73183563771609088, 63, [1, 2, 4], [18465], []), (315838077997849807121719557, 0, 7, [0, 3], [9249], []), (270798461255566152537472998, 0, 1, [2], [], []), (279534847617760755770989799, 0, 9, [0, 1], [], []), (319468397234936845135257864, 0, 1, [0], [], [])]
def gUD_218 : List zUD := [(158451967706645487486535744, 115771765913323600609280, 262143, [2, 4, 5, 6, 7, 8], [278569, 294955, 327713, 376874, 413799, 462883], [[1091, 580]]), (270769868775010643186089953, 77373613640829570536964096, 16513, [2, 7], [135399], []), (279564094893325845501282370, 0, 33281, [1, 6], [67881], []), (274700252115559798343376099, 0, 63, [0, 1, 3, 5], [34849, 44067], [[293]]), (163476750256156134584032484, 2398076729652068548608, 63, [1, 2, 4], [18465], []), (315841508987538825761956101, 0, 7, [0, 3], [9249], []), (270799354742464334475034598, 0, 1, [2], [], []), (279536066218601243910348007, 0, 9, [0, 1], [], []), (319468397234936845135257864, 0, 1, [0], [], [])]
def gUD_219 : List zUD := [(194830787082722040332978240, 79789107553436761805815808, 262143, [3, 4, 5, 6, 7, 8], [278569, 294955, 327713, 376874, 417895, 466979], [[1091, 580]]), (232083061954595857917607905, 77373613640829570536964096, 16513, [3, 7], [139495], []), (1237910791080094257255516226, 0, 4609, [1, 6], [67881], []), (317049179202417359275105507, 0, 63, [0, 1, 2, 5], [34849, 39971], [[166]]), (199666643844036177725398244, 78580178274950966182739968, 63, [1, 3, 4], [18465], []), (1236927091645502751093293029, 0, 1, [3], [], []), (317050471736671498886390022, 0, 7, [0, 2], [5153], []), (319467178559716594400107751, 0, 9, [0, 1], [], []), (319468397234936845135257864, 0, 1, [0], [], [])]
def gUD_220 : List zUD := [(158451967636982556759459904, 115771804122385605459968, 262143, [2, 4, 5, 6, 7, 8], [278566, 294952, 327713, 376871, 413799, 462883], [[1091, 580]]), (270769868775010643186089953, 77373613640829570536964096, 16513, [2, 7], [135399], []), (279564095785855757968181314, 0, 32833, [1, 6], [67782], []), (274700252188776242203499747, 0, 63, [0, 1, 3, 5], [34849, 44067], [[293]]), (163476750222344984872557796, 2398079016566461104128, 63, [1, 2, 4], [18465], []), (315841508987538825761956101, 0, 7, [0, 3], [9249], []), (270799353869918535469236198, 0, 1, [2], [], []), (279536066255789990263135463, 0, 9, [0, 1], [], []), (319468397234936845135257864, 0, 1, [0], [], [])]
def gUD_221 : List zUD := [(194830787011898060760451136, 79789107591645823810666496, 262143, [3, 4, 5, 6, 7, 8], [278566, 294952, 327713, 376871, 417895, 466979], [[1091, 580]]), (232083061954595857917607905, 77373613640829570536964096, 16513, [3, 7], [139495], []), (1237910791972624169722415170, 0, 4161, [1, 6], [67782], []), (317049179311661500642565347, 0, 63, [0, 1, 2, 5], [34849, 39971], [[166]]), (199666643773036281661136100, 78580178277237880575295488, 63, [1, 3, 4], [18465], []), (1236927090738055120127262693, 0, 1, [3], [], []), (317050471736671498886390022, 0, 7, [0, 2], [5153], []), (319467178596905340752895207, 0, 9, [0, 1], [], []), (319468397234936845135257864, 0, 1, [0], [], [])]
def gUD_222 : List zUD := [(194827322588505755312228416, 79790359626189598758010880, 262143, [3, 4, 5, 6, 7, 8], [278566, 294952, 327713, 376871, 417895, 466979], [[1091, 580]]), (232112797198567352799657953, 77371326314370224776806400, 2177, [3, 7], [139495], []), (1237940038392795885067012162, 0, 577, [1, 6], [67782], []), (317048184370767138046287075, 0, 63, [0, 1, 2, 5], [34849, 39971], [[166]]), (199667748238131066559438052, 78580253214848695834574848, 63, [1, 3, 4], [18465], []), (1236927090738055120127262693, 0, 1, [3], [], []), (317048184410212153126232326, 0, 7, [0, 2], [5153], []), (319468397197745828892253415, 0, 9, [0, 1], [], []), (319468397234936845135257864, 0, 1, [0], [], [])]
def gUD_223 : List zUD := [(44925095787068495161788480, 79791503325342521949978624, 262143, [3, 4, 5, 6, 7, 8], [278563, 294949, 327713, 376868, 434345, 466985], [[1091, 580]]), (1206477272592204838274596833, 2420212822470761958604800, 161, [3, 7], [139429], []), (1237940039285353035385243714, 0, 73, [1, 6], [67683], []), (199667748271837660595854563, 41105840204256600020484096, 3591, [1, 3, 5], [34849], []), (242097070992549480853904612, 0, 3591, [0, 1, 2, 4], [18465, 23593], [[166]]), (1236956826889501939079315429, 0, 1, [3], [], []), (242097070992551715346325766, 0, 7, [0, 2], [5153], []), (319468397234935710155513063, 0, 513, [0, 1], [], []), (319468397234936845135257864, 0, 1, [0], [], [])]
def gUD_224 : List zUD := [(44925095748824249858590784, 79791503324427752971632640, 262143, [3, 4, 5, 6, 7, 8], [278563, 294949, 327713, 376868, 434342, 466982], [[1091, 580]]), (1206477272563987833000296417, 2420212824722493052813312, 1057, [3, 7], [139429], []), (1237940038392823122918344770, 0, 521, [1, 6], [67683], []), (199667748341711691113012451, 41105840203060367876685824, 455, [1, 3, 5], [34849], []), (242097070847348008575802596, 0, 455, [0, 1, 2, 4], [18465, 23590], [[166]]), (1236956827796949570045345765, 0, 1, [3], [], []), (242097070920566686928347398, 0, 7, [0, 2], [5153], []), (319468397197746963802725607, 0, 65, [0, 1], [], []), (319468397234936845135257864, 0, 1, [0], [], [])]
def gUD_225 : List zUD := [(44923985519297863786498112, 79789111085313265848483840, 262143, [3, 4, 5, 6, 7, 8], [278563, 294949, 327713, 376868, 434342, 466982], [[1091, 580]]), (1206507007807959327882346465, 2417925498263147292655616, 2081, [3, 7], [139429], []), (1237910791972651407573747778, 0, 4105, [1, 6], [67683], []), (199670037973943677342686435, 41103477938990206857248768, 455, [1, 3, 5], [34849], []), (242092384364456254283947236, 0, 455, [0, 1, 2, 4], [18465, 23590], [[166]]), (1236956827796949570045345765, 0, 1, [3], [], []), (242094783594107341168189702, 0, 7, [0, 2], [5153], []), (319467178596906475663367399, 0, 65, [0, 1], [], []), (319468397234936845135257864, 0, 1, [0], [], [])]
def gUD_226 : List zUD := [(158446211238362791148587072, 229108634614185307865088, 262143, [3, 4, 5, 6, 7, 8], [278563, 294949, 327713, 376868, 434342, 466982], [[1091, 580]]), (1206507007807959327882346465, 2417925498263147292655616, 2081, [3, 7], [139429], []), (279564095785882995819513922, 0, 32777, [1, 6], [67683], []), (274696706951668451299794147, 1254450689827166748672, 455, [1, 3, 5], [34849], []), (163476826387293487614893284, 0, 455, [0, 1, 2, 4], [18465, 23590], [[166]]), (1206507937970138810826096613, 0, 1, [3], [], []), (242094783594107341168189702, 0, 7, [0, 2], [5153], []), (279536066255791125173607655, 0, 65, [0, 1], [], []), (319468397234936845135257864, 0, 1, [0], [], [])]
def gUD_227 : List zUD := [(44925095748822017617463360, 79791503324322168717705216, 262143, [3, 4, 5, 6, 7, 8], [278566, 294952, 327713, 376871, 434280, 466979], [[1091, 580]]), (1206477272563959278781661153, 2420212824724692008960000, 1281, [3, 7], [139528], []), (1237940038392795885067012162, 0, 577, [1, 6], [67782], []), (199667748341709563021663459, 41105840203060331370577920, 63, [1, 3, 5], [34849], []), (242097070847346772736679140, 0, 63, [0, 1, 2, 4], [18465, 23587], [[166]]), (1236956827796949570045345765, 0, 1, [3], [], []), (242097070920566620358385926, 0, 7, [0, 2], [5153], []), (319468397197745828892253415, 0, 9, [0, 1], [], []), (319468397234936845135257864, 0, 1, [0], [], [])]
def gUD_228 : List zUD := [(44923985519295631545370688, 79789107626548720890281984, 262143, [3, 4, 5, 6, 7, 8], [278566, 294952, 327713, 376871, 434280, 466979], [[1091, 580]]), (1206507007807930773663711201, 2417925498265346248802304, 2305, [3, 7], [139528], []), (1237910791972624169722415170, 0, 4161, [1, 6], [67782], []), (199670037973941549251337443, 41103477938990170351140864, 63, [1, 3, 5], [34849], []), (242092384364455018444823780, 0, 63, [0, 1, 2, 4], [18465, 23587], [[166]]), (1236956827796949570045345765, 0, 1, [3], [], []), (242094783594107274598228230, 0, 7, [0, 2], [5153], []), (319467178596905340752895207, 0, 9, [0, 1], [], []), (319468397234936845135257864, 0, 1, [0], [], [])]
def gUD_229 : List zUD := [(158446211238360558907459648, 115771839025282685075456, 262143, [3, 4, 5, 6, 7, 8], [278566, 294952, 327713, 376871, 434280, 466979], [[1091, 580]]), (1206507007807930773663711201, 2417925498265346248802304, 2305, [3, 7], [139528], []), (279564095785855757968181314, 0, 32833, [1, 6], [67782], []), (274696706951666323208445155, 1254450689790660640768, 63, [1, 3, 5], [34849], []), (163476826387292251775769828, 0, 63, [0, 1, 2, 4], [18465, 23587], [[166]]), (1206507937970138810826096613, 0, 1, [3], [], []), (242094783594107274598228230, 0, 7, [0, 2], [5153], []), (279536066255789990263135463, 0, 9, [0, 1], [], []), (319468397234936845135257864, 0, 1, [0], [], [])]
def gUD_230 : List zUD := [(39938385119817786186565696, 280697463741786499110141952, 262143, [6, 7, 8, 9, 10, 11], [2162791, 2228328, 2359398, 2556202, 2621473, 2818090, 2949161, 3014699], []), (1237940039285380274898141153, 0, 1, [10], [], []), (239606172627083636792035394, 239593985874887938903375872, 37449, [1, 5, 9], [526438], []), (279538495535533668846250307, 41103477866898560206766080, 63, [1, 4, 8], [264225], []), (319470613008275679977154884, 41103477866899592038121472, 63, [1, 3, 7], [133153], []), (359397262600791114921584965, 41103477866897428514373632, 63, [1, 2, 6], [67617], []), (1237940039285380274033203398, 0, 1, [5], [], []), (1237033317249708741753044967, 0, 1, [4], [], []), (1237070274473641747058524136, 0, 1, [3], [], []), (1237082929743945447063420905, 0, 1, [2], [], []), (439267827522817911325829450, 0, 9, [0, 1], [], []), (439269046198038162060979563, 0, 1, [0], [], [])]
def gUD_231 : List zUD := [(44923985450512283276970048, 79789107553437826925199360, 262143, [3, 4, 5, 6, 7, 8], [278569, 294955, 327713, 376874, 434280, 466979], [[1091, 580]]), (1206507007807930773663711201, 2417925498265346248802304, 2305, [3, 7], [139528], []), (1237910791080094257255516226, 0, 4609, [1, 6], [67881], []), (199670037904208251927567587, 41103477866899592038121472, 63, [1, 3, 5], [34849], []), (242092384326140406544932068, 0, 63, [0, 1, 2, 4], [18465, 23587], [[166]]), (1236956826889501939079315429, 0, 1, [3], [], []), (242094783594107274598228230, 0, 7, [0, 2], [5153], []), (319467178559716594400107751, 0, 9, [0, 1], [], []), (319468397234936845135257864, 0, 1, [0], [], [])]
def gUD_232 : List zUD := [(158446211169577210639059008, 115771765914388719992832, 262143, [3, 4, 5, 6, 7, 8], [278569, 294955, 327713, 376874, 434280, 466979], [[1091, 580]]), (1206507007807930773663711201, 2417925498265346248802304, 2305, [3, 7], [139528], []), (279564094893325845501282370, 0, 33281, [1, 6], [67881], []), (274696706881933025884675299, 1254378599212347621376, 63, [1, 3, 5], [34849], []), (163476826348977639875878116, 0, 63, [0, 1, 2, 4], [18465, 23587], [[166]]), (1206507937062691179860066277, 0, 1, [3], [], []), (242094783594107274598228230, 0, 7, [0, 2], [5153], []), (279536066218601243910348007, 0, 9, [0, 1], [], []), (319468397234936845135257864, 0, 1, [0], [], [])]
def gUD_233 : List zUD := [(158448531929739843207202880, 113340328665013615067136, 262143, [3, 4, 5, 6, 7, 8], [278572, 294958, 327713, 376877, 434280, 466979], [[1091, 580]]), (1206477272563959278781661153, 2420212824724692008960000, 1281, [3, 7], [139528], []), (279534848473154130156685378, 0, 36865, [1, 6], [67980], []), (274694421861246320594033891, 38282796930760704, 63, [1, 3, 5], [34849], []), (163477858182234249984416996, 0, 63, [0, 1, 2, 4], [18465, 23587], [[166]]), (1206477272592345575762952165, 0, 1, [3], [], []), (242097070920566620358385926, 0, 7, [0, 2], [5153], []), (279534847617760755770989799, 0, 9, [0, 1], [], []), (319468397234936845135257864, 0, 1, [0], [], [])]
def gUD_234 : List zUD := [(43407806216299390946061125664, 317081918718517155539269451776, 1048575, [2, 3, 4, 5], [36900, 49186], []), (1267650600228229401496702224417, 0, 5, [3, 4], [], []), (1267650600228229401496702224450, 0, 1, [3], [], []), (162369737299863406480061535363, 0, 15, [0, 1, 2], [6178], []), (163607715118080650812707738756, 0, 5, [0, 1], [], []), (204459774230359580886565033125, 0, 1, [0], [], [])]
def gUD_235 : List zUD := [(121359268724706966012020459552, 15019996780818253896593965056, 1048575, [2, 3, 4, 5], [36900, 49186], []), (1267650600228229401496702224417, 0, 5, [3, 4], [], []), (1267650600228229401496702224450, 0, 1, [3], [], []), (125192885949751342599795545219, 0, 15, [0, 1, 2], [6178], []), (164806968387475133247850189956, 0, 5, [0, 1], [], []), (204459774230359580886565033125, 0, 1, [0], [], [])]
def gUD_236 : List zUD := [(82983162925727942420376650816, 317082220940730690095678488576, 1048575, [2, 3, 4, 5], [36901, 49185], []), (1267650600228229401496702223425, 0, 3, [3, 4], [], []), (1267650600228229401496702224450, 0, 1, [3], [], []), (201945207342625407810998014115, 0, 15, [0, 1, 2], [6177], []), (203183147383064835524770566308, 0, 3, [0, 1], [], []), (204459774230359580886565033125, 0, 1, [0], [], [])]
def gUD_237 : List zUD := [(120160013132247673036623381568, 15020015651405109343161417728, 1048575, [2, 3, 4, 5], [36901, 49185], []), (1267650600228229401496702223425, 0, 3, [3, 4], [], []), (1267650600228229401496702224450, 0, 1, [3], [], []), (123993633895500064273268379811, 0, 15, [0, 1, 2], [6177], []), (163607715153821183371699720356, 0, 3, [0, 1], [], []), (204459774230359580886565033125, 0, 1, [0], [], [])]
def gUD_238 : List zUD := [(80547179722411102177078577216, 331922975430886355271006814208, 1048575, [2, 3, 4, 5], [36901, 49185], []), (1267650600228229401496702191681, 0, 3, [3, 4], [], []), (1267650600228229401496702224450, 0, 1, [3], [], []), (203219413941285058274981450915, 0, 15, [0, 1, 2], [6177], []), (203220624047732322419660166308, 0, 3, [0, 1], [], []), (204459774230359580886565033125, 0, 1, [0], [], [])]
def gUD_239 : List zUD := [(42171073959172611142346377280, 331922692080088346498412052480, 1048575, [2, 3, 4, 5], [36901, 49185], []), (1267650600228229401496702191681, 0, 3, [3, 4], [], []), (1267650600228229401496702224450, 0, 1, [3], [], []), (164843198383130549215454958755, 0, 15, [0, 1, 2], [6177], []), (164844445087883152701731771556, 0, 3, [0, 1], [], []), (204459774230359580886565033125, 0, 1, [0], [], [])]
def gUD_240 : List zUD := [(337671864960868001736726303858557984, 87011620180411957690231279455322112, 16777215, [3, 7, 8, 9, 10, 11], [2228488, 2498792, 2621474, 3285032, 3932198], [[8451], [33281, 8451, 8707]]), (1329227995784915872903806208976262177, 567212507136, 85, [4, 6, 10], [1065028], []), (1329227995784915872903806207938073762, 0, 51, [4, 5, 6, 9], [639012], []), (343026579557397644620337132971728099, 84496522163812053034395548493292032, 986895, [3, 4, 8], [270600, 278562], []), (373845373780997676691722256179527652, 83076749736632799920213924310417408, 129, [3, 7], [], []), (1329227995784915872903806279981634725, 0, 17, [2, 6], [], []), (470322868242289350632061015432570150, 0, 197379, [0, 1, 2, 5], [35080, 39976], [[169]]), (1329227995784915872903806211260130599, 0, 3, [2, 4], [], []), (1329197928697214555979603779059187688, 0, 1, [3], [], []), (471661546891421761352963724647114025, 0, 65793, [0, 2], [5384], []), (470322868242289350632061088583462250, 0, 3, [0, 1], [], []), (471661546891421761352963795583348075, 0, 1, [0], [], [])]
def gUD_241 : List zUD := [(337672018315379821092963985933796384, 87011619023471051664911063719096320, 16777215, [3, 7, 8, 9, 10, 11], [2228488, 2498792, 2621474, 3285032, 3932198], [[8451], [33281, 8451, 8707]]), (1329227995784915872903806208976262177, 425478586368, 85, [4, 6, 10], [1065028], []), (1329227995784915872903806207938073762, 0, 51, [4, 5, 6, 9], [639012], []), (343026579557397644620337132971728099, 84496597679291358020421675523252608, 65295, [3, 4, 8], [270600, 278562], []), (373844462690638644085402308475617252, 83076828964719756320825603530948608, 129, [3, 7], [], []), (1329227995784915872903806279981634725, 0, 17, [2, 6], [], []), (470322906580917305471120435951379750, 0, 13059, [0, 1, 2, 5], [35080, 39976], [[169]]), (1329227995784915872903806211260130599, 0, 3, [2, 4], [], []), (1329198811347620804630168267875418088, 0, 1, [3], [], []), (471661546891421761352963724647114025, 0, 4353, [0, 2], [5384], []), (470322906580917305471120509102271850, 0, 3, [0, 1], [], []), (471661546891421761352963795583348075, 0, 1, [0], [], [])]
def gUD_242 : List zUD := [(337672018315379821092963985933796384, 44256261125457355228962917162430464, 16777215, [3, 7, 8, 9, 10, 11], [2228488, 2498792, 2621474, 3285032, 3932198], [[8451], [33281, 8451, 8707]]), (1329227995784915872903806208976262177, 425478586368, 85, [4, 6, 10], [1065028], []), (1329227995784915872903806207938073762, 0, 51, [4, 5, 6, 9], [639012], []), (343026579557397644620337132971728099, 45513769244295873330956002505269632, 65295, [3, 4, 8], [270600, 278562], []), (373844462690638644085402308475617252, 41538414482359878160412801765474304, 129, [3, 7], [], []), (1329227995784915872903806279981634725, 0, 17, [2, 6], [], []), (470322906580917305471120435951379750, 0, 13059, [0, 1, 2, 5], [35080, 39976], [[169]]), (1329227995784915872903806211260130599, 0, 3, [2, 4], [], []), (1329198838931314065955265941352742888, 0, 1, [3], [], []), (471661546891421761352963724647114025, 0, 4353, [0, 2], [5384], []), (470322906580917305471120509102271850, 0, 3, [0, 1], [], []), (471661546891421761352963795583348075, 0, 1, [0], [], [])]
def gUc_E : List (List zUD) := [gUD_195, gUD_196, gUD_197, gUD_198, gUD_199, gUD_200, gUD_201, gUD_202, gUD_203, gUD_204, gUD_205, gUD_206, gUD_207, gUD_208, gUD_209, gUD_210, gUD_211, gUD_212, gUD_213, gUD_214, gUD_215, gUD_216, gUD_217, gUD_218, gUD_219, gUD_220, gUD_221, gUD_222, gUD_223, gUD_224, gUD_225, gUD_226, gUD_227, gUD_228, gUD_229, gUD_230, gUD_231, gUD_232, gUD_233, gUD_234, gUD_235, gUD_236, gUD_237, gUD_238, gUD_239, gUD_240, gUD_241, gUD_242]
theorem kun_E : kunZ gTc_E gUc_E = true := by decide +kernel
def gUD_243 : List zUD := [(127293992352103097989447908686103584, 15744303435582004121230100555378688, 16777215, [3, 7, 8, 9, 10, 11], [2228356, 2498707, 2621474, 3285028, 3932214], [[8451], [33281, 8451, 8707]]), (300065573580024181628284615743673377, 514204718874178061505516701415899136, 5242885, [4, 6, 10], [1065044], []), (298810599485798234520802879570252962, 0, 3145731, [4, 5, 6, 9], [639028], []), (133994798531563301001735437421878499, 15739230434596709527994826179481984, 61695, [3, 4, 8], [270468, 278562], []), (373844462690638643256770454099066852, 83076828964719756392883128849399808, 2049, [3, 7], [], []), (385905801625078963780035369998914725, 0, 1048577, [2, 6], [], []), (381889065407795565998776279086867750, 0, 12339, [0, 1, 2, 5], [34948, 39972], [[169]]), (302826516587321265264744435325052199, 0, 3, [2, 4], [], []), (373845373785833379944315551337152488, 0, 1, [3], [], []), (385904983785982042341711823739594025, 0, 4113, [0, 2], [5252], []), (470322906580917305505989288100441450, 0, 3, [0, 1], [], []), (471661546891421761352963795583348075, 0, 1, [0], [], [])]
def gUD_244 : List zUD := [(337671817683259723808196070884836384, 87011552214603482338922552780402688, 16777215, [3, 7, 8, 9, 10, 11], [2228356, 2498707, 2621474, 3285028, 3932210], [[8451], [33281, 8451, 8707]]), (1329227014299146405653277508275180577, 490383833765199719911114407936, 327685, [4, 6, 10], [1065040], []), (1329227013102309844234794625315968162, 0, 196611, [4, 5, 6, 9], [639024], []), (343026380209156767626830284354460899, 84496533418839416367689571976089984, 61695, [3, 4, 8], [270468, 278562], []), (373844462690638643256770454099066852, 83076828964719756392883128849399808, 2049, [3, 7], [], []), (1329227096162767206677506702678594725, 0, 65537, [2, 6], [], []), (470322822243834277550228802248058150, 0, 12339, [0, 1, 2, 5], [34948, 39972], [[169]]), (1329227016932186840773939850785301799, 0, 3, [2, 4], [], []), (1329197928696372794128946597002739688, 0, 1, [3], [], []), (471661465107590064423300126710474025, 0, 4113, [0, 2], [5252], []), (470322906580917305505989288100441450, 0, 3, [0, 1], [], []), (471661546891421761352963795583348075, 0, 1, [0], [], [])]
def gUD_245 : List zUD := [(337671864960676664176218546154570784, 87011620180352966192868627469844480, 16777215, [3, 7, 8, 9, 10, 11], [2228356, 2498703, 2621474, 3285028, 3932206], [[8451], [33281, 8451, 8707]]), (1329227995783979855133547917852447777, 623504561377401272008704, 20485, [4, 6, 10], [1065036], []), (1329227995783978713741258357073843362, 0, 12291, [4, 5, 6, 9], [639020], []), (343026579557207531322992150632963299, 84496522163755491821182714852151808, 983295, [3, 4, 8], [270468, 278562], []), (373845373780997675863090401802977252, 83076749736632799992271449628868608, 2049, [3, 7], [], []), (1329227995784057926366153875102274725, 0, 4097, [2, 6], [], []), (470322868242208920556925484722758950, 0, 196659, [0, 1, 2, 5], [34948, 39972], [[169]]), (1329227995783982366196584951565231399, 0, 3, [2, 4], [], []), (1329197928696372794128946597002739688, 0, 1, [3], [], []), (471661546891343766213177142385354025, 0, 65553, [0, 2], [5252], []), (470322868242289350666929867581631850, 0, 3, [0, 1], [], []), (471661546891421761352963795583348075, 0, 1, [0], [], [])]
def gUD_246 : List zUD := [(127293992352249348248675047432061984, 10552006577046073147871928101380096, 16777215, [3, 7, 8, 9, 10, 11], [2228356, 2498707, 2621474, 3285028, 3932214], [[8451], [33281, 8451, 8707]]), (300065573580024181628284615743673377, 342858922542528749764010322551635968, 5242885, [4, 6, 10], [1065044], []), (298810599485798234520802879570252962, 0, 3145731, [4, 5, 6, 9], [639028], []), (133994798531563301001735437421878499, 10546933576133899072568602717589760, 4095, [3, 4, 8], [270468, 278562], []), (373844462689769759781435708386836452, 83076828964795314184551449134891008, 32769, [3, 7], [], []), (385905801625078963780035369998914725, 0, 1048577, [2, 6], [], []), (381889065407832128563583063773357350, 0, 819, [0, 1, 2, 5], [34948, 39972], [[169]]), (302826516587321265264744435325052199, 0, 3, [2, 4], [], []), (373845373786675140967120432017702888, 0, 1, [3], [], []), (385904983785982042341711823739594025, 0, 273, [0, 2], [5252], []), (470322906580953868070796072786931050, 0, 3, [0, 1], [], []), (471661546891421761352963795583348075, 0, 1, [0], [], [])]
def gUD_247 : List zUD := [(337671817683405974067423209630794784, 87011547262842221852573777059127296, 16777215, [3, 7, 8, 9, 10, 11], [2228356, 2498707, 2621474, 3285028, 3932210], [[8451], [33281, 8451, 8707]]), (1329227014299146405653277508275180577, 326975748579529523624430010368, 327685, [4, 6, 10], [1065040], []), (1329227013102309844234794625315968162, 0, 196611, [4, 5, 6, 9], [639024], []), (343026380209156767626830284354460899, 84496528467151276399272745246920960, 4095, [3, 4, 8], [270468, 278562], []), (373844462689769759781435708386836452, 83076828964795314184551449134891008, 32769, [3, 7], [], []), (1329227096162767206677506702678594725, 0, 65537, [2, 6], [], []), (470322822243870840115035586934547750, 0, 819, [0, 1, 2, 5], [34948, 39972], [[169]]), (1329227016932186840773939850785301799, 0, 3, [2, 4], [], []), (1329197928697214555151751477683290088, 0, 1, [3], [], []), (471661465107590064423300126710474025, 0, 273, [0, 2], [5252], []), (470322906580953868070796072786931050, 0, 3, [0, 1], [], []), (471661546891421761352963795583348075, 0, 1, [0], [], [])]
def gUD_248 : List zUD := [(337671864960868001693727743637783584, 87011620180411957671236134550650880, 16777215, [3, 7, 8, 9, 10, 11], [2228356, 2498699, 2621474, 3285028, 3932202], [[8451], [33281, 8451, 8707]]), (1329227995784915872011150953083474977, 594620286347771904, 1285, [4, 6, 10], [1065032], []), (1329227995784915872010062436571878562, 0, 771, [4, 5, 6, 9], [639016], []), (343026579557397644439031136993385699, 84496522163812052943336281210884608, 983295, [3, 4, 8], [270468, 278562], []), (373845373780997675863090401802977252, 83076749736632799992271449628868608, 2049, [3, 7], [], []), (1329227995784915872085605482469954725, 0, 257, [2, 6], [], []), (470322868242289350590225737404589350, 0, 196659, [0, 1, 2, 5], [34948, 39972], [[169]]), (1329227995784915872013545689408840999, 0, 3, [2, 4], [], []), (1329197928697214555151751477683290088, 0, 1, [3], [], []), (471661546891421761278581833964234025, 0, 65553, [0, 2], [5252], []), (470322868242289350666929867581631850, 0, 3, [0, 1], [], []), (471661546891421761352963795583348075, 0, 1, [0], [], [])]
def gUD_249 : List zUD := [(127293992352249348248675047432061984, 10551965802359357055098074848829440, 16777215, [3, 7, 8, 9, 10, 11], [2228356, 2498703, 2621474, 3285028, 3932214], [[8451], [33281, 8451, 8707]]), (300065573580024181628284615743673377, 342858922542528749764010322551635968, 5242885, [4, 6, 10], [1065044], []), (298810599485798234520802879570252962, 0, 3145731, [4, 5, 6, 9], [639028], []), (133994798531563301001735437421878499, 10546896399211639746125226686025984, 4095, [3, 4, 8], [270468, 278562], []), (373844462689769759781435708386836452, 41538414482397657092275724567445504, 32769, [3, 7], [], []), (385905801625078963780035369998914725, 0, 1048577, [2, 6], [], []), (381889065407832128563583063773357350, 0, 819, [0, 1, 2, 5], [34948, 39972], [[169]]), (302826516587321265264744435325052199, 0, 3, [2, 4], [], []), (373845373786701446826935385914867688, 0, 1, [3], [], []), (385904983785982042341711823739594025, 0, 273, [0, 2], [5252], []), (470322906580953868070796072786931050, 0, 3, [0, 1], [], []), (471661546891421761352963795583348075, 0, 1, [0], [], [])]
def gUD_250 : List zUD := [(337672018315334733791683366975767584, 87011619023401512089755000613380096, 16777215, [3, 7, 8, 9, 10, 11], [2228356, 2498703, 2621474, 3285028, 3932206], [[8451], [33281, 8451, 8707]]), (1329227995783979855133547917852447777, 311828373508004687904768, 20485, [4, 6, 10], [1065036], []), (1329227995783978713741258357073843362, 0, 12291, [4, 5, 6, 9], [639020], []), (343026579557207531322992150632963299, 84496597679297369247347379753980160, 4095, [3, 4, 8], [270468, 278562], []), (373844462689769759781435708386836452, 83076828964795314184551449134891008, 32769, [3, 7], [], []), (1329227995784057926366153875102274725, 0, 4097, [2, 6], [], []), (470322906580873437960791689928058150, 0, 819, [0, 1, 2, 5], [34948, 39972], [[169]]), (1329227995783982366196584951565231399, 0, 3, [2, 4], [], []), (1329198811347620803802315966499520488, 0, 1, [3], [], []), (471661546891343766213177142385354025, 0, 273, [0, 2], [5252], []), (470322906580953868070796072786931050, 0, 3, [0, 1], [], []), (471661546891421761352963795583348075, 0, 1, [0], [], [])]
def gUD_251 : List zUD := [(337672018315379821049965425713021984, 87011619023471051641412323482021888, 16777215, [3, 7, 8, 9, 10, 11], [2228356, 2498699, 2621474, 3285028, 3932202], [[8451], [33281, 8451, 8707]]), (1329227995784915872011150953083474977, 446001498644545536, 1285, [4, 6, 10], [1065032], []), (1329227995784915872010062436571878562, 0, 771, [4, 5, 6, 9], [639016], []), (343026579557397644439031136993385699, 84496597679291357924858812908441984, 61695, [3, 4, 8], [270468, 278562], []), (373844462690638643256770454099066852, 83076828964719756392883128849399808, 2049, [3, 7], [], []), (1329227995784915872085605482469954725, 0, 257, [2, 6], [], []), (470322906580917305429285157923398950, 0, 12339, [0, 1, 2, 5], [34948, 39972], [[169]]), (1329227995784915872013545689408840999, 0, 3, [2, 4], [], []), (1329198811347620803802315966499520488, 0, 1, [3], [], []), (471661546891421761278581833964234025, 0, 4113, [0, 2], [5252], []), (470322906580917305505989288100441450, 0, 3, [0, 1], [], []), (471661546891421761352963795583348075, 0, 1, [0], [], [])]
def gUD_252 : List zUD := [(337671817683405974067423209630794784, 44256227818307828468331922585559040, 16777215, [3, 7, 8, 9, 10, 11], [2228356, 2498703, 2621474, 3285028, 3932210], [[8451], [33281, 8451, 8707]]), (1329227014299146405653277508275180577, 326975748579529523624430010368, 327685, [4, 6, 10], [1065040], []), (1329227013102309844234794625315968162, 0, 196611, [4, 5, 6, 9], [639024], []), (343026380209156767626830284354460899, 45513737208897311307079132807958784, 4095, [3, 4, 8], [270468, 278562], []), (373844462689769759781435708386836452, 41538414482397657092275724567445504, 32769, [3, 7], [], []), (1329227096162767206677506702678594725, 0, 65537, [2, 6], [], []), (470322822243870840115035586934547750, 0, 819, [0, 1, 2, 5], [34948, 39972], [[169]]), (1329227016932186840773939850785301799, 0, 3, [2, 4], [], []), (1329197928697240861011566431580454888, 0, 1, [3], [], []), (471661465107590064423300126710474025, 0, 273, [0, 2], [5252], []), (470322906580953868070796072786931050, 0, 3, [0, 1], [], []), (471661546891421761352963795583348075, 0, 1, [0], [], [])]
def gUD_253 : List zUD := [(337672018315334733791683366975767584, 44256261125391320530606891674378240, 16777215, [3, 7, 8, 9, 10, 11], [2228356, 2498703, 2621474, 3285028, 3932206], [[8451], [33281, 8451, 8707]]), (1329227995783979855133547917852447777, 311828373508004687904768, 20485, [4, 6, 10], [1065036], []), (1329227995783978713741258357073843362, 0, 12291, [4, 5, 6, 9], [639020], []), (343026579557207531322992150632963299, 45513769244192054008187056508899584, 4095, [3, 4, 8], [270468, 278562], []), (373844462689769759781435708386836452, 41538414482397657092275724567445504, 32769, [3, 7], [], []), (1329227995784057926366153875102274725, 0, 4097, [2, 6], [], []), (470322906580873437960791689928058150, 0, 819, [0, 1, 2, 5], [34948, 39972], [[169]]), (1329227995783982366196584951565231399, 0, 3, [2, 4], [], []), (1329198838930472304932461060672192488, 0, 1, [3], [], []), (471661546891343766213177142385354025, 0, 273, [0, 2], [5252], []), (470322906580953868070796072786931050, 0, 3, [0, 1], [], []), (471661546891421761352963795583348075, 0, 1, [0], [], [])]
def gUD_254 : List zUD := [(337672018315379821049965425713021984, 44256261125457355204232725076652032, 16777215, [3, 7, 8, 9, 10, 11], [2228356, 2498699, 2621474, 3285028, 3932202], [[8451], [33281, 8451, 8707]]), (1329227995784915872011150953083474977, 446001498644545536, 1285, [4, 6, 10], [1065032], []), (1329227995784915872010062436571878562, 0, 771, [4, 5, 6, 9], [639016], []), (343026579557397644439031136993385699, 45513769244295873342249075530011008, 61695, [3, 4, 8], [270468, 278562], []), (373844462690638643256770454099066852, 41538414482359878196441564424699904, 2049, [3, 7], [], []), (1329227995784915872085605482469954725, 0, 257, [2, 6], [], []), (470322906580917305429285157923398950, 0, 12339, [0, 1, 2, 5], [34948, 39972], [[169]]), (1329227995784915872013545689408840999, 0, 3, [2, 4], [], []), (1329198838931314065955265941352742888, 0, 1, [3], [], []), (471661546891421761278581833964234025, 0, 4113, [0, 2], [5252], []), (470322906580917305505989288100441450, 0, 3, [0, 1], [], []), (471661546891421761352963795583348075, 0, 1, [0], [], [])]
def gUD_255 : List zUD := [(251952135328529971586732819177605152, 347931119565107824666767835736965120, 16777215, [4, 7, 8, 9, 10], [1179720, 1458249, 1572898, 1851432], []), (1329227995784915872903806173542748193, 0, 85, [4, 5, 6, 9], [639044], []), (1329227995784915872903807060279429250, 0, 3, [6, 8], [], []), (1329227966040505007073919260138905571, 0, 5, [3, 7], [], []), (1329227995784915872903806244513517700, 0, 17, [2, 6], [], []), (343068412067138687798507831244890277, 342691919479469603566540305651990528, 328965, [1, 2, 5], [34888], []), (1329227995784915872903806173646692550, 0, 5, [2, 4], [], []), (1329227966045340710356881376465100775, 0, 1, [3], [], []), (1329227995784915872903806244513653000, 0, 1, [2], [], []), (428741391937006012597251106843994409, 0, 5, [0, 1], [], []), (428783224446747055775421632348498250, 0, 1, [0], [], [])]
def gUD_256 : List zUD := [(88394628304237949024194027825795104, 342736366556088170665675937883881472, 16777215, [6, 7, 8, 9, 10], [1179721, 1507400, 1572898, 1900584], []), (1329227995784915872903806173542748193, 0, 85, [4, 5, 6, 9], [639044], []), (1329227995784915872903806170148371650, 0, 3, [4, 8], [], []), (332306998912378159801500588094521315, 83076749736557315843464304825204736, 129, [3, 7], [], []), (1329227995784915872903806244513517700, 0, 17, [2, 6], [], []), (343068412067138687798507831244890277, 342691919479469603566540305651990528, 328965, [1, 2, 5], [34888], []), (1329227995784915872903806173646692550, 0, 5, [2, 4], [], []), (1329196621432559337917713324592594919, 0, 1, [3], [], []), (1329227995784915872903806244513653000, 0, 1, [2], [], []), (428741391937006012597251106843994409, 0, 5, [0, 1], [], []), (428783224446747055775421632348498250, 0, 1, [0], [], [])]
def gUD_257 : List zUD := [(127541184173354814938489114813796384, 171597281454773604690942368604487680, 16777215, [3, 7, 8, 9, 10, 11], [2228290, 2498631, 2621510, 3285026, 3932198], [[33025], [33025, 34817, 10243]]), (214517232188977004672359127134248993, 171597281454773604690942368604487680, 5592405, [3, 6, 10], [1056834, 1114182], []), (299855142621708120593234302978751650, 83076749813928494511824208448716800, 196611, [4, 5, 6, 9], [639024], []), (301153216837550753319981490737511587, 166153499477950187391434399233867776, 196611, [4, 6, 8], [327728], []), (1329227995784915872903807059479499012, 0, 3, [3, 7], [], []), (386826115083164513285300274419727525, 0, 65537, [2, 6], [], []), (382093157109738653946952253721389350, 0, 63, [0, 1, 2, 5], [34882, 39970], [[169]]), (384229966576525847015698832088366375, 0, 3, [2, 4], [], []), (1329227995784915872903807059483697416, 0, 1, [3], [], []), (385988648645808001387645009753648425, 0, 21, [0, 2], [5186], []), (470362203787037679365765548212595050, 0, 3, [0, 1], [], []), (471661546891421761352963795583348075, 0, 1, [0], [], [])]
def gUD_258 : List zUD := [(89611613808638420649491158034121760, 169082247808644421297975773750104064, 16777215, [5, 7, 8, 9, 10], [1179682, 1310758, 1736744, 1867824], []), (1329227995784915872903806103576378401, 0, 65, [6, 9], [], []), (257018693461424540202521340149759106, 2596148506638666269601515345805312, 196611, [4, 5, 6, 8], [376880], []), (1329227995784915872903807059444735203, 0, 3, [3, 7], [], []), (343989665960357633302640881504877700, 85672898245613759965318714962739200, 65537, [2, 6], [], []), (373845341596607342916136144604233701, 0, 33, [2, 5], [], []), (259951137083141816407004689317798150, 2636713325846006505063459321807936, 63, [1, 2, 4], [18466], []), (1329227995784915872903807059449060583, 0, 1, [3], [], []), (373845345314054238231226409941991400, 0, 1, [2], [], []), (387243542312540243445178346404882761, 0, 3, [0, 1], [], []), (428783224446747055775421632348498250, 0, 1, [0], [], [])]
def gUD_259 : List zUD := [(210332592521782402095723522871561248, 130139560894770619127240545741701120, 16777215, [5, 7, 8, 9, 10], [1179682, 1310758, 1736744, 1867824], []), (1329227995784915872903806103576378401, 0, 65, [6, 9], [], []), (216778392807779626081410060170296450, 124615124720892741767736312673075200, 196611, [4, 5, 6, 8], [376880], []), (1329227995784915872903807059444862179, 0, 3, [3, 7], [], []), (343989665960357633302640881504877700, 128509347368420639947978072444108800, 65537, [2, 6], [], []), (1299371258849926941859624797912170469, 0, 33, [2, 5], [], []), (340431700014253828427293790257292550, 124655689540100082038101254692962400, 63, [1, 2, 4], [18466], []), (1329227995784915872903807059449060583, 0, 1, [3], [], []), (1299371377695797490715080628868481000, 0, 1, [2], [], []), (427483881342362973788223384977745225, 0, 3, [0, 1], [], []), (428783224446747055775421632348498250, 0, 1, [0], [], [])]
def gUD_260 : List zUD := [(253209645923210788322016653339592736, 167949925174596446609155990025928704, 16777215, [4, 7, 8, 9, 10], [1179716, 1458245, 1572898, 1851428], []), (1329227995784915871973996256157634593, 0, 1285, [4, 5, 6, 9], [639048], []), (1329227995784915872903807060279429250, 0, 3, [6, 8], [], []), (1329227994822610920490562207124266979, 0, 5, [3, 7], [], []), (1329227995784915872048414501660397700, 0, 257, [2, 6], [], []), (344325922661819504385241189093482661, 166315917361011839658269614964473856, 196693, [1, 2, 5], [34884], []), (1329227995784915871974105107808919750, 0, 5, [2, 4], [], []), (1329227994827446623769020728118058983, 0, 1, [3], [], []), (1329227995784915872048414501660533000, 0, 1, [2], [], []), (427483881342325196010372613598947625, 0, 5, [0, 1], [], []), (428783224446747055775421632348498250, 0, 1, [0], [], [])]
def gUD_261 : List zUD := [(87137117709557132362935842919026720, 126079342906961359844334564861280256, 16777215, [6, 7, 8, 9, 10], [1179717, 1507396, 1572898, 1900580], []), (1329227995784915871973996256157634593, 0, 1285, [4, 5, 6, 9], [639048], []), (1329227995784914950565723765470134242, 590296373308659073024, 513, [4, 8], [], []), (332306998912378158968335451599929315, 83076749736557315915521830143655936, 2049, [3, 7], [], []), (1329227995784915872048414501660397700, 0, 257, [2, 6], [], []), (344325922661819504385241189093482661, 166315917361011839658269614964473856, 196693, [1, 2, 5], [34884], []), (1329227995784915871974105107808919750, 0, 5, [2, 4], [], []), (1329196621432559338755382056419590119, 0, 1, [3], [], []), (1329227995784915872048414501660533000, 0, 1, [2], [], []), (427483881342325196010372613598947625, 0, 5, [0, 1], [], []), (428783224446747055775421632348498250, 0, 1, [0], [], [])]
def gUD_262 : List zUD := [(131190553381356522503251319385557024, 44470651407869737006555219437682688, 16777215, [5, 7, 8, 9, 10], [1179716, 1474629, 1572898, 1867812], []), (1329227995783901974132990220732338209, 233757140902047438077952, 20485, [4, 5, 6, 9], [639052], []), (1329227995784915872903807060279429250, 0, 3, [6, 8], [], []), (1329227994822610920490562207124266979, 0, 5, [3, 7], [], []), (1329227995784018928796260548503277700, 233985419359959593779200, 4097, [2, 6], [], []), (1329227995784914887155082792669281541, 0, 3, [2, 5], [], []), (384566261691566600774101627469832390, 2677280621167108662959901587478528, 196693, [1, 2, 4], [18500], []), (1329227994827446623769020728118058983, 0, 1, [3], [], []), (1329227995784914997835550533562137864, 0, 1, [2], [], []), (387243542312577985482428354679613737, 0, 5, [0, 1], [], []), (428783224446747055775421632348498250, 0, 1, [0], [], [])]
def gUD_263 : List zUD := [(127377456739304264492292555363455008, 45598741599866868600506344556986368, 16777215, [6, 7, 8, 9, 10], [1179717, 1507396, 1572898, 1900580], []), (1329227995783901974132990220732338209, 233757140902047438077952, 20485, [4, 5, 6, 9], [639052], []), (1329227995784914913672200433678942178, 0, 513, [5, 8], [], []), (1298074214598950289817859038537318371, 2596148429342971678061531232206848, 513, [3, 7], [], []), (1329227995784018928796260548503277700, 233985419359959593779200, 4097, [2, 6], [], []), (1329227995784914887154980538185415941, 0, 3, [2, 5], [], []), (384566261691566600774101627469832390, 2677280621167108662959901587478528, 196693, [1, 2, 4], [18500], []), (1329197542459921118349302074389299175, 0, 1, [3], [], []), (1329227995784914997835550533562137864, 0, 1, [2], [], []), (387243542312577985482428354679613737, 0, 5, [0, 1], [], []), (428783224446747055775421632348498250, 0, 1, [0], [], [])]
def gUD_264 : List zUD := [(89772523657084912744280364114052128, 337667108559265581613802817042010112, 16777215, [5, 7, 8, 9, 10], [1179684, 1310754, 1736742, 1867828], []), (1329227995784915872903807060279431201, 0, 5, [6, 9], [], []), (255932317933078375015176893648408706, 5354556135364040991922074339508224, 3145731, [4, 5, 6, 8], [376884], []), (1329227995784915872902931848059944163, 0, 3, [3, 7], [], []), (343027520072359104274409384077037700, 171513126210879438022503943687372800, 1048577, [2, 6], [], []), (373812414898870111327308139950538725, 0, 9, [2, 5], [], []), (259947295796303391738909139100967174, 5354595750654223943705534646980736, 819, [1, 2, 4], [18468], []), (1329227995784915872902936246240672999, 0, 1, [3], [], []), (373816217850674337793752482014593000, 0, 1, [2], [], []), (387243580651204760883913397115332937, 0, 3, [0, 1], [], []), (428783224446747055775421632348498250, 0, 1, [0], [], [])]
def gUD_265 : List zUD := [(210493507242195300893998976485853216, 176705502774505174459278911603343360, 16777215, [5, 7, 8, 9, 10], [1179684, 1310754, 1736742, 1867828], []), (1329227995784915872903807060279431201, 0, 5, [6, 9], [], []), (215692017279433460894065547097016450, 166315758749943697476367460545331200, 3145731, [4, 5, 6, 8], [376884], []), (1329227995784915872902931848059944163, 0, 3, [3, 7], [], []), (343027520072359104274409384077037700, 214391407763599297528129929609216000, 1048577, [2, 6], [], []), (1299339296856524255388980934007038949, 1298074253319333134835942044992512, 5, [2, 5], [], []), (340427935442221174820191252722751750, 207894699714055287359668818450481312, 819, [1, 2, 4], [18468], []), (1329227995784915872902936246240672999, 0, 1, [3], [], []), (1299343132883666422813478871238681576, 0, 1, [2], [], []), (427483842966221720165965323148010825, 0, 3, [0, 1], [], []), (428783224446747055775421632348498250, 0, 1, [0], [], [])]
def gUD_266 : List zUD := [(126041433356713076143586056640463904, 270090869205336595267039625117446144, 16777215, [5, 7, 8, 9, 10], [1179684, 1310754, 1736742, 1867820], []), (1329227995784915872903807060279431201, 0, 5, [6, 9], [], []), (1329227995783939716171365030474879106, 0, 12291, [4, 5, 6, 8], [376876], []), (1329227995784915872902931848059944163, 0, 3, [3, 7], [], []), (1329227995784018928796260548503277700, 0, 4097, [2, 6], [], []), (1329227995784015276340933954012094725, 0, 3, [2, 5], [], []), (384605520483956973925982185363546374, 10394893532939014675876621896908800, 819, [1, 2, 4], [18468], []), (1329227995784915872902936246240672999, 0, 1, [3], [], []), (1329227995784018928796260548503413000, 0, 1, [2], [], []), (387204283520074386215423367557982537, 0, 3, [0, 1], [], []), (428783224446747055775421632348498250, 0, 1, [0], [], [])]
def gUD_267 : List zUD := [(45560715836703963357991846372508704, 506331663020152061669938813948936192, 16777215, [5, 7, 8, 9, 10], [1179684, 1310754, 1736742, 1867824], []), (1329227995784915872903807060279431201, 0, 5, [6, 9], [], []), (1329226972210393995769962790879563906, 5106502662052193633958887424, 196611, [4, 5, 6, 8], [376880], []), (1329227995784915872902931848059944163, 0, 3, [3, 7], [], []), (1329227055270851358212674868242157700, 163567663393859327337745612800, 65537, [2, 6], [], []), (1329227084628631785837722136086872037, 0, 9, [2, 5], [], []), (344365139360659470710420195114164486, 41539647625381511309839135656644736, 819, [1, 2, 4], [18468], []), (1329227995784915872902936246240672999, 0, 1, [3], [], []), (1329227084632371900200241286153011176, 0, 1, [2], [], []), (427444545797614680829988465272990025, 0, 3, [0, 1], [], []), (428783224446747055775421632348498250, 0, 1, [0], [], [])]
def gUD_268 : List zUD := [(131150064191259366604657913121245216, 84874486460121665136503783267237888, 16777215, [5, 7, 8, 9, 10], [1179684, 1310754, 1736742, 1867824], []), (1329227995784915872903807060279431201, 0, 5, [6, 9], [], []), (1329226933834252777923174269006776450, 198263834416799184651812864000, 196611, [4, 5, 6, 8], [376880], []), (1329227995784915872902931848059944163, 0, 3, [3, 7], [], []), (1329227055270851358212674868242157700, 204459579242324159172182016000, 65537, [2, 6], [], []), (1329227963570642374049547793705444325, 0, 5, [2, 5], [], []), (384566219598016379529374000572799238, 1338837297675427048326254676836512, 819, [1, 2, 4], [18468], []), (1329227995784915872902936246240672999, 0, 1, [3], [], []), (1329227967284462495364453135444583400, 0, 1, [2], [], []), (387243580688681425551400225433003337, 0, 3, [0, 1], [], []), (428783224446747055775421632348498250, 0, 1, [0], [], [])]
def gUD_269 : List zUD := [(253168959828304337863273067582621728, 169411624046041470683357423885221888, 16777215, [4, 7, 8, 9, 10], [1179684, 1310754, 1720358, 1851436], []), (1329227995784915872903807060279431201, 0, 5, [6, 9], [], []), (1329227995783939751911931673287198850, 0, 12291, [4, 5, 6, 8], [376876], []), (1329227995784915872902931848059944163, 0, 3, [3, 7], [], []), (1329227995784018928796260548503277700, 0, 4097, [2, 6], [], []), (344325961075394917884208724784190725, 166315768663135418460582627298508800, 819, [1, 2, 5], [34852], []), (1329227995783943297145558339341785350, 0, 3, [2, 4], [], []), (1329227995784915872902936246240672999, 0, 1, [3], [], []), (1329227995784018928796260548503413000, 0, 1, [2], [], []), (427483842928745055533381325370500425, 0, 3, [0, 1], [], []), (428783224446747055775421632348498250, 0, 1, [0], [], [])]
def gUD_270 : List zUD := [(128556452147676712361776912046031904, 210952433402135241883057722390224896, 16777215, [5, 7, 8, 9, 10], [1179684, 1310754, 1736741, 1867816], []), (1329227995784915872903807060279431201, 0, 5, [6, 9], [], []), (1329227995784915871972871455762354306, 0, 771, [4, 5, 6, 8], [376872], []), (1329227995784914955178289363140213987, 0, 3, [3, 7], [], []), (1329227995784915872048414501660397700, 0, 257, [2, 6], [], []), (1329227995784915872044931248823640325, 0, 3, [2, 5], [], []), (385863029879460119333191269059076358, 502148248909175583744834658107392, 12371, [1, 2, 4], [18468], []), (1329227995784914959789975385862569191, 0, 1, [3], [], []), (1329227995784915872048414501660533000, 0, 1, [2], [], []), (385946774124684580954477979576346953, 0, 3, [0, 1], [], []), (428783224446747055775421632348498250, 0, 1, [0], [], [])]
def gUD_271 : List zUD := [(128556449749165598883863354927023136, 169414238572080038394392478677471232, 16777215, [5, 7, 8, 9, 10], [1179688, 1310754, 1736745, 1867812], []), (1329227995784915872903807060279431201, 0, 5, [6, 9], [], []), (1329227995784915872903806172469989506, 0, 51, [4, 5, 6, 8], [376868], []), (1329227995784887506391556127746686179, 0, 3, [3, 7], [], []), (1329227995784915872903806244513517700, 0, 17, [2, 6], [], []), (1329227995784915872903806241191665925, 0, 3, [2, 5], [], []), (385863028680204562686560943590285574, 502316454172426371690071026827264, 21763, [1, 2, 4], [18472], []), (1329227995784887511007745745801444583, 0, 1, [3], [], []), (1329227995784915872903806244513653000, 0, 1, [2], [], []), (385946775323940137709197891554552137, 0, 3, [0, 1], [], []), (428783224446747055775421632348498250, 0, 1, [0], [], [])]
def gUD_272 : List zUD := [(131190632568340040235206049844496416, 44470655436005398319225364632043520, 16777215, [5, 7, 8, 9, 10], [1179716, 1474630, 1572898, 1867812], []), (1329226932634998364865462127698251809, 204260106482087745358355496960, 327685, [4, 5, 6, 9], [639056], []), (1329227995784915872903807060279429250, 0, 3, [6, 8], [], []), (1329227995784914955178289392265437155, 0, 5, [3, 7], [], []), (1329227055270851358212674868242157700, 204459579242324159172182016000, 65537, [2, 6], [], []), (1329227994751284297107374802805456133, 0, 3, [2, 5], [], []), (384566221996525169904265725238059206, 2677482327790937553924125186233344, 12341, [1, 2, 4], [18500], []), (1329227995784914959789975410827042791, 0, 1, [3], [], []), (1329227994867341175790382505333357832, 0, 1, [2], [], []), (387243581887935874349644924693326121, 0, 5, [0, 1], [], []), (428783224446747055775421632348498250, 0, 1, [0], [], [])]
def gUD_273 : List zUD := [(127377417006786168954969793608421408, 45598943698219920857948909928972288, 16777215, [6, 7, 8, 9, 10], [1179718, 1507396, 1572898, 1900580], []), (1329226932634998364865462127698251809, 204260106482087745358355496960, 327685, [4, 5, 6, 9], [639056], []), (1329227994779089590955162189316489186, 0, 1025, [5, 8], [], []), (1298073263895756703651749232082157539, 2596227657429928080854641522245632, 1025, [3, 7], [], []), (1329227055270851358212674868242157700, 204459579242324159172182016000, 65537, [2, 6], [], []), (1329227994751284297104000404837891333, 0, 3, [2, 5], [], []), (384566221996525169904265725238059206, 2677482327790937553924125186233344, 12341, [1, 2, 4], [18500], []), (1329197542459921118323124901555208167, 0, 1, [3], [], []), (1329227994867341175790382505333357832, 0, 1, [2], [], []), (387243581887935874349644924693326121, 0, 5, [0, 1], [], []), (428783224446747055775421632348498250, 0, 1, [0], [], [])]
def gUD_274 : List zUD := [(253168962226814161254847754443720736, 169410295199763970338787180597739520, 16777215, [4, 7, 8, 9, 10], [1179684, 1310754, 1720357, 1851432], []), (1329227995784915872903807060279431201, 0, 5, [6, 9], [], []), (1329227995784915871972905540622878850, 0, 771, [4, 5, 6, 8], [376872], []), (1329227995784914955178289363140213987, 0, 3, [3, 7], [], []), (1329227995784915872048414501660397700, 0, 257, [2, 6], [], []), (344325962274654057915581757531624709, 166315759228829585345165032467464192, 12371, [1, 2, 5], [34852], []), (1329227995784915871976286538878425350, 0, 3, [2, 4], [], []), (1329227995784914959789975385862569191, 0, 1, [3], [], []), (1329227995784915872048414501660533000, 0, 1, [2], [], []), (427483841729490642475669183021786441, 0, 3, [0, 1], [], []), (428783224446747055775421632348498250, 0, 1, [0], [], [])]
def gUD_275 : List zUD := [(250653943435959066619051666644699168, 353163815992520591999352372556070912, 16777215, [4, 7, 8, 9, 10], [1179688, 1310754, 1720361, 1851428], []), (1329227995784915872903807060279431201, 0, 5, [6, 9], [], []), (1329227995784915872903806172502558850, 0, 51, [4, 5, 6, 8], [376868], []), (1329227995784887506391556127746686179, 0, 3, [3, 7], [], []), (1329227995784915872903806244513517700, 0, 17, [2, 6], [], []), (343068452879226510691700114483057925, 342691593142344924238710714100875264, 21763, [1, 2, 5], [34856], []), (1329227995784915872903806175727065350, 0, 3, [2, 4], [], []), (1329227995784887511007745745801444583, 0, 1, [3], [], []), (1329227995784915872903806244513653000, 0, 1, [2], [], []), (428741351124918189704058819445073225, 0, 3, [0, 1], [], []), (428783224446747055775421632348498250, 0, 1, [0], [], [])]
def gUD_276 : List zUD := [(214224202997430486059700071058966560, 171837684699211285827716573959946240, 16777215, [5, 7, 8, 9, 10], [1179716, 1474630, 1572898, 1867812], []), (214434507884007057327780817517285409, 171345796331649311741506378864263168, 5242885, [4, 5, 6, 9], [639060], []), (1329227995784915872903807060279429250, 0, 3, [6, 8], [], []), (1329227995784914955178289392265437155, 0, 5, [3, 7], [], []), (343027520072359104274409384077037700, 214391407763599297528129929609216000, 1048577, [2, 6], [], []), (1328262012951299993511246309143608581, 81129715785932924008351024545856, 3, [2, 5], [], []), (342942954233110544517567496568709318, 214182247967815405673197520220754944, 12341, [1, 2, 4], [18500], []), (1329227995784914959789975410827042791, 0, 1, [3], [], []), (1328265848979342645959382652045753608, 0, 1, [2], [], []), (428741352361611561167443268041255209, 0, 5, [0, 1], [], []), (428783224446747055775421632348498250, 0, 1, [0], [], [])]
def gUD_277 : List zUD := [(85714852112241168864878738127589408, 256212512202077537729983038118428672, 16777215, [6, 7, 8, 9, 10], [1179718, 1507396, 1572898, 1900580], []), (214434507884007057327780817517285409, 171345796331649311741506378864263168, 5242885, [4, 5, 6, 9], [639060], []), (1328173310485525985105013080689999842, 81129638414606753753383043072000, 2049, [5, 8], [], []), (332306969235667992230331909104730083, 83076752212437320699306085103697920, 2049, [3, 7], [], []), (343027520072359104274409384077037700, 214391407763599297528129929609216000, 1048577, [2, 6], [], []), (1328262012951299993511246309143608581, 81129715785932924008351024545856, 3, [2, 5], [], []), (342942954233110544517567496568709318, 214182247967815405673197520220754944, 12341, [1, 2, 4], [18500], []), (1298074214604664352398284610015854567, 0, 1, [3], [], []), (1328265848979342645959382652045753608, 0, 1, [2], [], []), (428741352361611561167443268041255209, 0, 5, [0, 1], [], []), (428783224446747055775421632348498250, 0, 1, [0], [], [])]
def gUD_278 : List zUD := [(135326935710882617558628141493162112, 91354760742436219342488890184302592, 16777215, [3, 7, 8, 9, 10, 11], [2228257, 2498601, 2621478, 3285027, 3932262], [[33025], [33025, 34817, 10243]]), (218407651884700676389428794524475649, 91354760742436219342488890184302592, 1864135, [3, 6, 10], [1056801, 1114150], []), (332275306752738718235446381219348450, 41538374906964247255912104224358400, 147465, [4, 5, 6, 9], [639086], []), (332276574403340127056398229810905059, 83076749736559603239729376090128384, 147465, [4, 6, 8], [327790], []), (1329227995784915872903807059483693188, 0, 9, [3, 7], [], []), (415355859518471439210337235232817125, 0, 16385, [2, 6], [], []), (388578417972464888271998284880718150, 0, 63, [0, 1, 2, 5], [34849, 39971], [[169]]), (415353324139899730296268347684487143, 0, 9, [2, 4], [], []), (1329227995784915872903807059483697416, 0, 1, [3], [], []), (388582261776290449199024788013886825, 0, 7, [0, 2], [5153], []), (471660238388799018067981722826680650, 0, 9, [0, 1], [], []), (471661546891421761352963795583348075, 0, 1, [0], [], [])]
def gUD_279 : List zUD := [(135328366962814496498412401041903744, 87215759173000625835491618213330944, 16777215, [3, 7, 8, 9, 10, 11], [2228257, 2498607, 2760748, 3145763, 3932268], [[16642], [16642, 17410, 9219]]), (332276575330878987663926990182875105, 41539642518878849257645467336966144, 1052929, [4, 5, 6, 10], [1163532], []), (259947294519564381251731636179116290, 87215759173000625835491618213330944, 4095, [3, 5, 9], [532513, 557091], []), (332276575330765650940397911759093731, 83076749736557242056490140290777088, 2313, [4, 5, 8], [295016], []), (1329227995784887844229108563223482500, 0, 4097, [3, 7], [], []), (388582261853588502450763438441539909, 0, 28679, [0, 1, 2, 6], [67617, 72748], [[169]]), (415355860368636686323337510979338214, 0, 257, [2, 5], [], []), (415353325067474012183104394517348327, 0, 9, [2, 4], [], []), (1329227995784887844229108563223486728, 0, 1, [3], [], []), (388582261853588502596044144311053673, 0, 7, [0, 2], [5153], []), (471661546891421761315772779305707850, 0, 4097, [0, 1], [], []), (471661546891421761352963795583348075, 0, 1, [0], [], [])]
def gUD_280 : List zUD := [(252077479353032386844841147701955680, 46813267088955906777093276880076800, 16777215, [4, 7, 8, 9, 10], [1179681, 1458223, 1572899, 1851501], []), (290736932811962358285467164546760673, 41539642518878849257645467336966144, 1052929, [4, 5, 6, 9], [639244], []), (1329227995783933587240646540476481506, 0, 9, [5, 8], [], []), (1329227995784886625591078193786227811, 0, 4097, [3, 7], [], []), (343026579557397644477378839503316260, 84377360529092667998529038202175488, 28679, [1, 2, 6], [67617], []), (373816217849720056944877685343191013, 83079285037757698587350727735115776, 257, [2, 5], [], []), (1299372256932698126762573889262616550, 1298074214633743800621871013068800, 9, [2, 4], [], []), (1329227995784886625591078193786232039, 0, 1, [3], [], []), (1328294093791446533737322569283174376, 0, 1, [2], [], []), (428783224446747055738230616070858025, 0, 4097, [0, 1], [], []), (428783224446747055775421632348498250, 0, 1, [0], [], [])]
def gUD_281 : List zUD := [(250774370430365431155372357632167008, 50708811898456102228727246553612288, 16777215, [4, 7, 8, 9, 10], [1179681, 1310758, 1720361, 1851502], []), (1329227995784915872902857053241933793, 0, 65, [6, 9], [], []), (290735664195173062158476878508359650, 41538374906964247255912104224358400, 147465, [4, 5, 6, 8], [376942], []), (1329227995784915872903807059449056355, 0, 9, [3, 7], [], []), (373816216960905783133367731448086500, 83079285115131312153868636677734400, 16385, [2, 6], [], []), (343022817457614752621230517882463525, 84374824028599980386918955456987136, 63, [1, 2, 5], [34849], []), (1299340597582363280500148909110198246, 1298074214634887498753342568398848, 17, [2, 4], [], []), (1329227995784915872903807059449060583, 0, 1, [3], [], []), (1328265848951510199303762367744049128, 0, 1, [2], [], []), (428781915944124312490439559591830825, 0, 9, [0, 1], [], []), (428783224446747055775421632348498250, 0, 1, [0], [], [])]
def gUD_282 : List zUD := [(84457342716778131252722107957773440, 259822820725607547041355791855517696, 16777215, [6, 7, 8, 9, 10], [1179686, 1507364, 1572897, 1900596], []), (215692017279433460894065547097015425, 166315758749943697476367460545331200, 3145731, [4, 5, 6, 9], [639028], []), (1295478066203457241089921947905556450, 1298074214671485838995581244014592, 32769, [5, 8], [], []), (332306969234761331012083408344973283, 41538376106256439245487202694594560, 32769, [3, 7], [], []), (343027520072359104274409384077037700, 214391407763599297528129929609216000, 1048577, [2, 6], [], []), (1299339296856524255388980934007038949, 1298074253319333134835942044992512, 5, [2, 5], [], []), (340427935442221174820191252722751750, 207894699714055287359668818450481312, 819, [1, 2, 4], [18468], []), (1328254440094019678660973896610611175, 0, 1, [3], [], []), (1299343132883666422813478871238681576, 0, 1, [2], [], []), (427483842966221720165965323148010825, 0, 3, [0, 1], [], []), (428783224446747055775421632348498250, 0, 1, [0], [], [])]
def gUD_283 : List zUD := [(87137156048181506229035607657677952, 127377377440011256038204616363474944, 16777215, [6, 7, 8, 9, 10], [1179686, 1507364, 1572897, 1900588], []), (1329227995783939751911931673287197825, 0, 12291, [4, 5, 6, 9], [639020], []), (1329227964836385375978782252489244642, 9903529759016007938483421184, 16385, [4, 8], [], []), (332306969234761331012083408344973283, 41538376106256439245487202694594560, 32769, [3, 7], [], []), (1329227995784018928796260548503277700, 0, 4097, [2, 6], [], []), (344325961075394917884208724784190725, 166315768663135418460582627298508800, 819, [1, 2, 5], [34852], []), (1329227995783943297145558339341785350, 0, 3, [2, 4], [], []), (1329197542459948566240637050677100519, 0, 1, [3], [], []), (1329227995784018928796260548503413000, 0, 1, [2], [], []), (427483842928745055533381325370500425, 0, 3, [0, 1], [], []), (428783224446747055775421632348498250, 0, 1, [0], [], [])]
def gUD_284 : List zUD := [(127377415807531720156725094348096640, 87137322009481432617253112643584000, 16777215, [6, 7, 8, 9, 10], [1179686, 1507364, 1572897, 1900592], []), (1329226933834252777923174269006775425, 198263834416799184651812864000, 196611, [4, 5, 6, 9], [639024], []), (1329227963598444156101781260178816994, 0, 16385, [5, 8], [], []), (1298073263895728401761644954641235939, 1298113828716144630922138265583616, 16385, [3, 7], [], []), (1329227055270851358212674868242157700, 204459579242324159172182016000, 65537, [2, 6], [], []), (1329227963570638835733450158510154725, 0, 5, [2, 5], [], []), (384566219598016379529374000572799238, 1338837297675427048326254676836512, 819, [1, 2, 4], [18468], []), (1329197571242027031708216292959846375, 0, 1, [3], [], []), (1329227967284462495364453135444583400, 0, 1, [2], [], []), (387243580688681425551400225433003337, 0, 3, [0, 1], [], []), (428783224446747055775421632348498250, 0, 1, [0], [], [])]
def gUD_285 : List zUD := [(88394666642865903863253447304414336, 342776567899968398632177107019497472, 16777215, [6, 7, 8, 9, 10], [1179689, 1507368, 1572897, 1900580], []), (1329227995784915872903806172502557825, 0, 51, [4, 5, 6, 9], [639012], []), (1329227995784915872903806200313781218, 0, 5, [4, 8], [], []), (332306998017773906448588407878713315, 41538374906964247255912138584096768, 129, [3, 7], [], []), (1329227995784915872903806244513517700, 0, 17, [2, 6], [], []), (343068452879226510691700114483057925, 342691593142344924238710714100875264, 21763, [1, 2, 5], [34856], []), (1329227995784915872903806175727065350, 0, 3, [2, 4], [], []), (1329197571241148670704733832087601127, 0, 1, [3], [], []), (1329227995784915872903806244513653000, 0, 1, [2], [], []), (428741351124918189704058819445073225, 0, 3, [0, 1], [], []), (428783224446747055775421632348498250, 0, 1, [0], [], [])]
def gUD_286 : List zUD := [(87137157247438356560484119219405952, 127377377444611980307598642058887168, 16777215, [6, 7, 8, 9, 10], [1179685, 1507364, 1572897, 1900584], []), (1329227995784915871972905540622877825, 0, 771, [4, 5, 6, 9], [639016], []), (1329227994817775217183956222813929442, 464227514745528401969283072, 1025, [4, 8], [], []), (332306998017773905615423271384121315, 41538374906964247291940901243322368, 2049, [3, 7], [], []), (1329227995784915872048414501660397700, 0, 257, [2, 6], [], []), (344325962274654057915581757531624709, 166315759228829585345165032467464192, 12371, [1, 2, 5], [34852], []), (1329227995784915871976286538878425350, 0, 3, [2, 4], [], []), (1329197571241148671568579711784189927, 0, 1, [3], [], []), (1329227995784915872048414501660533000, 0, 1, [2], [], []), (427483841729490642475669183021786441, 0, 3, [0, 1], [], []), (428783224446747055775421632348498250, 0, 1, [0], [], [])]
def gUD_287 : List zUD := [(87097779609101950442800367360053376, 126045359020526682591730778226294784, 16777215, [6, 7, 8, 9, 10], [1179686, 1507364, 1572897, 1900592], []), (1329226972210393995769962790879531137, 5106502662052193633958887424, 196611, [4, 5, 6, 9], [639024], []), (249229219243559040733075107700801506, 41538414482359878160412767405735936, 524289, [5, 8], [], []), (332306969234761331012083408344973283, 124615128318769317736461608083783680, 32769, [3, 7], [], []), (1329227055270851358212674868242157700, 163567663393859327337745612800, 65537, [2, 6], [], []), (1329227084628631785837722136086872037, 0, 9, [2, 5], [], []), (344365139360659470710420195114164486, 41539647625381511309839135656644736, 819, [1, 2, 4], [18468], []), (1328254410413351314810742648288051175, 0, 1, [3], [], []), (1329227084632371900200241286153011176, 0, 1, [2], [], []), (427444545797614680829988465272990025, 0, 3, [0, 1], [], []), (428783224446747055775421632348498250, 0, 1, [0], [], [])]
def gUD_288 : List zUD := [(44217003649551932957577617680142464, 340303459138496583108322684911484928, 16777215, [6, 7, 8, 9, 10], [1179686, 1507364, 1572897, 1900596], []), (255932317933078375015176893648375937, 5354556135364040991922074339508224, 3145731, [4, 5, 6, 9], [639028], []), (249229219243559040733075107700801506, 41538414482359878160412767405735936, 524289, [5, 8], [], []), (1298073263895728401761644954641235939, 2596227657432289261844276531167232, 16385, [3, 7], [], []), (343027520072359104274409384077037700, 171513126210879438022503943687372800, 1048577, [2, 6], [], []), (373812414898870111327308139950538725, 0, 9, [2, 5], [], []), (259947295796303391738909139100967174, 5354595750654223943705534646980736, 819, [1, 2, 4], [18468], []), (1328254410413351314810742648288051175, 0, 1, [3], [], []), (373816217850674337793752482014593000, 0, 1, [2], [], []), (387243580651204760883913397115332937, 0, 3, [0, 1], [], []), (428783224446747055775421632348498250, 0, 1, [0], [], [])]
def gUD_289 : List zUD := [(128595631789239225434183345313452160, 46016043723317099954533431213293568, 16777215, [6, 7, 8, 9, 10], [1179689, 1507368, 1572897, 1900580], []), (1329227995784915872903806172469956737, 0, 51, [4, 5, 6, 9], [639012], []), (1329227995784915872903807031389126626, 0, 9, [5, 8], [], []), (1328253489385990389238079117538099171, 40604433288560473016692348289024, 65, [3, 7], [], []), (1329227995784915872903806244513517700, 0, 17, [2, 6], [], []), (1329227995784915872903806241191665925, 0, 3, [2, 5], [], []), (385863028680204562686560943590285574, 502316454172426371690071026827264, 21763, [1, 2, 4], [18472], []), (1328254440094019677823304390884196327, 0, 1, [3], [], []), (1329227995784915872903806244513653000, 0, 1, [2], [], []), (385946775323940137709197891554552137, 0, 3, [0, 1], [], []), (428783224446747055775421632348498250, 0, 1, [0], [], [])]
def gUD_290 : List zUD := [(127338121194518229459723299202306176, 45564516274057150990448657386438656, 16777215, [6, 7, 8, 9, 10], [1179686, 1507364, 1572897, 1900588], []), (1329227995783939716171365030474846337, 0, 12291, [4, 5, 6, 9], [639020], []), (1295478066203457241089921947905556450, 10384593717371886711964649952116736, 32769, [5, 8], [], []), (1298073263895728401761644954641235939, 3894341486148433892766414796750848, 16385, [3, 7], [], []), (1329227995784018928796260548503277700, 0, 4097, [2, 6], [], []), (1329227995784015276340933954012094725, 0, 3, [2, 5], [], []), (384605520483956973925982185363546374, 10394893532939014675876621896908800, 819, [1, 2, 4], [18468], []), (1328254410413351314810742648288051175, 0, 1, [3], [], []), (1329227995784018928796260548503413000, 0, 1, [2], [], []), (387204283520074386215423367557982537, 0, 3, [0, 1], [], []), (428783224446747055775421632348498250, 0, 1, [0], [], [])]
def gUD_291 : List zUD := [(128595630589983668605083741673525376, 45569586876186486733262399006048256, 16777215, [6, 7, 8, 9, 10], [1179685, 1507364, 1572897, 1900584], []), (1329227995784915871972871455762321537, 0, 771, [4, 5, 6, 9], [639016], []), (1328173310485525985105013080689999842, 486777830487640522520298258432000, 2049, [5, 8], [], []), (1328253489385990389242582712870502371, 40604433288560474142591181389824, 1025, [3, 7], [], []), (1329227995784915872048414501660397700, 0, 257, [2, 6], [], []), (1329227995784915872044931248823640325, 0, 3, [2, 5], [], []), (385863029879460119333191269059076358, 502148248909175583744834658107392, 12371, [1, 2, 4], [18468], []), (1328254440094019678687150270580785127, 0, 1, [3], [], []), (1329227995784915872048414501660533000, 0, 1, [2], [], []), (385946774124684580954477979576346953, 0, 3, [0, 1], [], []), (428783224446747055775421632348498250, 0, 1, [0], [], [])]
def gUc_F : List (List zUD) := [gUD_243, gUD_244, gUD_245, gUD_246, gUD_247, gUD_248, gUD_249, gUD_250, gUD_251, gUD_252, gUD_253, gUD_254, gUD_255, gUD_256, gUD_257, gUD_258, gUD_259, gUD_260, gUD_261, gUD_262, gUD_263, gUD_264, gUD_265, gUD_266, gUD_267, gUD_268, gUD_269, gUD_270, gUD_271, gUD_272, gUD_273, gUD_274, gUD_275, gUD_276, gUD_277, gUD_278, gUD_279, gUD_280, gUD_281, gUD_282, gUD_283, gUD_284, gUD_285, gUD_286, gUD_287, gUD_288, gUD_289, gUD_290, gUD_291]
theorem kun_F : kunZ gTc_F gUc_F = true := by decide +kernel
theorem gTabs_un {T : zGT} (hT : T ∈ gTabs) : ∃ D, kunT T.1 T.2.1 T.2.2.1 T.2.2.2.1 D = true := by
  have h : T ∈ gTc_A ++ (gTc_B ++ (gTc_C ++ (gTc_D ++ (gTc_E ++ (gTc_F))))) := hT
  rcases List.mem_append.mp h with h | h
  · exact kunZ_s kun_A T h
  rcases List.mem_append.mp h with h | h
  · exact kunZ_s kun_B T h
  rcases List.mem_append.mp h with h | h
  · exact kunZ_s kun_C T h
  rcases List.mem_append.mp h with h | h
  · exact kunZ_s kun_D T h
  rcases List.mem_append.mp h with h | h
  · exact kunZ_s kun_E T h
  exact kunZ_s kun_F T h
theorem gun {T : zGT} (hT : T ∈ gTabs) (hA : gGr T) {r j : Nat} : (∀ i, j ≤ i → i < (gF T).length → zyR T i r) ↔ ∀ i, j ≤ i → i < (gF T).length → zyC T i r := by
  obtain ⟨D, hD⟩ := gTabs_un hT
  exact gun_a hT hA hD _ j rfl
theorem gun_ge {T : zGT} (hT : T ∈ gTabs) (hA : gGr T) {j x : Nat} (hj : j < (gF T).length) (hx : gUr T j x) : j ≤ gUs T j x ∧ gUs T j x < (gF T).length := by
  obtain ⟨D, hD⟩ := gTabs_un hT
  exact (((kun_d hT hA hD hj).2 x hx.1).1 hx.2.1).2
theorem kfv8 : ∀ d : Fin 8, kf3 15 (kf2 51 (kf1 85 d.val)) = gup (fun k r => r + (d.val >>> k) % 2) 0 7 ∧ kf2 51 (kf1 85 d.val) % 16 ≤ 4 ∧ kf3 15 (kf2 51 (kf1 85 d.val)) ≤ 8 := by decide +kernel
theorem kbc_h {x : Nat} (h : x < 134217728) : kbc x = gcb x := by
  obtain ⟨a, b, c, d, ha, hb, hc, hd, rfl⟩ : ∃ a b c d : Nat, a < 256 ∧ b < 256 ∧ c < 256 ∧ d < 8 ∧ x = a + 256 * (b + 256 * (c + 256 * d)) := ⟨x % 256, x / 256 % 256, x / 65536 % 256, x / 16777216, by omega, by omega, by omega, by omega, by omega⟩
  have va := kf_v ⟨a, ha⟩
  have vb := kf_v ⟨b, hb⟩
  have vc := kf_v ⟨c, hc⟩
  have vd := kfv8 ⟨d, hd⟩
  have e1 : kbc1 (a + 256 * (b + 256 * (c + 256 * d))) = kf1 85 a + 256 * (kf1 85 b + 256 * (kf1 85 c + 256 * kf1 85 d)) := by
    rw [← kf1_s hc, ← kf1_s hb, ← kf1_s ha]
    unfold kf1 kbc1
    show _ - (((a + 256 * (b + 256 * (c + 256 * d))) >>> 1) &&& 1431655765) = _
    rw [Nat.shiftRight_eq_div_pow]
  have e2 : kbc2 (kbc1 (a + 256 * (b + 256 * (c + 256 * d)))) = kf2 51 (kf1 85 a) + 256 * (kf2 51 (kf1 85 b) + 256 * (kf2 51 (kf1 85 c) + 256 * kf2 51 (kf1 85 d))) := by
    rw [e1, ← kf2_s vc.1, ← kf2_s vb.1, ← kf2_s va.1]
    unfold kf2 kbc2
    show (_ &&& 858993459) + ((_ >>> 2) &&& 858993459) = _
    rw [Nat.shiftRight_eq_div_pow]
  have e3 : kbc3 (kbc2 (kbc1 (a + 256 * (b + 256 * (c + 256 * d))))) = kf3 15 (kf2 51 (kf1 85 a)) + 256 * (kf3 15 (kf2 51 (kf1 85 b)) + 256 * (kf3 15 (kf2 51 (kf1 85 c)) + 256 * kf3 15 (kf2 51 (kf1 85 d)))) := by
    have wb := vb.2.2.1
    have wc := vc.2.2.1
    have wd := vd.2.1
    rw [e2, ← kf3_s (M := 15) vc.2.1 wd, ← kf3_s vb.2.1 (by omega), ← kf3_s va.2.1 (by omega)]
    unfold kf3 kbc3
    show ((_ + (_ >>> 4)) &&& 252645135) = _
    rw [Nat.shiftRight_eq_div_pow]
  have va4 := va.2.2.2.1
  have vb4 := vb.2.2.2.1
  have vc4 := vc.2.2.2.1
  have vd4 := vd.2.2
  have va5 := va.2.2.2.2
  have vb5 := vb.2.2.2.2
  have vc5 := vc.2.2.2.2
  have vd5 := vd.1
  have eg : gcb (a + 256 * (b + 256 * (c + 256 * d))) = kf3 15 (kf2 51 (kf1 85 a)) + (kf3 15 (kf2 51 (kf1 85 b)) + (kf3 15 (kf2 51 (kf1 85 c)) + kf3 15 (kf2 51 (kf1 85 d)))) := by
    unfold gcb
    rw [gcb_c, gcb_by ha 23, gcb_by hb 15, gcb_by hc 7, va5, vb5, vc5, vd5, gcb_c d 7]
  rw [eg]
  unfold kbc
  rw [e3]
  generalize kf3 15 (kf2 51 (kf1 85 a)) = p at va4 ⊢
  generalize kf3 15 (kf2 51 (kf1 85 b)) = q at vb4 ⊢
  generalize kf3 15 (kf2 51 (kf1 85 c)) = r at vc4 ⊢
  generalize kf3 15 (kf2 51 (kf1 85 d)) = s at vd4 ⊢
  have e4 : kbc4 (p + 256 * (q + 256 * (r + 256 * s))) = (p + q) + 256 * (q + r) + 65536 * (r + s) + 16777216 * s := by
    unfold kbc4
    show _ + (_ >>> 8) = _
    rw [Nat.shiftRight_eq_div_pow]
    omega
  rw [e4]
  unfold kbc5
  show ((_ + (_ >>> 16)) &&& 63) = _
  rw [Nat.shiftRight_eq_div_pow]
  have e5 : ∀ z : Nat, z &&& 63 = z % 64 := fun z => Nat.and_two_pow_sub_one_eq_mod z 6
  have e6 : ((p + q) + 256 * (q + r) + 65536 * (r + s) + 16777216 * s) / 2 ^ 16 = (r + s) + 256 * s := by
    rw [show (2 : Nat) ^ 16 = 65536 by decide]
    omega
  rw [e6, e5]
  omega
theorem zct_p (q : Nat → Bool) : ∀ n, zct (fun i => q i = true) n % 2 = (zbx q n).toNat
  | 0 => rfl
  | n + 1 => by
    have ih := zct_p q n
    cases h : q n with
    | true =>
      rw [zct_t (p := fun i => q i = true) h]
      have e : zbx q (n + 1) = Bool.xor (zbx q n) true := by rw [← h]; rfl
      rw [e]
      cases g : zbx q n with
      | true =>
        rw [g] at ih
        have i2 : zct (fun i => q i = true) n % 2 = 1 := ih
        show (zct (fun i => q i = true) n + 1) % 2 = 0
        omega
      | false =>
        rw [g] at ih
        have i2 : zct (fun i => q i = true) n % 2 = 0 := ih
        show (zct (fun i => q i = true) n + 1) % 2 = 1
        omega
    | false =>
      rw [zct_f (p := fun i => q i = true) (by rw [h]; decide)]
      have e : zbx q (n + 1) = zbx q n := by
        show Bool.xor (zbx q n) (q n) = _
        rw [h]
        exact Bool.xor_false _
      rw [e]
      exact ih
theorem zpar_k {x : Nat} (h : x < 134217728) : kbc x % 2 = (zpar x).toNat := by
  rw [kbc_h h]
  unfold gcb
  rw [gcb_c, zct_p]
  unfold zpar
  have e : zbx (fun i => x.testBit i) 32 = zbx (fun i => x.testBit i) 31 := by
    show Bool.xor (zbx (fun i => x.testBit i) 31) (x.testBit 31) = _
    rw [Nat.testBit_lt_two_pow (show x < 2 ^ 31 by omega)]
    exact Bool.xor_false _
  rw [e]
theorem zxor_n (m n : Nat) (hm : m < 2147483648) (hn : n < 2147483648) : zxor m n = ((m ^^^ n : Nat) : Int) := by
  refine zn_ti ?_ (Nat.xor_lt_two_pow (n := 31) hm hn)
  rw [Int32.toBitVec_xor, BitVec.toNat_xor, zn_bv m hm, zn_bv n hn]
theorem zpar_i {w a v : Int} (hw : 0 ≤ w ∧ w < 134217728) (ha : 0 ≤ a ∧ a < 134217728) (hv : v = ((kbc (zand w a).toNat : Nat) : Int)) : (zand v 1 = 0 ↔ zpm a.toNat w.toNat = false) := by
  obtain ⟨m, rfl⟩ := Int.eq_ofNat_of_zero_le hw.1
  obtain ⟨n, rfl⟩ := Int.eq_ofNat_of_zero_le ha.1
  have h1 := zand_n m n (by omega) (by omega)
  have hl : m &&& n < 134217728 := Nat.lt_of_le_of_lt Nat.and_le_left (by omega)
  rw [h1, Int.toNat_natCast] at hv
  have h2 := zand_n (kbc (m &&& n)) 1 (by have := kbc_b (m &&& n); omega) (by omega)
  rw [hv]
  have h3 : zand ((kbc (m &&& n) : Nat) : Int) 1 = ((kbc (m &&& n) &&& 1 : Nat) : Int) := h2
  rw [h3, Nat.and_one_is_mod, zpar_k hl, Int.toNat_natCast, Int.toNat_natCast]
  unfold zpm
  cases zpar (m &&& n) <;> decide
theorem zand_p {w a : Int} (hw : 0 ≤ w ∧ w < 134217728) (ha : 0 ≤ a ∧ a < 134217728) : 0 ≤ zand w a := by
  obtain ⟨m, rfl⟩ := Int.eq_ofNat_of_zero_le hw.1
  obtain ⟨n, rfl⟩ := Int.eq_ofNat_of_zero_le ha.1
  rw [zand_n m n (by omega) (by omega)]
  omega
theorem zxor_i {w a : Int} (hw : 0 ≤ w ∧ w < 134217728) (ha : 0 ≤ a ∧ a < 134217728) : (zxor w a).toNat = w.toNat ^^^ a.toNat ∧ 0 ≤ zxor w a ∧ zxor w a < 134217728 := by
  obtain ⟨m, rfl⟩ := Int.eq_ofNat_of_zero_le hw.1
  obtain ⟨n, rfl⟩ := Int.eq_ofNat_of_zero_le ha.1
  have hl : m ^^^ n < 2 ^ 27 := Nat.xor_lt_two_pow (by omega) (by omega)
  rw [zxor_n m n (by omega) (by omega)]
  omega
def zub (d : Nat) (M : zMem) : Nat → Nat := fun i => (ze M (d + 30) i).toNat
def zNw (S : Nat → Prop) (d : Nat) (M : zMem) : Prop := (0 ≤ ze M (d + 28) 3 ∧ ze M (d + 28) 3 ≤ 27) ∧ (∀ i : Nat, (i : Int) < ze M (d + 28) 3 → 0 ≤ ze M (d + 30) i ∧ ze M (d + 30) i < 134217728) ∧ zind (zub d M) (ze M (d + 28) 3).toNat ∧ ∀ x, zsp (zub d M) (ze M (d + 28) 3).toNat x ↔ S x
def zNv (S : Nat → Prop) (q : Nat) (k o : Int) (d : Nat) (M : zMem) : Prop := zNw S d M ∧ (∀ i : Nat, (i : Int) < k → (i : Int) ≠ o → zpm q (zub d M i) = false) ∧ (o = -1 ∨ (0 ≤ o ∧ o < k ∧ zpm q (zub d M o.toNat) = true))
section ZNW
variable {S S' : Nat → Prop} {q d : Nat} {k o : Int} {M N : zMem} {FA : List (Nat × Nat)} {CA : List Nat} {FR : List (Nat × Nat)} {CR : List Nat}
theorem zNw_e (h3 : ze N (d + 28) 3 = ze M (d + 28) 3) (hr : ∀ i : Nat, (i : Int) < ze M (d + 28) 3 → ze N (d + 30) i = ze M (d + 30) i) (h : zNw S d M) : zNw S d N := by
  obtain ⟨a, b, c, e⟩ := h
  have hc : ∀ i, i < (ze M (d + 28) 3).toNat → zub d N i = zub d M i := fun i hi => by
    unfold zub
    rw [hr i (by omega)]
  have hc2 : ∀ p : Nat → Bool, zxs (zpk p (zub d N)) (ze M (d + 28) 3).toNat = zxs (zpk p (zub d M)) (ze M (d + 28) 3).toNat := fun p => zxs_c _ (fun i hi => by
    unfold zpk
    rw [hc i hi])
  unfold zNw
  rw [h3]
  refine ⟨a, fun i hi => by rw [hr i hi]; exact b i hi, fun p hp => c p (by rw [← hc2]; exact hp), fun x => ?_⟩
  rw [← e x]
  constructor
  · rintro ⟨p, hp⟩
    exact ⟨p, by rw [← hc2]; exact hp⟩
  · rintro ⟨p, hp⟩
    exact ⟨p, by rw [hc2]; exact hp⟩
theorem zNw.fr (_ : zKW d M) (hf : zFc d FA CA FR CR M N) (h : zNw S d M) (hd : (28 < 38 ∧ 28 ∉ CR ∧ (28, 3) ∉ FR) ∧ 30 < 38 ∧ 30 ∉ CR ∧ ∀ x ∈ FR, x.1 ≠ 30) : zNw S d N := zNw_e (hf.e hd.1) (fun i _ => hf.r hd.2 i) h
theorem zNw.c (h : zNw S d M) (hc : ∀ x, S x ↔ S' x) : zNw S' d M := ⟨h.1, h.2.1, h.2.2.1, fun x => (h.2.2.2 x).trans (hc x)⟩
theorem zpm_l (q : Nat) : zln (zpm q) := ⟨zpm_00 q, zpm_x q⟩
theorem zNv_0 (h : zNw S d M) : zNv S q 0 (-1) d M := ⟨h, fun i hi => absurd hi (by omega), Or.inl rfl⟩
theorem zNv_e (h : zNv S q k o d M) (k0 : 0 ≤ k) (he : zpm q (zub d M k.toNat) = false) : zNv S q (k + 1) o d M := by
  obtain ⟨a, b, c⟩ := h
  refine ⟨a, fun i hi ho => ?_, ?_⟩
  · by_cases g : (i : Int) = k
    · rw [show i = k.toNat by omega]
      exact he
    · exact b i (by omega) ho
  · rcases c with c | ⟨c1, c2, c3⟩
    · exact Or.inl c
    · exact Or.inr ⟨c1, by omega, c3⟩
theorem zNv_o (h : zNv S q k (-1) d M) (k0 : 0 ≤ k) (he : zpm q (zub d M k.toNat) = true) : zNv S q (k + 1) k d M := by
  obtain ⟨a, b, c⟩ := h
  exact ⟨a, fun i hi ho => b i (by omega) (by omega), Or.inr ⟨k0, by omega, he⟩⟩
theorem zNv_x (h : zNv S q k o d M) (k0 : 0 ≤ k) (hk : k < ze M (d + 28) 3) (ho : o ≠ -1) (he : zpm q (zub d M k.toNat) = true) (h3 : ze N (d + 28) 3 = ze M (d + 28) 3) (hr : ∀ i : Nat, (i : Int) ≠ k → ze N (d + 30) i = ze M (d + 30) i) (hx : ze N (d + 30) k.toNat = zxor (ze M (d + 30) k.toNat) (ze M (d + 30) o.toNat)) : zNv S q (k + 1) o d N := by
  obtain ⟨⟨a1, a2, a3, a4⟩, b, c⟩ := h
  rcases c with c | ⟨c1, c2, c3⟩
  · exact absurd c ho
  have hk1 := a2 k.toNat (by omega)
  have ho1 := a2 o.toNat (by omega)
  obtain ⟨x1, x2, x3⟩ := zxor_i hk1 ho1
  rw [← hx] at x1 x2 x3
  have hb : ∀ i, i < (ze M (d + 28) 3).toNat → zub d N i = zub d M i ^^^ cond (decide (i = k.toNat)) (zub d M o.toNat) 0 := fun i hi => by
    by_cases g : i = k.toNat
    · rw [g, decide_eq_true rfl]
      exact x1
    · rw [decide_eq_false g]
      show zub d N i = zub d M i ^^^ 0
      rw [Nat.xor_zero]
      unfold zub
      rw [hr i (by omega)]
  have hto : decide (o.toNat = k.toNat) = false := decide_eq_false (by omega)
  have hom : o.toNat < (ze M (d + 28) 3).toNat := by omega
  have hbk := hb k.toNat (by omega)
  rw [decide_eq_true rfl] at hbk
  refine ⟨⟨by rw [h3]; exact a1, fun i hi => ?_, ?_, fun x => ?_⟩, fun i hi hio => ?_, Or.inr ⟨c1, by omega, ?_⟩⟩
  · rw [h3] at hi
    by_cases g : (i : Int) = k
    · rw [show i = k.toNat by omega]
      exact ⟨x2, x3⟩
    · rw [hr i g]
      exact a2 i hi
  · rw [h3]
    exact zind_a hom hb hto a3
  · rw [h3, ← a4 x]
    exact zsp_a hom hb hto
  · by_cases g : (i : Int) = k
    · rw [show i = k.toNat by omega, hbk]
      show zpm q (zub d M k.toNat ^^^ zub d M o.toNat) = false
      rw [zpm_x, he, c3]
      rfl
    · have e : zub d N i = zub d M i := by
        unfold zub
        rw [hr i g]
      rw [e]
      exact b i (by omega) hio
  · have e : zub d N o.toNat = zub d M o.toNat := by
      unfold zub
      rw [hr o.toNat (by omega)]
    rw [e]
    exact c3
theorem zNv_n (h : zNv S q k (-1) d M) (hk : k = ze M (d + 28) 3) : zNw (fun x => S x ∧ zpm q x = false) d M := by
  obtain ⟨⟨a1, a2, a3, a4⟩, b, -⟩ := h
  refine ⟨a1, a2, a3, fun x => ⟨fun hx => ⟨(a4 x).mp hx, ?_⟩, fun hx => (a4 x).mpr hx.1⟩⟩
  refine zsp_l (S := fun x => zpm q x = false) (zpm_00 q) (fun x i hi hx => ?_) hx
  rw [zpm_x, hx, b i (by omega) (by omega)]
  rfl
theorem zNv_d (h : zNv S q k o d M) (hk : k = ze M (d + 28) 3) (ho : o ≠ -1) (h3 : ze N (d + 28) 3 = ze M (d + 28) 3 - 1) (hr : ∀ i : Nat, (i : Int) ≠ o → ze N (d + 30) i = ze M (d + 30) i) (hx : ze N (d + 30) o.toNat = ze M (d + 30) (ze M (d + 28) 3 - 1).toNat) : zNw (fun x => S x ∧ zpm q x = false) d N := by
  obtain ⟨⟨a1, a2, a3, a4⟩, b, c⟩ := h
  rcases c with c | ⟨c1, c2, c3⟩
  · exact absurd c ho
  obtain ⟨n, hn⟩ : ∃ n : Nat, ze M (d + 28) 3 = (n : Int) + 1 := ⟨(ze M (d + 28) 3 - 1).toNat, by omega⟩
  have e1 : (ze M (d + 28) 3).toNat = n + 1 := by omega
  have e2 : (ze N (d + 28) 3).toNat = n := by omega
  rw [e1] at a3
  have hb : ∀ i, i < n → zub d N i = if i = o.toNat then zub d M n else zub d M i := fun i hi => by
    by_cases g : i = o.toNat
    · rw [if_pos g, g]
      unfold zub
      rw [hx, show (ze M (d + 28) 3 - 1).toNat = n by omega]
    · rw [if_neg g]
      unfold zub
      rw [hr i (by omega)]
  refine ⟨by omega, fun i hi => ?_, ?_, fun x => ?_⟩
  · by_cases g : (i : Int) = o
    · rw [show i = o.toNat by omega, hx]
      exact a2 _ (by omega)
    · rw [hr i g]
      exact a2 i (by omega)
  · rw [e2]
    exact zind_d (by omega) hb a3
  · show zsp (zub d N) (ze N (d + 28) 3).toNat x ↔ (S x ∧ zpm q x = false)
    rw [e2, ← a4 x, e1]
    exact zsp_d (zpm_l q) (by omega) c3 (fun i hi hio => b i (by omega) (by omega)) hb
end ZNW
def zPd (T : zGT) (j g k x : Nat) : Prop := ∀ g' k', gUr T j g' → gUr T j k' → (g' < g ∨ (g' = g ∧ k' < k)) → zpm (gUq T j g' k') x = false
def zJn (T : zGT) (j : Nat) (s : Int) (d : Nat) (M : zMem) (g : Int) : Prop := (0 ≤ s ∧ s < 16777216) ∧ (∀ x : Nat, s.toNat.testBit x = true ↔ ((x : Int) < g ∧ gUr T j x)) ∧ ∀ x : Nat, (x : Int) < g → gUr T j x → ze M (d + 32) x = ((2 ^ ((gF T).length - 1 - gUs T j x) : Nat) : Int)
section ZPD
variable {T : zGT} {S : Nat → Prop} {j d : Nat} {g k s v : Int} {M N : zMem}
theorem zPd_0 (h : zNw S d M) : zNw (fun x => S x ∧ zPd T j 0 0 x) d M := h.c (fun x => ⟨fun q => ⟨q, fun g' k' _ _ q2 => absurd q2 (by omega)⟩, fun q => q.1⟩)
theorem zPd_k (h : zNw (fun x => S x ∧ zPd T j g.toNat k.toNat x) d M) (k0 : 0 ≤ k) (hn : ¬ (gUr T j g.toNat ∧ gUr T j k.toNat)) : zNw (fun x => S x ∧ zPd T j g.toNat (k + 1).toNat x) d M := h.c (fun x => and_congr_right fun _ => by
  constructor
  · intro q g' k' h1 h2 h3
    refine q g' k' h1 h2 ?_
    rcases h3 with h3 | ⟨h3, h4⟩
    · exact Or.inl h3
    · refine Or.inr ⟨h3, ?_⟩
      by_cases e : k' = k.toNat
      · rw [h3] at h1
        rw [e] at h2
        exact absurd ⟨h1, h2⟩ hn
      · omega
  · intro q g' k' h1 h2 h3
    exact q g' k' h1 h2 (by omega))
theorem zPd_s (h : zNw (fun x => (S x ∧ zPd T j g.toNat k.toNat x) ∧ zpm (gUq T j g.toNat k.toNat) x = false) d M) (k0 : 0 ≤ k) (hg : gUr T j g.toNat) (hk : gUr T j k.toNat) : zNw (fun x => S x ∧ zPd T j g.toNat (k + 1).toNat x) d M := h.c (fun x => by
  constructor
  · rintro ⟨⟨q1, q2⟩, q3⟩
    refine ⟨q1, fun g' k' h1 h2 h3 => ?_⟩
    by_cases e : g' = g.toNat ∧ k' = k.toNat
    · rw [e.1, e.2]
      exact q3
    · exact q2 g' k' h1 h2 (by omega)
  · rintro ⟨q1, q2⟩
    exact ⟨⟨q1, fun g' k' h1 h2 h3 => q2 g' k' h1 h2 (by omega)⟩, q2 _ _ hg hk (by omega)⟩)
theorem zPd_r (h : zNw (fun x => S x ∧ zPd T j g.toNat k.toNat x) d M) (g0 : 0 ≤ g) (hk : k = (gN T : Int)) : zNw (fun x => S x ∧ zPd T j (g + 1).toNat 0 x) d M := h.c (fun x => and_congr_right fun _ => by
  constructor
  · intro q g' k' h1 h2 h3
    have := h2.1
    exact q g' k' h1 h2 (by omega)
  · intro q g' k' h1 h2 h3
    exact q g' k' h1 h2 (by omega))
theorem zPd_e (h : zNw (fun x => S x ∧ zPd T j g.toNat 0 x) d M) (hg : g = (gN T : Int)) : zNw (fun x => S x ∧ zyC T j x) d M := h.c (fun x => and_congr_right fun _ => by
  constructor
  · intro q g' k' h1 h2
    have := h1.1
    exact q g' k' h1 h2 (by omega)
  · intro q g' k' h1 h2 h3
    exact q g' k' h1 h2)
theorem zJn_0 : zJn T j 0 d M 0 := ⟨by omega, fun x => ⟨fun h => by rw [show (0 : Int).toNat = 0 from rfl, Nat.zero_testBit] at h; cases h, fun h => absurd h.1 (by omega)⟩, fun x h => absurd h (by omega)⟩
theorem zJn_n (h : zJn T j s d M g) (g0 : 0 ≤ g) (hn : ¬ gUr T j g.toNat) : zJn T j s d M (g + 1) := by
  obtain ⟨a, b, c⟩ := h
  refine ⟨a, fun x => ?_, fun x hx hr => ?_⟩
  · rw [b x]
    constructor
    · exact fun q => ⟨by omega, q.2⟩
    · rintro ⟨q1, q2⟩
      by_cases e : (x : Int) = g
      · rw [show x = g.toNat by omega] at q2
        exact absurd q2 hn
      · exact ⟨by omega, q2⟩
  · by_cases e : (x : Int) = g
    · rw [show x = g.toNat by omega] at hr
      exact absurd hr hn
    · exact c x (by omega) hr
theorem zJn_s {s' : Int} (h : zJn T j s d M g) (g0 : 0 ≤ g) (g1 : g < 24) (hr : gUr T j g.toNat) (hs : s' = zor s (zshl 1 g)) (ho : ∀ x : Nat, (x : Int) ≠ g → ze N (d + 32) x = ze M (d + 32) x) (hx : ze N (d + 32) g.toNat = ((2 ^ ((gF T).length - 1 - gUs T j g.toNat) : Nat) : Int)) : zJn T j s' d N (g + 1) := by
  obtain ⟨⟨a1, a2⟩, b, c⟩ := h
  obtain ⟨m, rfl⟩ := Int.eq_ofNat_of_zero_le a1
  obtain ⟨n, rfl⟩ := Int.eq_ofNat_of_zero_le g0
  have hp : 2 ^ n < 2 ^ 24 := Nat.pow_lt_pow_right (by omega) (by omega)
  have e : s' = ((m ||| 2 ^ n : Nat) : Int) := by rw [hs, zshl1 n (by omega), zor_n m (2 ^ n) (by omega) (by omega)]
  have hl : m ||| 2 ^ n < 2 ^ 24 := Nat.or_lt_two_pow (by omega) hp
  rw [Int.toNat_natCast] at hr hx
  refine ⟨by omega, fun x => ?_, fun x hx1 hr1 => ?_⟩
  · rw [e, Int.toNat_natCast, Nat.testBit_or, Bool.or_eq_true, Nat.testBit_two_pow, decide_eq_true_iff]
    have h1 := b x
    rw [Int.toNat_natCast] at h1
    rw [h1]
    constructor
    · rintro (⟨q1, q2⟩ | q)
      · exact ⟨by omega, q2⟩
      · rw [← q]
        exact ⟨by omega, hr⟩
    · rintro ⟨q1, q2⟩
      by_cases g : x = n
      · exact Or.inr g.symm
      · exact Or.inl ⟨by omega, q2⟩
  · by_cases g : x = n
    · rw [g]
      exact hx
    · rw [ho x (by omega)]
      exact c x (by omega) hr1
theorem zJn_e (h : zJn T j s d M g) (hn : ∀ x : Nat, ze N (d + 32) x = ze M (d + 32) x) : zJn T j s d N g := ⟨h.1, h.2.1, fun x hx hr => (hn x).trans (h.2.2 x hx hr)⟩
theorem zJn_b (h : zJn T j s d M g) (hg : g = (gN T : Int)) {x : Int} (x0 : 0 ≤ x) : zbt s x ↔ gUr T j x.toNat := by
  unfold zbt
  rw [h.2.1 x.toNat]
  exact ⟨fun q => q.2, fun q => ⟨by have := q.1; omega, q⟩⟩
end ZPD
theorem gUr_c {T : zGT} (hT : T ∈ gTabs) (hA : gGr T) {j g k : Nat} (hj : j < (gF T).length) (hg : gUr T j g) (hk : gUr T j k) : gUr T j (gcos T (gFn T j) (gm T g k)) := by
  have hO := gTabs_ok T hT
  have hG := hO.1
  have hX := gTabs_ex T hT
  have hH := (hO.2.1.2.2 _ (hO.2.2.1.2.1 _ (gFn_m hj)).1).1
  have hx : gm T g k < gN T := hG.2.2.2 g k hg.1 hk.1
  have hn : gtr T (gFn T j) (gm T g k) = gFn T j := by rw [← gtr_cm hA hG hg.1 hk.1, hg.2.1, hk.2.1]
  refine ⟨gcos_lt hA hG hH.2.2 hx, ?_, gcos_i hA hG hX hH.2.2 hx⟩
  rw [gtr_co hA hG hX hH.2.2 hH.2.1 hx, hn]
theorem zp27 {F a : Nat} (hF : F ≤ 27) (h1 : 1 ≤ F) : 2 ^ (F - 1 - a) < 134217728 := Nat.lt_of_lt_of_le (Nat.pow_lt_pow_right (m := 27) (by omega) (by omega)) (by decide)
theorem zUq_i {T : zGT} {j g k c : Nat} {w0 w1 w2 w3 : Int} (h27 : (gF T).length ≤ 27) (h1 : 1 ≤ (gF T).length) (e0 : w0 = ((2 ^ ((gF T).length - 1 - j) : Nat) : Int)) (e1 : w1 = ((2 ^ ((gF T).length - 1 - gUs T j g) : Nat) : Int)) (e2 : w2 = ((2 ^ ((gF T).length - 1 - gUs T j k) : Nat) : Int)) (hc : c = gcos T (gFn T j) (gm T g k)) (e3 : w3 = ((2 ^ ((gF T).length - 1 - gUs T j c) : Nat) : Int)) : (zxor (zxor (zxor w0 w1) w2) w3).toNat = gUq T j g k ∧ 0 ≤ zxor (zxor (zxor w0 w1) w2) w3 ∧ zxor (zxor (zxor w0 w1) w2) w3 < 134217728 := by
  have b0 := zp27 (a := j) h27 h1
  have b1 := zp27 (a := gUs T j g) h27 h1
  have b2 := zp27 (a := gUs T j k) h27 h1
  have b3 := zp27 (a := gUs T j c) h27 h1
  obtain ⟨x1, x2, x3⟩ := zxor_i (w := w0) (a := w1) (by omega) (by omega)
  obtain ⟨y1, y2, y3⟩ := zxor_i (w := zxor w0 w1) (a := w2) ⟨x2, x3⟩ (by omega)
  obtain ⟨v1, v2, v3⟩ := zxor_i (w := zxor (zxor w0 w1) w2) (a := w3) ⟨y2, y3⟩ (by omega)
  refine ⟨?_, v2, v3⟩
  rw [v1, y1, x1, e0, e1, e2, e3, hc]
  rfl
theorem zone_t (p : Nat → Bool) (t : Nat) : ∀ m : Nat, (zxs (zpk p (fun i => 2 ^ i)) m).testBit t = (decide (t < m) && p t)
  | m => by
    rw [zxs_t]
    have e : ∀ i, (zpk p (fun i => 2 ^ i) i).testBit t = (decide (i = t) && p t) := fun i => by
      show (cond (p i) (2 ^ i) 0).testBit t = _
      by_cases g : i = t
      · rw [g, decide_eq_true rfl]
        cases p t
        · exact Nat.zero_testBit t
        · exact Nat.testBit_two_pow_self
      · rw [decide_eq_false g]
        cases p i
        · exact Nat.zero_testBit t
        · show (2 ^ i).testBit t = false
          rw [Nat.testBit_two_pow, decide_eq_false g]
    by_cases g : t < m
    · have h1 := zbx_1 (q := fun i => (zpk p (fun i => 2 ^ i) i).testBit t) (o := t) m (fun i _ hi => (e i).trans (by rw [decide_eq_false hi]; rfl)) g
      exact h1.trans ((e t).trans (by rw [decide_eq_true g, decide_eq_true rfl]))
    · have h1 := zbx_0 (q := fun i => (zpk p (fun i => 2 ^ i) i).testBit t) m (fun i hi => (e i).trans (by rw [decide_eq_false (show ¬ i = t by omega)]; rfl))
      exact h1.trans (by rw [decide_eq_false g]; rfl)
theorem zNw_1 {F d : Nat} {M : zMem} (h27 : F ≤ 27) (h3 : ze M (d + 28) 3 = (F : Int)) (hr : ∀ i : Nat, i < F → ze M (d + 30) i = ((2 ^ i : Nat) : Int)) : zNw (fun x => x < 2 ^ F) d M := by
  have hm : (ze M (d + 28) 3).toNat = F := by omega
  have hc : ∀ p : Nat → Bool, zxs (zpk p (zub d M)) F = zxs (zpk p (fun i => 2 ^ i)) F := fun p => zxs_c F (fun i hi => by
    show cond (p i) (ze M (d + 30) i).toNat 0 = cond (p i) (2 ^ i) 0
    rw [hr i hi, Int.toNat_natCast])
  refine ⟨by omega, fun i hi => ?_, ?_, fun x => ?_⟩
  · have := hr i (by omega)
    have : (2 : Nat) ^ i < 2 ^ 27 := Nat.pow_lt_pow_right (by omega) (by omega)
    omega
  · rw [hm]
    intro p hp i hi
    rw [hc] at hp
    have h := zone_t p i F
    rw [hp, Nat.zero_testBit, decide_eq_true hi] at h
    exact h.symm
  · rw [hm]
    constructor
    · rintro ⟨p, rfl⟩
      show zxs (zpk p (zub d M)) F < 2 ^ F
      rw [hc]
      refine Nat.lt_pow_two_of_testBit _ (fun i hi => ?_)
      rw [zone_t, decide_eq_false (show ¬ i < F by omega)]
      rfl
    · intro hx
      refine ⟨fun i => x.testBit i, ?_⟩
      rw [hc]
      refine Nat.eq_of_testBit_eq fun i => ?_
      rw [zone_t]
      by_cases g : i < F
      · rw [decide_eq_true g]
        rfl
      · rw [decide_eq_false g, Nat.testBit_lt_two_pow (Nat.lt_of_lt_of_le hx (Nat.pow_le_pow_right (by omega) (by omega)))]
        rfl
def zyT (S : Nat → Prop) (F : Nat) (s k : Int) (d : Nat) (M : zMem) : Prop := zNw S d M ∧ (0 ≤ k ∧ k ≤ ze M (d + 28) 3 ∧ k ≤ s) ∧ ∃ pv : Nat → Nat, (∀ i : Nat, (i : Int) < k → (zub d M i).testBit (pv i) = true ∧ (F : Int) - s ≤ pv i ∧ ∀ t, pv i < t → (zub d M i).testBit t = false) ∧ (∀ i j : Nat, (i : Int) < k → (j : Int) < ze M (d + 28) 3 → i ≠ j → (zub d M j).testBit (pv i) = false) ∧ (∀ i j : Nat, i < j → (j : Int) < k → pv j < pv i) ∧ ∀ i : Nat, k ≤ i → (i : Int) < ze M (d + 28) 3 → ∀ t : Nat, (F : Int) - s ≤ t → (zub d M i).testBit t = false
def zSq (S : Nat → Prop) (F : Nat) (s k b : Int) (d : Nat) (M : zMem) : Prop := zyT S F s k d M ∧ k < ze M (d + 28) 3 ∧ (zub d M k.toNat).testBit ((F : Int) - 1 - s).toNat = true ∧ ∀ i : Nat, (i : Int) < b → (i : Int) ≠ k → (zub d M i).testBit ((F : Int) - 1 - s).toNat = false
def zUf (S : Nat → Prop) (d : Nat) (M : zMem) : Prop := zNw S d M ∧ ∃ pv, zrr2 (zub d M) (ze M (d + 28) 3).toNat pv
section ZST2
variable {S : Nat → Prop} {F d : Nat} {s k b c : Int} {M N : zMem} {FA : List (Nat × Nat)} {CA : List Nat} {FR : List (Nat × Nat)} {CR : List Nat}
theorem zUf.fr (hW : zKW d M) (hf : zFc d FA CA FR CR M N) (h : zUf S d M) (hd : (28 < 38 ∧ 28 ∉ CR ∧ (28, 3) ∉ FR) ∧ 30 < 38 ∧ 30 ∉ CR ∧ ∀ x ∈ FR, x.1 ≠ 30) : zUf S d N := by
  obtain ⟨h1, pv, h2⟩ := h
  refine ⟨h1.fr hW hf hd, pv, ?_⟩
  have e : zub d N = zub d M := funext fun i => by
    unfold zub
    rw [hf.r hd.2]
  rw [e, hf.e hd.1]
  exact h2
theorem zub_b {x : Nat} (h : zNw S d M) (hS : ∀ x, S x → x < 2 ^ F) {i : Nat} (hi : (i : Int) < ze M (d + 28) 3) : zub d M i < 2 ^ F := hS _ ((h.2.2.2 _).mp (zsp_m (by omega)))
theorem zyT_0 (h : zNw S d M) (hS : ∀ x, S x → x < 2 ^ F) : zyT S F 0 0 d M := ⟨h, ⟨by omega, h.1.1, by omega⟩, fun _ => 0, fun i hi => absurd hi (by omega), fun i j hi => absurd hi (by omega), fun i j _ hj => absurd hj (by omega), fun i _ hi t ht => Nat.testBit_lt_two_pow (Nat.lt_of_lt_of_le (zub_b (x := 0) h hS hi) (Nat.pow_le_pow_right (by omega) (by omega)))⟩
theorem zyT_n (h : zyT S F s k d M) (hs : s < F) (hn : ∀ i : Nat, k ≤ i → (i : Int) < ze M (d + 28) 3 → (zub d M i).testBit ((F : Int) - 1 - s).toNat = false) : zyT S F (s + 1) k d M := by
  obtain ⟨a, b, pv, c1, c2, c3, c4⟩ := h
  refine ⟨a, ⟨b.1, b.2.1, by omega⟩, pv, fun i hi => ⟨(c1 i hi).1, by have := (c1 i hi).2.1; omega, (c1 i hi).2.2⟩, c2, c3, fun i h1 h2 t ht => ?_⟩
  by_cases g : (t : Int) = (F : Int) - 1 - s
  · rw [show t = ((F : Int) - 1 - s).toNat by omega]
    exact hn i h1 h2
  · exact c4 i h1 h2 t (by omega)
theorem zSq_0 (h : zyT S F s k d M) (hc : k ≤ c ∧ c < ze M (d + 28) 3) (hb : (zub d M c.toNat).testBit ((F : Int) - 1 - s).toNat = true) (h3 : ze N (d + 28) 3 = ze M (d + 28) 3) (hr : ∀ i : Nat, ze N (d + 30) i = if (i : Int) = k then ze M (d + 30) c.toNat else if (i : Int) = c then ze M (d + 30) k.toNat else ze M (d + 30) i) : zSq S F s k 0 d N := by
  obtain ⟨⟨a1, a2, a3, a4⟩, ⟨b1, b2, b3⟩, pv, c1, c2, c3, c4⟩ := h
  have hk : k < ze M (d + 28) 3 := by omega
  have e : ∀ i : Nat, zub d N i = if i = k.toNat then zub d M c.toNat else if i = c.toNat then zub d M k.toNat else zub d M i := fun i => by
    unfold zub
    rw [hr i]
    by_cases g : (i : Int) = k
    · rw [if_pos g, if_pos (by omega)]
    · rw [if_neg g, if_neg (by omega)]
      by_cases g2 : (i : Int) = c
      · rw [if_pos g2, if_pos (by omega)]
      · rw [if_neg g2, if_neg (by omega)]
  have eo : ∀ i : Nat, (i : Int) < k → zub d N i = zub d M i := fun i hi => by rw [e i, if_neg (by omega), if_neg (by omega)]
  have ei : ∀ i : Nat, k ≤ i → (i : Int) < ze M (d + 28) 3 → ∃ i' : Nat, k ≤ i' ∧ (i' : Int) < ze M (d + 28) 3 ∧ zub d N i = zub d M i' := fun i h1 h2 => by
    rw [e i]
    by_cases g : i = k.toNat
    · rw [if_pos g]
      exact ⟨c.toNat, by omega, by omega, rfl⟩
    · rw [if_neg g]
      by_cases g2 : i = c.toNat
      · rw [if_pos g2]
        exact ⟨k.toNat, by omega, by omega, rfl⟩
      · rw [if_neg g2]
        exact ⟨i, h1, h2, rfl⟩
  refine ⟨⟨⟨by rw [h3]; exact a1, fun i hi => ?_, ?_, fun x => ?_⟩, ⟨b1, by omega, b3⟩, pv, fun i hi => ?_, fun i j hi hj hij => ?_, c3, fun i h1 h2 t ht => ?_⟩, by omega, ?_, fun i hi => absurd hi (by omega)⟩
  · rw [h3] at hi
    rw [hr i]
    by_cases g : (i : Int) = k
    · rw [if_pos g]
      exact a2 _ (by omega)
    · rw [if_neg g]
      by_cases g2 : (i : Int) = c
      · rw [if_pos g2]
        exact a2 _ (by omega)
      · rw [if_neg g2]
        exact a2 _ hi
  · rw [h3]
    exact zind_w (u := k.toNat) (v := c.toNat) (by omega) (by omega) (fun i _ => e i) a3
  · rw [h3, ← a4 x]
    exact zsp_w (u := k.toNat) (v := c.toNat) (by omega) (by omega) (fun i _ => e i)
  · rw [eo i hi]
    exact c1 i hi
  · by_cases g : (j : Int) < k
    · rw [eo j g]
      exact c2 i j hi (by omega) hij
    · obtain ⟨j', q1, q2, q3⟩ := ei j (by omega) (by omega)
      rw [q3]
      exact c2 i j' hi q2 (by omega)
  · obtain ⟨j', q1, q2, q3⟩ := ei i h1 (by omega)
    rw [q3]
    exact c4 j' q1 q2 t ht
  · rw [e k.toNat, if_pos rfl]
    exact hb
theorem zSq_k (h : zSq S F s k b d M) (b0 : 0 ≤ b) (hk : b = k ∨ (zub d M b.toNat).testBit ((F : Int) - 1 - s).toNat = false) : zSq S F s k (b + 1) d M := by
  refine ⟨h.1, h.2.1, h.2.2.1, fun i hi ho => ?_⟩
  by_cases g : (i : Int) = b
  · rcases hk with q | q
    · omega
    · rw [show i = b.toNat by omega]
      exact q
  · exact h.2.2.2 i (by omega) ho
theorem zSq_s (h : zSq S F s k b d M) (hs : 0 ≤ s ∧ s < F) (b0 : 0 ≤ b) (b1 : b < ze M (d + 28) 3) (hk : b ≠ k) (hb : (zub d M b.toNat).testBit ((F : Int) - 1 - s).toNat = true) (h3 : ze N (d + 28) 3 = ze M (d + 28) 3) (hr : ∀ i : Nat, (i : Int) ≠ b → ze N (d + 30) i = ze M (d + 30) i) (hx : ze N (d + 30) b.toNat = zxor (ze M (d + 30) b.toNat) (ze M (d + 30) k.toNat)) : zSq S F s k (b + 1) d N := by
  obtain ⟨⟨⟨a1, a2, a3, a4⟩, ⟨k0, k1, k2⟩, pv, c1, c2, c3, c4⟩, e1, e2, e3⟩ := h
  obtain ⟨x1, x2, x3⟩ := zxor_i (a2 b.toNat (by omega)) (a2 k.toNat (by omega))
  rw [← hx] at x1 x2 x3
  have eo : ∀ i : Nat, (i : Int) ≠ b → zub d N i = zub d M i := fun i hi => by
    unfold zub
    rw [hr i hi]
  have eb : zub d N b.toNat = zub d M b.toNat ^^^ zub d M k.toNat := x1
  have ek : ∀ t : Nat, (F : Int) - s ≤ t → (zub d M k.toNat).testBit t = false := fun t ht => c4 k.toNat (by omega) (by omega) t ht
  have et : ∀ (i t : Nat), (F : Int) - s ≤ t → (zub d N i).testBit t = (zub d M i).testBit t := fun i t ht => by
    by_cases g : (i : Int) = b
    · rw [show i = b.toNat by omega, eb, Nat.testBit_xor, ek t ht]
      exact Bool.xor_false _
    · rw [eo i g]
  have hz : ∀ i, i < (ze M (d + 28) 3).toNat → zub d N i = zub d M i ^^^ cond (decide (i = b.toNat)) (zub d M k.toNat) 0 := fun i hi => by
    by_cases g : i = b.toNat
    · rw [g, decide_eq_true rfl]
      exact eb
    · rw [decide_eq_false g]
      show zub d N i = zub d M i ^^^ 0
      rw [Nat.xor_zero]
      exact eo i (by omega)
  have hto : decide (k.toNat = b.toNat) = false := decide_eq_false (by omega)
  refine ⟨⟨⟨by rw [h3]; exact a1, fun i hi => ?_, ?_, fun x => ?_⟩, ⟨k0, by omega, k2⟩, pv, fun i hi => ⟨?_, (c1 i hi).2.1, fun t ht => ?_⟩, fun i j hi hj hij => ?_, c3, fun i h1 h2 t ht => ?_⟩, by omega, ?_, fun i hi ho => ?_⟩
  · rw [h3] at hi
    by_cases g : (i : Int) = b
    · rw [show i = b.toNat by omega]
      exact ⟨x2, x3⟩
    · rw [hr i g]
      exact a2 i hi
  · rw [h3]
    exact zind_a (o := k.toNat) (by omega) hz hto a3
  · rw [h3, ← a4 x]
    exact zsp_a (o := k.toNat) (by omega) hz hto
  · rw [et i _ (c1 i hi).2.1]
    exact (c1 i hi).1
  · rw [et i t (by have := (c1 i hi).2.1; omega)]
    exact (c1 i hi).2.2 t ht
  · rw [et j _ (c1 i hi).2.1]
    exact c2 i j hi (by omega) hij
  · rw [et i t ht]
    exact c4 i h1 (by omega) t ht
  · rw [eo k.toNat (by omega)]
    exact e2
  · by_cases g : (i : Int) = b
    · rw [show i = b.toNat by omega, eb, Nat.testBit_xor, hb, e2]
      rfl
    · rw [eo i g]
      exact e3 i (by omega) ho
theorem zSq_e (h : zSq S F s k b d M) (hs : 0 ≤ s ∧ s < F) (hb : b = ze M (d + 28) 3) : zyT S F (s + 1) (k + 1) d M := by
  obtain ⟨⟨a, ⟨k0, k1, k2⟩, pv, c1, c2, c3, c4⟩, e1, e2, e3⟩ := h
  refine ⟨a, ⟨by omega, by omega, by omega⟩, fun i => if i = k.toNat then ((F : Int) - 1 - s).toNat else pv i, fun i hi => ?_, fun i j hi hj hij => ?_, fun i j hij hj => ?_, fun i h1 h2 t ht => ?_⟩
  · by_cases g : i = k.toNat
    · rw [if_pos g, g]
      refine ⟨e2, by omega, fun t ht => c4 k.toNat (by omega) (by omega) t (by omega)⟩
    · rw [if_neg g]
      have h4 := c1 i (by omega)
      exact ⟨h4.1, by omega, h4.2.2⟩
  · show (zub d M j).testBit (if i = k.toNat then ((F : Int) - 1 - s).toNat else pv i) = false
    by_cases g : i = k.toNat
    · rw [if_pos g]
      exact e3 j (by omega) (by omega)
    · rw [if_neg g]
      exact c2 i j (by omega) hj hij
  · show (if j = k.toNat then ((F : Int) - 1 - s).toNat else pv j) < (if i = k.toNat then ((F : Int) - 1 - s).toNat else pv i)
    by_cases g : j = k.toNat
    · rw [if_pos g, if_neg (by omega)]
      have h4 := c1 i (by omega)
      omega
    · rw [if_neg g, if_neg (by omega)]
      exact c3 i j hij (by omega)
  · by_cases g : (t : Int) = (F : Int) - 1 - s
    · rw [show t = ((F : Int) - 1 - s).toNat by omega]
      exact e3 i (by omega) (by omega)
    · exact c4 i (by omega) h2 t (by omega)
theorem zyT_e (h : zyT S F s k d M) (hs : s = (F : Int)) : zUf S d M := by
  obtain ⟨a, ⟨k0, k1, k2⟩, pv, c1, c2, c3, c4⟩ := h
  have hk : k = ze M (d + 28) 3 := by
    by_cases g : k = ze M (d + 28) 3
    · exact g
    · have h0 : zub d M k.toNat = 0 := Nat.eq_of_testBit_eq fun t => by
        rw [Nat.zero_testBit]
        exact c4 k.toNat (by omega) (by omega) t (by omega)
      exact absurd h0 (zind_z a.2.2.1 (by omega))
  exact ⟨a, pv, fun i hi => (c1 i (by omega)).1, fun i j hi hj hij => c2 i j (by omega) (by omega) hij, fun i t hi ht => (c1 i (by omega)).2.2 t ht, fun i j hij hj => c3 i j hij (by omega)⟩
theorem zubt {w v : Int} {F n : Nat} {s : Int} (hw : 0 ≤ w ∧ w < 134217728) (hF : F ≤ 27) (hs : 0 ≤ s ∧ s < F) (hv : v = ((2 ^ (F - 1 - s.toNat) : Nat) : Int)) (hn : n = w.toNat) : zand w v = 0 ↔ n.testBit ((F : Int) - 1 - s).toNat = false := by
  obtain ⟨m, rfl⟩ := Int.eq_ofNat_of_zero_le hw.1
  have hp := zp27 (a := s.toNat) hF (by omega)
  rw [hv, zand_n m _ (by omega) (by omega), hn, Int.toNat_natCast, show ((F : Int) - 1 - s).toNat = F - 1 - s.toNat by omega]
  have e : (m &&& 2 ^ (F - 1 - s.toNat)) = 0 ↔ m.testBit (F - 1 - s.toNat) = false := by
    constructor
    · intro h
      have h2 : (m &&& 2 ^ (F - 1 - s.toNat)).testBit (F - 1 - s.toNat) = false := by
        rw [h]
        exact Nat.zero_testBit _
      rw [Nat.testBit_and, Nat.testBit_two_pow_self, Bool.and_true] at h2
      exact h2
    · intro h
      refine Nat.eq_of_testBit_eq fun i => ?_
      rw [Nat.testBit_and, Nat.testBit_two_pow, Nat.zero_testBit]
      by_cases g : F - 1 - s.toNat = i
      · rw [← g, h]
        rfl
      · rw [decide_eq_false g]
        exact Bool.and_false _
  rw [← e]
  omega
end ZST2
theorem zshl_nn {k : Int} (k0 : 0 ≤ k) (k1 : k < 31) : zshl 1 k = ((2 ^ k.toNat : Nat) : Int) := by
  obtain ⟨n, rfl⟩ := Int.eq_ofNat_of_zero_le k0
  rw [zshl1 n (by omega)]
  rfl
theorem zubo {F : Nat} {c s v : Int} (hc : c = (F : Int)) (hF : 1 ≤ F ∧ F ≤ 27) (hs : 0 ≤ s ∧ s < F) (hv : v = zshl 1 (c - 1 - s)) : v = ((2 ^ (F - 1 - s.toNat) : Nat) : Int) ∧ 0 ≤ v ∧ v < 134217728 := by
  have hp := zp27 (a := s.toNat) hF.2 hF.1
  have e : v = ((2 ^ (F - 1 - s.toNat) : Nat) : Int) := by
    rw [hv, zshl_nn (by omega) (by omega), show (c - 1 - s).toNat = F - 1 - s.toNat by omega]
  exact ⟨e, by omega, by omega⟩
theorem zsw2 {M N1 N2 : zMem} {q : Nat} {k c x y : Int} (h1 : N1 = zsI M q c.toNat (Int32.ofInt x)) (h2 : N2 = zsI N1 q k.toNat (Int32.ofInt y)) (rx : zn32 x) (ry : zn32 y) (hx : x = ze M q k.toNat) (hy : y = ze M q c.toNat) (k0 : 0 ≤ k) (c0 : 0 ≤ c) (i : Nat) : ze N2 q i = if (i : Int) = k then ze M q c.toNat else if (i : Int) = c then ze M q k.toNat else ze M q i := by
  by_cases g : (i : Int) = k
  · rw [if_pos g, show i = k.toNat by omega, zs_get h2 ry, hy]
  · rw [if_neg g, zs_oth h2 (j := i) (by omega)]
    by_cases g2 : (i : Int) = c
    · rw [if_pos g2, show i = c.toNat by omega, zs_get h1 rx, hx]
    · rw [if_neg g2, zs_oth h1 (j := i) (by omega)]
def zkr (p : Nat → Bool) (b : Nat → Nat) (L k : Int) : Prop := L = ((zxs (zpk p b) k.toNat : Nat) : Int) ∧ 0 ≤ L ∧ L < 134217728
section ZKR
variable {p : Nat → Bool} {b : Nat → Nat} {L k v : Int}
theorem zkr_z : zkr p b 0 0 := ⟨rfl, by omega⟩
theorem zkr_0 (h : zkr p b L k) (k0 : 0 ≤ k) (hp : p k.toNat = false) : zkr p b L (k + 1) := by
  refine ⟨?_, h.2⟩
  rw [show (k + 1).toNat = k.toNat + 1 by omega]
  show L = ((zxs (zpk p b) k.toNat ^^^ cond (p k.toNat) (b k.toNat) 0 : Nat) : Int)
  rw [hp]
  show L = ((zxs (zpk p b) k.toNat ^^^ 0 : Nat) : Int)
  rw [Nat.xor_zero]
  exact h.1
theorem zkr_1 (h : zkr p b L k) (k0 : 0 ≤ k) (hp : p k.toNat = true) (hv : 0 ≤ v ∧ v < 134217728) (hb : b k.toNat = v.toNat) : zkr p b (zxor L v) (k + 1) := by
  obtain ⟨x1, x2, x3⟩ := zxor_i h.2 hv
  refine ⟨?_, x2, x3⟩
  rw [show (k + 1).toNat = k.toNat + 1 by omega]
  show zxor L v = ((zxs (zpk p b) k.toNat ^^^ cond (p k.toNat) (b k.toNat) 0 : Nat) : Int)
  rw [hp]
  show zxor L v = ((zxs (zpk p b) k.toNat ^^^ b k.toNat : Nat) : Int)
  rw [hb, show zxs (zpk p b) k.toNat = L.toNat by have := h.1; omega, ← x1]
  omega
end ZKR
def zsgs (F n : Nat) (L s : Int) : Prop := (0 ≤ L ∧ L < 134217728) ∧ ∀ t : Nat, L.toNat.testBit t = true ↔ ((t : Int) < s ∧ n.testBit ((F : Int) - 1 - t).toNat = true)
section ZSGS
variable {F n : Nat} {L s : Int}
theorem zsgs_z : zsgs F n 0 0 := ⟨by omega, fun t => ⟨fun h => by rw [show (0 : Int).toNat = 0 from rfl, Nat.zero_testBit] at h; cases h, fun h => absurd h.1 (by omega)⟩⟩
theorem zsgs_0 (h : zsgs F n L s) (s0 : 0 ≤ s) (hb : n.testBit ((F : Int) - 1 - s).toNat = false) : zsgs F n L (s + 1) := by
  refine ⟨h.1, fun t => ?_⟩
  rw [h.2 t]
  constructor
  · exact fun q => ⟨by omega, q.2⟩
  · rintro ⟨q1, q2⟩
    by_cases e : (t : Int) = s
    · rw [e, hb] at q2
      cases q2
    · exact ⟨by omega, q2⟩
theorem zsgs_1 (h : zsgs F n L s) (s0 : 0 ≤ s) (s1 : s < 27) (hb : n.testBit ((F : Int) - 1 - s).toNat = true) : zsgs F n (zor L (zshl 1 s)) (s + 1) := by
  obtain ⟨⟨a1, a2⟩, b⟩ := h
  obtain ⟨m, rfl⟩ := Int.eq_ofNat_of_zero_le a1
  obtain ⟨k, rfl⟩ := Int.eq_ofNat_of_zero_le s0
  have hp : 2 ^ k < 2 ^ 27 := Nat.pow_lt_pow_right (by omega) (by omega)
  have e : zor (m : Int) (zshl 1 (k : Int)) = ((m ||| 2 ^ k : Nat) : Int) := by rw [zshl1 k (by omega), zor_n m (2 ^ k) (by omega) (by omega)]
  have hl : m ||| 2 ^ k < 2 ^ 27 := Nat.or_lt_two_pow (by omega) hp
  rw [e]
  refine ⟨by omega, fun t => ?_⟩
  have h1 := b t
  rw [Int.toNat_natCast] at h1
  rw [Int.toNat_natCast, Nat.testBit_or, Bool.or_eq_true, Nat.testBit_two_pow, decide_eq_true_iff, h1]
  constructor
  · rintro (⟨q1, q2⟩ | q)
    · exact ⟨by omega, q2⟩
    · rw [← q]
      exact ⟨by omega, hb⟩
  · rintro ⟨q1, q2⟩
    by_cases g : t = k
    · exact Or.inr g.symm
    · exact Or.inl ⟨by omega, q2⟩
end ZSGS
def zUS (T : zGT) : Nat → Prop := fun x => x < 2 ^ (gF T).length ∧ ∀ i, i < (gF T).length → zyC T i x
def zUW (T : zGT) (d : Nat) (M : zMem) : Prop := ze M (d + 28) 4 = 0 ∨ (ze M (d + 28) 4 = 1 ∧ zUf (zUS T) d M)
def zUk (d : Nat) (M : zMem) (k : Nat) : Nat := zkth (zub d M) (ze M (d + 28) 3).toNat k
theorem zUW.fr {T : zGT} {d : Nat} {M N : zMem} {FA : List (Nat × Nat)} {CA : List Nat} {FR : List (Nat × Nat)} {CR : List Nat} (hW : zKW d M) (hf : zFc d FA CA FR CR M N) (h : zUW T d M) (hd : (28 < 38 ∧ 28 ∉ CR ∧ (28, 4) ∉ FR) ∧ (28 < 38 ∧ 28 ∉ CR ∧ (28, 3) ∉ FR) ∧ 30 < 38 ∧ 30 ∉ CR ∧ ∀ x ∈ FR, x.1 ≠ 30) : zUW T d N := by
  unfold zUW
  rw [hf.e hd.1]
  rcases h with h | ⟨h1, h2⟩
  · exact Or.inl h
  · exact Or.inr ⟨h1, h2.fr hW hf hd.2⟩
theorem zUk_c {d : Nat} {M N : zMem} {k : Nat} (h3 : ze N (d + 28) 3 = ze M (d + 28) 3) (hr : ∀ i : Nat, ze N (d + 30) i = ze M (d + 30) i) : zUk d N k = zUk d M k := by
  unfold zUk
  rw [h3, show zub d N = zub d M from funext fun i => by unfold zub; rw [hr i]]
theorem zSh_cq {F d : Nat} {M N : zMem} {s : Int} {f g : Nat → Int} (h : zSh F d M N s f) (e : ∀ k : Nat, k < F → f k = g k) : zSh F d M N s g := fun x => by
  have h1 := h x
  by_cases c : 27 * s ≤ (x : Int) ∧ (x : Int) < 27 * s + (F : Int)
  · rw [if_pos c] at h1
    rw [if_pos c, h1]
    exact e _ (by omega)
  · rw [if_neg c] at h1
    rw [if_neg c]
    exact h1
set_option maxHeartbeats 4000000 in
theorem u_Units_bitOfU (l : Launch) (d_ : Nat) (Mz : zMem) (hW : zKW d_ Mz) (a0_ : Int) (ha0_a : -2147483648 ≤ a0_) (ha0_b : a0_ < 2147483648) (T_ : zGT) (hT_ : T_ ∈ gTabs) (p0_ : zFir T_ d_ Mz) (p1_ : 0 ≤ a0_) (p2_ : a0_ < ((gF T_).length : Int)) : zC l m_Units_bitOf 0 0 [.ref (d_ + 28), .int (Int32.ofInt a0_)] Mz (zqcI d_ [] [] [] [] Mz (fun v N => v = ((2 ^ ((gF T_).length - 1 - (a0_).toNat) : Nat) : Int) ∧ 0 ≤ v ∧ v < 134217728)) := by
  refine zC_of (L0 := [some (.ref (d_ + 28)), some (.int (Int32.ofInt a0_))]) md_Units_bitOf (Nat.le_of_ble_eq_true rfl) rfl ?_ zQ0
  have hf : zFc d_ [] [] [] [] Mz Mz := zFc.rf
  have r_D12_7 := ze_r Mz (d_ + 12) 7
  have hO_ := gTabs_ok T_ hT_
  have hG_ := hO_.1
  have hn24_ := hG_.2.1
  have hn1_ := hG_.1
  have hfl_ := p0_.1
  obtain ⟨⟨hF1_, hF27_⟩, hAr_⟩ := id (gT_zTA hT_)
  refine zw_iconst (pc := 0) (v := Int32.ofInt 1) (by decide) (zdal_p dlB_Units_bitOf_87 (i := 0) rfl) ?_
  refine zw_aload_n (pc := 1) (n := 0) (x := (d_ + 28)) rfl (zdal_p dlB_Units_bitOf_87 (i := 1) rfl) ?_
  refine zw_getF (pc := 2) f_Units_23 rfl ((hf.w hW).kr (o := 28) (by decide)) ((hf.w hW).lr (o := 28) (s := 0) (r := 12) (by decide)) (zdal_p dlB_Units_bitOf_87 (i := 2) rfl) ?_
  refine zk_getI (pc := 5) f_Units_35 rfl ((hf.w hW).kr (o := 12) (by decide)) (zdal_p dlB_Units_bitOf_87 (i := 3) rfl) ?_
  refine zw_iconst (pc := 8) (v := Int32.ofInt 1) (by decide) (zdal_p dlB_Units_bitOf_87 (i := 4) rfl) ?_
  refine zr_isub (pc := 9) (zdal_p dlB_Units_bitOf_87 (i := 5) rfl) ?_
  refine zw_iload_n (pc := 10) (n := 1) (x := Int32.ofInt a0_) rfl (zdal_p dlB_Units_bitOf_87 (i := 6) rfl) ?_
  refine zr_isub (pc := 11) (zdal_p dlB_Units_bitOf_87 (i := 7) rfl) ?_
  refine zr_ishl (pc := 12) (zdal_p dlB_Units_bitOf_87 (i := 8) rfl) ?_
  have hr1_ := zshl_r 1 (((ze Mz (d_ + 12) 7) - 1) - a0_)
  have hb_ := zubo (F := (gF T_).length) (s := a0_) (v := (zshl 1 (((ze Mz (d_ + 12) 7) - 1) - a0_))) hfl_ ⟨hF1_, hF27_⟩ ⟨p1_, p2_⟩ rfl
  exact zk_iret (pc := 13) (ty := .int) rfl rfl ⟨by omega, by omega⟩ hf ⟨(show (zshl 1 (((ze Mz (d_ + 12) 7) - 1) - a0_)) = ((2 ^ ((gF T_).length - 1 - (a0_).toNat) : Nat) : Int) by exact hb_.1), (show 0 ≤ (zshl 1 (((ze Mz (d_ + 12) 7) - 1) - a0_)) by exact hb_.2.1), (show (zshl 1 (((ze Mz (d_ + 12) 7) - 1) - a0_)) < 134217728 by exact hb_.2.2)⟩ (zdal_p dlB_Units_bitOf_87 (i := 9) rfl)
set_option maxHeartbeats 4000000 in
theorem u_Units_narrowU (l : Launch) (d_ : Nat) (Mz : zMem) (hW : zKW d_ Mz) (a0_ : Int) (ha0_a : -2147483648 ≤ a0_) (ha0_b : a0_ < 2147483648) (S_ : Nat → Prop) (p0_ : zNw S_ d_ Mz) (p1_ : 0 ≤ a0_) (p2_ : a0_ < 134217728) : zC l m_Units_narrow 0 0 [.ref (d_ + 28), .int (Int32.ofInt a0_)] Mz (zqcV d_ [] [] [(28, 3)] [30] Mz (fun N => (zNw (fun x_ => S_ x_ ∧ zpm (a0_).toNat x_ = false) d_ N))) := by
  refine zC_of (L0 := [some (.ref (d_ + 28)), some (.int (Int32.ofInt a0_)), none, none]) md_Units_narrow (Nat.le_of_ble_eq_true rfl) rfl ?_ zQ0
  have hf : zFc d_ [] [] [(28, 3)] [30] Mz Mz := zFc.rf
  have r_D28_3 := ze_r Mz (d_ + 28) 3
  have hm_ := p0_.1
  refine zw_iconst (pc := 0) (v := Int32.ofInt (-1)) (by decide) (zdal_p dlB_Units_narrow_88 (i := 0) rfl) ?_
  refine zw_istore_n (pc := 1) (i := 2) (L2 := [some (.ref (d_ + 28)), some (.int (Int32.ofInt a0_)), some (.int (Int32.ofInt ((-1)))), none]) rfl (by decide) rfl (zdal_p dlB_Units_narrow_88 (i := 1) rfl) ?_
  refine zw_iconst (pc := 2) (v := Int32.ofInt 0) (by decide) (zdal_p dlB_Units_narrow_88 (i := 2) rfl) ?_
  refine zw_istore_n (pc := 3) (i := 3) (L2 := [some (.ref (d_ + 28)), some (.int (Int32.ofInt a0_)), some (.int (Int32.ofInt ((-1)))), some (.int (Int32.ofInt 0))]) rfl (by decide) rfl (zdal_p dlB_Units_narrow_88 (i := 3) rfl) ?_
  have lp_4 : ∀ (n : Nat) (u1_ : Int) (hu1_a : -2147483648 ≤ u1_) (hu1_b : u1_ < 2147483648) (u2_ : Int) (hu2_a : -2147483648 ≤ u2_) (hu2_b : u2_ < 2147483648) (N3_ : zMem) (hs4_ : zFc d_ [] [] [] [30] Mz N3_) (i5_ : 0 ≤ u2_) (i6_ : u2_ ≤ ze Mz (d_ + 28) 3) (i7_ : -1 ≤ u1_ ∧ u1_ < 27) (i8_ : zNv S_ (a0_).toNat u2_ u1_ d_ N3_), (ze Mz (d_ + 28) 3 - u2_).toNat < n → zW l m_Units_narrow (zn Mz + 0, zw Mz + 0) N3_ 4 [some (.ref (d_ + 28)), some (.int (Int32.ofInt a0_)), some (.int (Int32.ofInt u1_)), some (.int (Int32.ofInt u2_))] [] (zqcV d_ [] [] [(28, 3)] [30] Mz (fun N => (zNw (fun x_ => S_ x_ ∧ zpm (a0_).toNat x_ = false) d_ N))) := by
    intro n
    induction n with
    | zero =>
      intro u1_ hu1_a hu1_b u2_ hu2_a hu2_b N3_ hs4_ i5_ i6_ i7_ i8_ h0
      exact absurd h0 (Nat.not_lt_zero _)
    | succ n ih_4 =>
      intro u1_ hu1_a hu1_b u2_ hu2_a hu2_b N3_ hs4_ i5_ i6_ i7_ i8_ hlt_4
      have hf_N3_ : zFc d_ [] [] [(28, 3)] [30] Mz N3_ := hf.tr hs4_ (by decide) (by decide) (by decide) (by decide)
      have eD28_3_N3_ : ze N3_ (d_ + 28) 3 = ze Mz (d_ + 28) 3 := hs4_.e (by decide)
      have hnw_ := (show zNv S_ (a0_).toNat u2_ u1_ d_ N3_ by first | with_reducible assumption | assumption)
      refine zw_iload_n (pc := 4) (n := 3) (x := Int32.ofInt u2_) rfl (zdal_p dlB_Units_narrow_88 (i := 4) rfl) ?_
      refine zw_aload_n (pc := 5) (n := 0) (x := (d_ + 28)) rfl (zdal_p dlB_Units_narrow_88 (i := 5) rfl) ?_
      refine zk_getI (pc := 6) f_Units_31 rfl ((hf_N3_.w hW).kr (o := 28) (by decide)) (zdal_p dlB_Units_narrow_88 (i := 6) rfl) ?_
      refine zr_icmp_ge (pc := 9) (tgt := 74) ⟨hu2_a, hu2_b⟩ ⟨(ze_r N3_ (d_ + 28) 3).1, (ze_r N3_ (d_ + 28) 3).2⟩ (by decide) (zdal_p dlB_Units_narrow_88 (i := 7) rfl) (fun hc_9 => ?_) (fun hc_9 => ?_)
      · skip
        refine zw_iload_n (pc := 74) (n := 2) (x := Int32.ofInt u1_) rfl (zdal_p dlB_Units_narrow_89 (i := 16) rfl) ?_
        refine zw_iconst (pc := 75) (v := Int32.ofInt (-1)) (by decide) (zdal_p dlB_Units_narrow_89 (i := 17) rfl) ?_
        refine zr_icmp_eq (pc := 76) (tgt := 108) ⟨hu1_a, hu1_b⟩ ⟨(by decide), (by decide)⟩ (by decide) (zdal_p dlB_Units_narrow_89 (i := 18) rfl) (fun hc_76 => ?_) (fun hc_76 => ?_)
        · skip
          exact zk_vret (pc := 108) rfl hf_N3_ (show (zNw (fun x_ => S_ x_ ∧ zpm (a0_).toNat x_ = false) d_ N3_) by first | exact hfin_ | (have hm1_ : u1_ = -1 := by omega
    have hnm_ := hnw_
    rw [hm1_] at hnm_
    exact zNv_n hnm_ (by omega))) (zdal_p dlB_Units_narrow_90 (i := 10) rfl)
        · skip
          refine zw_aload_n (pc := 79) (n := 0) (x := (d_ + 28)) rfl (zdal_p dlB_Units_narrow_89 (i := 19) rfl) ?_
          refine zw_dup (pc := 80) rfl (zdal_p dlB_Units_narrow_89 (i := 20) rfl) ?_
          refine zk_getI (pc := 81) f_Units_31 rfl ((hf_N3_.w hW).kr (o := 28) (by decide)) (zdal_p dlB_Units_narrow_89 (i := 21) rfl) ?_
          refine zw_iconst (pc := 84) (v := Int32.ofInt 1) (by decide) (zdal_p dlB_Units_narrow_89 (i := 22) rfl) ?_
          refine zr_isub (pc := 85) (zdal_p dlB_Units_narrow_89 (i := 23) rfl) ?_
          refine zk_putR (pc := 86) (o := 28) (by decide) f_Units_31 rfl rfl ((hf_N3_.w hW).kr (o := 28) (by decide)) ⟨by omega, by omega⟩ rfl rfl (zdal_p dlB_Units_narrow_90 (i := 0) rfl) (fun N9_ hsN9_ hvN9_ => ?_)
          have hf_N9_ : zFc d_ [] [] [(28, 3)] [30] Mz N9_ := hf_N3_.tr hsN9_ (by decide) (by decide) (by decide) (by decide)
          have rD28_3_N9_ := ze_r N9_ (d_ + 28) 3
          refine zw_aload_n (pc := 89) (n := 0) (x := (d_ + 28)) rfl (zdal_p dlB_Units_narrow_90 (i := 1) rfl) ?_
          refine zw_getF (pc := 90) f_Units_14 rfl ((hf_N9_.w hW).kr (o := 28) (by decide)) ((hf_N9_.w hW).lr (o := 28) (s := 1) (r := 29) (by decide)) (zdal_p dlB_Units_narrow_90 (i := 2) rfl) ?_
          refine zw_iload_n (pc := 93) (n := 2) (x := Int32.ofInt u1_) rfl (zdal_p dlB_Units_narrow_90 (i := 3) rfl) ?_
          refine zw_aload_n (pc := 94) (n := 0) (x := (d_ + 28)) rfl (zdal_p dlB_Units_narrow_90 (i := 4) rfl) ?_
          refine zw_getF (pc := 95) f_Units_14 rfl ((hf_N9_.w hW).kr (o := 28) (by decide)) ((hf_N9_.w hW).lr (o := 28) (s := 1) (r := 29) (by decide)) (zdal_p dlB_Units_narrow_90 (i := 5) rfl) ?_
          refine zw_aload_n (pc := 98) (n := 0) (x := (d_ + 28)) rfl (zdal_p dlB_Units_narrow_90 (i := 6) rfl) ?_
          refine zk_getI (pc := 99) f_Units_31 rfl ((hf_N9_.w hW).kr (o := 28) (by decide)) (zdal_p dlB_Units_narrow_90 (i := 7) rfl) ?_
          refine zk_at hf_N9_.x (pc := 102) l_Units_57 ((hf_N9_.w hW).kr (o := 29) (by decide)) ((hf_N9_.w hW).lr (o := 29) (s := 0) (r := 30) (by decide)) ((hf_N9_.w hW).rr (o := 30) (t := 1) (n := 27) (by decide)) (by decide) (by omega) (by omega) (by decide) (Nat.le_of_ble_eq_true rfl) (zdal_p dlB_Units_narrow_90 (i := 8) rfl) (fun v10_ hv10_ hv10_a hv10_b => ?_)
          have hl_ := hv10_
          refine zk_st hf_N9_.x (pc := 105) (o := 30) (by decide) l_Units_40 ((hf_N9_.w hW).kr (o := 29) (by decide)) ((hf_N9_.w hW).lr (o := 29) (s := 0) (r := 30) (by decide)) ((hf_N9_.w hW).rr (o := 30) (t := 1) (n := 27) (by decide)) (by decide) (by omega) (by omega) (by decide) (Nat.le_of_ble_eq_true rfl) (zdal_p dlB_Units_narrow_90 (i := 9) rfl) (fun N11_ hN11_ hsN11_ => ?_)
          have hf_N11_ : zFc d_ [] [] [(28, 3)] [30] Mz N11_ := hf_N9_.tr hsN11_ (by decide) (by decide) (by decide) (by decide)
          have eD28_3_N11_ : ze N11_ (d_ + 28) 3 = ze N9_ (d_ + 28) 3 := hsN11_.e (by decide)
          have hfin_ := zNv_d hnw_ (by omega) (by omega) (by omega) (fun i_ hi_ => (zs_oth hN11_ (j := i_) (by omega)).trans (hsN9_.r (by decide) i_)) ((zs_get hN11_ ⟨by omega, by omega⟩).trans (hl_.trans ((hsN9_.r (by decide) _).trans (by rw [show (ze N9_ (d_ + 28) 3).toNat = (ze N3_ (d_ + 28) 3 - 1).toNat by omega]))))
          exact zk_vret (pc := 108) rfl hf_N11_ (show (zNw (fun x_ => S_ x_ ∧ zpm (a0_).toNat x_ = false) d_ N11_) by first | exact hfin_ | (have hm1_ : u1_ = -1 := by omega
    have hnm_ := hnw_
    rw [hm1_] at hnm_
    exact zNv_n hnm_ (by omega))) (zdal_p dlB_Units_narrow_90 (i := 10) rfl)
      · skip
        refine zw_aload_n (pc := 12) (n := 0) (x := (d_ + 28)) rfl (zdal_p dlB_Units_narrow_88 (i := 8) rfl) ?_
        refine zw_getF (pc := 13) f_Units_14 rfl ((hf_N3_.w hW).kr (o := 28) (by decide)) ((hf_N3_.w hW).lr (o := 28) (s := 1) (r := 29) (by decide)) (zdal_p dlB_Units_narrow_88 (i := 9) rfl) ?_
        refine zw_iload_n (pc := 16) (n := 3) (x := Int32.ofInt u2_) rfl (zdal_p dlB_Units_narrow_88 (i := 10) rfl) ?_
        refine zk_at hf_N3_.x (pc := 17) l_Units_57 ((hf_N3_.w hW).kr (o := 29) (by decide)) ((hf_N3_.w hW).lr (o := 29) (s := 0) (r := 30) (by decide)) ((hf_N3_.w hW).rr (o := 30) (t := 1) (n := 27) (by decide)) (by decide) (by omega) (by omega) (by decide) (Nat.le_of_ble_eq_true rfl) (zdal_p dlB_Units_narrow_88 (i := 11) rfl) (fun v12_ hv12_ hv12_a hv12_b => ?_)
        have hrg_ := hnw_.1.2.1 (u2_).toNat (by omega)
        rw [← hv12_] at hrg_
        have hzu_ : zub d_ N3_ (u2_).toNat = (v12_).toNat := by rw [hv12_]; rfl
        refine zw_iload_n (pc := 20) (n := 1) (x := Int32.ofInt a0_) rfl (zdal_p dlB_Units_narrow_88 (i := 12) rfl) ?_
        refine zr_iand (pc := 21) (zdal_p dlB_Units_narrow_88 (i := 13) rfl) ?_
        have hr13_ := zand_r v12_ a0_
        refine zr_callS hf_N3_.x (pc := 22) [.int (Int32.ofInt (zand v12_ a0_))] [] l_Units_89 (u_Integer_bitCount l d_ N3_ (hf_N3_.w hW) (zand v12_ a0_) (by omega) (by omega) (show 0 ≤ (zand v12_ a0_) by exact zand_p hrg_ ⟨by omega, by omega⟩)) rfl rfl (by decide) (Nat.le_of_ble_eq_true rfl) (zdal_p dlB_Units_narrow_88 (i := 14) rfl) ?_
        rintro _ N14_ ⟨v15_, rfl, ⟨hv15_a, hv15_b⟩, hsN14_, ⟨hp0_N14_, hp1_N14_, hp2_N14_⟩⟩
        obtain rfl := hsN14_.eq.symm
        show zW l m_Units_narrow (zn Mz + 0, zw Mz + 0) N3_ 25 [some (.ref (d_ + 28)), some (.int (Int32.ofInt a0_)), some (.int (Int32.ofInt u1_)), some (.int (Int32.ofInt u2_))] [.int (Int32.ofInt v15_)] _
        have hbc_ := hp0_N14_
        refine zw_iconst (pc := 25) (v := Int32.ofInt 1) (by decide) (zdal_p dlB_Units_narrow_88 (i := 15) rfl) ?_
        refine zr_iand (pc := 26) (zdal_p dlB_Units_narrow_88 (i := 16) rfl) ?_
        have hr16_ := zand_r v15_ 1
        have hpz_ : (zand v15_ 1) = 0 ↔ zpm (a0_).toNat (zub d_ N3_ (u2_).toNat) = false := by rw [hzu_]; exact zpar_i hrg_ ⟨by omega, by omega⟩ hbc_
        refine zr_if_ne (pc := 27) (tgt := 33) ⟨(by omega), (by omega)⟩ (by decide) (zdal_p dlB_Units_narrow_88 (i := 17) rfl) (fun hc_27 => ?_) (fun hc_27 => ?_)
        · skip
          have htr_ : zpm (a0_).toNat (zub d_ N3_ (u2_).toNat) = true := by cases hz_ : zpm (a0_).toNat (zub d_ N3_ (u2_).toNat); exact absurd (hpz_.mpr hz_) (by omega); rfl
          refine zw_iload_n (pc := 33) (n := 2) (x := Int32.ofInt u1_) rfl (zdal_p dlB_Units_narrow_88 (i := 19) rfl) ?_
          refine zw_iconst (pc := 34) (v := Int32.ofInt (-1)) (by decide) (zdal_p dlB_Units_narrow_88 (i := 20) rfl) ?_
          refine zr_icmp_ne (pc := 35) (tgt := 43) ⟨hu1_a, hu1_b⟩ ⟨(by decide), (by decide)⟩ (by decide) (zdal_p dlB_Units_narrow_88 (i := 21) rfl) (fun hc_35 => ?_) (fun hc_35 => ?_)
          · skip
            refine zw_aload_n (pc := 43) (n := 0) (x := (d_ + 28)) rfl (zdal_p dlB_Units_narrow_89 (i := 1) rfl) ?_
            refine zw_getF (pc := 44) f_Units_14 rfl ((hf_N3_.w hW).kr (o := 28) (by decide)) ((hf_N3_.w hW).lr (o := 28) (s := 1) (r := 29) (by decide)) (zdal_p dlB_Units_narrow_89 (i := 2) rfl) ?_
            refine zw_iload_n (pc := 47) (n := 3) (x := Int32.ofInt u2_) rfl (zdal_p dlB_Units_narrow_89 (i := 3) rfl) ?_
            refine zw_aload_n (pc := 48) (n := 0) (x := (d_ + 28)) rfl (zdal_p dlB_Units_narrow_89 (i := 4) rfl) ?_
            refine zw_getF (pc := 49) f_Units_14 rfl ((hf_N3_.w hW).kr (o := 28) (by decide)) ((hf_N3_.w hW).lr (o := 28) (s := 1) (r := 29) (by decide)) (zdal_p dlB_Units_narrow_89 (i := 5) rfl) ?_
            refine zw_iload_n (pc := 52) (n := 3) (x := Int32.ofInt u2_) rfl (zdal_p dlB_Units_narrow_89 (i := 6) rfl) ?_
            refine zk_at hf_N3_.x (pc := 53) l_Units_57 ((hf_N3_.w hW).kr (o := 29) (by decide)) ((hf_N3_.w hW).lr (o := 29) (s := 0) (r := 30) (by decide)) ((hf_N3_.w hW).rr (o := 30) (t := 1) (n := 27) (by decide)) (by decide) (by omega) (by omega) (by decide) (Nat.le_of_ble_eq_true rfl) (zdal_p dlB_Units_narrow_89 (i := 7) rfl) (fun v17_ hv17_ hv17_a hv17_b => ?_)
            have hw1_ := hv17_
            refine zw_aload_n (pc := 56) (n := 0) (x := (d_ + 28)) rfl (zdal_p dlB_Units_narrow_89 (i := 8) rfl) ?_
            refine zw_getF (pc := 57) f_Units_14 rfl ((hf_N3_.w hW).kr (o := 28) (by decide)) ((hf_N3_.w hW).lr (o := 28) (s := 1) (r := 29) (by decide)) (zdal_p dlB_Units_narrow_89 (i := 9) rfl) ?_
            refine zw_iload_n (pc := 60) (n := 2) (x := Int32.ofInt u1_) rfl (zdal_p dlB_Units_narrow_89 (i := 10) rfl) ?_
            refine zk_at hf_N3_.x (pc := 61) l_Units_57 ((hf_N3_.w hW).kr (o := 29) (by decide)) ((hf_N3_.w hW).lr (o := 29) (s := 0) (r := 30) (by decide)) ((hf_N3_.w hW).rr (o := 30) (t := 1) (n := 27) (by decide)) (by decide) (by omega) (by omega) (by decide) (Nat.le_of_ble_eq_true rfl) (zdal_p dlB_Units_narrow_89 (i := 11) rfl) (fun v18_ hv18_ hv18_a hv18_b => ?_)
            have hw2_ := hv18_
            refine zr_ixor (pc := 64) (zdal_p dlB_Units_narrow_89 (i := 12) rfl) ?_
            have hr19_ := zxor_r v17_ v18_
            refine zk_st hf_N3_.x (pc := 65) (o := 30) (by decide) l_Units_40 ((hf_N3_.w hW).kr (o := 29) (by decide)) ((hf_N3_.w hW).lr (o := 29) (s := 0) (r := 30) (by decide)) ((hf_N3_.w hW).rr (o := 30) (t := 1) (n := 27) (by decide)) (by decide) (by omega) (by omega) (by decide) (Nat.le_of_ble_eq_true rfl) (zdal_p dlB_Units_narrow_89 (i := 13) rfl) (fun N20_ hN20_ hsN20_ => ?_)
            have hf_N20_ : zFc d_ [] [] [(28, 3)] [30] Mz N20_ := hf_N3_.tr hsN20_ (by decide) (by decide) (by decide) (by decide)
            have hb0_N20_ : zFc d_ [] [] [] [30] Mz N20_ := hs4_.tr hsN20_ (by decide) (by decide) (by decide) (by decide)
            have eD28_3_N20_ : ze N20_ (d_ + 28) 3 = ze N3_ (d_ + 28) 3 := hsN20_.e (by decide)
            have hx_ : ze N20_ (d_ + 30) (u2_).toNat = zxor (ze N3_ (d_ + 30) (u2_).toNat) (ze N3_ (d_ + 30) (u1_).toNat) := by rw [zs_get hN20_ ⟨by omega, by omega⟩, hw1_, hw2_]
            have hnn_ := zNv_x hnw_ (by omega) (by omega) (by omega) htr_ (by omega) (fun i_ hi_ => zs_oth hN20_ (j := i_) (by omega)) hx_
            refine zr_iinc (pc := 68) (i := 3) (a := u2_) (n := 1) (L2 := [some (.ref (d_ + 28)), some (.int (Int32.ofInt a0_)), some (.int (Int32.ofInt u1_)), some (.int (Int32.ofInt (u2_ + 1)))]) rfl (by decide) rfl (zdal_p dlB_Units_narrow_89 (i := 14) rfl) ?_
            refine zw_goto (pc := 71) (tgt := 4) (by decide) (zdal_p dlB_Units_narrow_89 (i := 15) rfl) ?_
            exact ih_4 u1_ hu1_a hu1_b (u2_ + 1) (by omega) (by omega) N20_ hb0_N20_ (show 0 ≤ (u2_ + 1) by first | with_reducible assumption | assumption | omega) (show (u2_ + 1) ≤ ze Mz (d_ + 28) 3 by first | with_reducible assumption | assumption | omega) (show -1 ≤ u1_ ∧ u1_ < 27 by first | with_reducible assumption | assumption | omega) (show zNv S_ (a0_).toNat (u2_ + 1) u1_ d_ N20_ by exact hnn_) (by omega)
          · skip
            have hm1_ : u1_ = -1 := by omega
            have hnm_ := hnw_
            rw [hm1_] at hnm_
            have hnn_ := zNv_o hnm_ (by omega) htr_
            refine zw_iload_n (pc := 38) (n := 3) (x := Int32.ofInt u2_) rfl (zdal_p dlB_Units_narrow_88 (i := 22) rfl) ?_
            refine zw_istore_n (pc := 39) (i := 2) (L2 := [some (.ref (d_ + 28)), some (.int (Int32.ofInt a0_)), some (.int (Int32.ofInt u2_)), some (.int (Int32.ofInt u2_))]) rfl (by decide) rfl (zdal_p dlB_Units_narrow_88 (i := 23) rfl) ?_
            refine zw_goto (pc := 40) (tgt := 68) (by decide) (zdal_p dlB_Units_narrow_89 (i := 0) rfl) ?_
            refine zr_iinc (pc := 68) (i := 3) (a := u2_) (n := 1) (L2 := [some (.ref (d_ + 28)), some (.int (Int32.ofInt a0_)), some (.int (Int32.ofInt u2_)), some (.int (Int32.ofInt (u2_ + 1)))]) rfl (by decide) rfl (zdal_p dlB_Units_narrow_89 (i := 14) rfl) ?_
            refine zw_goto (pc := 71) (tgt := 4) (by decide) (zdal_p dlB_Units_narrow_89 (i := 15) rfl) ?_
            exact ih_4 u2_ hu2_a hu2_b (u2_ + 1) (by omega) (by omega) N3_ hs4_ (show 0 ≤ (u2_ + 1) by first | with_reducible assumption | assumption | omega) (show (u2_ + 1) ≤ ze Mz (d_ + 28) 3 by first | with_reducible assumption | assumption | omega) (show -1 ≤ u2_ ∧ u2_ < 27 by first | with_reducible assumption | assumption | omega) (show zNv S_ (a0_).toNat (u2_ + 1) u2_ d_ N3_ by exact hnn_) (by omega)
        · skip
          have hnn_ := zNv_e hnw_ (by omega) (hpz_.mp (by omega))
          refine zw_goto (pc := 30) (tgt := 68) (by decide) (zdal_p dlB_Units_narrow_88 (i := 18) rfl) ?_
          refine zr_iinc (pc := 68) (i := 3) (a := u2_) (n := 1) (L2 := [some (.ref (d_ + 28)), some (.int (Int32.ofInt a0_)), some (.int (Int32.ofInt u1_)), some (.int (Int32.ofInt (u2_ + 1)))]) rfl (by decide) rfl (zdal_p dlB_Units_narrow_89 (i := 14) rfl) ?_
          refine zw_goto (pc := 71) (tgt := 4) (by decide) (zdal_p dlB_Units_narrow_89 (i := 15) rfl) ?_
          exact ih_4 u1_ hu1_a hu1_b (u2_ + 1) (by omega) (by omega) N3_ hs4_ (show 0 ≤ (u2_ + 1) by first | with_reducible assumption | assumption | omega) (show (u2_ + 1) ≤ ze Mz (d_ + 28) 3 by first | with_reducible assumption | assumption | omega) (show -1 ≤ u1_ ∧ u1_ < 27 by first | with_reducible assumption | assumption | omega) (show zNv S_ (a0_).toNat (u2_ + 1) u1_ d_ N3_ by exact hnn_) (by omega)
  exact lp_4 _ ((-1)) (by decide) (by decide) 0 (by decide) (by decide) Mz zFc.rf (show 0 ≤ (0 : Int) by first | with_reducible assumption | assumption | omega) (show (0 : Int) ≤ ze Mz (d_ + 28) 3 by first | with_reducible assumption | assumption | omega) (show -1 ≤ ((-1)) ∧ ((-1)) < 27 by first | with_reducible assumption | assumption | omega) (show zNv S_ (a0_).toNat (0 : Int) ((-1)) d_ Mz by exact zNv_0 p0_) (Nat.lt_succ_self _)
set_option maxHeartbeats 4000000 in
theorem u_Units_narrowAtU (l : Launch) (d_ : Nat) (Mz : zMem) (hW : zKW d_ Mz) (a0_ : Int) (ha0_a : -2147483648 ≤ a0_) (ha0_b : a0_ < 2147483648) (T_ : zGT) (hT_ : T_ ∈ gTabs) (hAs_ : gAs T_) (hGr_ : gGr T_) (S_ : Nat → Prop) (p0_ : zTt T_ d_ Mz) (p1_ : zFir T_ d_ Mz) (p2_ : zSbK T_ d_ Mz) (p3_ : zNw S_ d_ Mz) (p4_ : 0 ≤ a0_) (p5_ : a0_ < ((gF T_).length : Int)) : zC l m_Units_narrowAt 0 0 [.ref (d_ + 28), .int (Int32.ofInt a0_)] Mz (zqcV d_ [] [] [(28, 3)] [11, 30, 32] Mz (fun N => (zNw (fun x_ => S_ x_ ∧ zyC T_ (a0_).toNat x_) d_ N))) := by
  refine zC_of (L0 := [some (.ref (d_ + 28)), some (.int (Int32.ofInt a0_)), none, none, none, none, none, none, none]) md_Units_narrowAt (Nat.le_of_ble_eq_true rfl) rfl ?_ zQ0
  have hf : zFc d_ [] [] [(28, 3)] [11, 30, 32] Mz Mz := zFc.rf
  have r_D1_7 := ze_r Mz (d_ + 1) 7
  have hO_ := gTabs_ok T_ hT_
  have hG_ := hO_.1
  have hn24_ := hG_.2.1
  have hn1_ := hG_.1
  have hsz_ := p0_.1
  have hfl_ := p1_.1
  obtain ⟨⟨hF1_, hF27_⟩, hAr_⟩ := id (gT_zTA hT_)
  refine zw_aload_n (pc := 0) (n := 0) (x := (d_ + 28)) rfl (zdal_p dlB_Units_narrowAt_82 (i := 0) rfl) ?_
  refine zw_getF (pc := 1) f_Units_23 rfl ((hf.w hW).kr (o := 28) (by decide)) ((hf.w hW).lr (o := 28) (s := 0) (r := 12) (by decide)) (zdal_p dlB_Units_narrowAt_82 (i := 1) rfl) ?_
  refine zw_getF (pc := 4) f_Units_50 rfl ((hf.w hW).kr (o := 12) (by decide)) ((hf.w hW).lr (o := 12) (s := 0) (r := 1) (by decide)) (zdal_p dlB_Units_narrowAt_82 (i := 2) rfl) ?_
  refine zw_astore_n (pc := 7) (i := 2) (L2 := [some (.ref (d_ + 28)), some (.int (Int32.ofInt a0_)), some (.ref (d_ + 1)), none, none, none, none, none, none]) rfl (by decide) rfl (zdal_p dlB_Units_narrowAt_82 (i := 3) rfl) ?_
  refine zw_aload_n (pc := 8) (n := 0) (x := (d_ + 28)) rfl (zdal_p dlB_Units_narrowAt_82 (i := 4) rfl) ?_
  refine zw_getF (pc := 9) f_Units_23 rfl ((hf.w hW).kr (o := 28) (by decide)) ((hf.w hW).lr (o := 28) (s := 0) (r := 12) (by decide)) (zdal_p dlB_Units_narrowAt_82 (i := 5) rfl) ?_
  refine zw_getF (pc := 12) f_Units_54 rfl ((hf.w hW).kr (o := 12) (by decide)) ((hf.w hW).lr (o := 12) (s := 4) (r := 19) (by decide)) (zdal_p dlB_Units_narrowAt_82 (i := 6) rfl) ?_
  refine zw_iload_n (pc := 15) (n := 1) (x := Int32.ofInt a0_) rfl (zdal_p dlB_Units_narrowAt_82 (i := 7) rfl) ?_
  refine zk_at hf.x (pc := 16) l_Units_57 ((hf.w hW).kr (o := 19) (by decide)) ((hf.w hW).lr (o := 19) (s := 0) (r := 20) (by decide)) ((hf.w hW).rr (o := 20) (t := 1) (n := 27) (by decide)) (by decide) (by omega) (by omega) (by decide) (Nat.le_of_ble_eq_true rfl) (zdal_p dlB_Units_narrowAt_82 (i := 8) rfl) (fun v1_ hv1_ hv1_a hv1_b => ?_)
  have hfv_ := hv1_
  have hfw_ : v1_ = (((gFn T_ (a0_).toNat) : Nat) : Int) := hfv_.trans (p1_.2 _ (by omega))
  have hft_ : (v1_).toNat = (gFn T_ (a0_).toNat) := by omega
  have hfm0_ := gFn_m (T := T_) (i := (a0_).toNat) (by omega)
  have hfma_ := (hO_.2.2.1.2.1 _ hfm0_).1
  have hfb_ := gS_b hO_ hfma_
  refine zw_istore_n (pc := 19) (i := 3) (L2 := [some (.ref (d_ + 28)), some (.int (Int32.ofInt a0_)), some (.ref (d_ + 1)), some (.int (Int32.ofInt v1_)), none, none, none, none, none]) rfl (by decide) rfl (zdal_p dlB_Units_narrowAt_82 (i := 9) rfl) ?_
  refine zw_iconst (pc := 20) (v := Int32.ofInt 0) (by decide) (zdal_p dlB_Units_narrowAt_82 (i := 10) rfl) ?_
  refine zw_istore (pc := 21) (i := 4) (L2 := [some (.ref (d_ + 28)), some (.int (Int32.ofInt a0_)), some (.ref (d_ + 1)), some (.int (Int32.ofInt v1_)), some (.int (Int32.ofInt 0)), none, none, none, none]) (by decide) rfl (zdal_p dlB_Units_narrowAt_82 (i := 11) rfl) ?_
  refine zw_aload_n (pc := 23) (n := 2) (x := (d_ + 1)) rfl (zdal_p dlB_Units_narrowAt_82 (i := 12) rfl) ?_
  refine zw_iload_n (pc := 24) (n := 3) (x := Int32.ofInt v1_) rfl (zdal_p dlB_Units_narrowAt_82 (i := 13) rfl) ?_
  refine zk_callV hf.x (pc := 25) [.int (Int32.ofInt v1_)] [] l_Units_61 (u_Group_normOfG l d_ Mz (hf.w hW) v1_ hv1_a hv1_b T_ hT_ p0_ (show 0 ≤ v1_ by first | with_reducible assumption | assumption | omega) (show (v1_).toNat < 2 ^ gN T_ by rw [hft_]; exact hfb_.1)) rfl rfl ((hf.w hW).kr (o := 1) (by decide)) (by decide) (by decide) (Nat.le_of_ble_eq_true rfl) (zdal_p dlB_Units_narrowAt_82 (i := 14) rfl) ?_
  rintro _ N2_ ⟨v3_, rfl, ⟨hv3_a, hv3_b⟩, hsN2_, ⟨hp0_N2_, hp1_N2_, hp2_N2_⟩⟩
  obtain rfl := hsN2_.eq.symm
  show zW l m_Units_narrowAt (zn Mz + 0, zw Mz + 0) Mz 28 [some (.ref (d_ + 28)), some (.int (Int32.ofInt a0_)), some (.ref (d_ + 1)), some (.int (Int32.ofInt v1_)), some (.int (Int32.ofInt 0)), none, none, none, none] [.int (Int32.ofInt v3_)] _
  have hnm_ := hp0_N2_
  rw [hft_] at hnm_
  refine zw_istore (pc := 28) (i := 5) (L2 := [some (.ref (d_ + 28)), some (.int (Int32.ofInt a0_)), some (.ref (d_ + 1)), some (.int (Int32.ofInt v1_)), some (.int (Int32.ofInt 0)), some (.int (Int32.ofInt v3_)), none, none, none]) (by decide) rfl (zdal_p dlB_Units_narrowAt_82 (i := 15) rfl) ?_
  refine zw_iconst (pc := 30) (v := Int32.ofInt 0) (by decide) (zdal_p dlB_Units_narrowAt_82 (i := 16) rfl) ?_
  refine zw_istore (pc := 31) (i := 6) (L2 := [some (.ref (d_ + 28)), some (.int (Int32.ofInt a0_)), some (.ref (d_ + 1)), some (.int (Int32.ofInt v1_)), some (.int (Int32.ofInt 0)), some (.int (Int32.ofInt v3_)), some (.int (Int32.ofInt 0)), none, none]) (by decide) rfl (zdal_p dlB_Units_narrowAt_82 (i := 17) rfl) ?_
  have lp_33 : ∀ (n : Nat) (u4_ : Int) (hu4_a : -2147483648 ≤ u4_) (hu4_b : u4_ < 2147483648) (u5_ : Int) (hu5_a : -2147483648 ≤ u5_) (hu5_b : u5_ < 2147483648) (N6_ : zMem) (hs7_ : zFc d_ [] [] [] [11, 32] Mz N6_) (i8_ : 0 ≤ u5_) (i9_ : u5_ ≤ gN T_) (i10_ : zJn T_ (a0_).toNat u4_ d_ N6_ u5_), (gN T_ - u5_).toNat < n → zW l m_Units_narrowAt (zn Mz + 0, zw Mz + 0) N6_ 33 [some (.ref (d_ + 28)), some (.int (Int32.ofInt a0_)), some (.ref (d_ + 1)), some (.int (Int32.ofInt v1_)), some (.int (Int32.ofInt u4_)), some (.int (Int32.ofInt v3_)), some (.int (Int32.ofInt u5_)), none, none] [] (zqcV d_ [] [] [(28, 3)] [11, 30, 32] Mz (fun N => (zNw (fun x_ => S_ x_ ∧ zyC T_ (a0_).toNat x_) d_ N))) := by
    intro n
    induction n with
    | zero =>
      intro u4_ hu4_a hu4_b u5_ hu5_a hu5_b N6_ hs7_ i8_ i9_ i10_ h0
      exact absurd h0 (Nat.not_lt_zero _)
    | succ n ih_33 =>
      intro u4_ hu4_a hu4_b u5_ hu5_a hu5_b N6_ hs7_ i8_ i9_ i10_ hlt_33
      have hf_N6_ : zFc d_ [] [] [(28, 3)] [11, 30, 32] Mz N6_ := hf.tr hs7_ (by decide) (by decide) (by decide) (by decide)
      have eD1_7_N6_ : ze N6_ (d_ + 1) 7 = ze Mz (d_ + 1) 7 := hs7_.e (by decide)
      have c11_ : zTt T_ d_ N6_ := zTt.fr (hf.w hW) hs7_ p0_ (by decide)
      have c12_ : zFir T_ d_ N6_ := zFir.fr (hf.w hW) hs7_ p1_ (by decide)
      have c13_ : zSbK T_ d_ N6_ := zSbK.fr (hf.w hW) hs7_ p2_ (by decide)
      have c14_ : zNw S_ d_ N6_ := zNw.fr (hf.w hW) hs7_ p3_ (by decide)
      have hjn_ := (show zJn T_ (a0_).toNat u4_ d_ N6_ u5_ by first | with_reducible assumption | assumption)
      have hjb_ := hjn_.1
      refine zw_iload (pc := 33) (i := 6) (x := Int32.ofInt u5_) rfl (zdal_p dlB_Units_narrowAt_82 (i := 18) rfl) ?_
      refine zw_aload_n (pc := 35) (n := 2) (x := (d_ + 1)) rfl (zdal_p dlB_Units_narrowAt_82 (i := 19) rfl) ?_
      refine zk_getI (pc := 36) f_Units_66 rfl ((hf_N6_.w hW).kr (o := 1) (by decide)) (zdal_p dlB_Units_narrowAt_82 (i := 20) rfl) ?_
      rw [hf_N6_.e (by decide)]
      refine zr_icmp_ge (pc := 39) (tgt := 105) ⟨hu5_a, hu5_b⟩ ⟨(ze_r Mz (d_ + 1) 7).1, (ze_r Mz (d_ + 1) 7).2⟩ (by decide) (zdal_p dlB_Units_narrowAt_82 (i := 21) rfl) (fun hc_39 => ?_) (fun hc_39 => ?_)
      · skip
        refine zw_iconst (pc := 105) (v := Int32.ofInt 0) (by decide) (zdal_p dlB_Units_narrowAt_84 (i := 6) rfl) ?_
        refine zw_istore (pc := 106) (i := 6) (L2 := [some (.ref (d_ + 28)), some (.int (Int32.ofInt a0_)), some (.ref (d_ + 1)), some (.int (Int32.ofInt v1_)), some (.int (Int32.ofInt u4_)), some (.int (Int32.ofInt v3_)), some (.int (Int32.ofInt 0)), none, none]) (by decide) rfl (zdal_p dlB_Units_narrowAt_84 (i := 7) rfl) ?_
        obtain ⟨G_, hG6_⟩ : ∃ g : Int, g = gN T_ := ⟨_, rfl⟩
        have hjG_ : zJn T_ (a0_).toNat u4_ d_ N6_ G_ := by rw [hG6_]; exact (show ((0 : Int) : Int) = gN T_ by omega) ▸ hjn_
        have lp_108 : ∀ (n : Nat) (u15_ : Int) (hu15_a : -2147483648 ≤ u15_) (hu15_b : u15_ < 2147483648) (N16_ : zMem) (hs17_ : zFc d_ [] [] [(28, 3)] [30] N6_ N16_) (i18_ : 0 ≤ u15_) (i19_ : u15_ ≤ gN T_) (i20_ : (zNw (fun x_ => S_ x_ ∧ zPd T_ (a0_).toNat (u15_).toNat 0 x_) d_ N16_)), (gN T_ - u15_).toNat < n → zW l m_Units_narrowAt (zn Mz + 0, zw Mz + 0) N16_ 108 [some (.ref (d_ + 28)), some (.int (Int32.ofInt a0_)), some (.ref (d_ + 1)), some (.int (Int32.ofInt v1_)), some (.int (Int32.ofInt u4_)), some (.int (Int32.ofInt v3_)), some (.int (Int32.ofInt u15_)), none, none] [] (zqcV d_ [] [] [(28, 3)] [11, 30, 32] Mz (fun N => (zNw (fun x_ => S_ x_ ∧ zyC T_ (a0_).toNat x_) d_ N))) := by
          intro n
          induction n with
          | zero =>
            intro u15_ hu15_a hu15_b N16_ hs17_ i18_ i19_ i20_ h0
            exact absurd h0 (Nat.not_lt_zero _)
          | succ n ih_108 =>
            intro u15_ hu15_a hu15_b N16_ hs17_ i18_ i19_ i20_ hlt_108
            have hf_N16_ : zFc d_ [] [] [(28, 3)] [11, 30, 32] Mz N16_ := hf_N6_.tr hs17_ (by decide) (by decide) (by decide) (by decide)
            have eD1_7_N16_ : ze N16_ (d_ + 1) 7 = ze N6_ (d_ + 1) 7 := hs17_.e (by decide)
            have c21_ : zTt T_ d_ N16_ := zTt.fr (hf_N6_.w hW) hs17_ c11_ (by decide)
            have c22_ : zFir T_ d_ N16_ := zFir.fr (hf_N6_.w hW) hs17_ c12_ (by decide)
            have c23_ : zSbK T_ d_ N16_ := zSbK.fr (hf_N6_.w hW) hs17_ c13_ (by decide)
            have hz6_ := (show (zNw (fun x_ => S_ x_ ∧ zPd T_ (a0_).toNat (u15_).toNat 0 x_) d_ N16_) by first | with_reducible assumption | assumption)
            have hjm_ := zJn_e hjG_ (fun x_ => hs17_.r (by decide) x_)
            refine zw_iload (pc := 108) (i := 6) (x := Int32.ofInt u15_) rfl (zdal_p dlB_Units_narrowAt_84 (i := 8) rfl) ?_
            refine zw_aload_n (pc := 110) (n := 2) (x := (d_ + 1)) rfl (zdal_p dlB_Units_narrowAt_84 (i := 9) rfl) ?_
            refine zk_getI (pc := 111) f_Units_66 rfl ((hf_N16_.w hW).kr (o := 1) (by decide)) (zdal_p dlB_Units_narrowAt_84 (i := 10) rfl) ?_
            rw [hf_N16_.e (by decide)]
            refine zr_icmp_ge (pc := 114) (tgt := 215) ⟨hu15_a, hu15_b⟩ ⟨(ze_r Mz (d_ + 1) 7).1, (ze_r Mz (d_ + 1) 7).2⟩ (by decide) (zdal_p dlB_Units_narrowAt_84 (i := 11) rfl) (fun hc_114 => ?_) (fun hc_114 => ?_)
            · skip
              exact zk_vret (pc := 215) rfl hf_N16_ (show (zNw (fun x_ => S_ x_ ∧ zyC T_ (a0_).toNat x_) d_ N16_) by exact zPd_e hz6_ (by omega)) (zdal_p dlB_Units_narrowAt_86 (i := 10) rfl)
            · skip
              refine zw_iconst (pc := 117) (v := Int32.ofInt 0) (by decide) (zdal_p dlB_Units_narrowAt_84 (i := 12) rfl) ?_
              refine zw_istore (pc := 118) (i := 7) (L2 := [some (.ref (d_ + 28)), some (.int (Int32.ofInt a0_)), some (.ref (d_ + 1)), some (.int (Int32.ofInt v1_)), some (.int (Int32.ofInt u4_)), some (.int (Int32.ofInt v3_)), some (.int (Int32.ofInt u15_)), some (.int (Int32.ofInt 0)), none]) (by decide) rfl (zdal_p dlB_Units_narrowAt_84 (i := 13) rfl) ?_
              have lp_120 : ∀ (n : Nat) (u24_ : Int) (hu24_a : -2147483648 ≤ u24_) (hu24_b : u24_ < 2147483648) (N25_ : zMem) (hs26_ : zFc d_ [] [] [(28, 3)] [30] N16_ N25_) (i27_ : 0 ≤ u24_) (i28_ : u24_ ≤ gN T_) (i29_ : (zNw (fun x_ => S_ x_ ∧ zPd T_ (a0_).toNat (u15_).toNat (u24_).toNat x_) d_ N25_)), (gN T_ - u24_).toNat < n → zW l m_Units_narrowAt (zn Mz + 0, zw Mz + 0) N25_ 120 [some (.ref (d_ + 28)), some (.int (Int32.ofInt a0_)), some (.ref (d_ + 1)), some (.int (Int32.ofInt v1_)), some (.int (Int32.ofInt u4_)), some (.int (Int32.ofInt v3_)), some (.int (Int32.ofInt u15_)), some (.int (Int32.ofInt u24_)), none] [] (zqcV d_ [] [] [(28, 3)] [11, 30, 32] Mz (fun N => (zNw (fun x_ => S_ x_ ∧ zyC T_ (a0_).toNat x_) d_ N))) := by
                intro n
                induction n with
                | zero =>
                  intro u24_ hu24_a hu24_b N25_ hs26_ i27_ i28_ i29_ h0
                  exact absurd h0 (Nat.not_lt_zero _)
                | succ n ih_120 =>
                  intro u24_ hu24_a hu24_b N25_ hs26_ i27_ i28_ i29_ hlt_120
                  have hf_N25_ : zFc d_ [] [] [(28, 3)] [11, 30, 32] Mz N25_ := hf_N16_.tr hs26_ (by decide) (by decide) (by decide) (by decide)
                  have hb0_N25_ : zFc d_ [] [] [(28, 3)] [30] N6_ N25_ := hs17_.tr hs26_ (by decide) (by decide) (by decide) (by decide)
                  have eD1_7_N25_ : ze N25_ (d_ + 1) 7 = ze N16_ (d_ + 1) 7 := hs26_.e (by decide)
                  have c30_ : zTt T_ d_ N25_ := zTt.fr (hf_N16_.w hW) hs26_ c21_ (by decide)
                  have c31_ : zFir T_ d_ N25_ := zFir.fr (hf_N16_.w hW) hs26_ c22_ (by decide)
                  have c32_ : zSbK T_ d_ N25_ := zSbK.fr (hf_N16_.w hW) hs26_ c23_ (by decide)
                  have hz7_ := (show (zNw (fun x_ => S_ x_ ∧ zPd T_ (a0_).toNat (u15_).toNat (u24_).toNat x_) d_ N25_) by first | with_reducible assumption | assumption)
                  have hjk_ := zJn_e hjm_ (fun x_ => hs26_.r (by decide) x_)
                  have hjc_ := hjk_.1
                  refine zw_iload (pc := 120) (i := 7) (x := Int32.ofInt u24_) rfl (zdal_p dlB_Units_narrowAt_84 (i := 14) rfl) ?_
                  refine zw_aload_n (pc := 122) (n := 2) (x := (d_ + 1)) rfl (zdal_p dlB_Units_narrowAt_84 (i := 15) rfl) ?_
                  refine zk_getI (pc := 123) f_Units_66 rfl ((hf_N25_.w hW).kr (o := 1) (by decide)) (zdal_p dlB_Units_narrowAt_84 (i := 16) rfl) ?_
                  rw [hf_N25_.e (by decide)]
                  refine zr_icmp_ge (pc := 126) (tgt := 209) ⟨hu24_a, hu24_b⟩ ⟨(ze_r Mz (d_ + 1) 7).1, (ze_r Mz (d_ + 1) 7).2⟩ (by decide) (zdal_p dlB_Units_narrowAt_84 (i := 17) rfl) (fun hc_126 => ?_) (fun hc_126 => ?_)
                  · skip
                    refine zr_iinc (pc := 209) (i := 6) (a := u15_) (n := 1) (L2 := [some (.ref (d_ + 28)), some (.int (Int32.ofInt a0_)), some (.ref (d_ + 1)), some (.int (Int32.ofInt v1_)), some (.int (Int32.ofInt u4_)), some (.int (Int32.ofInt v3_)), some (.int (Int32.ofInt (u15_ + 1))), some (.int (Int32.ofInt u24_)), none]) rfl (by decide) rfl (zdal_p dlB_Units_narrowAt_86 (i := 8) rfl) ?_
                    refine zw_goto (pc := 212) (tgt := 108) (by decide) (zdal_p dlB_Units_narrowAt_86 (i := 9) rfl) ?_
                    have hzr_ := zPd_r hz7_ (by omega) (by omega)
                    refine zW_le [some (.ref (d_ + 28)), some (.int (Int32.ofInt a0_)), some (.ref (d_ + 1)), some (.int (Int32.ofInt v1_)), some (.int (Int32.ofInt u4_)), some (.int (Int32.ofInt v3_)), some (.int (Int32.ofInt (u15_ + 1))), none, none] (⟨rfl, rfl, rfl, rfl, rfl, rfl, rfl, trivial⟩) ?_
                    exact ih_108 (u15_ + 1) (by omega) (by omega) N25_ hb0_N25_ (show 0 ≤ (u15_ + 1) by first | with_reducible assumption | assumption | omega) (show (u15_ + 1) ≤ gN T_ by first | with_reducible assumption | assumption | omega) (show (zNw (fun x_ => S_ x_ ∧ zPd T_ (a0_).toNat ((u15_ + 1)).toNat 0 x_) d_ N25_) by exact hzr_) (by omega)
                  · skip
                    refine zw_iload (pc := 129) (i := 4) (x := Int32.ofInt u4_) rfl (zdal_p dlB_Units_narrowAt_84 (i := 18) rfl) ?_
                    refine zw_iload (pc := 131) (i := 6) (x := Int32.ofInt u15_) rfl (zdal_p dlB_Units_narrowAt_84 (i := 19) rfl) ?_
                    refine zr_callS hf_N25_.x (pc := 133) [.int (Int32.ofInt u4_), .int (Int32.ofInt u15_)] [] l_Units_69 (u_T_isIn l d_ N25_ (hf_N25_.w hW) u4_ hu4_a hu4_b u15_ hu15_a hu15_b (show 0 ≤ u4_ by first | with_reducible assumption | assumption | omega) (show u4_ < 2147483648 by first | with_reducible assumption | assumption | omega) (show 0 ≤ u15_ by first | with_reducible assumption | assumption | omega) (show u15_ < 31 by first | with_reducible assumption | assumption | omega)) rfl rfl (by decide) (Nat.le_of_ble_eq_true rfl) (zdal_p dlB_Units_narrowAt_84 (i := 20) rfl) ?_
                    rintro _ N33_ ⟨v34_, rfl, ⟨hv34_a, hv34_b⟩, hsN33_, hp0_N33_⟩
                    obtain rfl := hsN33_.eq.symm
                    replace hp0_N33_ : ((v34_ = 1 ∧ zbt u4_ u15_) ∨ (v34_ = 0 ∧ ¬ zbt u4_ u15_)) := hp0_N33_
                    rcases hp0_N33_ with ⟨rfl, ha133_0_hp0_N33_⟩ | ⟨rfl, ha133_0_hp0_N33_⟩
                    · skip
                      have hug_ := (zJn_b hjk_ hG6_ (by omega)).mp ha133_0_hp0_N33_
                      show zW l m_Units_narrowAt (zn Mz + 0, zw Mz + 0) N25_ 136 [some (.ref (d_ + 28)), some (.int (Int32.ofInt a0_)), some (.ref (d_ + 1)), some (.int (Int32.ofInt v1_)), some (.int (Int32.ofInt u4_)), some (.int (Int32.ofInt v3_)), some (.int (Int32.ofInt u15_)), some (.int (Int32.ofInt u24_)), none] [.int (Int32.ofInt 1)] _
                      refine zr_if_eq (pc := 136) (tgt := 203) ⟨(by decide), (by decide)⟩ (by decide) (zdal_p dlB_Units_narrowAt_84 (i := 21) rfl) (fun hc_136 => ?_) (fun hc_136 => ?_)
                      · skip
                        exact absurd hc_136 (by decide)
                      · skip
                        refine zw_iload (pc := 139) (i := 4) (x := Int32.ofInt u4_) rfl (zdal_p dlB_Units_narrowAt_84 (i := 22) rfl) ?_
                        refine zw_iload (pc := 141) (i := 7) (x := Int32.ofInt u24_) rfl (zdal_p dlB_Units_narrowAt_84 (i := 23) rfl) ?_
                        refine zr_callS hf_N25_.x (pc := 143) [.int (Int32.ofInt u4_), .int (Int32.ofInt u24_)] [] l_Units_69 (u_T_isIn l d_ N25_ (hf_N25_.w hW) u4_ hu4_a hu4_b u24_ hu24_a hu24_b (show 0 ≤ u4_ by first | with_reducible assumption | assumption | omega) (show u4_ < 2147483648 by first | with_reducible assumption | assumption | omega) (show 0 ≤ u24_ by first | with_reducible assumption | assumption | omega) (show u24_ < 31 by first | with_reducible assumption | assumption | omega)) rfl rfl (by decide) (Nat.le_of_ble_eq_true rfl) (zdal_p dlB_Units_narrowAt_85 (i := 0) rfl) ?_
                        rintro _ N35_ ⟨v36_, rfl, ⟨hv36_a, hv36_b⟩, hsN35_, hp0_N35_⟩
                        obtain rfl := hsN35_.eq.symm
                        replace hp0_N35_ : ((v36_ = 1 ∧ zbt u4_ u24_) ∨ (v36_ = 0 ∧ ¬ zbt u4_ u24_)) := hp0_N35_
                        rcases hp0_N35_ with ⟨rfl, ha143_0_hp0_N35_⟩ | ⟨rfl, ha143_0_hp0_N35_⟩
                        · skip
                          show zW l m_Units_narrowAt (zn Mz + 0, zw Mz + 0) N25_ 146 [some (.ref (d_ + 28)), some (.int (Int32.ofInt a0_)), some (.ref (d_ + 1)), some (.int (Int32.ofInt v1_)), some (.int (Int32.ofInt u4_)), some (.int (Int32.ofInt v3_)), some (.int (Int32.ofInt u15_)), some (.int (Int32.ofInt u24_)), none] [.int (Int32.ofInt 1)] _
                          refine zr_if_eq (pc := 146) (tgt := 203) ⟨(by decide), (by decide)⟩ (by decide) (zdal_p dlB_Units_narrowAt_85 (i := 1) rfl) (fun hc_146 => ?_) (fun hc_146 => ?_)
                          · skip
                            exact absurd hc_146 (by decide)
                          · skip
                            refine zw_aload_n (pc := 149) (n := 2) (x := (d_ + 1)) rfl (zdal_p dlB_Units_narrowAt_85 (i := 2) rfl) ?_
                            refine zw_iload_n (pc := 150) (n := 3) (x := Int32.ofInt v1_) rfl (zdal_p dlB_Units_narrowAt_85 (i := 3) rfl) ?_
                            refine zw_aload_n (pc := 151) (n := 2) (x := (d_ + 1)) rfl (zdal_p dlB_Units_narrowAt_85 (i := 4) rfl) ?_
                            refine zw_iload (pc := 152) (i := 6) (x := Int32.ofInt u15_) rfl (zdal_p dlB_Units_narrowAt_85 (i := 5) rfl) ?_
                            refine zw_iload (pc := 154) (i := 7) (x := Int32.ofInt u24_) rfl (zdal_p dlB_Units_narrowAt_85 (i := 6) rfl) ?_
                            refine zk_callV hf_N25_.x (pc := 156) [.int (Int32.ofInt u15_), .int (Int32.ofInt u24_)] [.int (Int32.ofInt v1_), .ref (d_ + 1)] l_Units_83 (u_Group_both l d_ N25_ (hf_N25_.w hW) u15_ hu15_a hu15_b u24_ hu24_a hu24_b T_ hT_ c30_ (show 0 ≤ u15_ by first | with_reducible assumption | assumption | omega) (show u15_ < gN T_ by first | with_reducible assumption | assumption | omega) (show 0 ≤ u24_ by first | with_reducible assumption | assumption | omega) (show u24_ < gN T_ by first | with_reducible assumption | assumption | omega)) rfl rfl ((hf_N25_.w hW).kr (o := 1) (by decide)) (by decide) (by decide) (Nat.le_of_ble_eq_true rfl) (zdal_p dlB_Units_narrowAt_85 (i := 7) rfl) ?_
                            rintro _ N37_ ⟨v38_, rfl, ⟨hv38_a, hv38_b⟩, hsN37_, ⟨hp0_N37_, hp1_N37_, hp2_N37_⟩⟩
                            obtain rfl := hsN37_.eq.symm
                            show zW l m_Units_narrowAt (zn Mz + 0, zw Mz + 0) N25_ 159 [some (.ref (d_ + 28)), some (.int (Int32.ofInt a0_)), some (.ref (d_ + 1)), some (.int (Int32.ofInt v1_)), some (.int (Int32.ofInt u4_)), some (.int (Int32.ofInt v3_)), some (.int (Int32.ofInt u15_)), some (.int (Int32.ofInt u24_)), none] [.int (Int32.ofInt v38_), .int (Int32.ofInt v1_), .ref (d_ + 1)] _
                            have hbt_ := hp0_N37_
                            refine zk_callV hf_N25_.x (pc := 159) [.int (Int32.ofInt v1_), .int (Int32.ofInt v38_)] [] l_Units_73 (u_Group_leastOfCosetG l d_ N25_ (hf_N25_.w hW) v1_ hv1_a hv1_b v38_ hv38_a hv38_b T_ hT_ c30_ (show 0 ≤ v1_ by first | with_reducible assumption | assumption | omega) (show v1_ < 16777216 by first | with_reducible assumption | assumption | omega) (show 0 ≤ v38_ by first | with_reducible assumption | assumption | omega) (show v38_ < gN T_ by first | with_reducible assumption | assumption | omega)) rfl rfl ((hf_N25_.w hW).kr (o := 1) (by decide)) (by decide) (by decide) (Nat.le_of_ble_eq_true rfl) (zdal_p dlB_Units_narrowAt_85 (i := 8) rfl) ?_
                            rintro _ N39_ ⟨v40_, rfl, ⟨hv40_a, hv40_b⟩, hsN39_, ⟨hp0_N39_, hp1_N39_, hp2_N39_⟩⟩
                            obtain rfl := hsN39_.eq.symm
                            show zW l m_Units_narrowAt (zn Mz + 0, zw Mz + 0) N25_ 162 [some (.ref (d_ + 28)), some (.int (Int32.ofInt a0_)), some (.ref (d_ + 1)), some (.int (Int32.ofInt v1_)), some (.int (Int32.ofInt u4_)), some (.int (Int32.ofInt v3_)), some (.int (Int32.ofInt u15_)), some (.int (Int32.ofInt u24_)), none] [.int (Int32.ofInt v40_)] _
                            have hcz_ := hp0_N39_
                            rw [hft_, hbt_, Int.toNat_natCast] at hcz_
                            have hci_ : (v40_).toNat = gcos T_ (gFn T_ (a0_).toNat) (gm T_ (u15_).toNat (u24_).toNat) := by omega
                            have huc_ : gUr T_ (a0_).toNat (v40_).toNat := by rw [hci_]; exact gUr_c hT_ hGr_ (by omega) hug_ huk_
                            have huc1_ := huc_.1
                            refine zw_istore (pc := 162) (i := 8) (L2 := [some (.ref (d_ + 28)), some (.int (Int32.ofInt a0_)), some (.ref (d_ + 1)), some (.int (Int32.ofInt v1_)), some (.int (Int32.ofInt u4_)), some (.int (Int32.ofInt v3_)), some (.int (Int32.ofInt u15_)), some (.int (Int32.ofInt u24_)), some (.int (Int32.ofInt v40_))]) (by decide) rfl (zdal_p dlB_Units_narrowAt_85 (i := 9) rfl) ?_
                            refine zw_aload_n (pc := 164) (n := 0) (x := (d_ + 28)) rfl (zdal_p dlB_Units_narrowAt_85 (i := 10) rfl) ?_
                            refine zw_aload_n (pc := 165) (n := 0) (x := (d_ + 28)) rfl (zdal_p dlB_Units_narrowAt_85 (i := 11) rfl) ?_
                            refine zw_iload_n (pc := 166) (n := 1) (x := Int32.ofInt a0_) rfl (zdal_p dlB_Units_narrowAt_85 (i := 12) rfl) ?_
                            refine zk_callV hf_N25_.x (pc := 167) [.int (Int32.ofInt a0_)] [.ref (d_ + 28)] l_Units_80 (u_Units_bitOfU l d_ N25_ (hf_N25_.w hW) a0_ ha0_a ha0_b T_ hT_ c31_ (show 0 ≤ a0_ by first | with_reducible assumption | assumption | omega) (show a0_ < ((gF T_).length : Int) by first | with_reducible assumption | assumption | omega)) rfl rfl ((hf_N25_.w hW).kr (o := 28) (by decide)) (by decide) (by decide) (Nat.le_of_ble_eq_true rfl) (zdal_p dlB_Units_narrowAt_85 (i := 13) rfl) ?_
                            rintro _ N41_ ⟨v42_, rfl, ⟨hv42_a, hv42_b⟩, hsN41_, ⟨hp0_N41_, hp1_N41_, hp2_N41_⟩⟩
                            obtain rfl := hsN41_.eq.symm
                            show zW l m_Units_narrowAt (zn Mz + 0, zw Mz + 0) N25_ 170 [some (.ref (d_ + 28)), some (.int (Int32.ofInt a0_)), some (.ref (d_ + 1)), some (.int (Int32.ofInt v1_)), some (.int (Int32.ofInt u4_)), some (.int (Int32.ofInt v3_)), some (.int (Int32.ofInt u15_)), some (.int (Int32.ofInt u24_)), some (.int (Int32.ofInt v40_))] [.int (Int32.ofInt v42_), .ref (d_ + 28)] _
                            have hw0_ := hp0_N41_
                            refine zw_aload_n (pc := 170) (n := 0) (x := (d_ + 28)) rfl (zdal_p dlB_Units_narrowAt_85 (i := 14) rfl) ?_
                            refine zw_getF (pc := 171) f_Units_20 rfl ((hf_N25_.w hW).kr (o := 28) (by decide)) ((hf_N25_.w hW).lr (o := 28) (s := 2) (r := 31) (by decide)) (zdal_p dlB_Units_narrowAt_85 (i := 15) rfl) ?_
                            refine zw_iload (pc := 174) (i := 6) (x := Int32.ofInt u15_) rfl (zdal_p dlB_Units_narrowAt_85 (i := 16) rfl) ?_
                            refine zk_at hf_N25_.x (pc := 176) l_Units_57 ((hf_N25_.w hW).kr (o := 31) (by decide)) ((hf_N25_.w hW).lr (o := 31) (s := 0) (r := 32) (by decide)) ((hf_N25_.w hW).rr (o := 32) (t := 1) (n := 24) (by decide)) (by decide) (by omega) (by omega) (by decide) (Nat.le_of_ble_eq_true rfl) (zdal_p dlB_Units_narrowAt_85 (i := 17) rfl) (fun v43_ hv43_ hv43_a hv43_b => ?_)
                            have hw1_ := hv43_.trans (hjk_.2.2 _ (by omega) hug_)
                            refine zr_ixor (pc := 179) (zdal_p dlB_Units_narrowAt_85 (i := 18) rfl) ?_
                            have hr44_ := zxor_r v42_ v43_
                            refine zw_aload_n (pc := 180) (n := 0) (x := (d_ + 28)) rfl (zdal_p dlB_Units_narrowAt_85 (i := 19) rfl) ?_
                            refine zw_getF (pc := 181) f_Units_20 rfl ((hf_N25_.w hW).kr (o := 28) (by decide)) ((hf_N25_.w hW).lr (o := 28) (s := 2) (r := 31) (by decide)) (zdal_p dlB_Units_narrowAt_85 (i := 20) rfl) ?_
                            refine zw_iload (pc := 184) (i := 7) (x := Int32.ofInt u24_) rfl (zdal_p dlB_Units_narrowAt_85 (i := 21) rfl) ?_
                            refine zk_at hf_N25_.x (pc := 186) l_Units_57 ((hf_N25_.w hW).kr (o := 31) (by decide)) ((hf_N25_.w hW).lr (o := 31) (s := 0) (r := 32) (by decide)) ((hf_N25_.w hW).rr (o := 32) (t := 1) (n := 24) (by decide)) (by decide) (by omega) (by omega) (by decide) (Nat.le_of_ble_eq_true rfl) (zdal_p dlB_Units_narrowAt_85 (i := 22) rfl) (fun v45_ hv45_ hv45_a hv45_b => ?_)
                            have hw2_ := hv45_.trans (hjk_.2.2 _ (by omega) huk_)
                            refine zr_ixor (pc := 189) (zdal_p dlB_Units_narrowAt_85 (i := 23) rfl) ?_
                            have hr46_ := zxor_r (zxor v42_ v43_) v45_
                            refine zw_aload_n (pc := 190) (n := 0) (x := (d_ + 28)) rfl (zdal_p dlB_Units_narrowAt_86 (i := 0) rfl) ?_
                            refine zw_getF (pc := 191) f_Units_20 rfl ((hf_N25_.w hW).kr (o := 28) (by decide)) ((hf_N25_.w hW).lr (o := 28) (s := 2) (r := 31) (by decide)) (zdal_p dlB_Units_narrowAt_86 (i := 1) rfl) ?_
                            refine zw_iload (pc := 194) (i := 8) (x := Int32.ofInt v40_) rfl (zdal_p dlB_Units_narrowAt_86 (i := 2) rfl) ?_
                            refine zk_at hf_N25_.x (pc := 196) l_Units_57 ((hf_N25_.w hW).kr (o := 31) (by decide)) ((hf_N25_.w hW).lr (o := 31) (s := 0) (r := 32) (by decide)) ((hf_N25_.w hW).rr (o := 32) (t := 1) (n := 24) (by decide)) (by decide) (by omega) (by omega) (by decide) (Nat.le_of_ble_eq_true rfl) (zdal_p dlB_Units_narrowAt_86 (i := 3) rfl) (fun v47_ hv47_ hv47_a hv47_b => ?_)
                            have hw3_ := hv47_.trans (hjk_.2.2 _ (by omega) huc_)
                            refine zr_ixor (pc := 199) (zdal_p dlB_Units_narrowAt_86 (i := 4) rfl) ?_
                            have hr48_ := zxor_r (zxor (zxor v42_ v43_) v45_) v47_
                            obtain ⟨hqi1_, hqi2_, hqi3_⟩ := zUq_i (T := T_) (j := (a0_).toNat) (g := (u15_).toNat) (k := (u24_).toNat) (c := (v40_).toNat) hF27_ hF1_ hw0_ hw1_ hw2_ hci_ hw3_
                            refine zk_callV hf_N25_.x (pc := 200) [.int (Int32.ofInt (zxor (zxor (zxor v42_ v43_) v45_) v47_))] [] l_Units_86 (u_Units_narrowU l d_ N25_ (hf_N25_.w hW) (zxor (zxor (zxor v42_ v43_) v45_) v47_) (by omega) (by omega) (fun x_ => S_ x_ ∧ zPd T_ (a0_).toNat (u15_).toNat (u24_).toNat x_) hz7_ (show 0 ≤ (zxor (zxor (zxor v42_ v43_) v45_) v47_) by first | with_reducible assumption | assumption | omega) (show (zxor (zxor (zxor v42_ v43_) v45_) v47_) < 134217728 by first | with_reducible assumption | assumption | omega)) rfl rfl ((hf_N25_.w hW).kr (o := 28) (by decide)) (by decide) (by decide) (Nat.le_of_ble_eq_true rfl) (zdal_p dlB_Units_narrowAt_86 (i := 5) rfl) ?_
                            rintro _ N49_ ⟨rfl, hsN49_, hp0_N49_⟩
                            replace hp0_N49_ : (zNw (fun x_ => (fun x_ => S_ x_ ∧ zPd T_ (a0_).toNat (u15_).toNat (u24_).toNat x_) x_ ∧ zpm ((zxor (zxor (zxor v42_ v43_) v45_) v47_)).toNat x_ = false) d_ N49_) := hp0_N49_
                            have hf_N49_ : zFc d_ [] [] [(28, 3)] [11, 30, 32] Mz N49_ := hf_N25_.tr hsN49_ (by decide) (by decide) (by decide) (by decide)
                            have hb0_N49_ : zFc d_ [] [] [(28, 3)] [30] N6_ N49_ := hb0_N25_.tr hsN49_ (by decide) (by decide) (by decide) (by decide)
                            have hb1_N49_ : zFc d_ [] [] [(28, 3)] [30] N16_ N49_ := hs26_.tr hsN49_ (by decide) (by decide) (by decide) (by decide)
                            have eD1_7_N49_ : ze N49_ (d_ + 1) 7 = ze N25_ (d_ + 1) 7 := hsN49_.e (by decide)
                            have c51_ : zTt T_ d_ N49_ := zTt.fr (hf_N25_.w hW) hsN49_ c30_ (by decide)
                            have c52_ : zFir T_ d_ N49_ := zFir.fr (hf_N25_.w hW) hsN49_ c31_ (by decide)
                            have c53_ : zSbK T_ d_ N49_ := zSbK.fr (hf_N25_.w hW) hsN49_ c32_ (by decide)
                            show zW l m_Units_narrowAt (zn Mz + 0, zw Mz + 0) N49_ 203 [some (.ref (d_ + 28)), some (.int (Int32.ofInt a0_)), some (.ref (d_ + 1)), some (.int (Int32.ofInt v1_)), some (.int (Int32.ofInt u4_)), some (.int (Int32.ofInt v3_)), some (.int (Int32.ofInt u15_)), some (.int (Int32.ofInt u24_)), some (.int (Int32.ofInt v40_))] [] _
                            have hpn_ := hp0_N49_
                            rw [hqi1_] at hpn_
                            have hzn_ := zPd_s hpn_ (by omega) hug_ huk_
                            refine zr_iinc (pc := 203) (i := 7) (a := u24_) (n := 1) (L2 := [some (.ref (d_ + 28)), some (.int (Int32.ofInt a0_)), some (.ref (d_ + 1)), some (.int (Int32.ofInt v1_)), some (.int (Int32.ofInt u4_)), some (.int (Int32.ofInt v3_)), some (.int (Int32.ofInt u15_)), some (.int (Int32.ofInt (u24_ + 1))), some (.int (Int32.ofInt v40_))]) rfl (by decide) rfl (zdal_p dlB_Units_narrowAt_86 (i := 6) rfl) ?_
                            refine zw_goto (pc := 206) (tgt := 120) (by decide) (zdal_p dlB_Units_narrowAt_86 (i := 7) rfl) ?_
                            have hzb_ : (zNw (fun x_ => S_ x_ ∧ zPd T_ (a0_).toNat (u15_).toNat ((u24_ + 1)).toNat x_) d_ N49_) := by first | exact hzn_ | exact zPd_k hz7_ (by omega) (fun q_ => hnu_ q_.1) | exact zPd_k hz7_ (by omega) (fun q_ => hnk_ q_.2)
                            refine zW_le [some (.ref (d_ + 28)), some (.int (Int32.ofInt a0_)), some (.ref (d_ + 1)), some (.int (Int32.ofInt v1_)), some (.int (Int32.ofInt u4_)), some (.int (Int32.ofInt v3_)), some (.int (Int32.ofInt u15_)), some (.int (Int32.ofInt (u24_ + 1))), none] (⟨rfl, rfl, rfl, rfl, rfl, rfl, rfl, rfl, trivial⟩) ?_
                            exact ih_120 (u24_ + 1) (by omega) (by omega) N49_ hb1_N49_ (show 0 ≤ (u24_ + 1) by first | with_reducible assumption | assumption | omega) (show (u24_ + 1) ≤ gN T_ by first | with_reducible assumption | assumption | omega) (show (zNw (fun x_ => S_ x_ ∧ zPd T_ (a0_).toNat (u15_).toNat ((u24_ + 1)).toNat x_) d_ N49_) by exact hzb_) (by omega)
                        · skip
                          show zW l m_Units_narrowAt (zn Mz + 0, zw Mz + 0) N25_ 146 [some (.ref (d_ + 28)), some (.int (Int32.ofInt a0_)), some (.ref (d_ + 1)), some (.int (Int32.ofInt v1_)), some (.int (Int32.ofInt u4_)), some (.int (Int32.ofInt v3_)), some (.int (Int32.ofInt u15_)), some (.int (Int32.ofInt u24_)), none] [.int (Int32.ofInt 0)] _
                          refine zr_if_eq (pc := 146) (tgt := 203) ⟨(by decide), (by decide)⟩ (by decide) (zdal_p dlB_Units_narrowAt_85 (i := 1) rfl) (fun hc_146 => ?_) (fun hc_146 => ?_)
                          · skip
                            refine zr_iinc (pc := 203) (i := 7) (a := u24_) (n := 1) (L2 := [some (.ref (d_ + 28)), some (.int (Int32.ofInt a0_)), some (.ref (d_ + 1)), some (.int (Int32.ofInt v1_)), some (.int (Int32.ofInt u4_)), some (.int (Int32.ofInt v3_)), some (.int (Int32.ofInt u15_)), some (.int (Int32.ofInt (u24_ + 1))), none]) rfl (by decide) rfl (zdal_p dlB_Units_narrowAt_86 (i := 6) rfl) ?_
                            refine zw_goto (pc := 206) (tgt := 120) (by decide) (zdal_p dlB_Units_narrowAt_86 (i := 7) rfl) ?_
                            have hzb_ : (zNw (fun x_ => S_ x_ ∧ zPd T_ (a0_).toNat (u15_).toNat ((u24_ + 1)).toNat x_) d_ N25_) := by first | exact hzn_ | exact zPd_k hz7_ (by omega) (fun q_ => hnu_ q_.1) | exact zPd_k hz7_ (by omega) (fun q_ => hnk_ q_.2)
                            exact ih_120 (u24_ + 1) (by omega) (by omega) N25_ hs26_ (show 0 ≤ (u24_ + 1) by first | with_reducible assumption | assumption | omega) (show (u24_ + 1) ≤ gN T_ by first | with_reducible assumption | assumption | omega) (show (zNw (fun x_ => S_ x_ ∧ zPd T_ (a0_).toNat (u15_).toNat ((u24_ + 1)).toNat x_) d_ N25_) by exact hzb_) (by omega)
                          · skip
                            exact absurd hc_146 (by decide)
                    · skip
                      have hnu_ : ¬ gUr T_ (a0_).toNat (u15_).toNat := fun q_ => ha133_0_hp0_N33_ ((zJn_b hjk_ hG6_ (by omega)).mpr q_)
                      show zW l m_Units_narrowAt (zn Mz + 0, zw Mz + 0) N25_ 136 [some (.ref (d_ + 28)), some (.int (Int32.ofInt a0_)), some (.ref (d_ + 1)), some (.int (Int32.ofInt v1_)), some (.int (Int32.ofInt u4_)), some (.int (Int32.ofInt v3_)), some (.int (Int32.ofInt u15_)), some (.int (Int32.ofInt u24_)), none] [.int (Int32.ofInt 0)] _
                      refine zr_if_eq (pc := 136) (tgt := 203) ⟨(by decide), (by decide)⟩ (by decide) (zdal_p dlB_Units_narrowAt_84 (i := 21) rfl) (fun hc_136 => ?_) (fun hc_136 => ?_)
                      · skip
                        refine zr_iinc (pc := 203) (i := 7) (a := u24_) (n := 1) (L2 := [some (.ref (d_ + 28)), some (.int (Int32.ofInt a0_)), some (.ref (d_ + 1)), some (.int (Int32.ofInt v1_)), some (.int (Int32.ofInt u4_)), some (.int (Int32.ofInt v3_)), some (.int (Int32.ofInt u15_)), some (.int (Int32.ofInt (u24_ + 1))), none]) rfl (by decide) rfl (zdal_p dlB_Units_narrowAt_86 (i := 6) rfl) ?_
                        refine zw_goto (pc := 206) (tgt := 120) (by decide) (zdal_p dlB_Units_narrowAt_86 (i := 7) rfl) ?_
                        have hzb_ : (zNw (fun x_ => S_ x_ ∧ zPd T_ (a0_).toNat (u15_).toNat ((u24_ + 1)).toNat x_) d_ N25_) := by first | exact hzn_ | exact zPd_k hz7_ (by omega) (fun q_ => hnu_ q_.1) | exact zPd_k hz7_ (by omega) (fun q_ => hnk_ q_.2)
                        exact ih_120 (u24_ + 1) (by omega) (by omega) N25_ hs26_ (show 0 ≤ (u24_ + 1) by first | with_reducible assumption | assumption | omega) (show (u24_ + 1) ≤ gN T_ by first | with_reducible assumption | assumption | omega) (show (zNw (fun x_ => S_ x_ ∧ zPd T_ (a0_).toNat (u15_).toNat ((u24_ + 1)).toNat x_) d_ N25_) by exact hzb_) (by omega)
                      · skip
                        exact absurd hc_136 (by decide)
              exact lp_120 _ 0 (by decide) (by decide) N16_ zFc.rf (show 0 ≤ (0 : Int) by first | with_reducible assumption | assumption | omega) (show (0 : Int) ≤ gN T_ by first | with_reducible assumption | assumption | omega) (show (zNw (fun x_ => S_ x_ ∧ zPd T_ (a0_).toNat (u15_).toNat ((0 : Int)).toNat x_) d_ N16_) by exact hz6_) (Nat.lt_succ_self _)
        exact lp_108 _ 0 (by decide) (by decide) N6_ zFc.rf (show 0 ≤ (0 : Int) by first | with_reducible assumption | assumption | omega) (show (0 : Int) ≤ gN T_ by first | with_reducible assumption | assumption | omega) (show (zNw (fun x_ => S_ x_ ∧ zPd T_ (a0_).toNat ((0 : Int)).toNat 0 x_) d_ N6_) by exact zPd_0 c14_) (Nat.lt_succ_self _)
      · skip
        refine zw_iload (pc := 42) (i := 5) (x := Int32.ofInt v3_) rfl (zdal_p dlB_Units_narrowAt_82 (i := 22) rfl) ?_
        refine zw_iload (pc := 44) (i := 6) (x := Int32.ofInt u5_) rfl (zdal_p dlB_Units_narrowAt_82 (i := 23) rfl) ?_
        refine zr_callS hf_N6_.x (pc := 46) [.int (Int32.ofInt v3_), .int (Int32.ofInt u5_)] [] l_Units_69 (u_T_isIn l d_ N6_ (hf_N6_.w hW) v3_ hv3_a hv3_b u5_ hu5_a hu5_b (show 0 ≤ v3_ by first | with_reducible assumption | assumption | omega) (show v3_ < 2147483648 by first | with_reducible assumption | assumption | omega) (show 0 ≤ u5_ by first | with_reducible assumption | assumption | omega) (show u5_ < 31 by first | with_reducible assumption | assumption | omega)) rfl rfl (by decide) (Nat.le_of_ble_eq_true rfl) (zdal_p dlB_Units_narrowAt_83 (i := 0) rfl) ?_
        rintro _ N54_ ⟨v55_, rfl, ⟨hv55_a, hv55_b⟩, hsN54_, hp0_N54_⟩
        obtain rfl := hsN54_.eq.symm
        replace hp0_N54_ : ((v55_ = 1 ∧ zbt v3_ u5_) ∨ (v55_ = 0 ∧ ¬ zbt v3_ u5_)) := hp0_N54_
        rcases hp0_N54_ with ⟨rfl, ha46_0_hp0_N54_⟩ | ⟨rfl, ha46_0_hp0_N54_⟩
        · skip
          have hin_ := ha46_0_hp0_N54_
          have hgn_ : gtr T_ (gFn T_ (a0_).toNat) (u5_).toNat = (gFn T_ (a0_).toNat) := (norm_in hnm_ (by omega)).mp hin_
          show zW l m_Units_narrowAt (zn Mz + 0, zw Mz + 0) N6_ 49 [some (.ref (d_ + 28)), some (.int (Int32.ofInt a0_)), some (.ref (d_ + 1)), some (.int (Int32.ofInt v1_)), some (.int (Int32.ofInt u4_)), some (.int (Int32.ofInt v3_)), some (.int (Int32.ofInt u5_)), none, none] [.int (Int32.ofInt 1)] _
          refine zr_if_eq (pc := 49) (tgt := 99) ⟨(by decide), (by decide)⟩ (by decide) (zdal_p dlB_Units_narrowAt_83 (i := 1) rfl) (fun hc_49 => ?_) (fun hc_49 => ?_)
          · skip
            exact absurd hc_49 (by decide)
          · skip
            refine zw_aload_n (pc := 52) (n := 2) (x := (d_ + 1)) rfl (zdal_p dlB_Units_narrowAt_83 (i := 2) rfl) ?_
            refine zw_iload_n (pc := 53) (n := 3) (x := Int32.ofInt v1_) rfl (zdal_p dlB_Units_narrowAt_83 (i := 3) rfl) ?_
            refine zw_iload (pc := 54) (i := 6) (x := Int32.ofInt u5_) rfl (zdal_p dlB_Units_narrowAt_83 (i := 4) rfl) ?_
            refine zk_callV hf_N6_.x (pc := 56) [.int (Int32.ofInt v1_), .int (Int32.ofInt u5_)] [] l_Units_73 (u_Group_leastOfCosetG l d_ N6_ (hf_N6_.w hW) v1_ hv1_a hv1_b u5_ hu5_a hu5_b T_ hT_ c11_ (show 0 ≤ v1_ by first | with_reducible assumption | assumption | omega) (show v1_ < 16777216 by first | with_reducible assumption | assumption | omega) (show 0 ≤ u5_ by first | with_reducible assumption | assumption | omega) (show u5_ < gN T_ by first | with_reducible assumption | assumption | omega)) rfl rfl ((hf_N6_.w hW).kr (o := 1) (by decide)) (by decide) (by decide) (Nat.le_of_ble_eq_true rfl) (zdal_p dlB_Units_narrowAt_83 (i := 5) rfl) ?_
            rintro _ N56_ ⟨v57_, rfl, ⟨hv57_a, hv57_b⟩, hsN56_, ⟨hp0_N56_, hp1_N56_, hp2_N56_⟩⟩
            obtain rfl := hsN56_.eq.symm
            show zW l m_Units_narrowAt (zn Mz + 0, zw Mz + 0) N6_ 59 [some (.ref (d_ + 28)), some (.int (Int32.ofInt a0_)), some (.ref (d_ + 1)), some (.int (Int32.ofInt v1_)), some (.int (Int32.ofInt u4_)), some (.int (Int32.ofInt v3_)), some (.int (Int32.ofInt u5_)), none, none] [.int (Int32.ofInt v57_)] _
            have hlc_ := hp0_N56_
            rw [hft_] at hlc_
            refine zw_iload (pc := 59) (i := 6) (x := Int32.ofInt u5_) rfl (zdal_p dlB_Units_narrowAt_83 (i := 6) rfl) ?_
            refine zr_icmp_ne (pc := 61) (tgt := 99) ⟨hv57_a, hv57_b⟩ ⟨hu5_a, hu5_b⟩ (by decide) (zdal_p dlB_Units_narrowAt_83 (i := 7) rfl) (fun hc_61 => ?_) (fun hc_61 => ?_)
            · skip
              refine zr_iinc (pc := 99) (i := 6) (a := u5_) (n := 1) (L2 := [some (.ref (d_ + 28)), some (.int (Int32.ofInt a0_)), some (.ref (d_ + 1)), some (.int (Int32.ofInt v1_)), some (.int (Int32.ofInt u4_)), some (.int (Int32.ofInt v3_)), some (.int (Int32.ofInt (u5_ + 1))), none, none]) rfl (by decide) rfl (zdal_p dlB_Units_narrowAt_84 (i := 4) rfl) ?_
              refine zw_goto (pc := 102) (tgt := 33) (by decide) (zdal_p dlB_Units_narrowAt_84 (i := 5) rfl) ?_
              have hjs_ : zJn T_ (a0_).toNat u4_ d_ N6_ (u5_ + 1) := by first | exact hjd_ | exact zJn_n hjn_ (by omega) (fun q_ => hng_ q_.2.1) | exact zJn_n hjn_ (by omega) (fun q_ => by have h_ := q_.2.2; omega)
              exact ih_33 u4_ hu4_a hu4_b (u5_ + 1) (by omega) (by omega) N6_ hs7_ (show 0 ≤ (u5_ + 1) by first | with_reducible assumption | assumption | omega) (show (u5_ + 1) ≤ gN T_ by first | with_reducible assumption | assumption | omega) (show zJn T_ (a0_).toNat u4_ d_ N6_ (u5_ + 1) by exact hjs_) (by omega)
            · skip
              have hur_ : gUr T_ (a0_).toNat (u5_).toNat := ⟨by omega, hgn_, by omega⟩
              refine zw_iload (pc := 64) (i := 4) (x := Int32.ofInt u4_) rfl (zdal_p dlB_Units_narrowAt_83 (i := 8) rfl) ?_
              refine zw_iconst (pc := 66) (v := Int32.ofInt 1) (by decide) (zdal_p dlB_Units_narrowAt_83 (i := 9) rfl) ?_
              refine zw_iload (pc := 67) (i := 6) (x := Int32.ofInt u5_) rfl (zdal_p dlB_Units_narrowAt_83 (i := 10) rfl) ?_
              refine zr_ishl (pc := 69) (zdal_p dlB_Units_narrowAt_83 (i := 11) rfl) ?_
              have hr58_ := zshl_r 1 u5_
              refine zr_ior (pc := 70) (zdal_p dlB_Units_narrowAt_83 (i := 12) rfl) ?_
              have hr59_ := zor_r u4_ (zshl 1 u5_)
              refine zw_istore (pc := 71) (i := 4) (L2 := [some (.ref (d_ + 28)), some (.int (Int32.ofInt a0_)), some (.ref (d_ + 1)), some (.int (Int32.ofInt v1_)), some (.int (Int32.ofInt (zor u4_ (zshl 1 u5_)))), some (.int (Int32.ofInt v3_)), some (.int (Int32.ofInt u5_)), none, none]) (by decide) rfl (zdal_p dlB_Units_narrowAt_83 (i := 13) rfl) ?_
              refine zw_aload_n (pc := 73) (n := 0) (x := (d_ + 28)) rfl (zdal_p dlB_Units_narrowAt_83 (i := 14) rfl) ?_
              refine zw_getF (pc := 74) f_Units_20 rfl ((hf_N6_.w hW).kr (o := 28) (by decide)) ((hf_N6_.w hW).lr (o := 28) (s := 2) (r := 31) (by decide)) (zdal_p dlB_Units_narrowAt_83 (i := 15) rfl) ?_
              refine zw_iload (pc := 77) (i := 6) (x := Int32.ofInt u5_) rfl (zdal_p dlB_Units_narrowAt_83 (i := 16) rfl) ?_
              refine zw_aload_n (pc := 79) (n := 0) (x := (d_ + 28)) rfl (zdal_p dlB_Units_narrowAt_83 (i := 17) rfl) ?_
              refine zw_aload_n (pc := 80) (n := 0) (x := (d_ + 28)) rfl (zdal_p dlB_Units_narrowAt_83 (i := 18) rfl) ?_
              refine zw_getF (pc := 81) f_Units_23 rfl ((hf_N6_.w hW).kr (o := 28) (by decide)) ((hf_N6_.w hW).lr (o := 28) (s := 0) (r := 12) (by decide)) (zdal_p dlB_Units_narrowAt_83 (i := 19) rfl) ?_
              refine zw_iload_n (pc := 84) (n := 3) (x := Int32.ofInt v1_) rfl (zdal_p dlB_Units_narrowAt_83 (i := 20) rfl) ?_
              refine zw_iconst (pc := 85) (v := Int32.ofInt 1) (by decide) (zdal_p dlB_Units_narrowAt_83 (i := 21) rfl) ?_
              refine zw_iload (pc := 86) (i := 6) (x := Int32.ofInt u5_) rfl (zdal_p dlB_Units_narrowAt_83 (i := 22) rfl) ?_
              refine zr_ishl (pc := 88) (zdal_p dlB_Units_narrowAt_83 (i := 23) rfl) ?_
              have hr60_ := zshl_r 1 u5_
              refine zr_ior (pc := 89) (zdal_p dlB_Units_narrowAt_84 (i := 0) rfl) ?_
              have hr61_ := zor_r v1_ (zshl 1 u5_)
              have hor_ := norm_or (T := T_) (H := (gFn T_ (a0_).toNat)) (g := u5_) hfw_ hfb_.2.1 (by omega) (by omega)
              refine zk_callV hf_N6_.x (pc := 90) [.int (Int32.ofInt (zor v1_ (zshl 1 u5_)))] [.ref (d_ + 28), .int (Int32.ofInt u5_), .ref (d_ + 31)] l_Units_77 (u_Sorts_spannedSortG l d_ N6_ (hf_N6_.w hW) (zor v1_ (zshl 1 u5_)) (by omega) (by omega) T_ hT_ hAs_ c11_ c13_ (show 0 ≤ (zor v1_ (zshl 1 u5_)) by exact zor_p (by omega) (by omega) (zsh_0 (by omega) (by omega)) (zshl_r 1 u5_).2) (show ((zor v1_ (zshl 1 u5_))).toNat < 2 ^ gN T_ by rw [hor_]; exact Nat.or_lt_two_pow hfb_.1 (Nat.pow_lt_pow_right (by decide) (by omega)))) rfl rfl ((hf_N6_.w hW).kr (o := 12) (by decide)) (by decide) (by decide) (Nat.le_of_ble_eq_true rfl) (zdal_p dlB_Units_narrowAt_84 (i := 1) rfl) ?_
              rintro _ N62_ ⟨v63_, rfl, ⟨hv63_a, hv63_b⟩, hsN62_, hp0_N62_⟩
              replace hp0_N62_ : (∃ R_ : Nat, gLC T_ ((zor v1_ (zshl 1 u5_))).toNat R_ ∧ zSrt T_ R_ v63_) := hp0_N62_
              have hf_N62_ : zFc d_ [] [] [(28, 3)] [11, 30, 32] Mz N62_ := hf_N6_.tr hsN62_ (by decide) (by decide) (by decide) (by decide)
              have hb0_N62_ : zFc d_ [] [] [] [11, 32] Mz N62_ := hs7_.tr hsN62_ (by decide) (by decide) (by decide) (by decide)
              have eD1_7_N62_ : ze N62_ (d_ + 1) 7 = ze N6_ (d_ + 1) 7 := hsN62_.e (by decide)
              have c64_ : zTt T_ d_ N62_ := zTt.fr (hf_N6_.w hW) hsN62_ c11_ (by decide)
              have c65_ : zFir T_ d_ N62_ := zFir.fr (hf_N6_.w hW) hsN62_ c12_ (by decide)
              have c66_ : zSbK T_ d_ N62_ := zSbK.fr (hf_N6_.w hW) hsN62_ c13_ (by decide)
              have c67_ : zNw S_ d_ N62_ := zNw.fr (hf_N6_.w hW) hsN62_ c14_ (by decide)
              show zW l m_Units_narrowAt (zn Mz + 0, zw Mz + 0) N62_ 93 [some (.ref (d_ + 28)), some (.int (Int32.ofInt a0_)), some (.ref (d_ + 1)), some (.int (Int32.ofInt v1_)), some (.int (Int32.ofInt (zor u4_ (zshl 1 u5_)))), some (.int (Int32.ofInt v3_)), some (.int (Int32.ofInt u5_)), none, none] [.int (Int32.ofInt v63_), .ref (d_ + 28), .int (Int32.ofInt u5_), .ref (d_ + 31)] _
              obtain ⟨R_, hlc2_, hso_⟩ := hp0_N62_
              rw [hor_] at hlc2_
              have hgs_ := gsr_u hO_ hlc2_ hso_
              have hgl_ := gsr_lt hT_ ((gFn T_ (a0_).toNat) ||| 2 ^ (u5_).toNat)
              refine zk_callV hf_N62_.x (pc := 93) [.int (Int32.ofInt v63_)] [.int (Int32.ofInt u5_), .ref (d_ + 31)] l_Units_80 (u_Units_bitOfU l d_ N62_ (hf_N62_.w hW) v63_ hv63_a hv63_b T_ hT_ c65_ (show 0 ≤ v63_ by first | with_reducible assumption | assumption | omega) (show v63_ < ((gF T_).length : Int) by first | with_reducible assumption | assumption | omega)) rfl rfl ((hf_N62_.w hW).kr (o := 28) (by decide)) (by decide) (by decide) (Nat.le_of_ble_eq_true rfl) (zdal_p dlB_Units_narrowAt_84 (i := 2) rfl) ?_
              rintro _ N68_ ⟨v69_, rfl, ⟨hv69_a, hv69_b⟩, hsN68_, ⟨hp0_N68_, hp1_N68_, hp2_N68_⟩⟩
              obtain rfl := hsN68_.eq.symm
              show zW l m_Units_narrowAt (zn Mz + 0, zw Mz + 0) N62_ 96 [some (.ref (d_ + 28)), some (.int (Int32.ofInt a0_)), some (.ref (d_ + 1)), some (.int (Int32.ofInt v1_)), some (.int (Int32.ofInt (zor u4_ (zshl 1 u5_)))), some (.int (Int32.ofInt v3_)), some (.int (Int32.ofInt u5_)), none, none] [.int (Int32.ofInt v69_), .int (Int32.ofInt u5_), .ref (d_ + 31)] _
              have hbo_ := hp0_N68_
              rw [hgs_, Int.toNat_natCast] at hbo_
              refine zk_st hf_N62_.x (pc := 96) (o := 32) (by decide) l_Units_40 ((hf_N62_.w hW).kr (o := 31) (by decide)) ((hf_N62_.w hW).lr (o := 31) (s := 0) (r := 32) (by decide)) ((hf_N62_.w hW).rr (o := 32) (t := 1) (n := 24) (by decide)) (by decide) (by omega) (by omega) (by decide) (Nat.le_of_ble_eq_true rfl) (zdal_p dlB_Units_narrowAt_84 (i := 3) rfl) (fun N70_ hN70_ hsN70_ => ?_)
              have hf_N70_ : zFc d_ [] [] [(28, 3)] [11, 30, 32] Mz N70_ := hf_N62_.tr hsN70_ (by decide) (by decide) (by decide) (by decide)
              have hb0_N70_ : zFc d_ [] [] [] [11, 32] Mz N70_ := hb0_N62_.tr hsN70_ (by decide) (by decide) (by decide) (by decide)
              have eD1_7_N70_ : ze N70_ (d_ + 1) 7 = ze N62_ (d_ + 1) 7 := hsN70_.e (by decide)
              have c71_ : zTt T_ d_ N70_ := zTt.fr (hf_N62_.w hW) hsN70_ c64_ (by decide)
              have c72_ : zFir T_ d_ N70_ := zFir.fr (hf_N62_.w hW) hsN70_ c65_ (by decide)
              have c73_ : zSbK T_ d_ N70_ := zSbK.fr (hf_N62_.w hW) hsN70_ c66_ (by decide)
              have c74_ : zNw S_ d_ N70_ := zNw.fr (hf_N62_.w hW) hsN70_ c67_ (by decide)
              have hjd_ := zJn_s hjn_ (by omega) (by omega) hur_ rfl (fun i_ hi_ => zs_oth hN70_ (j := i_) (by omega)) ((zs_get hN70_ ⟨by omega, by omega⟩).trans hbo_)
              refine zr_iinc (pc := 99) (i := 6) (a := u5_) (n := 1) (L2 := [some (.ref (d_ + 28)), some (.int (Int32.ofInt a0_)), some (.ref (d_ + 1)), some (.int (Int32.ofInt v1_)), some (.int (Int32.ofInt (zor u4_ (zshl 1 u5_)))), some (.int (Int32.ofInt v3_)), some (.int (Int32.ofInt (u5_ + 1))), none, none]) rfl (by decide) rfl (zdal_p dlB_Units_narrowAt_84 (i := 4) rfl) ?_
              refine zw_goto (pc := 102) (tgt := 33) (by decide) (zdal_p dlB_Units_narrowAt_84 (i := 5) rfl) ?_
              have hjs_ : zJn T_ (a0_).toNat (zor u4_ (zshl 1 u5_)) d_ N70_ (u5_ + 1) := by first | exact hjd_ | exact zJn_n hjn_ (by omega) (fun q_ => hng_ q_.2.1) | exact zJn_n hjn_ (by omega) (fun q_ => by have h_ := q_.2.2; omega)
              exact ih_33 (zor u4_ (zshl 1 u5_)) (by omega) (by omega) (u5_ + 1) (by omega) (by omega) N70_ hb0_N70_ (show 0 ≤ (u5_ + 1) by first | with_reducible assumption | assumption | omega) (show (u5_ + 1) ≤ gN T_ by first | with_reducible assumption | assumption | omega) (show zJn T_ (a0_).toNat (zor u4_ (zshl 1 u5_)) d_ N70_ (u5_ + 1) by exact hjs_) (by omega)
        · skip
          have hng_ : ¬ gtr T_ (gFn T_ (a0_).toNat) (u5_).toNat = (gFn T_ (a0_).toNat) := fun q_ => ha46_0_hp0_N54_ ((norm_in hnm_ (by omega)).mpr q_)
          show zW l m_Units_narrowAt (zn Mz + 0, zw Mz + 0) N6_ 49 [some (.ref (d_ + 28)), some (.int (Int32.ofInt a0_)), some (.ref (d_ + 1)), some (.int (Int32.ofInt v1_)), some (.int (Int32.ofInt u4_)), some (.int (Int32.ofInt v3_)), some (.int (Int32.ofInt u5_)), none, none] [.int (Int32.ofInt 0)] _
          refine zr_if_eq (pc := 49) (tgt := 99) ⟨(by decide), (by decide)⟩ (by decide) (zdal_p dlB_Units_narrowAt_83 (i := 1) rfl) (fun hc_49 => ?_) (fun hc_49 => ?_)
          · skip
            refine zr_iinc (pc := 99) (i := 6) (a := u5_) (n := 1) (L2 := [some (.ref (d_ + 28)), some (.int (Int32.ofInt a0_)), some (.ref (d_ + 1)), some (.int (Int32.ofInt v1_)), some (.int (Int32.ofInt u4_)), some (.int (Int32.ofInt v3_)), some (.int (Int32.ofInt (u5_ + 1))), none, none]) rfl (by decide) rfl (zdal_p dlB_Units_narrowAt_84 (i := 4) rfl) ?_
            refine zw_goto (pc := 102) (tgt := 33) (by decide) (zdal_p dlB_Units_narrowAt_84 (i := 5) rfl) ?_
            have hjs_ : zJn T_ (a0_).toNat u4_ d_ N6_ (u5_ + 1) := by first | exact hjd_ | exact zJn_n hjn_ (by omega) (fun q_ => hng_ q_.2.1) | exact zJn_n hjn_ (by omega) (fun q_ => by have h_ := q_.2.2; omega)
            exact ih_33 u4_ hu4_a hu4_b (u5_ + 1) (by omega) (by omega) N6_ hs7_ (show 0 ≤ (u5_ + 1) by first | with_reducible assumption | assumption | omega) (show (u5_ + 1) ≤ gN T_ by first | with_reducible assumption | assumption | omega) (show zJn T_ (a0_).toNat u4_ d_ N6_ (u5_ + 1) by exact hjs_) (by omega)
          · skip
            exact absurd hc_49 (by decide)
  exact lp_33 _ 0 (by decide) (by decide) 0 (by decide) (by decide) Mz zFc.rf (show 0 ≤ (0 : Int) by first | with_reducible assumption | assumption | omega) (show (0 : Int) ≤ gN T_ by first | with_reducible assumption | assumption | omega) (show zJn T_ (a0_).toNat (0 : Int) d_ Mz (0 : Int) by exact zJn_0) (Nat.lt_succ_self _)
set_option maxHeartbeats 4000000 in
theorem u_Units_straightenU (l : Launch) (d_ : Nat) (Mz : zMem) (hW : zKW d_ Mz) (T_ : zGT) (hT_ : T_ ∈ gTabs) (S_ : Nat → Prop) (hS_ : ∀ x, S_ x → x < 2 ^ (gF T_).length) (p0_ : zFir T_ d_ Mz) (p1_ : zNw S_ d_ Mz) : zC l m_Units_straighten 0 0 [.ref (d_ + 28)] Mz (zqcV d_ [] [] [] [30] Mz (fun N => (zUf S_ d_ N))) := by
  refine zC_of (L0 := [some (.ref (d_ + 28)), none, none, none, none, none]) md_Units_straighten (Nat.le_of_ble_eq_true rfl) rfl ?_ zQ0
  have hf : zFc d_ [] [] [] [30] Mz Mz := zFc.rf
  have r_D12_7 := ze_r Mz (d_ + 12) 7
  have r_D28_3 := ze_r Mz (d_ + 28) 3
  have hO_ := gTabs_ok T_ hT_
  have hG_ := hO_.1
  have hn24_ := hG_.2.1
  have hn1_ := hG_.1
  have hfl_ := p0_.1
  obtain ⟨⟨hF1_, hF27_⟩, hAr_⟩ := id (gT_zTA hT_)
  have hm_ := p1_.1
  refine zw_iconst (pc := 0) (v := Int32.ofInt 0) (by decide) (zdal_p dlB_Units_straighten_91 (i := 0) rfl) ?_
  refine zw_istore_n (pc := 1) (i := 1) (L2 := [some (.ref (d_ + 28)), some (.int (Int32.ofInt 0)), none, none, none, none]) rfl (by decide) rfl (zdal_p dlB_Units_straighten_91 (i := 1) rfl) ?_
  refine zw_iconst (pc := 2) (v := Int32.ofInt 0) (by decide) (zdal_p dlB_Units_straighten_91 (i := 2) rfl) ?_
  refine zw_istore_n (pc := 3) (i := 2) (L2 := [some (.ref (d_ + 28)), some (.int (Int32.ofInt 0)), some (.int (Int32.ofInt 0)), none, none, none]) rfl (by decide) rfl (zdal_p dlB_Units_straighten_91 (i := 3) rfl) ?_
  have lp_4 : ∀ (n : Nat) (u1_ : Int) (hu1_a : -2147483648 ≤ u1_) (hu1_b : u1_ < 2147483648) (u2_ : Int) (hu2_a : -2147483648 ≤ u2_) (hu2_b : u2_ < 2147483648) (N3_ : zMem) (hs4_ : zFc d_ [] [] [] [30] Mz N3_) (i5_ : 0 ≤ u2_) (i6_ : u2_ ≤ ((gF T_).length : Int)) (i7_ : 0 ≤ u1_ ∧ u1_ ≤ ze Mz (d_ + 28) 3) (i8_ : zyT S_ (gF T_).length u2_ u1_ d_ N3_), (((gF T_).length : Int) - u2_).toNat < n → zW l m_Units_straighten (zn Mz + 0, zw Mz + 0) N3_ 4 [some (.ref (d_ + 28)), some (.int (Int32.ofInt u1_)), some (.int (Int32.ofInt u2_)), none, none, none] [] (zqcV d_ [] [] [] [30] Mz (fun N => (zUf S_ d_ N))) := by
    intro n
    induction n with
    | zero =>
      intro u1_ hu1_a hu1_b u2_ hu2_a hu2_b N3_ hs4_ i5_ i6_ i7_ i8_ h0
      exact absurd h0 (Nat.not_lt_zero _)
    | succ n ih_4 =>
      intro u1_ hu1_a hu1_b u2_ hu2_a hu2_b N3_ hs4_ i5_ i6_ i7_ i8_ hlt_4
      have hf_N3_ : zFc d_ [] [] [] [30] Mz N3_ := hf.tr hs4_ (by decide) (by decide) (by decide) (by decide)
      have eD12_7_N3_ : ze N3_ (d_ + 12) 7 = ze Mz (d_ + 12) 7 := hs4_.e (by decide)
      have eD28_3_N3_ : ze N3_ (d_ + 28) 3 = ze Mz (d_ + 28) 3 := hs4_.e (by decide)
      have c9_ : zFir T_ d_ N3_ := zFir.fr (hf.w hW) hs4_ p0_ (by decide)
      have hst_ := (show zyT S_ (gF T_).length u2_ u1_ d_ N3_ by first | with_reducible assumption | assumption)
      refine zw_iload_n (pc := 4) (n := 2) (x := Int32.ofInt u2_) rfl (zdal_p dlB_Units_straighten_91 (i := 4) rfl) ?_
      refine zw_aload_n (pc := 5) (n := 0) (x := (d_ + 28)) rfl (zdal_p dlB_Units_straighten_91 (i := 5) rfl) ?_
      refine zw_getF (pc := 6) f_Units_23 rfl ((hf_N3_.w hW).kr (o := 28) (by decide)) ((hf_N3_.w hW).lr (o := 28) (s := 0) (r := 12) (by decide)) (zdal_p dlB_Units_straighten_91 (i := 6) rfl) ?_
      refine zk_getI (pc := 9) f_Units_35 rfl ((hf_N3_.w hW).kr (o := 12) (by decide)) (zdal_p dlB_Units_straighten_91 (i := 7) rfl) ?_
      rw [hf_N3_.e (by decide)]
      refine zr_icmp_ge (pc := 12) (tgt := 167) ⟨hu2_a, hu2_b⟩ ⟨(ze_r Mz (d_ + 12) 7).1, (ze_r Mz (d_ + 12) 7).2⟩ (by decide) (zdal_p dlB_Units_straighten_91 (i := 8) rfl) (fun hc_12 => ?_) (fun hc_12 => ?_)
      · skip
        exact zk_vret (pc := 167) rfl hf_N3_ (show (zUf S_ d_ N3_) by exact zyT_e hst_ (by omega)) (zdal_p dlB_Units_straighten_94 (i := 10) rfl)
      · skip
        refine zw_iload_n (pc := 15) (n := 1) (x := Int32.ofInt u1_) rfl (zdal_p dlB_Units_straighten_91 (i := 9) rfl) ?_
        refine zw_istore_n (pc := 16) (i := 3) (L2 := [some (.ref (d_ + 28)), some (.int (Int32.ofInt u1_)), some (.int (Int32.ofInt u2_)), some (.int (Int32.ofInt u1_)), none, none]) rfl (by decide) rfl (zdal_p dlB_Units_straighten_91 (i := 10) rfl) ?_
        have lp_17 : ∀ (n : Nat) (u10_ : Int) (hu10_a : -2147483648 ≤ u10_) (hu10_b : u10_ < 2147483648) (i11_ : u1_ ≤ u10_) (i12_ : u10_ ≤ ze Mz (d_ + 28) 3) (i13_ : (∀ i : Nat, u1_ ≤ i → (i : Int) < u10_ → (zub d_ N3_ i).testBit (((gF T_).length : Int) - 1 - u2_).toNat = false)), (ze Mz (d_ + 28) 3 - u10_).toNat < n → zW l m_Units_straighten (zn Mz + 0, zw Mz + 0) N3_ 17 [some (.ref (d_ + 28)), some (.int (Int32.ofInt u1_)), some (.int (Int32.ofInt u2_)), some (.int (Int32.ofInt u10_)), none, none] [] (zqcV d_ [] [] [] [30] Mz (fun N => (zUf S_ d_ N))) := by
          intro n
          induction n with
          | zero =>
            intro u10_ hu10_a hu10_b i11_ i12_ i13_ h0
            exact absurd h0 (Nat.not_lt_zero _)
          | succ n ih_17 =>
            intro u10_ hu10_a hu10_b i11_ i12_ i13_ hlt_17
            have hno_ := (show (∀ i : Nat, u1_ ≤ i → (i : Int) < u10_ → (zub d_ N3_ i).testBit (((gF T_).length : Int) - 1 - u2_).toNat = false) by first | with_reducible assumption | assumption)
            refine zw_iload_n (pc := 17) (n := 3) (x := Int32.ofInt u10_) rfl (zdal_p dlB_Units_straighten_91 (i := 11) rfl) ?_
            refine zw_aload_n (pc := 18) (n := 0) (x := (d_ + 28)) rfl (zdal_p dlB_Units_straighten_91 (i := 12) rfl) ?_
            refine zk_getI (pc := 19) f_Units_31 rfl ((hf_N3_.w hW).kr (o := 28) (by decide)) (zdal_p dlB_Units_straighten_91 (i := 13) rfl) ?_
            rw [hf_N3_.e (by decide)]
            have j_48 : ∀ (i14_ : u1_ ≤ u10_) (i15_ : u10_ ≤ ze Mz (d_ + 28) 3) (i16_ : ((u10_ = ze Mz (d_ + 28) 3 ∧ (∀ i : Nat, u1_ ≤ i → (i : Int) < u10_ → (zub d_ N3_ i).testBit (((gF T_).length : Int) - 1 - u2_).toNat = false)) ∨ (u10_ < ze Mz (d_ + 28) 3 ∧ (zub d_ N3_ (u10_).toNat).testBit (((gF T_).length : Int) - 1 - u2_).toNat = true))), zW l m_Units_straighten (zn Mz + 0, zw Mz + 0) N3_ 48 [some (.ref (d_ + 28)), some (.int (Int32.ofInt u1_)), some (.int (Int32.ofInt u2_)), some (.int (Int32.ofInt u10_)), none, none] [] (zqcV d_ [] [] [] [30] Mz (fun N => (zUf S_ d_ N))) := by
              intro i14_ i15_ i16_
              have hj48_ := (show ((u10_ = ze Mz (d_ + 28) 3 ∧ (∀ i : Nat, u1_ ≤ i → (i : Int) < u10_ → (zub d_ N3_ i).testBit (((gF T_).length : Int) - 1 - u2_).toNat = false)) ∨ (u10_ < ze Mz (d_ + 28) 3 ∧ (zub d_ N3_ (u10_).toNat).testBit (((gF T_).length : Int) - 1 - u2_).toNat = true)) by first | with_reducible assumption | assumption)
              refine zw_iload_n (pc := 48) (n := 3) (x := Int32.ofInt u10_) rfl (zdal_p dlB_Units_straighten_92 (i := 2) rfl) ?_
              refine zw_aload_n (pc := 49) (n := 0) (x := (d_ + 28)) rfl (zdal_p dlB_Units_straighten_92 (i := 3) rfl) ?_
              refine zk_getI (pc := 50) f_Units_31 rfl ((hf_N3_.w hW).kr (o := 28) (by decide)) (zdal_p dlB_Units_straighten_92 (i := 4) rfl) ?_
              rw [hf_N3_.e (by decide)]
              refine zr_icmp_lt (pc := 53) (tgt := 59) ⟨hu10_a, hu10_b⟩ ⟨(ze_r Mz (d_ + 28) 3).1, (ze_r Mz (d_ + 28) 3).2⟩ (by decide) (zdal_p dlB_Units_straighten_92 (i := 5) rfl) (fun hc_53 => ?_) (fun hc_53 => ?_)
              · skip
                have hbit_ : (zub d_ N3_ (u10_).toNat).testBit (((gF T_).length : Int) - 1 - u2_).toNat = true := by rcases hj48_ with q_ | q_; (exfalso; omega); exact q_.2
                refine zw_aload_n (pc := 59) (n := 0) (x := (d_ + 28)) rfl (zdal_p dlB_Units_straighten_92 (i := 7) rfl) ?_
                refine zw_getF (pc := 60) f_Units_14 rfl ((hf_N3_.w hW).kr (o := 28) (by decide)) ((hf_N3_.w hW).lr (o := 28) (s := 1) (r := 29) (by decide)) (zdal_p dlB_Units_straighten_92 (i := 8) rfl) ?_
                refine zw_iload_n (pc := 63) (n := 3) (x := Int32.ofInt u10_) rfl (zdal_p dlB_Units_straighten_92 (i := 9) rfl) ?_
                have hv3_ := hu10_
                refine zk_at hf_N3_.x (pc := 64) l_Units_57 ((hf_N3_.w hW).kr (o := 29) (by decide)) ((hf_N3_.w hW).lr (o := 29) (s := 0) (r := 30) (by decide)) ((hf_N3_.w hW).rr (o := 30) (t := 1) (n := 27) (by decide)) (by decide) (by omega) (by omega) (by decide) (Nat.le_of_ble_eq_true rfl) (zdal_p dlB_Units_straighten_92 (i := 10) rfl) (fun v17_ hv17_ hv17_a hv17_b => ?_)
                refine zw_istore (pc := 67) (i := 4) (L2 := [some (.ref (d_ + 28)), some (.int (Int32.ofInt u1_)), some (.int (Int32.ofInt u2_)), some (.int (Int32.ofInt u10_)), some (.int (Int32.ofInt v17_)), none]) (by decide) rfl (zdal_p dlB_Units_straighten_92 (i := 11) rfl) ?_
                refine zw_aload_n (pc := 69) (n := 0) (x := (d_ + 28)) rfl (zdal_p dlB_Units_straighten_92 (i := 12) rfl) ?_
                refine zw_getF (pc := 70) f_Units_14 rfl ((hf_N3_.w hW).kr (o := 28) (by decide)) ((hf_N3_.w hW).lr (o := 28) (s := 1) (r := 29) (by decide)) (zdal_p dlB_Units_straighten_92 (i := 13) rfl) ?_
                refine zw_iload_n (pc := 73) (n := 3) (x := Int32.ofInt u10_) rfl (zdal_p dlB_Units_straighten_92 (i := 14) rfl) ?_
                refine zw_aload_n (pc := 74) (n := 0) (x := (d_ + 28)) rfl (zdal_p dlB_Units_straighten_92 (i := 15) rfl) ?_
                refine zw_getF (pc := 75) f_Units_14 rfl ((hf_N3_.w hW).kr (o := 28) (by decide)) ((hf_N3_.w hW).lr (o := 28) (s := 1) (r := 29) (by decide)) (zdal_p dlB_Units_straighten_92 (i := 16) rfl) ?_
                refine zw_iload_n (pc := 78) (n := 1) (x := Int32.ofInt u1_) rfl (zdal_p dlB_Units_straighten_92 (i := 17) rfl) ?_
                refine zk_at hf_N3_.x (pc := 79) l_Units_57 ((hf_N3_.w hW).kr (o := 29) (by decide)) ((hf_N3_.w hW).lr (o := 29) (s := 0) (r := 30) (by decide)) ((hf_N3_.w hW).rr (o := 30) (t := 1) (n := 27) (by decide)) (by decide) (by omega) (by omega) (by decide) (Nat.le_of_ble_eq_true rfl) (zdal_p dlB_Units_straighten_92 (i := 18) rfl) (fun v18_ hv18_ hv18_a hv18_b => ?_)
                have hv1_ := hv18_
                refine zk_st hf_N3_.x (pc := 82) (o := 30) (by decide) l_Units_40 ((hf_N3_.w hW).kr (o := 29) (by decide)) ((hf_N3_.w hW).lr (o := 29) (s := 0) (r := 30) (by decide)) ((hf_N3_.w hW).rr (o := 30) (t := 1) (n := 27) (by decide)) (by decide) (by omega) (by omega) (by decide) (Nat.le_of_ble_eq_true rfl) (zdal_p dlB_Units_straighten_92 (i := 19) rfl) (fun N19_ hN19_ hsN19_ => ?_)
                have hf_N19_ : zFc d_ [] [] [] [30] Mz N19_ := hf_N3_.tr hsN19_ (by decide) (by decide) (by decide) (by decide)
                have hb0_N19_ : zFc d_ [] [] [] [30] Mz N19_ := hs4_.tr hsN19_ (by decide) (by decide) (by decide) (by decide)
                have eD12_7_N19_ : ze N19_ (d_ + 12) 7 = ze N3_ (d_ + 12) 7 := hsN19_.e (by decide)
                have eD28_3_N19_ : ze N19_ (d_ + 28) 3 = ze N3_ (d_ + 28) 3 := hsN19_.e (by decide)
                have c20_ : zFir T_ d_ N19_ := zFir.fr (hf_N3_.w hW) hsN19_ c9_ (by decide)
                refine zw_aload_n (pc := 85) (n := 0) (x := (d_ + 28)) rfl (zdal_p dlB_Units_straighten_92 (i := 20) rfl) ?_
                refine zw_getF (pc := 86) f_Units_14 rfl ((hf_N19_.w hW).kr (o := 28) (by decide)) ((hf_N19_.w hW).lr (o := 28) (s := 1) (r := 29) (by decide)) (zdal_p dlB_Units_straighten_92 (i := 21) rfl) ?_
                refine zw_iload_n (pc := 89) (n := 1) (x := Int32.ofInt u1_) rfl (zdal_p dlB_Units_straighten_92 (i := 22) rfl) ?_
                refine zw_iload (pc := 90) (i := 4) (x := Int32.ofInt v17_) rfl (zdal_p dlB_Units_straighten_92 (i := 23) rfl) ?_
                refine zk_st hf_N19_.x (pc := 92) (o := 30) (by decide) l_Units_40 ((hf_N19_.w hW).kr (o := 29) (by decide)) ((hf_N19_.w hW).lr (o := 29) (s := 0) (r := 30) (by decide)) ((hf_N19_.w hW).rr (o := 30) (t := 1) (n := 27) (by decide)) (by decide) (by omega) (by omega) (by decide) (Nat.le_of_ble_eq_true rfl) (zdal_p dlB_Units_straighten_93 (i := 0) rfl) (fun N21_ hN21_ hsN21_ => ?_)
                have hf_N21_ : zFc d_ [] [] [] [30] Mz N21_ := hf_N19_.tr hsN21_ (by decide) (by decide) (by decide) (by decide)
                have hb0_N21_ : zFc d_ [] [] [] [30] Mz N21_ := hb0_N19_.tr hsN21_ (by decide) (by decide) (by decide) (by decide)
                have eD12_7_N21_ : ze N21_ (d_ + 12) 7 = ze N19_ (d_ + 12) 7 := hsN21_.e (by decide)
                have eD28_3_N21_ : ze N21_ (d_ + 28) 3 = ze N19_ (d_ + 28) 3 := hsN21_.e (by decide)
                have c22_ : zFir T_ d_ N21_ := zFir.fr (hf_N19_.w hW) hsN21_ c20_ (by decide)
                have hrw_ := zsw2 (k := u1_) (c := u10_) hN19_ hN21_ ⟨by omega, by omega⟩ ⟨by omega, by omega⟩ hv1_ hv3_ (by omega) (by omega)
                have hq0_ := zSq_0 hst_ ⟨by omega, by omega⟩ hbit_ (by omega) hrw_
                have hr0_ : v17_ = ze N21_ (d_ + 30) (u1_).toNat := (zs_get hN21_ ⟨by omega, by omega⟩).symm
                refine zw_iconst (pc := 95) (v := Int32.ofInt 0) (by decide) (zdal_p dlB_Units_straighten_93 (i := 1) rfl) ?_
                refine zw_istore (pc := 96) (i := 5) (L2 := [some (.ref (d_ + 28)), some (.int (Int32.ofInt u1_)), some (.int (Int32.ofInt u2_)), some (.int (Int32.ofInt u10_)), some (.int (Int32.ofInt v17_)), some (.int (Int32.ofInt 0))]) (by decide) rfl (zdal_p dlB_Units_straighten_93 (i := 2) rfl) ?_
                have lp_98 : ∀ (n : Nat) (u23_ : Int) (hu23_a : -2147483648 ≤ u23_) (hu23_b : u23_ < 2147483648) (N24_ : zMem) (hs25_ : zFc d_ [] [] [] [30] N21_ N24_) (i26_ : 0 ≤ u23_) (i27_ : u23_ ≤ ze Mz (d_ + 28) 3) (i28_ : zSq S_ (gF T_).length u2_ u1_ u23_ d_ N24_) (i29_ : v17_ = ze N24_ (d_ + 30) (u1_).toNat), (ze Mz (d_ + 28) 3 - u23_).toNat < n → zW l m_Units_straighten (zn Mz + 0, zw Mz + 0) N24_ 98 [some (.ref (d_ + 28)), some (.int (Int32.ofInt u1_)), some (.int (Int32.ofInt u2_)), some (.int (Int32.ofInt u10_)), some (.int (Int32.ofInt v17_)), some (.int (Int32.ofInt u23_))] [] (zqcV d_ [] [] [] [30] Mz (fun N => (zUf S_ d_ N))) := by
                  intro n
                  induction n with
                  | zero =>
                    intro u23_ hu23_a hu23_b N24_ hs25_ i26_ i27_ i28_ i29_ h0
                    exact absurd h0 (Nat.not_lt_zero _)
                  | succ n ih_98 =>
                    intro u23_ hu23_a hu23_b N24_ hs25_ i26_ i27_ i28_ i29_ hlt_98
                    have hf_N24_ : zFc d_ [] [] [] [30] Mz N24_ := hf_N21_.tr hs25_ (by decide) (by decide) (by decide) (by decide)
                    have hb0_N24_ : zFc d_ [] [] [] [30] Mz N24_ := hb0_N21_.tr hs25_ (by decide) (by decide) (by decide) (by decide)
                    have eD12_7_N24_ : ze N24_ (d_ + 12) 7 = ze N21_ (d_ + 12) 7 := hs25_.e (by decide)
                    have eD28_3_N24_ : ze N24_ (d_ + 28) 3 = ze N21_ (d_ + 28) 3 := hs25_.e (by decide)
                    have c30_ : zFir T_ d_ N24_ := zFir.fr (hf_N21_.w hW) hs25_ c22_ (by decide)
                    have hsq_ := (show zSq S_ (gF T_).length u2_ u1_ u23_ d_ N24_ by first | with_reducible assumption | assumption)
                    have hr4_ := (show v17_ = ze N24_ (d_ + 30) (u1_).toNat by first | with_reducible assumption | assumption)
                    refine zw_iload (pc := 98) (i := 5) (x := Int32.ofInt u23_) rfl (zdal_p dlB_Units_straighten_93 (i := 3) rfl) ?_
                    refine zw_aload_n (pc := 100) (n := 0) (x := (d_ + 28)) rfl (zdal_p dlB_Units_straighten_93 (i := 4) rfl) ?_
                    refine zk_getI (pc := 101) f_Units_31 rfl ((hf_N24_.w hW).kr (o := 28) (by decide)) (zdal_p dlB_Units_straighten_93 (i := 5) rfl) ?_
                    rw [hf_N24_.e (by decide)]
                    refine zr_icmp_ge (pc := 104) (tgt := 158) ⟨hu23_a, hu23_b⟩ ⟨(ze_r Mz (d_ + 28) 3).1, (ze_r Mz (d_ + 28) 3).2⟩ (by decide) (zdal_p dlB_Units_straighten_93 (i := 6) rfl) (fun hc_104 => ?_) (fun hc_104 => ?_)
                    · skip
                      refine zr_iinc (pc := 158) (i := 1) (a := u1_) (n := 1) (L2 := [some (.ref (d_ + 28)), some (.int (Int32.ofInt (u1_ + 1))), some (.int (Int32.ofInt u2_)), some (.int (Int32.ofInt u10_)), some (.int (Int32.ofInt v17_)), some (.int (Int32.ofInt u23_))]) rfl (by decide) rfl (zdal_p dlB_Units_straighten_94 (i := 7) rfl) ?_
                      refine zr_iinc (pc := 161) (i := 2) (a := u2_) (n := 1) (L2 := [some (.ref (d_ + 28)), some (.int (Int32.ofInt (u1_ + 1))), some (.int (Int32.ofInt (u2_ + 1))), some (.int (Int32.ofInt u10_)), some (.int (Int32.ofInt v17_)), some (.int (Int32.ofInt u23_))]) rfl (by decide) rfl (zdal_p dlB_Units_straighten_94 (i := 8) rfl) ?_
                      refine zw_goto (pc := 164) (tgt := 4) (by decide) (zdal_p dlB_Units_straighten_94 (i := 9) rfl) ?_
                      have hsb_ : zyT S_ (gF T_).length (u2_ + 1) (u1_ + 1) d_ N24_ := by first | exact zSq_e hsq_ ⟨by omega, by omega⟩ (by omega) | exact zyT_n hst_ (by omega) hnn_
                      refine zW_le [some (.ref (d_ + 28)), some (.int (Int32.ofInt (u1_ + 1))), some (.int (Int32.ofInt (u2_ + 1))), none, none, none] (⟨rfl, rfl, rfl, trivial⟩) ?_
                      exact ih_4 (u1_ + 1) (by omega) (by omega) (u2_ + 1) (by omega) (by omega) N24_ hb0_N24_ (show 0 ≤ (u2_ + 1) by first | with_reducible assumption | assumption | omega) (show (u2_ + 1) ≤ ((gF T_).length : Int) by first | with_reducible assumption | assumption | omega) (show 0 ≤ (u1_ + 1) ∧ (u1_ + 1) ≤ ze Mz (d_ + 28) 3 by first | with_reducible assumption | assumption | omega) (show zyT S_ (gF T_).length (u2_ + 1) (u1_ + 1) d_ N24_ by exact hsb_) (by omega)
                    · skip
                      refine zw_iload (pc := 107) (i := 5) (x := Int32.ofInt u23_) rfl (zdal_p dlB_Units_straighten_93 (i := 7) rfl) ?_
                      refine zw_iload_n (pc := 109) (n := 1) (x := Int32.ofInt u1_) rfl (zdal_p dlB_Units_straighten_93 (i := 8) rfl) ?_
                      refine zr_icmp_eq (pc := 110) (tgt := 152) ⟨hu23_a, hu23_b⟩ ⟨hu1_a, hu1_b⟩ (by decide) (zdal_p dlB_Units_straighten_93 (i := 9) rfl) (fun hc_110 => ?_) (fun hc_110 => ?_)
                      · skip
                        refine zr_iinc (pc := 152) (i := 5) (a := u23_) (n := 1) (L2 := [some (.ref (d_ + 28)), some (.int (Int32.ofInt u1_)), some (.int (Int32.ofInt u2_)), some (.int (Int32.ofInt u10_)), some (.int (Int32.ofInt v17_)), some (.int (Int32.ofInt (u23_ + 1)))]) rfl (by decide) rfl (zdal_p dlB_Units_straighten_94 (i := 5) rfl) ?_
                        refine zw_goto (pc := 155) (tgt := 98) (by decide) (zdal_p dlB_Units_straighten_94 (i := 6) rfl) ?_
                        have hsb_ : zSq S_ (gF T_).length u2_ u1_ (u23_ + 1) d_ N24_ := by first | exact hsn_ | exact zSq_k hsq_ (by omega) (Or.inl (by omega)) | exact zSq_k hsq_ (by omega) (Or.inr (hbt_.mp (by omega)))
                        exact ih_98 (u23_ + 1) (by omega) (by omega) N24_ hs25_ (show 0 ≤ (u23_ + 1) by first | with_reducible assumption | assumption | omega) (show (u23_ + 1) ≤ ze Mz (d_ + 28) 3 by first | with_reducible assumption | assumption | omega) (show zSq S_ (gF T_).length u2_ u1_ (u23_ + 1) d_ N24_ by exact hsb_) (show v17_ = ze N24_ (d_ + 30) (u1_).toNat by first | exact hr5_ | exact hr4_) (by omega)
                      · skip
                        refine zw_aload_n (pc := 113) (n := 0) (x := (d_ + 28)) rfl (zdal_p dlB_Units_straighten_93 (i := 10) rfl) ?_
                        refine zw_getF (pc := 114) f_Units_14 rfl ((hf_N24_.w hW).kr (o := 28) (by decide)) ((hf_N24_.w hW).lr (o := 28) (s := 1) (r := 29) (by decide)) (zdal_p dlB_Units_straighten_93 (i := 11) rfl) ?_
                        refine zw_iload (pc := 117) (i := 5) (x := Int32.ofInt u23_) rfl (zdal_p dlB_Units_straighten_93 (i := 12) rfl) ?_
                        refine zk_at hf_N24_.x (pc := 119) l_Units_57 ((hf_N24_.w hW).kr (o := 29) (by decide)) ((hf_N24_.w hW).lr (o := 29) (s := 0) (r := 30) (by decide)) ((hf_N24_.w hW).rr (o := 30) (t := 1) (n := 27) (by decide)) (by decide) (by omega) (by omega) (by decide) (Nat.le_of_ble_eq_true rfl) (zdal_p dlB_Units_straighten_93 (i := 13) rfl) (fun v31_ hv31_ hv31_a hv31_b => ?_)
                        refine zw_aload_n (pc := 122) (n := 0) (x := (d_ + 28)) rfl (zdal_p dlB_Units_straighten_93 (i := 14) rfl) ?_
                        refine zw_iload_n (pc := 123) (n := 2) (x := Int32.ofInt u2_) rfl (zdal_p dlB_Units_straighten_93 (i := 15) rfl) ?_
                        refine zk_callV hf_N24_.x (pc := 124) [.int (Int32.ofInt u2_)] [.int (Int32.ofInt v31_)] l_Units_80 (u_Units_bitOfU l d_ N24_ (hf_N24_.w hW) u2_ hu2_a hu2_b T_ hT_ c30_ (show 0 ≤ u2_ by first | with_reducible assumption | assumption | omega) (show u2_ < ((gF T_).length : Int) by first | with_reducible assumption | assumption | omega)) rfl rfl ((hf_N24_.w hW).kr (o := 28) (by decide)) (by decide) (by decide) (Nat.le_of_ble_eq_true rfl) (zdal_p dlB_Units_straighten_93 (i := 16) rfl) ?_
                        rintro _ N32_ ⟨v33_, rfl, ⟨hv33_a, hv33_b⟩, hsN32_, ⟨hp0_N32_, hp1_N32_, hp2_N32_⟩⟩
                        obtain rfl := hsN32_.eq.symm
                        show zW l m_Units_straighten (zn Mz + 0, zw Mz + 0) N24_ 127 [some (.ref (d_ + 28)), some (.int (Int32.ofInt u1_)), some (.int (Int32.ofInt u2_)), some (.int (Int32.ofInt u10_)), some (.int (Int32.ofInt v17_)), some (.int (Int32.ofInt u23_))] [.int (Int32.ofInt v33_), .int (Int32.ofInt v31_)] _
                        have hbo_ := hp0_N32_
                        refine zr_iand (pc := 127) (zdal_p dlB_Units_straighten_93 (i := 17) rfl) ?_
                        have hr34_ := zand_r v31_ v33_
                        have hbt_ := zubt (F := (gF T_).length) (s := u2_) hrg_ hF27_ ⟨by omega, by omega⟩ hbo_ hzu_
                        refine zr_if_eq (pc := 128) (tgt := 152) ⟨(by omega), (by omega)⟩ (by decide) (zdal_p dlB_Units_straighten_93 (i := 18) rfl) (fun hc_128 => ?_) (fun hc_128 => ?_)
                        · skip
                          refine zr_iinc (pc := 152) (i := 5) (a := u23_) (n := 1) (L2 := [some (.ref (d_ + 28)), some (.int (Int32.ofInt u1_)), some (.int (Int32.ofInt u2_)), some (.int (Int32.ofInt u10_)), some (.int (Int32.ofInt v17_)), some (.int (Int32.ofInt (u23_ + 1)))]) rfl (by decide) rfl (zdal_p dlB_Units_straighten_94 (i := 5) rfl) ?_
                          refine zw_goto (pc := 155) (tgt := 98) (by decide) (zdal_p dlB_Units_straighten_94 (i := 6) rfl) ?_
                          have hsb_ : zSq S_ (gF T_).length u2_ u1_ (u23_ + 1) d_ N24_ := by first | exact hsn_ | exact zSq_k hsq_ (by omega) (Or.inl (by omega)) | exact zSq_k hsq_ (by omega) (Or.inr (hbt_.mp (by omega)))
                          exact ih_98 (u23_ + 1) (by omega) (by omega) N24_ hs25_ (show 0 ≤ (u23_ + 1) by first | with_reducible assumption | assumption | omega) (show (u23_ + 1) ≤ ze Mz (d_ + 28) 3 by first | with_reducible assumption | assumption | omega) (show zSq S_ (gF T_).length u2_ u1_ (u23_ + 1) d_ N24_ by exact hsb_) (show v17_ = ze N24_ (d_ + 30) (u1_).toNat by first | exact hr5_ | exact hr4_) (by omega)
                        · skip
                          refine zw_aload_n (pc := 131) (n := 0) (x := (d_ + 28)) rfl (zdal_p dlB_Units_straighten_93 (i := 19) rfl) ?_
                          refine zw_getF (pc := 132) f_Units_14 rfl ((hf_N24_.w hW).kr (o := 28) (by decide)) ((hf_N24_.w hW).lr (o := 28) (s := 1) (r := 29) (by decide)) (zdal_p dlB_Units_straighten_93 (i := 20) rfl) ?_
                          refine zw_iload (pc := 135) (i := 5) (x := Int32.ofInt u23_) rfl (zdal_p dlB_Units_straighten_93 (i := 21) rfl) ?_
                          refine zw_aload_n (pc := 137) (n := 0) (x := (d_ + 28)) rfl (zdal_p dlB_Units_straighten_93 (i := 22) rfl) ?_
                          refine zw_getF (pc := 138) f_Units_14 rfl ((hf_N24_.w hW).kr (o := 28) (by decide)) ((hf_N24_.w hW).lr (o := 28) (s := 1) (r := 29) (by decide)) (zdal_p dlB_Units_straighten_93 (i := 23) rfl) ?_
                          refine zw_iload (pc := 141) (i := 5) (x := Int32.ofInt u23_) rfl (zdal_p dlB_Units_straighten_94 (i := 0) rfl) ?_
                          refine zk_at hf_N24_.x (pc := 143) l_Units_57 ((hf_N24_.w hW).kr (o := 29) (by decide)) ((hf_N24_.w hW).lr (o := 29) (s := 0) (r := 30) (by decide)) ((hf_N24_.w hW).rr (o := 30) (t := 1) (n := 27) (by decide)) (by decide) (by omega) (by omega) (by decide) (Nat.le_of_ble_eq_true rfl) (zdal_p dlB_Units_straighten_94 (i := 1) rfl) (fun v35_ hv35_ hv35_a hv35_b => ?_)
                          have hv5_ := hv35_
                          have hbs_ : (zub d_ N24_ (u23_).toNat).testBit (((gF T_).length : Int) - 1 - u2_).toNat = true := by cases hz_ : (zub d_ N24_ (u23_).toNat).testBit (((gF T_).length : Int) - 1 - u2_).toNat; exact absurd (hbt_.mpr hz_) (by omega); rfl
                          refine zw_iload (pc := 146) (i := 4) (x := Int32.ofInt v17_) rfl (zdal_p dlB_Units_straighten_94 (i := 2) rfl) ?_
                          refine zr_ixor (pc := 148) (zdal_p dlB_Units_straighten_94 (i := 3) rfl) ?_
                          have hr36_ := zxor_r v35_ v17_
                          refine zk_st hf_N24_.x (pc := 149) (o := 30) (by decide) l_Units_40 ((hf_N24_.w hW).kr (o := 29) (by decide)) ((hf_N24_.w hW).lr (o := 29) (s := 0) (r := 30) (by decide)) ((hf_N24_.w hW).rr (o := 30) (t := 1) (n := 27) (by decide)) (by decide) (by omega) (by omega) (by decide) (Nat.le_of_ble_eq_true rfl) (zdal_p dlB_Units_straighten_94 (i := 4) rfl) (fun N37_ hN37_ hsN37_ => ?_)
                          have hf_N37_ : zFc d_ [] [] [] [30] Mz N37_ := hf_N24_.tr hsN37_ (by decide) (by decide) (by decide) (by decide)
                          have hb0_N37_ : zFc d_ [] [] [] [30] Mz N37_ := hb0_N24_.tr hsN37_ (by decide) (by decide) (by decide) (by decide)
                          have hb1_N37_ : zFc d_ [] [] [] [30] N21_ N37_ := hs25_.tr hsN37_ (by decide) (by decide) (by decide) (by decide)
                          have eD12_7_N37_ : ze N37_ (d_ + 12) 7 = ze N24_ (d_ + 12) 7 := hsN37_.e (by decide)
                          have eD28_3_N37_ : ze N37_ (d_ + 28) 3 = ze N24_ (d_ + 28) 3 := hsN37_.e (by decide)
                          have c38_ : zFir T_ d_ N37_ := zFir.fr (hf_N24_.w hW) hsN37_ c30_ (by decide)
                          have hsn_ := zSq_s hsq_ ⟨by omega, by omega⟩ (by omega) (by omega) (by omega) hbs_ (by omega) (fun i_ hi_ => zs_oth hN37_ (j := i_) (by omega)) (by rw [zs_get hN37_ ⟨by omega, by omega⟩, hv5_, hr4_])
                          have hr5_ : v17_ = ze N37_ (d_ + 30) (u1_).toNat := hr4_.trans (zs_oth hN37_ (j := (u1_).toNat) (by omega)).symm
                          refine zr_iinc (pc := 152) (i := 5) (a := u23_) (n := 1) (L2 := [some (.ref (d_ + 28)), some (.int (Int32.ofInt u1_)), some (.int (Int32.ofInt u2_)), some (.int (Int32.ofInt u10_)), some (.int (Int32.ofInt v17_)), some (.int (Int32.ofInt (u23_ + 1)))]) rfl (by decide) rfl (zdal_p dlB_Units_straighten_94 (i := 5) rfl) ?_
                          refine zw_goto (pc := 155) (tgt := 98) (by decide) (zdal_p dlB_Units_straighten_94 (i := 6) rfl) ?_
                          have hsb_ : zSq S_ (gF T_).length u2_ u1_ (u23_ + 1) d_ N37_ := by first | exact hsn_ | exact zSq_k hsq_ (by omega) (Or.inl (by omega)) | exact zSq_k hsq_ (by omega) (Or.inr (hbt_.mp (by omega)))
                          exact ih_98 (u23_ + 1) (by omega) (by omega) N37_ hb1_N37_ (show 0 ≤ (u23_ + 1) by first | with_reducible assumption | assumption | omega) (show (u23_ + 1) ≤ ze Mz (d_ + 28) 3 by first | with_reducible assumption | assumption | omega) (show zSq S_ (gF T_).length u2_ u1_ (u23_ + 1) d_ N37_ by exact hsb_) (show v17_ = ze N37_ (d_ + 30) (u1_).toNat by first | exact hr5_ | exact hr4_) (by omega)
                exact lp_98 _ 0 (by decide) (by decide) N21_ zFc.rf (show 0 ≤ (0 : Int) by first | with_reducible assumption | assumption | omega) (show (0 : Int) ≤ ze Mz (d_ + 28) 3 by first | with_reducible assumption | assumption | omega) (show zSq S_ (gF T_).length u2_ u1_ (0 : Int) d_ N21_ by exact hq0_) (show v17_ = ze N21_ (d_ + 30) (u1_).toNat by exact hr0_) (Nat.lt_succ_self _)
              · skip
                have hnn_ : ∀ i : Nat, u1_ ≤ i → (i : Int) < ze N3_ (d_ + 28) 3 → (zub d_ N3_ i).testBit (((gF T_).length : Int) - 1 - u2_).toNat = false := by rcases hj48_ with q_ | q_; exact fun i_ h1_ h2_ => q_.2 i_ h1_ (by omega); (exfalso; omega)
                refine zw_goto (pc := 56) (tgt := 161) (by decide) (zdal_p dlB_Units_straighten_92 (i := 6) rfl) ?_
                refine zr_iinc (pc := 161) (i := 2) (a := u2_) (n := 1) (L2 := [some (.ref (d_ + 28)), some (.int (Int32.ofInt u1_)), some (.int (Int32.ofInt (u2_ + 1))), some (.int (Int32.ofInt u10_)), none, none]) rfl (by decide) rfl (zdal_p dlB_Units_straighten_94 (i := 8) rfl) ?_
                refine zw_goto (pc := 164) (tgt := 4) (by decide) (zdal_p dlB_Units_straighten_94 (i := 9) rfl) ?_
                have hsb_ : zyT S_ (gF T_).length (u2_ + 1) u1_ d_ N3_ := by first | exact zSq_e hsq_ ⟨by omega, by omega⟩ (by omega) | exact zyT_n hst_ (by omega) hnn_
                refine zW_le [some (.ref (d_ + 28)), some (.int (Int32.ofInt u1_)), some (.int (Int32.ofInt (u2_ + 1))), none, none, none] (⟨rfl, rfl, rfl, trivial⟩) ?_
                exact ih_4 u1_ hu1_a hu1_b (u2_ + 1) (by omega) (by omega) N3_ hs4_ (show 0 ≤ (u2_ + 1) by first | with_reducible assumption | assumption | omega) (show (u2_ + 1) ≤ ((gF T_).length : Int) by first | with_reducible assumption | assumption | omega) (show 0 ≤ u1_ ∧ u1_ ≤ ze Mz (d_ + 28) 3 by first | with_reducible assumption | assumption | omega) (show zyT S_ (gF T_).length (u2_ + 1) u1_ d_ N3_ by exact hsb_) (by omega)
            refine zr_icmp_ge (pc := 22) (tgt := 48) ⟨hu10_a, hu10_b⟩ ⟨(ze_r Mz (d_ + 28) 3).1, (ze_r Mz (d_ + 28) 3).2⟩ (by decide) (zdal_p dlB_Units_straighten_91 (i := 14) rfl) (fun hc_22 => ?_) (fun hc_22 => ?_)
            · skip
              exact j_48 (show u1_ ≤ u10_ by first | with_reducible assumption | assumption | omega) (show u10_ ≤ ze Mz (d_ + 28) 3 by first | with_reducible assumption | assumption | omega) (show ((u10_ = ze Mz (d_ + 28) 3 ∧ (∀ i : Nat, u1_ ≤ i → (i : Int) < u10_ → (zub d_ N3_ i).testBit (((gF T_).length : Int) - 1 - u2_).toNat = false)) ∨ (u10_ < ze Mz (d_ + 28) 3 ∧ (zub d_ N3_ (u10_).toNat).testBit (((gF T_).length : Int) - 1 - u2_).toNat = true)) by first | exact Or.inr ⟨by omega, hb2_ (by omega)⟩ | exact Or.inl ⟨by omega, hno_⟩)
            · skip
              refine zw_aload_n (pc := 25) (n := 0) (x := (d_ + 28)) rfl (zdal_p dlB_Units_straighten_91 (i := 15) rfl) ?_
              refine zw_getF (pc := 26) f_Units_14 rfl ((hf_N3_.w hW).kr (o := 28) (by decide)) ((hf_N3_.w hW).lr (o := 28) (s := 1) (r := 29) (by decide)) (zdal_p dlB_Units_straighten_91 (i := 16) rfl) ?_
              refine zw_iload_n (pc := 29) (n := 3) (x := Int32.ofInt u10_) rfl (zdal_p dlB_Units_straighten_91 (i := 17) rfl) ?_
              refine zk_at hf_N3_.x (pc := 30) l_Units_57 ((hf_N3_.w hW).kr (o := 29) (by decide)) ((hf_N3_.w hW).lr (o := 29) (s := 0) (r := 30) (by decide)) ((hf_N3_.w hW).rr (o := 30) (t := 1) (n := 27) (by decide)) (by decide) (by omega) (by omega) (by decide) (Nat.le_of_ble_eq_true rfl) (zdal_p dlB_Units_straighten_91 (i := 18) rfl) (fun v39_ hv39_ hv39_a hv39_b => ?_)
              have hrg_ := hst_.1.2.1 (u10_).toNat (by omega)
              rw [← hv39_] at hrg_
              have hzu_ : zub d_ N3_ (u10_).toNat = (v39_).toNat := by rw [hv39_]; rfl
              refine zw_aload_n (pc := 33) (n := 0) (x := (d_ + 28)) rfl (zdal_p dlB_Units_straighten_91 (i := 19) rfl) ?_
              refine zw_iload_n (pc := 34) (n := 2) (x := Int32.ofInt u2_) rfl (zdal_p dlB_Units_straighten_91 (i := 20) rfl) ?_
              refine zk_callV hf_N3_.x (pc := 35) [.int (Int32.ofInt u2_)] [.int (Int32.ofInt v39_)] l_Units_80 (u_Units_bitOfU l d_ N3_ (hf_N3_.w hW) u2_ hu2_a hu2_b T_ hT_ c9_ (show 0 ≤ u2_ by first | with_reducible assumption | assumption | omega) (show u2_ < ((gF T_).length : Int) by first | with_reducible assumption | assumption | omega)) rfl rfl ((hf_N3_.w hW).kr (o := 28) (by decide)) (by decide) (by decide) (Nat.le_of_ble_eq_true rfl) (zdal_p dlB_Units_straighten_91 (i := 21) rfl) ?_
              rintro _ N40_ ⟨v41_, rfl, ⟨hv41_a, hv41_b⟩, hsN40_, ⟨hp0_N40_, hp1_N40_, hp2_N40_⟩⟩
              obtain rfl := hsN40_.eq.symm
              show zW l m_Units_straighten (zn Mz + 0, zw Mz + 0) N3_ 38 [some (.ref (d_ + 28)), some (.int (Int32.ofInt u1_)), some (.int (Int32.ofInt u2_)), some (.int (Int32.ofInt u10_)), none, none] [.int (Int32.ofInt v41_), .int (Int32.ofInt v39_)] _
              have hbo_ := hp0_N40_
              refine zr_iand (pc := 38) (zdal_p dlB_Units_straighten_91 (i := 22) rfl) ?_
              have hr42_ := zand_r v39_ v41_
              have hbt_ := zubt (F := (gF T_).length) (s := u2_) hrg_ hF27_ ⟨by omega, by omega⟩ hbo_ hzu_
              have hb2_ : ∀ z_ : (zand v39_ v41_) ≠ 0, (zub d_ N3_ (u10_).toNat).testBit (((gF T_).length : Int) - 1 - u2_).toNat = true := fun z_ => by cases hz_ : (zub d_ N3_ (u10_).toNat).testBit (((gF T_).length : Int) - 1 - u2_).toNat; exact absurd (hbt_.mpr hz_) z_; rfl
              refine zr_if_ne (pc := 39) (tgt := 48) ⟨(by omega), (by omega)⟩ (by decide) (zdal_p dlB_Units_straighten_91 (i := 23) rfl) (fun hc_39 => ?_) (fun hc_39 => ?_)
              · skip
                exact j_48 (show u1_ ≤ u10_ by first | with_reducible assumption | assumption | omega) (show u10_ ≤ ze Mz (d_ + 28) 3 by first | with_reducible assumption | assumption | omega) (show ((u10_ = ze Mz (d_ + 28) 3 ∧ (∀ i : Nat, u1_ ≤ i → (i : Int) < u10_ → (zub d_ N3_ i).testBit (((gF T_).length : Int) - 1 - u2_).toNat = false)) ∨ (u10_ < ze Mz (d_ + 28) 3 ∧ (zub d_ N3_ (u10_).toNat).testBit (((gF T_).length : Int) - 1 - u2_).toNat = true)) by first | exact Or.inr ⟨by omega, hb2_ (by omega)⟩ | exact Or.inl ⟨by omega, hno_⟩)
              · skip
                have hb0_ := hbt_.mp (by omega)
                have hnx_ : (∀ i : Nat, u1_ ≤ i → (i : Int) < u10_ + 1 → (zub d_ N3_ i).testBit (((gF T_).length : Int) - 1 - u2_).toNat = false) := fun i_ h1_ h2_ => by by_cases g_ : (i_ : Int) = u10_; (rw [show i_ = (u10_).toNat by omega]; exact hb0_); exact hno_ i_ h1_ (by omega)
                refine zr_iinc (pc := 42) (i := 3) (a := u10_) (n := 1) (L2 := [some (.ref (d_ + 28)), some (.int (Int32.ofInt u1_)), some (.int (Int32.ofInt u2_)), some (.int (Int32.ofInt (u10_ + 1))), none, none]) rfl (by decide) rfl (zdal_p dlB_Units_straighten_92 (i := 0) rfl) ?_
                refine zw_goto (pc := 45) (tgt := 17) (by decide) (zdal_p dlB_Units_straighten_92 (i := 1) rfl) ?_
                exact ih_17 (u10_ + 1) (by omega) (by omega) (show u1_ ≤ (u10_ + 1) by first | with_reducible assumption | assumption | omega) (show (u10_ + 1) ≤ ze Mz (d_ + 28) 3 by first | with_reducible assumption | assumption | omega) (show (∀ i : Nat, u1_ ≤ i → (i : Int) < (u10_ + 1) → (zub d_ N3_ i).testBit (((gF T_).length : Int) - 1 - u2_).toNat = false) by exact hnx_) (by omega)
        exact lp_17 _ u1_ hu1_a hu1_b (show u1_ ≤ u1_ by first | with_reducible assumption | assumption | omega) (show u1_ ≤ ze Mz (d_ + 28) 3 by first | with_reducible assumption | assumption | omega) (show (∀ i : Nat, u1_ ≤ i → (i : Int) < u1_ → (zub d_ N3_ i).testBit (((gF T_).length : Int) - 1 - u2_).toNat = false) by exact fun i_ h1_ h2_ => absurd h1_ (by omega)) (Nat.lt_succ_self _)
  exact lp_4 _ 0 (by decide) (by decide) 0 (by decide) (by decide) Mz zFc.rf (show 0 ≤ (0 : Int) by first | with_reducible assumption | assumption | omega) (show (0 : Int) ≤ ((gF T_).length : Int) by first | with_reducible assumption | assumption | omega) (show 0 ≤ (0 : Int) ∧ (0 : Int) ≤ ze Mz (d_ + 28) 3 by first | with_reducible assumption | assumption | omega) (show zyT S_ (gF T_).length (0 : Int) (0 : Int) d_ Mz by exact zyT_0 p1_ hS_) (Nat.lt_succ_self _)
set_option maxHeartbeats 4000000 in
theorem u_Units_seekU (l : Launch) (d_ : Nat) (Mz : zMem) (hW : zKW d_ Mz) (T_ : zGT) (hT_ : T_ ∈ gTabs) (hAs_ : gAs T_) (hGr_ : gGr T_) (p0_ : zTt T_ d_ Mz) (p1_ : zFir T_ d_ Mz) (p2_ : zSbK T_ d_ Mz) (p3_ : zUW T_ d_ Mz) : zC l m_Units_seek 0 0 [.ref (d_ + 28)] Mz (zqcV d_ [] [] [(28, 3), (28, 4)] [11, 30, 32] Mz (fun N => (ze N (d_ + 28) 4 = 1 ∧ zUf (zUS T_) d_ N))) := by
  refine zC_of (L0 := [some (.ref (d_ + 28)), none]) md_Units_seek (Nat.le_of_ble_eq_true rfl) rfl ?_ zQ0
  have hf : zFc d_ [] [] [(28, 3), (28, 4)] [11, 30, 32] Mz Mz := zFc.rf
  have r_D12_7 := ze_r Mz (d_ + 12) 7
  have r_D28_3 := ze_r Mz (d_ + 28) 3
  have r_D28_4 := ze_r Mz (d_ + 28) 4
  have hO_ := gTabs_ok T_ hT_
  have hG_ := hO_.1
  have hn24_ := hG_.2.1
  have hn1_ := hG_.1
  have hfl_ := p1_.1
  obtain ⟨⟨hF1_, hF27_⟩, hAr_⟩ := id (gT_zTA hT_)
  have hp3_ : ze Mz (d_ + 28) 4 = 0 ∨ (ze Mz (d_ + 28) 4 = 1 ∧ zUf (zUS T_) d_ Mz) := p3_
  refine zw_aload_n (pc := 0) (n := 0) (x := (d_ + 28)) rfl (zdal_p dlB_Units_seek_80 (i := 0) rfl) ?_
  refine zk_getI (pc := 1) f_Units_27 rfl ((hf.w hW).kr (o := 28) (by decide)) (zdal_p dlB_Units_seek_80 (i := 1) rfl) ?_
  refine zr_if_eq (pc := 4) (tgt := 8) ⟨(ze_r Mz (d_ + 28) 4).1, (ze_r Mz (d_ + 28) 4).2⟩ (by decide) (zdal_p dlB_Units_seek_80 (i := 2) rfl) (fun hc_4 => ?_) (fun hc_4 => ?_)
  · skip
    refine zw_aload_n (pc := 8) (n := 0) (x := (d_ + 28)) rfl (zdal_p dlB_Units_seek_80 (i := 4) rfl) ?_
    refine zw_iconst (pc := 9) (v := Int32.ofInt 1) (by decide) (zdal_p dlB_Units_seek_80 (i := 5) rfl) ?_
    refine zk_putR (pc := 10) (o := 28) (by decide) f_Units_27 rfl rfl ((hf.w hW).kr (o := 28) (by decide)) ⟨by omega, by omega⟩ (z_narB (by omega)) (z_fitB (by omega)) (zdal_p dlB_Units_seek_80 (i := 6) rfl) (fun N1_ hsN1_ hvN1_ => ?_)
    have hf_N1_ : zFc d_ [] [] [(28, 3), (28, 4)] [11, 30, 32] Mz N1_ := hf.tr hsN1_ (by decide) (by decide) (by decide) (by decide)
    have eD12_7_N1_ : ze N1_ (d_ + 12) 7 = ze Mz (d_ + 12) 7 := hsN1_.e (by decide)
    have eD28_3_N1_ : ze N1_ (d_ + 28) 3 = ze Mz (d_ + 28) 3 := hsN1_.e (by decide)
    have rD28_4_N1_ := ze_r N1_ (d_ + 28) 4
    have c2_ : zTt T_ d_ N1_ := zTt.fr (hf.w hW) hsN1_ p0_ (by decide)
    have c3_ : zFir T_ d_ N1_ := zFir.fr (hf.w hW) hsN1_ p1_ (by decide)
    have c4_ : zSbK T_ d_ N1_ := zSbK.fr (hf.w hW) hsN1_ p2_ (by decide)
    refine zw_aload_n (pc := 13) (n := 0) (x := (d_ + 28)) rfl (zdal_p dlB_Units_seek_80 (i := 7) rfl) ?_
    refine zw_aload_n (pc := 14) (n := 0) (x := (d_ + 28)) rfl (zdal_p dlB_Units_seek_80 (i := 8) rfl) ?_
    refine zw_getF (pc := 15) f_Units_23 rfl ((hf_N1_.w hW).kr (o := 28) (by decide)) ((hf_N1_.w hW).lr (o := 28) (s := 0) (r := 12) (by decide)) (zdal_p dlB_Units_seek_80 (i := 9) rfl) ?_
    refine zk_getI (pc := 18) f_Units_35 rfl ((hf_N1_.w hW).kr (o := 12) (by decide)) (zdal_p dlB_Units_seek_80 (i := 10) rfl) ?_
    rw [hf_N1_.e (by decide)]
    refine zk_putR (pc := 21) (o := 28) (by decide) f_Units_31 rfl rfl ((hf_N1_.w hW).kr (o := 28) (by decide)) ⟨by omega, by omega⟩ rfl rfl (zdal_p dlB_Units_seek_80 (i := 11) rfl) (fun N5_ hsN5_ hvN5_ => ?_)
    have hf_N5_ : zFc d_ [] [] [(28, 3), (28, 4)] [11, 30, 32] Mz N5_ := hf_N1_.tr hsN5_ (by decide) (by decide) (by decide) (by decide)
    have eD12_7_N5_ : ze N5_ (d_ + 12) 7 = ze N1_ (d_ + 12) 7 := hsN5_.e (by decide)
    have rD28_3_N5_ := ze_r N5_ (d_ + 28) 3
    have eD28_4_N5_ : ze N5_ (d_ + 28) 4 = ze N1_ (d_ + 28) 4 := hsN5_.e (by decide)
    have c6_ : zTt T_ d_ N5_ := zTt.fr (hf_N1_.w hW) hsN5_ c2_ (by decide)
    have c7_ : zFir T_ d_ N5_ := zFir.fr (hf_N1_.w hW) hsN5_ c3_ (by decide)
    have c8_ : zSbK T_ d_ N5_ := zSbK.fr (hf_N1_.w hW) hsN5_ c4_ (by decide)
    refine zw_iconst (pc := 24) (v := Int32.ofInt 0) (by decide) (zdal_p dlB_Units_seek_80 (i := 12) rfl) ?_
    refine zw_istore_n (pc := 25) (i := 1) (L2 := [some (.ref (d_ + 28)), some (.int (Int32.ofInt 0))]) rfl (by decide) rfl (zdal_p dlB_Units_seek_80 (i := 13) rfl) ?_
    have lp_26 : ∀ (n : Nat) (u9_ : Int) (hu9_a : -2147483648 ≤ u9_) (hu9_b : u9_ < 2147483648) (N10_ : zMem) (hs11_ : zFc d_ [] [] [] [30] N5_ N10_) (i12_ : 0 ≤ u9_) (i13_ : u9_ ≤ ((gF T_).length : Int)) (i14_ : (∀ i : Nat, (i : Int) < u9_ → ze N10_ (d_ + 30) i = ((2 ^ i : Nat) : Int))), (((gF T_).length : Int) - u9_).toNat < n → zW l m_Units_seek (zn Mz + 0, zw Mz + 0) N10_ 26 [some (.ref (d_ + 28)), some (.int (Int32.ofInt u9_))] [] (zqcV d_ [] [] [(28, 3), (28, 4)] [11, 30, 32] Mz (fun N => (ze N (d_ + 28) 4 = 1 ∧ zUf (zUS T_) d_ N))) := by
      intro n
      induction n with
      | zero =>
        intro u9_ hu9_a hu9_b N10_ hs11_ i12_ i13_ i14_ h0
        exact absurd h0 (Nat.not_lt_zero _)
      | succ n ih_26 =>
        intro u9_ hu9_a hu9_b N10_ hs11_ i12_ i13_ i14_ hlt_26
        have hf_N10_ : zFc d_ [] [] [(28, 3), (28, 4)] [11, 30, 32] Mz N10_ := hf_N5_.tr hs11_ (by decide) (by decide) (by decide) (by decide)
        have eD12_7_N10_ : ze N10_ (d_ + 12) 7 = ze N5_ (d_ + 12) 7 := hs11_.e (by decide)
        have eD28_3_N10_ : ze N10_ (d_ + 28) 3 = ze N5_ (d_ + 28) 3 := hs11_.e (by decide)
        have eD28_4_N10_ : ze N10_ (d_ + 28) 4 = ze N5_ (d_ + 28) 4 := hs11_.e (by decide)
        have c15_ : zTt T_ d_ N10_ := zTt.fr (hf_N5_.w hW) hs11_ c6_ (by decide)
        have c16_ : zFir T_ d_ N10_ := zFir.fr (hf_N5_.w hW) hs11_ c7_ (by decide)
        have c17_ : zSbK T_ d_ N10_ := zSbK.fr (hf_N5_.w hW) hs11_ c8_ (by decide)
        have hrw_ := (show (∀ i : Nat, (i : Int) < u9_ → ze N10_ (d_ + 30) i = ((2 ^ i : Nat) : Int)) by first | with_reducible assumption | assumption)
        refine zw_iload_n (pc := 26) (n := 1) (x := Int32.ofInt u9_) rfl (zdal_p dlB_Units_seek_80 (i := 14) rfl) ?_
        refine zw_aload_n (pc := 27) (n := 0) (x := (d_ + 28)) rfl (zdal_p dlB_Units_seek_80 (i := 15) rfl) ?_
        refine zw_getF (pc := 28) f_Units_23 rfl ((hf_N10_.w hW).kr (o := 28) (by decide)) ((hf_N10_.w hW).lr (o := 28) (s := 0) (r := 12) (by decide)) (zdal_p dlB_Units_seek_80 (i := 16) rfl) ?_
        refine zk_getI (pc := 31) f_Units_35 rfl ((hf_N10_.w hW).kr (o := 12) (by decide)) (zdal_p dlB_Units_seek_80 (i := 17) rfl) ?_
        rw [hf_N10_.e (by decide)]
        refine zr_icmp_ge (pc := 34) (tgt := 54) ⟨hu9_a, hu9_b⟩ ⟨(ze_r Mz (d_ + 12) 7).1, (ze_r Mz (d_ + 12) 7).2⟩ (by decide) (zdal_p dlB_Units_seek_80 (i := 18) rfl) (fun hc_34 => ?_) (fun hc_34 => ?_)
        · skip
          refine zw_iconst (pc := 54) (v := Int32.ofInt 0) (by decide) (zdal_p dlB_Units_seek_81 (i := 4) rfl) ?_
          refine zw_istore_n (pc := 55) (i := 1) (L2 := [some (.ref (d_ + 28)), some (.int (Int32.ofInt 0))]) rfl (by decide) rfl (zdal_p dlB_Units_seek_81 (i := 5) rfl) ?_
          have hn1_ : zNw (fun x_ => x_ < 2 ^ (gF T_).length) d_ N10_ := zNw_1 hF27_ (by omega) (fun i_ hi_ => hrw_ i_ (by omega))
          have lp_56 : ∀ (n : Nat) (u18_ : Int) (hu18_a : -2147483648 ≤ u18_) (hu18_b : u18_ < 2147483648) (N19_ : zMem) (hs20_ : zFc d_ [] [] [(28, 3)] [11, 30, 32] N10_ N19_) (i21_ : 0 ≤ u18_) (i22_ : u18_ ≤ ((gF T_).length : Int)) (i23_ : (zNw (fun x_ => x_ < 2 ^ (gF T_).length ∧ ∀ i : Nat, (i : Int) < u18_ → zyC T_ i x_) d_ N19_)), (((gF T_).length : Int) - u18_).toNat < n → zW l m_Units_seek (zn Mz + 0, zw Mz + 0) N19_ 56 [some (.ref (d_ + 28)), some (.int (Int32.ofInt u18_))] [] (zqcV d_ [] [] [(28, 3), (28, 4)] [11, 30, 32] Mz (fun N => (ze N (d_ + 28) 4 = 1 ∧ zUf (zUS T_) d_ N))) := by
            intro n
            induction n with
            | zero =>
              intro u18_ hu18_a hu18_b N19_ hs20_ i21_ i22_ i23_ h0
              exact absurd h0 (Nat.not_lt_zero _)
            | succ n ih_56 =>
              intro u18_ hu18_a hu18_b N19_ hs20_ i21_ i22_ i23_ hlt_56
              have hf_N19_ : zFc d_ [] [] [(28, 3), (28, 4)] [11, 30, 32] Mz N19_ := hf_N10_.tr hs20_ (by decide) (by decide) (by decide) (by decide)
              have eD12_7_N19_ : ze N19_ (d_ + 12) 7 = ze N10_ (d_ + 12) 7 := hs20_.e (by decide)
              have rD28_3_N19_ := ze_r N19_ (d_ + 28) 3
              have eD28_4_N19_ : ze N19_ (d_ + 28) 4 = ze N10_ (d_ + 28) 4 := hs20_.e (by decide)
              have c24_ : zTt T_ d_ N19_ := zTt.fr (hf_N10_.w hW) hs20_ c15_ (by decide)
              have c25_ : zFir T_ d_ N19_ := zFir.fr (hf_N10_.w hW) hs20_ c16_ (by decide)
              have c26_ : zSbK T_ d_ N19_ := zSbK.fr (hf_N10_.w hW) hs20_ c17_ (by decide)
              have hz5_ := (show (zNw (fun x_ => x_ < 2 ^ (gF T_).length ∧ ∀ i : Nat, (i : Int) < u18_ → zyC T_ i x_) d_ N19_) by first | with_reducible assumption | assumption)
              refine zw_iload_n (pc := 56) (n := 1) (x := Int32.ofInt u18_) rfl (zdal_p dlB_Units_seek_81 (i := 6) rfl) ?_
              refine zw_aload_n (pc := 57) (n := 0) (x := (d_ + 28)) rfl (zdal_p dlB_Units_seek_81 (i := 7) rfl) ?_
              refine zw_getF (pc := 58) f_Units_23 rfl ((hf_N19_.w hW).kr (o := 28) (by decide)) ((hf_N19_.w hW).lr (o := 28) (s := 0) (r := 12) (by decide)) (zdal_p dlB_Units_seek_81 (i := 8) rfl) ?_
              refine zk_getI (pc := 61) f_Units_35 rfl ((hf_N19_.w hW).kr (o := 12) (by decide)) (zdal_p dlB_Units_seek_81 (i := 9) rfl) ?_
              rw [hf_N19_.e (by decide)]
              refine zr_icmp_ge (pc := 64) (tgt := 78) ⟨hu18_a, hu18_b⟩ ⟨(ze_r Mz (d_ + 12) 7).1, (ze_r Mz (d_ + 12) 7).2⟩ (by decide) (zdal_p dlB_Units_seek_81 (i := 10) rfl) (fun hc_64 => ?_) (fun hc_64 => ?_)
              · skip
                refine zw_aload_n (pc := 78) (n := 0) (x := (d_ + 28)) rfl (zdal_p dlB_Units_seek_81 (i := 16) rfl) ?_
                have hzs_ := hz5_.c (S' := zUS T_) (fun x_ => ⟨fun q_ => ⟨q_.1, fun i_ hi_ => q_.2 i_ (by omega)⟩, fun q_ => ⟨q_.1, fun i_ hi_ => q_.2 i_ (by omega)⟩⟩)
                refine zk_callV hf_N19_.x (pc := 79) [] [] l_Units_47 (u_Units_straightenU l d_ N19_ (hf_N19_.w hW) T_ hT_ (zUS T_) (fun x_ q_ => q_.1) c25_ hzs_) rfl rfl ((hf_N19_.w hW).kr (o := 28) (by decide)) (by decide) (by decide) (Nat.le_of_ble_eq_true rfl) (zdal_p dlB_Units_seek_81 (i := 17) rfl) ?_
                rintro _ N27_ ⟨rfl, hsN27_, hp0_N27_⟩
                replace hp0_N27_ : (zUf (zUS T_) d_ N27_) := hp0_N27_
                have hf_N27_ : zFc d_ [] [] [(28, 3), (28, 4)] [11, 30, 32] Mz N27_ := hf_N19_.tr hsN27_ (by decide) (by decide) (by decide) (by decide)
                have eD12_7_N27_ : ze N27_ (d_ + 12) 7 = ze N19_ (d_ + 12) 7 := hsN27_.e (by decide)
                have eD28_3_N27_ : ze N27_ (d_ + 28) 3 = ze N19_ (d_ + 28) 3 := hsN27_.e (by decide)
                have eD28_4_N27_ : ze N27_ (d_ + 28) 4 = ze N19_ (d_ + 28) 4 := hsN27_.e (by decide)
                have c29_ : zTt T_ d_ N27_ := zTt.fr (hf_N19_.w hW) hsN27_ c24_ (by decide)
                have c30_ : zFir T_ d_ N27_ := zFir.fr (hf_N19_.w hW) hsN27_ c25_ (by decide)
                have c31_ : zSbK T_ d_ N27_ := zSbK.fr (hf_N19_.w hW) hsN27_ c26_ (by decide)
                show zW l m_Units_seek (zn Mz + 0, zw Mz + 0) N27_ 82 [some (.ref (d_ + 28)), some (.int (Int32.ofInt u18_))] [] _
                have hus_ := hp0_N27_
                exact zk_vret (pc := 82) rfl hf_N27_ (show (ze N27_ (d_ + 28) 4 = 1 ∧ zUf (zUS T_) d_ N27_) by exact ⟨by omega, hus_⟩) (zdal_p dlB_Units_seek_81 (i := 18) rfl)
              · skip
                refine zw_aload_n (pc := 67) (n := 0) (x := (d_ + 28)) rfl (zdal_p dlB_Units_seek_81 (i := 11) rfl) ?_
                refine zw_iload_n (pc := 68) (n := 1) (x := Int32.ofInt u18_) rfl (zdal_p dlB_Units_seek_81 (i := 12) rfl) ?_
                refine zk_callV hf_N19_.x (pc := 69) [.int (Int32.ofInt u18_)] [] l_Units_44 (u_Units_narrowAtU l d_ N19_ (hf_N19_.w hW) u18_ hu18_a hu18_b T_ hT_ hAs_ hGr_ (fun x_ => x_ < 2 ^ (gF T_).length ∧ ∀ i : Nat, (i : Int) < u18_ → zyC T_ i x_) c24_ c25_ c26_ hz5_ (show 0 ≤ u18_ by first | with_reducible assumption | assumption | omega) (show u18_ < ((gF T_).length : Int) by first | with_reducible assumption | assumption | omega)) rfl rfl ((hf_N19_.w hW).kr (o := 28) (by decide)) (by decide) (by decide) (Nat.le_of_ble_eq_true rfl) (zdal_p dlB_Units_seek_81 (i := 13) rfl) ?_
                rintro _ N32_ ⟨rfl, hsN32_, hp0_N32_⟩
                replace hp0_N32_ : (zNw (fun x_ => (fun x_ => x_ < 2 ^ (gF T_).length ∧ ∀ i : Nat, (i : Int) < u18_ → zyC T_ i x_) x_ ∧ zyC T_ (u18_).toNat x_) d_ N32_) := hp0_N32_
                have hf_N32_ : zFc d_ [] [] [(28, 3), (28, 4)] [11, 30, 32] Mz N32_ := hf_N19_.tr hsN32_ (by decide) (by decide) (by decide) (by decide)
                have hb0_N32_ : zFc d_ [] [] [(28, 3)] [11, 30, 32] N10_ N32_ := hs20_.tr hsN32_ (by decide) (by decide) (by decide) (by decide)
                have eD12_7_N32_ : ze N32_ (d_ + 12) 7 = ze N19_ (d_ + 12) 7 := hsN32_.e (by decide)
                have rD28_3_N32_ := ze_r N32_ (d_ + 28) 3
                have eD28_4_N32_ : ze N32_ (d_ + 28) 4 = ze N19_ (d_ + 28) 4 := hsN32_.e (by decide)
                have c34_ : zTt T_ d_ N32_ := zTt.fr (hf_N19_.w hW) hsN32_ c24_ (by decide)
                have c35_ : zFir T_ d_ N32_ := zFir.fr (hf_N19_.w hW) hsN32_ c25_ (by decide)
                have c36_ : zSbK T_ d_ N32_ := zSbK.fr (hf_N19_.w hW) hsN32_ c26_ (by decide)
                show zW l m_Units_seek (zn Mz + 0, zw Mz + 0) N32_ 72 [some (.ref (d_ + 28)), some (.int (Int32.ofInt u18_))] [] _
                have hnn_ := (hp0_N32_).c (S' := (fun x_ => x_ < 2 ^ (gF T_).length ∧ ∀ i : Nat, (i : Int) < u18_ + 1 → zyC T_ i x_)) (fun x_ => ⟨fun q_ => ⟨q_.1.1, fun i_ hi_ => by by_cases g_ : (i_ : Int) < u18_; exact q_.1.2 i_ g_; (rw [show i_ = (u18_).toNat by omega]; exact q_.2)⟩, fun q_ => ⟨⟨q_.1, fun i_ hi_ => q_.2 i_ (by omega)⟩, q_.2 (u18_).toNat (by omega)⟩⟩)
                refine zr_iinc (pc := 72) (i := 1) (a := u18_) (n := 1) (L2 := [some (.ref (d_ + 28)), some (.int (Int32.ofInt (u18_ + 1)))]) rfl (by decide) rfl (zdal_p dlB_Units_seek_81 (i := 14) rfl) ?_
                refine zw_goto (pc := 75) (tgt := 56) (by decide) (zdal_p dlB_Units_seek_81 (i := 15) rfl) ?_
                exact ih_56 (u18_ + 1) (by omega) (by omega) N32_ hb0_N32_ (show 0 ≤ (u18_ + 1) by first | with_reducible assumption | assumption | omega) (show (u18_ + 1) ≤ ((gF T_).length : Int) by first | with_reducible assumption | assumption | omega) (show (zNw (fun x_ => x_ < 2 ^ (gF T_).length ∧ ∀ i : Nat, (i : Int) < (u18_ + 1) → zyC T_ i x_) d_ N32_) by exact hnn_) (by omega)
          exact lp_56 _ 0 (by decide) (by decide) N10_ zFc.rf (show 0 ≤ (0 : Int) by first | with_reducible assumption | assumption | omega) (show (0 : Int) ≤ ((gF T_).length : Int) by first | with_reducible assumption | assumption | omega) (show (zNw (fun x_ => x_ < 2 ^ (gF T_).length ∧ ∀ i : Nat, (i : Int) < (0 : Int) → zyC T_ i x_) d_ N10_) by exact hn1_.c (fun x_ => ⟨fun q_ => ⟨q_, fun i_ hi_ => absurd hi_ (by omega)⟩, fun q_ => q_.1⟩)) (Nat.lt_succ_self _)
        · skip
          refine zw_aload_n (pc := 37) (n := 0) (x := (d_ + 28)) rfl (zdal_p dlB_Units_seek_80 (i := 19) rfl) ?_
          refine zw_getF (pc := 38) f_Units_14 rfl ((hf_N10_.w hW).kr (o := 28) (by decide)) ((hf_N10_.w hW).lr (o := 28) (s := 1) (r := 29) (by decide)) (zdal_p dlB_Units_seek_80 (i := 20) rfl) ?_
          refine zw_iload_n (pc := 41) (n := 1) (x := Int32.ofInt u9_) rfl (zdal_p dlB_Units_seek_80 (i := 21) rfl) ?_
          refine zw_iconst (pc := 42) (v := Int32.ofInt 1) (by decide) (zdal_p dlB_Units_seek_80 (i := 22) rfl) ?_
          refine zw_iload_n (pc := 43) (n := 1) (x := Int32.ofInt u9_) rfl (zdal_p dlB_Units_seek_80 (i := 23) rfl) ?_
          refine zr_ishl (pc := 44) (zdal_p dlB_Units_seek_81 (i := 0) rfl) ?_
          have hr37_ := zshl_r 1 u9_
          refine zk_st hf_N10_.x (pc := 45) (o := 30) (by decide) l_Units_40 ((hf_N10_.w hW).kr (o := 29) (by decide)) ((hf_N10_.w hW).lr (o := 29) (s := 0) (r := 30) (by decide)) ((hf_N10_.w hW).rr (o := 30) (t := 1) (n := 27) (by decide)) (by decide) (by omega) (by omega) (by decide) (Nat.le_of_ble_eq_true rfl) (zdal_p dlB_Units_seek_81 (i := 1) rfl) (fun N38_ hN38_ hsN38_ => ?_)
          have hf_N38_ : zFc d_ [] [] [(28, 3), (28, 4)] [11, 30, 32] Mz N38_ := hf_N10_.tr hsN38_ (by decide) (by decide) (by decide) (by decide)
          have hb0_N38_ : zFc d_ [] [] [] [30] N5_ N38_ := hs11_.tr hsN38_ (by decide) (by decide) (by decide) (by decide)
          have eD12_7_N38_ : ze N38_ (d_ + 12) 7 = ze N10_ (d_ + 12) 7 := hsN38_.e (by decide)
          have eD28_3_N38_ : ze N38_ (d_ + 28) 3 = ze N10_ (d_ + 28) 3 := hsN38_.e (by decide)
          have eD28_4_N38_ : ze N38_ (d_ + 28) 4 = ze N10_ (d_ + 28) 4 := hsN38_.e (by decide)
          have c39_ : zTt T_ d_ N38_ := zTt.fr (hf_N10_.w hW) hsN38_ c15_ (by decide)
          have c40_ : zFir T_ d_ N38_ := zFir.fr (hf_N10_.w hW) hsN38_ c16_ (by decide)
          have c41_ : zSbK T_ d_ N38_ := zSbK.fr (hf_N10_.w hW) hsN38_ c17_ (by decide)
          have hst_ := zs_get hN38_ ⟨by omega, by omega⟩
          have hrn_ : (∀ i : Nat, (i : Int) < u9_ + 1 → ze N38_ (d_ + 30) i = ((2 ^ i : Nat) : Int)) := fun i_ hi_ => by by_cases g_ : (i_ : Int) = u9_; (rw [show i_ = (u9_).toNat by omega, hst_, zshl_nn (by omega) (by omega)]); (rw [zs_oth hN38_ (j := i_) (by omega)]; exact hrw_ i_ (by omega))
          refine zr_iinc (pc := 48) (i := 1) (a := u9_) (n := 1) (L2 := [some (.ref (d_ + 28)), some (.int (Int32.ofInt (u9_ + 1)))]) rfl (by decide) rfl (zdal_p dlB_Units_seek_81 (i := 2) rfl) ?_
          refine zw_goto (pc := 51) (tgt := 26) (by decide) (zdal_p dlB_Units_seek_81 (i := 3) rfl) ?_
          exact ih_26 (u9_ + 1) (by omega) (by omega) N38_ hb0_N38_ (show 0 ≤ (u9_ + 1) by first | with_reducible assumption | assumption | omega) (show (u9_ + 1) ≤ ((gF T_).length : Int) by first | with_reducible assumption | assumption | omega) (show (∀ i : Nat, (i : Int) < (u9_ + 1) → ze N38_ (d_ + 30) i = ((2 ^ i : Nat) : Int)) by exact hrn_) (by omega)
    exact lp_26 _ 0 (by decide) (by decide) N5_ zFc.rf (show 0 ≤ (0 : Int) by first | with_reducible assumption | assumption | omega) (show (0 : Int) ≤ ((gF T_).length : Int) by first | with_reducible assumption | assumption | omega) (show (∀ i : Nat, (i : Int) < (0 : Int) → ze N5_ (d_ + 30) i = ((2 ^ i : Nat) : Int)) by exact fun i_ hi_ => absurd hi_ (by omega)) (Nat.lt_succ_self _)
  · skip
    exact zk_vret (pc := 7) rfl hf (show (ze Mz (d_ + 28) 4 = 1 ∧ zUf (zUS T_) d_ Mz) by exact hp3_.resolve_left (by omega)) (zdal_p dlB_Units_seek_80 (i := 3) rfl)
set_option maxHeartbeats 4000000 in
theorem u_Units_totalU (l : Launch) (d_ : Nat) (Mz : zMem) (hW : zKW d_ Mz) (p0_ : 0 ≤ ze Mz (d_ + 28) 3 ∧ ze Mz (d_ + 28) 3 ≤ 27) : zC l m_Units_total 0 0 [.ref (d_ + 28)] Mz (zqcI d_ [] [] [] [] Mz (fun v N => v = ((2 ^ (ze Mz (d_ + 28) 3).toNat : Nat) : Int) ∧ 0 ≤ v ∧ v ≤ 134217728)) := by
  refine zC_of (L0 := [some (.ref (d_ + 28))]) md_Units_total (Nat.le_of_ble_eq_true rfl) rfl ?_ zQ0
  have hf : zFc d_ [] [] [] [] Mz Mz := zFc.rf
  have r_D28_3 := ze_r Mz (d_ + 28) 3
  have hz_ := zshl_nn (k := ze Mz (d_ + 28) 3) (by omega) (by omega)
  have hp_ : 2 ^ (ze Mz (d_ + 28) 3).toNat ≤ 134217728 := Nat.pow_le_pow_right (n := 2) (m := 27) (by decide) (by omega)
  refine zw_iconst (pc := 0) (v := Int32.ofInt 1) (by decide) (zdal_p dlB_Units_total_95 (i := 0) rfl) ?_
  refine zw_aload_n (pc := 1) (n := 0) (x := (d_ + 28)) rfl (zdal_p dlB_Units_total_95 (i := 1) rfl) ?_
  refine zk_getI (pc := 2) f_Units_31 rfl ((hf.w hW).kr (o := 28) (by decide)) (zdal_p dlB_Units_total_95 (i := 2) rfl) ?_
  refine zr_ishl (pc := 5) (zdal_p dlB_Units_total_95 (i := 3) rfl) ?_
  have hr1_ := zshl_r 1 (ze Mz (d_ + 28) 3)
  exact zk_iret (pc := 6) (ty := .int) rfl rfl ⟨by omega, by omega⟩ hf ⟨(show (zshl 1 (ze Mz (d_ + 28) 3)) = ((2 ^ (ze Mz (d_ + 28) 3).toNat : Nat) : Int) by exact hz_), (show 0 ≤ (zshl 1 (ze Mz (d_ + 28) 3)) ∧ (zshl 1 (ze Mz (d_ + 28) 3)) ≤ 134217728 by omega)⟩ (zdal_p dlB_Units_total_95 (i := 4) rfl)
set_option maxHeartbeats 4000000 in
theorem u_Units_signsOfU (l : Launch) (d_ : Nat) (Mz : zMem) (hW : zKW d_ Mz) (a0_ : Int) (ha0_a : -2147483648 ≤ a0_) (ha0_b : a0_ < 2147483648) (T_ : zGT) (hT_ : T_ ∈ gTabs) (S_ : Nat → Prop) (p0_ : zFir T_ d_ Mz) (p1_ : zUf S_ d_ Mz) (p2_ : 0 ≤ a0_) (p3_ : a0_ < 134217728) : zC l m_Units_signsOf 0 0 [.ref (d_ + 28), .int (Int32.ofInt a0_)] Mz (zqcI d_ [] [] [] [] Mz (fun v N => (0 ≤ v ∧ v < 134217728) ∧ (∀ s : Nat, s < (gF T_).length → ((v).toNat.testBit s = true ↔ (zUk d_ Mz (a0_).toNat).testBit ((gF T_).length - 1 - s) = true)))) := by
  refine zC_of (L0 := [some (.ref (d_ + 28)), some (.int (Int32.ofInt a0_)), none, none, none]) md_Units_signsOf (Nat.le_of_ble_eq_true rfl) rfl ?_ zQ0
  have hf : zFc d_ [] [] [] [] Mz Mz := zFc.rf
  have r_D12_7 := ze_r Mz (d_ + 12) 7
  have r_D28_3 := ze_r Mz (d_ + 28) 3
  have hO_ := gTabs_ok T_ hT_
  have hG_ := hO_.1
  have hn24_ := hG_.2.1
  have hn1_ := hG_.1
  have hfl_ := p0_.1
  obtain ⟨⟨hF1_, hF27_⟩, hAr_⟩ := id (gT_zTA hT_)
  have hm_ := p1_.1.1
  refine zw_iconst (pc := 0) (v := Int32.ofInt 0) (by decide) (zdal_p dlB_Units_signsOf_98 (i := 0) rfl) ?_
  refine zw_istore_n (pc := 1) (i := 2) (L2 := [some (.ref (d_ + 28)), some (.int (Int32.ofInt a0_)), some (.int (Int32.ofInt 0)), none, none]) rfl (by decide) rfl (zdal_p dlB_Units_signsOf_98 (i := 1) rfl) ?_
  refine zw_iconst (pc := 2) (v := Int32.ofInt 0) (by decide) (zdal_p dlB_Units_signsOf_98 (i := 2) rfl) ?_
  refine zw_istore_n (pc := 3) (i := 3) (L2 := [some (.ref (d_ + 28)), some (.int (Int32.ofInt a0_)), some (.int (Int32.ofInt 0)), some (.int (Int32.ofInt 0)), none]) rfl (by decide) rfl (zdal_p dlB_Units_signsOf_98 (i := 3) rfl) ?_
  have lp_4 : ∀ (n : Nat) (u1_ : Int) (hu1_a : -2147483648 ≤ u1_) (hu1_b : u1_ < 2147483648) (u2_ : Int) (hu2_a : -2147483648 ≤ u2_) (hu2_b : u2_ < 2147483648) (i3_ : 0 ≤ u2_) (i4_ : u2_ ≤ ze Mz (d_ + 28) 3) (i5_ : zkr (fun i_ => (a0_).toNat.testBit ((ze Mz (d_ + 28) 3).toNat - 1 - i_)) (zub d_ Mz) u1_ u2_), (ze Mz (d_ + 28) 3 - u2_).toNat < n → zW l m_Units_signsOf (zn Mz + 0, zw Mz + 0) Mz 4 [some (.ref (d_ + 28)), some (.int (Int32.ofInt a0_)), some (.int (Int32.ofInt u1_)), some (.int (Int32.ofInt u2_)), none] [] (zqcI d_ [] [] [] [] Mz (fun v N => (0 ≤ v ∧ v < 134217728) ∧ (∀ s : Nat, s < (gF T_).length → ((v).toNat.testBit s = true ↔ (zUk d_ Mz (a0_).toNat).testBit ((gF T_).length - 1 - s) = true)))) := by
    intro n
    induction n with
    | zero =>
      intro u1_ hu1_a hu1_b u2_ hu2_a hu2_b i3_ i4_ i5_ h0
      exact absurd h0 (Nat.not_lt_zero _)
    | succ n ih_4 =>
      intro u1_ hu1_a hu1_b u2_ hu2_a hu2_b i3_ i4_ i5_ hlt_4
      have hkr_ := (show zkr (fun i_ => (a0_).toNat.testBit ((ze Mz (d_ + 28) 3).toNat - 1 - i_)) (zub d_ Mz) u1_ u2_ by first | with_reducible assumption | assumption)
      refine zw_iload_n (pc := 4) (n := 3) (x := Int32.ofInt u2_) rfl (zdal_p dlB_Units_signsOf_98 (i := 4) rfl) ?_
      refine zw_aload_n (pc := 5) (n := 0) (x := (d_ + 28)) rfl (zdal_p dlB_Units_signsOf_98 (i := 5) rfl) ?_
      refine zk_getI (pc := 6) f_Units_31 rfl ((hf.w hW).kr (o := 28) (by decide)) (zdal_p dlB_Units_signsOf_98 (i := 6) rfl) ?_
      refine zr_icmp_ge (pc := 9) (tgt := 44) ⟨hu2_a, hu2_b⟩ ⟨(ze_r Mz (d_ + 28) 3).1, (ze_r Mz (d_ + 28) 3).2⟩ (by decide) (zdal_p dlB_Units_signsOf_98 (i := 7) rfl) (fun hc_9 => ?_) (fun hc_9 => ?_)
      · skip
        refine zw_iconst (pc := 44) (v := Int32.ofInt 0) (by decide) (zdal_p dlB_Units_signsOf_99 (i := 2) rfl) ?_
        refine zw_istore_n (pc := 45) (i := 3) (L2 := [some (.ref (d_ + 28)), some (.int (Int32.ofInt a0_)), some (.int (Int32.ofInt u1_)), some (.int (Int32.ofInt 0)), none]) rfl (by decide) rfl (zdal_p dlB_Units_signsOf_99 (i := 3) rfl) ?_
        refine zw_iconst (pc := 46) (v := Int32.ofInt 0) (by decide) (zdal_p dlB_Units_signsOf_99 (i := 4) rfl) ?_
        refine zw_istore (pc := 47) (i := 4) (L2 := [some (.ref (d_ + 28)), some (.int (Int32.ofInt a0_)), some (.int (Int32.ofInt u1_)), some (.int (Int32.ofInt 0)), some (.int (Int32.ofInt 0))]) (by decide) rfl (zdal_p dlB_Units_signsOf_99 (i := 5) rfl) ?_
        have hkb_ := hkr_.2
        have hrow_ : (u1_).toNat = zUk d_ Mz (a0_).toNat := by (have h_ := hkr_.1; rw [show ((0 : Int)).toNat = (ze Mz (d_ + 28) 3).toNat by omega] at h_; unfold zUk zkth; omega)
        have lp_49 : ∀ (n : Nat) (u6_ : Int) (hu6_a : -2147483648 ≤ u6_) (hu6_b : u6_ < 2147483648) (u7_ : Int) (hu7_a : -2147483648 ≤ u7_) (hu7_b : u7_ < 2147483648) (i8_ : 0 ≤ u7_) (i9_ : u7_ ≤ ((gF T_).length : Int)) (i10_ : zsgs (gF T_).length (u1_).toNat u6_ u7_), (((gF T_).length : Int) - u7_).toNat < n → zW l m_Units_signsOf (zn Mz + 0, zw Mz + 0) Mz 49 [some (.ref (d_ + 28)), some (.int (Int32.ofInt a0_)), some (.int (Int32.ofInt u1_)), some (.int (Int32.ofInt u6_)), some (.int (Int32.ofInt u7_))] [] (zqcI d_ [] [] [] [] Mz (fun v N => (0 ≤ v ∧ v < 134217728) ∧ (∀ s : Nat, s < (gF T_).length → ((v).toNat.testBit s = true ↔ (zUk d_ Mz (a0_).toNat).testBit ((gF T_).length - 1 - s) = true)))) := by
          intro n
          induction n with
          | zero =>
            intro u6_ hu6_a hu6_b u7_ hu7_a hu7_b i8_ i9_ i10_ h0
            exact absurd h0 (Nat.not_lt_zero _)
          | succ n ih_49 =>
            intro u6_ hu6_a hu6_b u7_ hu7_a hu7_b i8_ i9_ i10_ hlt_49
            have hsg_ := (show zsgs (gF T_).length (u1_).toNat u6_ u7_ by first | with_reducible assumption | assumption)
            have hsb_ := hsg_.1
            refine zw_iload (pc := 49) (i := 4) (x := Int32.ofInt u7_) rfl (zdal_p dlB_Units_signsOf_99 (i := 6) rfl) ?_
            refine zw_aload_n (pc := 51) (n := 0) (x := (d_ + 28)) rfl (zdal_p dlB_Units_signsOf_99 (i := 7) rfl) ?_
            refine zw_getF (pc := 52) f_Units_23 rfl ((hf.w hW).kr (o := 28) (by decide)) ((hf.w hW).lr (o := 28) (s := 0) (r := 12) (by decide)) (zdal_p dlB_Units_signsOf_99 (i := 8) rfl) ?_
            refine zk_getI (pc := 55) f_Units_35 rfl ((hf.w hW).kr (o := 12) (by decide)) (zdal_p dlB_Units_signsOf_99 (i := 9) rfl) ?_
            refine zr_icmp_ge (pc := 58) (tgt := 85) ⟨hu7_a, hu7_b⟩ ⟨(ze_r Mz (d_ + 12) 7).1, (ze_r Mz (d_ + 12) 7).2⟩ (by decide) (zdal_p dlB_Units_signsOf_99 (i := 10) rfl) (fun hc_58 => ?_) (fun hc_58 => ?_)
            · skip
              refine zw_iload_n (pc := 85) (n := 3) (x := Int32.ofInt u6_) rfl (zdal_p dlB_Units_signsOf_100 (i := 1) rfl) ?_
              exact zk_iret (pc := 86) (ty := .int) rfl rfl ⟨by omega, by omega⟩ hf ⟨(show (0 ≤ u6_ ∧ u6_ < 134217728) by exact hsg_.1), (show (∀ s : Nat, s < (gF T_).length → ((u6_).toNat.testBit s = true ↔ (zUk d_ Mz (a0_).toNat).testBit ((gF T_).length - 1 - s) = true)) by exact fun s_ hs_ => by rw [hsg_.2 s_, hrow_, show (((gF T_).length : Int) - 1 - (s_ : Int)).toNat = (gF T_).length - 1 - s_ by omega]; exact ⟨fun q_ => q_.2, fun q_ => ⟨by omega, q_⟩⟩)⟩ (zdal_p dlB_Units_signsOf_100 (i := 2) rfl)
            · skip
              refine zw_iload_n (pc := 61) (n := 2) (x := Int32.ofInt u1_) rfl (zdal_p dlB_Units_signsOf_99 (i := 11) rfl) ?_
              refine zw_aload_n (pc := 62) (n := 0) (x := (d_ + 28)) rfl (zdal_p dlB_Units_signsOf_99 (i := 12) rfl) ?_
              refine zw_iload (pc := 63) (i := 4) (x := Int32.ofInt u7_) rfl (zdal_p dlB_Units_signsOf_99 (i := 13) rfl) ?_
              refine zk_callV hf.x (pc := 65) [.int (Int32.ofInt u7_)] [.int (Int32.ofInt u1_)] l_Units_80 (u_Units_bitOfU l d_ Mz (hf.w hW) u7_ hu7_a hu7_b T_ hT_ p0_ (show 0 ≤ u7_ by first | with_reducible assumption | assumption | omega) (show u7_ < ((gF T_).length : Int) by first | with_reducible assumption | assumption | omega)) rfl rfl ((hf.w hW).kr (o := 28) (by decide)) (by decide) (by decide) (Nat.le_of_ble_eq_true rfl) (zdal_p dlB_Units_signsOf_99 (i := 14) rfl) ?_
              rintro _ N11_ ⟨v12_, rfl, ⟨hv12_a, hv12_b⟩, hsN11_, ⟨hp0_N11_, hp1_N11_, hp2_N11_⟩⟩
              obtain rfl := hsN11_.eq.symm
              show zW l m_Units_signsOf (zn Mz + 0, zw Mz + 0) Mz 68 [some (.ref (d_ + 28)), some (.int (Int32.ofInt a0_)), some (.int (Int32.ofInt u1_)), some (.int (Int32.ofInt u6_)), some (.int (Int32.ofInt u7_))] [.int (Int32.ofInt v12_), .int (Int32.ofInt u1_)] _
              have hbo_ := hp0_N11_
              refine zr_iand (pc := 68) (zdal_p dlB_Units_signsOf_99 (i := 15) rfl) ?_
              have hr13_ := zand_r u1_ v12_
              have hbt_ := zubt (F := (gF T_).length) (s := u7_) hkb_ hF27_ ⟨by omega, by omega⟩ hbo_ rfl
              refine zr_if_eq (pc := 69) (tgt := 79) ⟨(by omega), (by omega)⟩ (by decide) (zdal_p dlB_Units_signsOf_99 (i := 16) rfl) (fun hc_69 => ?_) (fun hc_69 => ?_)
              · skip
                refine zr_iinc (pc := 79) (i := 4) (a := u7_) (n := 1) (L2 := [some (.ref (d_ + 28)), some (.int (Int32.ofInt a0_)), some (.int (Int32.ofInt u1_)), some (.int (Int32.ofInt u6_)), some (.int (Int32.ofInt (u7_ + 1)))]) rfl (by decide) rfl (zdal_p dlB_Units_signsOf_99 (i := 23) rfl) ?_
                refine zw_goto (pc := 82) (tgt := 49) (by decide) (zdal_p dlB_Units_signsOf_100 (i := 0) rfl) ?_
                have hsx_ : zsgs (gF T_).length (u1_).toNat u6_ (u7_ + 1) := by first | exact hsn_ | exact zsgs_0 hsg_ (by omega) (hbt_.mp (by omega))
                exact ih_49 u6_ hu6_a hu6_b (u7_ + 1) (by omega) (by omega) (show 0 ≤ (u7_ + 1) by first | with_reducible assumption | assumption | omega) (show (u7_ + 1) ≤ ((gF T_).length : Int) by first | with_reducible assumption | assumption | omega) (show zsgs (gF T_).length (u1_).toNat u6_ (u7_ + 1) by exact hsx_) (by omega)
              · skip
                refine zw_iload_n (pc := 72) (n := 3) (x := Int32.ofInt u6_) rfl (zdal_p dlB_Units_signsOf_99 (i := 17) rfl) ?_
                refine zw_iconst (pc := 73) (v := Int32.ofInt 1) (by decide) (zdal_p dlB_Units_signsOf_99 (i := 18) rfl) ?_
                refine zw_iload (pc := 74) (i := 4) (x := Int32.ofInt u7_) rfl (zdal_p dlB_Units_signsOf_99 (i := 19) rfl) ?_
                refine zr_ishl (pc := 76) (zdal_p dlB_Units_signsOf_99 (i := 20) rfl) ?_
                have hr14_ := zshl_r 1 u7_
                refine zr_ior (pc := 77) (zdal_p dlB_Units_signsOf_99 (i := 21) rfl) ?_
                have hr15_ := zor_r u6_ (zshl 1 u7_)
                have hbs_ : (u1_).toNat.testBit (((gF T_).length : Int) - 1 - u7_).toNat = true := by cases hz_ : (u1_).toNat.testBit (((gF T_).length : Int) - 1 - u7_).toNat; exact absurd (hbt_.mpr hz_) (by omega); rfl
                have hsn_ := zsgs_1 hsg_ (by omega) (by omega) hbs_
                refine zw_istore_n (pc := 78) (i := 3) (L2 := [some (.ref (d_ + 28)), some (.int (Int32.ofInt a0_)), some (.int (Int32.ofInt u1_)), some (.int (Int32.ofInt (zor u6_ (zshl 1 u7_)))), some (.int (Int32.ofInt u7_))]) rfl (by decide) rfl (zdal_p dlB_Units_signsOf_99 (i := 22) rfl) ?_
                refine zr_iinc (pc := 79) (i := 4) (a := u7_) (n := 1) (L2 := [some (.ref (d_ + 28)), some (.int (Int32.ofInt a0_)), some (.int (Int32.ofInt u1_)), some (.int (Int32.ofInt (zor u6_ (zshl 1 u7_)))), some (.int (Int32.ofInt (u7_ + 1)))]) rfl (by decide) rfl (zdal_p dlB_Units_signsOf_99 (i := 23) rfl) ?_
                refine zw_goto (pc := 82) (tgt := 49) (by decide) (zdal_p dlB_Units_signsOf_100 (i := 0) rfl) ?_
                have hsx_ : zsgs (gF T_).length (u1_).toNat (zor u6_ (zshl 1 u7_)) (u7_ + 1) := by first | exact hsn_ | exact zsgs_0 hsg_ (by omega) (hbt_.mp (by omega))
                exact ih_49 (zor u6_ (zshl 1 u7_)) (by omega) (by omega) (u7_ + 1) (by omega) (by omega) (show 0 ≤ (u7_ + 1) by first | with_reducible assumption | assumption | omega) (show (u7_ + 1) ≤ ((gF T_).length : Int) by first | with_reducible assumption | assumption | omega) (show zsgs (gF T_).length (u1_).toNat (zor u6_ (zshl 1 u7_)) (u7_ + 1) by exact hsx_) (by omega)
        exact lp_49 _ 0 (by decide) (by decide) 0 (by decide) (by decide) (show 0 ≤ (0 : Int) by first | with_reducible assumption | assumption | omega) (show (0 : Int) ≤ ((gF T_).length : Int) by first | with_reducible assumption | assumption | omega) (show zsgs (gF T_).length (u1_).toNat (0 : Int) (0 : Int) by exact zsgs_z) (Nat.lt_succ_self _)
      · skip
        refine zw_iload_n (pc := 12) (n := 1) (x := Int32.ofInt a0_) rfl (zdal_p dlB_Units_signsOf_98 (i := 8) rfl) ?_
        refine zw_aload_n (pc := 13) (n := 0) (x := (d_ + 28)) rfl (zdal_p dlB_Units_signsOf_98 (i := 9) rfl) ?_
        refine zk_getI (pc := 14) f_Units_31 rfl ((hf.w hW).kr (o := 28) (by decide)) (zdal_p dlB_Units_signsOf_98 (i := 10) rfl) ?_
        refine zw_iconst (pc := 17) (v := Int32.ofInt 1) (by decide) (zdal_p dlB_Units_signsOf_98 (i := 11) rfl) ?_
        refine zr_isub (pc := 18) (zdal_p dlB_Units_signsOf_98 (i := 12) rfl) ?_
        refine zw_iload_n (pc := 19) (n := 3) (x := Int32.ofInt u2_) rfl (zdal_p dlB_Units_signsOf_98 (i := 13) rfl) ?_
        refine zr_isub (pc := 20) (zdal_p dlB_Units_signsOf_98 (i := 14) rfl) ?_
        refine zr_callS hf.x (pc := 21) [.int (Int32.ofInt a0_), .int (Int32.ofInt (((ze Mz (d_ + 28) 3) - 1) - u2_))] [] l_Units_69 (u_T_isIn l d_ Mz (hf.w hW) a0_ ha0_a ha0_b (((ze Mz (d_ + 28) 3) - 1) - u2_) (by omega) (by omega) (show 0 ≤ a0_ by first | with_reducible assumption | assumption | omega) (show a0_ < 2147483648 by first | with_reducible assumption | assumption | omega) (show 0 ≤ (((ze Mz (d_ + 28) 3) - 1) - u2_) by first | with_reducible assumption | assumption | omega) (show (((ze Mz (d_ + 28) 3) - 1) - u2_) < 31 by first | with_reducible assumption | assumption | omega)) rfl rfl (by decide) (Nat.le_of_ble_eq_true rfl) (zdal_p dlB_Units_signsOf_98 (i := 15) rfl) ?_
        rintro _ N16_ ⟨v17_, rfl, ⟨hv17_a, hv17_b⟩, hsN16_, hp0_N16_⟩
        obtain rfl := hsN16_.eq.symm
        replace hp0_N16_ : ((v17_ = 1 ∧ zbt a0_ (((ze Mz (d_ + 28) 3) - 1) - u2_)) ∨ (v17_ = 0 ∧ ¬ zbt a0_ (((ze Mz (d_ + 28) 3) - 1) - u2_))) := hp0_N16_
        rcases hp0_N16_ with ⟨rfl, ha21_0_hp0_N16_⟩ | ⟨rfl, ha21_0_hp0_N16_⟩
        · skip
          have hbt1_ : (fun i_ => (a0_).toNat.testBit ((ze Mz (d_ + 28) 3).toNat - 1 - i_)) (u2_).toNat = true := by have hz_ := ha21_0_hp0_N16_; unfold zbt at hz_; show (a0_).toNat.testBit ((ze Mz (d_ + 28) 3).toNat - 1 - (u2_).toNat) = true; rw [show (ze Mz (d_ + 28) 3).toNat - 1 - (u2_).toNat = (ze Mz (d_ + 28) 3 - 1 - u2_).toNat by omega]; exact hz_
          show zW l m_Units_signsOf (zn Mz + 0, zw Mz + 0) Mz 24 [some (.ref (d_ + 28)), some (.int (Int32.ofInt a0_)), some (.int (Int32.ofInt u1_)), some (.int (Int32.ofInt u2_)), none] [.int (Int32.ofInt 1)] _
          refine zr_if_eq (pc := 24) (tgt := 38) ⟨(by decide), (by decide)⟩ (by decide) (zdal_p dlB_Units_signsOf_98 (i := 16) rfl) (fun hc_24 => ?_) (fun hc_24 => ?_)
          · skip
            exact absurd hc_24 (by decide)
          · skip
            refine zw_iload_n (pc := 27) (n := 2) (x := Int32.ofInt u1_) rfl (zdal_p dlB_Units_signsOf_98 (i := 17) rfl) ?_
            refine zw_aload_n (pc := 28) (n := 0) (x := (d_ + 28)) rfl (zdal_p dlB_Units_signsOf_98 (i := 18) rfl) ?_
            refine zw_getF (pc := 29) f_Units_14 rfl ((hf.w hW).kr (o := 28) (by decide)) ((hf.w hW).lr (o := 28) (s := 1) (r := 29) (by decide)) (zdal_p dlB_Units_signsOf_98 (i := 19) rfl) ?_
            refine zw_iload_n (pc := 32) (n := 3) (x := Int32.ofInt u2_) rfl (zdal_p dlB_Units_signsOf_98 (i := 20) rfl) ?_
            refine zk_at hf.x (pc := 33) l_Units_57 ((hf.w hW).kr (o := 29) (by decide)) ((hf.w hW).lr (o := 29) (s := 0) (r := 30) (by decide)) ((hf.w hW).rr (o := 30) (t := 1) (n := 27) (by decide)) (by decide) (by omega) (by omega) (by decide) (Nat.le_of_ble_eq_true rfl) (zdal_p dlB_Units_signsOf_98 (i := 21) rfl) (fun v18_ hv18_ hv18_a hv18_b => ?_)
            have hrg_ := p1_.1.2.1 (u2_).toNat (by omega)
            rw [← hv18_] at hrg_
            have hzu_ : zub d_ Mz (u2_).toNat = (v18_).toNat := by rw [hv18_]; rfl
            refine zr_ixor (pc := 36) (zdal_p dlB_Units_signsOf_98 (i := 22) rfl) ?_
            have hr19_ := zxor_r u1_ v18_
            have hkn_ := zkr_1 hkr_ (by omega) hbt1_ hrg_ hzu_
            refine zw_istore_n (pc := 37) (i := 2) (L2 := [some (.ref (d_ + 28)), some (.int (Int32.ofInt a0_)), some (.int (Int32.ofInt (zxor u1_ v18_))), some (.int (Int32.ofInt u2_)), none]) rfl (by decide) rfl (zdal_p dlB_Units_signsOf_98 (i := 23) rfl) ?_
            refine zr_iinc (pc := 38) (i := 3) (a := u2_) (n := 1) (L2 := [some (.ref (d_ + 28)), some (.int (Int32.ofInt a0_)), some (.int (Int32.ofInt (zxor u1_ v18_))), some (.int (Int32.ofInt (u2_ + 1))), none]) rfl (by decide) rfl (zdal_p dlB_Units_signsOf_99 (i := 0) rfl) ?_
            refine zw_goto (pc := 41) (tgt := 4) (by decide) (zdal_p dlB_Units_signsOf_99 (i := 1) rfl) ?_
            have hkx_ : zkr (fun i_ => (a0_).toNat.testBit ((ze Mz (d_ + 28) 3).toNat - 1 - i_)) (zub d_ Mz) (zxor u1_ v18_) (u2_ + 1) := by first | exact hkn_ | exact zkr_0 hkr_ (by omega) hbt0_
            exact ih_4 (zxor u1_ v18_) (by omega) (by omega) (u2_ + 1) (by omega) (by omega) (show 0 ≤ (u2_ + 1) by first | with_reducible assumption | assumption | omega) (show (u2_ + 1) ≤ ze Mz (d_ + 28) 3 by first | with_reducible assumption | assumption | omega) (show zkr (fun i_ => (a0_).toNat.testBit ((ze Mz (d_ + 28) 3).toNat - 1 - i_)) (zub d_ Mz) (zxor u1_ v18_) (u2_ + 1) by exact hkx_) (by omega)
        · skip
          have hbt0_ : (fun i_ => (a0_).toNat.testBit ((ze Mz (d_ + 28) 3).toNat - 1 - i_)) (u2_).toNat = false := by have hz_ := ha21_0_hp0_N16_; unfold zbt at hz_; show (a0_).toNat.testBit ((ze Mz (d_ + 28) 3).toNat - 1 - (u2_).toNat) = false; rw [show (ze Mz (d_ + 28) 3).toNat - 1 - (u2_).toNat = (ze Mz (d_ + 28) 3 - 1 - u2_).toNat by omega]; exact Bool.eq_false_iff.mpr hz_
          show zW l m_Units_signsOf (zn Mz + 0, zw Mz + 0) Mz 24 [some (.ref (d_ + 28)), some (.int (Int32.ofInt a0_)), some (.int (Int32.ofInt u1_)), some (.int (Int32.ofInt u2_)), none] [.int (Int32.ofInt 0)] _
          refine zr_if_eq (pc := 24) (tgt := 38) ⟨(by decide), (by decide)⟩ (by decide) (zdal_p dlB_Units_signsOf_98 (i := 16) rfl) (fun hc_24 => ?_) (fun hc_24 => ?_)
          · skip
            refine zr_iinc (pc := 38) (i := 3) (a := u2_) (n := 1) (L2 := [some (.ref (d_ + 28)), some (.int (Int32.ofInt a0_)), some (.int (Int32.ofInt u1_)), some (.int (Int32.ofInt (u2_ + 1))), none]) rfl (by decide) rfl (zdal_p dlB_Units_signsOf_99 (i := 0) rfl) ?_
            refine zw_goto (pc := 41) (tgt := 4) (by decide) (zdal_p dlB_Units_signsOf_99 (i := 1) rfl) ?_
            have hkx_ : zkr (fun i_ => (a0_).toNat.testBit ((ze Mz (d_ + 28) 3).toNat - 1 - i_)) (zub d_ Mz) u1_ (u2_ + 1) := by first | exact hkn_ | exact zkr_0 hkr_ (by omega) hbt0_
            exact ih_4 u1_ hu1_a hu1_b (u2_ + 1) (by omega) (by omega) (show 0 ≤ (u2_ + 1) by first | with_reducible assumption | assumption | omega) (show (u2_ + 1) ≤ ze Mz (d_ + 28) 3 by first | with_reducible assumption | assumption | omega) (show zkr (fun i_ => (a0_).toNat.testBit ((ze Mz (d_ + 28) 3).toNat - 1 - i_)) (zub d_ Mz) u1_ (u2_ + 1) by exact hkx_) (by omega)
          · skip
            exact absurd hc_24 (by decide)
  exact lp_4 _ 0 (by decide) (by decide) 0 (by decide) (by decide) (show 0 ≤ (0 : Int) by first | with_reducible assumption | assumption | omega) (show (0 : Int) ≤ ze Mz (d_ + 28) 3 by first | with_reducible assumption | assumption | omega) (show zkr (fun i_ => (a0_).toNat.testBit ((ze Mz (d_ + 28) 3).toNat - 1 - i_)) (zub d_ Mz) (0 : Int) (0 : Int) by exact zkr_z) (Nat.lt_succ_self _)
set_option maxHeartbeats 4000000 in
theorem u_Sums_putSignsU (l : Launch) (d_ : Nat) (Mz : zMem) (hW : zKW d_ Mz) (a0_ : Int) (ha0_a : -2147483648 ≤ a0_) (ha0_b : a0_ < 2147483648) (F_ : Nat) (K_ : Nat → Nat → Int) (hA_ : zTA F_ K_) (p0_ : zKm F_ K_ d_ Mz) (p1_ : 0 ≤ a0_) (p2_ : a0_ < 134217728) : zC l m_Sums_putSigns 0 0 [.ref (d_ + 23), .int (Int32.ofInt a0_)] Mz (zqcV d_ [] [] [] [25, 27] Mz (fun N => (zSh F_ d_ Mz N 39 (zsq F_ K_ (fun j_ => if (a0_).toNat.testBit j_ = true then -1 else 1))))) := by
  refine zC_of (L0 := [some (.ref (d_ + 23)), some (.int (Int32.ofInt a0_)), none]) md_Sums_putSigns (Nat.le_of_ble_eq_true rfl) rfl ?_ zQ0
  have hf : zFc d_ [] [] [] [25, 27] Mz Mz := zFc.rf
  have r_D12_7 := ze_r Mz (d_ + 12) 7
  obtain ⟨⟨hF1_, hF27_⟩, hAr_⟩ := id hA_
  obtain ⟨hFc_, hKt_⟩ := id p0_
  refine zw_iconst (pc := 0) (v := Int32.ofInt 0) (by decide) (zdal_p dlB_Sums_putSigns_101 (i := 0) rfl) ?_
  refine zw_istore_n (pc := 1) (i := 2) (L2 := [some (.ref (d_ + 23)), some (.int (Int32.ofInt a0_)), some (.int (Int32.ofInt 0))]) rfl (by decide) rfl (zdal_p dlB_Sums_putSigns_101 (i := 1) rfl) ?_
  have lp_2 : ∀ (n : Nat) (u1_ : Int) (hu1_a : -2147483648 ≤ u1_) (hu1_b : u1_ < 2147483648) (N2_ : zMem) (hs3_ : zFc d_ [] [] [] [27] Mz N2_) (i4_ : 0 ≤ u1_) (i5_ : u1_ ≤ F_) (i6_ : (∀ j : Nat, (j : Int) < u1_ → zg N2_ (d_ + 27) j = if (a0_).toNat.testBit j = true then -1 else 1)), (F_ - u1_).toNat < n → zW l m_Sums_putSigns (zn Mz + 0, zw Mz + 0) N2_ 2 [some (.ref (d_ + 23)), some (.int (Int32.ofInt a0_)), some (.int (Int32.ofInt u1_))] [] (zqcV d_ [] [] [] [25, 27] Mz (fun N => (zSh F_ d_ Mz N 39 (zsq F_ K_ (fun j_ => if (a0_).toNat.testBit j_ = true then -1 else 1))))) := by
    intro n
    induction n with
    | zero =>
      intro u1_ hu1_a hu1_b N2_ hs3_ i4_ i5_ i6_ h0
      exact absurd h0 (Nat.not_lt_zero _)
    | succ n ih_2 =>
      intro u1_ hu1_a hu1_b N2_ hs3_ i4_ i5_ i6_ hlt_2
      have hf_N2_ : zFc d_ [] [] [] [25, 27] Mz N2_ := hf.tr hs3_ (by decide) (by decide) (by decide) (by decide)
      have eD12_7_N2_ : ze N2_ (d_ + 12) 7 = ze Mz (d_ + 12) 7 := hs3_.e (by decide)
      have c7_ : zKm F_ K_ d_ N2_ := zKm.fr (hf.w hW) hs3_ p0_ (by decide)
      have hp11_ := (show (∀ j : Nat, (j : Int) < u1_ → zg N2_ (d_ + 27) j = if (a0_).toNat.testBit j = true then -1 else 1) by first | with_reducible assumption | assumption)
      refine zw_iload_n (pc := 2) (n := 2) (x := Int32.ofInt u1_) rfl (zdal_p dlB_Sums_putSigns_101 (i := 2) rfl) ?_
      refine zw_aload_n (pc := 3) (n := 0) (x := (d_ + 23)) rfl (zdal_p dlB_Sums_putSigns_101 (i := 3) rfl) ?_
      refine zw_getF (pc := 4) f_Sums_23 rfl ((hf_N2_.w hW).kr (o := 23) (by decide)) ((hf_N2_.w hW).lr (o := 23) (s := 0) (r := 12) (by decide)) (zdal_p dlB_Sums_putSigns_101 (i := 4) rfl) ?_
      refine zk_getI (pc := 7) f_Sums_35 rfl ((hf_N2_.w hW).kr (o := 12) (by decide)) (zdal_p dlB_Sums_putSigns_101 (i := 5) rfl) ?_
      rw [hf_N2_.e (by decide)]
      refine zr_icmp_ge (pc := 10) (tgt := 42) ⟨hu1_a, hu1_b⟩ ⟨(ze_r Mz (d_ + 12) 7).1, (ze_r Mz (d_ + 12) 7).2⟩ (by decide) (zdal_p dlB_Sums_putSigns_101 (i := 6) rfl) (fun hc_10 => ?_) (fun hc_10 => ?_)
      · skip
        refine zw_aload_n (pc := 42) (n := 0) (x := (d_ + 23)) rfl (zdal_p dlB_Sums_putSigns_101 (i := 20) rfl) ?_
        refine zw_bipush (pc := 43) (v := Int32.ofInt 39) (by decide) (zdal_p dlB_Sums_putSigns_101 (i := 21) rfl) ?_
        refine zk_callV hf_N2_.x (pc := 45) [.int (Int32.ofInt 39)] [] l_Sums_58 (u_Sums_solveS l d_ N2_ (hf_N2_.w hW) 39 (by decide) (by decide) F_ K_ hA_ c7_ (show 0 ≤ 39 by first | with_reducible assumption | assumption | omega) (show 39 ≤ 39 by first | with_reducible assumption | assumption | omega) (show (∀ j : Nat, j < F_ → -1000000 ≤ zg N2_ (d_ + 27) j ∧ zg N2_ (d_ + 27) j ≤ 1000000) by exact fun j_ hj_ => by rw [hp11_ j_ (by omega)]; split <;> omega)) rfl rfl ((hf_N2_.w hW).kr (o := 23) (by decide)) (by decide) (by decide) (Nat.le_of_ble_eq_true rfl) (zdal_p dlB_Sums_putSigns_101 (i := 22) rfl) ?_
        rintro _ N8_ ⟨rfl, hsN8_, hp0_N8_⟩
        replace hp0_N8_ : zSh F_ d_ N2_ N8_ 39 (zsq F_ K_ (fun j_ => zg N2_ (d_ + 27) j_)) := hp0_N8_
        have hf_N8_ : zFc d_ [] [] [] [25, 27] Mz N8_ := hf_N2_.tr hsN8_ (by decide) (by decide) (by decide) (by decide)
        have eD12_7_N8_ : ze N8_ (d_ + 12) 7 = ze N2_ (d_ + 12) 7 := hsN8_.e (by decide)
        have c10_ : zKm F_ K_ d_ N8_ := zKm.fr (hf_N2_.w hW) hsN8_ c7_ (by decide)
        show zW l m_Sums_putSigns (zn Mz + 0, zw Mz + 0) N8_ 48 [some (.ref (d_ + 23)), some (.int (Int32.ofInt a0_)), some (.int (Int32.ofInt u1_))] [] _
        have hsh_ := zSh_cq hp0_N8_ (g := zsq F_ K_ (fun j_ => if (a0_).toNat.testBit j_ = true then -1 else 1)) (fun k_ hk_ => zsq_cc (fun j_ hj_ => hp11_ j_ (by omega)) k_ hk_)
        exact zk_vret (pc := 48) rfl hf_N8_ (show (zSh F_ d_ Mz N8_ 39 (zsq F_ K_ (fun j_ => if (a0_).toNat.testBit j_ = true then -1 else 1))) by exact hsh_) (zdal_p dlB_Sums_putSigns_101 (i := 23) rfl)
      · skip
        refine zw_aload_n (pc := 13) (n := 0) (x := (d_ + 23)) rfl (zdal_p dlB_Sums_putSigns_101 (i := 7) rfl) ?_
        refine zw_getF (pc := 14) f_Sums_20 rfl ((hf_N2_.w hW).kr (o := 23) (by decide)) ((hf_N2_.w hW).lr (o := 23) (s := 2) (r := 26) (by decide)) (zdal_p dlB_Sums_putSigns_101 (i := 8) rfl) ?_
        refine zw_iload_n (pc := 17) (n := 2) (x := Int32.ofInt u1_) rfl (zdal_p dlB_Sums_putSigns_101 (i := 9) rfl) ?_
        refine zw_iload_n (pc := 18) (n := 1) (x := Int32.ofInt a0_) rfl (zdal_p dlB_Sums_putSigns_101 (i := 10) rfl) ?_
        refine zw_iload_n (pc := 19) (n := 2) (x := Int32.ofInt u1_) rfl (zdal_p dlB_Sums_putSigns_101 (i := 11) rfl) ?_
        refine zr_callS hf_N2_.x (pc := 20) [.int (Int32.ofInt a0_), .int (Int32.ofInt u1_)] [.int (Int32.ofInt u1_), .ref (d_ + 26)] l_Sums_61 (u_T_isIn l d_ N2_ (hf_N2_.w hW) a0_ ha0_a ha0_b u1_ hu1_a hu1_b (show 0 ≤ a0_ by first | with_reducible assumption | assumption | omega) (show a0_ < 2147483648 by first | with_reducible assumption | assumption | omega) (show 0 ≤ u1_ by first | with_reducible assumption | assumption | omega) (show u1_ < 31 by first | with_reducible assumption | assumption | omega)) rfl rfl (by decide) (Nat.le_of_ble_eq_true rfl) (zdal_p dlB_Sums_putSigns_101 (i := 12) rfl) ?_
        rintro _ N11_ ⟨v12_, rfl, ⟨hv12_a, hv12_b⟩, hsN11_, hp0_N11_⟩
        obtain rfl := hsN11_.eq.symm
        replace hp0_N11_ : ((v12_ = 1 ∧ zbt a0_ u1_) ∨ (v12_ = 0 ∧ ¬ zbt a0_ u1_)) := hp0_N11_
        rcases hp0_N11_ with ⟨rfl, ha20_0_hp0_N11_⟩ | ⟨rfl, ha20_0_hp0_N11_⟩
        · skip
          have hsg_ : (a0_).toNat.testBit (u1_).toNat = true := ha20_0_hp0_N11_
          show zW l m_Sums_putSigns (zn Mz + 0, zw Mz + 0) N2_ 23 [some (.ref (d_ + 23)), some (.int (Int32.ofInt a0_)), some (.int (Int32.ofInt u1_))] [.int (Int32.ofInt 1), .int (Int32.ofInt u1_), .ref (d_ + 26)] _
          refine zr_if_eq (pc := 23) (tgt := 32) ⟨(by decide), (by decide)⟩ (by decide) (zdal_p dlB_Sums_putSigns_101 (i := 13) rfl) (fun hc_23 => ?_) (fun hc_23 => ?_)
          · skip
            exact absurd hc_23 (by decide)
          · skip
            refine zr_ldc2 (pc := 26) (n := (-1)) (by decide) k_Sums_65 (zdal_p dlB_Sums_putSigns_101 (i := 14) rfl) ?_
            refine zw_goto (pc := 29) (tgt := 33) (by decide) (zdal_p dlB_Sums_putSigns_101 (i := 15) rfl) ?_
            refine zk_stJ hf_N2_.x (pc := 33) (o := 27) (by decide) l_Sums_31 ((hf_N2_.w hW).kr (o := 26) (by decide)) ((hf_N2_.w hW).lr (o := 26) (s := 0) (r := 27) (by decide)) ((hf_N2_.w hW).rr (o := 27) (t := 2) (n := 27) (by decide)) (by decide) (by omega) (by omega) (by decide) (Nat.le_of_ble_eq_true rfl) (zdal_p dlB_Sums_putSigns_101 (i := 17) rfl) (fun N13_ hN13_ hsN13_ => ?_)
            have hf_N13_ : zFc d_ [] [] [] [25, 27] Mz N13_ := hf_N2_.tr hsN13_ (by decide) (by decide) (by decide) (by decide)
            have hb0_N13_ : zFc d_ [] [] [] [27] Mz N13_ := hs3_.tr hsN13_ (by decide) (by decide) (by decide) (by decide)
            have eD12_7_N13_ : ze N13_ (d_ + 12) 7 = ze N2_ (d_ + 12) 7 := hsN13_.e (by decide)
            have c14_ : zKm F_ K_ d_ N13_ := zKm.fr (hf_N2_.w hW) hsN13_ c7_ (by decide)
            have hpn_ : (∀ j : Nat, (j : Int) < u1_ + 1 → zg N13_ (d_ + 27) j = if (a0_).toNat.testBit j = true then -1 else 1) := fun j_ hj_ => by by_cases g_ : (j_ : Int) = u1_; (rw [show j_ = (u1_).toNat by omega, zs_getJ hN13_ ⟨by omega, by omega⟩]; first | rw [if_pos hsg_] | rw [if_neg hsn_]); (rw [zs_othJ hN13_ (j := j_) (by omega)]; exact hp11_ j_ (by omega))
            refine zr_iinc (pc := 36) (i := 2) (a := u1_) (n := 1) (L2 := [some (.ref (d_ + 23)), some (.int (Int32.ofInt a0_)), some (.int (Int32.ofInt (u1_ + 1)))]) rfl (by decide) rfl (zdal_p dlB_Sums_putSigns_101 (i := 18) rfl) ?_
            refine zw_goto (pc := 39) (tgt := 2) (by decide) (zdal_p dlB_Sums_putSigns_101 (i := 19) rfl) ?_
            exact ih_2 (u1_ + 1) (by omega) (by omega) N13_ hb0_N13_ (show 0 ≤ (u1_ + 1) by first | with_reducible assumption | assumption | omega) (show (u1_ + 1) ≤ F_ by first | with_reducible assumption | assumption | omega) (show (∀ j : Nat, (j : Int) < (u1_ + 1) → zg N13_ (d_ + 27) j = if (a0_).toNat.testBit j = true then -1 else 1) by exact hpn_) (by omega)
        · skip
          have hsn_ : ¬ (a0_).toNat.testBit (u1_).toNat = true := ha20_0_hp0_N11_
          show zW l m_Sums_putSigns (zn Mz + 0, zw Mz + 0) N2_ 23 [some (.ref (d_ + 23)), some (.int (Int32.ofInt a0_)), some (.int (Int32.ofInt u1_))] [.int (Int32.ofInt 0), .int (Int32.ofInt u1_), .ref (d_ + 26)] _
          refine zr_if_eq (pc := 23) (tgt := 32) ⟨(by decide), (by decide)⟩ (by decide) (zdal_p dlB_Sums_putSigns_101 (i := 13) rfl) (fun hc_23 => ?_) (fun hc_23 => ?_)
          · skip
            refine zw_lconst (pc := 32) (v := Int64.ofInt 1) (by decide) (zdal_p dlB_Sums_putSigns_101 (i := 16) rfl) ?_
            refine zk_stJ hf_N2_.x (pc := 33) (o := 27) (by decide) l_Sums_31 ((hf_N2_.w hW).kr (o := 26) (by decide)) ((hf_N2_.w hW).lr (o := 26) (s := 0) (r := 27) (by decide)) ((hf_N2_.w hW).rr (o := 27) (t := 2) (n := 27) (by decide)) (by decide) (by omega) (by omega) (by decide) (Nat.le_of_ble_eq_true rfl) (zdal_p dlB_Sums_putSigns_101 (i := 17) rfl) (fun N15_ hN15_ hsN15_ => ?_)
            have hf_N15_ : zFc d_ [] [] [] [25, 27] Mz N15_ := hf_N2_.tr hsN15_ (by decide) (by decide) (by decide) (by decide)
            have hb0_N15_ : zFc d_ [] [] [] [27] Mz N15_ := hs3_.tr hsN15_ (by decide) (by decide) (by decide) (by decide)
            have eD12_7_N15_ : ze N15_ (d_ + 12) 7 = ze N2_ (d_ + 12) 7 := hsN15_.e (by decide)
            have c16_ : zKm F_ K_ d_ N15_ := zKm.fr (hf_N2_.w hW) hsN15_ c7_ (by decide)
            have hpn_ : (∀ j : Nat, (j : Int) < u1_ + 1 → zg N15_ (d_ + 27) j = if (a0_).toNat.testBit j = true then -1 else 1) := fun j_ hj_ => by by_cases g_ : (j_ : Int) = u1_; (rw [show j_ = (u1_).toNat by omega, zs_getJ hN15_ ⟨by omega, by omega⟩]; first | rw [if_pos hsg_] | rw [if_neg hsn_]); (rw [zs_othJ hN15_ (j := j_) (by omega)]; exact hp11_ j_ (by omega))
            refine zr_iinc (pc := 36) (i := 2) (a := u1_) (n := 1) (L2 := [some (.ref (d_ + 23)), some (.int (Int32.ofInt a0_)), some (.int (Int32.ofInt (u1_ + 1)))]) rfl (by decide) rfl (zdal_p dlB_Sums_putSigns_101 (i := 18) rfl) ?_
            refine zw_goto (pc := 39) (tgt := 2) (by decide) (zdal_p dlB_Sums_putSigns_101 (i := 19) rfl) ?_
            exact ih_2 (u1_ + 1) (by omega) (by omega) N15_ hb0_N15_ (show 0 ≤ (u1_ + 1) by first | with_reducible assumption | assumption | omega) (show (u1_ + 1) ≤ F_ by first | with_reducible assumption | assumption | omega) (show (∀ j : Nat, (j : Int) < (u1_ + 1) → zg N15_ (d_ + 27) j = if (a0_).toNat.testBit j = true then -1 else 1) by exact hpn_) (by omega)
          · skip
            exact absurd hc_23 (by decide)
  exact lp_2 _ 0 (by decide) (by decide) Mz zFc.rf (show 0 ≤ (0 : Int) by first | with_reducible assumption | assumption | omega) (show (0 : Int) ≤ F_ by first | with_reducible assumption | assumption | omega) (show (∀ j : Nat, (j : Int) < (0 : Int) → zg Mz (d_ + 27) j = if (a0_).toNat.testBit j = true then -1 else 1) by exact fun j_ hj_ => absurd hj_ (by omega)) (Nat.lt_succ_self _)
set_option maxHeartbeats 4000000 in
theorem u_T_unitsU (l : Launch) (d_ : Nat) (Mz : zMem) (hW : zKW d_ Mz) (hnow : zf Mz 0 2 = some (d_ + 0)) (T_ : zGT) (hT_ : T_ ∈ gTabs) (hAs_ : gAs T_) (hGr_ : gGr T_) (p0_ : zTt T_ d_ Mz) (p1_ : zFir T_ d_ Mz) (p2_ : zSbK T_ d_ Mz) (p3_ : zUW T_ d_ Mz) : zC l m_T_units 0 0 [.ref 0] Mz (zqcI d_ [] [] [(28, 3), (28, 4)] [11, 30, 32] Mz (fun v N => v = ((2 ^ (ze N (d_ + 28) 3).toNat : Nat) : Int) ∧ ze N (d_ + 28) 4 = 1 ∧ zUf (zUS T_) d_ N)) := by
  refine zC_of (L0 := [some (.ref 0)]) md_T_units (Nat.le_of_ble_eq_true rfl) rfl ?_ zQ0
  have hf : zFc d_ [] [] [(28, 3), (28, 4)] [11, 30, 32] Mz Mz := zFc.rf
  have r_D28_3 := ze_r Mz (d_ + 28) 3
  have r_D28_4 := ze_r Mz (d_ + 28) 4
  have hO_ := gTabs_ok T_ hT_
  have hG_ := hO_.1
  have hn24_ := hG_.2.1
  have hn1_ := hG_.1
  have hfl_ := p1_.1
  obtain ⟨⟨hF1_, hF27_⟩, hAr_⟩ := id (gT_zTA hT_)
  refine zw_aload_n (pc := 0) (n := 0) (x := 0) rfl (zdal_p dlB_T_units_79 (i := 0) rfl) ?_
  refine zw_getF (pc := 1) f_T_28 rfl ((hf.w hW).ka (o := 0) (by decide)) (hf.now hnow) (zdal_p dlB_T_units_79 (i := 1) rfl) ?_
  refine zw_getF (pc := 4) f_T_227 rfl ((hf.w hW).kr (o := 0) (by decide)) ((hf.w hW).lr (o := 0) (s := 3) (r := 28) (by decide)) (zdal_p dlB_T_units_79 (i := 2) rfl) ?_
  refine zk_callV hf.x (pc := 7) [] [] l_T_231 (u_Units_seekU l d_ Mz (hf.w hW) T_ hT_ hAs_ hGr_ p0_ p1_ p2_ p3_) rfl rfl ((hf.w hW).kr (o := 28) (by decide)) (by decide) (by decide) (Nat.le_of_ble_eq_true rfl) (zdal_p dlB_T_units_79 (i := 3) rfl) ?_
  rintro _ N1_ ⟨rfl, hsN1_, hp0_N1_⟩
  replace hp0_N1_ : (ze N1_ (d_ + 28) 4 = 1 ∧ zUf (zUS T_) d_ N1_) := hp0_N1_
  have hf_N1_ : zFc d_ [] [] [(28, 3), (28, 4)] [11, 30, 32] Mz N1_ := hf.tr hsN1_ (by decide) (by decide) (by decide) (by decide)
  have rD28_3_N1_ := ze_r N1_ (d_ + 28) 3
  have rD28_4_N1_ := ze_r N1_ (d_ + 28) 4
  have c3_ : zTt T_ d_ N1_ := zTt.fr (hf.w hW) hsN1_ p0_ (by decide)
  have c4_ : zFir T_ d_ N1_ := zFir.fr (hf.w hW) hsN1_ p1_ (by decide)
  have c5_ : zSbK T_ d_ N1_ := zSbK.fr (hf.w hW) hsN1_ p2_ (by decide)
  show zW l m_T_units (zn Mz + 0, zw Mz + 0) N1_ 10 [some (.ref 0)] [] _
  have hsk_ := hp0_N1_
  have hk1_ := hsk_.1
  have hub_ := hsk_.2.1.1
  refine zw_aload_n (pc := 10) (n := 0) (x := 0) rfl (zdal_p dlB_T_units_79 (i := 4) rfl) ?_
  refine zw_getF (pc := 11) f_T_28 rfl ((hf_N1_.w hW).ka (o := 0) (by decide)) (hf_N1_.now hnow) (zdal_p dlB_T_units_79 (i := 5) rfl) ?_
  refine zw_getF (pc := 14) f_T_227 rfl ((hf_N1_.w hW).kr (o := 0) (by decide)) ((hf_N1_.w hW).lr (o := 0) (s := 3) (r := 28) (by decide)) (zdal_p dlB_T_units_79 (i := 6) rfl) ?_
  refine zk_callV hf_N1_.x (pc := 17) [] [] l_T_236 (u_Units_totalU l d_ N1_ (hf_N1_.w hW) (show 0 ≤ ze N1_ (d_ + 28) 3 ∧ ze N1_ (d_ + 28) 3 ≤ 27 by first | with_reducible assumption | assumption | omega)) rfl rfl ((hf_N1_.w hW).kr (o := 28) (by decide)) (by decide) (by decide) (Nat.le_of_ble_eq_true rfl) (zdal_p dlB_T_units_79 (i := 7) rfl) ?_
  rintro _ N6_ ⟨v7_, rfl, ⟨hv7_a, hv7_b⟩, hsN6_, ⟨hp0_N6_, hp1_N6_⟩⟩
  obtain rfl := hsN6_.eq.symm
  show zW l m_T_units (zn Mz + 0, zw Mz + 0) N1_ 20 [some (.ref 0)] [.int (Int32.ofInt v7_)] _
  have hto_ := hp0_N6_
  exact zk_iret (pc := 20) (ty := .int) rfl rfl ⟨by omega, by omega⟩ hf_N1_ ⟨(show v7_ = ((2 ^ (ze N1_ (d_ + 28) 3).toNat : Nat) : Int) by exact hto_), (show ze N1_ (d_ + 28) 4 = 1 by exact hk1_), hsk_.2⟩ (zdal_p dlB_T_units_79 (i := 8) rfl)
set_option maxHeartbeats 4000000 in
theorem u_T_unitU (l : Launch) (d_ : Nat) (Mz : zMem) (hW : zKW d_ Mz) (hnow : zf Mz 0 2 = some (d_ + 0)) (a0_ : Int) (ha0_a : -2147483648 ≤ a0_) (ha0_b : a0_ < 2147483648) (a1_ : Int) (ha1_a : -2147483648 ≤ a1_) (ha1_b : a1_ < 2147483648) (T_ : zGT) (hT_ : T_ ∈ gTabs) (hAs_ : gAs T_) (hGr_ : gGr T_) (p0_ : zTt T_ d_ Mz) (p1_ : zFir T_ d_ Mz) (p2_ : zSbK T_ d_ Mz) (p3_ : zUW T_ d_ Mz) (p4_ : zKm (gF T_).length (gmkI T_) d_ Mz) : zC l m_T_unit 0 0 [.ref 0, .int (Int32.ofInt a0_), .int (Int32.ofInt a1_)] Mz (zqcI d_ [] [] [(28, 3), (28, 4)] [11, 25, 27, 30, 32] Mz (fun v N => ((((0 ≤ a0_ ∧ a0_ < ((2 ^ (ze N (d_ + 28) 3).toNat : Nat) : Int)) ∧ 0 ≤ a1_ ∧ a1_ < ((gF T_).length : Int)) ∧ z32w v ((zsq (gF T_).length (gmkI T_) (zyg T_ (zUk d_ N (a0_).toNat))) (a1_).toNat)) ∨ (¬ ((0 ≤ a0_ ∧ a0_ < ((2 ^ (ze N (d_ + 28) 3).toNat : Nat) : Int)) ∧ 0 ≤ a1_ ∧ a1_ < ((gF T_).length : Int)) ∧ v = (-1000000 : Int))) ∧ ze N (d_ + 28) 4 = 1 ∧ zUf (zUS T_) d_ N)) := by
  refine zC_of (L0 := [some (.ref 0), some (.int (Int32.ofInt a0_)), some (.int (Int32.ofInt a1_))]) md_T_unit (Nat.le_of_ble_eq_true rfl) rfl ?_ zQ0
  have hf : zFc d_ [] [] [(28, 3), (28, 4)] [11, 25, 27, 30, 32] Mz Mz := zFc.rf
  have r_D12_7 := ze_r Mz (d_ + 12) 7
  have r_D28_3 := ze_r Mz (d_ + 28) 3
  have r_D28_4 := ze_r Mz (d_ + 28) 4
  have hO_ := gTabs_ok T_ hT_
  have hG_ := hO_.1
  have hn24_ := hG_.2.1
  have hn1_ := hG_.1
  have hfl_ := p1_.1
  obtain ⟨⟨hF1_, hF27_⟩, hAr_⟩ := id (gT_zTA hT_)
  have hTA_ := gT_zTA hT_
  have hfk_ := p4_.1
  refine zw_aload_n (pc := 0) (n := 0) (x := 0) rfl (zdal_p dlB_T_unit_96 (i := 0) rfl) ?_
  refine zw_getF (pc := 1) f_T_28 rfl ((hf.w hW).ka (o := 0) (by decide)) (hf.now hnow) (zdal_p dlB_T_unit_96 (i := 1) rfl) ?_
  refine zw_getF (pc := 4) f_T_227 rfl ((hf.w hW).kr (o := 0) (by decide)) ((hf.w hW).lr (o := 0) (s := 3) (r := 28) (by decide)) (zdal_p dlB_T_unit_96 (i := 2) rfl) ?_
  refine zk_callV hf.x (pc := 7) [] [] l_T_231 (u_Units_seekU l d_ Mz (hf.w hW) T_ hT_ hAs_ hGr_ p0_ p1_ p2_ p3_) rfl rfl ((hf.w hW).kr (o := 28) (by decide)) (by decide) (by decide) (Nat.le_of_ble_eq_true rfl) (zdal_p dlB_T_unit_96 (i := 3) rfl) ?_
  rintro _ N1_ ⟨rfl, hsN1_, hp0_N1_⟩
  replace hp0_N1_ : (ze N1_ (d_ + 28) 4 = 1 ∧ zUf (zUS T_) d_ N1_) := hp0_N1_
  have hf_N1_ : zFc d_ [] [] [(28, 3), (28, 4)] [11, 25, 27, 30, 32] Mz N1_ := hf.tr hsN1_ (by decide) (by decide) (by decide) (by decide)
  have eD12_7_N1_ : ze N1_ (d_ + 12) 7 = ze Mz (d_ + 12) 7 := hsN1_.e (by decide)
  have rD28_3_N1_ := ze_r N1_ (d_ + 28) 3
  have rD28_4_N1_ := ze_r N1_ (d_ + 28) 4
  have c3_ : zTt T_ d_ N1_ := zTt.fr (hf.w hW) hsN1_ p0_ (by decide)
  have c4_ : zFir T_ d_ N1_ := zFir.fr (hf.w hW) hsN1_ p1_ (by decide)
  have c5_ : zSbK T_ d_ N1_ := zSbK.fr (hf.w hW) hsN1_ p2_ (by decide)
  have c6_ : zKm (gF T_).length (gmkI T_) d_ N1_ := zKm.fr (hf.w hW) hsN1_ p4_ (by decide)
  show zW l m_T_unit (zn Mz + 0, zw Mz + 0) N1_ 10 [some (.ref 0), some (.int (Int32.ofInt a0_)), some (.int (Int32.ofInt a1_))] [] _
  have hsk_ := hp0_N1_
  have hk1_ := hsk_.1
  have hub_ := hsk_.2.1.1
  refine zw_iload_n (pc := 10) (n := 1) (x := Int32.ofInt a0_) rfl (zdal_p dlB_T_unit_96 (i := 4) rfl) ?_
  refine zr_if_lt (pc := 11) (tgt := 42) ⟨ha0_a, ha0_b⟩ (by decide) (zdal_p dlB_T_unit_96 (i := 5) rfl) (fun hc_11 => ?_) (fun hc_11 => ?_)
  · skip
    refine zw_ldc (pc := 42) (v := Int32.ofInt (-1000000)) (by rw [show Int32.ofInt (-1000000) = ((-1000000) : Int32) by decide]; exact k_T_204) (zdal_p dlB_T_unit_96 (i := 18) rfl) ?_
    exact zk_iret (pc := 44) (ty := .int) rfl rfl ⟨by omega, by omega⟩ hf_N1_ ⟨(show (((0 ≤ a0_ ∧ a0_ < ((2 ^ (ze N1_ (d_ + 28) 3).toNat : Nat) : Int)) ∧ 0 ≤ a1_ ∧ a1_ < ((gF T_).length : Int)) ∧ z32w ((-1000000)) ((zsq (gF T_).length (gmkI T_) (zyg T_ (zUk d_ N1_ (a0_).toNat))) (a1_).toNat)) ∨ (¬ ((0 ≤ a0_ ∧ a0_ < ((2 ^ (ze N1_ (d_ + 28) 3).toNat : Nat) : Int)) ∧ 0 ≤ a1_ ∧ a1_ < ((gF T_).length : Int)) ∧ ((-1000000)) = (-1000000 : Int)) by first | exact Or.inr ⟨by omega, rfl⟩ | exact Or.inl ⟨by omega, hzw_⟩), (show ze N1_ (d_ + 28) 4 = 1 by omega), hsk_.2⟩ (zdal_p dlB_T_unit_96 (i := 19) rfl)
  · skip
    refine zw_iload_n (pc := 14) (n := 1) (x := Int32.ofInt a0_) rfl (zdal_p dlB_T_unit_96 (i := 6) rfl) ?_
    refine zw_aload_n (pc := 15) (n := 0) (x := 0) rfl (zdal_p dlB_T_unit_96 (i := 7) rfl) ?_
    refine zw_getF (pc := 16) f_T_28 rfl ((hf_N1_.w hW).ka (o := 0) (by decide)) (hf_N1_.now hnow) (zdal_p dlB_T_unit_96 (i := 8) rfl) ?_
    refine zw_getF (pc := 19) f_T_227 rfl ((hf_N1_.w hW).kr (o := 0) (by decide)) ((hf_N1_.w hW).lr (o := 0) (s := 3) (r := 28) (by decide)) (zdal_p dlB_T_unit_96 (i := 9) rfl) ?_
    refine zk_callV hf_N1_.x (pc := 22) [] [.int (Int32.ofInt a0_)] l_T_236 (u_Units_totalU l d_ N1_ (hf_N1_.w hW) (show 0 ≤ ze N1_ (d_ + 28) 3 ∧ ze N1_ (d_ + 28) 3 ≤ 27 by first | with_reducible assumption | assumption | omega)) rfl rfl ((hf_N1_.w hW).kr (o := 28) (by decide)) (by decide) (by decide) (Nat.le_of_ble_eq_true rfl) (zdal_p dlB_T_unit_96 (i := 10) rfl) ?_
    rintro _ N7_ ⟨v8_, rfl, ⟨hv8_a, hv8_b⟩, hsN7_, ⟨hp0_N7_, hp1_N7_⟩⟩
    obtain rfl := hsN7_.eq.symm
    show zW l m_T_unit (zn Mz + 0, zw Mz + 0) N1_ 25 [some (.ref 0), some (.int (Int32.ofInt a0_)), some (.int (Int32.ofInt a1_))] [.int (Int32.ofInt v8_), .int (Int32.ofInt a0_)] _
    have hto_ := hp0_N7_
    have hto2_ := hp1_N7_
    refine zr_icmp_ge (pc := 25) (tgt := 42) ⟨ha0_a, ha0_b⟩ ⟨hv8_a, hv8_b⟩ (by decide) (zdal_p dlB_T_unit_96 (i := 11) rfl) (fun hc_25 => ?_) (fun hc_25 => ?_)
    · skip
      refine zw_ldc (pc := 42) (v := Int32.ofInt (-1000000)) (by rw [show Int32.ofInt (-1000000) = ((-1000000) : Int32) by decide]; exact k_T_204) (zdal_p dlB_T_unit_96 (i := 18) rfl) ?_
      exact zk_iret (pc := 44) (ty := .int) rfl rfl ⟨by omega, by omega⟩ hf_N1_ ⟨(show (((0 ≤ a0_ ∧ a0_ < ((2 ^ (ze N1_ (d_ + 28) 3).toNat : Nat) : Int)) ∧ 0 ≤ a1_ ∧ a1_ < ((gF T_).length : Int)) ∧ z32w ((-1000000)) ((zsq (gF T_).length (gmkI T_) (zyg T_ (zUk d_ N1_ (a0_).toNat))) (a1_).toNat)) ∨ (¬ ((0 ≤ a0_ ∧ a0_ < ((2 ^ (ze N1_ (d_ + 28) 3).toNat : Nat) : Int)) ∧ 0 ≤ a1_ ∧ a1_ < ((gF T_).length : Int)) ∧ ((-1000000)) = (-1000000 : Int)) by first | exact Or.inr ⟨by omega, rfl⟩ | exact Or.inl ⟨by omega, hzw_⟩), (show ze N1_ (d_ + 28) 4 = 1 by omega), hsk_.2⟩ (zdal_p dlB_T_unit_96 (i := 19) rfl)
    · skip
      refine zw_aload_n (pc := 28) (n := 0) (x := 0) rfl (zdal_p dlB_T_unit_96 (i := 12) rfl) ?_
      refine zw_getF (pc := 29) f_T_28 rfl ((hf_N1_.w hW).ka (o := 0) (by decide)) (hf_N1_.now hnow) (zdal_p dlB_T_unit_96 (i := 13) rfl) ?_
      refine zw_getF (pc := 32) f_T_85 rfl ((hf_N1_.w hW).kr (o := 0) (by decide)) ((hf_N1_.w hW).lr (o := 0) (s := 1) (r := 12) (by decide)) (zdal_p dlB_T_unit_96 (i := 14) rfl) ?_
      refine zw_iload_n (pc := 35) (n := 2) (x := Int32.ofInt a1_) rfl (zdal_p dlB_T_unit_96 (i := 15) rfl) ?_
      refine zk_callV hf_N1_.x (pc := 36) [.int (Int32.ofInt a1_)] [] l_T_143 (u_Sorts_hasSortG l d_ N1_ (hf_N1_.w hW) a1_ ha1_a ha1_b) rfl rfl ((hf_N1_.w hW).kr (o := 12) (by decide)) (by decide) (by decide) (Nat.le_of_ble_eq_true rfl) (zdal_p dlB_T_unit_96 (i := 16) rfl) ?_
      rintro _ N9_ ⟨v10_, rfl, ⟨hv10_a, hv10_b⟩, hsN9_, hp0_N9_⟩
      obtain rfl := hsN9_.eq.symm
      replace hp0_N9_ : ((v10_ = 1 ∧ 0 ≤ a1_ ∧ a1_ < ze N1_ (d_ + 12) 7) ∨ (v10_ = 0 ∧ (a1_ < 0 ∨ ze N1_ (d_ + 12) 7 ≤ a1_))) := hp0_N9_
      rcases hp0_N9_ with ⟨rfl, ha36_0_hp0_N9_, ha36_1_hp0_N9_⟩ | ⟨rfl, ha36_0_hp0_N9_⟩
      · skip
        show zW l m_T_unit (zn Mz + 0, zw Mz + 0) N1_ 39 [some (.ref 0), some (.int (Int32.ofInt a0_)), some (.int (Int32.ofInt a1_))] [.int (Int32.ofInt 1)] _
        refine zr_if_ne (pc := 39) (tgt := 45) ⟨(by decide), (by decide)⟩ (by decide) (zdal_p dlB_T_unit_96 (i := 17) rfl) (fun hc_39 => ?_) (fun hc_39 => ?_)
        · skip
          refine zw_aload_n (pc := 45) (n := 0) (x := 0) rfl (zdal_p dlB_T_unit_96 (i := 20) rfl) ?_
          refine zw_getF (pc := 46) f_T_28 rfl ((hf_N1_.w hW).ka (o := 0) (by decide)) (hf_N1_.now hnow) (zdal_p dlB_T_unit_96 (i := 21) rfl) ?_
          refine zw_getF (pc := 49) f_T_169 rfl ((hf_N1_.w hW).kr (o := 0) (by decide)) ((hf_N1_.w hW).lr (o := 0) (s := 2) (r := 23) (by decide)) (zdal_p dlB_T_unit_96 (i := 22) rfl) ?_
          refine zw_aload_n (pc := 52) (n := 0) (x := 0) rfl (zdal_p dlB_T_unit_96 (i := 23) rfl) ?_
          refine zw_getF (pc := 53) f_T_28 rfl ((hf_N1_.w hW).ka (o := 0) (by decide)) (hf_N1_.now hnow) (zdal_p dlB_T_unit_97 (i := 0) rfl) ?_
          refine zw_getF (pc := 56) f_T_227 rfl ((hf_N1_.w hW).kr (o := 0) (by decide)) ((hf_N1_.w hW).lr (o := 0) (s := 3) (r := 28) (by decide)) (zdal_p dlB_T_unit_97 (i := 1) rfl) ?_
          refine zw_iload_n (pc := 59) (n := 1) (x := Int32.ofInt a0_) rfl (zdal_p dlB_T_unit_97 (i := 2) rfl) ?_
          refine zk_callV hf_N1_.x (pc := 60) [.int (Int32.ofInt a0_)] [.ref (d_ + 23)] l_T_239 (u_Units_signsOfU l d_ N1_ (hf_N1_.w hW) a0_ ha0_a ha0_b T_ hT_ (zUS T_) c4_ hsk_.2 (show 0 ≤ a0_ by first | with_reducible assumption | assumption | omega) (show a0_ < 134217728 by first | with_reducible assumption | assumption | omega)) rfl rfl ((hf_N1_.w hW).kr (o := 28) (by decide)) (by decide) (by decide) (Nat.le_of_ble_eq_true rfl) (zdal_p dlB_T_unit_97 (i := 3) rfl) ?_
          rintro _ N11_ ⟨v12_, rfl, ⟨hv12_a, hv12_b⟩, hsN11_, ⟨hp0_N11_, hp1_N11_⟩⟩
          obtain rfl := hsN11_.eq.symm
          show zW l m_T_unit (zn Mz + 0, zw Mz + 0) N1_ 63 [some (.ref 0), some (.int (Int32.ofInt a0_)), some (.int (Int32.ofInt a1_))] [.int (Int32.ofInt v12_), .ref (d_ + 23)] _
          have hsb_ := hp0_N11_
          have hst_ := hp1_N11_
          refine zk_callV hf_N1_.x (pc := 63) [.int (Int32.ofInt v12_)] [] l_T_242 (u_Sums_putSignsU l d_ N1_ (hf_N1_.w hW) v12_ hv12_a hv12_b (gF T_).length (gmkI T_) hTA_ c6_ (show 0 ≤ v12_ by first | with_reducible assumption | assumption | omega) (show v12_ < 134217728 by first | with_reducible assumption | assumption | omega)) rfl rfl ((hf_N1_.w hW).kr (o := 23) (by decide)) (by decide) (by decide) (Nat.le_of_ble_eq_true rfl) (zdal_p dlB_T_unit_97 (i := 4) rfl) ?_
          rintro _ N13_ ⟨rfl, hsN13_, hp0_N13_⟩
          replace hp0_N13_ : (zSh (gF T_).length d_ N1_ N13_ 39 (zsq (gF T_).length (gmkI T_) (fun j_ => if (v12_).toNat.testBit j_ = true then -1 else 1))) := hp0_N13_
          have hf_N13_ : zFc d_ [] [] [(28, 3), (28, 4)] [11, 25, 27, 30, 32] Mz N13_ := hf_N1_.tr hsN13_ (by decide) (by decide) (by decide) (by decide)
          have eD12_7_N13_ : ze N13_ (d_ + 12) 7 = ze N1_ (d_ + 12) 7 := hsN13_.e (by decide)
          have eD28_3_N13_ : ze N13_ (d_ + 28) 3 = ze N1_ (d_ + 28) 3 := hsN13_.e (by decide)
          have eD28_4_N13_ : ze N13_ (d_ + 28) 4 = ze N1_ (d_ + 28) 4 := hsN13_.e (by decide)
          have c15_ : zTt T_ d_ N13_ := zTt.fr (hf_N1_.w hW) hsN13_ c3_ (by decide)
          have c16_ : zFir T_ d_ N13_ := zFir.fr (hf_N1_.w hW) hsN13_ c4_ (by decide)
          have c17_ : zSbK T_ d_ N13_ := zSbK.fr (hf_N1_.w hW) hsN13_ c5_ (by decide)
          have c18_ : zKm (gF T_).length (gmkI T_) d_ N13_ := zKm.fr (hf_N1_.w hW) hsN13_ c6_ (by decide)
          have c19_ : zUf (zUS T_) d_ N13_ := zUf.fr (hf_N1_.w hW) hsN13_ hsk_.2 (by decide)
          show zW l m_T_unit (zn Mz + 0, zw Mz + 0) N13_ 66 [some (.ref 0), some (.int (Int32.ofInt a0_)), some (.int (Int32.ofInt a1_))] [] _
          have hsh_ := zSh_cq hp0_N13_ (g := (zsq (gF T_).length (gmkI T_) (zyg T_ (zUk d_ N13_ (a0_).toNat)))) (fun k_ hk_ => zsq_cc (fun j_ hj_ => by unfold zyg; rw [zUk_c (d := d_) (k := (a0_).toNat) (hsN13_.e (by decide)) (fun i_ => hsN13_.r (by decide) i_)]; by_cases g_ : (zUk d_ N1_ (a0_).toNat).testBit ((gF T_).length - 1 - j_) = true; rw [if_pos ((hst_ j_ hj_).mpr g_), if_pos g_]; rw [if_neg (fun q_ => g_ ((hst_ j_ hj_).mp q_)), if_neg g_]) k_ hk_)
          refine zw_aload_n (pc := 66) (n := 0) (x := 0) rfl (zdal_p dlB_T_unit_97 (i := 5) rfl) ?_
          refine zw_getF (pc := 67) f_T_28 rfl ((hf_N13_.w hW).ka (o := 0) (by decide)) (hf_N13_.now hnow) (zdal_p dlB_T_unit_97 (i := 6) rfl) ?_
          refine zw_getF (pc := 70) f_T_169 rfl ((hf_N13_.w hW).kr (o := 0) (by decide)) ((hf_N13_.w hW).lr (o := 0) (s := 2) (r := 23) (by decide)) (zdal_p dlB_T_unit_97 (i := 7) rfl) ?_
          refine zw_bipush (pc := 73) (v := Int32.ofInt 39) (by decide) (zdal_p dlB_T_unit_97 (i := 8) rfl) ?_
          refine zw_iload_n (pc := 75) (n := 2) (x := Int32.ofInt a1_) rfl (zdal_p dlB_T_unit_97 (i := 9) rfl) ?_
          refine zk_callV hf_N13_.x (pc := 76) [.int (Int32.ofInt 39), .int (Int32.ofInt a1_)] [] l_T_179 (u_Sums_numberAt l d_ N13_ (hf_N13_.w hW) 39 (by decide) (by decide) a1_ ha1_a ha1_b (show 0 ≤ 39 by first | with_reducible assumption | assumption | omega) (show 39 ≤ 39 by first | with_reducible assumption | assumption | omega) (show 0 ≤ a1_ by first | with_reducible assumption | assumption | omega) (show a1_ ≤ 26 by first | with_reducible assumption | assumption | omega)) rfl rfl ((hf_N13_.w hW).kr (o := 23) (by decide)) (by decide) (by decide) (Nat.le_of_ble_eq_true rfl) (zdal_p dlB_T_unit_97 (i := 10) rfl) ?_
          rintro _ N20_ ⟨v21_, rfl, ⟨hv21_a, hv21_b⟩, hsN20_, hp0_N20_⟩
          obtain rfl := hsN20_.eq.symm
          replace hp0_N20_ : v21_ = zg N13_ (d_ + 25) (39 * 27 + a1_).toNat := hp0_N20_
          show zW l m_T_unit (zn Mz + 0, zw Mz + 0) N13_ 79 [some (.ref 0), some (.int (Int32.ofInt a0_)), some (.int (Int32.ofInt a1_))] [.long (Int64.ofInt v21_)] _
          have hnv_ := hp0_N20_
          have hnx_ := hnv_.trans (hsh_ _)
          rw [if_pos (by omega)] at hnx_
          rw [show ((((39 : Int) * 27 + a1_).toNat : Int) - 27 * 39).toNat = (a1_).toNat by omega] at hnx_
          refine zr_l2i (pc := 79) (zdal_p dlB_T_unit_97 (i := 11) rfl) ?_
          refine zk_nmW (fun v22_ hv22_ hv22_w => ?_)
          obtain ⟨hv22_a, hv22_b⟩ := hv22_
          have hzw_ := z32w_e hv22_w hnx_
          exact zk_iret (pc := 80) (ty := .int) rfl rfl ⟨by omega, by omega⟩ hf_N13_ ⟨(show (((0 ≤ a0_ ∧ a0_ < ((2 ^ (ze N13_ (d_ + 28) 3).toNat : Nat) : Int)) ∧ 0 ≤ a1_ ∧ a1_ < ((gF T_).length : Int)) ∧ z32w v22_ ((zsq (gF T_).length (gmkI T_) (zyg T_ (zUk d_ N13_ (a0_).toNat))) (a1_).toNat)) ∨ (¬ ((0 ≤ a0_ ∧ a0_ < ((2 ^ (ze N13_ (d_ + 28) 3).toNat : Nat) : Int)) ∧ 0 ≤ a1_ ∧ a1_ < ((gF T_).length : Int)) ∧ v22_ = (-1000000 : Int)) by first | exact Or.inr ⟨by omega, rfl⟩ | exact Or.inl ⟨by omega, hzw_⟩), (show ze N13_ (d_ + 28) 4 = 1 by omega), c19_⟩ (zdal_p dlB_T_unit_97 (i := 12) rfl)
        · skip
          exact absurd hc_39 (by decide)
      · skip
        show zW l m_T_unit (zn Mz + 0, zw Mz + 0) N1_ 39 [some (.ref 0), some (.int (Int32.ofInt a0_)), some (.int (Int32.ofInt a1_))] [.int (Int32.ofInt 0)] _
        refine zr_if_ne (pc := 39) (tgt := 45) ⟨(by decide), (by decide)⟩ (by decide) (zdal_p dlB_T_unit_96 (i := 17) rfl) (fun hc_39 => ?_) (fun hc_39 => ?_)
        · skip
          exact absurd hc_39 (by decide)
        · skip
          refine zw_ldc (pc := 42) (v := Int32.ofInt (-1000000)) (by rw [show Int32.ofInt (-1000000) = ((-1000000) : Int32) by decide]; exact k_T_204) (zdal_p dlB_T_unit_96 (i := 18) rfl) ?_
          exact zk_iret (pc := 44) (ty := .int) rfl rfl ⟨by omega, by omega⟩ hf_N1_ ⟨(show (((0 ≤ a0_ ∧ a0_ < ((2 ^ (ze N1_ (d_ + 28) 3).toNat : Nat) : Int)) ∧ 0 ≤ a1_ ∧ a1_ < ((gF T_).length : Int)) ∧ z32w ((-1000000)) ((zsq (gF T_).length (gmkI T_) (zyg T_ (zUk d_ N1_ (a0_).toNat))) (a1_).toNat)) ∨ (¬ ((0 ≤ a0_ ∧ a0_ < ((2 ^ (ze N1_ (d_ + 28) 3).toNat : Nat) : Int)) ∧ 0 ≤ a1_ ∧ a1_ < ((gF T_).length : Int)) ∧ ((-1000000)) = (-1000000 : Int)) by first | exact Or.inr ⟨by omega, rfl⟩ | exact Or.inl ⟨by omega, hzw_⟩), (show ze N1_ (d_ + 28) 4 = 1 by omega), hsk_.2⟩ (zdal_p dlB_T_unit_96 (i := 19) rfl)
theorem zus_z {T : zGT} {M : zMem} {s : Int} (h26 : ze M 81 26 = ((gF T).length : Int)) : ∀ n : Nat, (∀ k, k < n → 0 ≤ ze M 109 k) → zus M s n = zsm (fun k => zyg T s.toNat (ze M 109 k).toNat) n
  | 0, _ => rfl
  | n + 1, h => by
    show zus M s n + (if s.toNat.testBit (ze M 81 26 - 1 - ze M 109 n).toNat = true then -1 else 1) = zsm (fun k => zyg T s.toNat (ze M 109 k).toNat) n + (if s.toNat.testBit ((gF T).length - 1 - (ze M 109 n).toNat) = true then -1 else 1)
    rw [zus_z h26 n (fun k hk => h k (by omega)), show (ze M 81 26 - 1 - ze M 109 n).toNat = (gF T).length - 1 - (ze M 109 n).toNat by have := h n (by omega); omega]
theorem zuk_z {T : zGT} {M : zMem} {s j : Int} (h26 : ze M 81 26 = ((gF T).length : Int)) (hq : zMq T j M) (hs : zMss T (gFn T j.toNat) M (gN T : Int)) : zuk M s ↔ zyR T j.toNat s.toNat := by
  have h1 := hs.2 (zyg T s.toNat)
  rw [Int.toNat_natCast] at h1
  have e : ((gmm T (gFn T j.toNat) : Nat) : Int) = ze M 81 55 := hq.1.1.symm
  unfold zuk zyR zCgr
  rw [e, ← h1, zus_z h26 _ (fun k hk => (hq.2.1 k (by omega)).1)]
theorem zyR_c {T : zGT} (hT : T ∈ gTabs) (hA : gGr T) {j r r' : Nat} (hj : j < (gF T).length) (h : ∀ s, j ≤ s → s < (gF T).length → r.testBit ((gF T).length - 1 - s) = r'.testBit ((gF T).length - 1 - s)) : zyR T j r ↔ zyR T j r' := by
  have e : zsm (zmi T (gFn T j) (zcgF T (gFn T j) (zyg T r))) (gN T) = zsm (zmi T (gFn T j) (zcgF T (gFn T j) (zyg T r'))) (gN T) := zsm_c _ (fun x hx => by
    show zif (gtr T (gFn T j) x = gFn T j ∧ gcos T (gFn T j) x = x) (zyg T r (gUs T j x)) 0 = zif (gtr T (gFn T j) x = gFn T j ∧ gcos T (gFn T j) x = x) (zyg T r' (gUs T j x)) 0
    by_cases c : gtr T (gFn T j) x = gFn T j ∧ gcos T (gFn T j) x = x
    · have g := gun_ge hT hA hj (x := x) ⟨hx, c.1, c.2⟩
      rw [zif_t c, zif_t c]
      unfold zyg
      rw [h _ g.1 g.2]
    · rw [zif_f c, zif_f c])
  unfold zyR zCgr
  rw [e]
def zyE (f : Nat → Nat) (lo hi : Int) (P : Nat → Prop) : Prop := (∀ i j : Nat, lo ≤ i → i < j → (j : Int) < hi → f i < f j) ∧ ∀ x, (∃ i : Nat, lo ≤ i ∧ (i : Int) < hi ∧ f i = x) ↔ P x
section ZEN
variable {f g : Nat → Nat} {lo hi : Int} {P P' : Nat → Prop}
theorem zyE_c (h : zyE f lo hi P) (e : ∀ i : Nat, lo ≤ i → (i : Int) < hi → g i = f i) : zyE g lo hi P := by
  refine ⟨fun i j h1 h2 h3 => ?_, fun x => ?_⟩
  · rw [e i h1 (by omega), e j (by omega) h3]
    exact h.1 i j h1 h2 h3
  · rw [← h.2 x]
    constructor
    · rintro ⟨i, h1, h2, h3⟩
      exact ⟨i, h1, h2, (e i h1 h2).symm.trans h3⟩
    · rintro ⟨i, h1, h2, h3⟩
      exact ⟨i, h1, h2, (e i h1 h2).trans h3⟩
theorem zyE_p (h : zyE f lo hi P) (e : ∀ x, P x ↔ P' x) : zyE f lo hi P' := ⟨h.1, fun x => (h.2 x).trans (e x)⟩
theorem zyE_0 (hP : ∀ x, ¬ P x) : zyE f lo lo P := ⟨fun i j h1 h2 h3 => absurd h3 (by omega), fun x => ⟨fun ⟨i, h1, h2, _⟩ => absurd h2 (by omega), fun h => absurd h (hP x)⟩⟩
theorem zyE_a (h : zyE f lo hi P) (hlo : lo ≤ hi) (h0 : 0 ≤ hi) (e : ∀ i : Nat, lo ≤ i → (i : Int) < hi → g i = f i) (hv : ∀ x, P x → x < g hi.toNat) : zyE g lo (hi + 1) (fun x => P x ∨ x = g hi.toNat) := by
  have hg := zyE_c h e
  refine ⟨fun i j h1 h2 h3 => ?_, fun x => ?_⟩
  · by_cases c : (j : Int) = hi
    · rw [show j = hi.toNat by omega]
      exact hv _ ((hg.2 _).mp ⟨i, h1, by omega, rfl⟩)
    · exact hg.1 i j h1 h2 (by omega)
  · constructor
    · rintro ⟨i, h1, h2, h3⟩
      by_cases c : (i : Int) = hi
      · refine Or.inr ?_
        rw [← h3, show i = hi.toNat by omega]
      · exact Or.inl ((hg.2 x).mp ⟨i, h1, by omega, h3⟩)
    · rintro (q | q)
      · obtain ⟨i, h1, h2, h3⟩ := (hg.2 x).mpr q
        exact ⟨i, h1, by omega, h3⟩
      · exact ⟨hi.toNat, by omega, by omega, q.symm⟩
end ZEN
theorem zor_pl {y d : Nat} (h : y < 2 ^ d) : y ||| 2 ^ d = y + 2 ^ d := by
  have e := Nat.two_pow_add_eq_or_of_lt h 1
  rw [Nat.mul_one] at e
  rw [Nat.or_comm, ← e, Nat.add_comm]
def zuw (M : zMem) : Nat → Nat := fun i => (ze M 110 i).toNat
def zyL (T : zGT) (d : Nat) : Nat → Prop := fun x => x < 2 ^ d ∧ ∀ i, (gF T).length - d ≤ i → i < (gF T).length → zyR T i x
def zyO (T : zGT) (M : zMem) (d : Nat) (um : Int) : Prop := zyE (zuw M) 0 um (zyL T d)
def zyA (T : zGT) (M : zMem) (d : Nat) (um en k : Int) : Prop := zyE (zuw M) 0 um (zyL T d) ∧ zyE (zuw M) um en (fun x => ∃ i : Nat, (i : Int) < k ∧ x = zuw M i ||| 2 ^ d ∧ zyR T ((gF T).length - 1 - d) x)
def zyG (T : zGT) (g : Nat → Nat) (d : Nat) (um en : Int) : Prop := zyE g 0 um (zyL T d) ∧ zyE g um en (fun x => ∃ i : Nat, (i : Int) < um ∧ x = g i ||| 2 ^ d ∧ zyR T ((gF T).length - 1 - d) x)
def zyB (T : zGT) (g : Nat → Nat) (M : zMem) (d : Nat) (kp k : Int) : Prop := (∀ i : Nat, k ≤ i → zuw M i = g i) ∧ zyE (zuw M) 0 kp (fun x => ∃ i : Nat, (i : Int) < k ∧ g i = x ∧ zyR T ((gF T).length - 1 - d) x)
def zyD (T : zGT) (g : Nat → Nat) (M : zMem) (d : Nat) (um kp k : Int) : Prop := (∀ i : Nat, k ≤ i → zuw M i = g i) ∧ zyE (zuw M) 0 kp (fun x => (∃ i : Nat, (i : Int) < um ∧ g i = x ∧ zyR T ((gF T).length - 1 - d) x) ∨ ∃ i : Nat, um ≤ i ∧ (i : Int) < k ∧ g i = x)
section ZYO
variable {T : zGT} {M N : zMem} {d : Nat} {um en kp k v : Int} {g : Nat → Nat}
theorem zuw_s {q : Int} (h : N = zsI M 110 q.toNat (Int32.ofInt v)) (hv : zn32 v) : zuw N q.toNat = v.toNat ∧ ∀ i : Nat, (i : Int) ≠ q → 0 ≤ q → zuw N i = zuw M i := by
  unfold zuw
  exact ⟨by rw [zs_get h hv], fun i hi h0 => by rw [zs_oth h (j := i) (by omega)]⟩
theorem zyO_0 (h : ze M 110 0 = 0) : zyO T M 0 1 := by
  refine ⟨fun i j h1 h2 h3 => absurd h3 (by omega), fun x => ?_⟩
  constructor
  · rintro ⟨i, h1, h2, h3⟩
    have e : zuw M i = 0 := by
      unfold zuw
      rw [show i = 0 by omega, h]
      rfl
    rw [← h3, e]
    exact ⟨by decide, fun i h4 h5 => absurd h5 (by omega)⟩
  · rintro ⟨h1, -⟩
    refine ⟨0, by omega, by omega, ?_⟩
    unfold zuw
    rw [h]
    have : (2 : Nat) ^ 0 = 1 := rfl
    show 0 = x
    omega
theorem zyO_c (h : zyO T M d um) (e : ∀ i : Nat, ze N 110 i = ze M 110 i) : zyO T N d um := zyE_c h (fun i _ _ => by unfold zuw; rw [e i])
theorem zyA_0 (h : zyO T M d um) : zyA T M d um um 0 := ⟨h, zyE_0 (fun x ⟨i, hi, _⟩ => absurd hi (by omega))⟩
theorem zyA_n (h : zyA T M d um en k) (k0 : 0 ≤ k) (hn : ¬ zyR T ((gF T).length - 1 - d) (zuw M k.toNat ||| 2 ^ d)) : zyA T M d um en (k + 1) := by
  refine ⟨h.1, zyE_p h.2 (fun x => ?_)⟩
  constructor
  · rintro ⟨i, h1, h2⟩
    exact ⟨i, by omega, h2⟩
  · rintro ⟨i, h1, h2, h3⟩
    by_cases c : (i : Int) = k
    · rw [show i = k.toNat by omega] at h2
      rw [h2] at h3
      exact absurd h3 hn
    · exact ⟨i, by omega, h2, h3⟩
theorem zyA_s (h : zyA T M d um en k) (k0 : 0 ≤ k) (k1 : k < um) (hu : um ≤ en) (hy : zyR T ((gF T).length - 1 - d) (zuw M k.toNat ||| 2 ^ d)) (hN : N = zsI M 110 en.toNat (Int32.ofInt v)) (hv : zn32 v) (e : v.toNat = zuw M k.toNat ||| 2 ^ d) : zyA T N d um (en + 1) (k + 1) := by
  obtain ⟨w1, w2⟩ := zuw_s hN hv
  have hi : ∀ i : Nat, (i : Int) < um → zuw M i < 2 ^ d := fun i hi => ((h.1.2 _).mp ⟨i, by omega, hi, rfl⟩).1
  have ho : ∀ i : Nat, (i : Int) < en → zuw N i = zuw M i := fun i hi => w2 i (by omega) (by omega)
  refine ⟨zyE_c h.1 (fun i _ h2 => ho i (by omega)), zyE_p (zyE_a h.2 hu (by omega) (fun i _ h2 => ho i h2) (fun x hx => ?_)) (fun x => ?_)⟩
  · obtain ⟨i, h1, h2, -⟩ := hx
    have h3 := h.1.1 i k.toNat (by omega) (by omega) (by omega)
    rw [w1, e, h2, zor_pl (hi i (by omega)), zor_pl (hi k.toNat (by omega))]
    omega
  · constructor
    · rintro (⟨i, h1, h2, h3⟩ | q)
      · exact ⟨i, by omega, by rw [ho i (by omega)]; exact h2, h3⟩
      · refine ⟨k.toNat, by omega, ?_, ?_⟩
        · rw [q, w1, e, ho k.toNat (by omega)]
        · rw [q, w1, e]
          exact hy
    · rintro ⟨i, h1, h2, h3⟩
      rw [ho i (by omega)] at h2
      by_cases c : (i : Int) = k
      · refine Or.inr ?_
        rw [h2, show i = k.toNat by omega, w1, e]
      · exact Or.inl ⟨i, by omega, h2, h3⟩
theorem zyG_0 (h : zyA T M d um en um) (hg : ∀ i, zuw M i = g i) : zyG T g d um en := by
  have e : zuw M = g := funext hg
  unfold zyA at h
  rw [e] at h
  exact h
theorem zyB_0 (hg : ∀ i, zuw M i = g i) : zyB T g M d 0 0 := ⟨fun i _ => hg i, zyE_0 (fun x ⟨i, hi, _⟩ => absurd hi (by omega))⟩
theorem zyB_n (h : zyB T g M d kp k) (k0 : 0 ≤ k) (hn : ¬ zyR T ((gF T).length - 1 - d) (zuw M k.toNat)) : zyB T g M d kp (k + 1) := by
  refine ⟨fun i hi => h.1 i (by omega), zyE_p h.2 (fun x => ?_)⟩
  constructor
  · rintro ⟨i, h1, h2⟩
    exact ⟨i, by omega, h2⟩
  · rintro ⟨i, h1, h2, h3⟩
    by_cases c : (i : Int) = k
    · rw [show i = k.toNat by omega, ← h.1 k.toNat (by omega)] at h2
      rw [← h2] at h3
      exact absurd h3 hn
    · exact ⟨i, by omega, h2, h3⟩
theorem zyB_s (hG : zyG T g d um en) (h : zyB T g M d kp k) (k0 : 0 ≤ k) (k1 : k < um) (hk : 0 ≤ kp ∧ kp ≤ k) (hy : zyR T ((gF T).length - 1 - d) (zuw M k.toNat)) (hN : N = zsI M 110 kp.toNat (Int32.ofInt v)) (hv : zn32 v) (e : v.toNat = zuw M k.toNat) : zyB T g N d (kp + 1) (k + 1) := by
  obtain ⟨w1, w2⟩ := zuw_s hN hv
  have eg := h.1 k.toNat (by omega)
  refine ⟨fun i hi => by rw [w2 i (by omega) hk.1]; exact h.1 i (by omega), zyE_p (zyE_a h.2 hk.1 hk.1 (fun i _ h2 => w2 i (by omega) hk.1) (fun x hx => ?_)) (fun x => ?_)⟩
  · obtain ⟨i, h1, h2, -⟩ := hx
    rw [w1, e, eg, ← h2]
    exact hG.1.1 i k.toNat (by omega) (by omega) (by omega)
  · constructor
    · rintro (⟨i, h1, h2⟩ | q)
      · exact ⟨i, by omega, h2⟩
      · refine ⟨k.toNat, by omega, ?_, ?_⟩
        · rw [q, w1, e, eg]
        · rw [q, w1, e]
          exact hy
    · rintro ⟨i, h1, h2, h3⟩
      by_cases c : (i : Int) = k
      · refine Or.inr ?_
        rw [← h2, show i = k.toNat by omega, w1, e, eg]
      · exact Or.inl ⟨i, by omega, h2, h3⟩
theorem zyD_0 (h : zyB T g M d kp um) : zyD T g M d um kp um := ⟨h.1, zyE_p h.2 (fun x => ⟨Or.inl, fun q => by
  rcases q with q | ⟨i, h1, h2, _⟩
  · exact q
  · exact absurd h2 (by omega)⟩)⟩
theorem zyD_s (hG : zyG T g d um en) (h : zyD T g M d um kp k) (k0 : 0 ≤ um ∧ um ≤ k) (k1 : k < en) (hk : 0 ≤ kp ∧ kp ≤ k) (hN : N = zsI M 110 kp.toNat (Int32.ofInt v)) (hv : zn32 v) (e : v.toNat = zuw M k.toNat) : zyD T g N d um (kp + 1) (k + 1) := by
  obtain ⟨w1, w2⟩ := zuw_s hN hv
  have eg := h.1 k.toNat (by omega)
  have hi : ∀ i : Nat, (i : Int) < um → g i < 2 ^ d := fun i hi => ((hG.1.2 _).mp ⟨i, by omega, hi, rfl⟩).1
  refine ⟨fun i hi => by rw [w2 i (by omega) hk.1]; exact h.1 i (by omega), zyE_p (zyE_a h.2 hk.1 hk.1 (fun i _ h2 => w2 i (by omega) hk.1) (fun x hx => ?_)) (fun x => ?_)⟩
  · rw [w1, e, eg]
    rcases hx with ⟨i, h1, h2, -⟩ | ⟨i, h1, h2, h3⟩
    · obtain ⟨i', q1, q2, -⟩ := (hG.2.2 (g k.toNat)).mp ⟨k.toNat, by omega, by omega, rfl⟩
      have h4 := hi i h1
      rw [q2, zor_pl (hi i' q1), ← h2]
      omega
    · rw [← h3]
      exact hG.2.1 i k.toNat (by omega) (by omega) (by omega)
  · constructor
    · rintro ((q | ⟨i, h1, h2, h3⟩) | q)
      · exact Or.inl q
      · exact Or.inr ⟨i, h1, by omega, h3⟩
      · exact Or.inr ⟨k.toNat, by omega, by omega, by rw [q, w1, e, eg]⟩
    · rintro (q | ⟨i, h1, h2, h3⟩)
      · exact Or.inl (Or.inl q)
      · by_cases c : (i : Int) = k
        · refine Or.inr ?_
          rw [← h3, show i = k.toNat by omega, w1, e, eg]
        · exact Or.inl (Or.inr ⟨i, h1, by omega, h3⟩)
theorem zyO_s (hT : T ∈ gTabs) (hA : gGr T) (hd : d < (gF T).length) (hG : zyG T g d um en) (hu : 0 ≤ um ∧ um ≤ en) (h : zyD T g M d um kp en) : zyO T M (d + 1) kp := by
  have hj : (gF T).length - 1 - d < (gF T).length := by omega
  have hi : ∀ i : Nat, (i : Int) < um → zyL T d (g i) := fun i hi => (hG.1.2 _).mp ⟨i, by omega, hi, rfl⟩
  have hp : (2 : Nat) ^ (d + 1) = 2 ^ d + 2 ^ d := by rw [Nat.pow_succ]; omega
  have hup : ∀ (y i : Nat), y < 2 ^ d → (gF T).length - d ≤ i → i < (gF T).length → (zyR T i (y ||| 2 ^ d) ↔ zyR T i y) := fun y i _ h1 h2 => zyR_c hT hA h2 (fun s h3 h4 => by
    rw [Nat.testBit_or, Nat.testBit_two_pow, decide_eq_false (show ¬ d = (gF T).length - 1 - s by omega), Bool.or_false])
  refine zyE_p h.2 (fun x => ?_)
  constructor
  · rintro (⟨i, h1, h2, h3⟩ | ⟨i, h1, h2, h3⟩)
    · obtain ⟨h4, h5⟩ := hi i h1
      rw [h2] at h4 h5
      refine ⟨by omega, fun i' h6 h7 => ?_⟩
      by_cases c : i' = (gF T).length - 1 - d
      · rw [c]
        exact h3
      · exact h5 i' (by omega) h7
    · obtain ⟨i', q1, q2, q3⟩ := (hG.2.2 x).mp ⟨i, h1, h2, h3⟩
      obtain ⟨h4, h5⟩ := hi i' q1
      refine ⟨by rw [q2, zor_pl h4]; omega, fun t h6 h7 => ?_⟩
      by_cases c : t = (gF T).length - 1 - d
      · rw [c]
        exact q3
      · rw [q2, hup _ t h4 (by omega) h7]
        exact h5 t (by omega) h7
  · rintro ⟨h1, h2⟩
    by_cases c : x < 2 ^ d
    · obtain ⟨i, q1, q2, q3⟩ := (hG.1.2 x).mpr ⟨c, fun i h3 h4 => h2 i (by omega) h4⟩
      exact Or.inl ⟨i, q2, q3, h2 _ (by omega) hj⟩
    · have e : x = (x - 2 ^ d) ||| 2 ^ d := by rw [zor_pl (by omega)]; omega
      obtain ⟨i, q1, q2, q3⟩ := (hG.1.2 (x - 2 ^ d)).mpr ⟨by omega, fun i h3 h4 => by
        rw [← hup (x - 2 ^ d) i (by omega) h3 h4, ← e]
        exact h2 i (by omega) h4⟩
      obtain ⟨i', p1, p2, p3⟩ := (hG.2.2 x).mpr ⟨i, q2, by rw [q3]; exact e, h2 _ (by omega) hj⟩
      exact Or.inr ⟨i', p1, p2, p3⟩
end ZYO
def zyW (T : zGT) (M : zMem) : Prop := ze M 81 58 = 0 ∨ (ze M 81 58 = 1 ∧ (0 ≤ ze M 81 57 ∧ ze M 81 57 ≤ 65536) ∧ zyO T M (gF T).length (ze M 81 57))
theorem zyW.fr {T : zGT} {S C : List Nat} {M N : zMem} (hf : zFr S C M N) (h : zyW T M) (hs : 57 ∉ S ∧ 58 ∉ S) (hc : 110 ∉ C) : zyW T N := by
  unfold zyW
  rw [hf.e hs.1, hf.e hs.2]
  rcases h with h | ⟨h1, h2, h3⟩
  · exact Or.inl h
  · exact Or.inr ⟨h1, h2, zyO_c h3 (fun i => hf.ie (by decide) hc i)⟩
def zMsN (T : zGT) (j : Nat) (M : zMem) : Prop := zMss T (gFn T j) M (gN T : Int)
theorem zMsN.fr {T : zGT} {j : Nat} {S C : List Nat} {M N : zMem} (hf : zFr S C M N) (h : zMsN T j M) (hs : 55 ∉ S) (hc : 109 ∉ C) : zMsN T j N := zMss.fr hf h hs hc
set_option maxHeartbeats 4000000 in
theorem c_M_laysUnitsS (l : Launch) (Mz : zMem) (hW : zMt Mz) (T : zGT) (hO : gOK T) (hX : gEx T) (hT : T ∈ gTabs) (hGr : gGr T) (p0_ : zGB T Mz) (p1_ : zB 110 65536 0 2147483647 Mz) (p2_ : 0 ≤ ze Mz 81 57) (p3_ : ze Mz 81 57 ≤ 65536) (p4_ : zyW T Mz) : zC l m_M_laysUnits 0 0 [.ref 81] Mz (zpV [55, 57, 58] [109, 110] Mz (fun N => zB 110 65536 0 2147483647 N ∧ 0 ≤ ze N 81 57 ∧ ze N 81 57 ≤ 65536 ∧ ze N 81 58 = 1 ∧ (zyO T N (gF T).length (ze N 81 57)))) := by
  refine zC_of (L0 := [some (.ref 81), none, none, none, none, none]) md_M_laysUnits (Nat.le_of_ble_eq_true rfl) rfl ?_ zQ0
  have hf : zFr [55, 57, 58] [109, 110] Mz Mz := zFr.rf
  have r_26 := ze_r Mz 81 26
  have r_55 := ze_r Mz 81 55
  have r_57 := ze_r Mz 81 57
  have r_58 := ze_r Mz 81 58
  have hG := hO.1
  have g24 := hG.2.1
  have g1 := hG.1
  have dv0 : zTab T Mz := p0_.1
  have dv1 : zB 85 144 0 5 Mz := p0_.2.1
  have dv2 : zJX T Mz := p0_.2.2.1
  have dv3 : zFirs T Mz := p0_.2.2.2.1
  have dv4 : zSSm T Mz := p0_.2.2.2.2.1
  have dv5 : zGD Mz := zGB.d hO p0_
  have gb := dv5.1
  have gn := dv0.1
  have gfl := dv3.1
  have gf6 := gF_pos hO
  have gxl := hX.2.1
  have hyw_ : ze Mz 81 58 = 0 ∨ (ze Mz 81 58 = 1 ∧ (0 ≤ ze Mz 81 57 ∧ ze Mz 81 57 ≤ 65536) ∧ zyO T Mz (gF T).length (ze Mz 81 57)) := p4_
  refine zw_aload_n (pc := 0) (n := 0) (x := 81) rfl (zdal_p dlD_M_laysUnits_76 (i := 0) rfl) ?_
  refine zr_getI (hf.w hW) (pc := 1) f_M_394 rfl (zdal_p dlD_M_laysUnits_76 (i := 1) rfl) ?_
  refine zr_if_eq (pc := 4) (tgt := 8) ⟨(ze_r Mz 81 58).1, (ze_r Mz 81 58).2⟩ (by decide) (zdal_p dlD_M_laysUnits_76 (i := 2) rfl) (fun hc_4 => ?_) (fun hc_4 => ?_)
  · skip
    refine zw_aload_n (pc := 8) (n := 0) (x := 81) rfl (zdal_p dlD_M_laysUnits_76 (i := 4) rfl) ?_
    refine zw_iconst (pc := 9) (v := Int32.ofInt 1) (by decide) (zdal_p dlD_M_laysUnits_76 (i := 5) rfl) ?_
    refine zr_putI (hf.w hW) (pc := 10) f_M_394 rfl rfl ⟨by omega, by omega⟩ (z_narB (by omega)) (z_fitB (by omega)) (zdal_p dlD_M_laysUnits_76 (i := 6) rfl) (fun N1_ hsN1_ hvN1_ => ?_)
    have hf_N1_ : zFr [55, 57, 58] [109, 110] Mz N1_ := hf.tr hsN1_ (by decide) (by decide)
    have e26_N1_ : ze N1_ 81 26 = ze Mz 81 26 := hsN1_.e (by decide)
    have e55_N1_ : ze N1_ 81 55 = ze Mz 81 55 := hsN1_.e (by decide)
    have e57_N1_ : ze N1_ 81 57 = ze Mz 81 57 := hsN1_.e (by decide)
    have r58_N1_ := ze_r N1_ 81 58
    have c2_ : zGB T N1_ := zGB.fr hsN1_ p0_ (by decide) (by decide)
    have c3_ : zB 110 65536 0 2147483647 N1_ := zB.fr hsN1_ p1_ (by decide) (by decide)
    have c4_ : zTab T N1_ := zTab.fr hsN1_ dv0 (by decide) (by decide)
    have c5_ : zB 85 144 0 5 N1_ := zB.fr hsN1_ dv1 (by decide) (by decide)
    have c6_ : zJX T N1_ := zJX.fr hsN1_ dv2 (by decide) (by decide)
    have c7_ : zFirs T N1_ := zFirs.fr hsN1_ dv3 (by decide) (by decide)
    have c8_ : zSSm T N1_ := zSSm.fr hsN1_ dv4 (by decide) (by decide)
    have c9_ : zGD N1_ := zGD.fr hsN1_ dv5 (by decide) (by decide)
    refine zw_aload_n (pc := 13) (n := 0) (x := 81) rfl (zdal_p dlD_M_laysUnits_76 (i := 7) rfl) ?_
    refine zw_iconst (pc := 14) (v := Int32.ofInt 1) (by decide) (zdal_p dlD_M_laysUnits_76 (i := 8) rfl) ?_
    refine zr_putI (hf_N1_.w hW) (pc := 15) f_M_459 rfl rfl ⟨by omega, by omega⟩ rfl rfl (zdal_p dlD_M_laysUnits_76 (i := 9) rfl) (fun N10_ hsN10_ hvN10_ => ?_)
    have hf_N10_ : zFr [55, 57, 58] [109, 110] Mz N10_ := hf_N1_.tr hsN10_ (by decide) (by decide)
    have e26_N10_ : ze N10_ 81 26 = ze N1_ 81 26 := hsN10_.e (by decide)
    have e55_N10_ : ze N10_ 81 55 = ze N1_ 81 55 := hsN10_.e (by decide)
    have r57_N10_ := ze_r N10_ 81 57
    have e58_N10_ : ze N10_ 81 58 = ze N1_ 81 58 := hsN10_.e (by decide)
    have c11_ : zGB T N10_ := zGB.fr hsN10_ c2_ (by decide) (by decide)
    have c12_ : zB 110 65536 0 2147483647 N10_ := zB.fr hsN10_ c3_ (by decide) (by decide)
    have c13_ : zTab T N10_ := zTab.fr hsN10_ c4_ (by decide) (by decide)
    have c14_ : zB 85 144 0 5 N10_ := zB.fr hsN10_ c5_ (by decide) (by decide)
    have c15_ : zJX T N10_ := zJX.fr hsN10_ c6_ (by decide) (by decide)
    have c16_ : zFirs T N10_ := zFirs.fr hsN10_ c7_ (by decide) (by decide)
    have c17_ : zSSm T N10_ := zSSm.fr hsN10_ c8_ (by decide) (by decide)
    have c18_ : zGD N10_ := zGD.fr hsN10_ c9_ (by decide) (by decide)
    refine zw_aload_n (pc := 18) (n := 0) (x := 81) rfl (zdal_p dlD_M_laysUnits_76 (i := 10) rfl) ?_
    refine zr_getF (r := 110) (hf_N10_.w hW) (pc := 19) f_M_103 rfl (zh_110 (hf_N10_.w hW)).1 (zdal_p dlD_M_laysUnits_76 (i := 11) rfl) ?_
    refine zw_iconst (pc := 22) (v := Int32.ofInt 0) (by decide) (zdal_p dlD_M_laysUnits_76 (i := 12) rfl) ?_
    refine zw_iconst (pc := 23) (v := Int32.ofInt 0) (by decide) (zdal_p dlD_M_laysUnits_76 (i := 13) rfl) ?_
    refine zr_iast (pc := 24) (zh_110 (hf_N10_.w hW)).2 (by decide) (by decide) (by omega) (by omega) (zdal_p dlD_M_laysUnits_76 (i := 14) rfl) (fun N19_ hN19_ hsN19_ => ?_)
    have hf_N19_ : zFr [55, 57, 58] [109, 110] Mz N19_ := hf_N10_.tr hsN19_ (by decide) (by decide)
    have e26_N19_ : ze N19_ 81 26 = ze N10_ 81 26 := hsN19_.e (by decide)
    have e55_N19_ : ze N19_ 81 55 = ze N10_ 81 55 := hsN19_.e (by decide)
    have e57_N19_ : ze N19_ 81 57 = ze N10_ 81 57 := hsN19_.e (by decide)
    have e58_N19_ : ze N19_ 81 58 = ze N10_ 81 58 := hsN19_.e (by decide)
    have c20_ : zGB T N19_ := zGB.fr hsN19_ c11_ (by decide) (by decide)
    have c21_ : zB 110 65536 0 2147483647 N19_ := zB.s c12_ hN19_ (by omega) (by omega) (by decide) (by decide)
    have c22_ : zTab T N19_ := zTab.fr hsN19_ c13_ (by decide) (by decide)
    have c23_ : zB 85 144 0 5 N19_ := zB.fr hsN19_ c14_ (by decide) (by decide)
    have c24_ : zJX T N19_ := zJX.fr hsN19_ c15_ (by decide) (by decide)
    have c25_ : zFirs T N19_ := zFirs.fr hsN19_ c16_ (by decide) (by decide)
    have c26_ : zSSm T N19_ := zSSm.fr hsN19_ c17_ (by decide) (by decide)
    have c27_ : zGD N19_ := zGD.fr hsN19_ c18_ (by decide) (by decide)
    have hz0_ : ze N19_ 110 0 = 0 := zs_get hN19_ ⟨by decide, by decide⟩
    refine zw_aload_n (pc := 25) (n := 0) (x := 81) rfl (zdal_p dlD_M_laysUnits_76 (i := 15) rfl) ?_
    refine zr_getI0 hf_N19_ hW (pc := 26) (by decide) f_M_235 rfl (zdal_p dlD_M_laysUnits_76 (i := 16) rfl) ?_
    refine zw_iconst (pc := 29) (v := Int32.ofInt 1) (by decide) (zdal_p dlD_M_laysUnits_76 (i := 17) rfl) ?_
    refine zr_isub (pc := 30) (zdal_p dlD_M_laysUnits_76 (i := 18) rfl) ?_
    refine zw_istore_n (pc := 31) (i := 1) (L2 := [some (.ref 81), some (.int (Int32.ofInt ((ze Mz 81 26) - 1))), none, none, none, none]) rfl (by decide) rfl (zdal_p dlD_M_laysUnits_76 (i := 19) rfl) ?_
    have lp_32 : ∀ (n : Nat) (u28_ : Int) (hu28_a : -2147483648 ≤ u28_) (hu28_b : u28_ < 2147483648) (N29_ : zMem) (hs30_ : zFr [55, 57] [109, 110] N19_ N29_) (i31_ : -1 ≤ u28_) (i32_ : u28_ ≤ ze Mz 81 26 - 1) (i33_ : zUo T N29_ (ze Mz 81 26 - 1 - u28_).toNat (ze N29_ 81 57)) (i34_ : 0 ≤ ze N29_ 81 57) (i35_ : ze N29_ 81 57 ≤ 65536) (i36_ : zyO T N29_ (ze Mz 81 26 - 1 - u28_).toNat (ze N29_ 81 57)) (i37_ : ze N29_ 81 58 = 1) (i38_ : zB 110 65536 0 2147483647 N29_), (u28_ + 1).toNat < n → zW l m_M_laysUnits (zn Mz + 0, zw Mz + 0) N29_ 32 [some (.ref 81), some (.int (Int32.ofInt u28_)), none, none, none, none] [] (zpV [55, 57, 58] [109, 110] Mz (fun N => zB 110 65536 0 2147483647 N ∧ 0 ≤ ze N 81 57 ∧ ze N 81 57 ≤ 65536 ∧ ze N 81 58 = 1 ∧ (zyO T N (gF T).length (ze N 81 57)))) := by
      intro n
      induction n with
      | zero =>
        intro u28_ hu28_a hu28_b N29_ hs30_ i31_ i32_ i33_ i34_ i35_ i36_ i37_ i38_ h0
        exact absurd h0 (Nat.not_lt_zero _)
      | succ n ih_32 =>
        intro u28_ hu28_a hu28_b N29_ hs30_ i31_ i32_ i33_ i34_ i35_ i36_ i37_ i38_ hlt_32
        have hf_N29_ : zFr [55, 57, 58] [109, 110] Mz N29_ := hf_N19_.tr hs30_ (by decide) (by decide)
        have e26_N29_ : ze N29_ 81 26 = ze N19_ 81 26 := hs30_.e (by decide)
        have r55_N29_ := ze_r N29_ 81 55
        have r57_N29_ := ze_r N29_ 81 57
        have e58_N29_ : ze N29_ 81 58 = ze N19_ 81 58 := hs30_.e (by decide)
        have c39_ : zGB T N29_ := zGB.fr hs30_ c20_ (by decide) (by decide)
        have c40_ : zTab T N29_ := zTab.fr hs30_ c22_ (by decide) (by decide)
        have c41_ : zB 85 144 0 5 N29_ := zB.fr hs30_ c23_ (by decide) (by decide)
        have c42_ : zJX T N29_ := zJX.fr hs30_ c24_ (by decide) (by decide)
        have c43_ : zFirs T N29_ := zFirs.fr hs30_ c25_ (by decide) (by decide)
        have c44_ : zSSm T N29_ := zSSm.fr hs30_ c26_ (by decide) (by decide)
        have c45_ : zGD N29_ := zGD.fr hs30_ c27_ (by decide) (by decide)
        have hyo_ := (show zyO T N29_ (ze Mz 81 26 - 1 - u28_).toNat (ze N29_ 81 57) by first | with_reducible assumption | assumption)
        refine zw_iload_n (pc := 32) (n := 1) (x := Int32.ofInt u28_) rfl (zdal_p dlD_M_laysUnits_76 (i := 20) rfl) ?_
        refine zr_if_lt (pc := 33) (tgt := 215) ⟨hu28_a, hu28_b⟩ (by decide) (zdal_p dlD_M_laysUnits_76 (i := 21) rfl) (fun hc_33 => ?_) (fun hc_33 => ?_)
        · skip
          exact zr_vret (pc := 215) rfl hf_N29_ ⟨i38_, (show 0 ≤ ze N29_ 81 57 by first | with_reducible assumption | assumption | omega), (show ze N29_ 81 57 ≤ 65536 by first | with_reducible assumption | assumption | omega), (show ze N29_ 81 58 = 1 by first | with_reducible assumption | assumption | omega), (show (zyO T N29_ (gF T).length (ze N29_ 81 57)) by rw [show (gF T).length = (ze Mz 81 26 - 1 - u28_).toNat by omega]; exact hyo_)⟩ (zdal_p dlD_M_laysUnits_80 (i := 21) rfl)
        · skip
          refine zw_aload_n (pc := 36) (n := 0) (x := 81) rfl (zdal_p dlD_M_laysUnits_76 (i := 22) rfl) ?_
          refine zw_iload_n (pc := 37) (n := 1) (x := Int32.ofInt u28_) rfl (zdal_p dlD_M_laysUnits_76 (i := 23) rfl) ?_
          refine zr_callV (hf_N29_.w hW) hf_N29_.x (pc := 38) [.int (Int32.ofInt u28_)] [] l_M_456 (c_M_laysMadeS l N29_ (hf_N29_.w hW) u28_ hu28_a hu28_b T hO hX c39_ (show 0 ≤ u28_ by first | with_reducible assumption | assumption | omega) (show u28_ < ze N29_ 81 26 by first | with_reducible assumption | assumption | omega)) rfl rfl rfl (by decide) (Nat.le_of_ble_eq_true rfl) (zdal_p dlD_M_laysUnits_77 (i := 0) rfl) ?_
          rintro _ N46_ ⟨rfl, hsN46_, ⟨hp0_N46_, hp1_N46_, hp2_N46_, hp3_N46_⟩⟩
          have hf_N46_ : zFr [55, 57, 58] [109, 110] Mz N46_ := hf_N29_.tr hsN46_ (by decide) (by decide)
          have hb0_N46_ : zFr [55, 57] [109, 110] N19_ N46_ := hs30_.tr hsN46_ (by decide) (by decide)
          have e26_N46_ : ze N46_ 81 26 = ze N29_ 81 26 := hsN46_.e (by decide)
          have r55_N46_ := ze_r N46_ 81 55
          have e57_N46_ : ze N46_ 81 57 = ze N29_ 81 57 := hsN46_.e (by decide)
          have e58_N46_ : ze N46_ 81 58 = ze N29_ 81 58 := hsN46_.e (by decide)
          have c48_ : zGB T N46_ := zGB.fr hsN46_ c39_ (by decide) (by decide)
          have c49_ : zTab T N46_ := zTab.fr hsN46_ c40_ (by decide) (by decide)
          have c50_ : zB 85 144 0 5 N46_ := zB.fr hsN46_ c41_ (by decide) (by decide)
          have c51_ : zJX T N46_ := zJX.fr hsN46_ c42_ (by decide) (by decide)
          have c52_ : zFirs T N46_ := zFirs.fr hsN46_ c43_ (by decide) (by decide)
          have c53_ : zSSm T N46_ := zSSm.fr hsN46_ c44_ (by decide) (by decide)
          have c54_ : zGD N46_ := zGD.fr hsN46_ c45_ (by decide) (by decide)
          have c55_ : zB 110 65536 0 2147483647 N46_ := zB.fr hsN46_ i38_ (by decide) (by decide)
          show zW l m_M_laysUnits (zn Mz + 0, zw Mz + 0) N46_ 41 [some (.ref 81), some (.int (Int32.ofInt u28_)), none, none, none, none] [] _
          have hUo_ : zUo T N46_ (ze Mz 81 26 - 1 - u28_).toNat (ze N46_ 81 57) := by rw [show ze N46_ 81 57 = ze N29_ 81 57 by omega]; exact zUo.fr hsN46_ (by first | with_reducible assumption | assumption) (by decide)
          have hbd_ := zUo_b hX (by omega) hUo_
          have hUa_ := zUa_0 hUo_.1 hUo_.2.2
          have hug_ := hUo_.2.1
          have h2d_ := gp30 (d := (ze Mz 81 26 - 1 - u28_).toNat) (by omega)
          have hym_ : zMsN T (u28_).toNat N46_ := hp3_N46_
          have hyo2_ : zyO T N46_ (ze Mz 81 26 - 1 - u28_).toNat (ze N46_ 81 57) := by rw [show ze N46_ 81 57 = ze N29_ 81 57 by omega]; exact zyO_c hyo_ (fun i_ => hsN46_.ie (by decide) (by decide) i_)
          refine zw_iconst (pc := 41) (v := Int32.ofInt 1) (by decide) (zdal_p dlD_M_laysUnits_77 (i := 1) rfl) ?_
          refine zw_aload_n (pc := 42) (n := 0) (x := 81) rfl (zdal_p dlD_M_laysUnits_77 (i := 2) rfl) ?_
          refine zr_getI0 hf_N46_ hW (pc := 43) (by decide) f_M_235 rfl (zdal_p dlD_M_laysUnits_77 (i := 3) rfl) ?_
          refine zw_iconst (pc := 46) (v := Int32.ofInt 1) (by decide) (zdal_p dlD_M_laysUnits_77 (i := 4) rfl) ?_
          refine zr_isub (pc := 47) (zdal_p dlD_M_laysUnits_77 (i := 5) rfl) ?_
          refine zw_iload_n (pc := 48) (n := 1) (x := Int32.ofInt u28_) rfl (zdal_p dlD_M_laysUnits_77 (i := 6) rfl) ?_
          refine zr_isub (pc := 49) (zdal_p dlD_M_laysUnits_77 (i := 7) rfl) ?_
          refine zr_ishl (pc := 50) (zdal_p dlD_M_laysUnits_77 (i := 8) rfl) ?_
          have hr56_ := zshl_r 1 (((ze Mz 81 26) - 1) - u28_)
          have hbit_ : (zshl 1 (((ze Mz 81 26) - 1) - u28_)) = zshl 1 (((ze Mz 81 26 - 1 - u28_).toNat : Nat) : Int) := by rw [show (((ze Mz 81 26 - 1 - u28_).toNat : Nat) : Int) = ze Mz 81 26 - 1 - u28_ by omega]
          have hbp_ := zshl_p (k := ze Mz 81 26 - 1 - u28_) (by omega) (by omega)
          refine zw_istore_n (pc := 51) (i := 2) (L2 := [some (.ref 81), some (.int (Int32.ofInt u28_)), some (.int (Int32.ofInt (zshl 1 (((ze Mz 81 26) - 1) - u28_)))), none, none, none]) rfl (by decide) rfl (zdal_p dlD_M_laysUnits_77 (i := 9) rfl) ?_
          refine zw_iconst (pc := 52) (v := Int32.ofInt 0) (by decide) (zdal_p dlD_M_laysUnits_77 (i := 10) rfl) ?_
          refine zw_istore_n (pc := 53) (i := 3) (L2 := [some (.ref 81), some (.int (Int32.ofInt u28_)), some (.int (Int32.ofInt (zshl 1 (((ze Mz 81 26) - 1) - u28_)))), some (.int (Int32.ofInt 0)), none, none]) rfl (by decide) rfl (zdal_p dlD_M_laysUnits_77 (i := 11) rfl) ?_
          refine zw_aload_n (pc := 54) (n := 0) (x := 81) rfl (zdal_p dlD_M_laysUnits_77 (i := 12) rfl) ?_
          refine zr_getI (hf_N46_.w hW) (pc := 55) f_M_459 rfl (zdal_p dlD_M_laysUnits_77 (i := 13) rfl) ?_
          refine zw_istore (pc := 58) (i := 4) (L2 := [some (.ref 81), some (.int (Int32.ofInt u28_)), some (.int (Int32.ofInt (zshl 1 (((ze Mz 81 26) - 1) - u28_)))), some (.int (Int32.ofInt 0)), some (.int (Int32.ofInt (ze N46_ 81 57))), none]) (by decide) rfl (zdal_p dlD_M_laysUnits_77 (i := 14) rfl) ?_
          refine zw_iconst (pc := 60) (v := Int32.ofInt 0) (by decide) (zdal_p dlD_M_laysUnits_77 (i := 15) rfl) ?_
          refine zw_istore (pc := 61) (i := 5) (L2 := [some (.ref 81), some (.int (Int32.ofInt u28_)), some (.int (Int32.ofInt (zshl 1 (((ze Mz 81 26) - 1) - u28_)))), some (.int (Int32.ofInt 0)), some (.int (Int32.ofInt (ze N46_ 81 57))), some (.int (Int32.ofInt 0))]) (by decide) rfl (zdal_p dlD_M_laysUnits_77 (i := 16) rfl) ?_
          have lp_63 : ∀ (n : Nat) (u57_ : Int) (hu57_a : -2147483648 ≤ u57_) (hu57_b : u57_ < 2147483648) (u58_ : Int) (hu58_a : -2147483648 ≤ u58_) (hu58_b : u58_ < 2147483648) (N59_ : zMem) (hs60_ : zFr [] [110] N46_ N59_) (i61_ : zUa N59_ (ze Mz 81 26 - 1 - u28_).toNat (ze N59_ 81 57) u57_ u58_) (i62_ : zMq T u28_ N59_) (i63_ : ze N59_ 81 57 ≤ 32768) (i64_ : ze N59_ 81 57 ≤ ((2 ^ gcu T (ze Mz 81 26 - 1 - u28_).toNat : Nat) : Int)) (i65_ : 0 ≤ u58_) (i66_ : u58_ ≤ ze N59_ 81 57) (i67_ : ze N59_ 81 57 ≤ u57_) (i68_ : u57_ ≤ ze N59_ 81 57 + u58_) (i69_ : zyA T N59_ (ze Mz 81 26 - 1 - u28_).toNat (ze N59_ 81 57) u57_ u58_) (i70_ : zMsN T (u28_).toNat N59_) (i71_ : zB 110 65536 0 2147483647 N59_), (ze N59_ 81 57 - u58_).toNat < n → zW l m_M_laysUnits (zn Mz + 0, zw Mz + 0) N59_ 63 [some (.ref 81), some (.int (Int32.ofInt u28_)), some (.int (Int32.ofInt (zshl 1 (((ze Mz 81 26) - 1) - u28_)))), some (.int (Int32.ofInt 0)), some (.int (Int32.ofInt u57_)), some (.int (Int32.ofInt u58_))] [] (zpV [55, 57, 58] [109, 110] Mz (fun N => zB 110 65536 0 2147483647 N ∧ 0 ≤ ze N 81 57 ∧ ze N 81 57 ≤ 65536 ∧ ze N 81 58 = 1 ∧ (zyO T N (gF T).length (ze N 81 57)))) := by
            intro n
            induction n with
            | zero =>
              intro u57_ hu57_a hu57_b u58_ hu58_a hu58_b N59_ hs60_ i61_ i62_ i63_ i64_ i65_ i66_ i67_ i68_ i69_ i70_ i71_ h0
              exact absurd h0 (Nat.not_lt_zero _)
            | succ n ih_63 =>
              intro u57_ hu57_a hu57_b u58_ hu58_a hu58_b N59_ hs60_ i61_ i62_ i63_ i64_ i65_ i66_ i67_ i68_ i69_ i70_ i71_ hlt_63
              have hf_N59_ : zFr [55, 57, 58] [109, 110] Mz N59_ := hf_N46_.tr hs60_ (by decide) (by decide)
              have hb0_N59_ : zFr [55, 57] [109, 110] N19_ N59_ := hb0_N46_.tr hs60_ (by decide) (by decide)
              have e26_N59_ : ze N59_ 81 26 = ze N46_ 81 26 := hs60_.e (by decide)
              have e55_N59_ : ze N59_ 81 55 = ze N46_ 81 55 := hs60_.e (by decide)
              have e57_N59_ : ze N59_ 81 57 = ze N46_ 81 57 := hs60_.e (by decide)
              have e58_N59_ : ze N59_ 81 58 = ze N46_ 81 58 := hs60_.e (by decide)
              have c72_ : zGB T N59_ := zGB.fr hs60_ c48_ (by decide) (by decide)
              have c73_ : zTab T N59_ := zTab.fr hs60_ c49_ (by decide) (by decide)
              have c74_ : zB 85 144 0 5 N59_ := zB.fr hs60_ c50_ (by decide) (by decide)
              have c75_ : zJX T N59_ := zJX.fr hs60_ c51_ (by decide) (by decide)
              have c76_ : zFirs T N59_ := zFirs.fr hs60_ c52_ (by decide) (by decide)
              have c77_ : zSSm T N59_ := zSSm.fr hs60_ c53_ (by decide) (by decide)
              have c78_ : zGD N59_ := zGD.fr hs60_ c54_ (by decide) (by decide)
              have hya_ := (show zyA T N59_ (ze Mz 81 26 - 1 - u28_).toNat (ze N59_ 81 57) u57_ u58_ by first | with_reducible assumption | assumption)
              have hms_ := (show zMsN T (u28_).toNat N59_ by first | with_reducible assumption | assumption)
              refine zw_iload (pc := 63) (i := 5) (x := Int32.ofInt u58_) rfl (zdal_p dlD_M_laysUnits_77 (i := 17) rfl) ?_
              refine zw_aload_n (pc := 65) (n := 0) (x := 81) rfl (zdal_p dlD_M_laysUnits_77 (i := 18) rfl) ?_
              refine zr_getI (hf_N59_.w hW) (pc := 66) f_M_459 rfl (zdal_p dlD_M_laysUnits_77 (i := 19) rfl) ?_
              refine zr_icmp_ge (pc := 69) (tgt := 117) ⟨hu58_a, hu58_b⟩ ⟨(ze_r N59_ 81 57).1, (ze_r N59_ 81 57).2⟩ (by decide) (zdal_p dlD_M_laysUnits_77 (i := 20) rfl) (fun hc_69 => ?_) (fun hc_69 => ?_)
              · skip
                obtain ⟨um_, hum_⟩ : ∃ u : Int, u = ze N59_ 81 57 := ⟨_, rfl⟩
                obtain ⟨g_, hg_⟩ : ∃ g : Nat → Nat, ∀ i, zuw N59_ i = g i := ⟨_, fun _ => rfl⟩
                have hyz_ := hya_
                rw [show u58_ = um_ by omega, ← hum_] at hyz_
                have hG_ := zyG_0 hyz_ hg_
                refine zw_iconst (pc := 117) (v := Int32.ofInt 0) (by decide) (zdal_p dlD_M_laysUnits_78 (i := 21) rfl) ?_
                refine zw_istore (pc := 118) (i := 5) (L2 := [some (.ref 81), some (.int (Int32.ofInt u28_)), some (.int (Int32.ofInt (zshl 1 (((ze Mz 81 26) - 1) - u28_)))), some (.int (Int32.ofInt 0)), some (.int (Int32.ofInt u57_)), some (.int (Int32.ofInt 0))]) (by decide) rfl (zdal_p dlD_M_laysUnits_78 (i := 22) rfl) ?_
                have lp_120 : ∀ (n : Nat) (u79_ : Int) (hu79_a : -2147483648 ≤ u79_) (hu79_b : u79_ < 2147483648) (u80_ : Int) (hu80_a : -2147483648 ≤ u80_) (hu80_b : u80_ < 2147483648) (N81_ : zMem) (hs82_ : zFr [] [110] N59_ N81_) (i83_ : zUb N81_ (ze Mz 81 26 - 1 - u28_).toNat (ze N81_ 81 57) u57_ u79_ u80_) (i84_ : zMq T u28_ N81_) (i85_ : ze N81_ 81 57 ≤ 32768) (i86_ : ze N81_ 81 57 ≤ ((2 ^ gcu T (ze Mz 81 26 - 1 - u28_).toNat : Nat) : Int)) (i87_ : 0 ≤ u79_) (i88_ : u79_ ≤ u80_) (i89_ : u80_ ≤ ze N81_ 81 57) (i90_ : ze N81_ 81 57 ≤ u57_) (i91_ : u57_ ≤ 2 * ze N81_ 81 57) (i92_ : zyB T g_ N81_ (ze Mz 81 26 - 1 - u28_).toNat u79_ u80_) (i93_ : zMsN T (u28_).toNat N81_) (i94_ : zB 110 65536 0 2147483647 N81_), (ze N81_ 81 57 - u80_).toNat < n → zW l m_M_laysUnits (zn Mz + 0, zw Mz + 0) N81_ 120 [some (.ref 81), some (.int (Int32.ofInt u28_)), some (.int (Int32.ofInt (zshl 1 (((ze Mz 81 26) - 1) - u28_)))), some (.int (Int32.ofInt u79_)), some (.int (Int32.ofInt u57_)), some (.int (Int32.ofInt u80_))] [] (zpV [55, 57, 58] [109, 110] Mz (fun N => zB 110 65536 0 2147483647 N ∧ 0 ≤ ze N 81 57 ∧ ze N 81 57 ≤ 65536 ∧ ze N 81 58 = 1 ∧ (zyO T N (gF T).length (ze N 81 57)))) := by
                  intro n
                  induction n with
                  | zero =>
                    intro u79_ hu79_a hu79_b u80_ hu80_a hu80_b N81_ hs82_ i83_ i84_ i85_ i86_ i87_ i88_ i89_ i90_ i91_ i92_ i93_ i94_ h0
                    exact absurd h0 (Nat.not_lt_zero _)
                  | succ n ih_120 =>
                    intro u79_ hu79_a hu79_b u80_ hu80_a hu80_b N81_ hs82_ i83_ i84_ i85_ i86_ i87_ i88_ i89_ i90_ i91_ i92_ i93_ i94_ hlt_120
                    have hf_N81_ : zFr [55, 57, 58] [109, 110] Mz N81_ := hf_N59_.tr hs82_ (by decide) (by decide)
                    have hb0_N81_ : zFr [55, 57] [109, 110] N19_ N81_ := hb0_N59_.tr hs82_ (by decide) (by decide)
                    have e26_N81_ : ze N81_ 81 26 = ze N59_ 81 26 := hs82_.e (by decide)
                    have e55_N81_ : ze N81_ 81 55 = ze N59_ 81 55 := hs82_.e (by decide)
                    have e57_N81_ : ze N81_ 81 57 = ze N59_ 81 57 := hs82_.e (by decide)
                    have e58_N81_ : ze N81_ 81 58 = ze N59_ 81 58 := hs82_.e (by decide)
                    have c95_ : zGB T N81_ := zGB.fr hs82_ c72_ (by decide) (by decide)
                    have c96_ : zTab T N81_ := zTab.fr hs82_ c73_ (by decide) (by decide)
                    have c97_ : zB 85 144 0 5 N81_ := zB.fr hs82_ c74_ (by decide) (by decide)
                    have c98_ : zJX T N81_ := zJX.fr hs82_ c75_ (by decide) (by decide)
                    have c99_ : zFirs T N81_ := zFirs.fr hs82_ c76_ (by decide) (by decide)
                    have c100_ : zSSm T N81_ := zSSm.fr hs82_ c77_ (by decide) (by decide)
                    have c101_ : zGD N81_ := zGD.fr hs82_ c78_ (by decide) (by decide)
                    have hyb_ := (show zyB T g_ N81_ (ze Mz 81 26 - 1 - u28_).toNat u79_ u80_ by first | with_reducible assumption | assumption)
                    have hms_ := (show zMsN T (u28_).toNat N81_ by first | with_reducible assumption | assumption)
                    refine zw_iload (pc := 120) (i := 5) (x := Int32.ofInt u80_) rfl (zdal_p dlD_M_laysUnits_78 (i := 23) rfl) ?_
                    refine zw_aload_n (pc := 122) (n := 0) (x := 81) rfl (zdal_p dlD_M_laysUnits_79 (i := 0) rfl) ?_
                    refine zr_getI (hf_N81_.w hW) (pc := 123) f_M_459 rfl (zdal_p dlD_M_laysUnits_79 (i := 1) rfl) ?_
                    refine zr_icmp_ge (pc := 126) (tgt := 169) ⟨hu80_a, hu80_b⟩ ⟨(ze_r N81_ 81 57).1, (ze_r N81_ 81 57).2⟩ (by decide) (zdal_p dlD_M_laysUnits_79 (i := 2) rfl) (fun hc_126 => ?_) (fun hc_126 => ?_)
                    · skip
                      have hyb2_ := hyb_
                      rw [show u80_ = um_ by omega] at hyb2_
                      refine zw_aload_n (pc := 169) (n := 0) (x := 81) rfl (zdal_p dlD_M_laysUnits_79 (i := 23) rfl) ?_
                      refine zr_getI (hf_N81_.w hW) (pc := 170) f_M_459 rfl (zdal_p dlD_M_laysUnits_80 (i := 0) rfl) ?_
                      refine zw_istore (pc := 173) (i := 5) (L2 := [some (.ref 81), some (.int (Int32.ofInt u28_)), some (.int (Int32.ofInt (zshl 1 (((ze Mz 81 26) - 1) - u28_)))), some (.int (Int32.ofInt u79_)), some (.int (Int32.ofInt u57_)), some (.int (Int32.ofInt (ze N81_ 81 57)))]) (by decide) rfl (zdal_p dlD_M_laysUnits_80 (i := 1) rfl) ?_
                      have lp_175 : ∀ (n : Nat) (u102_ : Int) (hu102_a : -2147483648 ≤ u102_) (hu102_b : u102_ < 2147483648) (u103_ : Int) (hu103_a : -2147483648 ≤ u103_) (hu103_b : u103_ < 2147483648) (N104_ : zMem) (hs105_ : zFr [] [110] N81_ N104_) (i106_ : zUc N104_ (ze Mz 81 26 - 1 - u28_).toNat (ze N104_ 81 57) u57_ u102_ u103_) (i107_ : zMq T u28_ N104_) (i108_ : ze N104_ 81 57 ≤ 32768) (i109_ : ze N104_ 81 57 ≤ ((2 ^ gcu T (ze Mz 81 26 - 1 - u28_).toNat : Nat) : Int)) (i110_ : 0 ≤ u102_) (i111_ : u102_ ≤ u103_) (i112_ : ze N104_ 81 57 ≤ u103_) (i113_ : u103_ ≤ u57_) (i114_ : u57_ ≤ 2 * ze N104_ 81 57) (i115_ : zyD T g_ N104_ (ze Mz 81 26 - 1 - u28_).toNat um_ u102_ u103_) (i116_ : zB 110 65536 0 2147483647 N104_), (u57_ - u103_).toNat < n → zW l m_M_laysUnits (zn Mz + 0, zw Mz + 0) N104_ 175 [some (.ref 81), some (.int (Int32.ofInt u28_)), some (.int (Int32.ofInt (zshl 1 (((ze Mz 81 26) - 1) - u28_)))), some (.int (Int32.ofInt u102_)), some (.int (Int32.ofInt u57_)), some (.int (Int32.ofInt u103_))] [] (zpV [55, 57, 58] [109, 110] Mz (fun N => zB 110 65536 0 2147483647 N ∧ 0 ≤ ze N 81 57 ∧ ze N 81 57 ≤ 65536 ∧ ze N 81 58 = 1 ∧ (zyO T N (gF T).length (ze N 81 57)))) := by
                        intro n
                        induction n with
                        | zero =>
                          intro u102_ hu102_a hu102_b u103_ hu103_a hu103_b N104_ hs105_ i106_ i107_ i108_ i109_ i110_ i111_ i112_ i113_ i114_ i115_ i116_ h0
                          exact absurd h0 (Nat.not_lt_zero _)
                        | succ n ih_175 =>
                          intro u102_ hu102_a hu102_b u103_ hu103_a hu103_b N104_ hs105_ i106_ i107_ i108_ i109_ i110_ i111_ i112_ i113_ i114_ i115_ i116_ hlt_175
                          have hf_N104_ : zFr [55, 57, 58] [109, 110] Mz N104_ := hf_N81_.tr hs105_ (by decide) (by decide)
                          have hb0_N104_ : zFr [55, 57] [109, 110] N19_ N104_ := hb0_N81_.tr hs105_ (by decide) (by decide)
                          have e26_N104_ : ze N104_ 81 26 = ze N81_ 81 26 := hs105_.e (by decide)
                          have e55_N104_ : ze N104_ 81 55 = ze N81_ 81 55 := hs105_.e (by decide)
                          have e57_N104_ : ze N104_ 81 57 = ze N81_ 81 57 := hs105_.e (by decide)
                          have e58_N104_ : ze N104_ 81 58 = ze N81_ 81 58 := hs105_.e (by decide)
                          have c117_ : zGB T N104_ := zGB.fr hs105_ c95_ (by decide) (by decide)
                          have c118_ : zTab T N104_ := zTab.fr hs105_ c96_ (by decide) (by decide)
                          have c119_ : zB 85 144 0 5 N104_ := zB.fr hs105_ c97_ (by decide) (by decide)
                          have c120_ : zJX T N104_ := zJX.fr hs105_ c98_ (by decide) (by decide)
                          have c121_ : zFirs T N104_ := zFirs.fr hs105_ c99_ (by decide) (by decide)
                          have c122_ : zSSm T N104_ := zSSm.fr hs105_ c100_ (by decide) (by decide)
                          have c123_ : zGD N104_ := zGD.fr hs105_ c101_ (by decide) (by decide)
                          have hyd_ := (show zyD T g_ N104_ (ze Mz 81 26 - 1 - u28_).toNat um_ u102_ u103_ by first | with_reducible assumption | assumption)
                          refine zw_iload (pc := 175) (i := 5) (x := Int32.ofInt u103_) rfl (zdal_p dlD_M_laysUnits_80 (i := 2) rfl) ?_
                          refine zw_iload (pc := 177) (i := 4) (x := Int32.ofInt u57_) rfl (zdal_p dlD_M_laysUnits_80 (i := 3) rfl) ?_
                          refine zr_icmp_ge (pc := 179) (tgt := 204) ⟨hu103_a, hu103_b⟩ ⟨hu57_a, hu57_b⟩ (by decide) (zdal_p dlD_M_laysUnits_80 (i := 4) rfl) (fun hc_179 => ?_) (fun hc_179 => ?_)
                          · skip
                            refine zw_aload_n (pc := 204) (n := 0) (x := 81) rfl (zdal_p dlD_M_laysUnits_80 (i := 16) rfl) ?_
                            refine zw_iload_n (pc := 205) (n := 3) (x := Int32.ofInt u102_) rfl (zdal_p dlD_M_laysUnits_80 (i := 17) rfl) ?_
                            refine zr_putI (hf_N104_.w hW) (pc := 206) f_M_459 rfl rfl ⟨by omega, by omega⟩ rfl rfl (zdal_p dlD_M_laysUnits_80 (i := 18) rfl) (fun N124_ hsN124_ hvN124_ => ?_)
                            have hf_N124_ : zFr [55, 57, 58] [109, 110] Mz N124_ := hf_N104_.tr hsN124_ (by decide) (by decide)
                            have hb0_N124_ : zFr [55, 57] [109, 110] N19_ N124_ := hb0_N104_.tr hsN124_ (by decide) (by decide)
                            have e26_N124_ : ze N124_ 81 26 = ze N104_ 81 26 := hsN124_.e (by decide)
                            have e55_N124_ : ze N124_ 81 55 = ze N104_ 81 55 := hsN124_.e (by decide)
                            have r57_N124_ := ze_r N124_ 81 57
                            have e58_N124_ : ze N124_ 81 58 = ze N104_ 81 58 := hsN124_.e (by decide)
                            have c125_ : zGB T N124_ := zGB.fr hsN124_ c117_ (by decide) (by decide)
                            have c126_ : zTab T N124_ := zTab.fr hsN124_ c118_ (by decide) (by decide)
                            have c127_ : zB 85 144 0 5 N124_ := zB.fr hsN124_ c119_ (by decide) (by decide)
                            have c128_ : zJX T N124_ := zJX.fr hsN124_ c120_ (by decide) (by decide)
                            have c129_ : zFirs T N124_ := zFirs.fr hsN124_ c121_ (by decide) (by decide)
                            have c130_ : zSSm T N124_ := zSSm.fr hsN124_ c122_ (by decide) (by decide)
                            have c131_ : zGD N124_ := zGD.fr hsN124_ c123_ (by decide) (by decide)
                            have c132_ : zB 110 65536 0 2147483647 N124_ := zB.fr hsN124_ i116_ (by decide) (by decide)
                            have hUn_ := zUo_s (d := (ze Mz 81 26 - 1 - u28_).toNat) (j := u28_) (by omega) (by omega) (show ze N104_ 81 57 ≤ ((2 ^ gcu T (ze Mz 81 26 - 1 - u28_).toNat : Nat) : Int) by first | with_reducible assumption | assumption) (show zMq T u28_ N104_ by first | with_reducible assumption | assumption) (show zUc N104_ (ze Mz 81 26 - 1 - u28_).toNat (ze N104_ 81 57) u57_ u102_ u103_ by first | with_reducible assumption | assumption) (by omega) (fun i => hsN124_.ie (by decide) (by decide) i)
                            have hUm_ : zUo T N124_ (ze Mz 81 26 - 1 - (u28_ + (-1))).toNat (ze N124_ 81 57) := by rw [show (ze Mz 81 26 - 1 - (u28_ + (-1))).toNat = (ze Mz 81 26 - 1 - u28_).toNat + 1 by omega, show ze N124_ 81 57 = u102_ by omega]; exact hUn_
                            have hyd2_ := hyd_
                            rw [show u103_ = u57_ by omega] at hyd2_
                            have hyO_ := zyO_s hT hGr (d := (ze Mz 81 26 - 1 - u28_).toNat) (by omega) hG_ ⟨by omega, by omega⟩ hyd2_
                            have hyP_ : zyO T N124_ (ze Mz 81 26 - 1 - (u28_ + (-1))).toNat (ze N124_ 81 57) := by rw [show (ze Mz 81 26 - 1 - (u28_ + (-1))).toNat = (ze Mz 81 26 - 1 - u28_).toNat + 1 by omega, show ze N124_ 81 57 = u102_ by omega]; exact zyO_c hyO_ (fun i_ => hsN124_.ie (by decide) (by decide) i_)
                            refine zr_iinc (pc := 209) (i := 1) (a := u28_) (n := -1) (L2 := [some (.ref 81), some (.int (Int32.ofInt (u28_ + (-1)))), some (.int (Int32.ofInt (zshl 1 (((ze Mz 81 26) - 1) - u28_)))), some (.int (Int32.ofInt u102_)), some (.int (Int32.ofInt u57_)), some (.int (Int32.ofInt u103_))]) rfl (by decide) rfl (zdal_p dlD_M_laysUnits_80 (i := 19) rfl) ?_
                            refine zw_goto (pc := 212) (tgt := 32) (by decide) (zdal_p dlD_M_laysUnits_80 (i := 20) rfl) ?_
                            refine zW_le [some (.ref 81), some (.int (Int32.ofInt (u28_ + (-1)))), none, none, none, none] (⟨rfl, rfl, trivial⟩) ?_
                            exact ih_32 (u28_ + (-1)) (by omega) (by omega) N124_ hb0_N124_ (show -1 ≤ (u28_ + (-1)) by first | with_reducible assumption | assumption | omega) (show (u28_ + (-1)) ≤ ze Mz 81 26 - 1 by first | with_reducible assumption | assumption | omega) (show zUo T N124_ (ze Mz 81 26 - 1 - (u28_ + (-1))).toNat (ze N124_ 81 57) by exact hUm_) (show 0 ≤ ze N124_ 81 57 by first | with_reducible assumption | assumption | omega) (show ze N124_ 81 57 ≤ 65536 by first | with_reducible assumption | assumption | omega) (show zyO T N124_ (ze Mz 81 26 - 1 - (u28_ + (-1))).toNat (ze N124_ 81 57) by exact hyP_) (show ze N124_ 81 58 = 1 by first | with_reducible assumption | assumption | omega) c132_ (by omega)
                          · skip
                            refine zw_aload_n (pc := 182) (n := 0) (x := 81) rfl (zdal_p dlD_M_laysUnits_80 (i := 5) rfl) ?_
                            refine zr_getF (r := 110) (hf_N104_.w hW) (pc := 183) f_M_103 rfl (zh_110 (hf_N104_.w hW)).1 (zdal_p dlD_M_laysUnits_80 (i := 6) rfl) ?_
                            refine zw_iload_n (pc := 186) (n := 3) (x := Int32.ofInt u102_) rfl (zdal_p dlD_M_laysUnits_80 (i := 7) rfl) ?_
                            refine zw_aload_n (pc := 187) (n := 0) (x := 81) rfl (zdal_p dlD_M_laysUnits_80 (i := 8) rfl) ?_
                            refine zr_getF (r := 110) (hf_N104_.w hW) (pc := 188) f_M_103 rfl (zh_110 (hf_N104_.w hW)).1 (zdal_p dlD_M_laysUnits_80 (i := 9) rfl) ?_
                            refine zw_iload (pc := 191) (i := 5) (x := Int32.ofInt u103_) rfl (zdal_p dlD_M_laysUnits_80 (i := 10) rfl) ?_
                            refine zr_ialdn (pc := 193) (zh_110 (hf_N104_.w hW)).2 (by decide) (by omega) (by omega) (zdal_p dlD_M_laysUnits_80 (i := 11) rfl) (fun v133_ hv133_ hv133_a hv133_b => ?_)
                            have hr134_ := i116_.g (e := u103_) (by omega) (by omega)
                            rw [← hv133_] at hr134_
                            have hUi_N104_ := (show zUc N104_ (ze Mz 81 26 - 1 - u28_).toNat (ze N104_ 81 57) u57_ u102_ u103_ by first | with_reducible assumption | assumption).2.1 (u103_).toNat (by omega)
                            refine zr_toI (show v133_ = ze N104_ 110 (u103_).toNat by omega) ?_
                            refine zr_iast (pc := 194) (zh_110 (hf_N104_.w hW)).2 (by decide) (by decide) (by omega) (by omega) (zdal_p dlD_M_laysUnits_80 (i := 12) rfl) (fun N135_ hN135_ hsN135_ => ?_)
                            have hf_N135_ : zFr [55, 57, 58] [109, 110] Mz N135_ := hf_N104_.tr hsN135_ (by decide) (by decide)
                            have hb0_N135_ : zFr [55, 57] [109, 110] N19_ N135_ := hb0_N104_.tr hsN135_ (by decide) (by decide)
                            have hb1_N135_ : zFr [] [110] N81_ N135_ := hs105_.tr hsN135_ (by decide) (by decide)
                            have e26_N135_ : ze N135_ 81 26 = ze N104_ 81 26 := hsN135_.e (by decide)
                            have e55_N135_ : ze N135_ 81 55 = ze N104_ 81 55 := hsN135_.e (by decide)
                            have e57_N135_ : ze N135_ 81 57 = ze N104_ 81 57 := hsN135_.e (by decide)
                            have e58_N135_ : ze N135_ 81 58 = ze N104_ 81 58 := hsN135_.e (by decide)
                            have c136_ : zGB T N135_ := zGB.fr hsN135_ c117_ (by decide) (by decide)
                            have c137_ : zTab T N135_ := zTab.fr hsN135_ c118_ (by decide) (by decide)
                            have c138_ : zB 85 144 0 5 N135_ := zB.fr hsN135_ c119_ (by decide) (by decide)
                            have c139_ : zJX T N135_ := zJX.fr hsN135_ c120_ (by decide) (by decide)
                            have c140_ : zFirs T N135_ := zFirs.fr hsN135_ c121_ (by decide) (by decide)
                            have c141_ : zSSm T N135_ := zSSm.fr hsN135_ c122_ (by decide) (by decide)
                            have c142_ : zGD N135_ := zGD.fr hsN135_ c123_ (by decide) (by decide)
                            have c143_ : zB 110 65536 0 2147483647 N135_ := zB.s i116_ hN135_ (by omega) (by omega) (by decide) (by decide)
                            have hUv_ := zUc_s (d := (ze Mz 81 26 - 1 - u28_).toNat) (by omega) (show zUc N104_ (ze Mz 81 26 - 1 - u28_).toNat (ze N104_ 81 57) u57_ u102_ u103_ by first | with_reducible assumption | assumption) (by omega) rfl hN135_
                            have hyD_ := zyD_s hG_ hyd_ ⟨by omega, by omega⟩ (by omega) ⟨by omega, by omega⟩ hN135_ ⟨by omega, by omega⟩ rfl
                            refine zr_iinc (pc := 195) (i := 3) (a := u102_) (n := 1) (L2 := [some (.ref 81), some (.int (Int32.ofInt u28_)), some (.int (Int32.ofInt (zshl 1 (((ze Mz 81 26) - 1) - u28_)))), some (.int (Int32.ofInt (u102_ + 1))), some (.int (Int32.ofInt u57_)), some (.int (Int32.ofInt u103_))]) rfl (by decide) rfl (zdal_p dlD_M_laysUnits_80 (i := 13) rfl) ?_
                            refine zr_iinc (pc := 198) (i := 5) (a := u103_) (n := 1) (L2 := [some (.ref 81), some (.int (Int32.ofInt u28_)), some (.int (Int32.ofInt (zshl 1 (((ze Mz 81 26) - 1) - u28_)))), some (.int (Int32.ofInt (u102_ + 1))), some (.int (Int32.ofInt u57_)), some (.int (Int32.ofInt (u103_ + 1)))]) rfl (by decide) rfl (zdal_p dlD_M_laysUnits_80 (i := 14) rfl) ?_
                            refine zw_goto (pc := 201) (tgt := 175) (by decide) (zdal_p dlD_M_laysUnits_80 (i := 15) rfl) ?_
                            have hMb_ : zMq T u28_ N135_ := by first | with_reducible assumption | exact zMq.fr hsN135_ (by first | with_reducible assumption | assumption) (by decide) (by decide) | assumption
                            have hUb_ : zUc N135_ (ze Mz 81 26 - 1 - u28_).toNat (ze N135_ 81 57) u57_ (u102_ + 1) (u103_ + 1) := by (rw [show ze N135_ 81 57 = ze N104_ 81 57 by omega]; exact hUv_)
                            exact ih_175 (u102_ + 1) (by omega) (by omega) (u103_ + 1) (by omega) (by omega) N135_ hb1_N135_ (show zUc N135_ (ze Mz 81 26 - 1 - u28_).toNat (ze N135_ 81 57) u57_ (u102_ + 1) (u103_ + 1) by exact hUb_) (show zMq T u28_ N135_ by first | with_reducible assumption | assumption | omega) (show ze N135_ 81 57 ≤ 32768 by first | with_reducible assumption | assumption | omega) (show ze N135_ 81 57 ≤ ((2 ^ gcu T (ze Mz 81 26 - 1 - u28_).toNat : Nat) : Int) by first | with_reducible assumption | assumption | omega) (show 0 ≤ (u102_ + 1) by first | with_reducible assumption | assumption | omega) (show (u102_ + 1) ≤ (u103_ + 1) by first | with_reducible assumption | assumption | omega) (show ze N135_ 81 57 ≤ (u103_ + 1) by first | with_reducible assumption | assumption | omega) (show (u103_ + 1) ≤ u57_ by first | with_reducible assumption | assumption | omega) (show u57_ ≤ 2 * ze N135_ 81 57 by first | with_reducible assumption | assumption | omega) (show zyD T g_ N135_ (ze Mz 81 26 - 1 - u28_).toNat um_ (u102_ + 1) (u103_ + 1) by exact hyD_) c143_ (by omega)
                      exact lp_175 _ u79_ hu79_a hu79_b (ze N81_ 81 57) (ze_r N81_ 81 57).1 (ze_r N81_ 81 57).2 N81_ zFr.rf (show zUc N81_ (ze Mz 81 26 - 1 - u28_).toNat (ze N81_ 81 57) u57_ u79_ (ze N81_ 81 57) by exact zUc_0 (by first | with_reducible assumption | assumption) (by omega)) (show zMq T u28_ N81_ by first | with_reducible assumption | assumption | omega) (show ze N81_ 81 57 ≤ 32768 by first | with_reducible assumption | assumption | omega) (show ze N81_ 81 57 ≤ ((2 ^ gcu T (ze Mz 81 26 - 1 - u28_).toNat : Nat) : Int) by first | with_reducible assumption | assumption | omega) (show 0 ≤ u79_ by first | with_reducible assumption | assumption | omega) (show u79_ ≤ (ze N81_ 81 57) by first | with_reducible assumption | assumption | omega) (show ze N81_ 81 57 ≤ (ze N81_ 81 57) by first | with_reducible assumption | assumption | omega) (show (ze N81_ 81 57) ≤ u57_ by first | with_reducible assumption | assumption | omega) (show u57_ ≤ 2 * ze N81_ 81 57 by first | with_reducible assumption | assumption | omega) (show zyD T g_ N81_ (ze Mz 81 26 - 1 - u28_).toNat um_ u79_ (ze N81_ 81 57) by rw [show (ze N81_ 81 57) = um_ by omega]; exact zyD_0 hyb2_) i94_ (Nat.lt_succ_self _)
                    · skip
                      refine zw_aload_n (pc := 129) (n := 0) (x := 81) rfl (zdal_p dlD_M_laysUnits_79 (i := 3) rfl) ?_
                      refine zw_aload_n (pc := 130) (n := 0) (x := 81) rfl (zdal_p dlD_M_laysUnits_79 (i := 4) rfl) ?_
                      refine zr_getF (r := 110) (hf_N81_.w hW) (pc := 131) f_M_103 rfl (zh_110 (hf_N81_.w hW)).1 (zdal_p dlD_M_laysUnits_79 (i := 5) rfl) ?_
                      refine zw_iload (pc := 134) (i := 5) (x := Int32.ofInt u80_) rfl (zdal_p dlD_M_laysUnits_79 (i := 6) rfl) ?_
                      refine zr_ialdn (pc := 136) (zh_110 (hf_N81_.w hW)).2 (by decide) (by omega) (by omega) (zdal_p dlD_M_laysUnits_79 (i := 7) rfl) (fun v144_ hv144_ hv144_a hv144_b => ?_)
                      have hr145_ := i94_.g (e := u80_) (by omega) (by omega)
                      rw [← hv144_] at hr145_
                      have hUi_N81_ := (show zUb N81_ (ze Mz 81 26 - 1 - u28_).toNat (ze N81_ 81 57) u57_ u79_ u80_ by first | with_reducible assumption | assumption).2.1 (u80_).toNat (by omega)
                      refine zr_toI (show v144_ = ze N81_ 110 (u80_).toNat by omega) ?_
                      refine zw_iload_n (pc := 137) (n := 1) (x := Int32.ofInt u28_) rfl (zdal_p dlD_M_laysUnits_79 (i := 8) rfl) ?_
                      refine zr_callV (hf_N81_.w hW) hf_N81_.x (pc := 138) [.int (Int32.ofInt (ze N81_ 110 (u80_).toNat)), .int (Int32.ofInt u28_)] [] l_M_462 (c_M_isUnitAt l N81_ (hf_N81_.w hW) (ze N81_ 110 (u80_).toNat) (by omega) (by omega) u28_ hu28_a hu28_b T hO hX c95_ (show 0 ≤ (ze N81_ 110 (u80_).toNat) by first | with_reducible assumption | assumption | omega) (show zMq T u28_ N81_ by first | with_reducible assumption | assumption | omega)) rfl rfl rfl (by decide) (Nat.le_of_ble_eq_true rfl) (zdal_p dlD_M_laysUnits_79 (i := 9) rfl) ?_
                      rintro _ N146_ ⟨v147_, rfl, ⟨hv147_a, hv147_b⟩, hsN146_, hp0_N146_⟩
                      obtain rfl := hsN146_.eq.symm
                      replace hp0_N146_ : ((v147_ = 1 ∧ zuk N81_ (ze N81_ 110 (u80_).toNat)) ∨ (v147_ = 0 ∧ ¬ zuk N81_ (ze N81_ 110 (u80_).toNat))) := hp0_N146_
                      rcases hp0_N146_ with ⟨rfl, ha138_0_hp0_N146_⟩ | ⟨rfl, ha138_0_hp0_N146_⟩
                      · skip
                        have hzk_ := ha138_0_hp0_N146_
                        have hyr_ := (zuk_z (T := T) (j := u28_) (by omega) (by first | with_reducible assumption | assumption) hms_).mp hzk_
                        show zW l m_M_laysUnits (zn Mz + 0, zw Mz + 0) N81_ 141 [some (.ref 81), some (.int (Int32.ofInt u28_)), some (.int (Int32.ofInt (zshl 1 (((ze Mz 81 26) - 1) - u28_)))), some (.int (Int32.ofInt u79_)), some (.int (Int32.ofInt u57_)), some (.int (Int32.ofInt u80_))] [.int (Int32.ofInt 1)] _
                        refine zr_if_ne (pc := 141) (tgt := 147) ⟨(by decide), (by decide)⟩ (by decide) (zdal_p dlD_M_laysUnits_79 (i := 10) rfl) (fun hc_141 => ?_) (fun hc_141 => ?_)
                        · skip
                          refine zw_aload_n (pc := 147) (n := 0) (x := 81) rfl (zdal_p dlD_M_laysUnits_79 (i := 12) rfl) ?_
                          refine zr_getF (r := 110) (hf_N81_.w hW) (pc := 148) f_M_103 rfl (zh_110 (hf_N81_.w hW)).1 (zdal_p dlD_M_laysUnits_79 (i := 13) rfl) ?_
                          refine zw_iload_n (pc := 151) (n := 3) (x := Int32.ofInt u79_) rfl (zdal_p dlD_M_laysUnits_79 (i := 14) rfl) ?_
                          refine zw_aload_n (pc := 152) (n := 0) (x := 81) rfl (zdal_p dlD_M_laysUnits_79 (i := 15) rfl) ?_
                          refine zr_getF (r := 110) (hf_N81_.w hW) (pc := 153) f_M_103 rfl (zh_110 (hf_N81_.w hW)).1 (zdal_p dlD_M_laysUnits_79 (i := 16) rfl) ?_
                          refine zw_iload (pc := 156) (i := 5) (x := Int32.ofInt u80_) rfl (zdal_p dlD_M_laysUnits_79 (i := 17) rfl) ?_
                          refine zr_ialdn (pc := 158) (zh_110 (hf_N81_.w hW)).2 (by decide) (by omega) (by omega) (zdal_p dlD_M_laysUnits_79 (i := 18) rfl) (fun v148_ hv148_ hv148_a hv148_b => ?_)
                          have hr149_ := i94_.g (e := u80_) (by omega) (by omega)
                          rw [← hv148_] at hr149_
                          refine zr_toI (show v148_ = ze N81_ 110 (u80_).toNat by omega) ?_
                          refine zr_iast (pc := 159) (zh_110 (hf_N81_.w hW)).2 (by decide) (by decide) (by omega) (by omega) (zdal_p dlD_M_laysUnits_79 (i := 19) rfl) (fun N150_ hN150_ hsN150_ => ?_)
                          have hf_N150_ : zFr [55, 57, 58] [109, 110] Mz N150_ := hf_N81_.tr hsN150_ (by decide) (by decide)
                          have hb0_N150_ : zFr [55, 57] [109, 110] N19_ N150_ := hb0_N81_.tr hsN150_ (by decide) (by decide)
                          have hb1_N150_ : zFr [] [110] N59_ N150_ := hs82_.tr hsN150_ (by decide) (by decide)
                          have e26_N150_ : ze N150_ 81 26 = ze N81_ 81 26 := hsN150_.e (by decide)
                          have e55_N150_ : ze N150_ 81 55 = ze N81_ 81 55 := hsN150_.e (by decide)
                          have e57_N150_ : ze N150_ 81 57 = ze N81_ 81 57 := hsN150_.e (by decide)
                          have e58_N150_ : ze N150_ 81 58 = ze N81_ 81 58 := hsN150_.e (by decide)
                          have c151_ : zGB T N150_ := zGB.fr hsN150_ c95_ (by decide) (by decide)
                          have c152_ : zTab T N150_ := zTab.fr hsN150_ c96_ (by decide) (by decide)
                          have c153_ : zB 85 144 0 5 N150_ := zB.fr hsN150_ c97_ (by decide) (by decide)
                          have c154_ : zJX T N150_ := zJX.fr hsN150_ c98_ (by decide) (by decide)
                          have c155_ : zFirs T N150_ := zFirs.fr hsN150_ c99_ (by decide) (by decide)
                          have c156_ : zSSm T N150_ := zSSm.fr hsN150_ c100_ (by decide) (by decide)
                          have c157_ : zGD N150_ := zGD.fr hsN150_ c101_ (by decide) (by decide)
                          have c158_ : zB 110 65536 0 2147483647 N150_ := zB.s i94_ hN150_ (by omega) (by omega) (by decide) (by decide)
                          have hUt_ := zUb_s1 (d := (ze Mz 81 26 - 1 - u28_).toNat) (by omega) (show zUb N81_ (ze Mz 81 26 - 1 - u28_).toNat (ze N81_ 81 57) u57_ u79_ u80_ by first | with_reducible assumption | assumption) (by omega) rfl hzk_ hN150_
                          have hyB_ := zyB_s hG_ hyb_ (by omega) (by omega) ⟨by omega, by omega⟩ (by rw [(show (gF T).length - 1 - (ze Mz 81 26 - 1 - u28_).toNat = (u28_).toNat by omega)]; exact hyr_) hN150_ ⟨by omega, by omega⟩ rfl
                          refine zr_iinc (pc := 160) (i := 3) (a := u79_) (n := 1) (L2 := [some (.ref 81), some (.int (Int32.ofInt u28_)), some (.int (Int32.ofInt (zshl 1 (((ze Mz 81 26) - 1) - u28_)))), some (.int (Int32.ofInt (u79_ + 1))), some (.int (Int32.ofInt u57_)), some (.int (Int32.ofInt u80_))]) rfl (by decide) rfl (zdal_p dlD_M_laysUnits_79 (i := 20) rfl) ?_
                          refine zr_iinc (pc := 163) (i := 5) (a := u80_) (n := 1) (L2 := [some (.ref 81), some (.int (Int32.ofInt u28_)), some (.int (Int32.ofInt (zshl 1 (((ze Mz 81 26) - 1) - u28_)))), some (.int (Int32.ofInt (u79_ + 1))), some (.int (Int32.ofInt u57_)), some (.int (Int32.ofInt (u80_ + 1)))]) rfl (by decide) rfl (zdal_p dlD_M_laysUnits_79 (i := 21) rfl) ?_
                          refine zw_goto (pc := 166) (tgt := 120) (by decide) (zdal_p dlD_M_laysUnits_79 (i := 22) rfl) ?_
                          have hMb_ : zMq T u28_ N150_ := by first | with_reducible assumption | exact zMq.fr hsN150_ (by first | with_reducible assumption | assumption) (by decide) (by decide) | assumption
                          have hUb_ : zUb N150_ (ze Mz 81 26 - 1 - u28_).toNat (ze N150_ 81 57) u57_ (u79_ + 1) (u80_ + 1) := by first | exact zUb_s0 (by first | with_reducible assumption | assumption) (by omega) | (rw [show ze N150_ 81 57 = ze N81_ 81 57 by omega]; exact hUt_)
                          have hmsb_ : zMsN T (u28_).toNat N150_ := by first | with_reducible assumption | exact zMsN.fr hsN150_ hms_ (by decide) (by decide) | assumption
                          have hyx_ : zyB T g_ N150_ (ze Mz 81 26 - 1 - u28_).toNat (u79_ + 1) (u80_ + 1) := by first | exact zyB_n hyb_ (by omega) (by rw [(show (gF T).length - 1 - (ze Mz 81 26 - 1 - u28_).toNat = (u28_).toNat by omega)]; exact hyn0_) | exact hyB_
                          exact ih_120 (u79_ + 1) (by omega) (by omega) (u80_ + 1) (by omega) (by omega) N150_ hb1_N150_ (show zUb N150_ (ze Mz 81 26 - 1 - u28_).toNat (ze N150_ 81 57) u57_ (u79_ + 1) (u80_ + 1) by exact hUb_) (show zMq T u28_ N150_ by first | with_reducible assumption | assumption | omega) (show ze N150_ 81 57 ≤ 32768 by first | with_reducible assumption | assumption | omega) (show ze N150_ 81 57 ≤ ((2 ^ gcu T (ze Mz 81 26 - 1 - u28_).toNat : Nat) : Int) by first | with_reducible assumption | assumption | omega) (show 0 ≤ (u79_ + 1) by first | with_reducible assumption | assumption | omega) (show (u79_ + 1) ≤ (u80_ + 1) by first | with_reducible assumption | assumption | omega) (show (u80_ + 1) ≤ ze N150_ 81 57 by first | with_reducible assumption | assumption | omega) (show ze N150_ 81 57 ≤ u57_ by first | with_reducible assumption | assumption | omega) (show u57_ ≤ 2 * ze N150_ 81 57 by first | with_reducible assumption | assumption | omega) (show zyB T g_ N150_ (ze Mz 81 26 - 1 - u28_).toNat (u79_ + 1) (u80_ + 1) by exact hyx_) (show zMsN T (u28_).toNat N150_ by exact hmsb_) c158_ (by omega)
                        · skip
                          exact absurd hc_141 (by decide)
                      · skip
                        have hyn0_ := fun q_ => ha138_0_hp0_N146_ ((zuk_z (T := T) (j := u28_) (by omega) (by first | with_reducible assumption | assumption) hms_).mpr q_)
                        show zW l m_M_laysUnits (zn Mz + 0, zw Mz + 0) N81_ 141 [some (.ref 81), some (.int (Int32.ofInt u28_)), some (.int (Int32.ofInt (zshl 1 (((ze Mz 81 26) - 1) - u28_)))), some (.int (Int32.ofInt u79_)), some (.int (Int32.ofInt u57_)), some (.int (Int32.ofInt u80_))] [.int (Int32.ofInt 0)] _
                        refine zr_if_ne (pc := 141) (tgt := 147) ⟨(by decide), (by decide)⟩ (by decide) (zdal_p dlD_M_laysUnits_79 (i := 10) rfl) (fun hc_141 => ?_) (fun hc_141 => ?_)
                        · skip
                          exact absurd hc_141 (by decide)
                        · skip
                          refine zw_goto (pc := 144) (tgt := 163) (by decide) (zdal_p dlD_M_laysUnits_79 (i := 11) rfl) ?_
                          refine zr_iinc (pc := 163) (i := 5) (a := u80_) (n := 1) (L2 := [some (.ref 81), some (.int (Int32.ofInt u28_)), some (.int (Int32.ofInt (zshl 1 (((ze Mz 81 26) - 1) - u28_)))), some (.int (Int32.ofInt u79_)), some (.int (Int32.ofInt u57_)), some (.int (Int32.ofInt (u80_ + 1)))]) rfl (by decide) rfl (zdal_p dlD_M_laysUnits_79 (i := 21) rfl) ?_
                          refine zw_goto (pc := 166) (tgt := 120) (by decide) (zdal_p dlD_M_laysUnits_79 (i := 22) rfl) ?_
                          have hMb_ : zMq T u28_ N81_ := by first | with_reducible assumption | exact zMq.fr hsN81_ (by first | with_reducible assumption | assumption) (by decide) (by decide) | assumption
                          have hUb_ : zUb N81_ (ze Mz 81 26 - 1 - u28_).toNat (ze N81_ 81 57) u57_ u79_ (u80_ + 1) := by first | exact zUb_s0 (by first | with_reducible assumption | assumption) (by omega) | (rw [show ze N81_ 81 57 = ze N59_ 81 57 by omega]; exact hUt_)
                          have hmsb_ : zMsN T (u28_).toNat N81_ := by first | with_reducible assumption | exact zMsN.fr hsN81_ hms_ (by decide) (by decide) | assumption
                          have hyx_ : zyB T g_ N81_ (ze Mz 81 26 - 1 - u28_).toNat u79_ (u80_ + 1) := by first | exact zyB_n hyb_ (by omega) (by rw [(show (gF T).length - 1 - (ze Mz 81 26 - 1 - u28_).toNat = (u28_).toNat by omega)]; exact hyn0_) | exact hyB_
                          exact ih_120 u79_ hu79_a hu79_b (u80_ + 1) (by omega) (by omega) N81_ hs82_ (show zUb N81_ (ze Mz 81 26 - 1 - u28_).toNat (ze N81_ 81 57) u57_ u79_ (u80_ + 1) by exact hUb_) (show zMq T u28_ N81_ by first | with_reducible assumption | assumption | omega) (show ze N81_ 81 57 ≤ 32768 by first | with_reducible assumption | assumption | omega) (show ze N81_ 81 57 ≤ ((2 ^ gcu T (ze Mz 81 26 - 1 - u28_).toNat : Nat) : Int) by first | with_reducible assumption | assumption | omega) (show 0 ≤ u79_ by first | with_reducible assumption | assumption | omega) (show u79_ ≤ (u80_ + 1) by first | with_reducible assumption | assumption | omega) (show (u80_ + 1) ≤ ze N81_ 81 57 by first | with_reducible assumption | assumption | omega) (show ze N81_ 81 57 ≤ u57_ by first | with_reducible assumption | assumption | omega) (show u57_ ≤ 2 * ze N81_ 81 57 by first | with_reducible assumption | assumption | omega) (show zyB T g_ N81_ (ze Mz 81 26 - 1 - u28_).toNat u79_ (u80_ + 1) by exact hyx_) (show zMsN T (u28_).toNat N81_ by exact hmsb_) i94_ (by omega)
                exact lp_120 _ 0 (by decide) (by decide) 0 (by decide) (by decide) N59_ zFr.rf (show zUb N59_ (ze Mz 81 26 - 1 - u28_).toNat (ze N59_ 81 57) u57_ (0 : Int) (0 : Int) by exact zUb_0 (by first | with_reducible assumption | assumption) (by omega)) (show zMq T u28_ N59_ by first | with_reducible assumption | assumption | omega) (show ze N59_ 81 57 ≤ 32768 by first | with_reducible assumption | assumption | omega) (show ze N59_ 81 57 ≤ ((2 ^ gcu T (ze Mz 81 26 - 1 - u28_).toNat : Nat) : Int) by first | with_reducible assumption | assumption | omega) (show 0 ≤ (0 : Int) by first | with_reducible assumption | assumption | omega) (show (0 : Int) ≤ (0 : Int) by first | with_reducible assumption | assumption | omega) (show (0 : Int) ≤ ze N59_ 81 57 by first | with_reducible assumption | assumption | omega) (show ze N59_ 81 57 ≤ u57_ by first | with_reducible assumption | assumption | omega) (show u57_ ≤ 2 * ze N59_ 81 57 by first | with_reducible assumption | assumption | omega) (show zyB T g_ N59_ (ze Mz 81 26 - 1 - u28_).toNat (0 : Int) (0 : Int) by exact zyB_0 hg_) (show zMsN T (u28_).toNat N59_ by exact hms_) i71_ (Nat.lt_succ_self _)
              · skip
                refine zw_aload_n (pc := 72) (n := 0) (x := 81) rfl (zdal_p dlD_M_laysUnits_77 (i := 21) rfl) ?_
                refine zw_aload_n (pc := 73) (n := 0) (x := 81) rfl (zdal_p dlD_M_laysUnits_77 (i := 22) rfl) ?_
                refine zr_getF (r := 110) (hf_N59_.w hW) (pc := 74) f_M_103 rfl (zh_110 (hf_N59_.w hW)).1 (zdal_p dlD_M_laysUnits_77 (i := 23) rfl) ?_
                refine zw_iload (pc := 77) (i := 5) (x := Int32.ofInt u58_) rfl (zdal_p dlD_M_laysUnits_78 (i := 0) rfl) ?_
                refine zr_ialdn (pc := 79) (zh_110 (hf_N59_.w hW)).2 (by decide) (by omega) (by omega) (zdal_p dlD_M_laysUnits_78 (i := 1) rfl) (fun v159_ hv159_ hv159_a hv159_b => ?_)
                have hr160_ := i71_.g (e := u58_) (by omega) (by omega)
                rw [← hv159_] at hr160_
                have hUi_N59_ := (show zUa N59_ (ze Mz 81 26 - 1 - u28_).toNat (ze N59_ 81 57) u57_ u58_ by first | with_reducible assumption | assumption).2.1 (u58_).toNat (by omega)
                refine zr_toI (show v159_ = ze N59_ 110 (u58_).toNat by omega) ?_
                refine zw_iload_n (pc := 80) (n := 2) (x := Int32.ofInt (zshl 1 (((ze Mz 81 26) - 1) - u28_))) rfl (zdal_p dlD_M_laysUnits_78 (i := 2) rfl) ?_
                refine zr_ior (pc := 81) (zdal_p dlD_M_laysUnits_78 (i := 3) rfl) ?_
                have hr161_ := zor_r (ze N59_ 110 (u58_).toNat) (zshl 1 (((ze Mz 81 26) - 1) - u28_))
                have hbo_N59_ : 0 ≤ (zor (ze N59_ 110 (u58_).toNat) (zshl 1 (((ze Mz 81 26) - 1) - u28_))) := (zbor (by omega) (by omega) (by omega) hbit_).2
                refine zw_iload_n (pc := 82) (n := 1) (x := Int32.ofInt u28_) rfl (zdal_p dlD_M_laysUnits_78 (i := 4) rfl) ?_
                refine zr_callV (hf_N59_.w hW) hf_N59_.x (pc := 83) [.int (Int32.ofInt (zor (ze N59_ 110 (u58_).toNat) (zshl 1 (((ze Mz 81 26) - 1) - u28_)))), .int (Int32.ofInt u28_)] [] l_M_462 (c_M_isUnitAt l N59_ (hf_N59_.w hW) (zor (ze N59_ 110 (u58_).toNat) (zshl 1 (((ze Mz 81 26) - 1) - u28_))) (by omega) (by omega) u28_ hu28_a hu28_b T hO hX c72_ (show 0 ≤ (zor (ze N59_ 110 (u58_).toNat) (zshl 1 (((ze Mz 81 26) - 1) - u28_))) by first | with_reducible assumption | assumption | omega) (show zMq T u28_ N59_ by first | with_reducible assumption | assumption | omega)) rfl rfl rfl (by decide) (Nat.le_of_ble_eq_true rfl) (zdal_p dlD_M_laysUnits_78 (i := 5) rfl) ?_
                rintro _ N162_ ⟨v163_, rfl, ⟨hv163_a, hv163_b⟩, hsN162_, hp0_N162_⟩
                obtain rfl := hsN162_.eq.symm
                replace hp0_N162_ : ((v163_ = 1 ∧ zuk N59_ (zor (ze N59_ 110 (u58_).toNat) (zshl 1 (((ze Mz 81 26) - 1) - u28_)))) ∨ (v163_ = 0 ∧ ¬ zuk N59_ (zor (ze N59_ 110 (u58_).toNat) (zshl 1 (((ze Mz 81 26) - 1) - u28_))))) := hp0_N162_
                rcases hp0_N162_ with ⟨rfl, ha83_0_hp0_N162_⟩ | ⟨rfl, ha83_0_hp0_N162_⟩
                · skip
                  have hzk_ := ha83_0_hp0_N162_
                  have hyr_ := (zuk_z (T := T) (j := u28_) (by omega) (by first | with_reducible assumption | assumption) hms_).mp hzk_
                  rw [(zbor (d := (ze Mz 81 26 - 1 - u28_).toNat) (by omega) (by omega) (by omega) hbit_).1] at hyr_
                  show zW l m_M_laysUnits (zn Mz + 0, zw Mz + 0) N59_ 86 [some (.ref 81), some (.int (Int32.ofInt u28_)), some (.int (Int32.ofInt (zshl 1 (((ze Mz 81 26) - 1) - u28_)))), some (.int (Int32.ofInt 0)), some (.int (Int32.ofInt u57_)), some (.int (Int32.ofInt u58_))] [.int (Int32.ofInt 1)] _
                  refine zr_if_ne (pc := 86) (tgt := 92) ⟨(by decide), (by decide)⟩ (by decide) (zdal_p dlD_M_laysUnits_78 (i := 6) rfl) (fun hc_86 => ?_) (fun hc_86 => ?_)
                  · skip
                    refine zw_aload_n (pc := 92) (n := 0) (x := 81) rfl (zdal_p dlD_M_laysUnits_78 (i := 8) rfl) ?_
                    refine zr_getF (r := 110) (hf_N59_.w hW) (pc := 93) f_M_103 rfl (zh_110 (hf_N59_.w hW)).1 (zdal_p dlD_M_laysUnits_78 (i := 9) rfl) ?_
                    refine zw_iload (pc := 96) (i := 4) (x := Int32.ofInt u57_) rfl (zdal_p dlD_M_laysUnits_78 (i := 10) rfl) ?_
                    refine zw_aload_n (pc := 98) (n := 0) (x := 81) rfl (zdal_p dlD_M_laysUnits_78 (i := 11) rfl) ?_
                    refine zr_getF (r := 110) (hf_N59_.w hW) (pc := 99) f_M_103 rfl (zh_110 (hf_N59_.w hW)).1 (zdal_p dlD_M_laysUnits_78 (i := 12) rfl) ?_
                    refine zw_iload (pc := 102) (i := 5) (x := Int32.ofInt u58_) rfl (zdal_p dlD_M_laysUnits_78 (i := 13) rfl) ?_
                    refine zr_ialdn (pc := 104) (zh_110 (hf_N59_.w hW)).2 (by decide) (by omega) (by omega) (zdal_p dlD_M_laysUnits_78 (i := 14) rfl) (fun v164_ hv164_ hv164_a hv164_b => ?_)
                    have hr165_ := i71_.g (e := u58_) (by omega) (by omega)
                    rw [← hv164_] at hr165_
                    refine zr_toI (show v164_ = ze N59_ 110 (u58_).toNat by omega) ?_
                    refine zw_iload_n (pc := 105) (n := 2) (x := Int32.ofInt (zshl 1 (((ze Mz 81 26) - 1) - u28_))) rfl (zdal_p dlD_M_laysUnits_78 (i := 15) rfl) ?_
                    refine zr_ior (pc := 106) (zdal_p dlD_M_laysUnits_78 (i := 16) rfl) ?_
                    have hr166_ := zor_r (ze N59_ 110 (u58_).toNat) (zshl 1 (((ze Mz 81 26) - 1) - u28_))
                    refine zr_iast (pc := 107) (zh_110 (hf_N59_.w hW)).2 (by decide) (by decide) (by omega) (by omega) (zdal_p dlD_M_laysUnits_78 (i := 17) rfl) (fun N167_ hN167_ hsN167_ => ?_)
                    have hf_N167_ : zFr [55, 57, 58] [109, 110] Mz N167_ := hf_N59_.tr hsN167_ (by decide) (by decide)
                    have hb0_N167_ : zFr [55, 57] [109, 110] N19_ N167_ := hb0_N59_.tr hsN167_ (by decide) (by decide)
                    have hb1_N167_ : zFr [] [110] N46_ N167_ := hs60_.tr hsN167_ (by decide) (by decide)
                    have e26_N167_ : ze N167_ 81 26 = ze N59_ 81 26 := hsN167_.e (by decide)
                    have e55_N167_ : ze N167_ 81 55 = ze N59_ 81 55 := hsN167_.e (by decide)
                    have e57_N167_ : ze N167_ 81 57 = ze N59_ 81 57 := hsN167_.e (by decide)
                    have e58_N167_ : ze N167_ 81 58 = ze N59_ 81 58 := hsN167_.e (by decide)
                    have c168_ : zGB T N167_ := zGB.fr hsN167_ c72_ (by decide) (by decide)
                    have c169_ : zTab T N167_ := zTab.fr hsN167_ c73_ (by decide) (by decide)
                    have c170_ : zB 85 144 0 5 N167_ := zB.fr hsN167_ c74_ (by decide) (by decide)
                    have c171_ : zJX T N167_ := zJX.fr hsN167_ c75_ (by decide) (by decide)
                    have c172_ : zFirs T N167_ := zFirs.fr hsN167_ c76_ (by decide) (by decide)
                    have c173_ : zSSm T N167_ := zSSm.fr hsN167_ c77_ (by decide) (by decide)
                    have c174_ : zGD N167_ := zGD.fr hsN167_ c78_ (by decide) (by decide)
                    have c175_ : zB 110 65536 0 2147483647 N167_ := zB.s i71_ hN167_ (by omega) (by omega) (by decide) (by decide)
                    have hUs_ := zUa_s1 (T := T) (d := (ze Mz 81 26 - 1 - u28_).toNat) (j := u28_) (by omega) (by omega) (by omega) (show zMq T u28_ N59_ by first | with_reducible assumption | assumption) hbit_ (show zUa N59_ (ze Mz 81 26 - 1 - u28_).toNat (ze N59_ 81 57) u57_ u58_ by first | with_reducible assumption | assumption) (by omega) rfl hzk_ rfl hN167_
                    have hyA_ := zyA_s hya_ (by omega) (by omega) (by omega) (by rw [(show (gF T).length - 1 - (ze Mz 81 26 - 1 - u28_).toNat = (u28_).toNat by omega)]; exact hyr_) hN167_ ⟨by omega, by omega⟩ (zbor (d := (ze Mz 81 26 - 1 - u28_).toNat) (by omega) (by omega) (by omega) hbit_).1
                    refine zr_iinc (pc := 108) (i := 4) (a := u57_) (n := 1) (L2 := [some (.ref 81), some (.int (Int32.ofInt u28_)), some (.int (Int32.ofInt (zshl 1 (((ze Mz 81 26) - 1) - u28_)))), some (.int (Int32.ofInt 0)), some (.int (Int32.ofInt (u57_ + 1))), some (.int (Int32.ofInt u58_))]) rfl (by decide) rfl (zdal_p dlD_M_laysUnits_78 (i := 18) rfl) ?_
                    refine zr_iinc (pc := 111) (i := 5) (a := u58_) (n := 1) (L2 := [some (.ref 81), some (.int (Int32.ofInt u28_)), some (.int (Int32.ofInt (zshl 1 (((ze Mz 81 26) - 1) - u28_)))), some (.int (Int32.ofInt 0)), some (.int (Int32.ofInt (u57_ + 1))), some (.int (Int32.ofInt (u58_ + 1)))]) rfl (by decide) rfl (zdal_p dlD_M_laysUnits_78 (i := 19) rfl) ?_
                    refine zw_goto (pc := 114) (tgt := 63) (by decide) (zdal_p dlD_M_laysUnits_78 (i := 20) rfl) ?_
                    have hMb_ : zMq T u28_ N167_ := by first | with_reducible assumption | exact zMq.fr hsN167_ (by first | with_reducible assumption | assumption) (by decide) (by decide) | assumption
                    have hUb_ : zUa N167_ (ze Mz 81 26 - 1 - u28_).toNat (ze N167_ 81 57) (u57_ + 1) (u58_ + 1) := by first | exact zUa_s0 (by first | with_reducible assumption | assumption) (by omega) | (rw [show ze N167_ 81 57 = ze N59_ 81 57 by omega]; exact hUs_)
                    have hmsb_ : zMsN T (u28_).toNat N167_ := by first | with_reducible assumption | exact zMsN.fr hsN167_ hms_ (by decide) (by decide) | assumption
                    have hyx_ : zyA T N167_ (ze Mz 81 26 - 1 - u28_).toNat (ze N167_ 81 57) (u57_ + 1) (u58_ + 1) := by first | exact zyA_n hya_ (by omega) (by rw [(show (gF T).length - 1 - (ze Mz 81 26 - 1 - u28_).toNat = (u28_).toNat by omega)]; exact hyn0_) | (rw [show ze N167_ 81 57 = ze N59_ 81 57 by omega]; exact hyA_)
                    exact ih_63 (u57_ + 1) (by omega) (by omega) (u58_ + 1) (by omega) (by omega) N167_ hb1_N167_ (show zUa N167_ (ze Mz 81 26 - 1 - u28_).toNat (ze N167_ 81 57) (u57_ + 1) (u58_ + 1) by exact hUb_) (show zMq T u28_ N167_ by first | with_reducible assumption | assumption | omega) (show ze N167_ 81 57 ≤ 32768 by first | with_reducible assumption | assumption | omega) (show ze N167_ 81 57 ≤ ((2 ^ gcu T (ze Mz 81 26 - 1 - u28_).toNat : Nat) : Int) by first | with_reducible assumption | assumption | omega) (show 0 ≤ (u58_ + 1) by first | with_reducible assumption | assumption | omega) (show (u58_ + 1) ≤ ze N167_ 81 57 by first | with_reducible assumption | assumption | omega) (show ze N167_ 81 57 ≤ (u57_ + 1) by first | with_reducible assumption | assumption | omega) (show (u57_ + 1) ≤ ze N167_ 81 57 + (u58_ + 1) by first | with_reducible assumption | assumption | omega) (show zyA T N167_ (ze Mz 81 26 - 1 - u28_).toNat (ze N167_ 81 57) (u57_ + 1) (u58_ + 1) by exact hyx_) (show zMsN T (u28_).toNat N167_ by exact hmsb_) c175_ (by omega)
                  · skip
                    exact absurd hc_86 (by decide)
                · skip
                  have hyn0_ := fun q_ => ha83_0_hp0_N162_ ((zuk_z (T := T) (j := u28_) (by omega) (by first | with_reducible assumption | assumption) hms_).mpr q_)
                  rw [(zbor (d := (ze Mz 81 26 - 1 - u28_).toNat) (by omega) (by omega) (by omega) hbit_).1] at hyn0_
                  show zW l m_M_laysUnits (zn Mz + 0, zw Mz + 0) N59_ 86 [some (.ref 81), some (.int (Int32.ofInt u28_)), some (.int (Int32.ofInt (zshl 1 (((ze Mz 81 26) - 1) - u28_)))), some (.int (Int32.ofInt 0)), some (.int (Int32.ofInt u57_)), some (.int (Int32.ofInt u58_))] [.int (Int32.ofInt 0)] _
                  refine zr_if_ne (pc := 86) (tgt := 92) ⟨(by decide), (by decide)⟩ (by decide) (zdal_p dlD_M_laysUnits_78 (i := 6) rfl) (fun hc_86 => ?_) (fun hc_86 => ?_)
                  · skip
                    exact absurd hc_86 (by decide)
                  · skip
                    refine zw_goto (pc := 89) (tgt := 111) (by decide) (zdal_p dlD_M_laysUnits_78 (i := 7) rfl) ?_
                    refine zr_iinc (pc := 111) (i := 5) (a := u58_) (n := 1) (L2 := [some (.ref 81), some (.int (Int32.ofInt u28_)), some (.int (Int32.ofInt (zshl 1 (((ze Mz 81 26) - 1) - u28_)))), some (.int (Int32.ofInt 0)), some (.int (Int32.ofInt u57_)), some (.int (Int32.ofInt (u58_ + 1)))]) rfl (by decide) rfl (zdal_p dlD_M_laysUnits_78 (i := 19) rfl) ?_
                    refine zw_goto (pc := 114) (tgt := 63) (by decide) (zdal_p dlD_M_laysUnits_78 (i := 20) rfl) ?_
                    have hMb_ : zMq T u28_ N59_ := by first | with_reducible assumption | exact zMq.fr hsN59_ (by first | with_reducible assumption | assumption) (by decide) (by decide) | assumption
                    have hUb_ : zUa N59_ (ze Mz 81 26 - 1 - u28_).toNat (ze N59_ 81 57) u57_ (u58_ + 1) := by first | exact zUa_s0 (by first | with_reducible assumption | assumption) (by omega) | (rw [show ze N59_ 81 57 = ze N46_ 81 57 by omega]; exact hUs_)
                    have hmsb_ : zMsN T (u28_).toNat N59_ := by first | with_reducible assumption | exact zMsN.fr hsN59_ hms_ (by decide) (by decide) | assumption
                    have hyx_ : zyA T N59_ (ze Mz 81 26 - 1 - u28_).toNat (ze N59_ 81 57) u57_ (u58_ + 1) := by first | exact zyA_n hya_ (by omega) (by rw [(show (gF T).length - 1 - (ze Mz 81 26 - 1 - u28_).toNat = (u28_).toNat by omega)]; exact hyn0_) | (rw [show ze N59_ 81 57 = ze N46_ 81 57 by omega]; exact hyA_)
                    exact ih_63 u57_ hu57_a hu57_b (u58_ + 1) (by omega) (by omega) N59_ hs60_ (show zUa N59_ (ze Mz 81 26 - 1 - u28_).toNat (ze N59_ 81 57) u57_ (u58_ + 1) by exact hUb_) (show zMq T u28_ N59_ by first | with_reducible assumption | assumption | omega) (show ze N59_ 81 57 ≤ 32768 by first | with_reducible assumption | assumption | omega) (show ze N59_ 81 57 ≤ ((2 ^ gcu T (ze Mz 81 26 - 1 - u28_).toNat : Nat) : Int) by first | with_reducible assumption | assumption | omega) (show 0 ≤ (u58_ + 1) by first | with_reducible assumption | assumption | omega) (show (u58_ + 1) ≤ ze N59_ 81 57 by first | with_reducible assumption | assumption | omega) (show ze N59_ 81 57 ≤ u57_ by first | with_reducible assumption | assumption | omega) (show u57_ ≤ ze N59_ 81 57 + (u58_ + 1) by first | with_reducible assumption | assumption | omega) (show zyA T N59_ (ze Mz 81 26 - 1 - u28_).toNat (ze N59_ 81 57) u57_ (u58_ + 1) by exact hyx_) (show zMsN T (u28_).toNat N59_ by exact hmsb_) i71_ (by omega)
          exact lp_63 _ (ze N46_ 81 57) (ze_r N46_ 81 57).1 (ze_r N46_ 81 57).2 0 (by decide) (by decide) N46_ zFr.rf (show zUa N46_ (ze Mz 81 26 - 1 - u28_).toNat (ze N46_ 81 57) (ze N46_ 81 57) (0 : Int) by exact hUa_) (show zMq T u28_ N46_ by first | with_reducible assumption | assumption | omega) (show ze N46_ 81 57 ≤ 32768 by first | with_reducible assumption | assumption | omega) (show ze N46_ 81 57 ≤ ((2 ^ gcu T (ze Mz 81 26 - 1 - u28_).toNat : Nat) : Int) by first | with_reducible assumption | assumption | omega) (show 0 ≤ (0 : Int) by first | with_reducible assumption | assumption | omega) (show (0 : Int) ≤ ze N46_ 81 57 by first | with_reducible assumption | assumption | omega) (show ze N46_ 81 57 ≤ (ze N46_ 81 57) by first | with_reducible assumption | assumption | omega) (show (ze N46_ 81 57) ≤ ze N46_ 81 57 + (0 : Int) by first | with_reducible assumption | assumption | omega) (show zyA T N46_ (ze Mz 81 26 - 1 - u28_).toNat (ze N46_ 81 57) (ze N46_ 81 57) (0 : Int) by exact zyA_0 hyo2_) (show zMsN T (u28_).toNat N46_ by exact hym_) c55_ (Nat.lt_succ_self _)
    exact lp_32 _ ((ze Mz 81 26) - 1) (by omega) (by omega) N19_ zFr.rf (show -1 ≤ ((ze Mz 81 26) - 1) by first | with_reducible assumption | assumption | omega) (show ((ze Mz 81 26) - 1) ≤ ze Mz 81 26 - 1 by first | with_reducible assumption | assumption | omega) (show zUo T N19_ (ze Mz 81 26 - 1 - ((ze Mz 81 26) - 1)).toNat (ze N19_ 81 57) by rw [show (ze Mz 81 26 - 1 - ((ze Mz 81 26) - 1)).toNat = 0 by omega, show ze N19_ 81 57 = 1 by omega]; exact zUo_0 hz0_) (show 0 ≤ ze N19_ 81 57 by first | with_reducible assumption | assumption | omega) (show ze N19_ 81 57 ≤ 65536 by first | with_reducible assumption | assumption | omega) (show zyO T N19_ (ze Mz 81 26 - 1 - ((ze Mz 81 26) - 1)).toNat (ze N19_ 81 57) by rw [show (ze Mz 81 26 - 1 - ((ze Mz 81 26) - 1)).toNat = 0 by omega, show ze N19_ 81 57 = 1 by omega]; exact zyO_0 hz0_) (show ze N19_ 81 58 = 1 by first | with_reducible assumption | assumption | omega) c21_ (Nat.lt_succ_self _)
  · skip
    exact zr_vret (pc := 7) rfl hf ⟨p1_, (show 0 ≤ ze Mz 81 57 by first | with_reducible assumption | assumption | omega), (show ze Mz 81 57 ≤ 65536 by first | with_reducible assumption | assumption | omega), (show ze Mz 81 58 = 1 by omega), (show (zyO T Mz (gF T).length (ze Mz 81 57)) by rcases hyw_ with q_ | q_; (exfalso; omega); exact q_.2.2)⟩ (zdal_p dlD_M_laysUnits_76 (i := 3) rfl)
set_option maxHeartbeats 4000000 in
theorem c_M_unitsS (l : Launch) (Mz : zMem) (hW : zMt Mz) (T : zGT) (hO : gOK T) (hX : gEx T) (hT : T ∈ gTabs) (hGr : gGr T) (p0_ : zGB T Mz) (p1_ : zB 110 65536 0 2147483647 Mz) (p2_ : 0 ≤ ze Mz 81 57) (p3_ : ze Mz 81 57 ≤ 65536) (p4_ : zyW T Mz) : zC l m_M_units 0 0 [.ref 81] Mz (zpI [55, 57, 58] [109, 110] Mz (fun v N => zB 110 65536 0 2147483647 N ∧ 0 ≤ ze N 81 57 ∧ ze N 81 57 ≤ 65536 ∧ v = ze N 81 57 ∧ ze N 81 58 = 1 ∧ (zyO T N (gF T).length (ze N 81 57)))) := by
  refine zC_of (L0 := [some (.ref 81)]) md_M_units (Nat.le_of_ble_eq_true rfl) rfl ?_ zQ0
  have hf : zFr [55, 57, 58] [109, 110] Mz Mz := zFr.rf
  have r_57 := ze_r Mz 81 57
  have r_58 := ze_r Mz 81 58
  have hG := hO.1
  have g24 := hG.2.1
  have g1 := hG.1
  have dv0 : zTab T Mz := p0_.1
  have dv1 : zB 85 144 0 5 Mz := p0_.2.1
  have dv2 : zJX T Mz := p0_.2.2.1
  have dv3 : zFirs T Mz := p0_.2.2.2.1
  have dv4 : zSSm T Mz := p0_.2.2.2.2.1
  have dv5 : zGD Mz := zGB.d hO p0_
  have gb := dv5.1
  have gn := dv0.1
  refine zw_aload_n (pc := 0) (n := 0) (x := 81) rfl (zdal_p dlD_M_units_75 (i := 0) rfl) ?_
  refine zr_callV (hf.w hW) hf.x (pc := 1) [] [] l_M_465 (c_M_laysUnitsS l Mz (hf.w hW) T hO hX hT hGr p0_ p1_ (show 0 ≤ ze Mz 81 57 by first | with_reducible assumption | assumption | omega) (show ze Mz 81 57 ≤ 65536 by first | with_reducible assumption | assumption | omega) p4_) rfl rfl rfl (by decide) (Nat.le_of_ble_eq_true rfl) (zdal_p dlD_M_units_75 (i := 1) rfl) ?_
  rintro _ N1_ ⟨rfl, hsN1_, ⟨hp0_N1_, hp1_N1_, hp2_N1_, hp3_N1_, hp4_N1_⟩⟩
  have hf_N1_ : zFr [55, 57, 58] [109, 110] Mz N1_ := hf.tr hsN1_ (by decide) (by decide)
  have r57_N1_ := ze_r N1_ 81 57
  have r58_N1_ := ze_r N1_ 81 58
  have c3_ : zGB T N1_ := zGB.fr hsN1_ p0_ (by decide) (by decide)
  have c4_ : zTab T N1_ := zTab.fr hsN1_ dv0 (by decide) (by decide)
  have c5_ : zB 85 144 0 5 N1_ := zB.fr hsN1_ dv1 (by decide) (by decide)
  have c6_ : zJX T N1_ := zJX.fr hsN1_ dv2 (by decide) (by decide)
  have c7_ : zFirs T N1_ := zFirs.fr hsN1_ dv3 (by decide) (by decide)
  have c8_ : zSSm T N1_ := zSSm.fr hsN1_ dv4 (by decide) (by decide)
  have c9_ : zGD N1_ := zGD.fr hsN1_ dv5 (by decide) (by decide)
  show zW l m_M_units (zn Mz + 0, zw Mz + 0) N1_ 4 [some (.ref 81)] [] _
  have hl0_ := hp3_N1_
  have hl1_ := hp4_N1_
  refine zw_aload_n (pc := 4) (n := 0) (x := 81) rfl (zdal_p dlD_M_units_75 (i := 2) rfl) ?_
  refine zr_getI (hf_N1_.w hW) (pc := 5) f_M_459 rfl (zdal_p dlD_M_units_75 (i := 3) rfl) ?_
  exact zr_iret (pc := 8) (ty := .int) rfl rfl ⟨by omega, by omega⟩ hf_N1_ ⟨hp0_N1_, (show 0 ≤ ze N1_ 81 57 by first | with_reducible assumption | assumption | omega), (show ze N1_ 81 57 ≤ 65536 by first | with_reducible assumption | assumption | omega), (show (ze N1_ 81 57) = ze N1_ 81 57 by first | with_reducible assumption | assumption | omega), (show ze N1_ 81 58 = 1 by first | with_reducible assumption | assumption | omega), (show (zyO T N1_ (gF T).length (ze N1_ 81 57)) by exact hl1_)⟩ (zdal_p dlD_M_units_75 (i := 4) rfl)
set_option maxHeartbeats 4000000 in
theorem c_M_numbers_96_105S (l : Launch) (Mz : zMem) (hW : zMt Mz) (a2_ : Int) (ha2_a : -2147483648 ≤ a2_) (ha2_b : a2_ < 2147483648) (F_ : Nat) (K_ : Nat → Nat → Int) (hA_ : zTA F_ K_) (p0_ : zRmk F_ K_ Mz) (p1_ : 0 ≤ a2_) (p2_ : a2_ ≤ 0) (p3_ : (∀ j : Nat, j < F_ → -1000000 ≤ zg Mz 96 j ∧ zg Mz 96 j ≤ 1000000)) : zC l m_M_numbers 0 0 [.ref 81, .ref 96, .ref 105, .int (Int32.ofInt a2_)] Mz (zpV [] [105] Mz (fun N => (∀ k : Nat, k < F_ → zg N 105 k = (zsq F_ K_ (fun j_ => zg Mz 96 j_)) k))) := by
  refine zC_of (L0 := [some (.ref 81), some (.ref 96), some (.ref 105), some (.int (Int32.ofInt a2_)), none, none, none, none]) md_M_numbers (Nat.le_of_ble_eq_true rfl) rfl ?_ zQ0
  have hf : zFr [] [105] Mz Mz := zFr.rf
  have r_26 := ze_r Mz 81 26
  obtain ⟨⟨hF1_, hF27_⟩, hAr_⟩ := id hA_
  obtain ⟨hFc_, hKt_⟩ := id p0_
  refine zw_aload_n (pc := 0) (n := 0) (x := 81) rfl d_M_numbers_0 ?_
  refine zr_getI0 hf hW (pc := 1) (by decide) f_M_235 rfl d_M_numbers_1 ?_
  refine zw_iconst (pc := 4) (v := Int32.ofInt 1) (by decide) d_M_numbers_4 ?_
  refine zr_isub (pc := 5) d_M_numbers_5 ?_
  refine zw_istore (pc := 6) (i := 4) (L2 := [some (.ref 81), some (.ref 96), some (.ref 105), some (.int (Int32.ofInt a2_)), some (.int (Int32.ofInt ((ze Mz 81 26) - 1))), none, none, none]) (by decide) rfl d_M_numbers_6 ?_
  have lp_8 : ∀ (n : Nat) (u1_ : Int) (hu1_a : -2147483648 ≤ u1_) (hu1_b : u1_ < 2147483648) (N2_ : zMem) (hs3_ : zFr [] [105] Mz N2_) (i4_ : u1_ < F_) (i5_ : -1 ≤ u1_) (i6_ : zUw 105 F_ N2_ (zsq F_ K_ (fun j_ => zg Mz 96 j_)) u1_), (u1_ + 1).toNat < n → zW l m_M_numbers (zn Mz + 0, zw Mz + 0) N2_ 8 [some (.ref 81), some (.ref 96), some (.ref 105), some (.int (Int32.ofInt a2_)), some (.int (Int32.ofInt u1_)), none, none, none] [] (zpV [] [105] Mz (fun N => (∀ k : Nat, k < F_ → zg N 105 k = (zsq F_ K_ (fun j_ => zg Mz 96 j_)) k))) := by
    intro n
    induction n with
    | zero =>
      intro u1_ hu1_a hu1_b N2_ hs3_ i4_ i5_ i6_ h0
      exact absurd h0 (Nat.not_lt_zero _)
    | succ n ih_8 =>
      intro u1_ hu1_a hu1_b N2_ hs3_ i4_ i5_ i6_ hlt_8
      have hf_N2_ : zFr [] [105] Mz N2_ := hf.tr hs3_ (by decide) (by decide)
      have e26_N2_ : ze N2_ 81 26 = ze Mz 81 26 := hs3_.e (by decide)
      have c7_ : zRmk F_ K_ N2_ := zRmk.fr hs3_ p0_ (by decide) (by decide)
      refine zw_iload (pc := 8) (i := 4) (x := Int32.ofInt u1_) rfl d_M_numbers_8 ?_
      refine zr_if_lt (pc := 10) (tgt := 95) ⟨hu1_a, hu1_b⟩ (by decide) d_M_numbers_10 (fun hc_10 => ?_) (fun hc_10 => ?_)
      · skip
        exact zr_vret (pc := 95) rfl hf_N2_ (show (∀ k : Nat, k < F_ → zg N2_ 105 k = (zsq F_ K_ (fun j_ => zg Mz 96 j_)) k) by exact fun k_ hk_ => (show zUw 105 F_ N2_ (zsq F_ K_ (fun j_ => zg Mz 96 j_)) u1_ by first | with_reducible assumption | assumption) k_ (by omega) (by omega)) d_M_numbers_95
      · skip
        refine zw_aload_n (pc := 13) (n := 1) (x := 96) rfl d_M_numbers_13 ?_
        refine zw_iload (pc := 14) (i := 4) (x := Int32.ofInt u1_) rfl d_M_numbers_14 ?_
        refine zr_laldn (pc := 16) (zh_96 (hf_N2_.w hW)).2 (by decide) (by omega) (by omega) d_M_numbers_16 (fun v8_ hv8_ hv8_a hv8_b => ?_)
        rw [hf_N2_.jg (by decide) (by decide)] at hv8_
        have hr0_ := hv8_
        refine zw_lstore (pc := 17) (i := 5) (L2 := [some (.ref 81), some (.ref 96), some (.ref 105), some (.int (Int32.ofInt a2_)), some (.int (Int32.ofInt u1_)), some (.long (Int64.ofInt v8_)), none, none]) (by decide) rfl d_M_numbers_17 ?_
        refine zw_iload (pc := 19) (i := 4) (x := Int32.ofInt u1_) rfl d_M_numbers_19 ?_
        refine zw_iconst (pc := 21) (v := Int32.ofInt 1) (by decide) d_M_numbers_21 ?_
        refine zr_iadd (pc := 22) d_M_numbers_22 ?_
        refine zw_istore (pc := 23) (i := 7) (L2 := [some (.ref 81), some (.ref 96), some (.ref 105), some (.int (Int32.ofInt a2_)), some (.int (Int32.ofInt u1_)), some (.long (Int64.ofInt v8_)), none, some (.int (Int32.ofInt (u1_ + 1)))]) (by decide) rfl d_M_numbers_23 ?_
        have hup_ := (show zUw 105 F_ N2_ (zsq F_ K_ (fun j_ => zg Mz 96 j_)) u1_ by first | with_reducible assumption | assumption)
        have lp_25 : ∀ (n : Nat) (u9_ : Int) (hu9_a : -9223372036854775808 ≤ u9_) (hu9_b : u9_ < 9223372036854775808) (u10_ : Int) (hu10_a : -2147483648 ≤ u10_) (hu10_b : u10_ < 2147483648) (i11_ : u1_ < u10_) (i12_ : u10_ ≤ F_) (i13_ : zrX F_ K_ (fun j_ => zg Mz 96 j_) u9_ u1_ u10_), (F_ - u10_).toNat < n → zW l m_M_numbers (zn Mz + 0, zw Mz + 0) N2_ 25 [some (.ref 81), some (.ref 96), some (.ref 105), some (.int (Int32.ofInt a2_)), some (.int (Int32.ofInt u1_)), some (.long (Int64.ofInt u9_)), none, some (.int (Int32.ofInt u10_))] [] (zpV [] [105] Mz (fun N => (∀ k : Nat, k < F_ → zg N 105 k = (zsq F_ K_ (fun j_ => zg Mz 96 j_)) k))) := by
          intro n
          induction n with
          | zero =>
            intro u9_ hu9_a hu9_b u10_ hu10_a hu10_b i11_ i12_ i13_ h0
            exact absurd h0 (Nat.not_lt_zero _)
          | succ n ih_25 =>
            intro u9_ hu9_a hu9_b u10_ hu10_a hu10_b i11_ i12_ i13_ hlt_25
            have hxi_ := (show zrX F_ K_ (fun j_ => zg Mz 96 j_) u9_ u1_ u10_ by first | with_reducible assumption | assumption)
            refine zw_iload (pc := 25) (i := 7) (x := Int32.ofInt u10_) rfl d_M_numbers_25 ?_
            refine zw_aload_n (pc := 27) (n := 0) (x := 81) rfl d_M_numbers_27 ?_
            refine zr_getI0 hf_N2_ hW (pc := 28) (by decide) f_M_235 rfl d_M_numbers_28 ?_
            refine zr_icmp_ge (pc := 31) (tgt := 66) ⟨hu10_a, hu10_b⟩ ⟨(ze_r Mz 81 26).1, (ze_r Mz 81 26).2⟩ (by decide) d_M_numbers_31 (fun hc_31 => ?_) (fun hc_31 => ?_)
            · skip
              refine zw_aload_n (pc := 66) (n := 2) (x := 105) rfl d_M_numbers_66 ?_
              refine zw_iload_n (pc := 67) (n := 3) (x := Int32.ofInt a2_) rfl d_M_numbers_67 ?_
              refine zw_iload (pc := 68) (i := 4) (x := Int32.ofInt u1_) rfl d_M_numbers_68 ?_
              refine zr_iadd (pc := 70) d_M_numbers_70 ?_
              refine zw_lload (pc := 71) (i := 5) (x := Int64.ofInt u9_) rfl d_M_numbers_71 ?_
              refine zw_aload_n (pc := 73) (n := 0) (x := 81) rfl d_M_numbers_73 ?_
              refine zr_getF (r := 93) (hf_N2_.w hW) (pc := 74) f_M_50 rfl (zh_93 (hf_N2_.w hW)).1 d_M_numbers_74 ?_
              refine zw_bipush (pc := 77) (v := Int32.ofInt 64) (by decide) d_M_numbers_77 ?_
              refine zw_iload (pc := 79) (i := 4) (x := Int32.ofInt u1_) rfl d_M_numbers_79 ?_
              refine zr_imul (pc := 81) d_M_numbers_81 ?_
              refine zw_iload (pc := 82) (i := 4) (x := Int32.ofInt u1_) rfl d_M_numbers_82 ?_
              refine zr_iadd (pc := 84) d_M_numbers_84 ?_
              refine zr_ialdn (pc := 85) (zh_93 (hf_N2_.w hW)).2 (by decide) (by omega) (by omega) d_M_numbers_85 (fun v14_ hv14_ hv14_a hv14_b => ?_)
              rw [hf_N2_.ie (by decide) (by decide)] at hv14_
              have hm_ := p0_.k (by omega) (by omega) (by omega) (by omega) hv14_
              have hm1_ := hAr_.2.2.1 (u1_).toNat (by omega)
              refine zr_i2l (pc := 86) ⟨hv14_a, hv14_b⟩ d_M_numbers_86 ?_
              refine zr_ldiv (pc := 87) ⟨by omega, by omega⟩ (by omega) d_M_numbers_87 ?_
              have hr15_ := zlquo_r u9_ v14_
              obtain ⟨q_, hq_⟩ : ∃ q, q = (zlquo u9_ v14_) := ⟨_, rfl⟩
              have hqu_ := zrX_e hA_ p3_ hxi_ (by omega) ⟨by omega, by omega⟩ (by omega) (by omega) hm_ hq_
              refine zr_last (pc := 88) (zh_105 (hf_N2_.w hW)).2 (by decide) (by decide) (by omega) (by omega) d_M_numbers_88 (fun N16_ hN16_ hsN16_ => ?_)
              have hf_N16_ : zFr [] [105] Mz N16_ := hf_N2_.tr hsN16_ (by decide) (by decide)
              have hb0_N16_ : zFr [] [105] Mz N16_ := hs3_.tr hsN16_ (by decide) (by decide)
              have e26_N16_ : ze N16_ 81 26 = ze N2_ 81 26 := hsN16_.e (by decide)
              have c17_ : zRmk F_ K_ N16_ := zRmk.fr hsN16_ c7_ (by decide) (by decide)
              have hN_ := hN16_
              rw [show (a2_ + u1_).toNat = (u1_).toNat by omega] at hN_
              have hu1_ := zUw_s hup_ hN_ ⟨by omega, by omega⟩ (by omega) (by rw [← hq_]; exact hqu_)
              refine zr_iinc (pc := 89) (i := 4) (a := u1_) (n := -1) (L2 := [some (.ref 81), some (.ref 96), some (.ref 105), some (.int (Int32.ofInt a2_)), some (.int (Int32.ofInt (u1_ + (-1)))), some (.long (Int64.ofInt u9_)), none, some (.int (Int32.ofInt u10_))]) rfl (by decide) rfl d_M_numbers_89 ?_
              refine zw_goto (pc := 92) (tgt := 8) (by decide) d_M_numbers_92 ?_
              refine zW_le [some (.ref 81), some (.ref 96), some (.ref 105), some (.int (Int32.ofInt a2_)), some (.int (Int32.ofInt (u1_ + (-1)))), none, none, none] (⟨rfl, rfl, rfl, rfl, rfl, trivial⟩) ?_
              exact ih_8 (u1_ + (-1)) (by omega) (by omega) N16_ hb0_N16_ (show (u1_ + (-1)) < F_ by first | with_reducible assumption | assumption | omega) (show -1 ≤ (u1_ + (-1)) by first | with_reducible assumption | assumption | omega) (show zUw 105 F_ N16_ (zsq F_ K_ (fun j_ => zg Mz 96 j_)) (u1_ + (-1)) by exact hu1_) (by omega)
            · skip
              refine zw_lload (pc := 34) (i := 5) (x := Int64.ofInt u9_) rfl d_M_numbers_34 ?_
              refine zw_aload_n (pc := 36) (n := 2) (x := 105) rfl d_M_numbers_36 ?_
              refine zw_iload_n (pc := 37) (n := 3) (x := Int32.ofInt a2_) rfl d_M_numbers_37 ?_
              refine zw_iload (pc := 38) (i := 7) (x := Int32.ofInt u10_) rfl d_M_numbers_38 ?_
              refine zr_iadd (pc := 40) d_M_numbers_40 ?_
              refine zr_laldn (pc := 41) (zh_105 (hf_N2_.w hW)).2 (by decide) (by omega) (by omega) d_M_numbers_41 (fun v18_ hv18_ hv18_a hv18_b => ?_)
              have hx_ := hv18_
              rw [show (a2_ + u10_).toNat = (u10_).toNat by omega] at hx_
              have hx2_ := hx_.trans (hup_ (u10_).toNat (by omega) (by omega))
              refine zw_aload_n (pc := 42) (n := 0) (x := 81) rfl d_M_numbers_42 ?_
              refine zr_getF (r := 93) (hf_N2_.w hW) (pc := 43) f_M_50 rfl (zh_93 (hf_N2_.w hW)).1 d_M_numbers_43 ?_
              refine zw_bipush (pc := 46) (v := Int32.ofInt 64) (by decide) d_M_numbers_46 ?_
              refine zw_iload (pc := 48) (i := 7) (x := Int32.ofInt u10_) rfl d_M_numbers_48 ?_
              refine zr_imul (pc := 50) d_M_numbers_50 ?_
              refine zw_iload (pc := 51) (i := 4) (x := Int32.ofInt u1_) rfl d_M_numbers_51 ?_
              refine zr_iadd (pc := 53) d_M_numbers_53 ?_
              refine zr_ialdn (pc := 54) (zh_93 (hf_N2_.w hW)).2 (by decide) (by omega) (by omega) d_M_numbers_54 (fun v19_ hv19_ hv19_a hv19_b => ?_)
              rw [hf_N2_.ie (by decide) (by decide)] at hv19_
              have hy_ := p0_.k (by omega) (by omega) (by omega) (by omega) hv19_
              refine zr_i2l (pc := 55) ⟨hv19_a, hv19_b⟩ d_M_numbers_55 ?_
              refine zr_lmul (pc := 56) d_M_numbers_56 ?_
              refine zr_lsub (pc := 57) d_M_numbers_57 ?_
              refine zk_nmJ (fun v20_ hv20_ hv20_e => ?_)
              obtain ⟨hv20_a, hv20_b⟩ := hv20_
              have hz_ := zrX_s hxi_ hv20_e (by omega) (by omega) (by omega) hx2_ hy_
              refine zw_lstore (pc := 58) (i := 5) (L2 := [some (.ref 81), some (.ref 96), some (.ref 105), some (.int (Int32.ofInt a2_)), some (.int (Int32.ofInt u1_)), some (.long (Int64.ofInt v20_)), none, some (.int (Int32.ofInt u10_))]) (by decide) rfl d_M_numbers_58 ?_
              refine zr_iinc (pc := 60) (i := 7) (a := u10_) (n := 1) (L2 := [some (.ref 81), some (.ref 96), some (.ref 105), some (.int (Int32.ofInt a2_)), some (.int (Int32.ofInt u1_)), some (.long (Int64.ofInt v20_)), none, some (.int (Int32.ofInt (u10_ + 1)))]) rfl (by decide) rfl d_M_numbers_60 ?_
              refine zw_goto (pc := 63) (tgt := 25) (by decide) d_M_numbers_63 ?_
              exact ih_25 v20_ hv20_a hv20_b (u10_ + 1) (by omega) (by omega) (show u1_ < (u10_ + 1) by first | with_reducible assumption | assumption | omega) (show (u10_ + 1) ≤ F_ by first | with_reducible assumption | assumption | omega) (show zrX F_ K_ (fun j_ => zg Mz 96 j_) v20_ u1_ (u10_ + 1) by exact hz_) (by omega)
        exact lp_25 _ v8_ hv8_a hv8_b (u1_ + 1) (by omega) (by omega) (show u1_ < (u1_ + 1) by first | with_reducible assumption | assumption | omega) (show (u1_ + 1) ≤ F_ by first | with_reducible assumption | assumption | omega) (show zrX F_ K_ (fun j_ => zg Mz 96 j_) v8_ u1_ (u1_ + 1) by exact zrX_0 hr0_) (Nat.lt_succ_self _)
  exact lp_8 _ ((ze Mz 81 26) - 1) (by omega) (by omega) Mz zFr.rf (show ((ze Mz 81 26) - 1) < F_ by first | with_reducible assumption | assumption | omega) (show -1 ≤ ((ze Mz 81 26) - 1) by first | with_reducible assumption | assumption | omega) (show zUw 105 F_ Mz (zsq F_ K_ (fun j_ => zg Mz 96 j_)) ((ze Mz 81 26) - 1) by exact zUw_0 (by omega)) (Nat.lt_succ_self _)
set_option maxHeartbeats 4000000 in
theorem c_M_unitS (l : Launch) (Mz : zMem) (hW : zMt Mz) (a0_ : Int) (ha0_a : -2147483648 ≤ a0_) (ha0_b : a0_ < 2147483648) (a1_ : Int) (ha1_a : -2147483648 ≤ a1_) (ha1_b : a1_ < 2147483648) (T : zGT) (hO : gOK T) (hX : gEx T) (hT : T ∈ gTabs) (hGr : gGr T) (p0_ : zGB T Mz) (p1_ : zB 110 65536 0 2147483647 Mz) (p2_ : 0 ≤ ze Mz 81 57) (p3_ : ze Mz 81 57 ≤ 65536) (p4_ : zyW T Mz) : zC l m_M_unit 0 0 [.ref 81, .int (Int32.ofInt a0_), .int (Int32.ofInt a1_)] Mz (zpI [55, 57, 58] [96, 105, 109, 110] Mz (fun v N => zB 110 65536 0 2147483647 N ∧ 0 ≤ ze N 81 57 ∧ ze N 81 57 ≤ 65536 ∧ ((((0 ≤ a0_ ∧ a0_ < ze N 81 57) ∧ 0 ≤ a1_ ∧ a1_ < ((gF T).length : Int)) ∧ z32w v ((zsq (gF T).length (gmkI T) (zyg T (zuw N (a0_).toNat))) (a1_).toNat)) ∨ (¬ ((0 ≤ a0_ ∧ a0_ < ze N 81 57) ∧ 0 ≤ a1_ ∧ a1_ < ((gF T).length : Int)) ∧ v = (-1000000 : Int))) ∧ ((ze N 81 58 = 0 ∨ (ze N 81 58 = 1 ∧ zyO T N (gF T).length (ze N 81 57)))) ∧ (((¬ (0 ≤ a1_ ∧ a1_ < ((gF T).length : Int))) ∨ (ze N 81 58 = 1 ∧ zyO T N (gF T).length (ze N 81 57)))))) := by
  refine zC_of (L0 := [some (.ref 81), some (.int (Int32.ofInt a0_)), some (.int (Int32.ofInt a1_)), none]) md_M_unit (Nat.le_of_ble_eq_true rfl) rfl ?_ zQ0
  have hf : zFr [55, 57, 58] [96, 105, 109, 110] Mz Mz := zFr.rf
  have r_26 := ze_r Mz 81 26
  have r_57 := ze_r Mz 81 57
  have r_58 := ze_r Mz 81 58
  have hG := hO.1
  have g24 := hG.2.1
  have g1 := hG.1
  have dv0 : zTab T Mz := p0_.1
  have dv1 : zB 85 144 0 5 Mz := p0_.2.1
  have dv2 : zJX T Mz := p0_.2.2.1
  have dv3 : zFirs T Mz := p0_.2.2.2.1
  have dv4 : zSSm T Mz := p0_.2.2.2.2.1
  have dv5 : zGD Mz := zGB.d hO p0_
  have dv6 : zRmk (gF T).length (gmkI T) Mz := p0_.rm
  have gb := dv5.1
  have gn := dv0.1
  have hTA_ := gT_zTA hT
  obtain ⟨⟨hF1_, hF27_⟩, hAr_⟩ := id hTA_
  have hfl_ := dv3.1
  have hyw_ : ze Mz 81 58 = 0 ∨ (ze Mz 81 58 = 1 ∧ zyO T Mz (gF T).length (ze Mz 81 57)) := by rcases (show ze Mz 81 58 = 0 ∨ (ze Mz 81 58 = 1 ∧ (0 ≤ ze Mz 81 57 ∧ ze Mz 81 57 ≤ 65536) ∧ zyO T Mz (gF T).length (ze Mz 81 57)) from p4_) with q_ | q_; exact Or.inl q_; exact Or.inr ⟨q_.1, q_.2.2⟩
  refine zw_aload_n (pc := 0) (n := 0) (x := 81) rfl (zdal_p dlD_M_unit_86 (i := 0) rfl) ?_
  refine zw_iload_n (pc := 1) (n := 2) (x := Int32.ofInt a1_) rfl (zdal_p dlD_M_unit_86 (i := 1) rfl) ?_
  refine zr_callV (hf.w hW) hf.x (pc := 2) [.int (Int32.ofInt a1_)] [] l_M_414 (c_M_isSortG l Mz (hf.w hW) a1_ ha1_a ha1_b T hO p0_) rfl rfl rfl (by decide) (Nat.le_of_ble_eq_true rfl) (zdal_p dlD_M_unit_86 (i := 2) rfl) ?_
  rintro _ N1_ ⟨v2_, rfl, ⟨hv2_a, hv2_b⟩, hsN1_, hp0_N1_⟩
  obtain rfl := hsN1_.eq.symm
  replace hp0_N1_ : ((v2_ = 1 ∧ 0 ≤ a1_ ∧ a1_ < ze Mz 81 26) ∨ (v2_ = 0 ∧ (a1_ < 0 ∨ ze Mz 81 26 ≤ a1_))) := hp0_N1_
  rcases hp0_N1_ with ⟨rfl, ha2_0_hp0_N1_, ha2_1_hp0_N1_⟩ | ⟨rfl, ha2_0_hp0_N1_⟩
  · skip
    show zW l m_M_unit (zn Mz + 0, zw Mz + 0) Mz 5 [some (.ref 81), some (.int (Int32.ofInt a0_)), some (.int (Int32.ofInt a1_)), none] [.int (Int32.ofInt 1)] _
    refine zr_if_ne (pc := 5) (tgt := 12) ⟨(by decide), (by decide)⟩ (by decide) (zdal_p dlD_M_unit_86 (i := 3) rfl) (fun hc_5 => ?_) (fun hc_5 => ?_)
    · skip
      refine zw_aload_n (pc := 12) (n := 0) (x := 81) rfl (zdal_p dlD_M_unit_86 (i := 6) rfl) ?_
      refine zr_callV (hf.w hW) hf.x (pc := 13) [] [] l_M_465 (c_M_laysUnitsS l Mz (hf.w hW) T hO hX hT hGr p0_ p1_ (show 0 ≤ ze Mz 81 57 by first | with_reducible assumption | assumption | omega) (show ze Mz 81 57 ≤ 65536 by first | with_reducible assumption | assumption | omega) p4_) rfl rfl rfl (by decide) (Nat.le_of_ble_eq_true rfl) (zdal_p dlD_M_unit_86 (i := 7) rfl) ?_
      rintro _ N3_ ⟨rfl, hsN3_, ⟨hp0_N3_, hp1_N3_, hp2_N3_, hp3_N3_, hp4_N3_⟩⟩
      have hf_N3_ : zFr [55, 57, 58] [96, 105, 109, 110] Mz N3_ := hf.tr hsN3_ (by decide) (by decide)
      have e26_N3_ : ze N3_ 81 26 = ze Mz 81 26 := hsN3_.e (by decide)
      have r57_N3_ := ze_r N3_ 81 57
      have r58_N3_ := ze_r N3_ 81 58
      have c5_ : zGB T N3_ := zGB.fr hsN3_ p0_ (by decide) (by decide)
      have c6_ : zTab T N3_ := zTab.fr hsN3_ dv0 (by decide) (by decide)
      have c7_ : zB 85 144 0 5 N3_ := zB.fr hsN3_ dv1 (by decide) (by decide)
      have c8_ : zJX T N3_ := zJX.fr hsN3_ dv2 (by decide) (by decide)
      have c9_ : zFirs T N3_ := zFirs.fr hsN3_ dv3 (by decide) (by decide)
      have c10_ : zSSm T N3_ := zSSm.fr hsN3_ dv4 (by decide) (by decide)
      have c11_ : zGD N3_ := zGD.fr hsN3_ dv5 (by decide) (by decide)
      have c12_ : zRmk (gF T).length (gmkI T) N3_ := zRmk.fr hsN3_ dv6 (by decide) (by decide)
      show zW l m_M_unit (zn Mz + 0, zw Mz + 0) N3_ 16 [some (.ref 81), some (.int (Int32.ofInt a0_)), some (.int (Int32.ofInt a1_)), none] [] _
      have hl58_ := hp3_N3_
      have hyo_ := hp4_N3_
      refine zw_iload_n (pc := 16) (n := 1) (x := Int32.ofInt a0_) rfl (zdal_p dlD_M_unit_86 (i := 8) rfl) ?_
      refine zr_i2l (pc := 17) ⟨ha0_a, ha0_b⟩ (zdal_p dlD_M_unit_86 (i := 9) rfl) ?_
      refine zw_lconst (pc := 18) (v := Int64.ofInt 0) (by decide) (zdal_p dlD_M_unit_86 (i := 10) rfl) ?_
      refine zw_aload_n (pc := 19) (n := 0) (x := 81) rfl (zdal_p dlD_M_unit_86 (i := 11) rfl) ?_
      refine zr_getI (hf_N3_.w hW) (pc := 20) f_M_459 rfl (zdal_p dlD_M_unit_86 (i := 12) rfl) ?_
      refine zw_iconst (pc := 23) (v := Int32.ofInt 1) (by decide) (zdal_p dlD_M_unit_86 (i := 13) rfl) ?_
      refine zr_isub (pc := 24) (zdal_p dlD_M_unit_86 (i := 14) rfl) ?_
      refine zr_i2l (pc := 25) ⟨(by omega), (by omega)⟩ (zdal_p dlD_M_unit_86 (i := 15) rfl) ?_
      refine zr_callS hf_N3_.x (pc := 26) [.long (Int64.ofInt a0_), .long (Int64.ofInt 0), .long (Int64.ofInt ((ze N3_ 81 57) - 1))] [] l_M_131 (c_M_isIn l N3_ (hf_N3_.w hW) a0_ (by omega) (by omega) 0 (by decide) (by decide) ((ze N3_ 81 57) - 1) (by omega) (by omega)) rfl rfl (by decide) (Nat.le_of_ble_eq_true rfl) (zdal_p dlD_M_unit_86 (i := 16) rfl) ?_
      rintro _ N13_ ⟨v14_, rfl, ⟨hv14_a, hv14_b⟩, hsN13_, hp0_N13_⟩
      obtain rfl := hsN13_.eq.symm
      replace hp0_N13_ : ((v14_ = 1 ∧ 0 ≤ a0_ ∧ a0_ ≤ ((ze N3_ 81 57) - 1)) ∨ (v14_ = 0 ∧ (a0_ < 0 ∨ ((ze N3_ 81 57) - 1) < a0_))) := hp0_N13_
      rcases hp0_N13_ with ⟨rfl, ha26_0_hp0_N13_, ha26_1_hp0_N13_⟩ | ⟨rfl, ha26_0_hp0_N13_⟩
      · skip
        show zW l m_M_unit (zn Mz + 0, zw Mz + 0) N3_ 29 [some (.ref 81), some (.int (Int32.ofInt a0_)), some (.int (Int32.ofInt a1_)), none] [.int (Int32.ofInt 1)] _
        refine zr_if_ne (pc := 29) (tgt := 36) ⟨(by decide), (by decide)⟩ (by decide) (zdal_p dlD_M_unit_86 (i := 17) rfl) (fun hc_29 => ?_) (fun hc_29 => ?_)
        · skip
          refine zw_iconst (pc := 36) (v := Int32.ofInt 0) (by decide) (zdal_p dlD_M_unit_86 (i := 20) rfl) ?_
          refine zw_istore_n (pc := 37) (i := 3) (L2 := [some (.ref 81), some (.int (Int32.ofInt a0_)), some (.int (Int32.ofInt a1_)), some (.int (Int32.ofInt 0))]) rfl (by decide) rfl (zdal_p dlD_M_unit_86 (i := 21) rfl) ?_
          have lp_38 : ∀ (n : Nat) (u15_ : Int) (hu15_a : -2147483648 ≤ u15_) (hu15_b : u15_ < 2147483648) (N16_ : zMem) (hs17_ : zFr [] [96] N3_ N16_) (i18_ : 0 ≤ u15_) (i19_ : u15_ ≤ ((gF T).length : Int)) (i20_ : (∀ j : Nat, (j : Int) < u15_ → zg N16_ 96 j = zyg T (zuw N16_ (a0_).toNat) j)) (i21_ : (zyO T N16_ (gF T).length (ze N16_ 81 57))), (((gF T).length : Int) - u15_).toNat < n → zW l m_M_unit (zn Mz + 0, zw Mz + 0) N16_ 38 [some (.ref 81), some (.int (Int32.ofInt a0_)), some (.int (Int32.ofInt a1_)), some (.int (Int32.ofInt u15_))] [] (zpI [55, 57, 58] [96, 105, 109, 110] Mz (fun v N => zB 110 65536 0 2147483647 N ∧ 0 ≤ ze N 81 57 ∧ ze N 81 57 ≤ 65536 ∧ ((((0 ≤ a0_ ∧ a0_ < ze N 81 57) ∧ 0 ≤ a1_ ∧ a1_ < ((gF T).length : Int)) ∧ z32w v ((zsq (gF T).length (gmkI T) (zyg T (zuw N (a0_).toNat))) (a1_).toNat)) ∨ (¬ ((0 ≤ a0_ ∧ a0_ < ze N 81 57) ∧ 0 ≤ a1_ ∧ a1_ < ((gF T).length : Int)) ∧ v = (-1000000 : Int))) ∧ ((ze N 81 58 = 0 ∨ (ze N 81 58 = 1 ∧ zyO T N (gF T).length (ze N 81 57)))) ∧ (((¬ (0 ≤ a1_ ∧ a1_ < ((gF T).length : Int))) ∨ (ze N 81 58 = 1 ∧ zyO T N (gF T).length (ze N 81 57)))))) := by
            intro n
            induction n with
            | zero =>
              intro u15_ hu15_a hu15_b N16_ hs17_ i18_ i19_ i20_ i21_ h0
              exact absurd h0 (Nat.not_lt_zero _)
            | succ n ih_38 =>
              intro u15_ hu15_a hu15_b N16_ hs17_ i18_ i19_ i20_ i21_ hlt_38
              have hf_N16_ : zFr [55, 57, 58] [96, 105, 109, 110] Mz N16_ := hf_N3_.tr hs17_ (by decide) (by decide)
              have e26_N16_ : ze N16_ 81 26 = ze N3_ 81 26 := hs17_.e (by decide)
              have e57_N16_ : ze N16_ 81 57 = ze N3_ 81 57 := hs17_.e (by decide)
              have e58_N16_ : ze N16_ 81 58 = ze N3_ 81 58 := hs17_.e (by decide)
              have c22_ : zGB T N16_ := zGB.fr hs17_ c5_ (by decide) (by decide)
              have c23_ : zTab T N16_ := zTab.fr hs17_ c6_ (by decide) (by decide)
              have c24_ : zB 85 144 0 5 N16_ := zB.fr hs17_ c7_ (by decide) (by decide)
              have c25_ : zJX T N16_ := zJX.fr hs17_ c8_ (by decide) (by decide)
              have c26_ : zFirs T N16_ := zFirs.fr hs17_ c9_ (by decide) (by decide)
              have c27_ : zSSm T N16_ := zSSm.fr hs17_ c10_ (by decide) (by decide)
              have c28_ : zGD N16_ := zGD.fr hs17_ c11_ (by decide) (by decide)
              have c29_ : zRmk (gF T).length (gmkI T) N16_ := zRmk.fr hs17_ c12_ (by decide) (by decide)
              have c30_ : zB 110 65536 0 2147483647 N16_ := zB.fr hs17_ hp0_N3_ (by decide) (by decide)
              have hmu_ := (show (∀ j : Nat, (j : Int) < u15_ → zg N16_ 96 j = zyg T (zuw N16_ (a0_).toNat) j) by first | with_reducible assumption | assumption)
              have hyo38_ := (show (zyO T N16_ (gF T).length (ze N16_ 81 57)) by first | with_reducible assumption | assumption)
              refine zw_iload_n (pc := 38) (n := 3) (x := Int32.ofInt u15_) rfl (zdal_p dlD_M_unit_86 (i := 22) rfl) ?_
              refine zw_aload_n (pc := 39) (n := 0) (x := 81) rfl (zdal_p dlD_M_unit_86 (i := 23) rfl) ?_
              refine zr_getI0 hf_N16_ hW (pc := 40) (by decide) f_M_235 rfl (zdal_p dlD_M_unit_87 (i := 0) rfl) ?_
              refine zr_icmp_ge (pc := 43) (tgt := 85) ⟨hu15_a, hu15_b⟩ ⟨(ze_r Mz 81 26).1, (ze_r Mz 81 26).2⟩ (by decide) (zdal_p dlD_M_unit_87 (i := 1) rfl) (fun hc_43 => ?_) (fun hc_43 => ?_)
              · skip
                refine zw_aload_n (pc := 85) (n := 0) (x := 81) rfl (zdal_p dlD_M_unit_87 (i := 23) rfl) ?_
                refine zw_aload_n (pc := 86) (n := 0) (x := 81) rfl (zdal_p dlD_M_unit_88 (i := 0) rfl) ?_
                refine zr_getF (r := 96) (hf_N16_.w hW) (pc := 87) f_M_60 rfl (zh_96 (hf_N16_.w hW)).1 (zdal_p dlD_M_unit_88 (i := 1) rfl) ?_
                refine zw_aload_n (pc := 90) (n := 0) (x := 81) rfl (zdal_p dlD_M_unit_88 (i := 2) rfl) ?_
                refine zr_getF (r := 105) (hf_N16_.w hW) (pc := 91) f_M_87 rfl (zh_105 (hf_N16_.w hW)).1 (zdal_p dlD_M_unit_88 (i := 3) rfl) ?_
                refine zw_iconst (pc := 94) (v := Int32.ofInt 0) (by decide) (zdal_p dlD_M_unit_88 (i := 4) rfl) ?_
                refine zr_callV (hf_N16_.w hW) hf_N16_.x (pc := 95) [.ref 96, .ref 105, .int (Int32.ofInt 0)] [] l_M_289 (c_M_numbers_96_105S l N16_ (hf_N16_.w hW) 0 (by decide) (by decide) (gF T).length (gmkI T) hTA_ c29_ (show 0 ≤ 0 by first | with_reducible assumption | assumption | omega) (show 0 ≤ 0 by first | with_reducible assumption | assumption | omega) (show (∀ j : Nat, j < (gF T).length → -1000000 ≤ zg N16_ 96 j ∧ zg N16_ 96 j ≤ 1000000) by exact fun j_ hj_ => by rw [hmu_ j_ (by omega)]; unfold zyg; split <;> omega)) rfl rfl rfl (by decide) (Nat.le_of_ble_eq_true rfl) (zdal_p dlD_M_unit_88 (i := 5) rfl) ?_
                rintro _ N31_ ⟨rfl, hsN31_, hp0_N31_⟩
                replace hp0_N31_ : (∀ k : Nat, k < (gF T).length → zg N31_ 105 k = (zsq (gF T).length (gmkI T) (fun j_ => zg N16_ 96 j_)) k) := hp0_N31_
                have hf_N31_ : zFr [55, 57, 58] [96, 105, 109, 110] Mz N31_ := hf_N16_.tr hsN31_ (by decide) (by decide)
                have e26_N31_ : ze N31_ 81 26 = ze N16_ 81 26 := hsN31_.e (by decide)
                have e57_N31_ : ze N31_ 81 57 = ze N16_ 81 57 := hsN31_.e (by decide)
                have e58_N31_ : ze N31_ 81 58 = ze N16_ 81 58 := hsN31_.e (by decide)
                have c33_ : zGB T N31_ := zGB.fr hsN31_ c22_ (by decide) (by decide)
                have c34_ : zTab T N31_ := zTab.fr hsN31_ c23_ (by decide) (by decide)
                have c35_ : zB 85 144 0 5 N31_ := zB.fr hsN31_ c24_ (by decide) (by decide)
                have c36_ : zJX T N31_ := zJX.fr hsN31_ c25_ (by decide) (by decide)
                have c37_ : zFirs T N31_ := zFirs.fr hsN31_ c26_ (by decide) (by decide)
                have c38_ : zSSm T N31_ := zSSm.fr hsN31_ c27_ (by decide) (by decide)
                have c39_ : zGD N31_ := zGD.fr hsN31_ c28_ (by decide) (by decide)
                have c40_ : zRmk (gF T).length (gmkI T) N31_ := zRmk.fr hsN31_ c29_ (by decide) (by decide)
                have c41_ : zB 110 65536 0 2147483647 N31_ := zB.fr hsN31_ c30_ (by decide) (by decide)
                show zW l m_M_unit (zn Mz + 0, zw Mz + 0) N31_ 98 [some (.ref 81), some (.int (Int32.ofInt a0_)), some (.int (Int32.ofInt a1_)), some (.int (Int32.ofInt u15_))] [] _
                have hnu_ := hp0_N31_
                have hzw2_ : zuw N31_ (a0_).toNat = zuw N16_ (a0_).toNat := by unfold zuw; rw [(hsN31_).ie (by decide) (by decide) _]
                have hyo2_ : zyO T N31_ (gF T).length (ze N31_ 81 57) := by rw [show ze N31_ 81 57 = ze N16_ 81 57 by omega]; exact zyO_c hyo38_ (fun i_ => (hsN31_).ie (by decide) (by decide) i_)
                refine zw_aload_n (pc := 98) (n := 0) (x := 81) rfl (zdal_p dlD_M_unit_88 (i := 6) rfl) ?_
                refine zr_getF (r := 105) (hf_N31_.w hW) (pc := 99) f_M_87 rfl (zh_105 (hf_N31_.w hW)).1 (zdal_p dlD_M_unit_88 (i := 7) rfl) ?_
                refine zw_iload_n (pc := 102) (n := 2) (x := Int32.ofInt a1_) rfl (zdal_p dlD_M_unit_88 (i := 8) rfl) ?_
                refine zr_laldn (pc := 103) (zh_105 (hf_N31_.w hW)).2 (by decide) (by omega) (by omega) (zdal_p dlD_M_unit_88 (i := 9) rfl) (fun v42_ hv42_ hv42_a hv42_b => ?_)
                have hv_ := (hv42_).trans ((hnu_ _ (by omega)).trans (zsq_cc (m' := zyg T (zuw N31_ (a0_).toNat)) (fun j_ hj_ => by rw [hzw2_]; exact hmu_ j_ (by omega)) _ (by omega)))
                refine zr_l2i (pc := 104) (zdal_p dlD_M_unit_88 (i := 10) rfl) ?_
                refine zk_nmW (fun v43_ hv43_ hv43_w => ?_)
                obtain ⟨hv43_a, hv43_b⟩ := hv43_
                have hzv_ := z32w_e hv43_w hv_
                exact zr_iret (pc := 105) (ty := .int) rfl rfl ⟨by omega, by omega⟩ hf_N31_ ⟨c41_, (show 0 ≤ ze N31_ 81 57 by first | with_reducible assumption | assumption | omega), (show ze N31_ 81 57 ≤ 65536 by first | with_reducible assumption | assumption | omega), (show (((0 ≤ a0_ ∧ a0_ < ze N31_ 81 57) ∧ 0 ≤ a1_ ∧ a1_ < ((gF T).length : Int)) ∧ z32w v43_ ((zsq (gF T).length (gmkI T) (zyg T (zuw N31_ (a0_).toNat))) (a1_).toNat)) ∨ (¬ ((0 ≤ a0_ ∧ a0_ < ze N31_ 81 57) ∧ 0 ≤ a1_ ∧ a1_ < ((gF T).length : Int)) ∧ v43_ = (-1000000 : Int)) by first | exact Or.inr ⟨by omega, rfl⟩ | exact Or.inl ⟨by omega, hzv_⟩), (show (ze N31_ 81 58 = 0 ∨ (ze N31_ 81 58 = 1 ∧ zyO T N31_ (gF T).length (ze N31_ 81 57))) by first | exact Or.inr ⟨by omega, hyo2_⟩ | exact Or.inr ⟨by omega, hyo_⟩ | exact hyw_), (show ((¬ (0 ≤ a1_ ∧ a1_ < ((gF T).length : Int))) ∨ (ze N31_ 81 58 = 1 ∧ zyO T N31_ (gF T).length (ze N31_ 81 57))) by first | exact Or.inr ⟨by omega, hyo2_⟩ | exact Or.inr ⟨by omega, hyo_⟩ | exact Or.inl (by omega))⟩ (zdal_p dlD_M_unit_88 (i := 11) rfl)
              · skip
                refine zw_aload_n (pc := 46) (n := 0) (x := 81) rfl (zdal_p dlD_M_unit_87 (i := 2) rfl) ?_
                refine zr_getF (r := 96) (hf_N16_.w hW) (pc := 47) f_M_60 rfl (zh_96 (hf_N16_.w hW)).1 (zdal_p dlD_M_unit_87 (i := 3) rfl) ?_
                refine zw_iload_n (pc := 50) (n := 3) (x := Int32.ofInt u15_) rfl (zdal_p dlD_M_unit_87 (i := 4) rfl) ?_
                refine zw_aload_n (pc := 51) (n := 0) (x := 81) rfl (zdal_p dlD_M_unit_87 (i := 5) rfl) ?_
                refine zr_getF (r := 110) (hf_N16_.w hW) (pc := 52) f_M_103 rfl (zh_110 (hf_N16_.w hW)).1 (zdal_p dlD_M_unit_87 (i := 6) rfl) ?_
                refine zw_iload_n (pc := 55) (n := 1) (x := Int32.ofInt a0_) rfl (zdal_p dlD_M_unit_87 (i := 7) rfl) ?_
                refine zr_ialdn (pc := 56) (zh_110 (hf_N16_.w hW)).2 (by decide) (by omega) (by omega) (zdal_p dlD_M_unit_87 (i := 8) rfl) (fun v44_ hv44_ hv44_a hv44_b => ?_)
                have hr45_ := c30_.g (e := a0_) (by omega) (by omega)
                rw [← hv44_] at hr45_
                have hsv_ := hv44_
                have hzb_ := c30_ (a0_).toNat (by omega)
                refine zw_aload_n (pc := 57) (n := 0) (x := 81) rfl (zdal_p dlD_M_unit_87 (i := 9) rfl) ?_
                refine zr_getI0 hf_N16_ hW (pc := 58) (by decide) f_M_235 rfl (zdal_p dlD_M_unit_87 (i := 10) rfl) ?_
                refine zw_iconst (pc := 61) (v := Int32.ofInt 1) (by decide) (zdal_p dlD_M_unit_87 (i := 11) rfl) ?_
                refine zr_isub (pc := 62) (zdal_p dlD_M_unit_87 (i := 12) rfl) ?_
                refine zw_iload_n (pc := 63) (n := 3) (x := Int32.ofInt u15_) rfl (zdal_p dlD_M_unit_87 (i := 13) rfl) ?_
                refine zr_isub (pc := 64) (zdal_p dlD_M_unit_87 (i := 14) rfl) ?_
                have hix_ : ((((ze Mz 81 26) - 1) - u15_)).toNat = (gF T).length - 1 - (u15_).toNat := by omega
                have hvx_ : (v44_).toNat = zuw N16_ (a0_).toNat := by rw [hsv_]; rfl
                refine zr_callS hf_N16_.x (pc := 65) [.int (Int32.ofInt v44_), .int (Int32.ofInt (((ze Mz 81 26) - 1) - u15_))] [.int (Int32.ofInt u15_), .ref 96] l_M_213 (c_M_holds l N16_ (hf_N16_.w hW) v44_ hv44_a hv44_b (((ze Mz 81 26) - 1) - u15_) (by omega) (by omega) (show 0 ≤ v44_ by first | with_reducible assumption | assumption | omega) (show 0 ≤ (((ze Mz 81 26) - 1) - u15_) by first | with_reducible assumption | assumption | omega) (show (((ze Mz 81 26) - 1) - u15_) < 32 by first | with_reducible assumption | assumption | omega)) rfl rfl (by decide) (Nat.le_of_ble_eq_true rfl) (zdal_p dlD_M_unit_87 (i := 15) rfl) ?_
                rintro _ N46_ ⟨v47_, rfl, ⟨hv47_a, hv47_b⟩, hsN46_, hp0_N46_⟩
                obtain rfl := hsN46_.eq.symm
                replace hp0_N46_ : ((v47_ = 1 ∧ zbt v44_ (((ze Mz 81 26) - 1) - u15_)) ∨ (v47_ = 0 ∧ ¬ zbt v44_ (((ze Mz 81 26) - 1) - u15_))) := hp0_N46_
                rcases hp0_N46_ with ⟨rfl, ha65_0_hp0_N46_⟩ | ⟨rfl, ha65_0_hp0_N46_⟩
                · skip
                  have h0_ := ha65_0_hp0_N46_
                  unfold zbt at h0_
                  rw [hix_, hvx_] at h0_
                  have hb1_ : zyg T (zuw N16_ (a0_).toNat) (u15_).toNat = -1 := by unfold zyg; rw [if_pos h0_]
                  show zW l m_M_unit (zn Mz + 0, zw Mz + 0) N16_ 68 [some (.ref 81), some (.int (Int32.ofInt a0_)), some (.int (Int32.ofInt a1_)), some (.int (Int32.ofInt u15_))] [.int (Int32.ofInt 1), .int (Int32.ofInt u15_), .ref 96] _
                  refine zr_if_eq (pc := 68) (tgt := 77) ⟨(by decide), (by decide)⟩ (by decide) (zdal_p dlD_M_unit_87 (i := 16) rfl) (fun hc_68 => ?_) (fun hc_68 => ?_)
                  · skip
                    exact absurd hc_68 (by decide)
                  · skip
                    refine zr_ldc2 (pc := 71) (n := (-1)) (by decide) k_M_468 (zdal_p dlD_M_unit_87 (i := 17) rfl) ?_
                    refine zw_goto (pc := 74) (tgt := 78) (by decide) (zdal_p dlD_M_unit_87 (i := 18) rfl) ?_
                    refine zr_last (pc := 78) (zh_96 (hf_N16_.w hW)).2 (by decide) (by decide) (by omega) (by omega) (zdal_p dlD_M_unit_87 (i := 20) rfl) (fun N48_ hN48_ hsN48_ => ?_)
                    have hf_N48_ : zFr [55, 57, 58] [96, 105, 109, 110] Mz N48_ := hf_N16_.tr hsN48_ (by decide) (by decide)
                    have hb0_N48_ : zFr [] [96] N3_ N48_ := hs17_.tr hsN48_ (by decide) (by decide)
                    have e26_N48_ : ze N48_ 81 26 = ze N16_ 81 26 := hsN48_.e (by decide)
                    have e57_N48_ : ze N48_ 81 57 = ze N16_ 81 57 := hsN48_.e (by decide)
                    have e58_N48_ : ze N48_ 81 58 = ze N16_ 81 58 := hsN48_.e (by decide)
                    have c49_ : zGB T N48_ := zGB.fr hsN48_ c22_ (by decide) (by decide)
                    have c50_ : zTab T N48_ := zTab.fr hsN48_ c23_ (by decide) (by decide)
                    have c51_ : zB 85 144 0 5 N48_ := zB.fr hsN48_ c24_ (by decide) (by decide)
                    have c52_ : zJX T N48_ := zJX.fr hsN48_ c25_ (by decide) (by decide)
                    have c53_ : zFirs T N48_ := zFirs.fr hsN48_ c26_ (by decide) (by decide)
                    have c54_ : zSSm T N48_ := zSSm.fr hsN48_ c27_ (by decide) (by decide)
                    have c55_ : zGD N48_ := zGD.fr hsN48_ c28_ (by decide) (by decide)
                    have c56_ : zRmk (gF T).length (gmkI T) N48_ := zRmk.fr hsN48_ c29_ (by decide) (by decide)
                    have c57_ : zB 110 65536 0 2147483647 N48_ := zB.fr hsN48_ c30_ (by decide) (by decide)
                    have hzw_ : zuw N48_ (a0_).toNat = zuw N16_ (a0_).toNat := by unfold zuw; rw [(hsN48_).ie (by decide) (by decide) _]
                    have hmn_ : (∀ j : Nat, (j : Int) < u15_ + 1 → zg N48_ 96 j = zyg T (zuw N48_ (a0_).toNat) j) := fun j_ hj_ => by rw [hzw_]; by_cases g_ : (j_ : Int) = u15_; (rw [show j_ = (u15_).toNat by omega, zs_getJ hN48_ ⟨by omega, by omega⟩]; first | exact hb1_.symm | exact hb0_.symm); (rw [zs_othJ hN48_ (by omega)]; exact hmu_ j_ (by omega))
                    have hyo3_ : zyO T N48_ (gF T).length (ze N48_ 81 57) := by rw [show ze N48_ 81 57 = ze N16_ 81 57 by omega]; exact zyO_c hyo38_ (fun i_ => (hsN48_).ie (by decide) (by decide) i_)
                    refine zr_iinc (pc := 79) (i := 3) (a := u15_) (n := 1) (L2 := [some (.ref 81), some (.int (Int32.ofInt a0_)), some (.int (Int32.ofInt a1_)), some (.int (Int32.ofInt (u15_ + 1)))]) rfl (by decide) rfl (zdal_p dlD_M_unit_87 (i := 21) rfl) ?_
                    refine zw_goto (pc := 82) (tgt := 38) (by decide) (zdal_p dlD_M_unit_87 (i := 22) rfl) ?_
                    exact ih_38 (u15_ + 1) (by omega) (by omega) N48_ hb0_N48_ (show 0 ≤ (u15_ + 1) by first | with_reducible assumption | assumption | omega) (show (u15_ + 1) ≤ ((gF T).length : Int) by first | with_reducible assumption | assumption | omega) (show (∀ j : Nat, (j : Int) < (u15_ + 1) → zg N48_ 96 j = zyg T (zuw N48_ (a0_).toNat) j) by exact hmn_) (show (zyO T N48_ (gF T).length (ze N48_ 81 57)) by exact hyo3_) (by omega)
                · skip
                  have h0_ := ha65_0_hp0_N46_
                  unfold zbt at h0_
                  rw [hix_, hvx_] at h0_
                  have hb0_ : zyg T (zuw N16_ (a0_).toNat) (u15_).toNat = 1 := by unfold zyg; rw [if_neg h0_]
                  show zW l m_M_unit (zn Mz + 0, zw Mz + 0) N16_ 68 [some (.ref 81), some (.int (Int32.ofInt a0_)), some (.int (Int32.ofInt a1_)), some (.int (Int32.ofInt u15_))] [.int (Int32.ofInt 0), .int (Int32.ofInt u15_), .ref 96] _
                  refine zr_if_eq (pc := 68) (tgt := 77) ⟨(by decide), (by decide)⟩ (by decide) (zdal_p dlD_M_unit_87 (i := 16) rfl) (fun hc_68 => ?_) (fun hc_68 => ?_)
                  · skip
                    refine zw_lconst (pc := 77) (v := Int64.ofInt 1) (by decide) (zdal_p dlD_M_unit_87 (i := 19) rfl) ?_
                    refine zr_last (pc := 78) (zh_96 (hf_N16_.w hW)).2 (by decide) (by decide) (by omega) (by omega) (zdal_p dlD_M_unit_87 (i := 20) rfl) (fun N58_ hN58_ hsN58_ => ?_)
                    have hf_N58_ : zFr [55, 57, 58] [96, 105, 109, 110] Mz N58_ := hf_N16_.tr hsN58_ (by decide) (by decide)
                    have hb0_N58_ : zFr [] [96] N3_ N58_ := hs17_.tr hsN58_ (by decide) (by decide)
                    have e26_N58_ : ze N58_ 81 26 = ze N16_ 81 26 := hsN58_.e (by decide)
                    have e57_N58_ : ze N58_ 81 57 = ze N16_ 81 57 := hsN58_.e (by decide)
                    have e58_N58_ : ze N58_ 81 58 = ze N16_ 81 58 := hsN58_.e (by decide)
                    have c59_ : zGB T N58_ := zGB.fr hsN58_ c22_ (by decide) (by decide)
                    have c60_ : zTab T N58_ := zTab.fr hsN58_ c23_ (by decide) (by decide)
                    have c61_ : zB 85 144 0 5 N58_ := zB.fr hsN58_ c24_ (by decide) (by decide)
                    have c62_ : zJX T N58_ := zJX.fr hsN58_ c25_ (by decide) (by decide)
                    have c63_ : zFirs T N58_ := zFirs.fr hsN58_ c26_ (by decide) (by decide)
                    have c64_ : zSSm T N58_ := zSSm.fr hsN58_ c27_ (by decide) (by decide)
                    have c65_ : zGD N58_ := zGD.fr hsN58_ c28_ (by decide) (by decide)
                    have c66_ : zRmk (gF T).length (gmkI T) N58_ := zRmk.fr hsN58_ c29_ (by decide) (by decide)
                    have c67_ : zB 110 65536 0 2147483647 N58_ := zB.fr hsN58_ c30_ (by decide) (by decide)
                    have hzw_ : zuw N58_ (a0_).toNat = zuw N16_ (a0_).toNat := by unfold zuw; rw [(hsN58_).ie (by decide) (by decide) _]
                    have hmn_ : (∀ j : Nat, (j : Int) < u15_ + 1 → zg N58_ 96 j = zyg T (zuw N58_ (a0_).toNat) j) := fun j_ hj_ => by rw [hzw_]; by_cases g_ : (j_ : Int) = u15_; (rw [show j_ = (u15_).toNat by omega, zs_getJ hN58_ ⟨by omega, by omega⟩]; first | exact hb1_.symm | exact hb0_.symm); (rw [zs_othJ hN58_ (by omega)]; exact hmu_ j_ (by omega))
                    have hyo3_ : zyO T N58_ (gF T).length (ze N58_ 81 57) := by rw [show ze N58_ 81 57 = ze N16_ 81 57 by omega]; exact zyO_c hyo38_ (fun i_ => (hsN58_).ie (by decide) (by decide) i_)
                    refine zr_iinc (pc := 79) (i := 3) (a := u15_) (n := 1) (L2 := [some (.ref 81), some (.int (Int32.ofInt a0_)), some (.int (Int32.ofInt a1_)), some (.int (Int32.ofInt (u15_ + 1)))]) rfl (by decide) rfl (zdal_p dlD_M_unit_87 (i := 21) rfl) ?_
                    refine zw_goto (pc := 82) (tgt := 38) (by decide) (zdal_p dlD_M_unit_87 (i := 22) rfl) ?_
                    exact ih_38 (u15_ + 1) (by omega) (by omega) N58_ hb0_N58_ (show 0 ≤ (u15_ + 1) by first | with_reducible assumption | assumption | omega) (show (u15_ + 1) ≤ ((gF T).length : Int) by first | with_reducible assumption | assumption | omega) (show (∀ j : Nat, (j : Int) < (u15_ + 1) → zg N58_ 96 j = zyg T (zuw N58_ (a0_).toNat) j) by exact hmn_) (show (zyO T N58_ (gF T).length (ze N58_ 81 57)) by exact hyo3_) (by omega)
                  · skip
                    exact absurd hc_68 (by decide)
          exact lp_38 _ 0 (by decide) (by decide) N3_ zFr.rf (show 0 ≤ (0 : Int) by first | with_reducible assumption | assumption | omega) (show (0 : Int) ≤ ((gF T).length : Int) by first | with_reducible assumption | assumption | omega) (show (∀ j : Nat, (j : Int) < (0 : Int) → zg N3_ 96 j = zyg T (zuw N3_ (a0_).toNat) j) by exact fun j_ hj_ => absurd hj_ (by omega)) (show (zyO T N3_ (gF T).length (ze N3_ 81 57)) by exact hyo_) (Nat.lt_succ_self _)
        · skip
          exact absurd hc_29 (by decide)
      · skip
        show zW l m_M_unit (zn Mz + 0, zw Mz + 0) N3_ 29 [some (.ref 81), some (.int (Int32.ofInt a0_)), some (.int (Int32.ofInt a1_)), none] [.int (Int32.ofInt 0)] _
        refine zr_if_ne (pc := 29) (tgt := 36) ⟨(by decide), (by decide)⟩ (by decide) (zdal_p dlD_M_unit_86 (i := 17) rfl) (fun hc_29 => ?_) (fun hc_29 => ?_)
        · skip
          exact absurd hc_29 (by decide)
        · skip
          refine zw_ldcw (pc := 32) (v := Int32.ofInt (-1000000)) (by rw [show Int32.ofInt (-1000000) = ((-1000000) : Int32) by decide]; exact k_M_435) (zdal_p dlD_M_unit_86 (i := 18) rfl) ?_
          exact zr_iret (pc := 35) (ty := .int) rfl rfl ⟨by omega, by omega⟩ hf_N3_ ⟨hp0_N3_, (show 0 ≤ ze N3_ 81 57 by first | with_reducible assumption | assumption | omega), (show ze N3_ 81 57 ≤ 65536 by first | with_reducible assumption | assumption | omega), (show (((0 ≤ a0_ ∧ a0_ < ze N3_ 81 57) ∧ 0 ≤ a1_ ∧ a1_ < ((gF T).length : Int)) ∧ z32w ((-1000000)) ((zsq (gF T).length (gmkI T) (zyg T (zuw N3_ (a0_).toNat))) (a1_).toNat)) ∨ (¬ ((0 ≤ a0_ ∧ a0_ < ze N3_ 81 57) ∧ 0 ≤ a1_ ∧ a1_ < ((gF T).length : Int)) ∧ ((-1000000)) = (-1000000 : Int)) by first | exact Or.inr ⟨by omega, rfl⟩ | exact Or.inl ⟨by omega, hzv_⟩), (show (ze N3_ 81 58 = 0 ∨ (ze N3_ 81 58 = 1 ∧ zyO T N3_ (gF T).length (ze N3_ 81 57))) by first | exact Or.inr ⟨by omega, hyo2_⟩ | exact Or.inr ⟨by omega, hyo_⟩ | exact hyw_), (show ((¬ (0 ≤ a1_ ∧ a1_ < ((gF T).length : Int))) ∨ (ze N3_ 81 58 = 1 ∧ zyO T N3_ (gF T).length (ze N3_ 81 57))) by first | exact Or.inr ⟨by omega, hyo2_⟩ | exact Or.inr ⟨by omega, hyo_⟩ | exact Or.inl (by omega))⟩ (zdal_p dlD_M_unit_86 (i := 19) rfl)
    · skip
      exact absurd hc_5 (by decide)
  · skip
    show zW l m_M_unit (zn Mz + 0, zw Mz + 0) Mz 5 [some (.ref 81), some (.int (Int32.ofInt a0_)), some (.int (Int32.ofInt a1_)), none] [.int (Int32.ofInt 0)] _
    refine zr_if_ne (pc := 5) (tgt := 12) ⟨(by decide), (by decide)⟩ (by decide) (zdal_p dlD_M_unit_86 (i := 3) rfl) (fun hc_5 => ?_) (fun hc_5 => ?_)
    · skip
      exact absurd hc_5 (by decide)
    · skip
      refine zw_ldcw (pc := 8) (v := Int32.ofInt (-1000000)) (by rw [show Int32.ofInt (-1000000) = ((-1000000) : Int32) by decide]; exact k_M_435) (zdal_p dlD_M_unit_86 (i := 4) rfl) ?_
      exact zr_iret (pc := 11) (ty := .int) rfl rfl ⟨by omega, by omega⟩ hf ⟨p1_, (show 0 ≤ ze Mz 81 57 by first | with_reducible assumption | assumption | omega), (show ze Mz 81 57 ≤ 65536 by first | with_reducible assumption | assumption | omega), (show (((0 ≤ a0_ ∧ a0_ < ze Mz 81 57) ∧ 0 ≤ a1_ ∧ a1_ < ((gF T).length : Int)) ∧ z32w ((-1000000)) ((zsq (gF T).length (gmkI T) (zyg T (zuw Mz (a0_).toNat))) (a1_).toNat)) ∨ (¬ ((0 ≤ a0_ ∧ a0_ < ze Mz 81 57) ∧ 0 ≤ a1_ ∧ a1_ < ((gF T).length : Int)) ∧ ((-1000000)) = (-1000000 : Int)) by first | exact Or.inr ⟨by omega, rfl⟩ | exact Or.inl ⟨by omega, hzv_⟩), (show (ze Mz 81 58 = 0 ∨ (ze Mz 81 58 = 1 ∧ zyO T Mz (gF T).length (ze Mz 81 57))) by first | exact Or.inr ⟨by omega, hyo2_⟩ | exact Or.inr ⟨by omega, hyo_⟩ | exact hyw_), (show ((¬ (0 ≤ a1_ ∧ a1_ < ((gF T).length : Int))) ∨ (ze Mz 81 58 = 1 ∧ zyO T Mz (gF T).length (ze Mz 81 57))) by first | exact Or.inr ⟨by omega, hyo2_⟩ | exact Or.inr ⟨by omega, hyo_⟩ | exact Or.inl (by omega))⟩ (zdal_p dlD_M_unit_86 (i := 5) rfl)
def zKSu (P : Nat) (mv : List Nat) (T : zGT) (d : Nat) (M : zMem) : Prop := zKS P mv T d M ∧ zUW T d M
def zRSu (P : Nat) (mv : List Nat) (T : zGT) (M : zMem) : Prop := zRS P mv T M ∧ zyW T M
def zLmu (M : zMem) : Prop := ∃ P mv T d, zf M 0 2 = some (d + 0) ∧ zKW d M ∧ zRSu P mv T M ∧ zKSu P mv T d M
def zLqu (M : zMem) : Prop := zLb M ∧ zLmu M
theorem zUf_e {S : Nat → Prop} {d : Nat} {M N : zMem} (h3 : ze N (d + 28) 3 = ze M (d + 28) 3) (hr : ∀ i : Nat, ze N (d + 30) i = ze M (d + 30) i) (h : zUf S d M) : zUf S d N := by
  obtain ⟨h1, pv, h2⟩ := h
  refine ⟨zNw_e h3 (fun i _ => hr i) h1, pv, ?_⟩
  have e : zub d N = zub d M := funext fun i => by
    unfold zub
    rw [hr i]
  rw [e, h3]
  exact h2
section ZLU
variable {M N : zMem} {d : Nat} {P : Nat} {mv : List Nat} {T : zGT} {FA : List (Nat × Nat)} {CA : List Nat} {FR : List (Nat × Nat)} {CR : List Nat}
theorem zKSu.e (he : ∀ o, o < 38 → ∀ j, ze N (d + o) j = ze M (d + o) j) (h : zKSu P mv T d M) : zKSu P mv T d N := by
  refine ⟨h.1.e he, ?_⟩
  have h2 := h.2
  unfold zUW at h2 ⊢
  rw [he 28 (by decide)]
  rcases h2 with h2 | ⟨h2, h3⟩
  · exact Or.inl h2
  · exact Or.inr ⟨h2, zUf_e (he 28 (by decide) 3) (he 30 (by decide)) h3⟩
theorem zyW_e (h57 : ze N 81 57 = ze M 81 57) (h58 : ze N 81 58 = ze M 81 58) (hr : ∀ i : Nat, ze N 110 i = ze M 110 i) (h : zyW T M) : zyW T N := by
  unfold zyW
  rw [h57, h58]
  rcases h with h | ⟨h1, h2, h3⟩
  · exact Or.inl h
  · exact Or.inr ⟨h1, h2, zyO_c h3 hr⟩
theorem zRSu.hi (h3 : ∀ q, 81 ≤ q → zi N q = zi M q ∧ zj N q = zj M q) (h1 : N.1 = M.1) (h2 : zsh N = zsh M) (h : zRSu P mv T M) : zRSu P mv T N := by
  have e : ∀ q j, 81 ≤ q → ze N q j = ze M q j := fun q j hq => by
    unfold ze
    rw [(h3 q hq).1]
  exact ⟨h.1.hi h3 h1 h2, zyW_e (e _ _ (by decide)) (e _ _ (by decide)) (fun i => e _ _ (by decide)) h.2⟩
theorem zRSu.fr {S C : List Nat} (hf : zFr S C M N) (h : zRSu P mv T M) (hs : ((14 ∉ S ∧ 18 ∉ S) ∧ 16 ∉ S ∧ 17 ∉ S ∧ 20 ∉ S ∧ 25 ∉ S ∧ 26 ∉ S) ∧ 57 ∉ S ∧ 58 ∉ S) (hc : ((((101 ∉ C ∧ 102 ∉ C) ∧ 103 ∉ C ∧ 104 ∉ C) ∧ 92 ∉ C) ∧ 84 ∉ C ∧ 85 ∉ C ∧ 87 ∉ C ∧ 88 ∉ C ∧ 89 ∉ C ∧ 90 ∉ C ∧ 91 ∉ C ∧ 93 ∉ C ∧ 94 ∉ C) ∧ 110 ∉ C) : zRSu P mv T N := ⟨zRS.fr hf h.1 hs.1 hc.1, zyW.fr hf h.2 hs.2 hc.2⟩
theorem zKSu.lo (h : zOl M N) (hd : d = 5 ∨ d = 43) (hk : zKSu P mv T d M) : zKSu P mv T d N := hk.e (fun o ho j => by
  unfold ze
  rw [(h.2.2.2 (d + o) (by omega)).1])
theorem zKSu.fr (hW : zKW d M) (hf : zFc d FA CA FR CR M N) (h : zKSu P mv T d M) (hc : (((1 ∉ CR ∧ (1, 5) ∉ FR) ∧ (1, 6) ∉ FR ∧ (1, 7) ∉ FR) ∧ (12 ∉ CR ∧ (12, 6) ∉ FR ∧ (12, 7) ∉ FR) ∧ ∀ o ∈ [3, 5, 7, 9, 14, 16, 20, 22], o ∉ CR ∧ ∀ x ∈ FR, x.1 ≠ o) ∧ (28 < 38 ∧ 28 ∉ CR ∧ (28, 4) ∉ FR) ∧ (28 < 38 ∧ 28 ∉ CR ∧ (28, 3) ∉ FR) ∧ 30 < 38 ∧ 30 ∉ CR ∧ ∀ x ∈ FR, x.1 ≠ 30) : zKSu P mv T d N := ⟨zKS.fr hW hf h.1 hc.1, zUW.fr hW hf h.2 hc.2⟩
theorem zLmu.x (h : zLmu M) (hf : zFc d FA CA FR CR M N) (hW : zKW d M) (hn : zf M 0 2 = some (d + 0)) (hc : (∀ x ∈ FA, x.1 < 81) ∧ ∀ x ∈ CA, x < 81) (hk : (((1 ∉ CR ∧ (1, 5) ∉ FR) ∧ (1, 6) ∉ FR ∧ (1, 7) ∉ FR) ∧ (12 ∉ CR ∧ (12, 6) ∉ FR ∧ (12, 7) ∉ FR) ∧ ∀ o ∈ [3, 5, 7, 9, 14, 16, 20, 22], o ∉ CR ∧ ∀ x ∈ FR, x.1 ≠ o) ∧ (28 < 38 ∧ 28 ∉ CR ∧ (28, 4) ∉ FR) ∧ (28 < 38 ∧ 28 ∉ CR ∧ (28, 3) ∉ FR) ∧ 30 < 38 ∧ 30 ∉ CR ∧ ∀ x ∈ FR, x.1 ≠ 30) : zLmu N := by
  obtain ⟨P, mv, T, d', hn', hW', hr, hs⟩ := h
  have e : d' = d := by
    rw [hn] at hn'
    have := Option.some.inj hn'
    omega
  subst e
  exact ⟨P, mv, T, d', by rw [hf.2.2.1]; exact hn, hf.w hW, hr.hi (fun q hq => hf.hi hW hc hq) hf.1 hf.2.1, hs.fr hW hf hk⟩
theorem zLmu.ref {k : Int} (h : zLmu M) (hg : zGo M N k) (hr : ∀ P mv T, zRSu P mv T M → zRSu P mv T N) : zLmu N := by
  obtain ⟨P, mv, T, d, hn, hW, h1, hs⟩ := h
  exact ⟨P, mv, T, d, by rw [hg.1.2.2.1]; exact hn, hW.same hg.1.1 hg.1.2.1 (fun q j _ => by rw [hg.1.2.2.1]), hr P mv T h1, hs.lo hg.1 hW.2.1⟩
theorem zLmu.tr {b : Nat → Int} {n s : Nat} {k : Int} (h1 : (zTrB b n s ∧ zLmu M) ∨ ∃ P mv T, zTrP b n s P mv T ∧ ∃ d, zf M 0 2 = some (d + 0) ∧ zKW d M ∧ zKSu P mv T d M) (hg : zGo M N k) (h2 : (zTrB b n s ∧ ∀ P mv T, zRSu P mv T M → zRSu P mv T N) ∨ ∃ P mv T, zTrP b n s P mv T ∧ zRSu P mv T N) : zLmu N := by
  rcases h1 with ⟨a1, a2⟩ | ⟨P, mv, T, a1, d, a2, a3, a4⟩
  · rcases h2 with ⟨b1, b2⟩ | ⟨P', mv', T', b1, b2⟩
    · exact a2.ref hg b2
    · exact absurd a1 (zTrG_b b1.g)
  · rcases h2 with ⟨b1, b2⟩ | ⟨P', mv', T', b1, b2⟩
    · exact absurd b1 (zTrG_b a1.g)
    · obtain ⟨rfl, rfl, rfl⟩ := zTrP_u a1 b1
      exact ⟨P, mv, T, d, by rw [hg.1.2.2.1]; exact a2, a3.same hg.1.1 hg.1.2.1 (fun q j _ => by rw [hg.1.2.2.1]), b2, a4.lo hg.1 a3.2.1⟩
end ZLU
def zqTrU (d d2 : Nat) (b : Nat → Int) (n : Nat) (M : zMem) : Option Value → zMem → Prop := fun r N => ∃ v : Int, r = some (.int (Int32.ofInt v)) ∧ zn32 v ∧ ze N 1 1 = 0 ∧ zSwp d d2 M N ∧ ((v = -1 ∧ zTrB b n (zru zpB b n 0) ∧ zf N = zf M ∧ ∀ q, d2 ≤ q → q < d2 + 38 → zi N q = zi M q) ∨ ∃ P : Nat, ∃ mv : List Nat, ∃ T : zGT, zTrP b n (zru zpB b n 0) P mv T ∧ v = (gN T : Int) ∧ (zf N 0 2 = some (d + 0) ∧ zf N 0 3 = some (d2 + 0)) ∧ zKSu P mv T d N)
theorem zk_swapU {l : Launch} {d d2 P : Nat} {mv : List Nat} {T : zGT} {b : Nat → Int} {n : Nat} {X : Nat × Nat} {M N : zMem} {x : Int} {FA : List (Nat × Nat)} {CA : List Nat} {FR : List (Nat × Nat)} {CR : List Nat} (hf : zFc d FA CA FR CR M N) (hW : zKW d M) (hnow : zf M 0 2 = some (d2 + 0)) (hc : (∀ x ∈ FA, x.1 < 81) ∧ ∀ x ∈ CA, x < 81) (hl : ze N 1 1 = 0) (hp : zTrP b n (zru zpB b n 0) P mv T) (hsu : zKS P mv T d N ∧ ze N (d + 28) 4 = 0) : zW l m_T_troupe X N 71 [some (.ref 0), some (.ref (d + 0)), some (.int (Int32.ofInt x))] [] (zqTrU d d2 b n M) := by
  have hs := hsu.1
  have hWN := hf.w hW
  have hd := hW.2.1
  have hn2 := hf.sp hnow
  refine zw_aload_n (pc := 71) (n := 0) (x := 0) rfl (zdal_p dlA_T_troupe_68 (i := 13) rfl) ?_
  refine zw_aload_n (pc := 72) (n := 0) (x := 0) rfl (zdal_p dlA_T_troupe_68 (i := 14) rfl) ?_
  refine zw_getF (pc := 73) f_T_28 rfl (hWN.ka (o := 0) (by decide)) hn2 (zdal_p dlA_T_troupe_68 (i := 15) rfl) ?_
  refine zw_putR (pc := 76) (x := d2 + 0) (Or.inl ⟨f_T_32, rfl⟩) rfl (hWN.ka (o := 0) (by decide)) (fun _ => rfl) (fun _ => rfl) (zdal_p dlA_T_troupe_68 (i := 16) rfl) ?_
  refine zw_aload_n (pc := 79) (n := 0) (x := 0) rfl (zdal_p dlA_T_troupe_68 (i := 17) rfl) ?_
  refine zw_aload_n (pc := 80) (n := 1) (x := d + 0) rfl (zdal_p dlA_T_troupe_68 (i := 18) rfl) ?_
  refine zw_putR (pc := 81) (x := d + 0) (Or.inl ⟨f_T_28, rfl⟩) rfl (hWN.ka (o := 0) (by decide)) (fun _ => rfl) (fun _ => rfl) (zdal_p dlA_T_troupe_68 (i := 19) rfl) ?_
  refine zw_aload_n (pc := 84) (n := 0) (x := 0) rfl (zdal_p dlA_T_troupe_68 (i := 20) rfl) ?_
  refine zw_getF (pc := 85) (r := d + 0) f_T_28 rfl (hWN.ka (o := 0) (by decide)) (show zup2 (zup2 (zf N) 0 3 (some (d2 + 0))) 0 2 (some (d + 0)) 0 2 = some (d + 0) from zup2_s) (zdal_p dlA_T_troupe_68 (i := 21) rfl) ?_
  have hg : zf (zsF (zsF N 0 3 (some (d2 + 0))) 0 2 (some (d + 0))) (d + 0) 0 = some (d + 1) := by
    show zup2 (zup2 (zf N) 0 3 _) 0 2 _ (d + 0) 0 = _
    rw [zup2_q (by omega), zup2_q (by omega)]
    exact hWN.lr (o := 0) (s := 0) (r := 1) (by decide)
  refine zw_getF (pc := 88) f_T_61 rfl (hWN.kr (o := 0) (by decide)) hg (zdal_p dlA_T_troupe_68 (i := 22) rfl) ?_
  refine zw_getI (pc := 91) f_T_65 rfl (hWN.kr (o := 1) (by decide)) (zdal_p dlA_T_troupe_68 (i := 23) rfl) ?_
  have hu1 : zup2 (zup2 (zf N) 0 3 (some (d2 + 0))) 0 2 (some (d + 0)) 0 2 = some (d + 0) := zup2_s
  have hu2 : zup2 (zup2 (zf N) 0 3 (some (d2 + 0))) 0 2 (some (d + 0)) 0 3 = some (d2 + 0) := by
    rw [zup2_n (fun z => absurd z.2 (by decide))]
    exact zup2_s
  have hsz := hs.2.1.2.1
  refine zw_iret (S := []) (pc := 94) (ty := .int) rfl rfl (zdal_p dlA_T_troupe_69 (i := 0) rfl) ⟨ze N (d + 1) 7, ?_, ze_r N (d + 1) 7, hl, ?_, Or.inr ⟨P, mv, T, hp, hsz, ⟨hu1, hu2⟩, hs, Or.inl hsu.2⟩⟩
  · show some (Value.int (zi N (d + 1) 7)) = _
    rw [ze_of]
  · have h0 := zSwp_0 (d2 := d2) hf hW hc
    obtain ⟨a1, a2, a3, a4⟩ := h0
    have hfN : ∀ q j, ¬ (q = 0 ∧ (j = 2 ∨ j = 3)) → zf (zsF (zsF N 0 3 (some (d2 + 0))) 0 2 (some (d + 0))) q j = zf M q j := fun q j hqj => by
      show zup2 (zup2 (zf N) 0 3 _) 0 2 _ q j = _
      rw [zup2_n (fun z => hqj ⟨z.1, Or.inl z.2⟩), zup2_n (fun z => hqj ⟨z.1, Or.inr z.2⟩), hf.2.2.1]
    exact ⟨a1, a2, fun q hq => ⟨(a3 q hq).1, (a3 q hq).2.1, funext fun j => hfN q j (fun z => by omega)⟩, Or.inr ⟨hu1, hu2, hfN⟩⟩
theorem zyE_u {f g : Nat → Nat} {u w : Int} {P : Nat → Prop} (h : zyE f 0 u P) (h' : zyE g 0 w P) (u0 : 0 ≤ u) (w0 : 0 ≤ w) : u = w ∧ ∀ i : Nat, (i : Int) < u → f i = g i := by
  obtain ⟨a, rfl⟩ := Int.eq_ofNat_of_zero_le u0
  obtain ⟨b, rfl⟩ := Int.eq_ofNat_of_zero_le w0
  have h2 := zrise (u := f) (w := g) (A := a) (B := b) (fun i j hij hj => h.1 i j (by omega) hij (by omega)) (fun i j hij hj => h'.1 i j (by omega) hij (by omega)) (fun i hi => by
    obtain ⟨j, -, j1, j2⟩ := (h'.2 (f i)).mpr ((h.2 (f i)).mp ⟨i, by omega, by omega, rfl⟩)
    exact ⟨j, by omega, j2⟩) (fun i hi => by
    obtain ⟨j, -, j1, j2⟩ := (h.2 (g i)).mpr ((h'.2 (g i)).mp ⟨i, by omega, by omega, rfl⟩)
    exact ⟨j, by omega, j2⟩)
  exact ⟨by rw [h2.1], fun i hi => h2.2 i (by omega)⟩
theorem zUf_y {T : zGT} {d : Nat} {M : zMem} (h : zUf (zUS T) d M) : zyE (zUk d M) 0 ((2 ^ (ze M (d + 28) 3).toNat : Nat) : Int) (zUS T) := by
  obtain ⟨⟨a1, a2, a3, a4⟩, pv, hp⟩ := h
  refine ⟨fun i j _ hij hj => zkth_lt hp hij (by omega), fun x => ?_⟩
  constructor
  · rintro ⟨i, -, -, rfl⟩
    exact (a4 _).mp zkth_s
  · intro hx
    obtain ⟨k, k1, k2⟩ := zkth_x ((a4 _).mpr hx)
    exact ⟨k, by omega, by omega, k2⟩
theorem zyO_y {T : zGT} {M : zMem} {u : Int} (hT : T ∈ gTabs) (hA : gGr T) (h : zyO T M (gF T).length u) : zyE (zuw M) 0 u (zUS T) := zyE_p h (fun x => by
  unfold zyL zUS
  refine and_congr_right fun _ => ?_
  have h1 := gun hT hA (r := x) (j := 0)
  constructor
  · exact fun q i hi => h1.mp (fun i' _ h2 => q i' (by omega) h2) i (by omega) hi
  · exact fun q i _ hi => h1.mpr (fun i' _ h2 => q i' h2) i (by omega) hi)
def zfUn (T : zGT) (v : Int) : Prop := 0 ≤ v ∧ ∃ f, zyE f 0 v (zUS T)
theorem zfUn_u {T : zGT} {v w : Int} (h : zfUn T v) (h' : zfUn T w) : v = w := by
  obtain ⟨h1, f, h2⟩ := h
  obtain ⟨h3, g, h4⟩ := h'
  exact (zyE_u h2 h4 h1 h3).1
set_option maxHeartbeats 4000000 in
theorem u_Units_forgetU (l : Launch) (d_ : Nat) (Mz : zMem) (hW : zKW d_ Mz) : zC l m_Units_forget 0 0 [.ref (d_ + 28)] Mz (zqcV d_ [] [] [(28, 4)] [] Mz (fun N => ze N (d_ + 28) 4 = 0)) := by
  refine zC_of (L0 := [some (.ref (d_ + 28))]) md_Units_forget (Nat.le_of_ble_eq_true rfl) rfl ?_ zQ0
  have hf : zFc d_ [] [] [(28, 4)] [] Mz Mz := zFc.rf
  have r_D28_4 := ze_r Mz (d_ + 28) 4
  refine zw_aload_n (pc := 0) (n := 0) (x := (d_ + 28)) rfl (zdal_p dlA_Units_forget_60 (i := 0) rfl) ?_
  refine zw_iconst (pc := 1) (v := Int32.ofInt 0) (by decide) (zdal_p dlA_Units_forget_60 (i := 1) rfl) ?_
  refine zk_putR (pc := 2) (o := 28) (by decide) f_Units_27 rfl rfl ((hf.w hW).kr (o := 28) (by decide)) ⟨by omega, by omega⟩ (z_narB (by omega)) (z_fitB (by omega)) (zdal_p dlA_Units_forget_60 (i := 2) rfl) (fun N1_ hsN1_ hvN1_ => ?_)
  have hf_N1_ : zFc d_ [] [] [(28, 4)] [] Mz N1_ := hf.tr hsN1_ (by decide) (by decide) (by decide) (by decide)
  have rD28_4_N1_ := ze_r N1_ (d_ + 28) 4
  exact zk_vret (pc := 5) rfl hf_N1_ (show ze N1_ (d_ + 28) 4 = 0 by first | with_reducible assumption | assumption | omega) (zdal_p dlA_Units_forget_60 (i := 3) rfl)
set_option maxHeartbeats 4000000 in
theorem u_Troupe_settleU (l : Launch) (d_ : Nat) (Mz : zMem) (hW : zKW d_ Mz) (P_ : Nat) (mv_ : List Nat) (hpm_ : ∀ g ∈ mv_, gpm g) (p0_ : zMvK mv_ P_ d_ Mz) (p1_ : zGg mv_ P_ d_ Mz) : zC l m_Troupe_settle 0 0 [.ref (d_ + 0)] Mz (zqcV d_ [] [] [(12, 6), (12, 7), (28, 4)] [5, 7, 9, 11, 14, 16, 20, 22, 25] Mz (fun N => (∃ T : zGT, T ∈ gTabs ∧ zTm mv_ T ∧ zKm (gF T).length (gmkI T) d_ N ∧ ze N (d_ + 1) 7 = gN T ∧ zTt T d_ N ∧ zGc mv_ P_ T d_ N ∧ zFir T d_ N ∧ zSbK T d_ N) ∧ ze N (d_ + 0) 6 = ze Mz (d_ + 0) 6 ∧ ze N (d_ + 28) 4 = 0)) := by
  refine zC_of (L0 := [some (.ref (d_ + 0))]) md_Troupe_settle (Nat.le_of_ble_eq_true rfl) rfl ?_ zQ0
  have hf : zFc d_ [] [] [(12, 6), (12, 7), (28, 4)] [5, 7, 9, 11, 14, 16, 20, 22, 25] Mz Mz := zFc.rf
  have r_D0_6 := ze_r Mz (d_ + 0) 6
  have r_D1_7 := ze_r Mz (d_ + 1) 7
  have r_D28_4 := ze_r Mz (d_ + 28) 4
  refine zw_aload_n (pc := 0) (n := 0) (x := (d_ + 0)) rfl (zdal_p dlA_Troupe_settle_27 (i := 0) rfl) ?_
  refine zw_getF (pc := 1) f_Troupe_12 rfl ((hf.w hW).kr (o := 0) (by decide)) ((hf.w hW).lr (o := 0) (s := 0) (r := 1) (by decide)) (zdal_p dlA_Troupe_settle_27 (i := 1) rfl) ?_
  refine zk_callV hf.x (pc := 4) [] [] l_Troupe_74 (u_Group_settleG l d_ Mz (hf.w hW) P_ mv_ hpm_ p0_ p1_) rfl rfl ((hf.w hW).kr (o := 1) (by decide)) (by decide) (by decide) (Nat.le_of_ble_eq_true rfl) (zdal_p dlA_Troupe_settle_27 (i := 2) rfl) ?_
  rintro _ N1_ ⟨rfl, hsN1_, hp0_N1_⟩
  replace hp0_N1_ : (∃ T : zGT, zTm mv_ T ∧ zTt T d_ N1_ ∧ zGc mv_ P_ T d_ N1_) := hp0_N1_
  have hf_N1_ : zFc d_ [] [] [(12, 6), (12, 7), (28, 4)] [5, 7, 9, 11, 14, 16, 20, 22, 25] Mz N1_ := hf.tr hsN1_ (by decide) (by decide) (by decide) (by decide)
  have eD0_6_N1_ : ze N1_ (d_ + 0) 6 = ze Mz (d_ + 0) 6 := hsN1_.e (by decide)
  have eD1_7_N1_ : ze N1_ (d_ + 1) 7 = ze Mz (d_ + 1) 7 := hsN1_.e (by decide)
  have eD28_4_N1_ : ze N1_ (d_ + 28) 4 = ze Mz (d_ + 28) 4 := hsN1_.e (by decide)
  have c3_ : zMvK mv_ P_ d_ N1_ := zMvK.fr (hf.w hW) hsN1_ p0_ (by decide)
  show zW l m_Troupe_settle (zn Mz + 0, zw Mz + 0) N1_ 7 [some (.ref (d_ + 0))] [] _
  obtain ⟨T_, hm_, htt_, hgc_⟩ := hp0_N1_
  have hT_ : T_ ∈ gTabs := by obtain ⟨c_, hc_⟩ := hm_; exact hc_.1
  obtain ⟨l_, Kp_, hol_⟩ := gTabs_ol T_ hT_
  refine zw_aload_n (pc := 7) (n := 0) (x := (d_ + 0)) rfl (zdal_p dlA_Troupe_settle_27 (i := 3) rfl) ?_
  refine zw_getF (pc := 8) f_Troupe_23 rfl ((hf_N1_.w hW).kr (o := 0) (by decide)) ((hf_N1_.w hW).lr (o := 0) (s := 1) (r := 12) (by decide)) (zdal_p dlA_Troupe_settle_27 (i := 4) rfl) ?_
  refine zk_callV hf_N1_.x (pc := 11) [] [] l_Troupe_77 (u_Sorts_settleG l d_ N1_ (hf_N1_.w hW) T_ hT_ l_ Kp_ hol_ (hm_.as hpm_) (hm_.gr hpm_) htt_) rfl rfl ((hf_N1_.w hW).kr (o := 12) (by decide)) (by decide) (by decide) (Nat.le_of_ble_eq_true rfl) (zdal_p dlA_Troupe_settle_27 (i := 5) rfl) ?_
  rintro _ N4_ ⟨rfl, hsN4_, ⟨hp0_N4_, hp1_N4_, hp2_N4_, hp3_N4_⟩⟩
  have hf_N4_ : zFc d_ [] [] [(12, 6), (12, 7), (28, 4)] [5, 7, 9, 11, 14, 16, 20, 22, 25] Mz N4_ := hf_N1_.tr hsN4_ (by decide) (by decide) (by decide) (by decide)
  have eD0_6_N4_ : ze N4_ (d_ + 0) 6 = ze N1_ (d_ + 0) 6 := hsN4_.e (by decide)
  have eD1_7_N4_ : ze N4_ (d_ + 1) 7 = ze N1_ (d_ + 1) 7 := hsN4_.e (by decide)
  have eD28_4_N4_ : ze N4_ (d_ + 28) 4 = ze N1_ (d_ + 28) 4 := hsN4_.e (by decide)
  have c6_ : zMvK mv_ P_ d_ N4_ := zMvK.fr (hf_N1_.w hW) hsN4_ c3_ (by decide)
  have c7_ : zTt T_ d_ N4_ := zTt.fr (hf_N1_.w hW) hsN4_ htt_ (by decide)
  have c8_ : zGc mv_ P_ T_ d_ N4_ := zGc.fr (hf_N1_.w hW) hsN4_ hgc_ (by decide)
  show zW l m_Troupe_settle (zn Mz + 0, zw Mz + 0) N4_ 14 [some (.ref (d_ + 0))] [] _
  have hkm_ := hp0_N4_
  have hfi_ := hp2_N4_
  have hsb_ := hp3_N4_
  refine zw_aload_n (pc := 14) (n := 0) (x := (d_ + 0)) rfl (zdal_p dlA_Troupe_settle_27 (i := 6) rfl) ?_
  refine zw_getF (pc := 15) f_Troupe_39 rfl ((hf_N4_.w hW).kr (o := 0) (by decide)) ((hf_N4_.w hW).lr (o := 0) (s := 3) (r := 28) (by decide)) (zdal_p dlA_Troupe_settle_27 (i := 7) rfl) ?_
  refine zk_callV hf_N4_.x (pc := 18) [] [] l_Troupe_78 (u_Units_forgetU l d_ N4_ (hf_N4_.w hW) ) rfl rfl ((hf_N4_.w hW).kr (o := 28) (by decide)) (by decide) (by decide) (Nat.le_of_ble_eq_true rfl) (zdal_p dlA_Troupe_settle_27 (i := 8) rfl) ?_
  rintro _ N9_ ⟨rfl, hsN9_, hp0_N9_⟩
  replace hp0_N9_ : ze N9_ (d_ + 28) 4 = 0 := hp0_N9_
  have hf_N9_ : zFc d_ [] [] [(12, 6), (12, 7), (28, 4)] [5, 7, 9, 11, 14, 16, 20, 22, 25] Mz N9_ := hf_N4_.tr hsN9_ (by decide) (by decide) (by decide) (by decide)
  have eD0_6_N9_ : ze N9_ (d_ + 0) 6 = ze N4_ (d_ + 0) 6 := hsN9_.e (by decide)
  have eD1_7_N9_ : ze N9_ (d_ + 1) 7 = ze N4_ (d_ + 1) 7 := hsN9_.e (by decide)
  have rD28_4_N9_ := ze_r N9_ (d_ + 28) 4
  have c11_ : zMvK mv_ P_ d_ N9_ := zMvK.fr (hf_N4_.w hW) hsN9_ c6_ (by decide)
  have c12_ : zTt T_ d_ N9_ := zTt.fr (hf_N4_.w hW) hsN9_ hp1_N4_ (by decide)
  have c13_ : zGc mv_ P_ T_ d_ N9_ := zGc.fr (hf_N4_.w hW) hsN9_ c8_ (by decide)
  have c14_ : zFir T_ d_ N9_ := zFir.fr (hf_N4_.w hW) hsN9_ hfi_ (by decide)
  have c15_ : zSbK T_ d_ N9_ := zSbK.fr (hf_N4_.w hW) hsN9_ hsb_ (by decide)
  have c16_ : zKm (gF T_).length (gmkI T_) d_ N9_ := zKm.fr (hf_N4_.w hW) hsN9_ hkm_ (by decide)
  show zW l m_Troupe_settle (zn Mz + 0, zw Mz + 0) N9_ 21 [some (.ref (d_ + 0))] [] _
  refine zw_aload_n (pc := 21) (n := 0) (x := (d_ + 0)) rfl (zdal_p dlA_Troupe_settle_27 (i := 9) rfl) ?_
  refine zw_getF (pc := 22) f_Troupe_32 rfl ((hf_N9_.w hW).kr (o := 0) (by decide)) ((hf_N9_.w hW).lr (o := 0) (s := 2) (r := 23) (by decide)) (zdal_p dlA_Troupe_settle_27 (i := 10) rfl) ?_
  refine zw_iconst (pc := 25) (v := Int32.ofInt 0) (by decide) (zdal_p dlA_Troupe_settle_27 (i := 11) rfl) ?_
  refine zw_iconst (pc := 26) (v := Int32.ofInt (-1)) (by decide) (zdal_p dlA_Troupe_settle_27 (i := 12) rfl) ?_
  refine zw_lconst (pc := 27) (v := Int64.ofInt 0) (by decide) (zdal_p dlA_Troupe_settle_27 (i := 13) rfl) ?_
  refine zk_callV hf_N9_.x (pc := 28) [.int (Int32.ofInt 0), .int (Int32.ofInt ((-1))), .long (Int64.ofInt 0)] [] l_Troupe_81 (u_Sums_putSingle l d_ N9_ (hf_N9_.w hW) 0 (by decide) (by decide) ((-1)) (by decide) (by decide) 0 (by decide) (by decide) (gF T_).length (gmkI T_) (gT_zTA hT_) c16_ (show 0 ≤ 0 by first | with_reducible assumption | assumption | omega) (show 0 ≤ 39 by first | with_reducible assumption | assumption | omega)) rfl rfl ((hf_N9_.w hW).kr (o := 23) (by decide)) (by decide) (by decide) (Nat.le_of_ble_eq_true rfl) (zdal_p dlA_Troupe_settle_27 (i := 14) rfl) ?_
  rintro _ N17_ ⟨rfl, hsN17_, hp0_N17_⟩
  replace hp0_N17_ : zSh (gF T_).length d_ N9_ N17_ 0 (zone ((-1)) 0) := hp0_N17_
  have hf_N17_ : zFc d_ [] [] [(12, 6), (12, 7), (28, 4)] [5, 7, 9, 11, 14, 16, 20, 22, 25] Mz N17_ := hf_N9_.tr hsN17_ (by decide) (by decide) (by decide) (by decide)
  have eD0_6_N17_ : ze N17_ (d_ + 0) 6 = ze N9_ (d_ + 0) 6 := hsN17_.e (by decide)
  have eD1_7_N17_ : ze N17_ (d_ + 1) 7 = ze N9_ (d_ + 1) 7 := hsN17_.e (by decide)
  have eD28_4_N17_ : ze N17_ (d_ + 28) 4 = ze N9_ (d_ + 28) 4 := hsN17_.e (by decide)
  have c19_ : zMvK mv_ P_ d_ N17_ := zMvK.fr (hf_N9_.w hW) hsN17_ c11_ (by decide)
  have c20_ : zTt T_ d_ N17_ := zTt.fr (hf_N9_.w hW) hsN17_ c12_ (by decide)
  have c21_ : zGc mv_ P_ T_ d_ N17_ := zGc.fr (hf_N9_.w hW) hsN17_ c13_ (by decide)
  have c22_ : zFir T_ d_ N17_ := zFir.fr (hf_N9_.w hW) hsN17_ c14_ (by decide)
  have c23_ : zSbK T_ d_ N17_ := zSbK.fr (hf_N9_.w hW) hsN17_ c15_ (by decide)
  have c24_ : zKm (gF T_).length (gmkI T_) d_ N17_ := zKm.fr (hf_N9_.w hW) hsN17_ c16_ (by decide)
  show zW l m_Troupe_settle (zn Mz + 0, zw Mz + 0) N17_ 31 [some (.ref (d_ + 0))] [] _
  exact zk_vret (pc := 31) rfl hf_N17_ ⟨(show (∃ T : zGT, T ∈ gTabs ∧ zTm mv_ T ∧ zKm (gF T).length (gmkI T) d_ N17_ ∧ ze N17_ (d_ + 1) 7 = gN T ∧ zTt T d_ N17_ ∧ zGc mv_ P_ T d_ N17_ ∧ zFir T d_ N17_ ∧ zSbK T d_ N17_) by exact ⟨T_, hT_, hm_, c24_, c20_.1, c20_, c21_, c22_, c23_⟩), (show ze N17_ (d_ + 0) 6 = ze Mz (d_ + 0) 6 by first | with_reducible assumption | assumption | omega), (show ze N17_ (d_ + 28) 4 = 0 by first | with_reducible assumption | assumption | omega)⟩ (zdal_p dlA_Troupe_settle_27 (i := 15) rfl)
set_option maxHeartbeats 4000000 in
theorem u_T_troupeU (l : Launch) (d_ : Nat) (Mz : zMem) (hW : zKW d_ Mz) (d2_ : Nat) (hdd_ : (d_ = 5 ∧ d2_ = 43) ∨ (d_ = 43 ∧ d2_ = 5)) (hnow : zf Mz 0 2 = some (d2_ + 0)) (hsp : zf Mz 0 3 = some (d_ + 0)) (b_ : Nat → Int) (n_ : Nat) (p0_ : zYb b_ n_ Mz) : zC l m_T_troupe 0 0 [.ref 0] Mz (zqTrU d_ d2_ b_ n_ Mz) := by
  refine zC_of (L0 := [some (.ref 0), none, none]) md_T_troupe (Nat.le_of_ble_eq_true rfl) rfl ?_ zQ0
  have hf : zFc d_ [(0, 2), (0, 3), (1, 1), (1, 2), (1, 3), (1, 4), (1, 5), (4, 1), (4, 2), (4, 3)] [] [(0, 6), (0, 7), (0, 8), (1, 5), (1, 6), (1, 7), (12, 6), (12, 7), (28, 4), (33, 2), (33, 3), (33, 4), (33, 5), (33, 6)] [3, 5, 7, 9, 11, 14, 16, 20, 22, 25, 27, 35, 37] Mz Mz := zFc.rf
  have r_A1_1 := ze_r Mz 1 1
  have r_A1_2 := ze_r Mz 1 2
  have r_D0_6 := ze_r Mz (d_ + 0) 6
  have r_D1_7 := ze_r Mz (d_ + 1) 7
  have r_D28_4 := ze_r Mz (d_ + 28) 4
  refine zw_aload_n (pc := 0) (n := 0) (x := 0) rfl (zdal_p dlA_T_troupe_67 (i := 0) rfl) ?_
  refine zw_getF (pc := 1) f_T_32 rfl ((hf.w hW).ka (o := 0) (by decide)) (hf.sp hsp) (zdal_p dlA_T_troupe_67 (i := 1) rfl) ?_
  refine zw_astore_n (pc := 4) (i := 1) (L2 := [some (.ref 0), some (.ref (d_ + 0)), none]) rfl (by decide) rfl (zdal_p dlA_T_troupe_67 (i := 2) rfl) ?_
  refine zw_aload_n (pc := 5) (n := 0) (x := 0) rfl (zdal_p dlA_T_troupe_67 (i := 3) rfl) ?_
  refine zw_getF (pc := 6) f_T_21 rfl ((hf.w hW).ka (o := 0) (by decide)) ((hf.w hW).la (o := 0) (s := 1) (r := 4) (by decide)) (zdal_p dlA_T_troupe_67 (i := 4) rfl) ?_
  refine zk_callV hf.x (pc := 9) [] [] l_T_49 (u_Reader_begin l d_ Mz (hf.w hW) b_ n_ p0_) rfl rfl ((hf.w hW).ka (o := 4) (by decide)) (by decide) (by decide) (Nat.le_of_ble_eq_true rfl) (zdal_p dlA_T_troupe_67 (i := 5) rfl) ?_
  rintro _ N1_ ⟨rfl, hsN1_, ⟨hp0_N1_, hp1_N1_⟩⟩
  have hf_N1_ : zFc d_ [(0, 2), (0, 3), (1, 1), (1, 2), (1, 3), (1, 4), (1, 5), (4, 1), (4, 2), (4, 3)] [] [(0, 6), (0, 7), (0, 8), (1, 5), (1, 6), (1, 7), (12, 6), (12, 7), (28, 4), (33, 2), (33, 3), (33, 4), (33, 5), (33, 6)] [3, 5, 7, 9, 11, 14, 16, 20, 22, 25, 27, 35, 37] Mz N1_ := hf.tr hsN1_ (by decide) (by decide) (by decide) (by decide)
  have eA1_1_N1_ : ze N1_ 1 1 = ze Mz 1 1 := hsN1_.ea (hf.w hW) (by decide)
  have rA1_2_N1_ := ze_r N1_ 1 2
  have eD0_6_N1_ : ze N1_ (d_ + 0) 6 = ze Mz (d_ + 0) 6 := hsN1_.e (by decide)
  have eD1_7_N1_ : ze N1_ (d_ + 1) 7 = ze Mz (d_ + 1) 7 := hsN1_.e (by decide)
  have eD28_4_N1_ : ze N1_ (d_ + 28) 4 = ze Mz (d_ + 28) 4 := hsN1_.e (by decide)
  have c3_ : zYb b_ n_ N1_ := zYb.fr (hf.w hW) hsN1_ p0_ (by decide)
  show zW l m_T_troupe (zn Mz + 0, zw Mz + 0) N1_ 12 [some (.ref 0), some (.ref (d_ + 0)), none] [] (zqTrU d_ d2_ b_ n_ Mz)
  have hs0_ : (ze N1_ 1 2).toNat = (zru zpB b_ n_ 0) := by have h0_ := hp0_N1_; omega
  refine zw_aload_n (pc := 12) (n := 0) (x := 0) rfl (zdal_p dlA_T_troupe_67 (i := 6) rfl) ?_
  refine zw_getF (pc := 13) f_T_21 rfl ((hf_N1_.w hW).ka (o := 0) (by decide)) ((hf_N1_.w hW).la (o := 0) (s := 1) (r := 4) (by decide)) (zdal_p dlA_T_troupe_67 (i := 7) rfl) ?_
  refine zw_aload_n (pc := 16) (n := 1) (x := (d_ + 0)) rfl (zdal_p dlA_T_troupe_67 (i := 8) rfl) ?_
  refine zk_callV hf_N1_.x (pc := 17) [.ref (d_ + 0)] [] l_T_51 (u_Reader_readPlaces l d_ N1_ (hf_N1_.w hW) b_ n_ c3_ hp1_N1_) rfl rfl ((hf_N1_.w hW).ka (o := 4) (by decide)) (by decide) (by decide) (Nat.le_of_ble_eq_true rfl) (zdal_p dlA_T_troupe_67 (i := 9) rfl) ?_
  rintro _ N4_ ⟨v5_, rfl, ⟨hv5_a, hv5_b⟩, hsN4_, ⟨hp0_N4_, hp1_N4_⟩⟩
  have hf_N4_ : zFc d_ [(0, 2), (0, 3), (1, 1), (1, 2), (1, 3), (1, 4), (1, 5), (4, 1), (4, 2), (4, 3)] [] [(0, 6), (0, 7), (0, 8), (1, 5), (1, 6), (1, 7), (12, 6), (12, 7), (28, 4), (33, 2), (33, 3), (33, 4), (33, 5), (33, 6)] [3, 5, 7, 9, 11, 14, 16, 20, 22, 25, 27, 35, 37] Mz N4_ := hf_N1_.tr hsN4_ (by decide) (by decide) (by decide) (by decide)
  have eA1_1_N4_ : ze N4_ 1 1 = ze N1_ 1 1 := hsN4_.ea (hf_N1_.w hW) (by decide)
  have rA1_2_N4_ := ze_r N4_ 1 2
  have rD0_6_N4_ := ze_r N4_ (d_ + 0) 6
  have rD1_7_N4_ := ze_r N4_ (d_ + 1) 7
  have eD28_4_N4_ : ze N4_ (d_ + 28) 4 = ze N1_ (d_ + 28) 4 := hsN4_.e (by decide)
  have c6_ : zYb b_ n_ N4_ := zYb.fr (hf_N1_.w hW) hsN4_ c3_ (by decide)
  rcases hp1_N4_ with ⟨rfl, ha17_0_hp1_N4_, ha17_1_hp1_N4_⟩ | ⟨rfl, ha17_0_hp1_N4_⟩
  · skip
    obtain ⟨P_, hHd_, hmv0_, hgg0_⟩ := id ha17_0_hp1_N4_
    have h60_ := ha17_1_hp1_N4_
    rw [hs0_] at hHd_
    show zW l m_T_troupe (zn Mz + 0, zw Mz + 0) N4_ 20 [some (.ref 0), some (.ref (d_ + 0)), none] [.int (Int32.ofInt 1)] (zqTrU d_ d2_ b_ n_ Mz)
    refine zr_if_eq (pc := 20) (tgt := 38) ⟨(by decide), (by decide)⟩ (by decide) (zdal_p dlA_T_troupe_67 (i := 10) rfl) (fun hc_20 => ?_) (fun hc_20 => ?_)
    · skip
      exact absurd hc_20 (by decide)
    · skip
      refine zw_aload_n (pc := 23) (n := 0) (x := 0) rfl (zdal_p dlA_T_troupe_67 (i := 11) rfl) ?_
      refine zw_getF (pc := 24) f_T_21 rfl ((hf_N4_.w hW).ka (o := 0) (by decide)) ((hf_N4_.w hW).la (o := 0) (s := 1) (r := 4) (by decide)) (zdal_p dlA_T_troupe_67 (i := 12) rfl) ?_
      refine zw_aload_n (pc := 27) (n := 1) (x := (d_ + 0)) rfl (zdal_p dlA_T_troupe_67 (i := 13) rfl) ?_
      refine zk_callV hf_N4_.x (pc := 28) [.ref (d_ + 0)] [] l_T_55 (u_Reader_readMoves l d_ N4_ (hf_N4_.w hW) b_ n_ P_ c6_ hp0_N4_ hmv0_ hgg0_) rfl rfl ((hf_N4_.w hW).ka (o := 4) (by decide)) (by decide) (by decide) (Nat.le_of_ble_eq_true rfl) (zdal_p dlA_T_troupe_67 (i := 14) rfl) ?_
      rintro _ N7_ ⟨v8_, rfl, ⟨hv8_a, hv8_b⟩, hsN7_, ⟨hp0_N7_, hp1_N7_⟩⟩
      have hf_N7_ : zFc d_ [(0, 2), (0, 3), (1, 1), (1, 2), (1, 3), (1, 4), (1, 5), (4, 1), (4, 2), (4, 3)] [] [(0, 6), (0, 7), (0, 8), (1, 5), (1, 6), (1, 7), (12, 6), (12, 7), (28, 4), (33, 2), (33, 3), (33, 4), (33, 5), (33, 6)] [3, 5, 7, 9, 11, 14, 16, 20, 22, 25, 27, 35, 37] Mz N7_ := hf_N4_.tr hsN7_ (by decide) (by decide) (by decide) (by decide)
      have eA1_1_N7_ : ze N7_ 1 1 = ze N4_ 1 1 := hsN7_.ea (hf_N4_.w hW) (by decide)
      have rA1_2_N7_ := ze_r N7_ 1 2
      have eD0_6_N7_ : ze N7_ (d_ + 0) 6 = ze N4_ (d_ + 0) 6 := hsN7_.e (by decide)
      have rD1_7_N7_ := ze_r N7_ (d_ + 1) 7
      have eD28_4_N7_ : ze N7_ (d_ + 28) 4 = ze N4_ (d_ + 28) 4 := hsN7_.e (by decide)
      have c9_ : zYb b_ n_ N7_ := zYb.fr (hf_N4_.w hW) hsN7_ c6_ (by decide)
      rcases hp1_N7_ with ⟨rfl, ha28_0_hp1_N7_⟩ | ⟨rfl, ha28_0_hp1_N7_⟩
      · skip
        obtain ⟨mv_, hrb_, hmv_, hgg_, hpm_⟩ := id ha28_0_hp1_N7_
        show zW l m_T_troupe (zn Mz + 0, zw Mz + 0) N7_ 31 [some (.ref 0), some (.ref (d_ + 0)), none] [.int (Int32.ofInt 1)] (zqTrU d_ d2_ b_ n_ Mz)
        refine zr_if_eq (pc := 31) (tgt := 38) ⟨(by decide), (by decide)⟩ (by decide) (zdal_p dlA_T_troupe_67 (i := 15) rfl) (fun hc_31 => ?_) (fun hc_31 => ?_)
        · skip
          exact absurd hc_31 (by decide)
        · skip
          refine zw_iconst (pc := 34) (v := Int32.ofInt 1) (by decide) (zdal_p dlA_T_troupe_67 (i := 16) rfl) ?_
          refine zw_goto (pc := 35) (tgt := 39) (by decide) (zdal_p dlA_T_troupe_67 (i := 17) rfl) ?_
          refine zw_istore_n (pc := 39) (i := 2) (L2 := [some (.ref 0), some (.ref (d_ + 0)), some (.int (Int32.ofInt 1))]) rfl (by decide) rfl (zdal_p dlA_T_troupe_67 (i := 19) rfl) ?_
          refine zw_iload_n (pc := 40) (n := 2) (x := Int32.ofInt 1) rfl (zdal_p dlA_T_troupe_67 (i := 20) rfl) ?_
          refine zr_if_eq (pc := 41) (tgt := 57) ⟨(by decide), (by decide)⟩ (by decide) (zdal_p dlA_T_troupe_67 (i := 21) rfl) (fun hc_41 => ?_) (fun hc_41 => ?_)
          · skip
            exact absurd hc_41 (by decide)
          · skip
            refine zw_aload_n (pc := 44) (n := 1) (x := (d_ + 0)) rfl (zdal_p dlA_T_troupe_67 (i := 22) rfl) ?_
            refine zk_callV hf_N7_.x (pc := 45) [] [] l_T_39 (u_Troupe_settleU l d_ N7_ (hf_N7_.w hW) P_ mv_ hpm_ hmv_ hgg_) rfl rfl ((hf_N7_.w hW).kr (o := 0) (by decide)) (by decide) (by decide) (Nat.le_of_ble_eq_true rfl) (zdal_p dlA_T_troupe_67 (i := 23) rfl) ?_
            rintro _ N10_ ⟨rfl, hsN10_, ⟨hp0_N10_, hp1_N10_, hp2_N10_⟩⟩
            have hf_N10_ : zFc d_ [(0, 2), (0, 3), (1, 1), (1, 2), (1, 3), (1, 4), (1, 5), (4, 1), (4, 2), (4, 3)] [] [(0, 6), (0, 7), (0, 8), (1, 5), (1, 6), (1, 7), (12, 6), (12, 7), (28, 4), (33, 2), (33, 3), (33, 4), (33, 5), (33, 6)] [3, 5, 7, 9, 11, 14, 16, 20, 22, 25, 27, 35, 37] Mz N10_ := hf_N7_.tr hsN10_ (by decide) (by decide) (by decide) (by decide)
            have eA1_1_N10_ : ze N10_ 1 1 = ze N7_ 1 1 := hsN10_.ea (hf_N7_.w hW) (by decide)
            have eA1_2_N10_ : ze N10_ 1 2 = ze N7_ 1 2 := hsN10_.ea (hf_N7_.w hW) (by decide)
            have eD0_6_N10_ : ze N10_ (d_ + 0) 6 = ze N7_ (d_ + 0) 6 := hsN10_.e (by decide)
            have eD1_7_N10_ : ze N10_ (d_ + 1) 7 = ze N7_ (d_ + 1) 7 := hsN10_.e (by decide)
            have rD28_4_N10_ := ze_r N10_ (d_ + 28) 4
            have c12_ : zYb b_ n_ N10_ := zYb.fr (hf_N7_.w hW) hsN10_ c9_ (by decide)
            have c13_ : zYt b_ n_ N10_ := zYt.fr (hf_N7_.w hW) hsN10_ hp0_N7_ (by decide)
            have c14_ : zMvK mv_ P_ d_ N10_ := zMvK.fr (hf_N7_.w hW) hsN10_ hmv_ (by decide)
            show zW l m_T_troupe (zn Mz + 0, zw Mz + 0) N10_ 48 [some (.ref 0), some (.ref (d_ + 0)), some (.int (Int32.ofInt 1))] [] (zqTrU d_ d2_ b_ n_ Mz)
            obtain ⟨T_, hT_, hTm_, hKm_, h7_, htt_, hgc_, hfi_, hsb_⟩ := id hp0_N10_
            have h61_ := hp1_N10_
            have hnm0_ : zNm [] (gF T_).length (gmkI T_) d_ N10_ := zNm_z (by omega)
            have h28_ := hp2_N10_
            refine zw_aload_n (pc := 48) (n := 0) (x := 0) rfl (zdal_p dlA_T_troupe_68 (i := 0) rfl) ?_
            refine zw_getF (pc := 49) f_T_21 rfl ((hf_N10_.w hW).ka (o := 0) (by decide)) ((hf_N10_.w hW).la (o := 0) (s := 1) (r := 4) (by decide)) (zdal_p dlA_T_troupe_68 (i := 1) rfl) ?_
            refine zw_aload_n (pc := 52) (n := 1) (x := (d_ + 0)) rfl (zdal_p dlA_T_troupe_68 (i := 2) rfl) ?_
            refine zk_callV hf_N10_.x (pc := 53) [.ref (d_ + 0)] [] l_T_58 (u_Reader_readLets l d_ N10_ (hf_N10_.w hW) b_ n_ (gF T_).length (gmkI T_) (gT_zTA hT_) [] c12_ c13_ hKm_ hnm0_) rfl rfl ((hf_N10_.w hW).ka (o := 4) (by decide)) (by decide) (by decide) (Nat.le_of_ble_eq_true rfl) (zdal_p dlA_T_troupe_68 (i := 3) rfl) ?_
            rintro _ N15_ ⟨v16_, rfl, ⟨hv16_a, hv16_b⟩, hsN15_, hp0_N15_⟩
            replace hp0_N15_ : ((v16_ = 1 ∧ (∃ q nm, zRg (zls b_ n_ (gF T_).length (gmkI T_)) (0, (ze N10_ 1 2).toNat, []) (1, q, nm))) ∨ (v16_ = 0 ∧ zRg (zls b_ n_ (gF T_).length (gmkI T_)) (0, (ze N10_ 1 2).toNat, []) zLf)) := hp0_N15_
            have hf_N15_ : zFc d_ [(0, 2), (0, 3), (1, 1), (1, 2), (1, 3), (1, 4), (1, 5), (4, 1), (4, 2), (4, 3)] [] [(0, 6), (0, 7), (0, 8), (1, 5), (1, 6), (1, 7), (12, 6), (12, 7), (28, 4), (33, 2), (33, 3), (33, 4), (33, 5), (33, 6)] [3, 5, 7, 9, 11, 14, 16, 20, 22, 25, 27, 35, 37] Mz N15_ := hf_N10_.tr hsN15_ (by decide) (by decide) (by decide) (by decide)
            have eA1_1_N15_ : ze N15_ 1 1 = ze N10_ 1 1 := hsN15_.ea (hf_N10_.w hW) (by decide)
            have rA1_2_N15_ := ze_r N15_ 1 2
            have rD0_6_N15_ := ze_r N15_ (d_ + 0) 6
            have eD1_7_N15_ : ze N15_ (d_ + 1) 7 = ze N10_ (d_ + 1) 7 := hsN15_.e (by decide)
            have eD28_4_N15_ : ze N15_ (d_ + 28) 4 = ze N10_ (d_ + 28) 4 := hsN15_.e (by decide)
            have c17_ : zYb b_ n_ N15_ := zYb.fr (hf_N10_.w hW) hsN15_ c12_ (by decide)
            have c18_ : zMvK mv_ P_ d_ N15_ := zMvK.fr (hf_N10_.w hW) hsN15_ c14_ (by decide)
            have c19_ : zSbK T_ d_ N15_ := zSbK.fr (hf_N10_.w hW) hsN15_ hsb_ (by decide)
            have c20_ : zTt T_ d_ N15_ := zTt.fr (hf_N10_.w hW) hsN15_ htt_ (by decide)
            have c21_ : zGc mv_ P_ T_ d_ N15_ := zGc.fr (hf_N10_.w hW) hsN15_ hgc_ (by decide)
            have c22_ : zFir T_ d_ N15_ := zFir.fr (hf_N10_.w hW) hsN15_ hfi_ (by decide)
            have c23_ : zKm (gF T_).length (gmkI T_) d_ N15_ := zKm.fr (hf_N10_.w hW) hsN15_ hKm_ (by decide)
            rcases hp0_N15_ with ⟨rfl, ha53_0_hp0_N15_⟩ | ⟨rfl, ha53_0_hp0_N15_⟩
            · skip
              obtain ⟨q3_, nm3_, hrl_⟩ := id ha53_0_hp0_N15_
              rw [show ze N10_ 1 2 = ze N7_ 1 2 by omega] at hrl_
              have hG_ : zTrP b_ n_ (zru zpB b_ n_ 0) P_ mv_ T_ := ⟨_, _, q3_, nm3_, hHd_, hrb_, hT_, hTm_, hrl_⟩
              show zW l m_T_troupe (zn Mz + 0, zw Mz + 0) N15_ 56 [some (.ref 0), some (.ref (d_ + 0)), some (.int (Int32.ofInt 1))] [.int (Int32.ofInt 1)] (zqTrU d_ d2_ b_ n_ Mz)
              refine zw_istore_n (pc := 56) (i := 2) (L2 := [some (.ref 0), some (.ref (d_ + 0)), some (.int (Int32.ofInt 1))]) rfl (by decide) rfl (zdal_p dlA_T_troupe_68 (i := 4) rfl) ?_
              refine zw_aload_n (pc := 57) (n := 0) (x := 0) rfl (zdal_p dlA_T_troupe_68 (i := 5) rfl) ?_
              refine zw_getF (pc := 58) f_T_10 rfl ((hf_N15_.w hW).ka (o := 0) (by decide)) ((hf_N15_.w hW).la (o := 0) (s := 0) (r := 1) (by decide)) (zdal_p dlA_T_troupe_68 (i := 6) rfl) ?_
              refine zw_iconst (pc := 61) (v := Int32.ofInt 0) (by decide) (zdal_p dlA_T_troupe_68 (i := 7) rfl) ?_
              refine zk_putA (pc := 62) (hf_N15_.w hW) (by decide) f_T_42 rfl rfl ((hf_N15_.w hW).ka (o := 1) (by decide)) ⟨by omega, by omega⟩ rfl rfl (zdal_p dlA_T_troupe_68 (i := 8) rfl) (fun N24_ hsN24_ hvN24_ => ?_)
              have hf_N24_ : zFc d_ [(0, 2), (0, 3), (1, 1), (1, 2), (1, 3), (1, 4), (1, 5), (4, 1), (4, 2), (4, 3)] [] [(0, 6), (0, 7), (0, 8), (1, 5), (1, 6), (1, 7), (12, 6), (12, 7), (28, 4), (33, 2), (33, 3), (33, 4), (33, 5), (33, 6)] [3, 5, 7, 9, 11, 14, 16, 20, 22, 25, 27, 35, 37] Mz N24_ := hf_N15_.tr hsN24_ (by decide) (by decide) (by decide) (by decide)
              have rA1_1_N24_ := ze_r N24_ 1 1
              have eA1_2_N24_ : ze N24_ 1 2 = ze N15_ 1 2 := hsN24_.ea (hf_N15_.w hW) (by decide)
              have eD0_6_N24_ : ze N24_ (d_ + 0) 6 = ze N15_ (d_ + 0) 6 := hsN24_.e (by decide)
              have eD1_7_N24_ : ze N24_ (d_ + 1) 7 = ze N15_ (d_ + 1) 7 := hsN24_.e (by decide)
              have eD28_4_N24_ : ze N24_ (d_ + 28) 4 = ze N15_ (d_ + 28) 4 := hsN24_.e (by decide)
              have c25_ : zMvK mv_ P_ d_ N24_ := zMvK.fr (hf_N15_.w hW) hsN24_ c18_ (by decide)
              have c26_ : zSbK T_ d_ N24_ := zSbK.fr (hf_N15_.w hW) hsN24_ c19_ (by decide)
              have c27_ : zTt T_ d_ N24_ := zTt.fr (hf_N15_.w hW) hsN24_ c20_ (by decide)
              have c28_ : zGc mv_ P_ T_ d_ N24_ := zGc.fr (hf_N15_.w hW) hsN24_ c21_ (by decide)
              have c29_ : zFir T_ d_ N24_ := zFir.fr (hf_N15_.w hW) hsN24_ c22_ (by decide)
              have c30_ : zKm (gF T_).length (gmkI T_) d_ N24_ := zKm.fr (hf_N15_.w hW) hsN24_ c23_ (by decide)
              refine zw_iload_n (pc := 65) (n := 2) (x := Int32.ofInt 1) rfl (zdal_p dlA_T_troupe_68 (i := 9) rfl) ?_
              refine zr_if_ne (pc := 66) (tgt := 71) ⟨(by decide), (by decide)⟩ (by decide) (zdal_p dlA_T_troupe_68 (i := 10) rfl) (fun hc_66 => ?_) (fun hc_66 => ?_)
              · skip
                have h10_ : ze N24_ 1 1 = 0 := by omega
                have hks_ : zKS P_ mv_ T_ d_ N24_ := ⟨c25_, c28_, c27_, c29_, c30_, c26_⟩
                have h284_ : ze N24_ (d_ + 28) 4 = 0 := by omega
                exact zk_swapU hf_N24_ hW hnow (by decide) h10_ hG_ ⟨hks_, h284_⟩
              · skip
                exact absurd hc_66 (by decide)
            · skip
              have hrl_ := ha53_0_hp0_N15_
              rw [show ze N10_ 1 2 = ze N7_ 1 2 by omega] at hrl_
              have hB_ : zTrB b_ n_ (zru zpB b_ n_ 0) := Or.inr (Or.inr ⟨P_, _, _, mv_, T_, hHd_, hrb_, hT_, hTm_, hrl_⟩)
              show zW l m_T_troupe (zn Mz + 0, zw Mz + 0) N15_ 56 [some (.ref 0), some (.ref (d_ + 0)), some (.int (Int32.ofInt 1))] [.int (Int32.ofInt 0)] (zqTrU d_ d2_ b_ n_ Mz)
              refine zw_istore_n (pc := 56) (i := 2) (L2 := [some (.ref 0), some (.ref (d_ + 0)), some (.int (Int32.ofInt 0))]) rfl (by decide) rfl (zdal_p dlA_T_troupe_68 (i := 4) rfl) ?_
              refine zw_aload_n (pc := 57) (n := 0) (x := 0) rfl (zdal_p dlA_T_troupe_68 (i := 5) rfl) ?_
              refine zw_getF (pc := 58) f_T_10 rfl ((hf_N15_.w hW).ka (o := 0) (by decide)) ((hf_N15_.w hW).la (o := 0) (s := 0) (r := 1) (by decide)) (zdal_p dlA_T_troupe_68 (i := 6) rfl) ?_
              refine zw_iconst (pc := 61) (v := Int32.ofInt 0) (by decide) (zdal_p dlA_T_troupe_68 (i := 7) rfl) ?_
              refine zk_putA (pc := 62) (hf_N15_.w hW) (by decide) f_T_42 rfl rfl ((hf_N15_.w hW).ka (o := 1) (by decide)) ⟨by omega, by omega⟩ rfl rfl (zdal_p dlA_T_troupe_68 (i := 8) rfl) (fun N31_ hsN31_ hvN31_ => ?_)
              have hf_N31_ : zFc d_ [(0, 2), (0, 3), (1, 1), (1, 2), (1, 3), (1, 4), (1, 5), (4, 1), (4, 2), (4, 3)] [] [(0, 6), (0, 7), (0, 8), (1, 5), (1, 6), (1, 7), (12, 6), (12, 7), (28, 4), (33, 2), (33, 3), (33, 4), (33, 5), (33, 6)] [3, 5, 7, 9, 11, 14, 16, 20, 22, 25, 27, 35, 37] Mz N31_ := hf_N15_.tr hsN31_ (by decide) (by decide) (by decide) (by decide)
              have rA1_1_N31_ := ze_r N31_ 1 1
              have eA1_2_N31_ : ze N31_ 1 2 = ze N15_ 1 2 := hsN31_.ea (hf_N15_.w hW) (by decide)
              have eD0_6_N31_ : ze N31_ (d_ + 0) 6 = ze N15_ (d_ + 0) 6 := hsN31_.e (by decide)
              have eD1_7_N31_ : ze N31_ (d_ + 1) 7 = ze N15_ (d_ + 1) 7 := hsN31_.e (by decide)
              have eD28_4_N31_ : ze N31_ (d_ + 28) 4 = ze N15_ (d_ + 28) 4 := hsN31_.e (by decide)
              have c32_ : zMvK mv_ P_ d_ N31_ := zMvK.fr (hf_N15_.w hW) hsN31_ c18_ (by decide)
              have c33_ : zSbK T_ d_ N31_ := zSbK.fr (hf_N15_.w hW) hsN31_ c19_ (by decide)
              have c34_ : zTt T_ d_ N31_ := zTt.fr (hf_N15_.w hW) hsN31_ c20_ (by decide)
              have c35_ : zGc mv_ P_ T_ d_ N31_ := zGc.fr (hf_N15_.w hW) hsN31_ c21_ (by decide)
              have c36_ : zFir T_ d_ N31_ := zFir.fr (hf_N15_.w hW) hsN31_ c22_ (by decide)
              have c37_ : zKm (gF T_).length (gmkI T_) d_ N31_ := zKm.fr (hf_N15_.w hW) hsN31_ c23_ (by decide)
              refine zw_iload_n (pc := 65) (n := 2) (x := Int32.ofInt 0) rfl (zdal_p dlA_T_troupe_68 (i := 9) rfl) ?_
              refine zr_if_ne (pc := 66) (tgt := 71) ⟨(by decide), (by decide)⟩ (by decide) (zdal_p dlA_T_troupe_68 (i := 10) rfl) (fun hc_66 => ?_) (fun hc_66 => ?_)
              · skip
                exact absurd hc_66 (by decide)
              · skip
                have h10_ : ze N31_ 1 1 = 0 := by omega
                refine zw_iconst (pc := 69) (v := Int32.ofInt (-1)) (by decide) (zdal_p dlA_T_troupe_68 (i := 11) rfl) ?_
                exact zw_iret (S := []) (pc := 70) (ty := .int) rfl rfl (zdal_p dlA_T_troupe_68 (i := 12) rfl) ⟨-1, rfl, ⟨by decide, by decide⟩, h10_, zSwp_0 hf_N31_ hW (by decide), Or.inl ⟨rfl, hB_, hf_N31_.2.2.1, hf_N31_.ot hdd_ (by decide)⟩⟩
      · skip
        have hB_ : zTrB b_ n_ (zru zpB b_ n_ 0) := Or.inr (Or.inl ⟨P_, _, hHd_, ha28_0_hp1_N7_⟩)
        show zW l m_T_troupe (zn Mz + 0, zw Mz + 0) N7_ 31 [some (.ref 0), some (.ref (d_ + 0)), none] [.int (Int32.ofInt 0)] (zqTrU d_ d2_ b_ n_ Mz)
        refine zr_if_eq (pc := 31) (tgt := 38) ⟨(by decide), (by decide)⟩ (by decide) (zdal_p dlA_T_troupe_67 (i := 15) rfl) (fun hc_31 => ?_) (fun hc_31 => ?_)
        · skip
          refine zw_iconst (pc := 38) (v := Int32.ofInt 0) (by decide) (zdal_p dlA_T_troupe_67 (i := 18) rfl) ?_
          refine zw_istore_n (pc := 39) (i := 2) (L2 := [some (.ref 0), some (.ref (d_ + 0)), some (.int (Int32.ofInt 0))]) rfl (by decide) rfl (zdal_p dlA_T_troupe_67 (i := 19) rfl) ?_
          refine zw_iload_n (pc := 40) (n := 2) (x := Int32.ofInt 0) rfl (zdal_p dlA_T_troupe_67 (i := 20) rfl) ?_
          refine zr_if_eq (pc := 41) (tgt := 57) ⟨(by decide), (by decide)⟩ (by decide) (zdal_p dlA_T_troupe_67 (i := 21) rfl) (fun hc_41 => ?_) (fun hc_41 => ?_)
          · skip
            refine zw_aload_n (pc := 57) (n := 0) (x := 0) rfl (zdal_p dlA_T_troupe_68 (i := 5) rfl) ?_
            refine zw_getF (pc := 58) f_T_10 rfl ((hf_N7_.w hW).ka (o := 0) (by decide)) ((hf_N7_.w hW).la (o := 0) (s := 0) (r := 1) (by decide)) (zdal_p dlA_T_troupe_68 (i := 6) rfl) ?_
            refine zw_iconst (pc := 61) (v := Int32.ofInt 0) (by decide) (zdal_p dlA_T_troupe_68 (i := 7) rfl) ?_
            refine zk_putA (pc := 62) (hf_N7_.w hW) (by decide) f_T_42 rfl rfl ((hf_N7_.w hW).ka (o := 1) (by decide)) ⟨by omega, by omega⟩ rfl rfl (zdal_p dlA_T_troupe_68 (i := 8) rfl) (fun N38_ hsN38_ hvN38_ => ?_)
            have hf_N38_ : zFc d_ [(0, 2), (0, 3), (1, 1), (1, 2), (1, 3), (1, 4), (1, 5), (4, 1), (4, 2), (4, 3)] [] [(0, 6), (0, 7), (0, 8), (1, 5), (1, 6), (1, 7), (12, 6), (12, 7), (28, 4), (33, 2), (33, 3), (33, 4), (33, 5), (33, 6)] [3, 5, 7, 9, 11, 14, 16, 20, 22, 25, 27, 35, 37] Mz N38_ := hf_N7_.tr hsN38_ (by decide) (by decide) (by decide) (by decide)
            have rA1_1_N38_ := ze_r N38_ 1 1
            have eA1_2_N38_ : ze N38_ 1 2 = ze N7_ 1 2 := hsN38_.ea (hf_N7_.w hW) (by decide)
            have eD0_6_N38_ : ze N38_ (d_ + 0) 6 = ze N7_ (d_ + 0) 6 := hsN38_.e (by decide)
            have eD1_7_N38_ : ze N38_ (d_ + 1) 7 = ze N7_ (d_ + 1) 7 := hsN38_.e (by decide)
            have eD28_4_N38_ : ze N38_ (d_ + 28) 4 = ze N7_ (d_ + 28) 4 := hsN38_.e (by decide)
            have c39_ : zYt b_ n_ N38_ := zYt.fr (hf_N7_.w hW) hsN38_ hp0_N7_ (by decide)
            refine zw_iload_n (pc := 65) (n := 2) (x := Int32.ofInt 0) rfl (zdal_p dlA_T_troupe_68 (i := 9) rfl) ?_
            refine zr_if_ne (pc := 66) (tgt := 71) ⟨(by decide), (by decide)⟩ (by decide) (zdal_p dlA_T_troupe_68 (i := 10) rfl) (fun hc_66 => ?_) (fun hc_66 => ?_)
            · skip
              exact absurd hc_66 (by decide)
            · skip
              have h10_ : ze N38_ 1 1 = 0 := by omega
              refine zw_iconst (pc := 69) (v := Int32.ofInt (-1)) (by decide) (zdal_p dlA_T_troupe_68 (i := 11) rfl) ?_
              exact zw_iret (S := []) (pc := 70) (ty := .int) rfl rfl (zdal_p dlA_T_troupe_68 (i := 12) rfl) ⟨-1, rfl, ⟨by decide, by decide⟩, h10_, zSwp_0 hf_N38_ hW (by decide), Or.inl ⟨rfl, hB_, hf_N38_.2.2.1, hf_N38_.ot hdd_ (by decide)⟩⟩
          · skip
            exact absurd hc_41 (by decide)
        · skip
          exact absurd hc_31 (by decide)
  · skip
    have hB_ : zTrB b_ n_ (zru zpB b_ n_ 0) := by have h1_ := ha17_0_hp1_N4_; rw [hs0_] at h1_; exact Or.inl h1_
    show zW l m_T_troupe (zn Mz + 0, zw Mz + 0) N4_ 20 [some (.ref 0), some (.ref (d_ + 0)), none] [.int (Int32.ofInt 0)] (zqTrU d_ d2_ b_ n_ Mz)
    refine zr_if_eq (pc := 20) (tgt := 38) ⟨(by decide), (by decide)⟩ (by decide) (zdal_p dlA_T_troupe_67 (i := 10) rfl) (fun hc_20 => ?_) (fun hc_20 => ?_)
    · skip
      refine zw_iconst (pc := 38) (v := Int32.ofInt 0) (by decide) (zdal_p dlA_T_troupe_67 (i := 18) rfl) ?_
      refine zw_istore_n (pc := 39) (i := 2) (L2 := [some (.ref 0), some (.ref (d_ + 0)), some (.int (Int32.ofInt 0))]) rfl (by decide) rfl (zdal_p dlA_T_troupe_67 (i := 19) rfl) ?_
      refine zw_iload_n (pc := 40) (n := 2) (x := Int32.ofInt 0) rfl (zdal_p dlA_T_troupe_67 (i := 20) rfl) ?_
      refine zr_if_eq (pc := 41) (tgt := 57) ⟨(by decide), (by decide)⟩ (by decide) (zdal_p dlA_T_troupe_67 (i := 21) rfl) (fun hc_41 => ?_) (fun hc_41 => ?_)
      · skip
        refine zw_aload_n (pc := 57) (n := 0) (x := 0) rfl (zdal_p dlA_T_troupe_68 (i := 5) rfl) ?_
        refine zw_getF (pc := 58) f_T_10 rfl ((hf_N4_.w hW).ka (o := 0) (by decide)) ((hf_N4_.w hW).la (o := 0) (s := 0) (r := 1) (by decide)) (zdal_p dlA_T_troupe_68 (i := 6) rfl) ?_
        refine zw_iconst (pc := 61) (v := Int32.ofInt 0) (by decide) (zdal_p dlA_T_troupe_68 (i := 7) rfl) ?_
        refine zk_putA (pc := 62) (hf_N4_.w hW) (by decide) f_T_42 rfl rfl ((hf_N4_.w hW).ka (o := 1) (by decide)) ⟨by omega, by omega⟩ rfl rfl (zdal_p dlA_T_troupe_68 (i := 8) rfl) (fun N40_ hsN40_ hvN40_ => ?_)
        have hf_N40_ : zFc d_ [(0, 2), (0, 3), (1, 1), (1, 2), (1, 3), (1, 4), (1, 5), (4, 1), (4, 2), (4, 3)] [] [(0, 6), (0, 7), (0, 8), (1, 5), (1, 6), (1, 7), (12, 6), (12, 7), (28, 4), (33, 2), (33, 3), (33, 4), (33, 5), (33, 6)] [3, 5, 7, 9, 11, 14, 16, 20, 22, 25, 27, 35, 37] Mz N40_ := hf_N4_.tr hsN40_ (by decide) (by decide) (by decide) (by decide)
        have rA1_1_N40_ := ze_r N40_ 1 1
        have eA1_2_N40_ : ze N40_ 1 2 = ze N4_ 1 2 := hsN40_.ea (hf_N4_.w hW) (by decide)
        have eD0_6_N40_ : ze N40_ (d_ + 0) 6 = ze N4_ (d_ + 0) 6 := hsN40_.e (by decide)
        have eD1_7_N40_ : ze N40_ (d_ + 1) 7 = ze N4_ (d_ + 1) 7 := hsN40_.e (by decide)
        have eD28_4_N40_ : ze N40_ (d_ + 28) 4 = ze N4_ (d_ + 28) 4 := hsN40_.e (by decide)
        have c41_ : zYt b_ n_ N40_ := zYt.fr (hf_N4_.w hW) hsN40_ hp0_N4_ (by decide)
        refine zw_iload_n (pc := 65) (n := 2) (x := Int32.ofInt 0) rfl (zdal_p dlA_T_troupe_68 (i := 9) rfl) ?_
        refine zr_if_ne (pc := 66) (tgt := 71) ⟨(by decide), (by decide)⟩ (by decide) (zdal_p dlA_T_troupe_68 (i := 10) rfl) (fun hc_66 => ?_) (fun hc_66 => ?_)
        · skip
          exact absurd hc_66 (by decide)
        · skip
          have h10_ : ze N40_ 1 1 = 0 := by omega
          refine zw_iconst (pc := 69) (v := Int32.ofInt (-1)) (by decide) (zdal_p dlA_T_troupe_68 (i := 11) rfl) ?_
          exact zw_iret (S := []) (pc := 70) (ty := .int) rfl rfl (zdal_p dlA_T_troupe_68 (i := 12) rfl) ⟨-1, rfl, ⟨by decide, by decide⟩, h10_, zSwp_0 hf_N40_ hW (by decide), Or.inl ⟨rfl, hB_, hf_N40_.2.2.1, hf_N40_.ot hdd_ (by decide)⟩⟩
      · skip
        exact absurd hc_41 (by decide)
    · skip
      exact absurd hc_20 (by decide)
set_option maxHeartbeats 40000000 in
theorem c_M_inForceU (l : Launch) (Mz : zMem) (hW : zMt Mz) (mv_ : List Nat) (b_ : Nat → Int) (n_ : Nat) (F_ : Nat) (K_ : Nat → Nat → Int) (hF64_ : F_ ≤ 64) (nm_ : List (Int × (Nat → Int))) (p0_ : 1 ≤ ze Mz 81 12) (p1_ : ze Mz 81 12 ≤ 6) (p2_ : 0 ≤ ze Mz 81 13) (p3_ : ze Mz 81 13 ≤ 4) (p4_ : zPm Mz) (p5_ : zFin Mz) (p6_ : zB 83 24 0 5 Mz) (p7_ : 0 ≤ ze Mz 81 14) (p8_ : ze Mz 81 14 ≤ 8) (p9_ : zMvt mv_ Mz) (p10_ : zRNm nm_ F_ K_ b_ n_ Mz) : zC l m_M_inForce 0 0 [.ref 81] Mz (zpV [16, 17, 18, 58, 60] [84, 98, 103, 104] Mz (fun N => zIF N ∧ ze N 81 60 = 0 ∧ 0 ≤ ze N 81 18 ∧ ze N 81 18 ≤ 8 ∧ zMvq mv_ N ∧ ze N 81 16 = ze Mz 81 12 ∧ zRNi nm_ F_ K_ N ∧ zZrJ 98 64 N ∧ ze N 81 58 = 0)) := by
  refine zC_of (L0 := [some (.ref 81), none]) md_M_inForce (Nat.le_of_ble_eq_true rfl) rfl ?_ zQ0
  have hf : zFr [16, 17, 18, 58, 60] [84, 98, 103, 104] Mz Mz := zFr.rf
  have r_12 := ze_r Mz 81 12
  have r_13 := ze_r Mz 81 13
  have r_14 := ze_r Mz 81 14
  have r_16 := ze_r Mz 81 16
  have r_17 := ze_r Mz 81 17
  have r_18 := ze_r Mz 81 18
  have r_58 := ze_r Mz 81 58
  have r_60 := ze_r Mz 81 60
  refine zw_aload_n (pc := 0) (n := 0) (x := 81) rfl (zdal_p dlC_M_inForce_48 (i := 0) rfl) ?_
  refine zw_aload_n (pc := 1) (n := 0) (x := 81) rfl (zdal_p dlC_M_inForce_48 (i := 1) rfl) ?_
  refine zr_getI0 hf hW (pc := 2) (by decide) f_M_115 rfl (zdal_p dlC_M_inForce_48 (i := 2) rfl) ?_
  refine zr_putI (hf.w hW) (pc := 5) f_M_382 rfl rfl ⟨by omega, by omega⟩ rfl rfl (zdal_p dlC_M_inForce_48 (i := 3) rfl) (fun N1_ hsN1_ hvN1_ => ?_)
  have hf_N1_ : zFr [16, 17, 18, 58, 60] [84, 98, 103, 104] Mz N1_ := hf.tr hsN1_ (by decide) (by decide)
  have e12_N1_ : ze N1_ 81 12 = ze Mz 81 12 := hsN1_.e (by decide)
  have e13_N1_ : ze N1_ 81 13 = ze Mz 81 13 := hsN1_.e (by decide)
  have e14_N1_ : ze N1_ 81 14 = ze Mz 81 14 := hsN1_.e (by decide)
  have r16_N1_ := ze_r N1_ 81 16
  have e17_N1_ : ze N1_ 81 17 = ze Mz 81 17 := hsN1_.e (by decide)
  have e18_N1_ : ze N1_ 81 18 = ze Mz 81 18 := hsN1_.e (by decide)
  have e58_N1_ : ze N1_ 81 58 = ze Mz 81 58 := hsN1_.e (by decide)
  have e60_N1_ : ze N1_ 81 60 = ze Mz 81 60 := hsN1_.e (by decide)
  have c2_ : zPm N1_ := zPm.fr hsN1_ p4_ (by decide) (by decide)
  have c3_ : zFin N1_ := zFin.fr hsN1_ p5_ (by decide) (by decide)
  have c4_ : zB 83 24 0 5 N1_ := zB.fr hsN1_ p6_ (by decide) (by decide)
  have c5_ : zMvt mv_ N1_ := zMvt.fr hsN1_ p9_ (by decide) (by decide)
  have c6_ : zRNm nm_ F_ K_ b_ n_ N1_ := zRNm.fr hsN1_ p10_ (by decide) (by decide)
  refine zw_aload_n (pc := 8) (n := 0) (x := 81) rfl (zdal_p dlC_M_inForce_48 (i := 4) rfl) ?_
  refine zw_aload_n (pc := 9) (n := 0) (x := 81) rfl (zdal_p dlC_M_inForce_48 (i := 5) rfl) ?_
  refine zr_getI0 hf_N1_ hW (pc := 10) (by decide) f_M_199 rfl (zdal_p dlC_M_inForce_48 (i := 6) rfl) ?_
  refine zr_putI (hf_N1_.w hW) (pc := 13) f_M_385 rfl rfl ⟨by omega, by omega⟩ rfl rfl (zdal_p dlC_M_inForce_48 (i := 7) rfl) (fun N7_ hsN7_ hvN7_ => ?_)
  have hf_N7_ : zFr [16, 17, 18, 58, 60] [84, 98, 103, 104] Mz N7_ := hf_N1_.tr hsN7_ (by decide) (by decide)
  have e12_N7_ : ze N7_ 81 12 = ze N1_ 81 12 := hsN7_.e (by decide)
  have e13_N7_ : ze N7_ 81 13 = ze N1_ 81 13 := hsN7_.e (by decide)
  have e14_N7_ : ze N7_ 81 14 = ze N1_ 81 14 := hsN7_.e (by decide)
  have e16_N7_ : ze N7_ 81 16 = ze N1_ 81 16 := hsN7_.e (by decide)
  have r17_N7_ := ze_r N7_ 81 17
  have e18_N7_ : ze N7_ 81 18 = ze N1_ 81 18 := hsN7_.e (by decide)
  have e58_N7_ : ze N7_ 81 58 = ze N1_ 81 58 := hsN7_.e (by decide)
  have e60_N7_ : ze N7_ 81 60 = ze N1_ 81 60 := hsN7_.e (by decide)
  have c8_ : zPm N7_ := zPm.fr hsN7_ c2_ (by decide) (by decide)
  have c9_ : zFin N7_ := zFin.fr hsN7_ c3_ (by decide) (by decide)
  have c10_ : zB 83 24 0 5 N7_ := zB.fr hsN7_ c4_ (by decide) (by decide)
  have c11_ : zMvt mv_ N7_ := zMvt.fr hsN7_ c5_ (by decide) (by decide)
  have c12_ : zRNm nm_ F_ K_ b_ n_ N7_ := zRNm.fr hsN7_ c6_ (by decide) (by decide)
  refine zw_aload_n (pc := 16) (n := 0) (x := 81) rfl (zdal_p dlC_M_inForce_48 (i := 8) rfl) ?_
  refine zw_aload_n (pc := 17) (n := 0) (x := 81) rfl (zdal_p dlC_M_inForce_48 (i := 9) rfl) ?_
  refine zr_getI0 hf_N7_ hW (pc := 18) (by decide) f_M_299 rfl (zdal_p dlC_M_inForce_48 (i := 10) rfl) ?_
  refine zr_putI (hf_N7_.w hW) (pc := 21) f_M_388 rfl rfl ⟨by omega, by omega⟩ rfl rfl (zdal_p dlC_M_inForce_48 (i := 11) rfl) (fun N13_ hsN13_ hvN13_ => ?_)
  have hf_N13_ : zFr [16, 17, 18, 58, 60] [84, 98, 103, 104] Mz N13_ := hf_N7_.tr hsN13_ (by decide) (by decide)
  have e12_N13_ : ze N13_ 81 12 = ze N7_ 81 12 := hsN13_.e (by decide)
  have e13_N13_ : ze N13_ 81 13 = ze N7_ 81 13 := hsN13_.e (by decide)
  have e14_N13_ : ze N13_ 81 14 = ze N7_ 81 14 := hsN13_.e (by decide)
  have e16_N13_ : ze N13_ 81 16 = ze N7_ 81 16 := hsN13_.e (by decide)
  have e17_N13_ : ze N13_ 81 17 = ze N7_ 81 17 := hsN13_.e (by decide)
  have r18_N13_ := ze_r N13_ 81 18
  have e58_N13_ : ze N13_ 81 58 = ze N7_ 81 58 := hsN13_.e (by decide)
  have e60_N13_ : ze N13_ 81 60 = ze N7_ 81 60 := hsN13_.e (by decide)
  have c14_ : zPm N13_ := zPm.fr hsN13_ c8_ (by decide) (by decide)
  have c15_ : zFin N13_ := zFin.fr hsN13_ c9_ (by decide) (by decide)
  have c16_ : zB 83 24 0 5 N13_ := zB.fr hsN13_ c10_ (by decide) (by decide)
  have c17_ : zMvt mv_ N13_ := zMvt.fr hsN13_ c11_ (by decide) (by decide)
  have c18_ : zRNm nm_ F_ K_ b_ n_ N13_ := zRNm.fr hsN13_ c12_ (by decide) (by decide)
  refine zw_iconst (pc := 24) (v := Int32.ofInt 0) (by decide) (zdal_p dlC_M_inForce_48 (i := 12) rfl) ?_
  refine zw_istore_n (pc := 25) (i := 1) (L2 := [some (.ref 81), some (.int (Int32.ofInt 0))]) rfl (by decide) rfl (zdal_p dlC_M_inForce_48 (i := 13) rfl) ?_
  have lp_26 : ∀ (n : Nat) (u19_ : Int) (hu19_a : -2147483648 ≤ u19_) (hu19_b : u19_ < 2147483648) (N20_ : zMem) (hs21_ : zFr [] [84] N13_ N20_) (i22_ : 0 ≤ u19_) (i23_ : zCp 83 84 Mz N20_ u19_), (24 - u19_).toNat < n → zW l m_M_inForce (zn Mz + 0, zw Mz + 0) N20_ 26 [some (.ref 81), some (.int (Int32.ofInt u19_))] [] (zpV [16, 17, 18, 58, 60] [84, 98, 103, 104] Mz (fun N => zIF N ∧ ze N 81 60 = 0 ∧ 0 ≤ ze N 81 18 ∧ ze N 81 18 ≤ 8 ∧ zMvq mv_ N ∧ ze N 81 16 = ze Mz 81 12 ∧ zRNi nm_ F_ K_ N ∧ zZrJ 98 64 N ∧ ze N 81 58 = 0)) := by
    intro n
    induction n with
    | zero =>
      intro u19_ hu19_a hu19_b N20_ hs21_ i22_ i23_ h0
      exact absurd h0 (Nat.not_lt_zero _)
    | succ n ih_26 =>
      intro u19_ hu19_a hu19_b N20_ hs21_ i22_ i23_ hlt_26
      have hf_N20_ : zFr [16, 17, 18, 58, 60] [84, 98, 103, 104] Mz N20_ := hf_N13_.tr hs21_ (by decide) (by decide)
      have e12_N20_ : ze N20_ 81 12 = ze N13_ 81 12 := hs21_.e (by decide)
      have e13_N20_ : ze N20_ 81 13 = ze N13_ 81 13 := hs21_.e (by decide)
      have e14_N20_ : ze N20_ 81 14 = ze N13_ 81 14 := hs21_.e (by decide)
      have e16_N20_ : ze N20_ 81 16 = ze N13_ 81 16 := hs21_.e (by decide)
      have e17_N20_ : ze N20_ 81 17 = ze N13_ 81 17 := hs21_.e (by decide)
      have e18_N20_ : ze N20_ 81 18 = ze N13_ 81 18 := hs21_.e (by decide)
      have e58_N20_ : ze N20_ 81 58 = ze N13_ 81 58 := hs21_.e (by decide)
      have e60_N20_ : ze N20_ 81 60 = ze N13_ 81 60 := hs21_.e (by decide)
      have c24_ : zPm N20_ := zPm.fr hs21_ c14_ (by decide) (by decide)
      have c25_ : zFin N20_ := zFin.fr hs21_ c15_ (by decide) (by decide)
      have c26_ : zB 83 24 0 5 N20_ := zB.fr hs21_ c16_ (by decide) (by decide)
      have c27_ : zMvt mv_ N20_ := zMvt.fr hs21_ c17_ (by decide) (by decide)
      have c28_ : zRNm nm_ F_ K_ b_ n_ N20_ := zRNm.fr hs21_ c18_ (by decide) (by decide)
      refine zw_iload_n (pc := 26) (n := 1) (x := Int32.ofInt u19_) rfl (zdal_p dlC_M_inForce_48 (i := 14) rfl) ?_
      refine zw_bipush (pc := 27) (v := Int32.ofInt 24) (by decide) (zdal_p dlC_M_inForce_48 (i := 15) rfl) ?_
      refine zr_icmp_ge (pc := 29) (tgt := 50) ⟨hu19_a, hu19_b⟩ ⟨(by decide), (by decide)⟩ (by decide) (zdal_p dlC_M_inForce_48 (i := 16) rfl) (fun hc_29 => ?_) (fun hc_29 => ?_)
      · skip
        have hI_ : zIF N20_ := zIF_i (by omega) (show zCp 83 84 Mz N20_ u19_ by first | with_reducible assumption | assumption) (fun j => hf_N20_.ie (by decide) (by decide) j) (by omega) (by omega) (by omega) (by omega) (by omega) (by omega) c24_ c25_ c26_
        have hMq_ : zMvq mv_ N20_ := (zMvF_i (by omega) (show zCp 83 84 Mz N20_ u19_ by first | with_reducible assumption | assumption) (fun j => hf_N20_.ie (by decide) (by decide) j) (by omega) (by omega) (by omega) (by omega) (by omega)).trans c27_
        refine zw_iconst (pc := 50) (v := Int32.ofInt 0) (by decide) (zdal_p dlC_M_inForce_49 (i := 3) rfl) ?_
        refine zw_istore_n (pc := 51) (i := 1) (L2 := [some (.ref 81), some (.int (Int32.ofInt 0))]) rfl (by decide) rfl (zdal_p dlC_M_inForce_49 (i := 4) rfl) ?_
        have lp_52 : ∀ (n : Nat) (u29_ : Int) (hu29_a : -2147483648 ≤ u29_) (hu29_b : u29_ < 2147483648) (N30_ : zMem) (hs31_ : zFr [] [103] N20_ N30_) (i32_ : 0 ≤ u29_) (i33_ : zCpJ 101 103 Mz u29_ N30_), (8 - u29_).toNat < n → zW l m_M_inForce (zn Mz + 0, zw Mz + 0) N30_ 52 [some (.ref 81), some (.int (Int32.ofInt u29_))] [] (zpV [16, 17, 18, 58, 60] [84, 98, 103, 104] Mz (fun N => zIF N ∧ ze N 81 60 = 0 ∧ 0 ≤ ze N 81 18 ∧ ze N 81 18 ≤ 8 ∧ zMvq mv_ N ∧ ze N 81 16 = ze Mz 81 12 ∧ zRNi nm_ F_ K_ N ∧ zZrJ 98 64 N ∧ ze N 81 58 = 0)) := by
          intro n
          induction n with
          | zero =>
            intro u29_ hu29_a hu29_b N30_ hs31_ i32_ i33_ h0
            exact absurd h0 (Nat.not_lt_zero _)
          | succ n ih_52 =>
            intro u29_ hu29_a hu29_b N30_ hs31_ i32_ i33_ hlt_52
            have hf_N30_ : zFr [16, 17, 18, 58, 60] [84, 98, 103, 104] Mz N30_ := hf_N20_.tr hs31_ (by decide) (by decide)
            have e12_N30_ : ze N30_ 81 12 = ze N20_ 81 12 := hs31_.e (by decide)
            have e13_N30_ : ze N30_ 81 13 = ze N20_ 81 13 := hs31_.e (by decide)
            have e14_N30_ : ze N30_ 81 14 = ze N20_ 81 14 := hs31_.e (by decide)
            have e16_N30_ : ze N30_ 81 16 = ze N20_ 81 16 := hs31_.e (by decide)
            have e17_N30_ : ze N30_ 81 17 = ze N20_ 81 17 := hs31_.e (by decide)
            have e18_N30_ : ze N30_ 81 18 = ze N20_ 81 18 := hs31_.e (by decide)
            have e58_N30_ : ze N30_ 81 58 = ze N20_ 81 58 := hs31_.e (by decide)
            have e60_N30_ : ze N30_ 81 60 = ze N20_ 81 60 := hs31_.e (by decide)
            have c34_ : zPm N30_ := zPm.fr hs31_ c24_ (by decide) (by decide)
            have c35_ : zFin N30_ := zFin.fr hs31_ c25_ (by decide) (by decide)
            have c36_ : zB 83 24 0 5 N30_ := zB.fr hs31_ c26_ (by decide) (by decide)
            have c37_ : zMvt mv_ N30_ := zMvt.fr hs31_ c27_ (by decide) (by decide)
            have c38_ : zRNm nm_ F_ K_ b_ n_ N30_ := zRNm.fr hs31_ c28_ (by decide) (by decide)
            have c39_ : zIF N30_ := zIF.fr hs31_ hI_ (by decide) (by decide)
            have c40_ : zMvq mv_ N30_ := zMvq.fr hs31_ hMq_ (by decide) (by decide)
            refine zw_iload_n (pc := 52) (n := 1) (x := Int32.ofInt u29_) rfl (zdal_p dlC_M_inForce_49 (i := 5) rfl) ?_
            refine zw_bipush (pc := 53) (v := Int32.ofInt 8) (by decide) (zdal_p dlC_M_inForce_49 (i := 6) rfl) ?_
            refine zr_icmp_ge (pc := 55) (tgt := 76) ⟨hu29_a, hu29_b⟩ ⟨(by decide), (by decide)⟩ (by decide) (zdal_p dlC_M_inForce_49 (i := 7) rfl) (fun hc_55 => ?_) (fun hc_55 => ?_)
            · skip
              have hc1_ := (show zCpJ 101 103 Mz u29_ N30_ by first | with_reducible assumption | assumption).le (n := 8) (by omega)
              refine zw_iconst (pc := 76) (v := Int32.ofInt 0) (by decide) (zdal_p dlC_M_inForce_49 (i := 18) rfl) ?_
              refine zw_istore_n (pc := 77) (i := 1) (L2 := [some (.ref 81), some (.int (Int32.ofInt 0))]) rfl (by decide) rfl (zdal_p dlC_M_inForce_49 (i := 19) rfl) ?_
              have lp_78 : ∀ (n : Nat) (u41_ : Int) (hu41_a : -2147483648 ≤ u41_) (hu41_b : u41_ < 2147483648) (N42_ : zMem) (hs43_ : zFr [] [104] N30_ N42_) (i44_ : 0 ≤ u41_) (i45_ : zCpJ 102 104 Mz u41_ N42_), (512 - u41_).toNat < n → zW l m_M_inForce (zn Mz + 0, zw Mz + 0) N42_ 78 [some (.ref 81), some (.int (Int32.ofInt u41_))] [] (zpV [16, 17, 18, 58, 60] [84, 98, 103, 104] Mz (fun N => zIF N ∧ ze N 81 60 = 0 ∧ 0 ≤ ze N 81 18 ∧ ze N 81 18 ≤ 8 ∧ zMvq mv_ N ∧ ze N 81 16 = ze Mz 81 12 ∧ zRNi nm_ F_ K_ N ∧ zZrJ 98 64 N ∧ ze N 81 58 = 0)) := by
                intro n
                induction n with
                | zero =>
                  intro u41_ hu41_a hu41_b N42_ hs43_ i44_ i45_ h0
                  exact absurd h0 (Nat.not_lt_zero _)
                | succ n ih_78 =>
                  intro u41_ hu41_a hu41_b N42_ hs43_ i44_ i45_ hlt_78
                  have hf_N42_ : zFr [16, 17, 18, 58, 60] [84, 98, 103, 104] Mz N42_ := hf_N30_.tr hs43_ (by decide) (by decide)
                  have e12_N42_ : ze N42_ 81 12 = ze N30_ 81 12 := hs43_.e (by decide)
                  have e13_N42_ : ze N42_ 81 13 = ze N30_ 81 13 := hs43_.e (by decide)
                  have e14_N42_ : ze N42_ 81 14 = ze N30_ 81 14 := hs43_.e (by decide)
                  have e16_N42_ : ze N42_ 81 16 = ze N30_ 81 16 := hs43_.e (by decide)
                  have e17_N42_ : ze N42_ 81 17 = ze N30_ 81 17 := hs43_.e (by decide)
                  have e18_N42_ : ze N42_ 81 18 = ze N30_ 81 18 := hs43_.e (by decide)
                  have e58_N42_ : ze N42_ 81 58 = ze N30_ 81 58 := hs43_.e (by decide)
                  have e60_N42_ : ze N42_ 81 60 = ze N30_ 81 60 := hs43_.e (by decide)
                  have c46_ : zPm N42_ := zPm.fr hs43_ c34_ (by decide) (by decide)
                  have c47_ : zFin N42_ := zFin.fr hs43_ c35_ (by decide) (by decide)
                  have c48_ : zB 83 24 0 5 N42_ := zB.fr hs43_ c36_ (by decide) (by decide)
                  have c49_ : zMvt mv_ N42_ := zMvt.fr hs43_ c37_ (by decide) (by decide)
                  have c50_ : zRNm nm_ F_ K_ b_ n_ N42_ := zRNm.fr hs43_ c38_ (by decide) (by decide)
                  have c51_ : zIF N42_ := zIF.fr hs43_ c39_ (by decide) (by decide)
                  have c52_ : zMvq mv_ N42_ := zMvq.fr hs43_ c40_ (by decide) (by decide)
                  have c53_ : zCpJ 101 103 Mz 8 N42_ := zCpJ.fr hs43_ hc1_ (by decide) (by decide)
                  refine zw_iload_n (pc := 78) (n := 1) (x := Int32.ofInt u41_) rfl (zdal_p dlC_M_inForce_49 (i := 20) rfl) ?_
                  refine zw_sipush (pc := 79) (v := Int32.ofInt 512) (by decide) (zdal_p dlC_M_inForce_49 (i := 21) rfl) ?_
                  refine zr_icmp_ge (pc := 82) (tgt := 103) ⟨hu41_a, hu41_b⟩ ⟨(by decide), (by decide)⟩ (by decide) (zdal_p dlC_M_inForce_49 (i := 22) rfl) (fun hc_82 => ?_) (fun hc_82 => ?_)
                  · skip
                    have hc2_ := (show zCpJ 102 104 Mz u41_ N42_ by first | with_reducible assumption | assumption).le (n := 512) (by omega)
                    refine zw_iconst (pc := 103) (v := Int32.ofInt 0) (by decide) (zdal_p dlC_M_inForce_50 (i := 9) rfl) ?_
                    refine zw_istore_n (pc := 104) (i := 1) (L2 := [some (.ref 81), some (.int (Int32.ofInt 0))]) rfl (by decide) rfl (zdal_p dlC_M_inForce_50 (i := 10) rfl) ?_
                    have lp_105 : ∀ (n : Nat) (u54_ : Int) (hu54_a : -2147483648 ≤ u54_) (hu54_b : u54_ < 2147483648) (N55_ : zMem) (hs56_ : zFr [] [98] N42_ N55_) (i57_ : 0 ≤ u54_) (i58_ : zZrJ 98 u54_ N55_), (64 - u54_).toNat < n → zW l m_M_inForce (zn Mz + 0, zw Mz + 0) N55_ 105 [some (.ref 81), some (.int (Int32.ofInt u54_))] [] (zpV [16, 17, 18, 58, 60] [84, 98, 103, 104] Mz (fun N => zIF N ∧ ze N 81 60 = 0 ∧ 0 ≤ ze N 81 18 ∧ ze N 81 18 ≤ 8 ∧ zMvq mv_ N ∧ ze N 81 16 = ze Mz 81 12 ∧ zRNi nm_ F_ K_ N ∧ zZrJ 98 64 N ∧ ze N 81 58 = 0)) := by
                      intro n
                      induction n with
                      | zero =>
                        intro u54_ hu54_a hu54_b N55_ hs56_ i57_ i58_ h0
                        exact absurd h0 (Nat.not_lt_zero _)
                      | succ n ih_105 =>
                        intro u54_ hu54_a hu54_b N55_ hs56_ i57_ i58_ hlt_105
                        have hf_N55_ : zFr [16, 17, 18, 58, 60] [84, 98, 103, 104] Mz N55_ := hf_N42_.tr hs56_ (by decide) (by decide)
                        have e12_N55_ : ze N55_ 81 12 = ze N42_ 81 12 := hs56_.e (by decide)
                        have e13_N55_ : ze N55_ 81 13 = ze N42_ 81 13 := hs56_.e (by decide)
                        have e14_N55_ : ze N55_ 81 14 = ze N42_ 81 14 := hs56_.e (by decide)
                        have e16_N55_ : ze N55_ 81 16 = ze N42_ 81 16 := hs56_.e (by decide)
                        have e17_N55_ : ze N55_ 81 17 = ze N42_ 81 17 := hs56_.e (by decide)
                        have e18_N55_ : ze N55_ 81 18 = ze N42_ 81 18 := hs56_.e (by decide)
                        have e58_N55_ : ze N55_ 81 58 = ze N42_ 81 58 := hs56_.e (by decide)
                        have e60_N55_ : ze N55_ 81 60 = ze N42_ 81 60 := hs56_.e (by decide)
                        have c59_ : zPm N55_ := zPm.fr hs56_ c46_ (by decide) (by decide)
                        have c60_ : zFin N55_ := zFin.fr hs56_ c47_ (by decide) (by decide)
                        have c61_ : zB 83 24 0 5 N55_ := zB.fr hs56_ c48_ (by decide) (by decide)
                        have c62_ : zMvt mv_ N55_ := zMvt.fr hs56_ c49_ (by decide) (by decide)
                        have c63_ : zRNm nm_ F_ K_ b_ n_ N55_ := zRNm.fr hs56_ c50_ (by decide) (by decide)
                        have c64_ : zIF N55_ := zIF.fr hs56_ c51_ (by decide) (by decide)
                        have c65_ : zMvq mv_ N55_ := zMvq.fr hs56_ c52_ (by decide) (by decide)
                        have c66_ : zCpJ 101 103 Mz 8 N55_ := zCpJ.fr hs56_ c53_ (by decide) (by decide)
                        have c67_ : zCpJ 102 104 Mz 512 N55_ := zCpJ.fr hs56_ hc2_ (by decide) (by decide)
                        refine zw_iload_n (pc := 105) (n := 1) (x := Int32.ofInt u54_) rfl (zdal_p dlC_M_inForce_50 (i := 11) rfl) ?_
                        refine zw_bipush (pc := 106) (v := Int32.ofInt 64) (by decide) (zdal_p dlC_M_inForce_50 (i := 12) rfl) ?_
                        refine zr_icmp_ge (pc := 108) (tgt := 124) ⟨hu54_a, hu54_b⟩ ⟨(by decide), (by decide)⟩ (by decide) (zdal_p dlC_M_inForce_50 (i := 13) rfl) (fun hc_108 => ?_) (fun hc_108 => ?_)
                        · skip
                          have hz_ := (show zZrJ 98 u54_ N55_ by first | with_reducible assumption | assumption).le (n := 64) (by omega)
                          have hni_ : zRNi nm_ F_ K_ N55_ := zRNi_i hF64_ p10_ (by omega) c66_ c67_
                          refine zw_aload_n (pc := 124) (n := 0) (x := 81) rfl (zdal_p dlC_M_inForce_50 (i := 21) rfl) ?_
                          refine zw_iconst (pc := 125) (v := Int32.ofInt 0) (by decide) (zdal_p dlC_M_inForce_50 (i := 22) rfl) ?_
                          refine zr_putI (hf_N55_.w hW) (pc := 126) f_M_391 rfl rfl ⟨by omega, by omega⟩ rfl rfl (zdal_p dlC_M_inForce_50 (i := 23) rfl) (fun N68_ hsN68_ hvN68_ => ?_)
                          have hf_N68_ : zFr [16, 17, 18, 58, 60] [84, 98, 103, 104] Mz N68_ := hf_N55_.tr hsN68_ (by decide) (by decide)
                          have e12_N68_ : ze N68_ 81 12 = ze N55_ 81 12 := hsN68_.e (by decide)
                          have e13_N68_ : ze N68_ 81 13 = ze N55_ 81 13 := hsN68_.e (by decide)
                          have e14_N68_ : ze N68_ 81 14 = ze N55_ 81 14 := hsN68_.e (by decide)
                          have e16_N68_ : ze N68_ 81 16 = ze N55_ 81 16 := hsN68_.e (by decide)
                          have e17_N68_ : ze N68_ 81 17 = ze N55_ 81 17 := hsN68_.e (by decide)
                          have e18_N68_ : ze N68_ 81 18 = ze N55_ 81 18 := hsN68_.e (by decide)
                          have e58_N68_ : ze N68_ 81 58 = ze N55_ 81 58 := hsN68_.e (by decide)
                          have r60_N68_ := ze_r N68_ 81 60
                          have c69_ : zPm N68_ := zPm.fr hsN68_ c59_ (by decide) (by decide)
                          have c70_ : zFin N68_ := zFin.fr hsN68_ c60_ (by decide) (by decide)
                          have c71_ : zB 83 24 0 5 N68_ := zB.fr hsN68_ c61_ (by decide) (by decide)
                          have c72_ : zMvt mv_ N68_ := zMvt.fr hsN68_ c62_ (by decide) (by decide)
                          have c73_ : zRNm nm_ F_ K_ b_ n_ N68_ := zRNm.fr hsN68_ c63_ (by decide) (by decide)
                          have c74_ : zIF N68_ := zIF.fr hsN68_ c64_ (by decide) (by decide)
                          have c75_ : zMvq mv_ N68_ := zMvq.fr hsN68_ c65_ (by decide) (by decide)
                          have c76_ : zCpJ 101 103 Mz 8 N68_ := zCpJ.fr hsN68_ c66_ (by decide) (by decide)
                          have c77_ : zCpJ 102 104 Mz 512 N68_ := zCpJ.fr hsN68_ c67_ (by decide) (by decide)
                          have c78_ : zZrJ 98 64 N68_ := zZrJ.fr hsN68_ hz_ (by decide) (by decide)
                          have c79_ : zRNi nm_ F_ K_ N68_ := zRNi.fr hsN68_ hni_ (by decide) (by decide)
                          refine zw_aload_n (pc := 129) (n := 0) (x := 81) rfl (zdal_p dlC_M_inForce_51 (i := 0) rfl) ?_
                          refine zw_iconst (pc := 130) (v := Int32.ofInt 0) (by decide) (zdal_p dlC_M_inForce_51 (i := 1) rfl) ?_
                          refine zr_putI (hf_N68_.w hW) (pc := 131) f_M_394 rfl rfl ⟨by omega, by omega⟩ (z_narB (by omega)) (z_fitB (by omega)) (zdal_p dlC_M_inForce_51 (i := 2) rfl) (fun N80_ hsN80_ hvN80_ => ?_)
                          have hf_N80_ : zFr [16, 17, 18, 58, 60] [84, 98, 103, 104] Mz N80_ := hf_N68_.tr hsN80_ (by decide) (by decide)
                          have e12_N80_ : ze N80_ 81 12 = ze N68_ 81 12 := hsN80_.e (by decide)
                          have e13_N80_ : ze N80_ 81 13 = ze N68_ 81 13 := hsN80_.e (by decide)
                          have e14_N80_ : ze N80_ 81 14 = ze N68_ 81 14 := hsN80_.e (by decide)
                          have e16_N80_ : ze N80_ 81 16 = ze N68_ 81 16 := hsN80_.e (by decide)
                          have e17_N80_ : ze N80_ 81 17 = ze N68_ 81 17 := hsN80_.e (by decide)
                          have e18_N80_ : ze N80_ 81 18 = ze N68_ 81 18 := hsN80_.e (by decide)
                          have r58_N80_ := ze_r N80_ 81 58
                          have e60_N80_ : ze N80_ 81 60 = ze N68_ 81 60 := hsN80_.e (by decide)
                          have c81_ : zPm N80_ := zPm.fr hsN80_ c69_ (by decide) (by decide)
                          have c82_ : zFin N80_ := zFin.fr hsN80_ c70_ (by decide) (by decide)
                          have c83_ : zB 83 24 0 5 N80_ := zB.fr hsN80_ c71_ (by decide) (by decide)
                          have c84_ : zMvt mv_ N80_ := zMvt.fr hsN80_ c72_ (by decide) (by decide)
                          have c85_ : zRNm nm_ F_ K_ b_ n_ N80_ := zRNm.fr hsN80_ c73_ (by decide) (by decide)
                          have c86_ : zIF N80_ := zIF.fr hsN80_ c74_ (by decide) (by decide)
                          have c87_ : zMvq mv_ N80_ := zMvq.fr hsN80_ c75_ (by decide) (by decide)
                          have c88_ : zCpJ 101 103 Mz 8 N80_ := zCpJ.fr hsN80_ c76_ (by decide) (by decide)
                          have c89_ : zCpJ 102 104 Mz 512 N80_ := zCpJ.fr hsN80_ c77_ (by decide) (by decide)
                          have c90_ : zZrJ 98 64 N80_ := zZrJ.fr hsN80_ c78_ (by decide) (by decide)
                          have c91_ : zRNi nm_ F_ K_ N80_ := zRNi.fr hsN80_ c79_ (by decide) (by decide)
                          exact zr_vret (pc := 134) rfl hf_N80_ ⟨c86_, (show ze N80_ 81 60 = 0 by first | with_reducible assumption | assumption | omega), (show 0 ≤ ze N80_ 81 18 by first | with_reducible assumption | assumption | omega), (show ze N80_ 81 18 ≤ 8 by first | with_reducible assumption | assumption | omega), c87_, (show ze N80_ 81 16 = ze Mz 81 12 by first | with_reducible assumption | assumption | omega), c91_, c90_, (show ze N80_ 81 58 = 0 by first | with_reducible assumption | assumption | omega)⟩ (zdal_p dlC_M_inForce_51 (i := 3) rfl)
                        · skip
                          refine zw_aload_n (pc := 111) (n := 0) (x := 81) rfl (zdal_p dlC_M_inForce_50 (i := 14) rfl) ?_
                          refine zr_getF (r := 98) (hf_N55_.w hW) (pc := 112) f_M_66 rfl (zh_98 (hf_N55_.w hW)).1 (zdal_p dlC_M_inForce_50 (i := 15) rfl) ?_
                          refine zw_iload_n (pc := 115) (n := 1) (x := Int32.ofInt u54_) rfl (zdal_p dlC_M_inForce_50 (i := 16) rfl) ?_
                          refine zw_lconst (pc := 116) (v := Int64.ofInt 0) (by decide) (zdal_p dlC_M_inForce_50 (i := 17) rfl) ?_
                          refine zr_last (pc := 117) (zh_98 (hf_N55_.w hW)).2 (by decide) (by decide) (by omega) (by omega) (zdal_p dlC_M_inForce_50 (i := 18) rfl) (fun N92_ hN92_ hsN92_ => ?_)
                          have hf_N92_ : zFr [16, 17, 18, 58, 60] [84, 98, 103, 104] Mz N92_ := hf_N55_.tr hsN92_ (by decide) (by decide)
                          have hb0_N92_ : zFr [] [98] N42_ N92_ := hs56_.tr hsN92_ (by decide) (by decide)
                          have e12_N92_ : ze N92_ 81 12 = ze N55_ 81 12 := hsN92_.e (by decide)
                          have e13_N92_ : ze N92_ 81 13 = ze N55_ 81 13 := hsN92_.e (by decide)
                          have e14_N92_ : ze N92_ 81 14 = ze N55_ 81 14 := hsN92_.e (by decide)
                          have e16_N92_ : ze N92_ 81 16 = ze N55_ 81 16 := hsN92_.e (by decide)
                          have e17_N92_ : ze N92_ 81 17 = ze N55_ 81 17 := hsN92_.e (by decide)
                          have e18_N92_ : ze N92_ 81 18 = ze N55_ 81 18 := hsN92_.e (by decide)
                          have e58_N92_ : ze N92_ 81 58 = ze N55_ 81 58 := hsN92_.e (by decide)
                          have e60_N92_ : ze N92_ 81 60 = ze N55_ 81 60 := hsN92_.e (by decide)
                          have c93_ : zPm N92_ := zPm.fr hsN92_ c59_ (by decide) (by decide)
                          have c94_ : zFin N92_ := zFin.fr hsN92_ c60_ (by decide) (by decide)
                          have c95_ : zB 83 24 0 5 N92_ := zB.fr hsN92_ c61_ (by decide) (by decide)
                          have c96_ : zMvt mv_ N92_ := zMvt.fr hsN92_ c62_ (by decide) (by decide)
                          have c97_ : zRNm nm_ F_ K_ b_ n_ N92_ := zRNm.fr hsN92_ c63_ (by decide) (by decide)
                          have c98_ : zIF N92_ := zIF.fr hsN92_ c64_ (by decide) (by decide)
                          have c99_ : zMvq mv_ N92_ := zMvq.fr hsN92_ c65_ (by decide) (by decide)
                          have c100_ : zCpJ 101 103 Mz 8 N92_ := zCpJ.fr hsN92_ c66_ (by decide) (by decide)
                          have c101_ : zCpJ 102 104 Mz 512 N92_ := zCpJ.fr hsN92_ c67_ (by decide) (by decide)
                          have hJ3_ := zZrJ_s (by omega) (show zZrJ 98 u54_ N55_ by first | with_reducible assumption | assumption) hN92_
                          refine zr_iinc (pc := 118) (i := 1) (a := u54_) (n := 1) (L2 := [some (.ref 81), some (.int (Int32.ofInt (u54_ + 1)))]) rfl (by decide) rfl (zdal_p dlC_M_inForce_50 (i := 19) rfl) ?_
                          refine zw_goto (pc := 121) (tgt := 105) (by decide) (zdal_p dlC_M_inForce_50 (i := 20) rfl) ?_
                          exact ih_105 (u54_ + 1) (by omega) (by omega) N92_ hb0_N92_ (show 0 ≤ (u54_ + 1) by first | with_reducible assumption | assumption | omega) (show zZrJ 98 (u54_ + 1) N92_ by exact hJ3_) (by omega)
                    exact lp_105 _ 0 (by decide) (by decide) N42_ zFr.rf (show 0 ≤ (0 : Int) by first | with_reducible assumption | assumption | omega) (show zZrJ 98 (0 : Int) N42_ by exact zZrJ_0) (Nat.lt_succ_self _)
                  · skip
                    refine zw_aload_n (pc := 85) (n := 0) (x := 81) rfl (zdal_p dlC_M_inForce_49 (i := 23) rfl) ?_
                    refine zr_getF (r := 104) (hf_N42_.w hW) (pc := 86) f_M_84 rfl (zh_104 (hf_N42_.w hW)).1 (zdal_p dlC_M_inForce_50 (i := 0) rfl) ?_
                    refine zw_iload_n (pc := 89) (n := 1) (x := Int32.ofInt u41_) rfl (zdal_p dlC_M_inForce_50 (i := 1) rfl) ?_
                    refine zw_aload_n (pc := 90) (n := 0) (x := 81) rfl (zdal_p dlC_M_inForce_50 (i := 2) rfl) ?_
                    refine zr_getF (r := 102) (hf_N42_.w hW) (pc := 91) f_M_78 rfl (zh_102 (hf_N42_.w hW)).1 (zdal_p dlC_M_inForce_50 (i := 3) rfl) ?_
                    refine zw_iload_n (pc := 94) (n := 1) (x := Int32.ofInt u41_) rfl (zdal_p dlC_M_inForce_50 (i := 4) rfl) ?_
                    refine zr_laldn (pc := 95) (zh_102 (hf_N42_.w hW)).2 (by decide) (by omega) (by omega) (zdal_p dlC_M_inForce_50 (i := 5) rfl) (fun v102_ hv102_ hv102_a hv102_b => ?_)
                    rw [hf_N42_.jg (by decide) (by decide)] at hv102_
                    refine zr_last (pc := 96) (zh_104 (hf_N42_.w hW)).2 (by decide) (by decide) (by omega) (by omega) (zdal_p dlC_M_inForce_50 (i := 6) rfl) (fun N103_ hN103_ hsN103_ => ?_)
                    have hf_N103_ : zFr [16, 17, 18, 58, 60] [84, 98, 103, 104] Mz N103_ := hf_N42_.tr hsN103_ (by decide) (by decide)
                    have hb0_N103_ : zFr [] [104] N30_ N103_ := hs43_.tr hsN103_ (by decide) (by decide)
                    have e12_N103_ : ze N103_ 81 12 = ze N42_ 81 12 := hsN103_.e (by decide)
                    have e13_N103_ : ze N103_ 81 13 = ze N42_ 81 13 := hsN103_.e (by decide)
                    have e14_N103_ : ze N103_ 81 14 = ze N42_ 81 14 := hsN103_.e (by decide)
                    have e16_N103_ : ze N103_ 81 16 = ze N42_ 81 16 := hsN103_.e (by decide)
                    have e17_N103_ : ze N103_ 81 17 = ze N42_ 81 17 := hsN103_.e (by decide)
                    have e18_N103_ : ze N103_ 81 18 = ze N42_ 81 18 := hsN103_.e (by decide)
                    have e58_N103_ : ze N103_ 81 58 = ze N42_ 81 58 := hsN103_.e (by decide)
                    have e60_N103_ : ze N103_ 81 60 = ze N42_ 81 60 := hsN103_.e (by decide)
                    have c104_ : zPm N103_ := zPm.fr hsN103_ c46_ (by decide) (by decide)
                    have c105_ : zFin N103_ := zFin.fr hsN103_ c47_ (by decide) (by decide)
                    have c106_ : zB 83 24 0 5 N103_ := zB.fr hsN103_ c48_ (by decide) (by decide)
                    have c107_ : zMvt mv_ N103_ := zMvt.fr hsN103_ c49_ (by decide) (by decide)
                    have c108_ : zRNm nm_ F_ K_ b_ n_ N103_ := zRNm.fr hsN103_ c50_ (by decide) (by decide)
                    have c109_ : zIF N103_ := zIF.fr hsN103_ c51_ (by decide) (by decide)
                    have c110_ : zMvq mv_ N103_ := zMvq.fr hsN103_ c52_ (by decide) (by decide)
                    have c111_ : zCpJ 101 103 Mz 8 N103_ := zCpJ.fr hsN103_ c53_ (by decide) (by decide)
                    have hJ2_ := zCpJ_s (by omega) (show zCpJ 102 104 Mz u41_ N42_ by first | with_reducible assumption | assumption) (by first | with_reducible assumption | assumption) hN103_
                    refine zr_iinc (pc := 97) (i := 1) (a := u41_) (n := 1) (L2 := [some (.ref 81), some (.int (Int32.ofInt (u41_ + 1)))]) rfl (by decide) rfl (zdal_p dlC_M_inForce_50 (i := 7) rfl) ?_
                    refine zw_goto (pc := 100) (tgt := 78) (by decide) (zdal_p dlC_M_inForce_50 (i := 8) rfl) ?_
                    exact ih_78 (u41_ + 1) (by omega) (by omega) N103_ hb0_N103_ (show 0 ≤ (u41_ + 1) by first | with_reducible assumption | assumption | omega) (show zCpJ 102 104 Mz (u41_ + 1) N103_ by exact hJ2_) (by omega)
              exact lp_78 _ 0 (by decide) (by decide) N30_ zFr.rf (show 0 ≤ (0 : Int) by first | with_reducible assumption | assumption | omega) (show zCpJ 102 104 Mz (0 : Int) N30_ by exact zCpJ_0) (Nat.lt_succ_self _)
            · skip
              refine zw_aload_n (pc := 58) (n := 0) (x := 81) rfl (zdal_p dlC_M_inForce_49 (i := 8) rfl) ?_
              refine zr_getF (r := 103) (hf_N30_.w hW) (pc := 59) f_M_81 rfl (zh_103 (hf_N30_.w hW)).1 (zdal_p dlC_M_inForce_49 (i := 9) rfl) ?_
              refine zw_iload_n (pc := 62) (n := 1) (x := Int32.ofInt u29_) rfl (zdal_p dlC_M_inForce_49 (i := 10) rfl) ?_
              refine zw_aload_n (pc := 63) (n := 0) (x := 81) rfl (zdal_p dlC_M_inForce_49 (i := 11) rfl) ?_
              refine zr_getF (r := 101) (hf_N30_.w hW) (pc := 64) f_M_75 rfl (zh_101 (hf_N30_.w hW)).1 (zdal_p dlC_M_inForce_49 (i := 12) rfl) ?_
              refine zw_iload_n (pc := 67) (n := 1) (x := Int32.ofInt u29_) rfl (zdal_p dlC_M_inForce_49 (i := 13) rfl) ?_
              refine zr_laldn (pc := 68) (zh_101 (hf_N30_.w hW)).2 (by decide) (by omega) (by omega) (zdal_p dlC_M_inForce_49 (i := 14) rfl) (fun v112_ hv112_ hv112_a hv112_b => ?_)
              rw [hf_N30_.jg (by decide) (by decide)] at hv112_
              refine zr_last (pc := 69) (zh_103 (hf_N30_.w hW)).2 (by decide) (by decide) (by omega) (by omega) (zdal_p dlC_M_inForce_49 (i := 15) rfl) (fun N113_ hN113_ hsN113_ => ?_)
              have hf_N113_ : zFr [16, 17, 18, 58, 60] [84, 98, 103, 104] Mz N113_ := hf_N30_.tr hsN113_ (by decide) (by decide)
              have hb0_N113_ : zFr [] [103] N20_ N113_ := hs31_.tr hsN113_ (by decide) (by decide)
              have e12_N113_ : ze N113_ 81 12 = ze N30_ 81 12 := hsN113_.e (by decide)
              have e13_N113_ : ze N113_ 81 13 = ze N30_ 81 13 := hsN113_.e (by decide)
              have e14_N113_ : ze N113_ 81 14 = ze N30_ 81 14 := hsN113_.e (by decide)
              have e16_N113_ : ze N113_ 81 16 = ze N30_ 81 16 := hsN113_.e (by decide)
              have e17_N113_ : ze N113_ 81 17 = ze N30_ 81 17 := hsN113_.e (by decide)
              have e18_N113_ : ze N113_ 81 18 = ze N30_ 81 18 := hsN113_.e (by decide)
              have e58_N113_ : ze N113_ 81 58 = ze N30_ 81 58 := hsN113_.e (by decide)
              have e60_N113_ : ze N113_ 81 60 = ze N30_ 81 60 := hsN113_.e (by decide)
              have c114_ : zPm N113_ := zPm.fr hsN113_ c34_ (by decide) (by decide)
              have c115_ : zFin N113_ := zFin.fr hsN113_ c35_ (by decide) (by decide)
              have c116_ : zB 83 24 0 5 N113_ := zB.fr hsN113_ c36_ (by decide) (by decide)
              have c117_ : zMvt mv_ N113_ := zMvt.fr hsN113_ c37_ (by decide) (by decide)
              have c118_ : zRNm nm_ F_ K_ b_ n_ N113_ := zRNm.fr hsN113_ c38_ (by decide) (by decide)
              have c119_ : zIF N113_ := zIF.fr hsN113_ c39_ (by decide) (by decide)
              have c120_ : zMvq mv_ N113_ := zMvq.fr hsN113_ c40_ (by decide) (by decide)
              have hJ1_ := zCpJ_s (by omega) (show zCpJ 101 103 Mz u29_ N30_ by first | with_reducible assumption | assumption) (by first | with_reducible assumption | assumption) hN113_
              refine zr_iinc (pc := 70) (i := 1) (a := u29_) (n := 1) (L2 := [some (.ref 81), some (.int (Int32.ofInt (u29_ + 1)))]) rfl (by decide) rfl (zdal_p dlC_M_inForce_49 (i := 16) rfl) ?_
              refine zw_goto (pc := 73) (tgt := 52) (by decide) (zdal_p dlC_M_inForce_49 (i := 17) rfl) ?_
              exact ih_52 (u29_ + 1) (by omega) (by omega) N113_ hb0_N113_ (show 0 ≤ (u29_ + 1) by first | with_reducible assumption | assumption | omega) (show zCpJ 101 103 Mz (u29_ + 1) N113_ by exact hJ1_) (by omega)
        exact lp_52 _ 0 (by decide) (by decide) N20_ zFr.rf (show 0 ≤ (0 : Int) by first | with_reducible assumption | assumption | omega) (show zCpJ 101 103 Mz (0 : Int) N20_ by exact zCpJ_0) (Nat.lt_succ_self _)
      · skip
        refine zw_aload_n (pc := 32) (n := 0) (x := 81) rfl (zdal_p dlC_M_inForce_48 (i := 17) rfl) ?_
        refine zr_getF (r := 84) (hf_N20_.w hW) (pc := 33) f_M_23 rfl (zh_84 (hf_N20_.w hW)).1 (zdal_p dlC_M_inForce_48 (i := 18) rfl) ?_
        refine zw_iload_n (pc := 36) (n := 1) (x := Int32.ofInt u19_) rfl (zdal_p dlC_M_inForce_48 (i := 19) rfl) ?_
        refine zw_aload_n (pc := 37) (n := 0) (x := 81) rfl (zdal_p dlC_M_inForce_48 (i := 20) rfl) ?_
        refine zr_getF (r := 83) (hf_N20_.w hW) (pc := 38) f_M_20 rfl (zh_83 (hf_N20_.w hW)).1 (zdal_p dlC_M_inForce_48 (i := 21) rfl) ?_
        refine zw_iload_n (pc := 41) (n := 1) (x := Int32.ofInt u19_) rfl (zdal_p dlC_M_inForce_48 (i := 22) rfl) ?_
        refine zr_ialdn (pc := 42) (zh_83 (hf_N20_.w hW)).2 (by decide) (by omega) (by omega) (zdal_p dlC_M_inForce_48 (i := 23) rfl) (fun v121_ hv121_ hv121_a hv121_b => ?_)
        have hr122_ := c26_.g (e := u19_) (by omega) (by omega)
        rw [← hv121_] at hr122_
        rw [hf_N20_.ie (by decide) (by decide)] at hv121_
        refine zr_iast (pc := 43) (zh_84 (hf_N20_.w hW)).2 (by decide) (by decide) (by omega) (by omega) (zdal_p dlC_M_inForce_49 (i := 0) rfl) (fun N123_ hN123_ hsN123_ => ?_)
        have hf_N123_ : zFr [16, 17, 18, 58, 60] [84, 98, 103, 104] Mz N123_ := hf_N20_.tr hsN123_ (by decide) (by decide)
        have hb0_N123_ : zFr [] [84] N13_ N123_ := hs21_.tr hsN123_ (by decide) (by decide)
        have e12_N123_ : ze N123_ 81 12 = ze N20_ 81 12 := hsN123_.e (by decide)
        have e13_N123_ : ze N123_ 81 13 = ze N20_ 81 13 := hsN123_.e (by decide)
        have e14_N123_ : ze N123_ 81 14 = ze N20_ 81 14 := hsN123_.e (by decide)
        have e16_N123_ : ze N123_ 81 16 = ze N20_ 81 16 := hsN123_.e (by decide)
        have e17_N123_ : ze N123_ 81 17 = ze N20_ 81 17 := hsN123_.e (by decide)
        have e18_N123_ : ze N123_ 81 18 = ze N20_ 81 18 := hsN123_.e (by decide)
        have e58_N123_ : ze N123_ 81 58 = ze N20_ 81 58 := hsN123_.e (by decide)
        have e60_N123_ : ze N123_ 81 60 = ze N20_ 81 60 := hsN123_.e (by decide)
        have c124_ : zPm N123_ := zPm.fr hsN123_ c24_ (by decide) (by decide)
        have c125_ : zFin N123_ := zFin.fr hsN123_ c25_ (by decide) (by decide)
        have c126_ : zB 83 24 0 5 N123_ := zB.fr hsN123_ c26_ (by decide) (by decide)
        have c127_ : zMvt mv_ N123_ := zMvt.fr hsN123_ c27_ (by decide) (by decide)
        have c128_ : zRNm nm_ F_ K_ b_ n_ N123_ := zRNm.fr hsN123_ c28_ (by decide) (by decide)
        have hC1_ := zCp_s (by omega) (show zCp 83 84 Mz N20_ u19_ by first | with_reducible assumption | assumption) (by first | with_reducible assumption | assumption) hN123_
        refine zr_iinc (pc := 44) (i := 1) (a := u19_) (n := 1) (L2 := [some (.ref 81), some (.int (Int32.ofInt (u19_ + 1)))]) rfl (by decide) rfl (zdal_p dlC_M_inForce_49 (i := 1) rfl) ?_
        refine zw_goto (pc := 47) (tgt := 26) (by decide) (zdal_p dlC_M_inForce_49 (i := 2) rfl) ?_
        exact ih_26 (u19_ + 1) (by omega) (by omega) N123_ hb0_N123_ (show 0 ≤ (u19_ + 1) by first | with_reducible assumption | assumption | omega) (show zCp 83 84 Mz N123_ (u19_ + 1) by exact hC1_) (by omega)
  exact lp_26 _ 0 (by decide) (by decide) N13_ zFr.rf (show 0 ≤ (0 : Int) by first | with_reducible assumption | assumption | omega) (show zCp 83 84 Mz N13_ (0 : Int) by exact zCp_0) (Nat.lt_succ_self _)
set_option maxHeartbeats 40000000 in
theorem c_M_goesBackU (l : Launch) (Mz : zMem) (hW : zMt Mz) (mv_ : List Nat) (b_ : Nat → Int) (n_ : Nat) (F_ : Nat) (K_ : Nat → Nat → Int) (hF64_ : F_ ≤ 64) (nm_ : List (Int × (Nat → Int))) (p0_ : zIF Mz) (p1_ : 0 ≤ ze Mz 81 18) (p2_ : ze Mz 81 18 ≤ 8) (p3_ : zB 83 24 0 5 Mz) (p4_ : zB 85 144 0 5 Mz) (p5_ : zMvq mv_ Mz) (p6_ : zRNi nm_ F_ K_ Mz) : zC l m_M_goesBack 0 0 [.ref 81] Mz (zpV [12, 13, 14, 20, 25, 26, 58] [83, 85, 86, 87, 88, 89, 90, 91, 92, 93, 94, 101, 102] Mz (fun N => (∃ T : zGT, T ∈ gTabs ∧ zGB T N ∧ zTm mv_ T ∧ zCdS (ze Mz 81 16) mv_ T N) ∧ 0 ≤ ze N 81 14 ∧ ze N 81 14 ≤ 8 ∧ zIF N ∧ zB 83 24 0 5 N ∧ zMvq mv_ N ∧ zRNm nm_ F_ K_ b_ n_ N ∧ zRNi nm_ F_ K_ N ∧ ze N 81 58 = 0)) := by
  refine zC_of (L0 := [some (.ref 81), none]) md_M_goesBack (Nat.le_of_ble_eq_true rfl) rfl ?_ zQ0
  have hf : zFr [12, 13, 14, 20, 25, 26, 58] [83, 85, 86, 87, 88, 89, 90, 91, 92, 93, 94, 101, 102] Mz Mz := zFr.rf
  have r_12 := ze_r Mz 81 12
  have r_13 := ze_r Mz 81 13
  have r_14 := ze_r Mz 81 14
  have r_16 := ze_r Mz 81 16
  have r_17 := ze_r Mz 81 17
  have r_18 := ze_r Mz 81 18
  have r_58 := ze_r Mz 81 58
  have hi_ := p0_.1
  refine zw_aload_n (pc := 0) (n := 0) (x := 81) rfl (zdal_p dlC_M_goesBack_142 (i := 0) rfl) ?_
  refine zw_aload_n (pc := 1) (n := 0) (x := 81) rfl (zdal_p dlC_M_goesBack_142 (i := 1) rfl) ?_
  refine zr_getI0 hf hW (pc := 2) (by decide) f_M_382 rfl (zdal_p dlC_M_goesBack_142 (i := 2) rfl) ?_
  refine zr_putI (hf.w hW) (pc := 5) f_M_115 rfl rfl ⟨by omega, by omega⟩ rfl rfl (zdal_p dlC_M_goesBack_142 (i := 3) rfl) (fun N1_ hsN1_ hvN1_ => ?_)
  have hf_N1_ : zFr [12, 13, 14, 20, 25, 26, 58] [83, 85, 86, 87, 88, 89, 90, 91, 92, 93, 94, 101, 102] Mz N1_ := hf.tr hsN1_ (by decide) (by decide)
  have r12_N1_ := ze_r N1_ 81 12
  have e13_N1_ : ze N1_ 81 13 = ze Mz 81 13 := hsN1_.e (by decide)
  have e14_N1_ : ze N1_ 81 14 = ze Mz 81 14 := hsN1_.e (by decide)
  have e16_N1_ : ze N1_ 81 16 = ze Mz 81 16 := hsN1_.e (by decide)
  have e17_N1_ : ze N1_ 81 17 = ze Mz 81 17 := hsN1_.e (by decide)
  have e18_N1_ : ze N1_ 81 18 = ze Mz 81 18 := hsN1_.e (by decide)
  have e58_N1_ : ze N1_ 81 58 = ze Mz 81 58 := hsN1_.e (by decide)
  have c2_ : zIF N1_ := zIF.fr hsN1_ p0_ (by decide) (by decide)
  have c3_ : zB 83 24 0 5 N1_ := zB.fr hsN1_ p3_ (by decide) (by decide)
  have c4_ : zB 85 144 0 5 N1_ := zB.fr hsN1_ p4_ (by decide) (by decide)
  have c5_ : zMvq mv_ N1_ := zMvq.fr hsN1_ p5_ (by decide) (by decide)
  have c6_ : zRNi nm_ F_ K_ N1_ := zRNi.fr hsN1_ p6_ (by decide) (by decide)
  refine zw_aload_n (pc := 8) (n := 0) (x := 81) rfl (zdal_p dlC_M_goesBack_142 (i := 4) rfl) ?_
  refine zw_aload_n (pc := 9) (n := 0) (x := 81) rfl (zdal_p dlC_M_goesBack_142 (i := 5) rfl) ?_
  refine zr_getI0 hf_N1_ hW (pc := 10) (by decide) f_M_385 rfl (zdal_p dlC_M_goesBack_142 (i := 6) rfl) ?_
  refine zr_putI (hf_N1_.w hW) (pc := 13) f_M_199 rfl rfl ⟨by omega, by omega⟩ rfl rfl (zdal_p dlC_M_goesBack_142 (i := 7) rfl) (fun N7_ hsN7_ hvN7_ => ?_)
  have hf_N7_ : zFr [12, 13, 14, 20, 25, 26, 58] [83, 85, 86, 87, 88, 89, 90, 91, 92, 93, 94, 101, 102] Mz N7_ := hf_N1_.tr hsN7_ (by decide) (by decide)
  have e12_N7_ : ze N7_ 81 12 = ze N1_ 81 12 := hsN7_.e (by decide)
  have r13_N7_ := ze_r N7_ 81 13
  have e14_N7_ : ze N7_ 81 14 = ze N1_ 81 14 := hsN7_.e (by decide)
  have e16_N7_ : ze N7_ 81 16 = ze N1_ 81 16 := hsN7_.e (by decide)
  have e17_N7_ : ze N7_ 81 17 = ze N1_ 81 17 := hsN7_.e (by decide)
  have e18_N7_ : ze N7_ 81 18 = ze N1_ 81 18 := hsN7_.e (by decide)
  have e58_N7_ : ze N7_ 81 58 = ze N1_ 81 58 := hsN7_.e (by decide)
  have c8_ : zIF N7_ := zIF.fr hsN7_ c2_ (by decide) (by decide)
  have c9_ : zB 83 24 0 5 N7_ := zB.fr hsN7_ c3_ (by decide) (by decide)
  have c10_ : zB 85 144 0 5 N7_ := zB.fr hsN7_ c4_ (by decide) (by decide)
  have c11_ : zMvq mv_ N7_ := zMvq.fr hsN7_ c5_ (by decide) (by decide)
  have c12_ : zRNi nm_ F_ K_ N7_ := zRNi.fr hsN7_ c6_ (by decide) (by decide)
  refine zw_aload_n (pc := 16) (n := 0) (x := 81) rfl (zdal_p dlC_M_goesBack_142 (i := 8) rfl) ?_
  refine zw_aload_n (pc := 17) (n := 0) (x := 81) rfl (zdal_p dlC_M_goesBack_142 (i := 9) rfl) ?_
  refine zr_getI0 hf_N7_ hW (pc := 18) (by decide) f_M_388 rfl (zdal_p dlC_M_goesBack_142 (i := 10) rfl) ?_
  refine zr_putI (hf_N7_.w hW) (pc := 21) f_M_299 rfl rfl ⟨by omega, by omega⟩ rfl rfl (zdal_p dlC_M_goesBack_142 (i := 11) rfl) (fun N13_ hsN13_ hvN13_ => ?_)
  have hf_N13_ : zFr [12, 13, 14, 20, 25, 26, 58] [83, 85, 86, 87, 88, 89, 90, 91, 92, 93, 94, 101, 102] Mz N13_ := hf_N7_.tr hsN13_ (by decide) (by decide)
  have e12_N13_ : ze N13_ 81 12 = ze N7_ 81 12 := hsN13_.e (by decide)
  have e13_N13_ : ze N13_ 81 13 = ze N7_ 81 13 := hsN13_.e (by decide)
  have r14_N13_ := ze_r N13_ 81 14
  have e16_N13_ : ze N13_ 81 16 = ze N7_ 81 16 := hsN13_.e (by decide)
  have e17_N13_ : ze N13_ 81 17 = ze N7_ 81 17 := hsN13_.e (by decide)
  have e18_N13_ : ze N13_ 81 18 = ze N7_ 81 18 := hsN13_.e (by decide)
  have e58_N13_ : ze N13_ 81 58 = ze N7_ 81 58 := hsN13_.e (by decide)
  have c14_ : zIF N13_ := zIF.fr hsN13_ c8_ (by decide) (by decide)
  have c15_ : zB 83 24 0 5 N13_ := zB.fr hsN13_ c9_ (by decide) (by decide)
  have c16_ : zB 85 144 0 5 N13_ := zB.fr hsN13_ c10_ (by decide) (by decide)
  have c17_ : zMvq mv_ N13_ := zMvq.fr hsN13_ c11_ (by decide) (by decide)
  have c18_ : zRNi nm_ F_ K_ N13_ := zRNi.fr hsN13_ c12_ (by decide) (by decide)
  refine zw_iconst (pc := 24) (v := Int32.ofInt 0) (by decide) (zdal_p dlC_M_goesBack_142 (i := 12) rfl) ?_
  refine zw_istore_n (pc := 25) (i := 1) (L2 := [some (.ref 81), some (.int (Int32.ofInt 0))]) rfl (by decide) rfl (zdal_p dlC_M_goesBack_142 (i := 13) rfl) ?_
  have lp_26 : ∀ (n : Nat) (u19_ : Int) (hu19_a : -2147483648 ≤ u19_) (hu19_b : u19_ < 2147483648) (N20_ : zMem) (hs21_ : zFr [] [83] N13_ N20_) (i22_ : 0 ≤ u19_) (i23_ : zCp 84 83 Mz N20_ u19_) (i24_ : zB 83 24 0 5 N20_), (24 - u19_).toNat < n → zW l m_M_goesBack (zn Mz + 0, zw Mz + 0) N20_ 26 [some (.ref 81), some (.int (Int32.ofInt u19_))] [] (zpV [12, 13, 14, 20, 25, 26, 58] [83, 85, 86, 87, 88, 89, 90, 91, 92, 93, 94, 101, 102] Mz (fun N => (∃ T : zGT, T ∈ gTabs ∧ zGB T N ∧ zTm mv_ T ∧ zCdS (ze Mz 81 16) mv_ T N) ∧ 0 ≤ ze N 81 14 ∧ ze N 81 14 ≤ 8 ∧ zIF N ∧ zB 83 24 0 5 N ∧ zMvq mv_ N ∧ zRNm nm_ F_ K_ b_ n_ N ∧ zRNi nm_ F_ K_ N ∧ ze N 81 58 = 0)) := by
    intro n
    induction n with
    | zero =>
      intro u19_ hu19_a hu19_b N20_ hs21_ i22_ i23_ i24_ h0
      exact absurd h0 (Nat.not_lt_zero _)
    | succ n ih_26 =>
      intro u19_ hu19_a hu19_b N20_ hs21_ i22_ i23_ i24_ hlt_26
      have hf_N20_ : zFr [12, 13, 14, 20, 25, 26, 58] [83, 85, 86, 87, 88, 89, 90, 91, 92, 93, 94, 101, 102] Mz N20_ := hf_N13_.tr hs21_ (by decide) (by decide)
      have e12_N20_ : ze N20_ 81 12 = ze N13_ 81 12 := hs21_.e (by decide)
      have e13_N20_ : ze N20_ 81 13 = ze N13_ 81 13 := hs21_.e (by decide)
      have e14_N20_ : ze N20_ 81 14 = ze N13_ 81 14 := hs21_.e (by decide)
      have e16_N20_ : ze N20_ 81 16 = ze N13_ 81 16 := hs21_.e (by decide)
      have e17_N20_ : ze N20_ 81 17 = ze N13_ 81 17 := hs21_.e (by decide)
      have e18_N20_ : ze N20_ 81 18 = ze N13_ 81 18 := hs21_.e (by decide)
      have e58_N20_ : ze N20_ 81 58 = ze N13_ 81 58 := hs21_.e (by decide)
      have c25_ : zIF N20_ := zIF.fr hs21_ c14_ (by decide) (by decide)
      have c26_ : zB 85 144 0 5 N20_ := zB.fr hs21_ c16_ (by decide) (by decide)
      have c27_ : zMvq mv_ N20_ := zMvq.fr hs21_ c17_ (by decide) (by decide)
      have c28_ : zRNi nm_ F_ K_ N20_ := zRNi.fr hs21_ c18_ (by decide) (by decide)
      refine zw_iload_n (pc := 26) (n := 1) (x := Int32.ofInt u19_) rfl (zdal_p dlC_M_goesBack_142 (i := 14) rfl) ?_
      refine zw_bipush (pc := 27) (v := Int32.ofInt 24) (by decide) (zdal_p dlC_M_goesBack_142 (i := 15) rfl) ?_
      refine zr_icmp_ge (pc := 29) (tgt := 50) ⟨hu19_a, hu19_b⟩ ⟨(by decide), (by decide)⟩ (by decide) (zdal_p dlC_M_goesBack_142 (i := 16) rfl) (fun hc_29 => ?_) (fun hc_29 => ?_)
      · skip
        have hI_ := zIF_b (by omega) (show zCp 84 83 Mz N20_ u19_ by first | with_reducible assumption | assumption) (fun j => hf_N20_.ie (by decide) (by decide) j) c25_ (by omega) (by omega)
        have hIp_ := hI_.1
        have hIf_ := hI_.2.1
        have hMs_ : zMvt mv_ N20_ := (zMvF_b (by omega) (show zCp 84 83 Mz N20_ u19_ by first | with_reducible assumption | assumption) (fun j => hf_N20_.ie (by decide) (by decide) j) c25_ (by omega) (by omega)).trans c27_
        refine zw_iconst (pc := 50) (v := Int32.ofInt 0) (by decide) (zdal_p dlC_M_goesBack_143 (i := 3) rfl) ?_
        refine zw_istore_n (pc := 51) (i := 1) (L2 := [some (.ref 81), some (.int (Int32.ofInt 0))]) rfl (by decide) rfl (zdal_p dlC_M_goesBack_143 (i := 4) rfl) ?_
        have lp_52 : ∀ (n : Nat) (u29_ : Int) (hu29_a : -2147483648 ≤ u29_) (hu29_b : u29_ < 2147483648) (N30_ : zMem) (hs31_ : zFr [] [101] N20_ N30_) (i32_ : 0 ≤ u29_) (i33_ : zCpJ 103 101 Mz u29_ N30_), (8 - u29_).toNat < n → zW l m_M_goesBack (zn Mz + 0, zw Mz + 0) N30_ 52 [some (.ref 81), some (.int (Int32.ofInt u29_))] [] (zpV [12, 13, 14, 20, 25, 26, 58] [83, 85, 86, 87, 88, 89, 90, 91, 92, 93, 94, 101, 102] Mz (fun N => (∃ T : zGT, T ∈ gTabs ∧ zGB T N ∧ zTm mv_ T ∧ zCdS (ze Mz 81 16) mv_ T N) ∧ 0 ≤ ze N 81 14 ∧ ze N 81 14 ≤ 8 ∧ zIF N ∧ zB 83 24 0 5 N ∧ zMvq mv_ N ∧ zRNm nm_ F_ K_ b_ n_ N ∧ zRNi nm_ F_ K_ N ∧ ze N 81 58 = 0)) := by
          intro n
          induction n with
          | zero =>
            intro u29_ hu29_a hu29_b N30_ hs31_ i32_ i33_ h0
            exact absurd h0 (Nat.not_lt_zero _)
          | succ n ih_52 =>
            intro u29_ hu29_a hu29_b N30_ hs31_ i32_ i33_ hlt_52
            have hf_N30_ : zFr [12, 13, 14, 20, 25, 26, 58] [83, 85, 86, 87, 88, 89, 90, 91, 92, 93, 94, 101, 102] Mz N30_ := hf_N20_.tr hs31_ (by decide) (by decide)
            have e12_N30_ : ze N30_ 81 12 = ze N20_ 81 12 := hs31_.e (by decide)
            have e13_N30_ : ze N30_ 81 13 = ze N20_ 81 13 := hs31_.e (by decide)
            have e14_N30_ : ze N30_ 81 14 = ze N20_ 81 14 := hs31_.e (by decide)
            have e16_N30_ : ze N30_ 81 16 = ze N20_ 81 16 := hs31_.e (by decide)
            have e17_N30_ : ze N30_ 81 17 = ze N20_ 81 17 := hs31_.e (by decide)
            have e18_N30_ : ze N30_ 81 18 = ze N20_ 81 18 := hs31_.e (by decide)
            have e58_N30_ : ze N30_ 81 58 = ze N20_ 81 58 := hs31_.e (by decide)
            have c34_ : zIF N30_ := zIF.fr hs31_ c25_ (by decide) (by decide)
            have c35_ : zB 85 144 0 5 N30_ := zB.fr hs31_ c26_ (by decide) (by decide)
            have c36_ : zMvq mv_ N30_ := zMvq.fr hs31_ c27_ (by decide) (by decide)
            have c37_ : zRNi nm_ F_ K_ N30_ := zRNi.fr hs31_ c28_ (by decide) (by decide)
            have c38_ : zB 83 24 0 5 N30_ := zB.fr hs31_ i24_ (by decide) (by decide)
            have c39_ : zPm N30_ := zPm.fr hs31_ hIp_ (by decide) (by decide)
            have c40_ : zFin N30_ := zFin.fr hs31_ hIf_ (by decide) (by decide)
            have c41_ : zMvt mv_ N30_ := zMvt.fr hs31_ hMs_ (by decide) (by decide)
            refine zw_iload_n (pc := 52) (n := 1) (x := Int32.ofInt u29_) rfl (zdal_p dlC_M_goesBack_143 (i := 5) rfl) ?_
            refine zw_bipush (pc := 53) (v := Int32.ofInt 8) (by decide) (zdal_p dlC_M_goesBack_143 (i := 6) rfl) ?_
            refine zr_icmp_ge (pc := 55) (tgt := 76) ⟨hu29_a, hu29_b⟩ ⟨(by decide), (by decide)⟩ (by decide) (zdal_p dlC_M_goesBack_143 (i := 7) rfl) (fun hc_55 => ?_) (fun hc_55 => ?_)
            · skip
              have hc1_ := (show zCpJ 103 101 Mz u29_ N30_ by first | with_reducible assumption | assumption).le (n := 8) (by omega)
              refine zw_iconst (pc := 76) (v := Int32.ofInt 0) (by decide) (zdal_p dlC_M_goesBack_143 (i := 18) rfl) ?_
              refine zw_istore_n (pc := 77) (i := 1) (L2 := [some (.ref 81), some (.int (Int32.ofInt 0))]) rfl (by decide) rfl (zdal_p dlC_M_goesBack_143 (i := 19) rfl) ?_
              have lp_78 : ∀ (n : Nat) (u42_ : Int) (hu42_a : -2147483648 ≤ u42_) (hu42_b : u42_ < 2147483648) (N43_ : zMem) (hs44_ : zFr [] [102] N30_ N43_) (i45_ : 0 ≤ u42_) (i46_ : zCpJ 104 102 Mz u42_ N43_), (512 - u42_).toNat < n → zW l m_M_goesBack (zn Mz + 0, zw Mz + 0) N43_ 78 [some (.ref 81), some (.int (Int32.ofInt u42_))] [] (zpV [12, 13, 14, 20, 25, 26, 58] [83, 85, 86, 87, 88, 89, 90, 91, 92, 93, 94, 101, 102] Mz (fun N => (∃ T : zGT, T ∈ gTabs ∧ zGB T N ∧ zTm mv_ T ∧ zCdS (ze Mz 81 16) mv_ T N) ∧ 0 ≤ ze N 81 14 ∧ ze N 81 14 ≤ 8 ∧ zIF N ∧ zB 83 24 0 5 N ∧ zMvq mv_ N ∧ zRNm nm_ F_ K_ b_ n_ N ∧ zRNi nm_ F_ K_ N ∧ ze N 81 58 = 0)) := by
                intro n
                induction n with
                | zero =>
                  intro u42_ hu42_a hu42_b N43_ hs44_ i45_ i46_ h0
                  exact absurd h0 (Nat.not_lt_zero _)
                | succ n ih_78 =>
                  intro u42_ hu42_a hu42_b N43_ hs44_ i45_ i46_ hlt_78
                  have hf_N43_ : zFr [12, 13, 14, 20, 25, 26, 58] [83, 85, 86, 87, 88, 89, 90, 91, 92, 93, 94, 101, 102] Mz N43_ := hf_N30_.tr hs44_ (by decide) (by decide)
                  have e12_N43_ : ze N43_ 81 12 = ze N30_ 81 12 := hs44_.e (by decide)
                  have e13_N43_ : ze N43_ 81 13 = ze N30_ 81 13 := hs44_.e (by decide)
                  have e14_N43_ : ze N43_ 81 14 = ze N30_ 81 14 := hs44_.e (by decide)
                  have e16_N43_ : ze N43_ 81 16 = ze N30_ 81 16 := hs44_.e (by decide)
                  have e17_N43_ : ze N43_ 81 17 = ze N30_ 81 17 := hs44_.e (by decide)
                  have e18_N43_ : ze N43_ 81 18 = ze N30_ 81 18 := hs44_.e (by decide)
                  have e58_N43_ : ze N43_ 81 58 = ze N30_ 81 58 := hs44_.e (by decide)
                  have c47_ : zIF N43_ := zIF.fr hs44_ c34_ (by decide) (by decide)
                  have c48_ : zB 85 144 0 5 N43_ := zB.fr hs44_ c35_ (by decide) (by decide)
                  have c49_ : zMvq mv_ N43_ := zMvq.fr hs44_ c36_ (by decide) (by decide)
                  have c50_ : zRNi nm_ F_ K_ N43_ := zRNi.fr hs44_ c37_ (by decide) (by decide)
                  have c51_ : zB 83 24 0 5 N43_ := zB.fr hs44_ c38_ (by decide) (by decide)
                  have c52_ : zPm N43_ := zPm.fr hs44_ c39_ (by decide) (by decide)
                  have c53_ : zFin N43_ := zFin.fr hs44_ c40_ (by decide) (by decide)
                  have c54_ : zMvt mv_ N43_ := zMvt.fr hs44_ c41_ (by decide) (by decide)
                  have c55_ : zCpJ 103 101 Mz 8 N43_ := zCpJ.fr hs44_ hc1_ (by decide) (by decide)
                  refine zw_iload_n (pc := 78) (n := 1) (x := Int32.ofInt u42_) rfl (zdal_p dlC_M_goesBack_143 (i := 20) rfl) ?_
                  refine zw_sipush (pc := 79) (v := Int32.ofInt 512) (by decide) (zdal_p dlC_M_goesBack_143 (i := 21) rfl) ?_
                  refine zr_icmp_ge (pc := 82) (tgt := 103) ⟨hu42_a, hu42_b⟩ ⟨(by decide), (by decide)⟩ (by decide) (zdal_p dlC_M_goesBack_143 (i := 22) rfl) (fun hc_82 => ?_) (fun hc_82 => ?_)
                  · skip
                    have hc2_ := (show zCpJ 104 102 Mz u42_ N43_ by first | with_reducible assumption | assumption).le (n := 512) (by omega)
                    have hnr_ : zRNm nm_ F_ K_ b_ n_ N43_ := zRNm_i hF64_ p6_ (by omega) c55_ hc2_
                    refine zw_aload_n (pc := 103) (n := 0) (x := 81) rfl (zdal_p dlC_M_goesBack_144 (i := 9) rfl) ?_
                    refine zr_callV (hf_N43_.w hW) hf_N43_.x (pc := 104) [] [] l_M_118 (c_M_buildsF l N43_ (hf_N43_.w hW) (show 1 ≤ ze N43_ 81 12 by first | with_reducible assumption | assumption | omega) (show ze N43_ 81 12 ≤ 6 by first | with_reducible assumption | assumption | omega) (show 0 ≤ ze N43_ 81 13 by first | with_reducible assumption | assumption | omega) (show ze N43_ 81 13 ≤ 4 by first | with_reducible assumption | assumption | omega) c52_ c53_ c51_ c48_) rfl rfl rfl (by decide) (Nat.le_of_ble_eq_true rfl) (zdal_p dlC_M_goesBack_144 (i := 10) rfl) ?_
                    rintro _ N56_ ⟨rfl, hsN56_, hp0_N56_⟩
                    replace hp0_N56_ : ∃ T : zGT, T ∈ gTabs ∧ zGB T N56_ ∧ zTm (zMvs N43_) T ∧ zCdS (ze N43_ 81 12) (zMvs N43_) T N56_ := hp0_N56_
                    have hf_N56_ : zFr [12, 13, 14, 20, 25, 26, 58] [83, 85, 86, 87, 88, 89, 90, 91, 92, 93, 94, 101, 102] Mz N56_ := hf_N43_.tr hsN56_ (by decide) (by decide)
                    have e12_N56_ : ze N56_ 81 12 = ze N43_ 81 12 := hsN56_.e (by decide)
                    have e13_N56_ : ze N56_ 81 13 = ze N43_ 81 13 := hsN56_.e (by decide)
                    have e14_N56_ : ze N56_ 81 14 = ze N43_ 81 14 := hsN56_.e (by decide)
                    have e16_N56_ : ze N56_ 81 16 = ze N43_ 81 16 := hsN56_.e (by decide)
                    have e17_N56_ : ze N56_ 81 17 = ze N43_ 81 17 := hsN56_.e (by decide)
                    have e18_N56_ : ze N56_ 81 18 = ze N43_ 81 18 := hsN56_.e (by decide)
                    have e58_N56_ : ze N56_ 81 58 = ze N43_ 81 58 := hsN56_.e (by decide)
                    have c58_ : zIF N56_ := zIF.fr hsN56_ c47_ (by decide) (by decide)
                    have c59_ : zMvq mv_ N56_ := zMvq.fr hsN56_ c49_ (by decide) (by decide)
                    have c60_ : zRNi nm_ F_ K_ N56_ := zRNi.fr hsN56_ c50_ (by decide) (by decide)
                    have c61_ : zB 83 24 0 5 N56_ := zB.fr hsN56_ c51_ (by decide) (by decide)
                    have c62_ : zPm N56_ := zPm.fr hsN56_ c52_ (by decide) (by decide)
                    have c63_ : zFin N56_ := zFin.fr hsN56_ c53_ (by decide) (by decide)
                    have c64_ : zMvt mv_ N56_ := zMvt.fr hsN56_ c54_ (by decide) (by decide)
                    have c65_ : zCpJ 103 101 Mz 8 N56_ := zCpJ.fr hsN56_ c55_ (by decide) (by decide)
                    have c66_ : zCpJ 104 102 Mz 512 N56_ := zCpJ.fr hsN56_ hc2_ (by decide) (by decide)
                    have c67_ : zRNm nm_ F_ K_ b_ n_ N56_ := zRNm.fr hsN56_ hnr_ (by decide) (by decide)
                    show zW l m_M_goesBack (zn Mz + 0, zw Mz + 0) N56_ 107 [some (.ref 81), some (.int (Int32.ofInt u42_))] [] _
                    obtain ⟨T, hTt, hGB, hTm_, hCd_⟩ := id hp0_N56_
                    have hmz_ : zMvs N43_ = mv_ := by have h_ := c64_; unfold zMvt at h_; rw [← h_, zMvs_f hsN56_ (by decide) (by decide)]
                    rw [hmz_] at hTm_ hCd_
                    have hTm2_ : zTm mv_ T := hTm_
                    have hCd2_ : zCdS (ze Mz 81 16) mv_ T N56_ := hCd_.p (by omega)
                    refine zw_aload_n (pc := 107) (n := 0) (x := 81) rfl (zdal_p dlC_M_goesBack_144 (i := 11) rfl) ?_
                    refine zw_iconst (pc := 108) (v := Int32.ofInt 0) (by decide) (zdal_p dlC_M_goesBack_144 (i := 12) rfl) ?_
                    refine zr_putI (hf_N56_.w hW) (pc := 109) f_M_394 rfl rfl ⟨by omega, by omega⟩ (z_narB (by omega)) (z_fitB (by omega)) (zdal_p dlC_M_goesBack_144 (i := 13) rfl) (fun N68_ hsN68_ hvN68_ => ?_)
                    have hf_N68_ : zFr [12, 13, 14, 20, 25, 26, 58] [83, 85, 86, 87, 88, 89, 90, 91, 92, 93, 94, 101, 102] Mz N68_ := hf_N56_.tr hsN68_ (by decide) (by decide)
                    have e12_N68_ : ze N68_ 81 12 = ze N56_ 81 12 := hsN68_.e (by decide)
                    have e13_N68_ : ze N68_ 81 13 = ze N56_ 81 13 := hsN68_.e (by decide)
                    have e14_N68_ : ze N68_ 81 14 = ze N56_ 81 14 := hsN68_.e (by decide)
                    have e16_N68_ : ze N68_ 81 16 = ze N56_ 81 16 := hsN68_.e (by decide)
                    have e17_N68_ : ze N68_ 81 17 = ze N56_ 81 17 := hsN68_.e (by decide)
                    have e18_N68_ : ze N68_ 81 18 = ze N56_ 81 18 := hsN68_.e (by decide)
                    have r58_N68_ := ze_r N68_ 81 58
                    have c69_ : zIF N68_ := zIF.fr hsN68_ c58_ (by decide) (by decide)
                    have c70_ : zMvq mv_ N68_ := zMvq.fr hsN68_ c59_ (by decide) (by decide)
                    have c71_ : zRNi nm_ F_ K_ N68_ := zRNi.fr hsN68_ c60_ (by decide) (by decide)
                    have c72_ : zB 83 24 0 5 N68_ := zB.fr hsN68_ c61_ (by decide) (by decide)
                    have c73_ : zPm N68_ := zPm.fr hsN68_ c62_ (by decide) (by decide)
                    have c74_ : zFin N68_ := zFin.fr hsN68_ c63_ (by decide) (by decide)
                    have c75_ : zMvt mv_ N68_ := zMvt.fr hsN68_ c64_ (by decide) (by decide)
                    have c76_ : zCpJ 103 101 Mz 8 N68_ := zCpJ.fr hsN68_ c65_ (by decide) (by decide)
                    have c77_ : zCpJ 104 102 Mz 512 N68_ := zCpJ.fr hsN68_ c66_ (by decide) (by decide)
                    have c78_ : zRNm nm_ F_ K_ b_ n_ N68_ := zRNm.fr hsN68_ c67_ (by decide) (by decide)
                    have c79_ : zGB T N68_ := zGB.fr hsN68_ hGB (by decide) (by decide)
                    have c80_ : zCdS (ze Mz 81 16) mv_ T N68_ := zCdS.fr hsN68_ hCd2_ (by decide) (by decide)
                    exact zr_vret (pc := 112) rfl hf_N68_ ⟨(show (∃ T : zGT, T ∈ gTabs ∧ zGB T N68_ ∧ zTm mv_ T ∧ zCdS (ze Mz 81 16) mv_ T N68_) by exact ⟨T, hTt, c79_, hTm2_, c80_⟩), (show 0 ≤ ze N68_ 81 14 by first | with_reducible assumption | assumption | omega), (show ze N68_ 81 14 ≤ 8 by first | with_reducible assumption | assumption | omega), c69_, c72_, c70_, c78_, c71_, (show ze N68_ 81 58 = 0 by first | with_reducible assumption | assumption | omega)⟩ (zdal_p dlC_M_goesBack_144 (i := 14) rfl)
                  · skip
                    refine zw_aload_n (pc := 85) (n := 0) (x := 81) rfl (zdal_p dlC_M_goesBack_143 (i := 23) rfl) ?_
                    refine zr_getF (r := 102) (hf_N43_.w hW) (pc := 86) f_M_78 rfl (zh_102 (hf_N43_.w hW)).1 (zdal_p dlC_M_goesBack_144 (i := 0) rfl) ?_
                    refine zw_iload_n (pc := 89) (n := 1) (x := Int32.ofInt u42_) rfl (zdal_p dlC_M_goesBack_144 (i := 1) rfl) ?_
                    refine zw_aload_n (pc := 90) (n := 0) (x := 81) rfl (zdal_p dlC_M_goesBack_144 (i := 2) rfl) ?_
                    refine zr_getF (r := 104) (hf_N43_.w hW) (pc := 91) f_M_84 rfl (zh_104 (hf_N43_.w hW)).1 (zdal_p dlC_M_goesBack_144 (i := 3) rfl) ?_
                    refine zw_iload_n (pc := 94) (n := 1) (x := Int32.ofInt u42_) rfl (zdal_p dlC_M_goesBack_144 (i := 4) rfl) ?_
                    refine zr_laldn (pc := 95) (zh_104 (hf_N43_.w hW)).2 (by decide) (by omega) (by omega) (zdal_p dlC_M_goesBack_144 (i := 5) rfl) (fun v81_ hv81_ hv81_a hv81_b => ?_)
                    rw [hf_N43_.jg (by decide) (by decide)] at hv81_
                    refine zr_last (pc := 96) (zh_102 (hf_N43_.w hW)).2 (by decide) (by decide) (by omega) (by omega) (zdal_p dlC_M_goesBack_144 (i := 6) rfl) (fun N82_ hN82_ hsN82_ => ?_)
                    have hf_N82_ : zFr [12, 13, 14, 20, 25, 26, 58] [83, 85, 86, 87, 88, 89, 90, 91, 92, 93, 94, 101, 102] Mz N82_ := hf_N43_.tr hsN82_ (by decide) (by decide)
                    have hb0_N82_ : zFr [] [102] N30_ N82_ := hs44_.tr hsN82_ (by decide) (by decide)
                    have e12_N82_ : ze N82_ 81 12 = ze N43_ 81 12 := hsN82_.e (by decide)
                    have e13_N82_ : ze N82_ 81 13 = ze N43_ 81 13 := hsN82_.e (by decide)
                    have e14_N82_ : ze N82_ 81 14 = ze N43_ 81 14 := hsN82_.e (by decide)
                    have e16_N82_ : ze N82_ 81 16 = ze N43_ 81 16 := hsN82_.e (by decide)
                    have e17_N82_ : ze N82_ 81 17 = ze N43_ 81 17 := hsN82_.e (by decide)
                    have e18_N82_ : ze N82_ 81 18 = ze N43_ 81 18 := hsN82_.e (by decide)
                    have e58_N82_ : ze N82_ 81 58 = ze N43_ 81 58 := hsN82_.e (by decide)
                    have c83_ : zIF N82_ := zIF.fr hsN82_ c47_ (by decide) (by decide)
                    have c84_ : zB 85 144 0 5 N82_ := zB.fr hsN82_ c48_ (by decide) (by decide)
                    have c85_ : zMvq mv_ N82_ := zMvq.fr hsN82_ c49_ (by decide) (by decide)
                    have c86_ : zRNi nm_ F_ K_ N82_ := zRNi.fr hsN82_ c50_ (by decide) (by decide)
                    have c87_ : zB 83 24 0 5 N82_ := zB.fr hsN82_ c51_ (by decide) (by decide)
                    have c88_ : zPm N82_ := zPm.fr hsN82_ c52_ (by decide) (by decide)
                    have c89_ : zFin N82_ := zFin.fr hsN82_ c53_ (by decide) (by decide)
                    have c90_ : zMvt mv_ N82_ := zMvt.fr hsN82_ c54_ (by decide) (by decide)
                    have c91_ : zCpJ 103 101 Mz 8 N82_ := zCpJ.fr hsN82_ c55_ (by decide) (by decide)
                    have hJ2_ := zCpJ_s (by omega) (show zCpJ 104 102 Mz u42_ N43_ by first | with_reducible assumption | assumption) (by first | with_reducible assumption | assumption) hN82_
                    refine zr_iinc (pc := 97) (i := 1) (a := u42_) (n := 1) (L2 := [some (.ref 81), some (.int (Int32.ofInt (u42_ + 1)))]) rfl (by decide) rfl (zdal_p dlC_M_goesBack_144 (i := 7) rfl) ?_
                    refine zw_goto (pc := 100) (tgt := 78) (by decide) (zdal_p dlC_M_goesBack_144 (i := 8) rfl) ?_
                    exact ih_78 (u42_ + 1) (by omega) (by omega) N82_ hb0_N82_ (show 0 ≤ (u42_ + 1) by first | with_reducible assumption | assumption | omega) (show zCpJ 104 102 Mz (u42_ + 1) N82_ by exact hJ2_) (by omega)
              exact lp_78 _ 0 (by decide) (by decide) N30_ zFr.rf (show 0 ≤ (0 : Int) by first | with_reducible assumption | assumption | omega) (show zCpJ 104 102 Mz (0 : Int) N30_ by exact zCpJ_0) (Nat.lt_succ_self _)
            · skip
              refine zw_aload_n (pc := 58) (n := 0) (x := 81) rfl (zdal_p dlC_M_goesBack_143 (i := 8) rfl) ?_
              refine zr_getF (r := 101) (hf_N30_.w hW) (pc := 59) f_M_75 rfl (zh_101 (hf_N30_.w hW)).1 (zdal_p dlC_M_goesBack_143 (i := 9) rfl) ?_
              refine zw_iload_n (pc := 62) (n := 1) (x := Int32.ofInt u29_) rfl (zdal_p dlC_M_goesBack_143 (i := 10) rfl) ?_
              refine zw_aload_n (pc := 63) (n := 0) (x := 81) rfl (zdal_p dlC_M_goesBack_143 (i := 11) rfl) ?_
              refine zr_getF (r := 103) (hf_N30_.w hW) (pc := 64) f_M_81 rfl (zh_103 (hf_N30_.w hW)).1 (zdal_p dlC_M_goesBack_143 (i := 12) rfl) ?_
              refine zw_iload_n (pc := 67) (n := 1) (x := Int32.ofInt u29_) rfl (zdal_p dlC_M_goesBack_143 (i := 13) rfl) ?_
              refine zr_laldn (pc := 68) (zh_103 (hf_N30_.w hW)).2 (by decide) (by omega) (by omega) (zdal_p dlC_M_goesBack_143 (i := 14) rfl) (fun v92_ hv92_ hv92_a hv92_b => ?_)
              rw [hf_N30_.jg (by decide) (by decide)] at hv92_
              refine zr_last (pc := 69) (zh_101 (hf_N30_.w hW)).2 (by decide) (by decide) (by omega) (by omega) (zdal_p dlC_M_goesBack_143 (i := 15) rfl) (fun N93_ hN93_ hsN93_ => ?_)
              have hf_N93_ : zFr [12, 13, 14, 20, 25, 26, 58] [83, 85, 86, 87, 88, 89, 90, 91, 92, 93, 94, 101, 102] Mz N93_ := hf_N30_.tr hsN93_ (by decide) (by decide)
              have hb0_N93_ : zFr [] [101] N20_ N93_ := hs31_.tr hsN93_ (by decide) (by decide)
              have e12_N93_ : ze N93_ 81 12 = ze N30_ 81 12 := hsN93_.e (by decide)
              have e13_N93_ : ze N93_ 81 13 = ze N30_ 81 13 := hsN93_.e (by decide)
              have e14_N93_ : ze N93_ 81 14 = ze N30_ 81 14 := hsN93_.e (by decide)
              have e16_N93_ : ze N93_ 81 16 = ze N30_ 81 16 := hsN93_.e (by decide)
              have e17_N93_ : ze N93_ 81 17 = ze N30_ 81 17 := hsN93_.e (by decide)
              have e18_N93_ : ze N93_ 81 18 = ze N30_ 81 18 := hsN93_.e (by decide)
              have e58_N93_ : ze N93_ 81 58 = ze N30_ 81 58 := hsN93_.e (by decide)
              have c94_ : zIF N93_ := zIF.fr hsN93_ c34_ (by decide) (by decide)
              have c95_ : zB 85 144 0 5 N93_ := zB.fr hsN93_ c35_ (by decide) (by decide)
              have c96_ : zMvq mv_ N93_ := zMvq.fr hsN93_ c36_ (by decide) (by decide)
              have c97_ : zRNi nm_ F_ K_ N93_ := zRNi.fr hsN93_ c37_ (by decide) (by decide)
              have c98_ : zB 83 24 0 5 N93_ := zB.fr hsN93_ c38_ (by decide) (by decide)
              have c99_ : zPm N93_ := zPm.fr hsN93_ c39_ (by decide) (by decide)
              have c100_ : zFin N93_ := zFin.fr hsN93_ c40_ (by decide) (by decide)
              have c101_ : zMvt mv_ N93_ := zMvt.fr hsN93_ c41_ (by decide) (by decide)
              have hJ1_ := zCpJ_s (by omega) (show zCpJ 103 101 Mz u29_ N30_ by first | with_reducible assumption | assumption) (by first | with_reducible assumption | assumption) hN93_
              refine zr_iinc (pc := 70) (i := 1) (a := u29_) (n := 1) (L2 := [some (.ref 81), some (.int (Int32.ofInt (u29_ + 1)))]) rfl (by decide) rfl (zdal_p dlC_M_goesBack_143 (i := 16) rfl) ?_
              refine zw_goto (pc := 73) (tgt := 52) (by decide) (zdal_p dlC_M_goesBack_143 (i := 17) rfl) ?_
              exact ih_52 (u29_ + 1) (by omega) (by omega) N93_ hb0_N93_ (show 0 ≤ (u29_ + 1) by first | with_reducible assumption | assumption | omega) (show zCpJ 103 101 Mz (u29_ + 1) N93_ by exact hJ1_) (by omega)
        exact lp_52 _ 0 (by decide) (by decide) N20_ zFr.rf (show 0 ≤ (0 : Int) by first | with_reducible assumption | assumption | omega) (show zCpJ 103 101 Mz (0 : Int) N20_ by exact zCpJ_0) (Nat.lt_succ_self _)
      · skip
        refine zw_aload_n (pc := 32) (n := 0) (x := 81) rfl (zdal_p dlC_M_goesBack_142 (i := 17) rfl) ?_
        refine zr_getF (r := 83) (hf_N20_.w hW) (pc := 33) f_M_20 rfl (zh_83 (hf_N20_.w hW)).1 (zdal_p dlC_M_goesBack_142 (i := 18) rfl) ?_
        refine zw_iload_n (pc := 36) (n := 1) (x := Int32.ofInt u19_) rfl (zdal_p dlC_M_goesBack_142 (i := 19) rfl) ?_
        refine zw_aload_n (pc := 37) (n := 0) (x := 81) rfl (zdal_p dlC_M_goesBack_142 (i := 20) rfl) ?_
        refine zr_getF (r := 84) (hf_N20_.w hW) (pc := 38) f_M_23 rfl (zh_84 (hf_N20_.w hW)).1 (zdal_p dlC_M_goesBack_142 (i := 21) rfl) ?_
        refine zw_iload_n (pc := 41) (n := 1) (x := Int32.ofInt u19_) rfl (zdal_p dlC_M_goesBack_142 (i := 22) rfl) ?_
        refine zr_ialdn (pc := 42) (zh_84 (hf_N20_.w hW)).2 (by decide) (by omega) (by omega) (zdal_p dlC_M_goesBack_142 (i := 23) rfl) (fun v102_ hv102_ hv102_a hv102_b => ?_)
        rw [hf_N20_.ie (by decide) (by decide)] at hv102_
        have hb84_ := p0_.2.1 (u19_).toNat (by omega)
        refine zr_iast (pc := 43) (zh_83 (hf_N20_.w hW)).2 (by decide) (by decide) (by omega) (by omega) (zdal_p dlC_M_goesBack_143 (i := 0) rfl) (fun N103_ hN103_ hsN103_ => ?_)
        have hf_N103_ : zFr [12, 13, 14, 20, 25, 26, 58] [83, 85, 86, 87, 88, 89, 90, 91, 92, 93, 94, 101, 102] Mz N103_ := hf_N20_.tr hsN103_ (by decide) (by decide)
        have hb0_N103_ : zFr [] [83] N13_ N103_ := hs21_.tr hsN103_ (by decide) (by decide)
        have e12_N103_ : ze N103_ 81 12 = ze N20_ 81 12 := hsN103_.e (by decide)
        have e13_N103_ : ze N103_ 81 13 = ze N20_ 81 13 := hsN103_.e (by decide)
        have e14_N103_ : ze N103_ 81 14 = ze N20_ 81 14 := hsN103_.e (by decide)
        have e16_N103_ : ze N103_ 81 16 = ze N20_ 81 16 := hsN103_.e (by decide)
        have e17_N103_ : ze N103_ 81 17 = ze N20_ 81 17 := hsN103_.e (by decide)
        have e18_N103_ : ze N103_ 81 18 = ze N20_ 81 18 := hsN103_.e (by decide)
        have e58_N103_ : ze N103_ 81 58 = ze N20_ 81 58 := hsN103_.e (by decide)
        have c104_ : zIF N103_ := zIF.fr hsN103_ c25_ (by decide) (by decide)
        have c105_ : zB 85 144 0 5 N103_ := zB.fr hsN103_ c26_ (by decide) (by decide)
        have c106_ : zMvq mv_ N103_ := zMvq.fr hsN103_ c27_ (by decide) (by decide)
        have c107_ : zRNi nm_ F_ K_ N103_ := zRNi.fr hsN103_ c28_ (by decide) (by decide)
        have c108_ : zB 83 24 0 5 N103_ := zB.s i24_ hN103_ (by omega) (by omega) (by decide) (by decide)
        have hC1_ := zCp_s (by omega) (show zCp 84 83 Mz N20_ u19_ by first | with_reducible assumption | assumption) (by first | with_reducible assumption | assumption) hN103_
        refine zr_iinc (pc := 44) (i := 1) (a := u19_) (n := 1) (L2 := [some (.ref 81), some (.int (Int32.ofInt (u19_ + 1)))]) rfl (by decide) rfl (zdal_p dlC_M_goesBack_143 (i := 1) rfl) ?_
        refine zw_goto (pc := 47) (tgt := 26) (by decide) (zdal_p dlC_M_goesBack_143 (i := 2) rfl) ?_
        exact ih_26 (u19_ + 1) (by omega) (by omega) N103_ hb0_N103_ (show 0 ≤ (u19_ + 1) by first | with_reducible assumption | assumption | omega) (show zCp 84 83 Mz N103_ (u19_ + 1) by exact hC1_) c108_ (by omega)
  exact lp_26 _ 0 (by decide) (by decide) N13_ zFr.rf (show 0 ≤ (0 : Int) by first | with_reducible assumption | assumption | omega) (show zCp 84 83 Mz N13_ (0 : Int) by exact zCp_0) c15_ (Nat.lt_succ_self _)
set_option maxHeartbeats 40000000 in
theorem c_M_troupeU (l : Launch) (Mz : zMem) (hW : zMt Mz) (b_ : Nat → Int) (n_ : Nat) (mv0_ : List Nat) (F0_ : Nat) (K0_ : Nat → Nat → Int) (hF0_ : F0_ ≤ 64) (nm0_ : List (Int × (Nat → Int))) (p0_ : zRp b_ n_ Mz) (p1_ : zIF Mz) (p2_ : 0 ≤ ze Mz 81 18) (p3_ : ze Mz 81 18 ≤ 8) (p4_ : zB 83 24 0 5 Mz) (p5_ : zB 85 144 0 5 Mz) (p6_ : 0 ≤ ze Mz 81 60) (p7_ : ze Mz 81 60 ≤ 12) (p8_ : zMvq mv0_ Mz) (p9_ : zRNi nm0_ F0_ K0_ Mz) : zC l m_M_troupe 0 0 [.ref 81] Mz (zpI [1, 2, 3, 4, 5, 6, 7, 8, 9, 10, 11, 12, 13, 14, 16, 17, 18, 20, 25, 26, 38, 39, 41, 42, 43, 58, 60] [83, 84, 85, 86, 87, 88, 89, 90, 91, 92, 93, 94, 95, 96, 97, 98, 100, 101, 102, 103, 104] Mz (fun v N => ze N 81 1 = 0 ∧ 0 ≤ ze N 81 14 ∧ ze N 81 14 ≤ 8 ∧ 0 ≤ ze N 81 18 ∧ ze N 81 18 ≤ 8 ∧ 0 ≤ ze N 81 60 ∧ ze N 81 60 ≤ 12 ∧ zIF N ∧ zB 83 24 0 5 N ∧ (∃ T : zGT, T ∈ gTabs ∧ zGB T N) ∧ (((v = -1 ∧ zTrB b_ n_ (zru zpB b_ n_ 0) ∧ (∃ T : zGT, T ∈ gTabs ∧ zGB T N ∧ zTm mv0_ T ∧ zCdS (ze Mz 81 16) mv0_ T N) ∧ zMvq mv0_ N ∧ ze N 81 16 = ze Mz 81 16 ∧ zRNm nm0_ F0_ K0_ b_ n_ N ∧ zRNi nm0_ F0_ K0_ N ∧ (∀ j : Nat, zg N 98 j = zg Mz 98 j) ∧ ze N 81 60 = ze Mz 81 60) ∨ ∃ P : Nat, ∃ mv : List Nat, ∃ T : zGT, ∃ nm : List (Int × (Nat → Int)), zTrN b_ n_ (zru zpB b_ n_ 0) P mv T nm ∧ v = (gN T : Int) ∧ zGB T N ∧ zMvq mv N ∧ ze N 81 16 = (P : Int) ∧ zCdS (P : Int) mv T N ∧ zRNm nm (gF T).length (gmkI T) b_ n_ N ∧ zRNi nm (gF T).length (gmkI T) N ∧ zZrJ 98 64 N ∧ ze N 81 60 = 0)) ∧ ze N 81 58 = 0)) := by
  refine zC_of (L0 := [some (.ref 81)]) md_M_troupe (Nat.le_of_ble_eq_true rfl) rfl ?_ zQ0
  have hf : zFr [1, 2, 3, 4, 5, 6, 7, 8, 9, 10, 11, 12, 13, 14, 16, 17, 18, 20, 25, 26, 38, 39, 41, 42, 43, 58, 60] [83, 84, 85, 86, 87, 88, 89, 90, 91, 92, 93, 94, 95, 96, 97, 98, 100, 101, 102, 103, 104] Mz Mz := zFr.rf
  have r_1 := ze_r Mz 81 1
  have r_4 := ze_r Mz 81 4
  have r_7 := ze_r Mz 81 7
  have r_12 := ze_r Mz 81 12
  have r_13 := ze_r Mz 81 13
  have r_14 := ze_r Mz 81 14
  have r_16 := ze_r Mz 81 16
  have r_18 := ze_r Mz 81 18
  have r_20 := ze_r Mz 81 20
  have r_58 := ze_r Mz 81 58
  have r_60 := ze_r Mz 81 60
  refine zw_aload_n (pc := 0) (n := 0) (x := 81) rfl (zdal_p dlC_M_troupe_57 (i := 0) rfl) ?_
  refine zw_iconst (pc := 1) (v := Int32.ofInt 1) (by decide) (zdal_p dlC_M_troupe_57 (i := 1) rfl) ?_
  refine zr_putI (hf.w hW) (pc := 2) f_M_115 rfl rfl ⟨by omega, by omega⟩ rfl rfl (zdal_p dlC_M_troupe_57 (i := 2) rfl) (fun N1_ hsN1_ hvN1_ => ?_)
  have hf_N1_ : zFr [1, 2, 3, 4, 5, 6, 7, 8, 9, 10, 11, 12, 13, 14, 16, 17, 18, 20, 25, 26, 38, 39, 41, 42, 43, 58, 60] [83, 84, 85, 86, 87, 88, 89, 90, 91, 92, 93, 94, 95, 96, 97, 98, 100, 101, 102, 103, 104] Mz N1_ := hf.tr hsN1_ (by decide) (by decide)
  have e1_N1_ : ze N1_ 81 1 = ze Mz 81 1 := hsN1_.e (by decide)
  have e4_N1_ : ze N1_ 81 4 = ze Mz 81 4 := hsN1_.e (by decide)
  have e7_N1_ : ze N1_ 81 7 = ze Mz 81 7 := hsN1_.e (by decide)
  have r12_N1_ := ze_r N1_ 81 12
  have e13_N1_ : ze N1_ 81 13 = ze Mz 81 13 := hsN1_.e (by decide)
  have e14_N1_ : ze N1_ 81 14 = ze Mz 81 14 := hsN1_.e (by decide)
  have e16_N1_ : ze N1_ 81 16 = ze Mz 81 16 := hsN1_.e (by decide)
  have e18_N1_ : ze N1_ 81 18 = ze Mz 81 18 := hsN1_.e (by decide)
  have e20_N1_ : ze N1_ 81 20 = ze Mz 81 20 := hsN1_.e (by decide)
  have e58_N1_ : ze N1_ 81 58 = ze Mz 81 58 := hsN1_.e (by decide)
  have e60_N1_ : ze N1_ 81 60 = ze Mz 81 60 := hsN1_.e (by decide)
  have qzr98_N1_ : zr98 N1_ = zr98 Mz := zr98_f hsN1_ (by decide)
  have c2_ : zRp b_ n_ N1_ := zRp.fr hsN1_ p0_ (by decide) (by decide)
  have c3_ : zIF N1_ := zIF.fr hsN1_ p1_ (by decide) (by decide)
  have c4_ : zB 83 24 0 5 N1_ := zB.fr hsN1_ p4_ (by decide) (by decide)
  have c5_ : zB 85 144 0 5 N1_ := zB.fr hsN1_ p5_ (by decide) (by decide)
  have c6_ : zMvq mv0_ N1_ := zMvq.fr hsN1_ p8_ (by decide) (by decide)
  have c7_ : zRNi nm0_ F0_ K0_ N1_ := zRNi.fr hsN1_ p9_ (by decide) (by decide)
  refine zw_aload_n (pc := 5) (n := 0) (x := 81) rfl (zdal_p dlC_M_troupe_57 (i := 3) rfl) ?_
  refine zw_iconst (pc := 6) (v := Int32.ofInt 0) (by decide) (zdal_p dlC_M_troupe_57 (i := 4) rfl) ?_
  refine zr_putI (hf_N1_.w hW) (pc := 7) f_M_199 rfl rfl ⟨by omega, by omega⟩ rfl rfl (zdal_p dlC_M_troupe_57 (i := 5) rfl) (fun N8_ hsN8_ hvN8_ => ?_)
  have hf_N8_ : zFr [1, 2, 3, 4, 5, 6, 7, 8, 9, 10, 11, 12, 13, 14, 16, 17, 18, 20, 25, 26, 38, 39, 41, 42, 43, 58, 60] [83, 84, 85, 86, 87, 88, 89, 90, 91, 92, 93, 94, 95, 96, 97, 98, 100, 101, 102, 103, 104] Mz N8_ := hf_N1_.tr hsN8_ (by decide) (by decide)
  have e1_N8_ : ze N8_ 81 1 = ze N1_ 81 1 := hsN8_.e (by decide)
  have e4_N8_ : ze N8_ 81 4 = ze N1_ 81 4 := hsN8_.e (by decide)
  have e7_N8_ : ze N8_ 81 7 = ze N1_ 81 7 := hsN8_.e (by decide)
  have e12_N8_ : ze N8_ 81 12 = ze N1_ 81 12 := hsN8_.e (by decide)
  have r13_N8_ := ze_r N8_ 81 13
  have e14_N8_ : ze N8_ 81 14 = ze N1_ 81 14 := hsN8_.e (by decide)
  have e16_N8_ : ze N8_ 81 16 = ze N1_ 81 16 := hsN8_.e (by decide)
  have e18_N8_ : ze N8_ 81 18 = ze N1_ 81 18 := hsN8_.e (by decide)
  have e20_N8_ : ze N8_ 81 20 = ze N1_ 81 20 := hsN8_.e (by decide)
  have e58_N8_ : ze N8_ 81 58 = ze N1_ 81 58 := hsN8_.e (by decide)
  have e60_N8_ : ze N8_ 81 60 = ze N1_ 81 60 := hsN8_.e (by decide)
  have qzr98_N8_ : zr98 N8_ = zr98 N1_ := zr98_f hsN8_ (by decide)
  have c9_ : zRp b_ n_ N8_ := zRp.fr hsN8_ c2_ (by decide) (by decide)
  have c10_ : zIF N8_ := zIF.fr hsN8_ c3_ (by decide) (by decide)
  have c11_ : zB 83 24 0 5 N8_ := zB.fr hsN8_ c4_ (by decide) (by decide)
  have c12_ : zB 85 144 0 5 N8_ := zB.fr hsN8_ c5_ (by decide) (by decide)
  have c13_ : zMvq mv0_ N8_ := zMvq.fr hsN8_ c6_ (by decide) (by decide)
  have c14_ : zRNi nm0_ F0_ K0_ N8_ := zRNi.fr hsN8_ c7_ (by decide) (by decide)
  refine zw_aload_n (pc := 10) (n := 0) (x := 81) rfl (zdal_p dlC_M_troupe_57 (i := 6) rfl) ?_
  refine zw_iconst (pc := 11) (v := Int32.ofInt 0) (by decide) (zdal_p dlC_M_troupe_57 (i := 7) rfl) ?_
  refine zr_putI (hf_N8_.w hW) (pc := 12) f_M_299 rfl rfl ⟨by omega, by omega⟩ rfl rfl (zdal_p dlC_M_troupe_57 (i := 8) rfl) (fun N15_ hsN15_ hvN15_ => ?_)
  have hf_N15_ : zFr [1, 2, 3, 4, 5, 6, 7, 8, 9, 10, 11, 12, 13, 14, 16, 17, 18, 20, 25, 26, 38, 39, 41, 42, 43, 58, 60] [83, 84, 85, 86, 87, 88, 89, 90, 91, 92, 93, 94, 95, 96, 97, 98, 100, 101, 102, 103, 104] Mz N15_ := hf_N8_.tr hsN15_ (by decide) (by decide)
  have e1_N15_ : ze N15_ 81 1 = ze N8_ 81 1 := hsN15_.e (by decide)
  have e4_N15_ : ze N15_ 81 4 = ze N8_ 81 4 := hsN15_.e (by decide)
  have e7_N15_ : ze N15_ 81 7 = ze N8_ 81 7 := hsN15_.e (by decide)
  have e12_N15_ : ze N15_ 81 12 = ze N8_ 81 12 := hsN15_.e (by decide)
  have e13_N15_ : ze N15_ 81 13 = ze N8_ 81 13 := hsN15_.e (by decide)
  have r14_N15_ := ze_r N15_ 81 14
  have e16_N15_ : ze N15_ 81 16 = ze N8_ 81 16 := hsN15_.e (by decide)
  have e18_N15_ : ze N15_ 81 18 = ze N8_ 81 18 := hsN15_.e (by decide)
  have e20_N15_ : ze N15_ 81 20 = ze N8_ 81 20 := hsN15_.e (by decide)
  have e58_N15_ : ze N15_ 81 58 = ze N8_ 81 58 := hsN15_.e (by decide)
  have e60_N15_ : ze N15_ 81 60 = ze N8_ 81 60 := hsN15_.e (by decide)
  have qzr98_N15_ : zr98 N15_ = zr98 N8_ := zr98_f hsN15_ (by decide)
  have c16_ : zRp b_ n_ N15_ := zRp.fr hsN15_ c9_ (by decide) (by decide)
  have c17_ : zIF N15_ := zIF.fr hsN15_ c10_ (by decide) (by decide)
  have c18_ : zB 83 24 0 5 N15_ := zB.fr hsN15_ c11_ (by decide) (by decide)
  have c19_ : zB 85 144 0 5 N15_ := zB.fr hsN15_ c12_ (by decide) (by decide)
  have c20_ : zMvq mv0_ N15_ := zMvq.fr hsN15_ c13_ (by decide) (by decide)
  have c21_ : zRNi nm0_ F0_ K0_ N15_ := zRNi.fr hsN15_ c14_ (by decide) (by decide)
  refine zw_aload_n (pc := 15) (n := 0) (x := 81) rfl (zdal_p dlC_M_troupe_57 (i := 9) rfl) ?_
  refine zr_callV (hf_N15_.w hW) hf_N15_.x (pc := 16) [] [] l_M_367 (c_M_beginsF l N15_ (hf_N15_.w hW) b_ n_ c16_) rfl rfl rfl (by decide) (Nat.le_of_ble_eq_true rfl) (zdal_p dlC_M_troupe_57 (i := 10) rfl) ?_
  rintro _ N22_ ⟨rfl, hsN22_, ⟨hp0_N22_, hp1_N22_, hp2_N22_, hp3_N22_, hp4_N22_⟩⟩
  have hf_N22_ : zFr [1, 2, 3, 4, 5, 6, 7, 8, 9, 10, 11, 12, 13, 14, 16, 17, 18, 20, 25, 26, 38, 39, 41, 42, 43, 58, 60] [83, 84, 85, 86, 87, 88, 89, 90, 91, 92, 93, 94, 95, 96, 97, 98, 100, 101, 102, 103, 104] Mz N22_ := hf_N15_.tr hsN22_ (by decide) (by decide)
  have r1_N22_ := ze_r N22_ 81 1
  have r4_N22_ := ze_r N22_ 81 4
  have r7_N22_ := ze_r N22_ 81 7
  have e12_N22_ : ze N22_ 81 12 = ze N15_ 81 12 := hsN22_.e (by decide)
  have e13_N22_ : ze N22_ 81 13 = ze N15_ 81 13 := hsN22_.e (by decide)
  have e14_N22_ : ze N22_ 81 14 = ze N15_ 81 14 := hsN22_.e (by decide)
  have e16_N22_ : ze N22_ 81 16 = ze N15_ 81 16 := hsN22_.e (by decide)
  have e18_N22_ : ze N22_ 81 18 = ze N15_ 81 18 := hsN22_.e (by decide)
  have e20_N22_ : ze N22_ 81 20 = ze N15_ 81 20 := hsN22_.e (by decide)
  have e58_N22_ : ze N22_ 81 58 = ze N15_ 81 58 := hsN22_.e (by decide)
  have e60_N22_ : ze N22_ 81 60 = ze N15_ 81 60 := hsN22_.e (by decide)
  have qzr98_N22_ : zr98 N22_ = zr98 N15_ := zr98_f hsN22_ (by decide)
  have c24_ : zIF N22_ := zIF.fr hsN22_ c17_ (by decide) (by decide)
  have c25_ : zB 83 24 0 5 N22_ := zB.fr hsN22_ c18_ (by decide) (by decide)
  have c26_ : zB 85 144 0 5 N22_ := zB.fr hsN22_ c19_ (by decide) (by decide)
  have c27_ : zMvq mv0_ N22_ := zMvq.fr hsN22_ c20_ (by decide) (by decide)
  have c28_ : zRNi nm0_ F0_ K0_ N22_ := zRNi.fr hsN22_ c21_ (by decide) (by decide)
  show zW l m_M_troupe (zn Mz + 0, zw Mz + 0) N22_ 19 [some (.ref 81)] [] _
  have hs0_ : (ze N22_ 81 4).toNat = (zru zpB b_ n_ 0) := by omega
  refine zw_aload_n (pc := 19) (n := 0) (x := 81) rfl (zdal_p dlC_M_troupe_57 (i := 11) rfl) ?_
  refine zr_callV (hf_N22_.w hW) hf_N22_.x (pc := 20) [] [] l_M_370 (c_M_readsN l N22_ (hf_N22_.w hW) b_ n_ hp0_N22_ hp1_N22_ (show ze N22_ 81 7 = 0 by first | with_reducible assumption | assumption | omega) (show ze N22_ 81 13 = 0 by first | with_reducible assumption | assumption | omega) (show ze N22_ 81 14 = 0 by first | with_reducible assumption | assumption | omega) c25_ c26_) rfl rfl rfl (by decide) (Nat.le_of_ble_eq_true rfl) (zdal_p dlC_M_troupe_57 (i := 12) rfl) ?_
  rintro _ N29_ ⟨rfl, hsN29_, ⟨hp0_N29_, hp1_N29_, hp2_N29_, hp3_N29_, hp4_N29_, hp5_N29_, hp6_N29_, hp7_N29_⟩⟩
  have hf_N29_ : zFr [1, 2, 3, 4, 5, 6, 7, 8, 9, 10, 11, 12, 13, 14, 16, 17, 18, 20, 25, 26, 38, 39, 41, 42, 43, 58, 60] [83, 84, 85, 86, 87, 88, 89, 90, 91, 92, 93, 94, 95, 96, 97, 98, 100, 101, 102, 103, 104] Mz N29_ := hf_N22_.tr hsN29_ (by decide) (by decide)
  have e1_N29_ : ze N29_ 81 1 = ze N22_ 81 1 := hsN29_.e (by decide)
  have r4_N29_ := ze_r N29_ 81 4
  have r7_N29_ := ze_r N29_ 81 7
  have r12_N29_ := ze_r N29_ 81 12
  have r13_N29_ := ze_r N29_ 81 13
  have r14_N29_ := ze_r N29_ 81 14
  have e16_N29_ : ze N29_ 81 16 = ze N22_ 81 16 := hsN29_.e (by decide)
  have e18_N29_ : ze N29_ 81 18 = ze N22_ 81 18 := hsN29_.e (by decide)
  have r20_N29_ := ze_r N29_ 81 20
  have e58_N29_ : ze N29_ 81 58 = ze N22_ 81 58 := hsN29_.e (by decide)
  have e60_N29_ : ze N29_ 81 60 = ze N22_ 81 60 := hsN29_.e (by decide)
  have qzr98_N29_ : zr98 N29_ = zr98 N22_ := zr98_f hsN29_ (by decide)
  have c31_ : zIF N29_ := zIF.fr hsN29_ c24_ (by decide) (by decide)
  have c32_ : zMvq mv0_ N29_ := zMvq.fr hsN29_ c27_ (by decide) (by decide)
  have c33_ : zRNi nm0_ F0_ K0_ N29_ := zRNi.fr hsN29_ c28_ (by decide) (by decide)
  have c34_ : zRb b_ n_ N29_ := zRb.fr hsN29_ hp0_N22_ (by decide) (by decide)
  rcases hp7_N29_ with ⟨ha20_0_hp7_N29_, ha20_1_hp7_N29_⟩ | ⟨ha20_0_hp7_N29_, ha20_1_hp7_N29_, ha20_2_hp7_N29_, ha20_3_hp7_N29_, ha20_4_hp7_N29_, ha20_5_hp7_N29_⟩
  · skip
    have hB_ := ha20_1_hp7_N29_
    rw [hs0_] at hB_
    show zW l m_M_troupe (zn Mz + 0, zw Mz + 0) N29_ 23 [some (.ref 81)] [] _
    refine zw_aload_n (pc := 23) (n := 0) (x := 81) rfl (zdal_p dlC_M_troupe_57 (i := 13) rfl) ?_
    refine zr_callV (hf_N29_.w hW) hf_N29_.x (pc := 24) [] [] l_M_373 (c_M_tells l N29_ (hf_N29_.w hW) ) rfl rfl rfl (by decide) (Nat.le_of_ble_eq_true rfl) (zdal_p dlC_M_troupe_57 (i := 14) rfl) ?_
    rintro _ N35_ ⟨rfl, hsN35_, -⟩
    have hf_N35_ : zFr [1, 2, 3, 4, 5, 6, 7, 8, 9, 10, 11, 12, 13, 14, 16, 17, 18, 20, 25, 26, 38, 39, 41, 42, 43, 58, 60] [83, 84, 85, 86, 87, 88, 89, 90, 91, 92, 93, 94, 95, 96, 97, 98, 100, 101, 102, 103, 104] Mz N35_ := hf_N29_.tr hsN35_ (by decide) (by decide)
    have e1_N35_ : ze N35_ 81 1 = ze N29_ 81 1 := hsN35_.e (by decide)
    have e4_N35_ : ze N35_ 81 4 = ze N29_ 81 4 := hsN35_.e (by decide)
    have e7_N35_ : ze N35_ 81 7 = ze N29_ 81 7 := hsN35_.e (by decide)
    have e12_N35_ : ze N35_ 81 12 = ze N29_ 81 12 := hsN35_.e (by decide)
    have e13_N35_ : ze N35_ 81 13 = ze N29_ 81 13 := hsN35_.e (by decide)
    have e14_N35_ : ze N35_ 81 14 = ze N29_ 81 14 := hsN35_.e (by decide)
    have e16_N35_ : ze N35_ 81 16 = ze N29_ 81 16 := hsN35_.e (by decide)
    have e18_N35_ : ze N35_ 81 18 = ze N29_ 81 18 := hsN35_.e (by decide)
    have e20_N35_ : ze N35_ 81 20 = ze N29_ 81 20 := hsN35_.e (by decide)
    have e58_N35_ : ze N35_ 81 58 = ze N29_ 81 58 := hsN35_.e (by decide)
    have e60_N35_ : ze N35_ 81 60 = ze N29_ 81 60 := hsN35_.e (by decide)
    have qzr98_N35_ : zr98 N35_ = zr98 N29_ := zr98_f hsN35_ (by decide)
    have c37_ : zIF N35_ := zIF.fr hsN35_ c31_ (by decide) (by decide)
    have c38_ : zMvq mv0_ N35_ := zMvq.fr hsN35_ c32_ (by decide) (by decide)
    have c39_ : zRNi nm0_ F0_ K0_ N35_ := zRNi.fr hsN35_ c33_ (by decide) (by decide)
    have c40_ : zRb b_ n_ N35_ := zRb.fr hsN35_ c34_ (by decide) (by decide)
    have c41_ : zRt b_ n_ N35_ := zRt.fr hsN35_ hp0_N29_ (by decide) (by decide)
    have c42_ : zB 83 24 0 5 N35_ := zB.fr hsN35_ hp5_N29_ (by decide) (by decide)
    have c43_ : zB 85 144 0 5 N35_ := zB.fr hsN35_ hp6_N29_ (by decide) (by decide)
    show zW l m_M_troupe (zn Mz + 0, zw Mz + 0) N35_ 27 [some (.ref 81)] [] _
    refine zw_aload_n (pc := 27) (n := 0) (x := 81) rfl (zdal_p dlC_M_troupe_57 (i := 15) rfl) ?_
    refine zr_getI (hf_N35_.w hW) (pc := 28) f_M_172 rfl (zdal_p dlC_M_troupe_57 (i := 16) rfl) ?_
    refine zr_if_le (pc := 31) (tgt := 40) ⟨(ze_r N35_ 81 7).1, (ze_r N35_ 81 7).2⟩ (by decide) (zdal_p dlC_M_troupe_57 (i := 17) rfl) (fun hc_31 => ?_) (fun hc_31 => ?_)
    · skip
      exfalso; omega
    · skip
      refine zw_aload_n (pc := 34) (n := 0) (x := 81) rfl (zdal_p dlC_M_troupe_57 (i := 18) rfl) ?_
      refine zr_callV (hf_N35_.w hW) hf_N35_.x (pc := 35) [] [] l_M_376 (c_M_goesBackU l N35_ (hf_N35_.w hW) mv0_ b_ n_ F0_ K0_ hF0_ nm0_ c37_ (show 0 ≤ ze N35_ 81 18 by first | with_reducible assumption | assumption | omega) (show ze N35_ 81 18 ≤ 8 by first | with_reducible assumption | assumption | omega) c42_ c43_ c38_ c39_) rfl rfl rfl (by decide) (Nat.le_of_ble_eq_true rfl) (zdal_p dlC_M_troupe_57 (i := 19) rfl) ?_
      rintro _ N44_ ⟨rfl, hsN44_, ⟨hp0_N44_, hp1_N44_, hp2_N44_, hp3_N44_, hp4_N44_, hp5_N44_, hp6_N44_, hp7_N44_, hp8_N44_⟩⟩
      have hf_N44_ : zFr [1, 2, 3, 4, 5, 6, 7, 8, 9, 10, 11, 12, 13, 14, 16, 17, 18, 20, 25, 26, 38, 39, 41, 42, 43, 58, 60] [83, 84, 85, 86, 87, 88, 89, 90, 91, 92, 93, 94, 95, 96, 97, 98, 100, 101, 102, 103, 104] Mz N44_ := hf_N35_.tr hsN44_ (by decide) (by decide)
      have e1_N44_ : ze N44_ 81 1 = ze N35_ 81 1 := hsN44_.e (by decide)
      have e4_N44_ : ze N44_ 81 4 = ze N35_ 81 4 := hsN44_.e (by decide)
      have e7_N44_ : ze N44_ 81 7 = ze N35_ 81 7 := hsN44_.e (by decide)
      have r12_N44_ := ze_r N44_ 81 12
      have r13_N44_ := ze_r N44_ 81 13
      have r14_N44_ := ze_r N44_ 81 14
      have e16_N44_ : ze N44_ 81 16 = ze N35_ 81 16 := hsN44_.e (by decide)
      have e18_N44_ : ze N44_ 81 18 = ze N35_ 81 18 := hsN44_.e (by decide)
      have r20_N44_ := ze_r N44_ 81 20
      have r58_N44_ := ze_r N44_ 81 58
      have e60_N44_ : ze N44_ 81 60 = ze N35_ 81 60 := hsN44_.e (by decide)
      have qzr98_N44_ : zr98 N44_ = zr98 N35_ := zr98_f hsN44_ (by decide)
      have c46_ : zIF N44_ := zIF.fr hsN44_ c37_ (by decide) (by decide)
      have c47_ : zMvq mv0_ N44_ := zMvq.fr hsN44_ c38_ (by decide) (by decide)
      have c48_ : zRNi nm0_ F0_ K0_ N44_ := zRNi.fr hsN44_ c39_ (by decide) (by decide)
      have c49_ : zRb b_ n_ N44_ := zRb.fr hsN44_ c40_ (by decide) (by decide)
      have c50_ : zRt b_ n_ N44_ := zRt.fr hsN44_ c41_ (by decide) (by decide)
      show zW l m_M_troupe (zn Mz + 0, zw Mz + 0) N44_ 38 [some (.ref 81)] [] _
      have hEx_ : (∃ T : zGT, T ∈ gTabs ∧ zGB T N44_) := by obtain ⟨T, hTt, hGB, -⟩ := id hp0_N44_; exact ⟨T, hTt, hGB⟩
      have hq0_ : ∃ T : zGT, T ∈ gTabs ∧ zGB T N44_ ∧ zTm mv0_ T ∧ zCdS (ze Mz 81 16) mv0_ T N44_ := by obtain ⟨T, h1_, h2_, h3_, h4_⟩ := id hp0_N44_; exact ⟨T, h1_, h2_, h3_, h4_.p (by omega)⟩
      have h98_ := qzr98_N44_.trans (qzr98_N35_.trans (qzr98_N29_.trans (qzr98_N22_.trans (qzr98_N15_.trans (qzr98_N8_.trans (qzr98_N1_))))))
      have hres_ : (((-1 : Int) = -1 ∧ zTrB b_ n_ (zru zpB b_ n_ 0) ∧ (∃ T : zGT, T ∈ gTabs ∧ zGB T N44_ ∧ zTm mv0_ T ∧ zCdS (ze Mz 81 16) mv0_ T N44_) ∧ zMvq mv0_ N44_ ∧ ze N44_ 81 16 = ze Mz 81 16 ∧ zRNm nm0_ F0_ K0_ b_ n_ N44_ ∧ zRNi nm0_ F0_ K0_ N44_ ∧ (∀ j : Nat, zg N44_ 98 j = zg Mz 98 j) ∧ ze N44_ 81 60 = ze Mz 81 60) ∨ ∃ P : Nat, ∃ mv : List Nat, ∃ T : zGT, ∃ nm : List (Int × (Nat → Int)), zTrN b_ n_ (zru zpB b_ n_ 0) P mv T nm ∧ (-1 : Int) = (gN T : Int) ∧ zGB T N44_ ∧ zMvq mv N44_ ∧ ze N44_ 81 16 = (P : Int) ∧ zCdS (P : Int) mv T N44_ ∧ zRNm nm (gF T).length (gmkI T) b_ n_ N44_ ∧ zRNi nm (gF T).length (gmkI T) N44_ ∧ zZrJ 98 64 N44_ ∧ ze N44_ 81 60 = 0) := Or.inl ⟨rfl, hB_, hq0_, hp5_N44_, by omega, hp6_N44_, hp7_N44_, fun j => congrFun h98_ j, by omega⟩
      refine zw_iconst (pc := 38) (v := Int32.ofInt (-1)) (by decide) (zdal_p dlC_M_troupe_57 (i := 20) rfl) ?_
      exact zr_iret (pc := 39) (ty := .int) rfl rfl ⟨by omega, by omega⟩ hf_N44_ ⟨(show ze N44_ 81 1 = 0 by first | with_reducible assumption | assumption | omega), (show 0 ≤ ze N44_ 81 14 by first | with_reducible assumption | assumption | omega), (show ze N44_ 81 14 ≤ 8 by first | with_reducible assumption | assumption | omega), (show 0 ≤ ze N44_ 81 18 by first | with_reducible assumption | assumption | omega), (show ze N44_ 81 18 ≤ 8 by first | with_reducible assumption | assumption | omega), (show 0 ≤ ze N44_ 81 60 by first | with_reducible assumption | assumption | omega), (show ze N44_ 81 60 ≤ 12 by first | with_reducible assumption | assumption | omega), hp3_N44_, hp4_N44_, (show (∃ T : zGT, T ∈ gTabs ∧ zGB T N44_) by exact hEx_), (show ((((-1)) = -1 ∧ zTrB b_ n_ (zru zpB b_ n_ 0) ∧ (∃ T : zGT, T ∈ gTabs ∧ zGB T N44_ ∧ zTm mv0_ T ∧ zCdS (ze Mz 81 16) mv0_ T N44_) ∧ zMvq mv0_ N44_ ∧ ze N44_ 81 16 = ze Mz 81 16 ∧ zRNm nm0_ F0_ K0_ b_ n_ N44_ ∧ zRNi nm0_ F0_ K0_ N44_ ∧ (∀ j : Nat, zg N44_ 98 j = zg Mz 98 j) ∧ ze N44_ 81 60 = ze Mz 81 60) ∨ ∃ P : Nat, ∃ mv : List Nat, ∃ T : zGT, ∃ nm : List (Int × (Nat → Int)), zTrN b_ n_ (zru zpB b_ n_ 0) P mv T nm ∧ ((-1)) = (gN T : Int) ∧ zGB T N44_ ∧ zMvq mv N44_ ∧ ze N44_ 81 16 = (P : Int) ∧ zCdS (P : Int) mv T N44_ ∧ zRNm nm (gF T).length (gmkI T) b_ n_ N44_ ∧ zRNi nm (gF T).length (gmkI T) N44_ ∧ zZrJ 98 64 N44_ ∧ ze N44_ 81 60 = 0) by exact hres_), (show ze N44_ 81 58 = 0 by first | with_reducible assumption | assumption | omega)⟩ (zdal_p dlC_M_troupe_57 (i := 21) rfl)
  · skip
    obtain ⟨T, mv_, P_, nmt_, hTt, hGB, hG_, hMs_, hPq_, hCd_, hnm_⟩ := id ha20_5_hp7_N29_
    rw [hs0_] at hG_
    show zW l m_M_troupe (zn Mz + 0, zw Mz + 0) N29_ 23 [some (.ref 81)] [] _
    refine zw_aload_n (pc := 23) (n := 0) (x := 81) rfl (zdal_p dlC_M_troupe_57 (i := 13) rfl) ?_
    refine zr_callV (hf_N29_.w hW) hf_N29_.x (pc := 24) [] [] l_M_373 (c_M_tells l N29_ (hf_N29_.w hW) ) rfl rfl rfl (by decide) (Nat.le_of_ble_eq_true rfl) (zdal_p dlC_M_troupe_57 (i := 14) rfl) ?_
    rintro _ N51_ ⟨rfl, hsN51_, -⟩
    have hf_N51_ : zFr [1, 2, 3, 4, 5, 6, 7, 8, 9, 10, 11, 12, 13, 14, 16, 17, 18, 20, 25, 26, 38, 39, 41, 42, 43, 58, 60] [83, 84, 85, 86, 87, 88, 89, 90, 91, 92, 93, 94, 95, 96, 97, 98, 100, 101, 102, 103, 104] Mz N51_ := hf_N29_.tr hsN51_ (by decide) (by decide)
    have e1_N51_ : ze N51_ 81 1 = ze N29_ 81 1 := hsN51_.e (by decide)
    have e4_N51_ : ze N51_ 81 4 = ze N29_ 81 4 := hsN51_.e (by decide)
    have e7_N51_ : ze N51_ 81 7 = ze N29_ 81 7 := hsN51_.e (by decide)
    have e12_N51_ : ze N51_ 81 12 = ze N29_ 81 12 := hsN51_.e (by decide)
    have e13_N51_ : ze N51_ 81 13 = ze N29_ 81 13 := hsN51_.e (by decide)
    have e14_N51_ : ze N51_ 81 14 = ze N29_ 81 14 := hsN51_.e (by decide)
    have e16_N51_ : ze N51_ 81 16 = ze N29_ 81 16 := hsN51_.e (by decide)
    have e18_N51_ : ze N51_ 81 18 = ze N29_ 81 18 := hsN51_.e (by decide)
    have e20_N51_ : ze N51_ 81 20 = ze N29_ 81 20 := hsN51_.e (by decide)
    have e58_N51_ : ze N51_ 81 58 = ze N29_ 81 58 := hsN51_.e (by decide)
    have e60_N51_ : ze N51_ 81 60 = ze N29_ 81 60 := hsN51_.e (by decide)
    have qzr98_N51_ : zr98 N51_ = zr98 N29_ := zr98_f hsN51_ (by decide)
    have c53_ : zIF N51_ := zIF.fr hsN51_ c31_ (by decide) (by decide)
    have c54_ : zMvq mv0_ N51_ := zMvq.fr hsN51_ c32_ (by decide) (by decide)
    have c55_ : zRNi nm0_ F0_ K0_ N51_ := zRNi.fr hsN51_ c33_ (by decide) (by decide)
    have c56_ : zRb b_ n_ N51_ := zRb.fr hsN51_ c34_ (by decide) (by decide)
    have c57_ : zRt b_ n_ N51_ := zRt.fr hsN51_ hp0_N29_ (by decide) (by decide)
    have c58_ : zB 83 24 0 5 N51_ := zB.fr hsN51_ hp5_N29_ (by decide) (by decide)
    have c59_ : zB 85 144 0 5 N51_ := zB.fr hsN51_ hp6_N29_ (by decide) (by decide)
    have c60_ : zPm N51_ := zPm.fr hsN51_ ha20_3_hp7_N29_ (by decide) (by decide)
    have c61_ : zFin N51_ := zFin.fr hsN51_ ha20_4_hp7_N29_ (by decide) (by decide)
    have c62_ : zGB T N51_ := zGB.fr hsN51_ hGB (by decide) (by decide)
    have c63_ : zMvt mv_ N51_ := zMvt.fr hsN51_ hMs_ (by decide) (by decide)
    have c64_ : zCdS (P_ : Int) mv_ T N51_ := zCdS.fr hsN51_ hCd_ (by decide) (by decide)
    have c65_ : zRNm nmt_ (gF T).length (gmkI T) b_ n_ N51_ := zRNm.fr hsN51_ hnm_ (by decide) (by decide)
    show zW l m_M_troupe (zn Mz + 0, zw Mz + 0) N51_ 27 [some (.ref 81)] [] _
    refine zw_aload_n (pc := 27) (n := 0) (x := 81) rfl (zdal_p dlC_M_troupe_57 (i := 15) rfl) ?_
    refine zr_getI (hf_N51_.w hW) (pc := 28) f_M_172 rfl (zdal_p dlC_M_troupe_57 (i := 16) rfl) ?_
    refine zr_if_le (pc := 31) (tgt := 40) ⟨(ze_r N51_ 81 7).1, (ze_r N51_ 81 7).2⟩ (by decide) (zdal_p dlC_M_troupe_57 (i := 17) rfl) (fun hc_31 => ?_) (fun hc_31 => ?_)
    · skip
      refine zw_aload_n (pc := 40) (n := 0) (x := 81) rfl (zdal_p dlC_M_troupe_57 (i := 22) rfl) ?_
      refine zr_callV (hf_N51_.w hW) hf_N51_.x (pc := 41) [] [] l_M_121 (c_M_inForceU l N51_ (hf_N51_.w hW) mv_ b_ n_ (gF T).length (gmkI T) (show (gF T).length ≤ 64 by have h_ := (gT_zTA hTt).1.2; omega) nmt_ (show 1 ≤ ze N51_ 81 12 by first | with_reducible assumption | assumption | omega) (show ze N51_ 81 12 ≤ 6 by first | with_reducible assumption | assumption | omega) (show 0 ≤ ze N51_ 81 13 by first | with_reducible assumption | assumption | omega) (show ze N51_ 81 13 ≤ 4 by first | with_reducible assumption | assumption | omega) c60_ c61_ c58_ (show 0 ≤ ze N51_ 81 14 by first | with_reducible assumption | assumption | omega) (show ze N51_ 81 14 ≤ 8 by first | with_reducible assumption | assumption | omega) c63_ c65_) rfl rfl rfl (by decide) (Nat.le_of_ble_eq_true rfl) (zdal_p dlC_M_troupe_57 (i := 23) rfl) ?_
      rintro _ N66_ ⟨rfl, hsN66_, ⟨hp0_N66_, hp1_N66_, hp2_N66_, hp3_N66_, hp4_N66_, hp5_N66_, hp6_N66_, hp7_N66_, hp8_N66_⟩⟩
      have hf_N66_ : zFr [1, 2, 3, 4, 5, 6, 7, 8, 9, 10, 11, 12, 13, 14, 16, 17, 18, 20, 25, 26, 38, 39, 41, 42, 43, 58, 60] [83, 84, 85, 86, 87, 88, 89, 90, 91, 92, 93, 94, 95, 96, 97, 98, 100, 101, 102, 103, 104] Mz N66_ := hf_N51_.tr hsN66_ (by decide) (by decide)
      have e1_N66_ : ze N66_ 81 1 = ze N51_ 81 1 := hsN66_.e (by decide)
      have e4_N66_ : ze N66_ 81 4 = ze N51_ 81 4 := hsN66_.e (by decide)
      have e7_N66_ : ze N66_ 81 7 = ze N51_ 81 7 := hsN66_.e (by decide)
      have e12_N66_ : ze N66_ 81 12 = ze N51_ 81 12 := hsN66_.e (by decide)
      have e13_N66_ : ze N66_ 81 13 = ze N51_ 81 13 := hsN66_.e (by decide)
      have e14_N66_ : ze N66_ 81 14 = ze N51_ 81 14 := hsN66_.e (by decide)
      have r16_N66_ := ze_r N66_ 81 16
      have r18_N66_ := ze_r N66_ 81 18
      have e20_N66_ : ze N66_ 81 20 = ze N51_ 81 20 := hsN66_.e (by decide)
      have r58_N66_ := ze_r N66_ 81 58
      have r60_N66_ := ze_r N66_ 81 60
      have c68_ : zRb b_ n_ N66_ := zRb.fr hsN66_ c56_ (by decide) (by decide)
      have c69_ : zRt b_ n_ N66_ := zRt.fr hsN66_ c57_ (by decide) (by decide)
      have c70_ : zB 83 24 0 5 N66_ := zB.fr hsN66_ c58_ (by decide) (by decide)
      have c71_ : zB 85 144 0 5 N66_ := zB.fr hsN66_ c59_ (by decide) (by decide)
      have c72_ : zPm N66_ := zPm.fr hsN66_ c60_ (by decide) (by decide)
      have c73_ : zFin N66_ := zFin.fr hsN66_ c61_ (by decide) (by decide)
      have c74_ : zGB T N66_ := zGB.fr hsN66_ c62_ (by decide) (by decide)
      have c75_ : zMvt mv_ N66_ := zMvt.fr hsN66_ c63_ (by decide) (by decide)
      have c76_ : zCdS (P_ : Int) mv_ T N66_ := zCdS.fr hsN66_ c64_ (by decide) (by decide)
      have c77_ : zRNm nmt_ (gF T).length (gmkI T) b_ n_ N66_ := zRNm.fr hsN66_ c65_ (by decide) (by decide)
      show zW l m_M_troupe (zn Mz + 0, zw Mz + 0) N66_ 44 [some (.ref 81)] [] _
      have hGB2_ : zGB T N66_ := c74_
      have hEx_ : (∃ T : zGT, T ∈ gTabs ∧ zGB T N66_) := ⟨T, hTt, hGB2_⟩
      have h20_ := hGB2_.1.1
      have hres_ : (((ze N66_ 81 20) = -1 ∧ zTrB b_ n_ (zru zpB b_ n_ 0) ∧ (∃ T : zGT, T ∈ gTabs ∧ zGB T N66_ ∧ zTm mv0_ T ∧ zCdS (ze Mz 81 16) mv0_ T N66_) ∧ zMvq mv0_ N66_ ∧ ze N66_ 81 16 = ze Mz 81 16 ∧ zRNm nm0_ F0_ K0_ b_ n_ N66_ ∧ zRNi nm0_ F0_ K0_ N66_ ∧ (∀ j : Nat, zg N66_ 98 j = zg Mz 98 j) ∧ ze N66_ 81 60 = ze Mz 81 60) ∨ ∃ P : Nat, ∃ mv : List Nat, ∃ T : zGT, ∃ nm : List (Int × (Nat → Int)), zTrN b_ n_ (zru zpB b_ n_ 0) P mv T nm ∧ (ze N66_ 81 20) = (gN T : Int) ∧ zGB T N66_ ∧ zMvq mv N66_ ∧ ze N66_ 81 16 = (P : Int) ∧ zCdS (P : Int) mv T N66_ ∧ zRNm nm (gF T).length (gmkI T) b_ n_ N66_ ∧ zRNi nm (gF T).length (gmkI T) N66_ ∧ zZrJ 98 64 N66_ ∧ ze N66_ 81 60 = 0) := Or.inr ⟨P_, mv_, T, nmt_, hG_, h20_, hGB2_, hp4_N66_, by omega, c76_, c77_, hp6_N66_, hp7_N66_, by omega⟩
      refine zw_aload_n (pc := 44) (n := 0) (x := 81) rfl (zdal_p dlC_M_troupe_58 (i := 0) rfl) ?_
      refine zr_getI (hf_N66_.w hW) (pc := 45) f_M_196 rfl (zdal_p dlC_M_troupe_58 (i := 1) rfl) ?_
      exact zr_iret (pc := 48) (ty := .int) rfl rfl ⟨by omega, by omega⟩ hf_N66_ ⟨(show ze N66_ 81 1 = 0 by first | with_reducible assumption | assumption | omega), (show 0 ≤ ze N66_ 81 14 by first | with_reducible assumption | assumption | omega), (show ze N66_ 81 14 ≤ 8 by first | with_reducible assumption | assumption | omega), (show 0 ≤ ze N66_ 81 18 by first | with_reducible assumption | assumption | omega), (show ze N66_ 81 18 ≤ 8 by first | with_reducible assumption | assumption | omega), (show 0 ≤ ze N66_ 81 60 by first | with_reducible assumption | assumption | omega), (show ze N66_ 81 60 ≤ 12 by first | with_reducible assumption | assumption | omega), hp0_N66_, c70_, (show (∃ T : zGT, T ∈ gTabs ∧ zGB T N66_) by exact hEx_), (show (((ze N66_ 81 20) = -1 ∧ zTrB b_ n_ (zru zpB b_ n_ 0) ∧ (∃ T : zGT, T ∈ gTabs ∧ zGB T N66_ ∧ zTm mv0_ T ∧ zCdS (ze Mz 81 16) mv0_ T N66_) ∧ zMvq mv0_ N66_ ∧ ze N66_ 81 16 = ze Mz 81 16 ∧ zRNm nm0_ F0_ K0_ b_ n_ N66_ ∧ zRNi nm0_ F0_ K0_ N66_ ∧ (∀ j : Nat, zg N66_ 98 j = zg Mz 98 j) ∧ ze N66_ 81 60 = ze Mz 81 60) ∨ ∃ P : Nat, ∃ mv : List Nat, ∃ T : zGT, ∃ nm : List (Int × (Nat → Int)), zTrN b_ n_ (zru zpB b_ n_ 0) P mv T nm ∧ (ze N66_ 81 20) = (gN T : Int) ∧ zGB T N66_ ∧ zMvq mv N66_ ∧ ze N66_ 81 16 = (P : Int) ∧ zCdS (P : Int) mv T N66_ ∧ zRNm nm (gF T).length (gmkI T) b_ n_ N66_ ∧ zRNi nm (gF T).length (gmkI T) N66_ ∧ zZrJ 98 64 N66_ ∧ ze N66_ 81 60 = 0) by exact hres_), (show ze N66_ 81 58 = 0 by first | with_reducible assumption | assumption | omega)⟩ (zdal_p dlC_M_troupe_58 (i := 2) rfl)
    · skip
      exfalso; omega
def zWk8 (l : Launch) (k : zMeth) (n : Nat) (vs : List Value) (M : zMem) : Prop := ∃ Q' : Option Value → zMem → Prop, zC l k 0 0 vs M Q' ∧ ∀ r N, Q' r N → (∃ v : Value, r = some v ∧ v.category = n ∧ ∀ ad, zv ad v = v) ∧ zGo M N (ze M 81 1) ∧ (∀ j : Nat, ze N 82 j = ze M 82 j) ∧ ∀ P mv T, zRSu P mv T M → zRSu P mv T N
def zWk9 (l : Launch) (k : zMeth) (n : Nat) (vs : List Value) (M : zMem) : Prop := ∃ Q' : Option Value → zMem → Prop, zC l k 0 0 vs M Q' ∧ ∀ r N, Q' r N → (∃ v : Value, r = some v ∧ v.category = n ∧ ∀ ad, zv ad v = v) ∧ zGo M N 0 ∧ ∀ P mv T, zRSu P mv T M → zRSu P mv T N
def zfR (P : Nat) (mv : List Nat) (T : zGT) (v : Int) : Prop := zfUn T v
theorem zfR_u {P : Nat} {mv : List Nat} {T : zGT} {v w : Int} (_ : T ∈ gTabs) (h : zfR P mv T v) (h2 : zfR P mv T w) : v = w := zfUn_u h h2
theorem w8_feed (l : Launch) (M : zMem) (hM : zMt M) (h : zWd M) (x0 : Int32) (x1 : Int32) (x2 : Int32) (x3 : Int32) (x4 : Int32) : ∃ Q' : Option Value → zMem → Prop, zC l m_M_feed 0 0 [.ref 81, .int x0, .int x1, .int x2, .int x3, .int x4] M Q' ∧ ∀ r N, Q' r N → ∃ v : Int, r = some (.int (Int32.ofInt v)) ∧ (∀ P mv T, zRSu P mv T M → zRSu P mv T N) ∧ ((700 < ze M 81 1 + 20 ∧ v = -1 ∧ zGo M N (ze M 81 1) ∧ ∀ j : Nat, ze N 82 j = ze M 82 j) ∨ (ze M 81 1 + 20 ≤ 700 ∧ v = ze M 81 1 + 20 ∧ zGo M N (ze M 81 1 + 20) ∧ ∀ j : Nat, ze N 82 j = zfd5 (fun j => ze M 82 j) (ze M 81 1) x0.toInt x1.toInt x2.toInt x3.toInt x4.toInt j)) := by
  obtain ⟨h1, h14, h18, h60, h57, hIF, h83, h110, T, hT, hB⟩ := id h
  have hO := gTabs_ok T hT
  have hX := gTabs_ex T hT
  obtain ⟨D, hD⟩ := hX.2.2.2.2.2
  have hi := hIF.1
  have hC := c_M_feedF l M hM x0.toInt (z32r x0).1 (z32r x0).2 x1.toInt (z32r x1).1 (z32r x1).2 x2.toInt (z32r x2).1 (z32r x2).2 x3.toInt (z32r x3).1 (z32r x3).2 x4.toInt (z32r x4).1 (z32r x4).2  (by omega) (by omega)
  simp only [Int32.ofInt_toInt] at hC
  refine ⟨_, hC, ?_⟩
  rintro r N ⟨v, rfl, hv, hf, hp⟩
  have hw : zWd N := zWd.b h hf (by decide) (by decide) ⟨by omega, by omega⟩ (by rw [hf.e (by decide)]; exact h60) (by rw [hf.e (by decide)]; exact h57) (zB.fr hf h110 (by decide) (by decide))
  refine ⟨v, rfl, fun _ _ _ hs_ => zRSu.fr hf hs_ (by decide) (by decide), ?_⟩
  rcases hp with ⟨a1, a2, a3, a4⟩ | ⟨a1, a2, a3, a4⟩
  · exact Or.inl ⟨a1, a2, ⟨hf.old (by decide), hf.w hM, hw, a3⟩, a4⟩
  · exact Or.inr ⟨a1, a2, ⟨hf.old (by decide), hf.w hM, hw, a3⟩, a4⟩
theorem w8_end (l : Launch) (M : zMem) (hM : zMt M) (h : zWd M) (x0 : Int32) : ∃ Q' : Option Value → zMem → Prop, zC l m_M_end 0 0 [.ref 81, .int x0] M Q' ∧ ∀ r N, Q' r N → (∃ v : Int32, r = some (.int v)) ∧ (∀ P mv T, zRSu P mv T M → zRSu P mv T N) ∧ (∀ j : Nat, ze N 82 j = ze M 82 j) ∧ (((x0.toInt < 0 ∨ ze M 81 1 < x0.toInt) ∧ zGo M N (ze M 81 1)) ∨ (0 ≤ x0.toInt ∧ x0.toInt ≤ ze M 81 1 ∧ zGo M N x0.toInt)) := by
  obtain ⟨h1, h14, h18, h60, h57, hIF, h83, h110, T, hT, hB⟩ := id h
  have hO := gTabs_ok T hT
  have hX := gTabs_ex T hT
  obtain ⟨D, hD⟩ := hX.2.2.2.2.2
  have hi := hIF.1
  have hC := c_M_end l M hM x0.toInt (z32r x0).1 (z32r x0).2  (by omega) (by omega)
  simp only [Int32.ofInt_toInt] at hC
  refine ⟨_, hC, ?_⟩
  rintro r N ⟨v, rfl, hv, hf, hp⟩
  have hw : zWd N := zWd.b h hf (by decide) (by decide) ⟨by omega, by omega⟩ (by rw [hf.e (by decide)]; exact h60) (by rw [hf.e (by decide)]; exact h57) (zB.fr hf h110 (by decide) (by decide))
  refine ⟨⟨_, rfl⟩, fun _ _ _ hs_ => zRSu.fr hf hs_ (by decide) (by decide), fun j => hf.ie (by decide) (by decide) j, ?_⟩
  rcases hp with ⟨a1, a2, a3⟩ | ⟨a1, a2, a3, a4⟩
  · exact Or.inl ⟨a1, hf.old (by decide), hf.w hM, hw, a3⟩
  · exact Or.inr ⟨a1, a2, hf.old (by decide), hf.w hM, hw, a4⟩
theorem w8_troupe (l : Launch) (M : zMem) (hM : zMt M) (h : zWd M) (b : Nat → Int) (n : Nat) (hrp : zRp b n M) (P0 : Nat) (mv0 : List Nat) (T0 : zGT) (hs0 : zRSu P0 mv0 T0 M) : ∃ Q' : Option Value → zMem → Prop, zC l m_M_troupe 0 0 [.ref 81] M Q' ∧ ∀ r N, Q' r N → (∃ v : Value, r = some v ∧ v.category = 1 ∧ ∀ ad, zv ad v = v) ∧ zGo M N 0 ∧ ((zTrB b n (zru zpB b n 0) ∧ ∀ P mv T, zRSu P mv T M → zRSu P mv T N) ∨ ∃ P mv T, zTrP b n (zru zpB b n 0) P mv T ∧ zRSu P mv T N) := by
  obtain ⟨h1, h14, h18, h60, h57, hIF, h83, h110, T, hT, hB⟩ := id h
  have hO := gTabs_ok T hT
  have hX := gTabs_ex T hT
  obtain ⟨D, hD⟩ := hX.2.2.2.2.2
  have hi := hIF.1
  obtain ⟨hT0, hTm0, hB0, h160, hmq0, hCd0, nm0, hnm0, hni0⟩ := id hs0.1
  have hO0 := gTabs_ok T0 hT0
  have hF0 : (gF T0).length ≤ 64 := by have := (gT_zTA hT0).1.2; omega
  have hC := c_M_troupeU l M hM  b n (zMvF M) (gF T0).length (gmkI T0) hF0 nm0 hrp hIF (by omega) (by omega) h83 hB.2.1 (by omega) (by omega) rfl hni0
  refine ⟨_, hC, ?_⟩
  rintro r N ⟨v, rfl, hv, hf, p1, p2, p3, p4, p5, p6, p7, p8, p9, p10, p11, p12⟩
  refine ⟨⟨_, rfl, rfl, fun _ => rfl⟩, ⟨hf.old (by decide), hf.w hM, ⟨⟨by omega, by omega⟩, ⟨p2, p3⟩, ⟨p4, p5⟩, ⟨p6, p7⟩, by rw [hf.e (by decide)]; exact h57, p8, p9, zB.fr hf h110 (by decide) (by decide), p10⟩, p1⟩, ?_⟩
  rcases p11 with ⟨-, hb, ⟨T1, t1, t2, t3, t6⟩, hq, h16, u1, u2, -, -⟩ | ⟨P, mv, T1, nm1, t1, -, t3, t4, t5, t6, u1, u2, -, -⟩
  · refine Or.inl ⟨hb, fun P mv T2 hs => ?_⟩
    obtain ⟨a1, a2, a3, a4, a5, a6, -⟩ := hs.1
    have e : zMvF M = mv := a5
    subst e
    obtain rfl := zTm_uq a2 t3
    have hTq : zTm (zMvF M) T0 := by
      rw [show zMvF M = mv0 from hmq0]
      exact hTm0
    obtain rfl := zTm_uq hTq t3
    exact ⟨⟨t1, t3, t2, by rw [h16]; exact a4, hq, t6.p a4.symm, nm0, u1.t, u2⟩, Or.inl p12⟩
  · refine Or.inr ⟨P, mv, T1, t1.p, ?_⟩
    obtain ⟨q, q2, q3, c1, c2, c3, c4, c5⟩ := t1
    exact ⟨⟨c3, c4, t3, t5, t4, t6, nm1, u1.t, u2⟩, Or.inl p12⟩
theorem w8_fault (l : Launch) (M : zMem) (hM : zMt M) (h : zWd M) (x0 : Int32) : zWk8 l m_M_fault 1 [.ref 81, .int x0] M := by
  obtain ⟨h1, h14, h18, h60, h57, hIF, h83, h110, T, hT, hB⟩ := id h
  have hO := gTabs_ok T hT
  have hX := gTabs_ex T hT
  obtain ⟨D, hD⟩ := hX.2.2.2.2.2
  have hi := hIF.1
  have hC := c_M_fault l M hM x0.toInt (z32r x0).1 (z32r x0).2  
  simp only [Int32.ofInt_toInt] at hC
  refine ⟨_, hC, ?_⟩
  rintro r N ⟨v, rfl, hv, hf, hp⟩
  exact ⟨⟨_, rfl, rfl, fun _ => rfl⟩, ⟨hf.old (by decide), hf.w hM, zWd.b h hf (by decide) (by decide) (by rw [hf.e (by decide)]; exact h1) (by rw [hf.e (by decide)]; exact h60) (by rw [hf.e (by decide)]; exact h57) (zB.fr hf h110 (by decide) (by decide)), (hf.e (by decide))⟩, fun j => hf.ie (by decide) (by decide) j, fun _ _ _ hs_ => zRSu.fr hf hs_ (by decide) (by decide)⟩
theorem w8_about (l : Launch) (M : zMem) (hM : zMt M) (h : zWd M) (x0 : Int32) : zWk8 l m_M_about 1 [.ref 81, .int x0] M := by
  obtain ⟨h1, h14, h18, h60, h57, hIF, h83, h110, T, hT, hB⟩ := id h
  have hO := gTabs_ok T hT
  have hX := gTabs_ex T hT
  obtain ⟨D, hD⟩ := hX.2.2.2.2.2
  have hi := hIF.1
  have hC := c_M_about l M hM x0.toInt (z32r x0).1 (z32r x0).2 T hO hB
  simp only [Int32.ofInt_toInt] at hC
  refine ⟨_, hC, ?_⟩
  rintro r N ⟨v, rfl, hv, hf, hp⟩
  exact ⟨⟨_, rfl, rfl, fun _ => rfl⟩, ⟨hf.old (by decide), hf.w hM, zWd.b h hf (by decide) (by decide) (by rw [hf.e (by decide)]; exact h1) (by rw [hf.e (by decide)]; exact h60) (by rw [hf.e (by decide)]; exact h57) (zB.fr hf h110 (by decide) (by decide)), (hf.e (by decide))⟩, fun j => hf.ie (by decide) (by decide) j, fun _ _ _ hs_ => zRSu.fr hf hs_ (by decide) (by decide)⟩
theorem w8_moves (l : Launch) (M : zMem) (hM : zMt M) (h : zWd M) (x0 : Int32) (x1 : Int32) : zWk8 l m_M_moves 1 [.ref 81, .int x0, .int x1] M := by
  obtain ⟨h1, h14, h18, h60, h57, hIF, h83, h110, T, hT, hB⟩ := id h
  have hO := gTabs_ok T hT
  have hX := gTabs_ex T hT
  obtain ⟨D, hD⟩ := hX.2.2.2.2.2
  have hi := hIF.1
  have hC := c_M_moves l M hM x0.toInt (z32r x0).1 (z32r x0).2 x1.toInt (z32r x1).1 (z32r x1).2 T hO hB (by omega) (by omega)
  simp only [Int32.ofInt_toInt] at hC
  refine ⟨_, hC, ?_⟩
  rintro r N ⟨v, rfl, hv, hf, hp⟩
  exact ⟨⟨_, rfl, rfl, fun _ => rfl⟩, ⟨hf.old (by decide), hf.w hM, zWd.b h hf (by decide) (by decide) (by rw [hf.e (by decide)]; exact h1) (by rw [hf.e (by decide)]; exact h60) (by rw [hf.e (by decide)]; exact h57) (zB.fr hf h110 (by decide) (by decide)), (hf.e (by decide))⟩, fun j => hf.ie (by decide) (by decide) j, fun _ _ _ hs_ => zRSu.fr hf hs_ (by decide) (by decide)⟩
theorem w8_times (l : Launch) (M : zMem) (hM : zMt M) (h : zWd M) (x0 : Int32) (x1 : Int32) : zWk8 l m_M_times 1 [.ref 81, .int x0, .int x1] M := by
  obtain ⟨h1, h14, h18, h60, h57, hIF, h83, h110, T, hT, hB⟩ := id h
  have hO := gTabs_ok T hT
  have hX := gTabs_ex T hT
  obtain ⟨D, hD⟩ := hX.2.2.2.2.2
  have hi := hIF.1
  have hC := c_M_times l M hM x0.toInt (z32r x0).1 (z32r x0).2 x1.toInt (z32r x1).1 (z32r x1).2 T hO hB
  simp only [Int32.ofInt_toInt] at hC
  refine ⟨_, hC, ?_⟩
  rintro r N ⟨v, rfl, hv, hf, hp⟩
  exact ⟨⟨_, rfl, rfl, fun _ => rfl⟩, ⟨hf.old (by decide), hf.w hM, zWd.b h hf (by decide) (by decide) (by rw [hf.e (by decide)]; exact h1) (by rw [hf.e (by decide)]; exact h60) (by rw [hf.e (by decide)]; exact h57) (zB.fr hf h110 (by decide) (by decide)), (hf.e (by decide))⟩, fun j => hf.ie (by decide) (by decide) j, fun _ _ _ hs_ => zRSu.fr hf hs_ (by decide) (by decide)⟩
theorem w8_order (l : Launch) (M : zMem) (hM : zMt M) (h : zWd M) (x0 : Int32) : zWk8 l m_M_order 1 [.ref 81, .int x0] M := by
  obtain ⟨h1, h14, h18, h60, h57, hIF, h83, h110, T, hT, hB⟩ := id h
  have hO := gTabs_ok T hT
  have hX := gTabs_ex T hT
  obtain ⟨D, hD⟩ := hX.2.2.2.2.2
  have hi := hIF.1
  have hC := c_M_order l M hM x0.toInt (z32r x0).1 (z32r x0).2 T hO hX hB
  simp only [Int32.ofInt_toInt] at hC
  refine ⟨_, hC, ?_⟩
  rintro r N ⟨v, rfl, hv, hf, hp⟩
  exact ⟨⟨_, rfl, rfl, fun _ => rfl⟩, ⟨hf.old (by decide), hf.w hM, zWd.b h hf (by decide) (by decide) (by rw [hf.e (by decide)]; exact h1) (by rw [hf.e (by decide)]; exact h60) (by rw [hf.e (by decide)]; exact h57) (zB.fr hf h110 (by decide) (by decide)), (hf.e (by decide))⟩, fun j => hf.ie (by decide) (by decide) j, fun _ _ _ hs_ => zRSu.fr hf hs_ (by decide) (by decide)⟩
theorem w8_makesOf (l : Launch) (M : zMem) (hM : zMt M) (h : zWd M) (x0 : Int32) : zWk8 l m_M_makesOf 1 [.ref 81, .int x0] M := by
  obtain ⟨h1, h14, h18, h60, h57, hIF, h83, h110, T, hT, hB⟩ := id h
  have hO := gTabs_ok T hT
  have hX := gTabs_ex T hT
  obtain ⟨D, hD⟩ := hX.2.2.2.2.2
  have hi := hIF.1
  have hC := c_M_makesOf l M hM x0.toInt (z32r x0).1 (z32r x0).2 T hO hB
  simp only [Int32.ofInt_toInt] at hC
  refine ⟨_, hC, ?_⟩
  rintro r N ⟨v, rfl, hv, hf, hp⟩
  exact ⟨⟨_, rfl, rfl, fun _ => rfl⟩, ⟨hf.old (by decide), hf.w hM, zWd.b h hf (by decide) (by decide) (by rw [hf.e (by decide)]; exact h1) (by rw [hf.e (by decide)]; exact h60) (by rw [hf.e (by decide)]; exact h57) (zB.fr hf h110 (by decide) (by decide)), (hf.e (by decide))⟩, fun j => hf.ie (by decide) (by decide) j, fun _ _ _ hs_ => zRSu.fr hf hs_ (by decide) (by decide)⟩
theorem w8_sortOf (l : Launch) (M : zMem) (hM : zMt M) (h : zWd M) (x0 : Int32) : zWk8 l m_M_sortOf 1 [.ref 81, .int x0] M := by
  obtain ⟨h1, h14, h18, h60, h57, hIF, h83, h110, T, hT, hB⟩ := id h
  have hO := gTabs_ok T hT
  have hX := gTabs_ex T hT
  obtain ⟨D, hD⟩ := hX.2.2.2.2.2
  have hi := hIF.1
  have hC := c_M_sortOf l M hM x0.toInt (z32r x0).1 (z32r x0).2 T hO hB
  simp only [Int32.ofInt_toInt] at hC
  refine ⟨_, hC, ?_⟩
  rintro r N ⟨v, rfl, hv, hf, hp⟩
  exact ⟨⟨_, rfl, rfl, fun _ => rfl⟩, ⟨hf.old (by decide), hf.w hM, zWd.b h hf (by decide) (by decide) (by rw [hf.e (by decide)]; exact h1) (by rw [hf.e (by decide)]; exact h60) (by rw [hf.e (by decide)]; exact h57) (zB.fr hf h110 (by decide) (by decide)), (hf.e (by decide))⟩, fun j => hf.ie (by decide) (by decide) j, fun _ _ _ hs_ => zRSu.fr hf hs_ (by decide) (by decide)⟩
theorem w8_sort (l : Launch) (M : zMem) (hM : zMt M) (h : zWd M) (x0 : Int32) (x1 : Int32) : zWk8 l m_M_sort 1 [.ref 81, .int x0, .int x1] M := by
  obtain ⟨h1, h14, h18, h60, h57, hIF, h83, h110, T, hT, hB⟩ := id h
  have hO := gTabs_ok T hT
  have hX := gTabs_ex T hT
  obtain ⟨D, hD⟩ := hX.2.2.2.2.2
  have hi := hIF.1
  have hC := c_M_sort l M hM x0.toInt (z32r x0).1 (z32r x0).2 x1.toInt (z32r x1).1 (z32r x1).2 T hO hB
  simp only [Int32.ofInt_toInt] at hC
  refine ⟨_, hC, ?_⟩
  rintro r N ⟨v, rfl, hv, hf, hp⟩
  exact ⟨⟨_, rfl, rfl, fun _ => rfl⟩, ⟨hf.old (by decide), hf.w hM, zWd.b h hf (by decide) (by decide) (by rw [hf.e (by decide)]; exact h1) (by rw [hf.e (by decide)]; exact h60) (by rw [hf.e (by decide)]; exact h57) (zB.fr hf h110 (by decide) (by decide)), (hf.e (by decide))⟩, fun j => hf.ie (by decide) (by decide) j, fun _ _ _ hs_ => zRSu.fr hf hs_ (by decide) (by decide)⟩
theorem w8_within (l : Launch) (M : zMem) (hM : zMt M) (h : zWd M) (x0 : Int32) (x1 : Int32) : zWk8 l m_M_within 1 [.ref 81, .int x0, .int x1] M := by
  obtain ⟨h1, h14, h18, h60, h57, hIF, h83, h110, T, hT, hB⟩ := id h
  have hO := gTabs_ok T hT
  have hX := gTabs_ex T hT
  obtain ⟨D, hD⟩ := hX.2.2.2.2.2
  have hi := hIF.1
  have hC := c_M_within l M hM x0.toInt (z32r x0).1 (z32r x0).2 x1.toInt (z32r x1).1 (z32r x1).2 T hO hB
  simp only [Int32.ofInt_toInt] at hC
  refine ⟨_, hC, ?_⟩
  rintro r N ⟨v, rfl, hv, hf, hp⟩
  exact ⟨⟨_, rfl, rfl, fun _ => rfl⟩, ⟨hf.old (by decide), hf.w hM, zWd.b h hf (by decide) (by decide) (by rw [hf.e (by decide)]; exact h1) (by rw [hf.e (by decide)]; exact h60) (by rw [hf.e (by decide)]; exact h57) (zB.fr hf h110 (by decide) (by decide)), (hf.e (by decide))⟩, fun j => hf.ie (by decide) (by decide) j, fun _ _ _ hs_ => zRSu.fr hf hs_ (by decide) (by decide)⟩
theorem w8_mark (l : Launch) (M : zMem) (hM : zMt M) (h : zWd M) (x0 : Int32) (x1 : Int32) : zWk8 l m_M_mark 1 [.ref 81, .int x0, .int x1] M := by
  obtain ⟨h1, h14, h18, h60, h57, hIF, h83, h110, T, hT, hB⟩ := id h
  have hO := gTabs_ok T hT
  have hX := gTabs_ex T hT
  obtain ⟨D, hD⟩ := hX.2.2.2.2.2
  have hi := hIF.1
  have hC := c_M_mark l M hM x0.toInt (z32r x0).1 (z32r x0).2 x1.toInt (z32r x1).1 (z32r x1).2 T hO hB
  simp only [Int32.ofInt_toInt] at hC
  refine ⟨_, hC, ?_⟩
  rintro r N ⟨v, rfl, hv, hf, hp⟩
  exact ⟨⟨_, rfl, rfl, fun _ => rfl⟩, ⟨hf.old (by decide), hf.w hM, zWd.b h hf (by decide) (by decide) (by rw [hf.e (by decide)]; exact h1) (by rw [hf.e (by decide)]; exact h60) (by rw [hf.e (by decide)]; exact h57) (zB.fr hf h110 (by decide) (by decide)), (hf.e (by decide))⟩, fun j => hf.ie (by decide) (by decide) j, fun _ _ _ hs_ => zRSu.fr hf hs_ (by decide) (by decide)⟩
theorem w8_product (l : Launch) (M : zMem) (hM : zMt M) (h : zWd M) (x0 : Int32) (x1 : Int32) (x2 : Int32) : zWk8 l m_M_product 1 [.ref 81, .int x0, .int x1, .int x2] M := by
  obtain ⟨h1, h14, h18, h60, h57, hIF, h83, h110, T, hT, hB⟩ := id h
  have hO := gTabs_ok T hT
  have hX := gTabs_ex T hT
  obtain ⟨D, hD⟩ := hX.2.2.2.2.2
  have hi := hIF.1
  have hC := c_M_product l M hM x0.toInt (z32r x0).1 (z32r x0).2 x1.toInt (z32r x1).1 (z32r x1).2 x2.toInt (z32r x2).1 (z32r x2).2 T hO hB
  simp only [Int32.ofInt_toInt] at hC
  refine ⟨_, hC, ?_⟩
  rintro r N ⟨v, rfl, hv, hf, hp⟩
  exact ⟨⟨_, rfl, rfl, fun _ => rfl⟩, ⟨hf.old (by decide), hf.w hM, zWd.b h hf (by decide) (by decide) (by rw [hf.e (by decide)]; exact h1) (by rw [hf.e (by decide)]; exact h60) (by rw [hf.e (by decide)]; exact h57) (zB.fr hf h110 (by decide) (by decide)), (hf.e (by decide))⟩, fun j => hf.ie (by decide) (by decide) j, fun _ _ _ hs_ => zRSu.fr hf hs_ (by decide) (by decide)⟩
theorem w8_residue (l : Launch) (M : zMem) (hM : zMt M) (h : zWd M) (x0 : Int32) (x1 : Int32) : zWk8 l m_M_residue 1 [.ref 81, .int x0, .int x1] M := by
  obtain ⟨h1, h14, h18, h60, h57, hIF, h83, h110, T, hT, hB⟩ := id h
  have hO := gTabs_ok T hT
  have hX := gTabs_ex T hT
  obtain ⟨D, hD⟩ := hX.2.2.2.2.2
  have hi := hIF.1
  have hC := c_M_residue l M hM x0.toInt (z32r x0).1 (z32r x0).2 x1.toInt (z32r x1).1 (z32r x1).2 T hO hB
  simp only [Int32.ofInt_toInt] at hC
  refine ⟨_, hC, ?_⟩
  rintro r N ⟨v, rfl, hv, hf, hp⟩
  exact ⟨⟨_, rfl, rfl, fun _ => rfl⟩, ⟨hf.old (by decide), hf.w hM, zWd.b h hf (by decide) (by decide) (by rw [hf.e (by decide)]; exact h1) (by rw [hf.e (by decide)]; exact h60) (by rw [hf.e (by decide)]; exact h57) (zB.fr hf h110 (by decide) (by decide)), (hf.e (by decide))⟩, fun j => hf.ie (by decide) (by decide) j, fun _ _ _ hs_ => zRSu.fr hf hs_ (by decide) (by decide)⟩
theorem w8_block (l : Launch) (M : zMem) (hM : zMt M) (h : zWd M) (x0 : Int32) (x1 : Int32) : zWk8 l m_M_block 1 [.ref 81, .int x0, .int x1] M := by
  obtain ⟨h1, h14, h18, h60, h57, hIF, h83, h110, T, hT, hB⟩ := id h
  have hO := gTabs_ok T hT
  have hX := gTabs_ex T hT
  obtain ⟨D, hD⟩ := hX.2.2.2.2.2
  have hi := hIF.1
  have hC := c_M_block l M hM x0.toInt (z32r x0).1 (z32r x0).2 x1.toInt (z32r x1).1 (z32r x1).2 T hO hB
  simp only [Int32.ofInt_toInt] at hC
  refine ⟨_, hC, ?_⟩
  rintro r N ⟨v, rfl, hv, hf, hp⟩
  exact ⟨⟨_, rfl, rfl, fun _ => rfl⟩, ⟨hf.old (by decide), hf.w hM, zWd.b h hf (by decide) (by decide) (by rw [hf.e (by decide)]; exact h1) (by rw [hf.e (by decide)]; exact h60) (by rw [hf.e (by decide)]; exact h57) (zB.fr hf h110 (by decide) (by decide)), (hf.e (by decide))⟩, fun j => hf.ie (by decide) (by decide) j, fun _ _ _ hs_ => zRSu.fr hf hs_ (by decide) (by decide)⟩
theorem w8_keeper (l : Launch) (M : zMem) (hM : zMt M) (h : zWd M) (x0 : Int32) : zWk8 l m_M_keeper 1 [.ref 81, .int x0] M := by
  obtain ⟨h1, h14, h18, h60, h57, hIF, h83, h110, T, hT, hB⟩ := id h
  have hO := gTabs_ok T hT
  have hX := gTabs_ex T hT
  obtain ⟨D, hD⟩ := hX.2.2.2.2.2
  have hi := hIF.1
  have hC := c_M_keeper l M hM x0.toInt (z32r x0).1 (z32r x0).2 T hO hB (by omega) (by omega)
  simp only [Int32.ofInt_toInt] at hC
  refine ⟨_, hC, ?_⟩
  rintro r N ⟨v, rfl, hv, hf, hp⟩
  exact ⟨⟨_, rfl, rfl, fun _ => rfl⟩, ⟨hf.old (by decide), hf.w hM, zWd.b h hf (by decide) (by decide) (by rw [hf.e (by decide)]; exact h1) (by rw [hf.e (by decide)]; exact h60) (by rw [hf.e (by decide)]; exact h57) (zB.fr hf h110 (by decide) (by decide)), (hf.e (by decide))⟩, fun j => hf.ie (by decide) (by decide) j, fun _ _ _ hs_ => zRSu.fr hf hs_ (by decide) (by decide)⟩
theorem w8_orbit (l : Launch) (M : zMem) (hM : zMt M) (h : zWd M) (x0 : Int32) : zWk8 l m_M_orbit 1 [.ref 81, .int x0] M := by
  obtain ⟨h1, h14, h18, h60, h57, hIF, h83, h110, T, hT, hB⟩ := id h
  have hO := gTabs_ok T hT
  have hX := gTabs_ex T hT
  obtain ⟨D, hD⟩ := hX.2.2.2.2.2
  have hi := hIF.1
  have hC := c_M_orbit l M hM x0.toInt (z32r x0).1 (z32r x0).2 T hO hB (by omega) (by omega)
  simp only [Int32.ofInt_toInt] at hC
  refine ⟨_, hC, ?_⟩
  rintro r N ⟨v, rfl, hv, hf, hp⟩
  exact ⟨⟨_, rfl, rfl, fun _ => rfl⟩, ⟨hf.old (by decide), hf.w hM, zWd.b h hf (by decide) (by decide) (by rw [hf.e (by decide)]; exact h1) (by rw [hf.e (by decide)]; exact h60) (by rw [hf.e (by decide)]; exact h57) (zB.fr hf h110 (by decide) (by decide)), (hf.e (by decide))⟩, fun j => hf.ie (by decide) (by decide) j, fun _ _ _ hs_ => zRSu.fr hf hs_ (by decide) (by decide)⟩
theorem w8_coset (l : Launch) (M : zMem) (hM : zMt M) (h : zWd M) (x0 : Int32) (x1 : Int32) : zWk8 l m_M_coset 1 [.ref 81, .int x0, .int x1] M := by
  obtain ⟨h1, h14, h18, h60, h57, hIF, h83, h110, T, hT, hB⟩ := id h
  have hO := gTabs_ok T hT
  have hX := gTabs_ex T hT
  obtain ⟨D, hD⟩ := hX.2.2.2.2.2
  have hi := hIF.1
  have hC := c_M_coset l M hM x0.toInt (z32r x0).1 (z32r x0).2 x1.toInt (z32r x1).1 (z32r x1).2 T hO hB
  simp only [Int32.ofInt_toInt] at hC
  refine ⟨_, hC, ?_⟩
  rintro r N ⟨v, rfl, hv, hf, hp⟩
  exact ⟨⟨_, rfl, rfl, fun _ => rfl⟩, ⟨hf.old (by decide), hf.w hM, zWd.b h hf (by decide) (by decide) (by rw [hf.e (by decide)]; exact h1) (by rw [hf.e (by decide)]; exact h60) (by rw [hf.e (by decide)]; exact h57) (zB.fr hf h110 (by decide) (by decide)), (hf.e (by decide))⟩, fun j => hf.ie (by decide) (by decide) j, fun _ _ _ hs_ => zRSu.fr hf hs_ (by decide) (by decide)⟩
theorem w8_takes (l : Launch) (M : zMem) (hM : zMt M) (h : zWd M) (x0 : Int32) (x1 : Int32) (x2 : Int32) : zWk8 l m_M_takes 1 [.ref 81, .int x0, .int x1, .int x2] M := by
  obtain ⟨h1, h14, h18, h60, h57, hIF, h83, h110, T, hT, hB⟩ := id h
  have hO := gTabs_ok T hT
  have hX := gTabs_ex T hT
  obtain ⟨D, hD⟩ := hX.2.2.2.2.2
  have hi := hIF.1
  have hC := c_M_takes l M hM x0.toInt (z32r x0).1 (z32r x0).2 x1.toInt (z32r x1).1 (z32r x1).2 x2.toInt (z32r x2).1 (z32r x2).2 T hO hB
  simp only [Int32.ofInt_toInt] at hC
  refine ⟨_, hC, ?_⟩
  rintro r N ⟨v, rfl, hv, hf, hp⟩
  exact ⟨⟨_, rfl, rfl, fun _ => rfl⟩, ⟨hf.old (by decide), hf.w hM, zWd.b h hf (by decide) (by decide) (by rw [hf.e (by decide)]; exact h1) (by rw [hf.e (by decide)]; exact h60) (by rw [hf.e (by decide)]; exact h57) (zB.fr hf h110 (by decide) (by decide)), (hf.e (by decide))⟩, fun j => hf.ie (by decide) (by decide) j, fun _ _ _ hs_ => zRSu.fr hf hs_ (by decide) (by decide)⟩
theorem w8_moebius (l : Launch) (M : zMem) (hM : zMt M) (h : zWd M) (x0 : Int32) : zWk8 l m_M_moebius 1 [.ref 81, .int x0] M := by
  obtain ⟨h1, h14, h18, h60, h57, hIF, h83, h110, T, hT, hB⟩ := id h
  have hO := gTabs_ok T hT
  have hX := gTabs_ex T hT
  obtain ⟨D, hD⟩ := hX.2.2.2.2.2
  have hi := hIF.1
  have hC := c_M_moebius l M hM x0.toInt (z32r x0).1 (z32r x0).2 T hO hB
  simp only [Int32.ofInt_toInt] at hC
  refine ⟨_, hC, ?_⟩
  rintro r N ⟨v, rfl, hv, hf, hp⟩
  exact ⟨⟨_, rfl, rfl, fun _ => rfl⟩, ⟨hf.old (by decide), hf.w hM, zWd.b h hf (by decide) (by decide) (by rw [hf.e (by decide)]; exact h1) (by rw [hf.e (by decide)]; exact h60) (by rw [hf.e (by decide)]; exact h57) (zB.fr hf h110 (by decide) (by decide)), (hf.e (by decide))⟩, fun j => hf.ie (by decide) (by decide) j, fun _ _ _ hs_ => zRSu.fr hf hs_ (by decide) (by decide)⟩
theorem w8_mixed (l : Launch) (M : zMem) (hM : zMt M) (h : zWd M) (x0 : Int32) : zWk8 l m_M_mixed 1 [.ref 81, .int x0] M := by
  obtain ⟨h1, h14, h18, h60, h57, hIF, h83, h110, T, hT, hB⟩ := id h
  have hO := gTabs_ok T hT
  have hX := gTabs_ex T hT
  obtain ⟨D, hD⟩ := hX.2.2.2.2.2
  have hi := hIF.1
  have hC := c_M_mixed l M hM x0.toInt (z32r x0).1 (z32r x0).2 T hO hB
  simp only [Int32.ofInt_toInt] at hC
  refine ⟨_, hC, ?_⟩
  rintro r N ⟨v, rfl, hv, hf, hp⟩
  exact ⟨⟨_, rfl, rfl, fun _ => rfl⟩, ⟨hf.old (by decide), hf.w hM, zWd.b h hf (by decide) (by decide) (by rw [hf.e (by decide)]; exact h1) (by rw [hf.e (by decide)]; exact h60) (by rw [hf.e (by decide)]; exact h57) (zB.fr hf h110 (by decide) (by decide)), (hf.e (by decide))⟩, fun j => hf.ie (by decide) (by decide) j, fun _ _ _ hs_ => zRSu.fr hf hs_ (by decide) (by decide)⟩
theorem w8_centre (l : Launch) (M : zMem) (hM : zMt M) (h : zWd M) (x0 : Int32) : zWk8 l m_M_centre 1 [.ref 81, .int x0] M := by
  obtain ⟨h1, h14, h18, h60, h57, hIF, h83, h110, T, hT, hB⟩ := id h
  have hO := gTabs_ok T hT
  have hX := gTabs_ex T hT
  obtain ⟨D, hD⟩ := hX.2.2.2.2.2
  have hi := hIF.1
  have hC := c_M_centre l M hM x0.toInt (z32r x0).1 (z32r x0).2 T hO hB
  simp only [Int32.ofInt_toInt] at hC
  refine ⟨_, hC, ?_⟩
  rintro r N ⟨v, rfl, hv, hf, hp⟩
  exact ⟨⟨_, rfl, rfl, fun _ => rfl⟩, ⟨hf.old (by decide), hf.w hM, zWd.b h hf (by decide) (by decide) (by rw [hf.e (by decide)]; exact h1) (by rw [hf.e (by decide)]; exact h60) (by rw [hf.e (by decide)]; exact h57) (zB.fr hf h110 (by decide) (by decide)), (hf.e (by decide))⟩, fun j => hf.ie (by decide) (by decide) j, fun _ _ _ hs_ => zRSu.fr hf hs_ (by decide) (by decide)⟩
theorem w8_pairs (l : Launch) (M : zMem) (hM : zMt M) (h : zWd M) (x0 : Int32) (x1 : Int32) : zWk8 l m_M_pairs 1 [.ref 81, .int x0, .int x1] M := by
  obtain ⟨h1, h14, h18, h60, h57, hIF, h83, h110, T, hT, hB⟩ := id h
  have hO := gTabs_ok T hT
  have hX := gTabs_ex T hT
  obtain ⟨D, hD⟩ := hX.2.2.2.2.2
  have hi := hIF.1
  have hC := c_M_pairs l M hM x0.toInt (z32r x0).1 (z32r x0).2 x1.toInt (z32r x1).1 (z32r x1).2 T hO hB
  simp only [Int32.ofInt_toInt] at hC
  refine ⟨_, hC, ?_⟩
  rintro r N ⟨v, rfl, hv, hf, hp⟩
  exact ⟨⟨_, rfl, rfl, fun _ => rfl⟩, ⟨hf.old (by decide), hf.w hM, zWd.b h hf (by decide) (by decide) (by rw [hf.e (by decide)]; exact h1) (by rw [hf.e (by decide)]; exact h60) (by rw [hf.e (by decide)]; exact h57) (zB.fr hf h110 (by decide) (by decide)), (hf.e (by decide))⟩, fun j => hf.ie (by decide) (by decide) j, fun _ _ _ hs_ => zRSu.fr hf hs_ (by decide) (by decide)⟩
theorem w8_alike (l : Launch) (M : zMem) (hM : zMt M) (h : zWd M) : zWk8 l m_M_alike 1 [.ref 81] M := by
  obtain ⟨h1, h14, h18, h60, h57, hIF, h83, h110, T, hT, hB⟩ := id h
  have hO := gTabs_ok T hT
  have hX := gTabs_ex T hT
  obtain ⟨D, hD⟩ := hX.2.2.2.2.2
  have hi := hIF.1
  have hC := c_M_alike l M hM  T hO hB
  refine ⟨_, hC, ?_⟩
  rintro r N ⟨v, rfl, hv, hf, hp⟩
  exact ⟨⟨_, rfl, rfl, fun _ => rfl⟩, ⟨hf.old (by decide), hf.w hM, zWd.b h hf (by decide) (by decide) (by rw [hf.e (by decide)]; exact h1) (by rw [hf.e (by decide)]; exact h60) (by rw [hf.e (by decide)]; exact h57) (zB.fr hf h110 (by decide) (by decide)), (hf.e (by decide))⟩, fun j => hf.ie (by decide) (by decide) j, fun _ _ _ hs_ => zRSu.fr hf hs_ (by decide) (by decide)⟩
theorem w8_meet (l : Launch) (M : zMem) (hM : zMt M) (h : zWd M) (x0 : Int32) (x1 : Int32) : zWk8 l m_M_meet 1 [.ref 81, .int x0, .int x1] M := by
  obtain ⟨h1, h14, h18, h60, h57, hIF, h83, h110, T, hT, hB⟩ := id h
  have hO := gTabs_ok T hT
  have hX := gTabs_ex T hT
  obtain ⟨D, hD⟩ := hX.2.2.2.2.2
  have hi := hIF.1
  have hC := c_M_meet l M hM x0.toInt (z32r x0).1 (z32r x0).2 x1.toInt (z32r x1).1 (z32r x1).2 T hO hB
  simp only [Int32.ofInt_toInt] at hC
  refine ⟨_, hC, ?_⟩
  rintro r N ⟨v, rfl, hv, hf, hp⟩
  exact ⟨⟨_, rfl, rfl, fun _ => rfl⟩, ⟨hf.old (by decide), hf.w hM, zWd.b h hf (by decide) (by decide) (by rw [hf.e (by decide)]; exact h1) (by rw [hf.e (by decide)]; exact h60) (by rw [hf.e (by decide)]; exact h57) (zB.fr hf h110 (by decide) (by decide)), (hf.e (by decide))⟩, fun j => hf.ie (by decide) (by decide) j, fun _ _ _ hs_ => zRSu.fr hf hs_ (by decide) (by decide)⟩
theorem w8_join (l : Launch) (M : zMem) (hM : zMt M) (h : zWd M) (x0 : Int32) (x1 : Int32) : zWk8 l m_M_join 1 [.ref 81, .int x0, .int x1] M := by
  obtain ⟨h1, h14, h18, h60, h57, hIF, h83, h110, T, hT, hB⟩ := id h
  have hO := gTabs_ok T hT
  have hX := gTabs_ex T hT
  obtain ⟨D, hD⟩ := hX.2.2.2.2.2
  have hi := hIF.1
  have hC := c_M_join l M hM x0.toInt (z32r x0).1 (z32r x0).2 x1.toInt (z32r x1).1 (z32r x1).2 T hO hB
  simp only [Int32.ofInt_toInt] at hC
  refine ⟨_, hC, ?_⟩
  rintro r N ⟨v, rfl, hv, hf, hp⟩
  exact ⟨⟨_, rfl, rfl, fun _ => rfl⟩, ⟨hf.old (by decide), hf.w hM, zWd.b h hf (by decide) (by decide) (by rw [hf.e (by decide)]; exact h1) (by rw [hf.e (by decide)]; exact h60) (by rw [hf.e (by decide)]; exact h57) (zB.fr hf h110 (by decide) (by decide)), (hf.e (by decide))⟩, fun j => hf.ie (by decide) (by decide) j, fun _ _ _ hs_ => zRSu.fr hf hs_ (by decide) (by decide)⟩
theorem w8_orders (l : Launch) (M : zMem) (hM : zMt M) (h : zWd M) (x0 : Int32) : zWk8 l m_M_orders 1 [.ref 81, .int x0] M := by
  obtain ⟨h1, h14, h18, h60, h57, hIF, h83, h110, T, hT, hB⟩ := id h
  have hO := gTabs_ok T hT
  have hX := gTabs_ex T hT
  obtain ⟨D, hD⟩ := hX.2.2.2.2.2
  have hi := hIF.1
  have hC := c_M_orders l M hM x0.toInt (z32r x0).1 (z32r x0).2 T hO hX hB
  simp only [Int32.ofInt_toInt] at hC
  refine ⟨_, hC, ?_⟩
  rintro r N ⟨v, rfl, hv, hf, hp⟩
  exact ⟨⟨_, rfl, rfl, fun _ => rfl⟩, ⟨hf.old (by decide), hf.w hM, zWd.b h hf (by decide) (by decide) (by rw [hf.e (by decide)]; exact h1) (by rw [hf.e (by decide)]; exact h60) (by rw [hf.e (by decide)]; exact h57) (zB.fr hf h110 (by decide) (by decide)), (hf.e (by decide))⟩, fun j => hf.ie (by decide) (by decide) j, fun _ _ _ hs_ => zRSu.fr hf hs_ (by decide) (by decide)⟩
theorem w8_likes (l : Launch) (M : zMem) (hM : zMt M) (h : zWd M) (x0 : Int32) : zWk8 l m_M_likes 1 [.ref 81, .int x0] M := by
  obtain ⟨h1, h14, h18, h60, h57, hIF, h83, h110, T, hT, hB⟩ := id h
  have hO := gTabs_ok T hT
  have hX := gTabs_ex T hT
  obtain ⟨D, hD⟩ := hX.2.2.2.2.2
  have hi := hIF.1
  have hC := c_M_likes l M hM x0.toInt (z32r x0).1 (z32r x0).2 T hO hB
  simp only [Int32.ofInt_toInt] at hC
  refine ⟨_, hC, ?_⟩
  rintro r N ⟨v, rfl, hv, hf, hp⟩
  exact ⟨⟨_, rfl, rfl, fun _ => rfl⟩, ⟨hf.old (by decide), hf.w hM, zWd.b h hf (by decide) (by decide) (by rw [hf.e (by decide)]; exact h1) (by rw [hf.e (by decide)]; exact h60) (by rw [hf.e (by decide)]; exact h57) (zB.fr hf h110 (by decide) (by decide)), (hf.e (by decide))⟩, fun j => hf.ie (by decide) (by decide) j, fun _ _ _ hs_ => zRSu.fr hf hs_ (by decide) (by decide)⟩
theorem w8_peak (l : Launch) (M : zMem) (hM : zMt M) (h : zWd M) (x0 : Int32) (x1 : Int32) (x2 : Int32) : zWk8 l m_M_peak 1 [.ref 81, .int x0, .int x1, .int x2] M := by
  obtain ⟨h1, h14, h18, h60, h57, hIF, h83, h110, T, hT, hB⟩ := id h
  have hO := gTabs_ok T hT
  have hX := gTabs_ex T hT
  obtain ⟨D, hD⟩ := hX.2.2.2.2.2
  have hi := hIF.1
  have hC := c_M_peak l M hM x0.toInt (z32r x0).1 (z32r x0).2 x1.toInt (z32r x1).1 (z32r x1).2 x2.toInt (z32r x2).1 (z32r x2).2 T hO D hD hB
  simp only [Int32.ofInt_toInt] at hC
  refine ⟨_, hC, ?_⟩
  rintro r N ⟨v, rfl, hv, hf, hp⟩
  exact ⟨⟨_, rfl, rfl, fun _ => rfl⟩, ⟨hf.old (by decide), hf.w hM, zWd.b h hf (by decide) (by decide) (by rw [hf.e (by decide)]; exact h1) (by rw [hf.e (by decide)]; exact h60) (by rw [hf.e (by decide)]; exact h57) (zB.fr hf h110 (by decide) (by decide)), (hf.e (by decide))⟩, fun j => hf.ie (by decide) (by decide) j, fun _ _ _ hs_ => zRSu.fr hf hs_ (by decide) (by decide)⟩
theorem w8_local (l : Launch) (M : zMem) (hM : zMt M) (h : zWd M) (x0 : Int32) (x1 : Int32) (x2 : Int32) (x3 : Int32) : zWk8 l m_M_local 1 [.ref 81, .int x0, .int x1, .int x2, .int x3] M := by
  obtain ⟨h1, h14, h18, h60, h57, hIF, h83, h110, T, hT, hB⟩ := id h
  have hO := gTabs_ok T hT
  have hX := gTabs_ex T hT
  obtain ⟨D, hD⟩ := hX.2.2.2.2.2
  have hi := hIF.1
  have hC := c_M_local l M hM x0.toInt (z32r x0).1 (z32r x0).2 x1.toInt (z32r x1).1 (z32r x1).2 x2.toInt (z32r x2).1 (z32r x2).2 x3.toInt (z32r x3).1 (z32r x3).2 T hO D hD hB
  simp only [Int32.ofInt_toInt] at hC
  refine ⟨_, hC, ?_⟩
  rintro r N ⟨v, rfl, hv, hf, hp⟩
  exact ⟨⟨_, rfl, rfl, fun _ => rfl⟩, ⟨hf.old (by decide), hf.w hM, zWd.b h hf (by decide) (by decide) (by rw [hf.e (by decide)]; exact h1) (by rw [hf.e (by decide)]; exact h60) (by rw [hf.e (by decide)]; exact h57) (zB.fr hf h110 (by decide) (by decide)), (hf.e (by decide))⟩, fun j => hf.ie (by decide) (by decide) j, fun _ _ _ hs_ => zRSu.fr hf hs_ (by decide) (by decide)⟩
theorem w8_units (l : Launch) (M : zMem) (hM : zMt M) (h : zWd M) (P : Nat) (mv : List Nat) (T : zGT) (hs : zRSu P mv T M) : ∃ Q' : Option Value → zMem → Prop, zC l m_M_units 0 0 [.ref 81] M Q' ∧ ∀ r N, Q' r N → (∃ v : Int, r = some (.int (Int32.ofInt v)) ∧ zfR P mv T v) ∧ zGo M N (ze M 81 1) ∧ (∀ j : Nat, ze N 82 j = ze M 82 j) ∧ ∀ P mv T, zRSu P mv T M → zRSu P mv T N := by
  obtain ⟨h1, h14, h18, h60, h57, hIF, h83, h110, -⟩ := id h
  obtain ⟨hT, hTm, hB, h16, hmq, hCd, -⟩ := id hs.1
  have hP1 : 1 ≤ P := by have := hIF.1.1.1; omega
  have hP6 : P ≤ 6 := by have := hIF.1.1.2; omega
  have hmq2 : zMvF M = mv := hmq
  have hpm : ∀ g ∈ mv, gpm g := fun g hg => hIF.2.2.1 g (by rw [hmq2]; exact hg)
  have hGr := hTm.gr hpm
  have hO := gTabs_ok T hT
  have hX := gTabs_ex T hT
  obtain ⟨D, hD⟩ := hX.2.2.2.2.2
  have hi := hIF.1
  have hC := c_M_unitsS l M hM  T hO hX hT hGr hB h110 (by omega) (by omega) hs.2 
  refine ⟨_, hC, ?_⟩
  rintro r N ⟨v, rfl, hv, hf, hp⟩
  obtain ⟨p1, p2, p3, p4, p5, p6⟩ := hp
  have hyw : zyW T N := Or.inr ⟨p5, ⟨p2, p3⟩, p6⟩
  have hr8 : ∀ P mv T, zRSu P mv T M → zRSu P mv T N := fun P' mv' T' hs_ => by
    have e1 : zMvF M = mv := hs.1.2.2.2.2.1
    have e2 : zMvF M = mv' := hs_.1.2.2.2.2.1
    have e3 : mv' = mv := e2.symm.trans e1
    have e4 : T' = T := zTm_uq (by rw [← e3]; exact hs_.1.2.1) hs.1.2.1
    refine ⟨zRS.fr hf hs_.1 (by decide) (by decide), ?_⟩
    rw [e4]
    exact hyw
  exact ⟨⟨v, rfl, by omega, zuw N, by rw [p4]; exact zyO_y hT hGr p6⟩, ⟨hf.old (by decide), hf.w hM, zWd.b h hf (by decide) (by decide) (by rw [hf.e (by decide)]; exact h1) (by rw [hf.e (by decide)]; exact h60) ⟨p2, p3⟩ p1, hf.e (by decide)⟩, fun j => hf.ie (by decide) (by decide) j, hr8⟩
theorem w8_unit (l : Launch) (M : zMem) (hM : zMt M) (h : zWd M) (P : Nat) (mv : List Nat) (T : zGT) (hs : zRSu P mv T M) (x0 : Int32) (x1 : Int32) : ∃ Q' : Option Value → zMem → Prop, zC l m_M_unit 0 0 [.ref 81, .int x0, .int x1] M Q' ∧ ∀ r N, Q' r N → (∃ v : Value, r = some v ∧ v.category = 1 ∧ ∀ ad, zv ad v = v) ∧ zGo M N (ze M 81 1) ∧ (∀ j : Nat, ze N 82 j = ze M 82 j) ∧ ∀ P mv T, zRSu P mv T M → zRSu P mv T N := by
  obtain ⟨h1, h14, h18, h60, h57, hIF, h83, h110, -⟩ := id h
  obtain ⟨hT, hTm, hB, h16, hmq, hCd, -⟩ := id hs.1
  have hP1 : 1 ≤ P := by have := hIF.1.1.1; omega
  have hP6 : P ≤ 6 := by have := hIF.1.1.2; omega
  have hmq2 : zMvF M = mv := hmq
  have hpm : ∀ g ∈ mv, gpm g := fun g hg => hIF.2.2.1 g (by rw [hmq2]; exact hg)
  have hGr := hTm.gr hpm
  have hO := gTabs_ok T hT
  have hX := gTabs_ex T hT
  obtain ⟨D, hD⟩ := hX.2.2.2.2.2
  have hi := hIF.1
  have hC := c_M_unitS l M hM x0.toInt (z32r x0).1 (z32r x0).2 x1.toInt (z32r x1).1 (z32r x1).2 T hO hX hT hGr hB h110 (by omega) (by omega) hs.2 
  simp only [Int32.ofInt_toInt] at hC
  refine ⟨_, hC, ?_⟩
  rintro r N ⟨v, rfl, hv, hf, hp⟩
  obtain ⟨p1, p2, p3, p4, p5, p6⟩ := hp
  have hyw : zyW T N := p5.imp id (fun q => ⟨q.1, ⟨p2, p3⟩, q.2⟩)
  have hr8 : ∀ P mv T, zRSu P mv T M → zRSu P mv T N := fun P' mv' T' hs_ => by
    have e1 : zMvF M = mv := hs.1.2.2.2.2.1
    have e2 : zMvF M = mv' := hs_.1.2.2.2.2.1
    have e3 : mv' = mv := e2.symm.trans e1
    have e4 : T' = T := zTm_uq (by rw [← e3]; exact hs_.1.2.1) hs.1.2.1
    refine ⟨zRS.fr hf hs_.1 (by decide) (by decide), ?_⟩
    rw [e4]
    exact hyw
  exact ⟨⟨_, rfl, rfl, fun _ => rfl⟩, ⟨hf.old (by decide), hf.w hM, zWd.b h hf (by decide) (by decide) (by rw [hf.e (by decide)]; exact h1) (by rw [hf.e (by decide)]; exact h60) ⟨p2, p3⟩ p1, hf.e (by decide)⟩, fun j => hf.ie (by decide) (by decide) j, hr8⟩
theorem w8_named (l : Launch) (M : zMem) (hM : zMt M) (h : zWd M) (x0 : Int32) (x1 : Int32) : zWk8 l m_M_named 2 [.ref 81, .int x0, .int x1] M := by
  obtain ⟨h1, h14, h18, h60, h57, hIF, h83, h110, T, hT, hB⟩ := id h
  have hO := gTabs_ok T hT
  have hX := gTabs_ex T hT
  obtain ⟨D, hD⟩ := hX.2.2.2.2.2
  have hi := hIF.1
  have hC := c_M_named l M hM x0.toInt (z32r x0).1 (z32r x0).2 x1.toInt (z32r x1).1 (z32r x1).2 T hO hB (by omega) (by omega)
  simp only [Int32.ofInt_toInt] at hC
  refine ⟨_, hC, ?_⟩
  rintro r N ⟨v, rfl, hv, hf, hp⟩
  exact ⟨⟨_, rfl, rfl, fun _ => rfl⟩, ⟨hf.old (by decide), hf.w hM, zWd.b h hf (by decide) (by decide) (by rw [hf.e (by decide)]; exact h1) (by rw [hf.e (by decide)]; exact h60) (by rw [hf.e (by decide)]; exact h57) (zB.fr hf h110 (by decide) (by decide)), (hf.e (by decide))⟩, fun j => hf.ie (by decide) (by decide) j, fun _ _ _ hs_ => zRSu.fr hf hs_ (by decide) (by decide)⟩
theorem w8_has (l : Launch) (M : zMem) (hM : zMt M) (h : zWd M) (x0 : Int32) : zWk8 l m_M_has 2 [.ref 81, .int x0] M := by
  obtain ⟨h1, h14, h18, h60, h57, hIF, h83, h110, T, hT, hB⟩ := id h
  have hO := gTabs_ok T hT
  have hX := gTabs_ex T hT
  obtain ⟨D, hD⟩ := hX.2.2.2.2.2
  have hi := hIF.1
  have hC := c_M_has l M hM x0.toInt (z32r x0).1 (z32r x0).2 T hO hB
  simp only [Int32.ofInt_toInt] at hC
  refine ⟨_, hC, ?_⟩
  rintro r N ⟨v, rfl, hv, hf, hp⟩
  exact ⟨⟨_, rfl, rfl, fun _ => rfl⟩, ⟨hf.old (by decide), hf.w hM, zWd.b h hf (by decide) (by decide) (by rw [hf.e (by decide)]; exact h1) (by rw [hf.e (by decide)]; exact h60) (by rw [hf.e (by decide)]; exact h57) (zB.fr hf h110 (by decide) (by decide)), (hf.e (by decide))⟩, fun j => hf.ie (by decide) (by decide) j, fun _ _ _ hs_ => zRSu.fr hf hs_ (by decide) (by decide)⟩
theorem w8_marked (l : Launch) (M : zMem) (hM : zMt M) (h : zWd M) (x0 : Int32) : zWk8 l m_M_marked 2 [.ref 81, .int x0] M := by
  obtain ⟨h1, h14, h18, h60, h57, hIF, h83, h110, T, hT, hB⟩ := id h
  have hO := gTabs_ok T hT
  have hX := gTabs_ex T hT
  obtain ⟨D, hD⟩ := hX.2.2.2.2.2
  have hi := hIF.1
  have hC := c_M_marked l M hM x0.toInt (z32r x0).1 (z32r x0).2 T hO hB
  simp only [Int32.ofInt_toInt] at hC
  refine ⟨_, hC, ?_⟩
  rintro r N ⟨v, rfl, hv, hf, hp⟩
  exact ⟨⟨_, rfl, rfl, fun _ => rfl⟩, ⟨hf.old (by decide), hf.w hM, zWd.b h hf (by decide) (by decide) (by rw [hf.e (by decide)]; exact h1) (by rw [hf.e (by decide)]; exact h60) (by rw [hf.e (by decide)]; exact h57) (zB.fr hf h110 (by decide) (by decide)), (hf.e (by decide))⟩, fun j => hf.ie (by decide) (by decide) j, fun _ _ _ hs_ => zRSu.fr hf hs_ (by decide) (by decide)⟩
theorem w8_character (l : Launch) (M : zMem) (hM : zMt M) (h : zWd M) (x0 : Int32) : zWk8 l m_M_character 2 [.ref 81, .int x0] M := by
  obtain ⟨h1, h14, h18, h60, h57, hIF, h83, h110, T, hT, hB⟩ := id h
  have hO := gTabs_ok T hT
  have hX := gTabs_ex T hT
  obtain ⟨D, hD⟩ := hX.2.2.2.2.2
  have hi := hIF.1
  have hC := c_M_character l M hM x0.toInt (z32r x0).1 (z32r x0).2 T hO hB
  simp only [Int32.ofInt_toInt] at hC
  refine ⟨_, hC, ?_⟩
  rintro r N ⟨v, rfl, hv, hf, hp⟩
  exact ⟨⟨_, rfl, rfl, fun _ => rfl⟩, ⟨hf.old (by decide), hf.w hM, zWd.b h hf (by decide) (by decide) (by rw [hf.e (by decide)]; exact h1) (by rw [hf.e (by decide)]; exact h60) (by rw [hf.e (by decide)]; exact h57) (zB.fr hf h110 (by decide) (by decide)), (hf.e (by decide))⟩, fun j => hf.ie (by decide) (by decide) j, fun _ _ _ hs_ => zRSu.fr hf hs_ (by decide) (by decide)⟩
theorem w8_parts (l : Launch) (M : zMem) (hM : zMt M) (h : zWd M) : zWk8 l m_M_parts 1 [.ref 81] M := by
  obtain ⟨h1, h14, h18, h60, h57, hIF, h83, h110, T, hT, hB⟩ := id h
  have hO := gTabs_ok T hT
  have hX := gTabs_ex T hT
  obtain ⟨D, hD⟩ := hX.2.2.2.2.2
  have hi := hIF.1
  have hC := c_M_parts l M hM  T hO hB
  refine ⟨_, hC, ?_⟩
  rintro r N ⟨v, rfl, hv, hf, hp⟩
  exact ⟨⟨_, rfl, rfl, fun _ => rfl⟩, ⟨hf.old (by decide), hf.w hM, zWd.b h hf (by decide) (by decide) (by rw [hf.e (by decide)]; exact h1) (by rw [hf.e (by decide)]; exact h60) (by rw [hf.e (by decide)]; exact h57) (zB.fr hf h110 (by decide) (by decide)), (hf.e (by decide))⟩, fun j => hf.ie (by decide) (by decide) j, fun _ _ _ hs_ => zRSu.fr hf hs_ (by decide) (by decide)⟩
theorem w8_congruence (l : Launch) (M : zMem) (hM : zMt M) (h : zWd M) (x0 : Int32) : zWk8 l m_M_congruence 2 [.ref 81, .int x0] M := by
  obtain ⟨h1, h14, h18, h60, h57, hIF, h83, h110, T, hT, hB⟩ := id h
  have hO := gTabs_ok T hT
  have hX := gTabs_ex T hT
  obtain ⟨D, hD⟩ := hX.2.2.2.2.2
  have hi := hIF.1
  have hC := c_M_congruence l M hM x0.toInt (z32r x0).1 (z32r x0).2 T hO hX hB
  simp only [Int32.ofInt_toInt] at hC
  refine ⟨_, hC, ?_⟩
  rintro r N ⟨v, rfl, hv, hf, hp⟩
  exact ⟨⟨_, rfl, rfl, fun _ => rfl⟩, ⟨hf.old (by decide), hf.w hM, zWd.b h hf (by decide) (by decide) (by rw [hf.e (by decide)]; exact h1) (by rw [hf.e (by decide)]; exact h60) (by rw [hf.e (by decide)]; exact h57) (zB.fr hf h110 (by decide) (by decide)), (hf.e (by decide))⟩, fun j => hf.ie (by decide) (by decide) j, fun _ _ _ hs_ => zRSu.fr hf hs_ (by decide) (by decide)⟩
theorem w8_is (l : Launch) (M : zMem) (hM : zMt M) (h : zWd M) (x0 : Int32) : zWk8 l m_M_is 1 [.ref 81, .int x0] M := by
  obtain ⟨h1, h14, h18, h60, h57, hIF, h83, h110, T, hT, hB⟩ := id h
  have hO := gTabs_ok T hT
  have hX := gTabs_ex T hT
  obtain ⟨D, hD⟩ := hX.2.2.2.2.2
  have hi := hIF.1
  have hC := c_M_is l M hM x0.toInt (z32r x0).1 (z32r x0).2 T hO hB
  simp only [Int32.ofInt_toInt] at hC
  refine ⟨_, hC, ?_⟩
  rintro r N ⟨v, rfl, hv, hf, hp⟩
  exact ⟨⟨_, rfl, rfl, fun _ => rfl⟩, ⟨hf.old (by decide), hf.w hM, zWd.b h hf (by decide) (by decide) (by rw [hf.e (by decide)]; exact h1) (by rw [hf.e (by decide)]; exact h60) (by rw [hf.e (by decide)]; exact h57) (zB.fr hf h110 (by decide) (by decide)), (hf.e (by decide))⟩, fun j => hf.ie (by decide) (by decide) j, fun _ _ _ hs_ => zRSu.fr hf hs_ (by decide) (by decide)⟩
theorem w8_makes (l : Launch) (M : zMem) (hM : zMt M) (h : zWd M) (b : Nat → Int) (n : Nat) (hrp : zRp b n M) (P0 : Nat) (mv0 : List Nat) (T0 : zGT) (hs0 : zRSu P0 mv0 T0 M) : zWk9 l m_M_makes 1 [.ref 81] M := by
  obtain ⟨h1, h14, h18, h60, h57, hIF, h83, h110, T, hT, hB⟩ := id h
  have hO := gTabs_ok T hT
  have hX := gTabs_ex T hT
  obtain ⟨D, hD⟩ := hX.2.2.2.2.2
  have hi := hIF.1
  obtain ⟨hT0, hTm0, hB0, h160, hmq0, hCd0, nm0, hnm0, hni0⟩ := id hs0.1
  have hO0 := gTabs_ok T0 hT0
  have hF0 : (gF T0).length ≤ 64 := by have := (gT_zTA hT0).1.2; omega
  have hC := c_M_makesN l M hM  T0 hO0 hT0 b n nm0 hB0 hrp hnm0.t (by omega) (by omega)
  refine ⟨_, hC, ?_⟩
  rintro r N ⟨v, rfl, hv, hf, hp⟩
  obtain ⟨p1, p2, p3, -⟩ := hp
  exact ⟨⟨_, rfl, rfl, fun _ => rfl⟩, ⟨hf.old (by decide), hf.w hM, zWd.b h hf (by decide) (by decide) ⟨by omega, by omega⟩ ⟨by omega, by omega⟩ (by rw [hf.e (by decide)]; exact h57) (zB.fr hf h110 (by decide) (by decide)), (by omega)⟩, fun _ _ _ hs_ => zRSu.fr hf hs_ (by decide) (by decide)⟩
theorem w8_take (l : Launch) (M : zMem) (hM : zMt M) (h : zWd M) (x0 : Int32) (x1 : Int32) : zWk8 l m_M_take 1 [.ref 81, .int x0, .int x1] M := by
  obtain ⟨h1, h14, h18, h60, h57, hIF, h83, h110, T, hT, hB⟩ := id h
  have hO := gTabs_ok T hT
  have hX := gTabs_ex T hT
  obtain ⟨D, hD⟩ := hX.2.2.2.2.2
  have hi := hIF.1
  have hC := c_M_take l M hM x0.toInt (z32r x0).1 (z32r x0).2 x1.toInt (z32r x1).1 (z32r x1).2 T hO hB (by omega) (by omega) (by omega) (by omega)
  simp only [Int32.ofInt_toInt] at hC
  refine ⟨_, hC, ?_⟩
  rintro r N ⟨v, rfl, hv, hf, hp⟩
  exact ⟨⟨_, rfl, rfl, fun _ => rfl⟩, ⟨hf.old (by decide), hf.w hM, zWd.b h hf (by decide) (by decide) (by rw [hf.e (by decide)]; exact h1) ⟨by omega, by omega⟩ (by rw [hf.e (by decide)]; exact h57) (zB.fr hf h110 (by decide) (by decide)), (hf.e (by decide))⟩, fun j => hf.ie (by decide) (by decide) j, fun _ _ _ hs_ => zRSu.fr hf hs_ (by decide) (by decide)⟩
theorem w8_marks (l : Launch) (M : zMem) (hM : zMt M) (h : zWd M) : zWk9 l m_M_marks 1 [.ref 81] M := by
  obtain ⟨h1, h14, h18, h60, h57, hIF, h83, h110, T, hT, hB⟩ := id h
  have hO := gTabs_ok T hT
  have hX := gTabs_ex T hT
  obtain ⟨D, hD⟩ := hX.2.2.2.2.2
  have hi := hIF.1
  have hC := c_M_marks l M hM  T hO hX hB (by omega) (by omega) (by omega) (by omega)
  refine ⟨_, hC, ?_⟩
  rintro r N ⟨v, rfl, hv, hf, hp⟩
  exact ⟨⟨_, rfl, rfl, fun _ => rfl⟩, ⟨hf.old (by decide), hf.w hM, zWd.b h hf (by decide) (by decide) ⟨by omega, by omega⟩ ⟨by omega, by omega⟩ (by rw [hf.e (by decide)]; exact h57) (zB.fr hf h110 (by decide) (by decide)), (by omega)⟩, fun _ _ _ hs_ => zRSu.fr hf hs_ (by decide) (by decide)⟩
theorem w8_uses (l : Launch) (M : zMem) (hM : zMt M) (h : zWd M) (x0 : Int32) : zWk8 l m_M_uses 1 [.ref 81, .int x0] M := by
  obtain ⟨h1, h14, h18, h60, h57, hIF, h83, h110, T, hT, hB⟩ := id h
  have hO := gTabs_ok T hT
  have hX := gTabs_ex T hT
  obtain ⟨D, hD⟩ := hX.2.2.2.2.2
  have hi := hIF.1
  have hC := c_M_uses l M hM x0.toInt (z32r x0).1 (z32r x0).2 T hO hB (by omega) (by omega) (by omega) (by omega)
  simp only [Int32.ofInt_toInt] at hC
  refine ⟨_, hC, ?_⟩
  rintro r N ⟨v, rfl, hv, hf, hp⟩
  exact ⟨⟨_, rfl, rfl, fun _ => rfl⟩, ⟨hf.old (by decide), hf.w hM, zWd.b h hf (by decide) (by decide) (by rw [hf.e (by decide)]; exact h1) ⟨by omega, by omega⟩ (by rw [hf.e (by decide)]; exact h57) (zB.fr hf h110 (by decide) (by decide)), (hf.e (by decide))⟩, fun j => hf.ie (by decide) (by decide) j, fun _ _ _ hs_ => zRSu.fr hf hs_ (by decide) (by decide)⟩
theorem w8_grows (l : Launch) (M : zMem) (hM : zMt M) (h : zWd M) (x0 : Int32) (x1 : Int32) (x2 : Int32) : zWk8 l m_M_grows 2 [.ref 81, .int x0, .int x1, .int x2] M := by
  obtain ⟨h1, h14, h18, h60, h57, hIF, h83, h110, T, hT, hB⟩ := id h
  have hO := gTabs_ok T hT
  have hX := gTabs_ex T hT
  obtain ⟨D, hD⟩ := hX.2.2.2.2.2
  have hi := hIF.1
  have hC := c_M_grows l M hM x0.toInt (z32r x0).1 (z32r x0).2 x1.toInt (z32r x1).1 (z32r x1).2 x2.toInt (z32r x2).1 (z32r x2).2 T hO hB (by omega) (by omega)
  simp only [Int32.ofInt_toInt] at hC
  refine ⟨_, hC, ?_⟩
  rintro r N ⟨v, rfl, hv, hf, hp⟩
  exact ⟨⟨_, rfl, rfl, fun _ => rfl⟩, ⟨hf.old (by decide), hf.w hM, zWd.b h hf (by decide) (by decide) (by rw [hf.e (by decide)]; exact h1) ⟨by omega, by omega⟩ (by rw [hf.e (by decide)]; exact h57) (zB.fr hf h110 (by decide) (by decide)), (hf.e (by decide))⟩, fun j => hf.ie (by decide) (by decide) j, fun _ _ _ hs_ => zRSu.fr hf hs_ (by decide) (by decide)⟩
theorem w8_undo (l : Launch) (M : zMem) (hM : zMt M) (h : zWd M) : zWk8 l m_M_undo 1 [.ref 81] M := by
  obtain ⟨h1, h14, h18, h60, h57, hIF, h83, h110, T, hT, hB⟩ := id h
  have hO := gTabs_ok T hT
  have hX := gTabs_ex T hT
  obtain ⟨D, hD⟩ := hX.2.2.2.2.2
  have hi := hIF.1
  have hC := c_M_undo l M hM   (by omega) (by omega)
  refine ⟨_, hC, ?_⟩
  rintro r N ⟨v, rfl, hv, hf, hp⟩
  exact ⟨⟨_, rfl, rfl, fun _ => rfl⟩, ⟨hf.old (by decide), hf.w hM, zWd.b h hf (by decide) (by decide) (by rw [hf.e (by decide)]; exact h1) ⟨by omega, by omega⟩ (by rw [hf.e (by decide)]; exact h57) (zB.fr hf h110 (by decide) (by decide)), (hf.e (by decide))⟩, fun j => hf.ie (by decide) (by decide) j, fun _ _ _ hs_ => zRSu.fr hf hs_ (by decide) (by decide)⟩
theorem v8_feed (l : Launch) (M : zMem) (h : zLqu M) (x0 : Int32) (x1 : Int32) (x2 : Int32) (x3 : Int32) (x4 : Int32) : ∃ Q' : Option Value → zMem → Prop, zC l m_T_feed 0 0 [.ref 0, .int x0, .int x1, .int x2, .int x3, .int x4] M Q' ∧ ∀ r N, Q' r N → (∃ v : Int32, r = some (.int v)) ∧ zLmu N ∧ zLw N ∧ (∀ q, 81 ≤ q → zi N q = zi M q ∧ zj N q = zj M q) ∧ ((700 < ze M 1 1 + 20 ∧ ze N 1 1 = ze M 1 1 ∧ ∀ j : Nat, ze N 3 j = ze M 3 j) ∨ (ze M 1 1 + 20 ≤ 700 ∧ ze N 1 1 = ze M 1 1 + 20 ∧ ∀ j : Nat, ze N 3 j = zfd5 (fun j => ze M 3 j) (ze M 1 1) x0.toInt x1.toInt x2.toInt x3.toInt x4.toInt j)) := by
  obtain ⟨hw, ht⟩ := id h.1
  obtain ⟨d, d2, hW, hW2, hd, hn, hs⟩ := hw.k
  have h1 := hw.t
  have ht1 := ht.1
  have hC := u_T_feed l d M hW x0.toInt (z32r x0).1 (z32r x0).2 x1.toInt (z32r x1).1 (z32r x1).2 x2.toInt (z32r x2).1 (z32r x2).2 x3.toInt (z32r x3).1 (z32r x3).2 x4.toInt (z32r x4).1 (z32r x4).2 (by omega) (by omega)
  simp only [Int32.ofInt_toInt] at hC
  refine ⟨_, hC, ?_⟩
  rintro r N ⟨v, rfl, hv, hf, hp⟩
  refine ⟨⟨_, rfl⟩, h.2.x hf hW hn (by decide) (by decide), hw.c hf hW (by decide), fun q hq => hf.hi hW (by decide) hq, ?_⟩
  rcases hp with ⟨a1, a2, a3, a4⟩ | ⟨a1, a2, a3, a4⟩
  · exact Or.inl ⟨a1, a3, a4⟩
  · exact Or.inr ⟨a1, a3, a4⟩
theorem v8_end (l : Launch) (M : zMem) (h : zLqu M) (x0 : Int32) : ∃ Q' : Option Value → zMem → Prop, zC l m_T_end 0 0 [.ref 0, .int x0] M Q' ∧ ∀ r N, Q' r N → (∃ v : Int32, r = some (.int v)) ∧ zLmu N ∧ zLw N ∧ (∀ q, 81 ≤ q → zi N q = zi M q ∧ zj N q = zj M q) ∧ (∀ j : Nat, ze N 3 j = ze M 3 j) ∧ (((x0.toInt < 0 ∨ ze M 1 1 < x0.toInt) ∧ ze N 1 1 = ze M 1 1) ∨ (0 ≤ x0.toInt ∧ x0.toInt ≤ ze M 1 1 ∧ ze N 1 1 = x0.toInt)) := by
  obtain ⟨hw, ht⟩ := id h.1
  obtain ⟨d, d2, hW, hW2, hd, hn, hs⟩ := hw.k
  have h1 := hw.t
  have ht1 := ht.1
  have hC := u_T_end l d M hW x0.toInt (z32r x0).1 (z32r x0).2
  simp only [Int32.ofInt_toInt] at hC
  refine ⟨_, hC, ?_⟩
  rintro r N ⟨v, rfl, hv, hf, hp⟩
  refine ⟨⟨_, rfl⟩, h.2.x hf hW hn (by decide) (by decide), hw.c hf hW (by decide), fun q hq => hf.hi hW (by decide) hq, fun j => hf.ra hW (by decide) j, ?_⟩
  rcases hp with ⟨a1, a2, a3⟩ | ⟨a1, a2, a3, a4⟩
  · exact Or.inl ⟨a1, a3⟩
  · exact Or.inr ⟨a1, a2, a4⟩
theorem v8_troupe (l : Launch) (M : zMem) (h : zLqu M) : ∃ Q' : Option Value → zMem → Prop, zC l m_T_troupe 0 0 [.ref 0] M Q' ∧ ∀ r N, Q' r N → (∃ v : Value, r = some v ∧ v.category = 1 ∧ ∀ ad, zv ad v = v) ∧ zLw N ∧ ze N 1 1 = 0 ∧ (∀ q, 81 ≤ q → zi N q = zi M q ∧ zj N q = zj M q) ∧ (∀ P mv T, zRSu P mv T M → zRSu P mv T N) ∧ ((zTrB (fun k => ze M 82 k) (ze M 81 1).toNat (zru zpB (fun k => ze M 82 k) (ze M 81 1).toNat 0) ∧ zLmu N) ∨ ∃ P mv T, zTrP (fun k => ze M 82 k) (ze M 81 1).toNat (zru zpB (fun k => ze M 82 k) (ze M 81 1).toNat 0) P mv T ∧ ∃ d, zf N 0 2 = some (d + 0) ∧ zKW d N ∧ zKSu P mv T d N) := by
  obtain ⟨hw, ht⟩ := id h.1
  obtain ⟨P, mv, T, d0, hn0, hW0, hr, hk⟩ := id h.2
  obtain ⟨d, d2, hW, hW2, hd, hn, hs⟩ := hw.k
  have h1 := hw.t
  have ht1 := ht.1
  have e : d0 = d := by
    rw [hn] at hn0
    have := Option.some.inj hn0
    omega
  subst e
  refine ⟨_, u_T_troupeU l d2 M hW2 d0 (by omega) hn hs _ _ h.1.y, ?_⟩
  rintro r N ⟨v, rfl, hv, h10, hq, hc⟩
  have hlw := hw.sw hW hW2 hd hn hs hq
  have hun : (∀ q, 81 ≤ q → zi N q = zi M q ∧ zj N q = zj M q) := fun q hq2 => ⟨(hq.2.2.1 q hq2).1, (hq.2.2.1 q hq2).2.1⟩
  refine ⟨⟨_, rfl, rfl, fun _ => rfl⟩, hlw, h10, hun, fun P_ mv_ T_ hs_ => hs_.hi hun hq.1 hq.2.1, ?_⟩
  rcases hc with ⟨-, hb, hf2, hbl⟩ | ⟨P2, mv2, T2, t1, -, t3, t4⟩
  · refine Or.inl ⟨hb, P, mv, T, d0, by rw [hf2]; exact hn, hW.same hq.1 hq.2.1 (fun q j _ => by rw [hf2]), hr.hi hun hq.1 hq.2.1, hk.e (fun o ho j => ?_)⟩
    unfold ze
    rw [hbl (d0 + o) (by omega) (by omega)]
  · refine Or.inr ⟨P2, mv2, T2, t1, d2, t3.1, ?_, t4⟩
    obtain ⟨e1, e2, e3, e4, e5, e6, e7⟩ := hlw.k
    rw [t3.1] at e6
    have : d2 = e1 := by
      have := Option.some.inj e6
      omega
    rw [this]
    exact e3
theorem v8_fault (l : Launch) (M : zMem) (h : zLqu M) (x0 : Int32) : ∃ Q' : Option Value → zMem → Prop, zC l m_T_fault 0 0 [.ref 0, .int x0] M Q' ∧ ∀ r N, Q' r N → (∃ v : Value, r = some v ∧ v.category = 1 ∧ ∀ ad, zv ad v = v) ∧ zLqu N := by
  obtain ⟨hw, ht⟩ := id h.1
  obtain ⟨d, d2, hW, hW2, hd, hn, hs⟩ := hw.k
  have h1 := hw.t
  have ht1 := ht.1
  have hC := u_T_faultX l d M hW hn x0.toInt (z32r x0).1 (z32r x0).2
  simp only [Int32.ofInt_toInt] at hC
  refine ⟨_, hC, ?_⟩
  rintro r N ⟨v, rfl, hv, hf, hp⟩
  exact ⟨⟨_, rfl, rfl, fun _ => rfl⟩, h.1.x hf hW (by decide) (by decide), h.2.x hf hW hn (by decide) (by decide)⟩
theorem v8_about (l : Launch) (M : zMem) (h : zLqu M) (x0 : Int32) : ∃ Q' : Option Value → zMem → Prop, zC l m_T_about 0 0 [.ref 0, .int x0] M Q' ∧ ∀ r N, Q' r N → (∃ v : Value, r = some v ∧ v.category = 1 ∧ ∀ ad, zv ad v = v) ∧ zLqu N := by
  obtain ⟨hw, ht⟩ := id h.1
  obtain ⟨d, d2, hW, hW2, hd, hn, hs⟩ := hw.k
  have h1 := hw.t
  have ht1 := ht.1
  have hC := u_T_aboutX l d M hW hn x0.toInt (z32r x0).1 (z32r x0).2
  simp only [Int32.ofInt_toInt] at hC
  refine ⟨_, hC, ?_⟩
  rintro r N ⟨v, rfl, hv, hf, hp⟩
  exact ⟨⟨_, rfl, rfl, fun _ => rfl⟩, h.1.x hf hW (by decide) (by decide), h.2.x hf hW hn (by decide) (by decide)⟩
theorem v8_moves (l : Launch) (M : zMem) (h : zLqu M) (x0 : Int32) (x1 : Int32) : ∃ Q' : Option Value → zMem → Prop, zC l m_T_moves 0 0 [.ref 0, .int x0, .int x1] M Q' ∧ ∀ r N, Q' r N → (∃ v : Value, r = some v ∧ v.category = 1 ∧ ∀ ad, zv ad v = v) ∧ zLqu N := by
  obtain ⟨hw, ht⟩ := id h.1
  obtain ⟨d, d2, hW, hW2, hd, hn, hs⟩ := hw.k
  have h1 := hw.t
  have ht1 := ht.1
  have hC := u_T_movesX l d M hW hn x0.toInt (z32r x0).1 (z32r x0).2 x1.toInt (z32r x1).1 (z32r x1).2
  simp only [Int32.ofInt_toInt] at hC
  refine ⟨_, hC, ?_⟩
  rintro r N ⟨v, rfl, hv, hf, hp⟩
  exact ⟨⟨_, rfl, rfl, fun _ => rfl⟩, h.1.x hf hW (by decide) (by decide), h.2.x hf hW hn (by decide) (by decide)⟩
theorem v8_times (l : Launch) (M : zMem) (h : zLqu M) (x0 : Int32) (x1 : Int32) : ∃ Q' : Option Value → zMem → Prop, zC l m_T_times 0 0 [.ref 0, .int x0, .int x1] M Q' ∧ ∀ r N, Q' r N → (∃ v : Value, r = some v ∧ v.category = 1 ∧ ∀ ad, zv ad v = v) ∧ zLqu N := by
  obtain ⟨hw, ht⟩ := id h.1
  obtain ⟨d, d2, hW, hW2, hd, hn, hs⟩ := hw.k
  have h1 := hw.t
  have ht1 := ht.1
  have hC := u_T_timesX l d M hW hn x0.toInt (z32r x0).1 (z32r x0).2 x1.toInt (z32r x1).1 (z32r x1).2
  simp only [Int32.ofInt_toInt] at hC
  refine ⟨_, hC, ?_⟩
  rintro r N ⟨v, rfl, hv, hf, hp⟩
  exact ⟨⟨_, rfl, rfl, fun _ => rfl⟩, h.1.x hf hW (by decide) (by decide), h.2.x hf hW hn (by decide) (by decide)⟩
theorem v8_order (l : Launch) (M : zMem) (h : zLqu M) (x0 : Int32) : ∃ Q' : Option Value → zMem → Prop, zC l m_T_order 0 0 [.ref 0, .int x0] M Q' ∧ ∀ r N, Q' r N → (∃ v : Value, r = some v ∧ v.category = 1 ∧ ∀ ad, zv ad v = v) ∧ zLqu N := by
  obtain ⟨hw, ht⟩ := id h.1
  obtain ⟨d, d2, hW, hW2, hd, hn, hs⟩ := hw.k
  have h1 := hw.t
  have ht1 := ht.1
  have hC := u_T_orderX l d M hW hn x0.toInt (z32r x0).1 (z32r x0).2
  simp only [Int32.ofInt_toInt] at hC
  refine ⟨_, hC, ?_⟩
  rintro r N ⟨v, rfl, hv, hf, hp⟩
  exact ⟨⟨_, rfl, rfl, fun _ => rfl⟩, h.1.x hf hW (by decide) (by decide), h.2.x hf hW hn (by decide) (by decide)⟩
theorem v8_makesOf (l : Launch) (M : zMem) (h : zLqu M) (x0 : Int32) : ∃ Q' : Option Value → zMem → Prop, zC l m_T_makesOf 0 0 [.ref 0, .int x0] M Q' ∧ ∀ r N, Q' r N → (∃ v : Value, r = some v ∧ v.category = 1 ∧ ∀ ad, zv ad v = v) ∧ zLqu N := by
  obtain ⟨hw, ht⟩ := id h.1
  obtain ⟨d, d2, hW, hW2, hd, hn, hs⟩ := hw.k
  have h1 := hw.t
  have ht1 := ht.1
  have hC := u_T_makesOfX l d M hW hn x0.toInt (z32r x0).1 (z32r x0).2
  simp only [Int32.ofInt_toInt] at hC
  refine ⟨_, hC, ?_⟩
  rintro r N ⟨v, rfl, hv, hf, hp⟩
  exact ⟨⟨_, rfl, rfl, fun _ => rfl⟩, h.1.x hf hW (by decide) (by decide), h.2.x hf hW hn (by decide) (by decide)⟩
theorem v8_sortOf (l : Launch) (M : zMem) (h : zLqu M) (x0 : Int32) : ∃ Q' : Option Value → zMem → Prop, zC l m_T_sortOf 0 0 [.ref 0, .int x0] M Q' ∧ ∀ r N, Q' r N → (∃ v : Value, r = some v ∧ v.category = 1 ∧ ∀ ad, zv ad v = v) ∧ zLqu N := by
  obtain ⟨hw, ht⟩ := id h.1
  obtain ⟨d, d2, hW, hW2, hd, hn, hs⟩ := hw.k
  have h1 := hw.t
  have ht1 := ht.1
  have hC := u_T_sortOfX l d M hW hn x0.toInt (z32r x0).1 (z32r x0).2
  simp only [Int32.ofInt_toInt] at hC
  refine ⟨_, hC, ?_⟩
  rintro r N ⟨v, rfl, hv, hf, hp⟩
  exact ⟨⟨_, rfl, rfl, fun _ => rfl⟩, h.1.x hf hW (by decide) (by decide), h.2.x hf hW hn (by decide) (by decide)⟩
theorem v8_sort (l : Launch) (M : zMem) (h : zLqu M) (x0 : Int32) (x1 : Int32) : ∃ Q' : Option Value → zMem → Prop, zC l m_T_sort 0 0 [.ref 0, .int x0, .int x1] M Q' ∧ ∀ r N, Q' r N → (∃ v : Value, r = some v ∧ v.category = 1 ∧ ∀ ad, zv ad v = v) ∧ zLqu N := by
  obtain ⟨hw, ht⟩ := id h.1
  obtain ⟨d, d2, hW, hW2, hd, hn, hs⟩ := hw.k
  have h1 := hw.t
  have ht1 := ht.1
  have hC := u_T_sortX l d M hW hn x0.toInt (z32r x0).1 (z32r x0).2 x1.toInt (z32r x1).1 (z32r x1).2
  simp only [Int32.ofInt_toInt] at hC
  refine ⟨_, hC, ?_⟩
  rintro r N ⟨v, rfl, hv, hf, hp⟩
  exact ⟨⟨_, rfl, rfl, fun _ => rfl⟩, h.1.x hf hW (by decide) (by decide), h.2.x hf hW hn (by decide) (by decide)⟩
theorem v8_within (l : Launch) (M : zMem) (h : zLqu M) (x0 : Int32) (x1 : Int32) : ∃ Q' : Option Value → zMem → Prop, zC l m_T_within 0 0 [.ref 0, .int x0, .int x1] M Q' ∧ ∀ r N, Q' r N → (∃ v : Value, r = some v ∧ v.category = 1 ∧ ∀ ad, zv ad v = v) ∧ zLqu N := by
  obtain ⟨hw, ht⟩ := id h.1
  obtain ⟨d, d2, hW, hW2, hd, hn, hs⟩ := hw.k
  have h1 := hw.t
  have ht1 := ht.1
  have hC := u_T_withinX l d M hW hn x0.toInt (z32r x0).1 (z32r x0).2 x1.toInt (z32r x1).1 (z32r x1).2
  simp only [Int32.ofInt_toInt] at hC
  refine ⟨_, hC, ?_⟩
  rintro r N ⟨v, rfl, hv, hf, hp⟩
  exact ⟨⟨_, rfl, rfl, fun _ => rfl⟩, h.1.x hf hW (by decide) (by decide), h.2.x hf hW hn (by decide) (by decide)⟩
theorem v8_mark (l : Launch) (M : zMem) (h : zLqu M) (x0 : Int32) (x1 : Int32) : ∃ Q' : Option Value → zMem → Prop, zC l m_T_mark 0 0 [.ref 0, .int x0, .int x1] M Q' ∧ ∀ r N, Q' r N → (∃ v : Value, r = some v ∧ v.category = 1 ∧ ∀ ad, zv ad v = v) ∧ zLqu N := by
  obtain ⟨hw, ht⟩ := id h.1
  obtain ⟨d, d2, hW, hW2, hd, hn, hs⟩ := hw.k
  have h1 := hw.t
  have ht1 := ht.1
  have hC := u_T_markX l d M hW hn x0.toInt (z32r x0).1 (z32r x0).2 x1.toInt (z32r x1).1 (z32r x1).2
  simp only [Int32.ofInt_toInt] at hC
  refine ⟨_, hC, ?_⟩
  rintro r N ⟨v, rfl, hv, hf, hp⟩
  exact ⟨⟨_, rfl, rfl, fun _ => rfl⟩, h.1.x hf hW (by decide) (by decide), h.2.x hf hW hn (by decide) (by decide)⟩
theorem v8_product (l : Launch) (M : zMem) (h : zLqu M) (x0 : Int32) (x1 : Int32) (x2 : Int32) : ∃ Q' : Option Value → zMem → Prop, zC l m_T_product 0 0 [.ref 0, .int x0, .int x1, .int x2] M Q' ∧ ∀ r N, Q' r N → (∃ v : Value, r = some v ∧ v.category = 1 ∧ ∀ ad, zv ad v = v) ∧ zLqu N := by
  obtain ⟨hw, ht⟩ := id h.1
  obtain ⟨d, d2, hW, hW2, hd, hn, hs⟩ := hw.k
  have h1 := hw.t
  have ht1 := ht.1
  have hC := u_T_productX l d M hW hn x0.toInt (z32r x0).1 (z32r x0).2 x1.toInt (z32r x1).1 (z32r x1).2 x2.toInt (z32r x2).1 (z32r x2).2
  simp only [Int32.ofInt_toInt] at hC
  refine ⟨_, hC, ?_⟩
  rintro r N ⟨v, rfl, hv, hf, hp⟩
  exact ⟨⟨_, rfl, rfl, fun _ => rfl⟩, h.1.x hf hW (by decide) (by decide), h.2.x hf hW hn (by decide) (by decide)⟩
theorem v8_residue (l : Launch) (M : zMem) (h : zLqu M) (x0 : Int32) (x1 : Int32) : ∃ Q' : Option Value → zMem → Prop, zC l m_T_residue 0 0 [.ref 0, .int x0, .int x1] M Q' ∧ ∀ r N, Q' r N → (∃ v : Value, r = some v ∧ v.category = 1 ∧ ∀ ad, zv ad v = v) ∧ zLqu N := by
  obtain ⟨hw, ht⟩ := id h.1
  obtain ⟨d, d2, hW, hW2, hd, hn, hs⟩ := hw.k
  have h1 := hw.t
  have ht1 := ht.1
  have hC := u_T_residueX l d M hW hn x0.toInt (z32r x0).1 (z32r x0).2 x1.toInt (z32r x1).1 (z32r x1).2
  simp only [Int32.ofInt_toInt] at hC
  refine ⟨_, hC, ?_⟩
  rintro r N ⟨v, rfl, hv, hf, hp⟩
  exact ⟨⟨_, rfl, rfl, fun _ => rfl⟩, h.1.x hf hW (by decide) (by decide), h.2.x hf hW hn (by decide) (by decide)⟩
theorem v8_block (l : Launch) (M : zMem) (h : zLqu M) (x0 : Int32) (x1 : Int32) : ∃ Q' : Option Value → zMem → Prop, zC l m_T_block 0 0 [.ref 0, .int x0, .int x1] M Q' ∧ ∀ r N, Q' r N → (∃ v : Value, r = some v ∧ v.category = 1 ∧ ∀ ad, zv ad v = v) ∧ zLqu N := by
  obtain ⟨hw, ht⟩ := id h.1
  obtain ⟨d, d2, hW, hW2, hd, hn, hs⟩ := hw.k
  have h1 := hw.t
  have ht1 := ht.1
  have hC := u_T_blockX l d M hW hn x0.toInt (z32r x0).1 (z32r x0).2 x1.toInt (z32r x1).1 (z32r x1).2
  simp only [Int32.ofInt_toInt] at hC
  refine ⟨_, hC, ?_⟩
  rintro r N ⟨v, rfl, hv, hf, hp⟩
  exact ⟨⟨_, rfl, rfl, fun _ => rfl⟩, h.1.x hf hW (by decide) (by decide), h.2.x hf hW hn (by decide) (by decide)⟩
theorem v8_keeper (l : Launch) (M : zMem) (h : zLqu M) (x0 : Int32) : ∃ Q' : Option Value → zMem → Prop, zC l m_T_keeper 0 0 [.ref 0, .int x0] M Q' ∧ ∀ r N, Q' r N → (∃ v : Value, r = some v ∧ v.category = 1 ∧ ∀ ad, zv ad v = v) ∧ zLqu N := by
  obtain ⟨hw, ht⟩ := id h.1
  obtain ⟨d, d2, hW, hW2, hd, hn, hs⟩ := hw.k
  have h1 := hw.t
  have ht1 := ht.1
  have hC := u_T_keeperX l d M hW hn x0.toInt (z32r x0).1 (z32r x0).2
  simp only [Int32.ofInt_toInt] at hC
  refine ⟨_, hC, ?_⟩
  rintro r N ⟨v, rfl, hv, hf, hp⟩
  exact ⟨⟨_, rfl, rfl, fun _ => rfl⟩, h.1.x hf hW (by decide) (by decide), h.2.x hf hW hn (by decide) (by decide)⟩
theorem v8_orbit (l : Launch) (M : zMem) (h : zLqu M) (x0 : Int32) : ∃ Q' : Option Value → zMem → Prop, zC l m_T_orbit 0 0 [.ref 0, .int x0] M Q' ∧ ∀ r N, Q' r N → (∃ v : Value, r = some v ∧ v.category = 1 ∧ ∀ ad, zv ad v = v) ∧ zLqu N := by
  obtain ⟨hw, ht⟩ := id h.1
  obtain ⟨d, d2, hW, hW2, hd, hn, hs⟩ := hw.k
  have h1 := hw.t
  have ht1 := ht.1
  have hC := u_T_orbitX l d M hW hn x0.toInt (z32r x0).1 (z32r x0).2
  simp only [Int32.ofInt_toInt] at hC
  refine ⟨_, hC, ?_⟩
  rintro r N ⟨v, rfl, hv, hf, hp⟩
  exact ⟨⟨_, rfl, rfl, fun _ => rfl⟩, h.1.x hf hW (by decide) (by decide), h.2.x hf hW hn (by decide) (by decide)⟩
theorem v8_coset (l : Launch) (M : zMem) (h : zLqu M) (x0 : Int32) (x1 : Int32) : ∃ Q' : Option Value → zMem → Prop, zC l m_T_coset 0 0 [.ref 0, .int x0, .int x1] M Q' ∧ ∀ r N, Q' r N → (∃ v : Value, r = some v ∧ v.category = 1 ∧ ∀ ad, zv ad v = v) ∧ zLqu N := by
  obtain ⟨hw, ht⟩ := id h.1
  obtain ⟨d, d2, hW, hW2, hd, hn, hs⟩ := hw.k
  have h1 := hw.t
  have ht1 := ht.1
  have hC := u_T_cosetX l d M hW hn x0.toInt (z32r x0).1 (z32r x0).2 x1.toInt (z32r x1).1 (z32r x1).2
  simp only [Int32.ofInt_toInt] at hC
  refine ⟨_, hC, ?_⟩
  rintro r N ⟨v, rfl, hv, hf, hp⟩
  exact ⟨⟨_, rfl, rfl, fun _ => rfl⟩, h.1.x hf hW (by decide) (by decide), h.2.x hf hW hn (by decide) (by decide)⟩
theorem v8_takes (l : Launch) (M : zMem) (h : zLqu M) (x0 : Int32) (x1 : Int32) (x2 : Int32) : ∃ Q' : Option Value → zMem → Prop, zC l m_T_takes 0 0 [.ref 0, .int x0, .int x1, .int x2] M Q' ∧ ∀ r N, Q' r N → (∃ v : Value, r = some v ∧ v.category = 1 ∧ ∀ ad, zv ad v = v) ∧ zLqu N := by
  obtain ⟨hw, ht⟩ := id h.1
  obtain ⟨d, d2, hW, hW2, hd, hn, hs⟩ := hw.k
  have h1 := hw.t
  have ht1 := ht.1
  have hC := u_T_takesX l d M hW hn x0.toInt (z32r x0).1 (z32r x0).2 x1.toInt (z32r x1).1 (z32r x1).2 x2.toInt (z32r x2).1 (z32r x2).2
  simp only [Int32.ofInt_toInt] at hC
  refine ⟨_, hC, ?_⟩
  rintro r N ⟨v, rfl, hv, hf, hp⟩
  exact ⟨⟨_, rfl, rfl, fun _ => rfl⟩, h.1.x hf hW (by decide) (by decide), h.2.x hf hW hn (by decide) (by decide)⟩
theorem v8_moebius (l : Launch) (M : zMem) (h : zLqu M) (x0 : Int32) : ∃ Q' : Option Value → zMem → Prop, zC l m_T_moebius 0 0 [.ref 0, .int x0] M Q' ∧ ∀ r N, Q' r N → (∃ v : Value, r = some v ∧ v.category = 1 ∧ ∀ ad, zv ad v = v) ∧ zLqu N := by
  obtain ⟨hw, ht⟩ := id h.1
  obtain ⟨d, d2, hW, hW2, hd, hn, hs⟩ := hw.k
  have h1 := hw.t
  have ht1 := ht.1
  have hC := u_T_moebiusX l d M hW hn x0.toInt (z32r x0).1 (z32r x0).2
  simp only [Int32.ofInt_toInt] at hC
  refine ⟨_, hC, ?_⟩
  rintro r N ⟨v, rfl, hv, hf, hp⟩
  exact ⟨⟨_, rfl, rfl, fun _ => rfl⟩, h.1.x hf hW (by decide) (by decide), h.2.x hf hW hn (by decide) (by decide)⟩
theorem v8_mixed (l : Launch) (M : zMem) (h : zLqu M) (x0 : Int32) : ∃ Q' : Option Value → zMem → Prop, zC l m_T_mixed 0 0 [.ref 0, .int x0] M Q' ∧ ∀ r N, Q' r N → (∃ v : Value, r = some v ∧ v.category = 1 ∧ ∀ ad, zv ad v = v) ∧ zLqu N := by
  obtain ⟨hw, ht⟩ := id h.1
  obtain ⟨d, d2, hW, hW2, hd, hn, hs⟩ := hw.k
  have h1 := hw.t
  have ht1 := ht.1
  have hC := u_T_mixedX l d M hW hn x0.toInt (z32r x0).1 (z32r x0).2
  simp only [Int32.ofInt_toInt] at hC
  refine ⟨_, hC, ?_⟩
  rintro r N ⟨v, rfl, hv, hf, hp⟩
  exact ⟨⟨_, rfl, rfl, fun _ => rfl⟩, h.1.x hf hW (by decide) (by decide), h.2.x hf hW hn (by decide) (by decide)⟩
theorem v8_centre (l : Launch) (M : zMem) (h : zLqu M) (x0 : Int32) : ∃ Q' : Option Value → zMem → Prop, zC l m_T_centre 0 0 [.ref 0, .int x0] M Q' ∧ ∀ r N, Q' r N → (∃ v : Value, r = some v ∧ v.category = 1 ∧ ∀ ad, zv ad v = v) ∧ zLqu N := by
  obtain ⟨hw, ht⟩ := id h.1
  obtain ⟨d, d2, hW, hW2, hd, hn, hs⟩ := hw.k
  have h1 := hw.t
  have ht1 := ht.1
  have hC := u_T_centreX l d M hW hn x0.toInt (z32r x0).1 (z32r x0).2
  simp only [Int32.ofInt_toInt] at hC
  refine ⟨_, hC, ?_⟩
  rintro r N ⟨v, rfl, hv, hf, hp⟩
  exact ⟨⟨_, rfl, rfl, fun _ => rfl⟩, h.1.x hf hW (by decide) (by decide), h.2.x hf hW hn (by decide) (by decide)⟩
theorem v8_pairs (l : Launch) (M : zMem) (h : zLqu M) (x0 : Int32) (x1 : Int32) : ∃ Q' : Option Value → zMem → Prop, zC l m_T_pairs 0 0 [.ref 0, .int x0, .int x1] M Q' ∧ ∀ r N, Q' r N → (∃ v : Value, r = some v ∧ v.category = 1 ∧ ∀ ad, zv ad v = v) ∧ zLqu N := by
  obtain ⟨hw, ht⟩ := id h.1
  obtain ⟨d, d2, hW, hW2, hd, hn, hs⟩ := hw.k
  have h1 := hw.t
  have ht1 := ht.1
  have hC := u_T_pairsX l d M hW hn x0.toInt (z32r x0).1 (z32r x0).2 x1.toInt (z32r x1).1 (z32r x1).2
  simp only [Int32.ofInt_toInt] at hC
  refine ⟨_, hC, ?_⟩
  rintro r N ⟨v, rfl, hv, hf, hp⟩
  exact ⟨⟨_, rfl, rfl, fun _ => rfl⟩, h.1.x hf hW (by decide) (by decide), h.2.x hf hW hn (by decide) (by decide)⟩
theorem v8_alike (l : Launch) (M : zMem) (h : zLqu M) : ∃ Q' : Option Value → zMem → Prop, zC l m_T_alike 0 0 [.ref 0] M Q' ∧ ∀ r N, Q' r N → (∃ v : Value, r = some v ∧ v.category = 1 ∧ ∀ ad, zv ad v = v) ∧ zLqu N := by
  obtain ⟨hw, ht⟩ := id h.1
  obtain ⟨d, d2, hW, hW2, hd, hn, hs⟩ := hw.k
  have h1 := hw.t
  have ht1 := ht.1
  have hC := u_T_alikeX l d M hW hn 
  refine ⟨_, hC, ?_⟩
  rintro r N ⟨v, rfl, hv, hf, hp⟩
  exact ⟨⟨_, rfl, rfl, fun _ => rfl⟩, h.1.x hf hW (by decide) (by decide), h.2.x hf hW hn (by decide) (by decide)⟩
theorem v8_meet (l : Launch) (M : zMem) (h : zLqu M) (x0 : Int32) (x1 : Int32) : ∃ Q' : Option Value → zMem → Prop, zC l m_T_meet 0 0 [.ref 0, .int x0, .int x1] M Q' ∧ ∀ r N, Q' r N → (∃ v : Value, r = some v ∧ v.category = 1 ∧ ∀ ad, zv ad v = v) ∧ zLqu N := by
  obtain ⟨hw, ht⟩ := id h.1
  obtain ⟨d, d2, hW, hW2, hd, hn, hs⟩ := hw.k
  have h1 := hw.t
  have ht1 := ht.1
  have hC := u_T_meetX l d M hW hn x0.toInt (z32r x0).1 (z32r x0).2 x1.toInt (z32r x1).1 (z32r x1).2
  simp only [Int32.ofInt_toInt] at hC
  refine ⟨_, hC, ?_⟩
  rintro r N ⟨v, rfl, hv, hf, hp⟩
  exact ⟨⟨_, rfl, rfl, fun _ => rfl⟩, h.1.x hf hW (by decide) (by decide), h.2.x hf hW hn (by decide) (by decide)⟩
theorem v8_join (l : Launch) (M : zMem) (h : zLqu M) (x0 : Int32) (x1 : Int32) : ∃ Q' : Option Value → zMem → Prop, zC l m_T_join 0 0 [.ref 0, .int x0, .int x1] M Q' ∧ ∀ r N, Q' r N → (∃ v : Value, r = some v ∧ v.category = 1 ∧ ∀ ad, zv ad v = v) ∧ zLqu N := by
  obtain ⟨hw, ht⟩ := id h.1
  obtain ⟨d, d2, hW, hW2, hd, hn, hs⟩ := hw.k
  have h1 := hw.t
  have ht1 := ht.1
  have hC := u_T_joinX l d M hW hn x0.toInt (z32r x0).1 (z32r x0).2 x1.toInt (z32r x1).1 (z32r x1).2
  simp only [Int32.ofInt_toInt] at hC
  refine ⟨_, hC, ?_⟩
  rintro r N ⟨v, rfl, hv, hf, hp⟩
  exact ⟨⟨_, rfl, rfl, fun _ => rfl⟩, h.1.x hf hW (by decide) (by decide), h.2.x hf hW hn (by decide) (by decide)⟩
theorem v8_orders (l : Launch) (M : zMem) (h : zLqu M) (x0 : Int32) : ∃ Q' : Option Value → zMem → Prop, zC l m_T_orders 0 0 [.ref 0, .int x0] M Q' ∧ ∀ r N, Q' r N → (∃ v : Value, r = some v ∧ v.category = 1 ∧ ∀ ad, zv ad v = v) ∧ zLqu N := by
  obtain ⟨hw, ht⟩ := id h.1
  obtain ⟨d, d2, hW, hW2, hd, hn, hs⟩ := hw.k
  have h1 := hw.t
  have ht1 := ht.1
  have hC := u_T_ordersX l d M hW hn x0.toInt (z32r x0).1 (z32r x0).2
  simp only [Int32.ofInt_toInt] at hC
  refine ⟨_, hC, ?_⟩
  rintro r N ⟨v, rfl, hv, hf, hp⟩
  exact ⟨⟨_, rfl, rfl, fun _ => rfl⟩, h.1.x hf hW (by decide) (by decide), h.2.x hf hW hn (by decide) (by decide)⟩
theorem v8_likes (l : Launch) (M : zMem) (h : zLqu M) (x0 : Int32) : ∃ Q' : Option Value → zMem → Prop, zC l m_T_likes 0 0 [.ref 0, .int x0] M Q' ∧ ∀ r N, Q' r N → (∃ v : Value, r = some v ∧ v.category = 1 ∧ ∀ ad, zv ad v = v) ∧ zLqu N := by
  obtain ⟨hw, ht⟩ := id h.1
  obtain ⟨d, d2, hW, hW2, hd, hn, hs⟩ := hw.k
  have h1 := hw.t
  have ht1 := ht.1
  have hC := u_T_likesX l d M hW hn x0.toInt (z32r x0).1 (z32r x0).2
  simp only [Int32.ofInt_toInt] at hC
  refine ⟨_, hC, ?_⟩
  rintro r N ⟨v, rfl, hv, hf, hp⟩
  exact ⟨⟨_, rfl, rfl, fun _ => rfl⟩, h.1.x hf hW (by decide) (by decide), h.2.x hf hW hn (by decide) (by decide)⟩
theorem v8_peak (l : Launch) (M : zMem) (h : zLqu M) (x0 : Int32) (x1 : Int32) (x2 : Int32) : ∃ Q' : Option Value → zMem → Prop, zC l m_T_peak 0 0 [.ref 0, .int x0, .int x1, .int x2] M Q' ∧ ∀ r N, Q' r N → (∃ v : Value, r = some v ∧ v.category = 1 ∧ ∀ ad, zv ad v = v) ∧ zLqu N := by
  obtain ⟨hw, ht⟩ := id h.1
  obtain ⟨d, d2, hW, hW2, hd, hn, hs⟩ := hw.k
  have h1 := hw.t
  have ht1 := ht.1
  have hC := u_T_peakX l d M hW hn x0.toInt (z32r x0).1 (z32r x0).2 x1.toInt (z32r x1).1 (z32r x1).2 x2.toInt (z32r x2).1 (z32r x2).2
  simp only [Int32.ofInt_toInt] at hC
  refine ⟨_, hC, ?_⟩
  rintro r N ⟨v, rfl, hv, hf, hp⟩
  exact ⟨⟨_, rfl, rfl, fun _ => rfl⟩, h.1.x hf hW (by decide) (by decide), h.2.x hf hW hn (by decide) (by decide)⟩
theorem v8_local (l : Launch) (M : zMem) (h : zLqu M) (x0 : Int32) (x1 : Int32) (x2 : Int32) (x3 : Int32) : ∃ Q' : Option Value → zMem → Prop, zC l m_T_local 0 0 [.ref 0, .int x0, .int x1, .int x2, .int x3] M Q' ∧ ∀ r N, Q' r N → (∃ v : Value, r = some v ∧ v.category = 1 ∧ ∀ ad, zv ad v = v) ∧ zLqu N := by
  obtain ⟨hw, ht⟩ := id h.1
  obtain ⟨d, d2, hW, hW2, hd, hn, hs⟩ := hw.k
  have h1 := hw.t
  have ht1 := ht.1
  have hC := u_T_localX l d M hW hn x0.toInt (z32r x0).1 (z32r x0).2 x1.toInt (z32r x1).1 (z32r x1).2 x2.toInt (z32r x2).1 (z32r x2).2 x3.toInt (z32r x3).1 (z32r x3).2
  simp only [Int32.ofInt_toInt] at hC
  refine ⟨_, hC, ?_⟩
  rintro r N ⟨v, rfl, hv, hf, hp⟩
  exact ⟨⟨_, rfl, rfl, fun _ => rfl⟩, h.1.x hf hW (by decide) (by decide), h.2.x hf hW hn (by decide) (by decide)⟩
theorem v8_units (l : Launch) (M : zMem) (h : zLqu M) (P : Nat) (mv : List Nat) (T : zGT) (d : Nat) (hW : zKW d M) (hn : zf M 0 2 = some (d + 0)) (hr : zRSu P mv T M) (hs : zKSu P mv T d M) : ∃ Q' : Option Value → zMem → Prop, zC l m_T_units 0 0 [.ref 0] M Q' ∧ ∀ r N, Q' r N → (∃ v : Int, r = some (.int (Int32.ofInt v)) ∧ zfR P mv T v) ∧ zLqu N ∧ zRSu P mv T N := by
  obtain ⟨hw, ht⟩ := id h.1
  have h1 := hw.t
  have ht1 := ht.1
  have hIF := hw.2.2.2.2.2.2.2.1.2.2.2.2.2.1
  have hmq2 : zMvF M = mv := hr.1.2.2.2.2.1
  have hpm : ∀ g ∈ mv, gpm g := fun g hg => hIF.2.2.1 g (by rw [hmq2]; exact hg)
  have hGr := hr.1.2.1.gr hpm
  have hC := u_T_unitsU l d M hW hn  T hr.1.1 hGr.1 hGr hs.1.2.2.1 hs.1.2.2.2.1 hs.1.2.2.2.2.2 hs.2
  refine ⟨_, hC, ?_⟩
  rintro r N ⟨v, rfl, hv, hf, p1, p2, p3⟩
  have hrn : zRSu P mv T N := hr.hi (fun q hq => hf.hi hW (by decide) hq) hf.1 hf.2.1
  have hB : zLqu N := ⟨h.1.x hf hW (by decide) (by decide), P, mv, T, d, by rw [hf.2.2.1]; exact hn, hf.w hW, hrn, zKS.fr hW hf hs.1 (by decide), Or.inr ⟨p2, p3⟩⟩
  exact ⟨⟨v, rfl, by omega, zUk d N, by rw [p1]; exact zUf_y p3⟩, hB, hrn⟩
theorem v8_unit (l : Launch) (M : zMem) (h : zLqu M) (x0 : Int32) (x1 : Int32) : ∃ Q' : Option Value → zMem → Prop, zC l m_T_unit 0 0 [.ref 0, .int x0, .int x1] M Q' ∧ ∀ r N, Q' r N → (∃ v : Value, r = some v ∧ v.category = 1 ∧ ∀ ad, zv ad v = v) ∧ zLqu N := by
  obtain ⟨hw, ht⟩ := id h.1
  obtain ⟨P, mv, T, d, hn, hW, hr, hs⟩ := id h.2
  have h1 := hw.t
  have ht1 := ht.1
  have hIF := hw.2.2.2.2.2.2.2.1.2.2.2.2.2.1
  have hmq2 : zMvF M = mv := hr.1.2.2.2.2.1
  have hpm : ∀ g ∈ mv, gpm g := fun g hg => hIF.2.2.1 g (by rw [hmq2]; exact hg)
  have hGr := hr.1.2.1.gr hpm
  have hC := u_T_unitU l d M hW hn x0.toInt (z32r x0).1 (z32r x0).2 x1.toInt (z32r x1).1 (z32r x1).2 T hr.1.1 hGr.1 hGr hs.1.2.2.1 hs.1.2.2.2.1 hs.1.2.2.2.2.2 hs.2 hs.1.2.2.2.2.1
  simp only [Int32.ofInt_toInt] at hC
  refine ⟨_, hC, ?_⟩
  rintro r N ⟨v, rfl, hv, hf, p1, p2, p3⟩
  have hrn : zRSu P mv T N := hr.hi (fun q hq => hf.hi hW (by decide) hq) hf.1 hf.2.1
  have hB : zLqu N := ⟨h.1.x hf hW (by decide) (by decide), P, mv, T, d, by rw [hf.2.2.1]; exact hn, hf.w hW, hrn, zKS.fr hW hf hs.1 (by decide), Or.inr ⟨p2, p3⟩⟩
  exact ⟨⟨_, rfl, rfl, fun _ => rfl⟩, hB⟩
theorem v8_named (l : Launch) (M : zMem) (h : zLqu M) (x0 : Int32) (x1 : Int32) : ∃ Q' : Option Value → zMem → Prop, zC l m_T_named 0 0 [.ref 0, .int x0, .int x1] M Q' ∧ ∀ r N, Q' r N → (∃ v : Value, r = some v ∧ v.category = 2 ∧ ∀ ad, zv ad v = v) ∧ zLqu N := by
  obtain ⟨hw, ht⟩ := id h.1
  obtain ⟨d, d2, hW, hW2, hd, hn, hs⟩ := hw.k
  have h1 := hw.t
  have ht1 := ht.1
  have hC := u_T_namedX l d M hW hn x0.toInt (z32r x0).1 (z32r x0).2 x1.toInt (z32r x1).1 (z32r x1).2
  simp only [Int32.ofInt_toInt] at hC
  refine ⟨_, hC, ?_⟩
  rintro r N ⟨v, rfl, hv, hf, hp⟩
  exact ⟨⟨_, rfl, rfl, fun _ => rfl⟩, h.1.x hf hW (by decide) (by decide), h.2.x hf hW hn (by decide) (by decide)⟩
theorem v8_has (l : Launch) (M : zMem) (h : zLqu M) (x0 : Int32) : ∃ Q' : Option Value → zMem → Prop, zC l m_T_has 0 0 [.ref 0, .int x0] M Q' ∧ ∀ r N, Q' r N → (∃ v : Value, r = some v ∧ v.category = 2 ∧ ∀ ad, zv ad v = v) ∧ zLqu N := by
  obtain ⟨hw, ht⟩ := id h.1
  obtain ⟨d, d2, hW, hW2, hd, hn, hs⟩ := hw.k
  have h1 := hw.t
  have ht1 := ht.1
  have hC := u_T_hasX l d M hW hn x0.toInt (z32r x0).1 (z32r x0).2
  simp only [Int32.ofInt_toInt] at hC
  refine ⟨_, hC, ?_⟩
  rintro r N ⟨v, rfl, hv, hf, hp⟩
  exact ⟨⟨_, rfl, rfl, fun _ => rfl⟩, h.1.x hf hW (by decide) (by decide), h.2.x hf hW hn (by decide) (by decide)⟩
theorem v8_marked (l : Launch) (M : zMem) (h : zLqu M) (x0 : Int32) : ∃ Q' : Option Value → zMem → Prop, zC l m_T_marked 0 0 [.ref 0, .int x0] M Q' ∧ ∀ r N, Q' r N → (∃ v : Value, r = some v ∧ v.category = 2 ∧ ∀ ad, zv ad v = v) ∧ zLqu N := by
  obtain ⟨hw, ht⟩ := id h.1
  obtain ⟨d, d2, hW, hW2, hd, hn, hs⟩ := hw.k
  have h1 := hw.t
  have ht1 := ht.1
  have hC := u_T_markedX l d M hW hn x0.toInt (z32r x0).1 (z32r x0).2
  simp only [Int32.ofInt_toInt] at hC
  refine ⟨_, hC, ?_⟩
  rintro r N ⟨v, rfl, hv, hf, hp⟩
  exact ⟨⟨_, rfl, rfl, fun _ => rfl⟩, h.1.x hf hW (by decide) (by decide), h.2.x hf hW hn (by decide) (by decide)⟩
theorem v8_character (l : Launch) (M : zMem) (h : zLqu M) (x0 : Int32) : ∃ Q' : Option Value → zMem → Prop, zC l m_T_character 0 0 [.ref 0, .int x0] M Q' ∧ ∀ r N, Q' r N → (∃ v : Value, r = some v ∧ v.category = 2 ∧ ∀ ad, zv ad v = v) ∧ zLqu N := by
  obtain ⟨hw, ht⟩ := id h.1
  obtain ⟨d, d2, hW, hW2, hd, hn, hs⟩ := hw.k
  have h1 := hw.t
  have ht1 := ht.1
  have hC := u_T_characterX l d M hW hn x0.toInt (z32r x0).1 (z32r x0).2
  simp only [Int32.ofInt_toInt] at hC
  refine ⟨_, hC, ?_⟩
  rintro r N ⟨v, rfl, hv, hf, hp⟩
  exact ⟨⟨_, rfl, rfl, fun _ => rfl⟩, h.1.x hf hW (by decide) (by decide), h.2.x hf hW hn (by decide) (by decide)⟩
theorem v8_parts (l : Launch) (M : zMem) (h : zLqu M) : ∃ Q' : Option Value → zMem → Prop, zC l m_T_parts 0 0 [.ref 0] M Q' ∧ ∀ r N, Q' r N → (∃ v : Value, r = some v ∧ v.category = 1 ∧ ∀ ad, zv ad v = v) ∧ zLqu N := by
  obtain ⟨hw, ht⟩ := id h.1
  obtain ⟨d, d2, hW, hW2, hd, hn, hs⟩ := hw.k
  have h1 := hw.t
  have ht1 := ht.1
  have hC := u_T_partsX l d M hW hn 
  refine ⟨_, hC, ?_⟩
  rintro r N ⟨v, rfl, hv, hf, hp⟩
  exact ⟨⟨_, rfl, rfl, fun _ => rfl⟩, h.1.x hf hW (by decide) (by decide), h.2.x hf hW hn (by decide) (by decide)⟩
theorem v8_congruence (l : Launch) (M : zMem) (h : zLqu M) (x0 : Int32) : ∃ Q' : Option Value → zMem → Prop, zC l m_T_congruence 0 0 [.ref 0, .int x0] M Q' ∧ ∀ r N, Q' r N → (∃ v : Value, r = some v ∧ v.category = 2 ∧ ∀ ad, zv ad v = v) ∧ zLqu N := by
  obtain ⟨hw, ht⟩ := id h.1
  obtain ⟨d, d2, hW, hW2, hd, hn, hs⟩ := hw.k
  have h1 := hw.t
  have ht1 := ht.1
  have hC := u_T_congruenceX l d M hW hn x0.toInt (z32r x0).1 (z32r x0).2
  simp only [Int32.ofInt_toInt] at hC
  refine ⟨_, hC, ?_⟩
  rintro r N ⟨v, rfl, hv, hf, hp⟩
  exact ⟨⟨_, rfl, rfl, fun _ => rfl⟩, h.1.x hf hW (by decide) (by decide), h.2.x hf hW hn (by decide) (by decide)⟩
theorem v8_is (l : Launch) (M : zMem) (h : zLqu M) (x0 : Int32) : ∃ Q' : Option Value → zMem → Prop, zC l m_T_is 0 0 [.ref 0, .int x0] M Q' ∧ ∀ r N, Q' r N → (∃ v : Value, r = some v ∧ v.category = 1 ∧ ∀ ad, zv ad v = v) ∧ zLqu N := by
  obtain ⟨hw, ht⟩ := id h.1
  obtain ⟨d, d2, hW, hW2, hd, hn, hs⟩ := hw.k
  have h1 := hw.t
  have ht1 := ht.1
  have hC := u_T_isX l d M hW hn x0.toInt (z32r x0).1 (z32r x0).2
  simp only [Int32.ofInt_toInt] at hC
  refine ⟨_, hC, ?_⟩
  rintro r N ⟨v, rfl, hv, hf, hp⟩
  exact ⟨⟨_, rfl, rfl, fun _ => rfl⟩, h.1.x hf hW (by decide) (by decide), h.2.x hf hW hn (by decide) (by decide)⟩
theorem v8_makes (l : Launch) (M : zMem) (h : zLqu M) : ∃ Q' : Option Value → zMem → Prop, zC l m_T_makes 0 0 [.ref 0] M Q' ∧ ∀ r N, Q' r N → (∃ v : Int32, r = some (.int v)) ∧ zLmu N ∧ zLw N ∧ ze N 1 1 = 0 ∧ (∀ q, 81 ≤ q → zi N q = zi M q ∧ zj N q = zj M q) := by
  obtain ⟨hw, ht⟩ := id h.1
  obtain ⟨d, d2, hW, hW2, hd, hn, hs⟩ := hw.k
  have h1 := hw.t
  have ht1 := ht.1
  have hC := u_T_makesX l d M hW hn
  refine ⟨_, hC, ?_⟩
  rintro r N ⟨v, rfl, hv, hf, hp⟩
  exact ⟨⟨_, rfl⟩, h.2.x hf hW hn (by decide) (by decide), hw.c hf hW (by decide), hp, fun q hq => hf.hi hW (by decide) hq⟩
theorem v8_take (l : Launch) (M : zMem) (h : zLqu M) (x0 : Int32) (x1 : Int32) : ∃ Q' : Option Value → zMem → Prop, zC l m_T_take 0 0 [.ref 0, .int x0, .int x1] M Q' ∧ ∀ r N, Q' r N → (∃ v : Value, r = some v ∧ v.category = 1 ∧ ∀ ad, zv ad v = v) ∧ zLqu N := by
  obtain ⟨hw, ht⟩ := id h.1
  obtain ⟨d, d2, hW, hW2, hd, hn, hs⟩ := hw.k
  have h1 := hw.t
  have ht1 := ht.1
  have hC := u_T_takeX l d M hW hn x0.toInt (z32r x0).1 (z32r x0).2 x1.toInt (z32r x1).1 (z32r x1).2
  simp only [Int32.ofInt_toInt] at hC
  refine ⟨_, hC, ?_⟩
  rintro r N ⟨v, rfl, hv, hf, hp⟩
  exact ⟨⟨_, rfl, rfl, fun _ => rfl⟩, h.1.x hf hW (by decide) (by decide), h.2.x hf hW hn (by decide) (by decide)⟩
theorem v8_marks (l : Launch) (M : zMem) (h : zLqu M) : ∃ Q' : Option Value → zMem → Prop, zC l m_T_marks 0 0 [.ref 0] M Q' ∧ ∀ r N, Q' r N → (∃ v : Int32, r = some (.int v)) ∧ zLmu N ∧ zLw N ∧ ze N 1 1 = 0 ∧ (∀ q, 81 ≤ q → zi N q = zi M q ∧ zj N q = zj M q) := by
  obtain ⟨hw, ht⟩ := id h.1
  obtain ⟨d, d2, hW, hW2, hd, hn, hs⟩ := hw.k
  have h1 := hw.t
  have ht1 := ht.1
  have hC := u_T_marksX l d M hW hn
  refine ⟨_, hC, ?_⟩
  rintro r N ⟨v, rfl, hv, hf, hp⟩
  exact ⟨⟨_, rfl⟩, h.2.x hf hW hn (by decide) (by decide), hw.c hf hW (by decide), hp, fun q hq => hf.hi hW (by decide) hq⟩
theorem v8_uses (l : Launch) (M : zMem) (h : zLqu M) (x0 : Int32) : ∃ Q' : Option Value → zMem → Prop, zC l m_T_uses 0 0 [.ref 0, .int x0] M Q' ∧ ∀ r N, Q' r N → (∃ v : Value, r = some v ∧ v.category = 1 ∧ ∀ ad, zv ad v = v) ∧ zLqu N := by
  obtain ⟨hw, ht⟩ := id h.1
  obtain ⟨d, d2, hW, hW2, hd, hn, hs⟩ := hw.k
  have h1 := hw.t
  have ht1 := ht.1
  have hC := u_T_usesX l d M hW hn x0.toInt (z32r x0).1 (z32r x0).2
  simp only [Int32.ofInt_toInt] at hC
  refine ⟨_, hC, ?_⟩
  rintro r N ⟨v, rfl, hv, hf, hp⟩
  exact ⟨⟨_, rfl, rfl, fun _ => rfl⟩, h.1.x hf hW (by decide) (by decide), h.2.x hf hW hn (by decide) (by decide)⟩
theorem v8_grows (l : Launch) (M : zMem) (h : zLqu M) (x0 : Int32) (x1 : Int32) (x2 : Int32) : ∃ Q' : Option Value → zMem → Prop, zC l m_T_grows 0 0 [.ref 0, .int x0, .int x1, .int x2] M Q' ∧ ∀ r N, Q' r N → (∃ v : Value, r = some v ∧ v.category = 2 ∧ ∀ ad, zv ad v = v) ∧ zLqu N := by
  obtain ⟨hw, ht⟩ := id h.1
  obtain ⟨d, d2, hW, hW2, hd, hn, hs⟩ := hw.k
  have h1 := hw.t
  have ht1 := ht.1
  have hC := u_T_growsX l d M hW hn x0.toInt (z32r x0).1 (z32r x0).2 x1.toInt (z32r x1).1 (z32r x1).2 x2.toInt (z32r x2).1 (z32r x2).2
  simp only [Int32.ofInt_toInt] at hC
  refine ⟨_, hC, ?_⟩
  rintro r N ⟨v, rfl, hv, hf, hp⟩
  exact ⟨⟨_, rfl, rfl, fun _ => rfl⟩, h.1.x hf hW (by decide) (by decide), h.2.x hf hW hn (by decide) (by decide)⟩
theorem v8_undo (l : Launch) (M : zMem) (h : zLqu M) : ∃ Q' : Option Value → zMem → Prop, zC l m_T_undo 0 0 [.ref 0] M Q' ∧ ∀ r N, Q' r N → (∃ v : Value, r = some v ∧ v.category = 1 ∧ ∀ ad, zv ad v = v) ∧ zLqu N := by
  obtain ⟨hw, ht⟩ := id h.1
  obtain ⟨d, d2, hW, hW2, hd, hn, hs⟩ := hw.k
  have h1 := hw.t
  have ht1 := ht.1
  have hC := u_T_undoX l d M hW hn 
  refine ⟨_, hC, ?_⟩
  rintro r N ⟨v, rfl, hv, hf, hp⟩
  exact ⟨⟨_, rfl, rfl, fun _ => rfl⟩, h.1.x hf hW (by decide) (by decide), h.2.x hf hW hn (by decide) (by decide)⟩
theorem w8_init (l : Launch) (M : zMem) (h : zn M = 82) (h2 : (zsh M 81).1 = 14) (h3 : ∀ j, zi M 81 j = 0) : zC l m_M_init 32 78111 [.ref 81] M (fun r N => r = none ∧ zOl (zmk M) N ∧ zMt N ∧ zWd N ∧ ze N 81 1 = 0 ∧ ∃ T, zRSu 1 [] T N) := by
  have nw := zmk_nw M
  refine zC_of (L0 := [some (.ref 81)]) md_M_init (Nat.le_of_ble_eq_true rfl) rfl ?_ (fun r N hq _ => by
    have e := hq.2.1.1
    unfold zn zw at nw ⊢
    rw [e]
    exact nw)
  refine k_Mpre l _ _ M h h2 (by show 114 ≤ zn M + 32; omega) (Nat.le_refl _) ?_
  have hW := zmk_t M h h2
  have e12 : ze (zmk M) 81 12 = 1 := by
    unfold ze
    rw [(zmk_o M h).2.2 12, if_pos rfl]
    rfl
  have e13 : ze (zmk M) 81 13 = 0 := zmk_z h h3 (by decide) (by decide) (by decide)
  have e14 : ze (zmk M) 81 14 = 0 := zmk_z h h3 (by decide) (by decide) (by decide)
  have e57 : ze (zmk M) 81 57 = 0 := zmk_z h h3 (by decide) (by decide) (by decide)
  have e1 : ze (zmk M) 81 1 = 0 := zmk_z h h3 (by decide) (by decide) (by decide)
  have b83 : zB 83 24 0 5 (zmk M) := zmk_b (zmk_a83 M h).2.2.1 (by decide)
  have b85 : zB 85 144 0 5 (zmk M) := zmk_b (zmk_a85 M h).2.2.1 (by decide)
  have b110 : zB 110 65536 0 2147483647 (zmk M) := zmk_b (zmk_a110 M h).2.2.1 (by decide)
  have hX : zn (zmk M) ≤ zn M + 32 ∧ zw (zmk M) ≤ zw M + 78111 := by omega
  refine zw_aload_n (pc := 287) (n := 0) (x := 81) rfl (zdal_p dlC_M_init_5 (i := 19) rfl) ?_
  refine zr_callV hW hX (pc := 288) [] [] l_M_118 (c_M_buildsF l (zmk M) hW (by omega) (by omega) (by omega) (by omega) (zPm_0 e13) (zFin_0 e13) b83 b85) rfl rfl rfl (by decide) (Nat.le_of_ble_eq_true rfl) (zdal_p dlC_M_init_5 (i := 20) rfl) ?_
  rintro _ N1 ⟨rfl, hf1, T, hT, hB, hTm, hCd⟩
  have hW1 := hf1.w hW
  have hX1 : zn N1 ≤ zn M + 32 ∧ zw N1 ≤ zw M + 78111 := by
    have e := hf1.1
    unfold zn zw at hX ⊢
    rw [e]
    exact hX
  have q12 : ze N1 81 12 = ze (zmk M) 81 12 := hf1.e (by decide)
  have q13 : ze N1 81 13 = ze (zmk M) 81 13 := hf1.e (by decide)
  have q14 : ze N1 81 14 = ze (zmk M) 81 14 := hf1.e (by decide)
  have mz : ∀ K : zMem, ze K 81 13 = 0 → zMvs K = [] := fun K hK => by
    unfold zMvs
    rw [hK]
    rfl
  rw [mz _ e13] at hTm hCd
  refine zw_aload_n (pc := 291) (n := 0) (x := 81) rfl (zdal_p dlC_M_init_5 (i := 21) rfl) ?_
  refine zr_callV hW1 hX1 (pc := 292) [] [] l_M_121 (c_M_inForceU l N1 hW1 [] (fun _ => 0) 0 (gF T).length (gmkI T) (by have h_ := (gT_zTA hT).1.2; omega) [] (by omega) (by omega) (by omega) (by omega) (zPm_0 (by omega)) (zFin_0 (by omega)) (zB.fr hf1 b83 (by decide) (by decide)) (by omega) (by omega) (mz _ (by omega)) (zRNm_z (by omega))) rfl rfl rfl (by decide) (Nat.le_of_ble_eq_true rfl) (zdal_p dlC_M_init_5 (i := 22) rfl) ?_
  rintro _ N2 ⟨rfl, hf2, p1, p2, p3, p4, p5, p6, p7, p8, p9⟩
  have q1 : ze N2 81 1 = 0 := (hf2.e (by decide)).trans ((hf1.e (by decide)).trans e1)
  have q142 : ze N2 81 14 = 0 := (hf2.e (by decide)).trans (q14.trans e14)
  have q57 : ze N2 81 57 = 0 := (hf2.e (by decide)).trans ((hf1.e (by decide)).trans e57)
  have o1 := hf1.old (by decide)
  have o2 := hf2.old (by decide)
  refine zw_vret (S := []) (pc := 295) rfl (zdal_p dlC_M_init_5 (i := 23) rfl) ⟨rfl, ⟨o2.1.trans o1.1, o2.2.1.trans o1.2.1, o2.2.2.1.trans o1.2.2.1, fun q hq => ⟨(o2.2.2.2 q hq).1.trans (o1.2.2.2 q hq).1, (o2.2.2.2 q hq).2.trans (o1.2.2.2 q hq).2⟩⟩, hf2.w hW1, ⟨⟨by omega, by omega⟩, ⟨by omega, by omega⟩, ⟨p3, p4⟩, ⟨by omega, by omega⟩, ⟨by omega, by omega⟩, p1, zB.fr hf2 (zB.fr hf1 b83 (by decide) (by decide)) (by decide) (by decide), zB.fr hf2 (zB.fr hf1 b110 (by decide) (by decide)) (by decide) (by decide), T, hT, zGB.fr hf2 hB (by decide) (by decide)⟩, q1, T, ⟨hT, hTm, zGB.fr hf2 hB (by decide) (by decide), by omega, p5, zCdS.fr hf2 (hCd.p (by omega)) (by decide) (by decide), [], zRNm_z (by omega), p7⟩, Or.inl p9⟩
theorem zMT_K : zKB 0 zKt0 zKo0 zKr0 zMT ∧ zKB 5 zKt zKo zKr zMT ∧ zKB 43 zKt zKo zKr zMT ∧ zf zMT 0 2 = some (5 + 0) ∧ zf zMT 0 3 = some (43 + 0) := by
  unfold zKB
  decide +kernel
set_option maxRecDepth 20000 in
theorem k_TGu (l : Launch) : zC l m_T_init 80 6229 [.ref 0] (zal zM0 3 4) (fun r M' => r = none ∧ M'.1 = zMT.1 ∧ zsh M' = zsh zMT ∧ zf M' = zf zMT ∧ zi M' 1 1 = zi zMT 1 1 ∧ ∃ T, zTm [] T ∧ zKSu 1 [] T 5 M') := by
  obtain ⟨f1, f2, f3, f4, f5, f6, f7, f8⟩ := zMT_facts
  obtain ⟨k1, k2, k3, k4, k5⟩ := zMT_K
  have hW : zKW 5 zMT := ⟨by omega, Or.inl rfl, k1, k2⟩
  refine zC_of (L0 := [some (.ref 0)]) md_T_init (Nat.le_of_ble_eq_true rfl) rfl ?_ (fun r M' h _ => by
    have e1 : zn M' = 81 := by rw [← f1]; unfold zn; rw [h.2.1]
    have e2 : zw M' = 6233 := by rw [← f2]; unfold zw; rw [h.2.1]
    exact ⟨e1, e2⟩)
  refine k_Tpre l _ _ (zal zM0 3 4) 0 (by decide) rfl (by decide) ⟨by decide, by decide⟩ ?_
  show zW l m_T_init (zn (zal zM0 3 4) + 80, zw (zal zM0 3 4) + 6229) zMT 57 [some (.ref 0)] [.int (Int32.ofInt 1), .ref (5 + 0)] _
  have hX : zn zMT ≤ zn (zal zM0 3 4) + 80 ∧ zw zMT ≤ zw (zal zM0 3 4) + 6229 := ⟨by rw [f1]; decide, by rw [f2]; decide⟩
  refine zk_callV hX (pc := 57) [.int (Int32.ofInt 1)] [] l_T_35 (u_Troupe_begin l 5 zMT hW 1 (by decide) (by decide) 1 rfl (by decide) (by decide)) rfl rfl (hW.kr (o := 0) (by decide)) (by decide) (by decide) (Nat.le_of_ble_eq_true rfl) (zdal_p dlA_T_init_1 (i := 3) rfl) ?_
  rintro _ N1 ⟨rfl, h1, m1, g1, s1⟩
  have hW1 := h1.w hW
  refine zw_aload_n (pc := 60) (n := 0) (x := 0) rfl (zdal_p dlA_T_init_1 (i := 4) rfl) ?_
  refine zw_getF (pc := 61) (r := 5 + 0) f_T_28 rfl (hW1.ka (o := 0) (by decide)) (by rw [h1.2.2.1]; exact k4) (zdal_p dlA_T_init_1 (i := 5) rfl) ?_
  have hX1 : zn N1 ≤ zn (zal zM0 3 4) + 80 ∧ zw N1 ≤ zw (zal zM0 3 4) + 6229 := by
    have e := h1.1
    unfold zn zw at hX ⊢
    rw [e]
    exact hX
  refine zk_callV hX1 (pc := 64) [] [] l_T_39 (u_Troupe_settleU l 5 N1 hW1 1 [] (fun g h => absurd h (by simp)) m1 g1) rfl rfl (hW1.kr (o := 0) (by decide)) (by decide) (by decide) (Nat.le_of_ble_eq_true rfl) (zdal_p dlA_T_init_1 (i := 6) rfl) ?_
  rintro _ N2 ⟨rfl, h2, ⟨T, t1, t2, t3, t4, t5, t6, t7, t8⟩, -, t9⟩
  have hz : zi N2 1 1 = zi zMT 1 1 := (h2.2.2.2.1 1 (Or.inl (by decide)) (by decide) 1 (by decide)).1.trans (h1.2.2.2.1 1 (Or.inl (by decide)) (by decide) 1 (by decide)).1
  exact zw_vret (S := []) (pc := 67) rfl (zdal_p dlA_T_init_1 (i := 7) rfl) ⟨rfl, h2.1.trans h1.1, h2.2.1.trans h1.2.1, h2.2.2.1.trans h1.2.2.1, hz, T, t2, ⟨zMvK.fr hW1 h2 m1 (by decide), t6, t5, t7, t3, t8⟩, Or.inl t9⟩
