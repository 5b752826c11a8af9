def R_law : String := "TroupeSumsLaw"
def lw_P (b : Addr) (xs : List Int32) (args : Array Value) (s : State) : Prop := args = #[.ref b] ∧ s.IntsAt b xs ∧ xs.length ≤ 3072 ∧ (Jvm.Cond.and given_1 narrow_1).before args s = true
def lw_Q (_ : Array Value) (s : State) (o : Outcome) (t : State) : Prop := o = .returned (some (.int 1)) ∧ Framed s o t [] 600000 7302250
def lw_Z (below : List Frame) (a : Array Value) (s : State) : State → Prop := fun t => ∃ o, t.status = .running ∧ Ended t below o ∧ lw_Q a s o t
theorem lw_ret {p : Program} {l : Launch} {e : Env} {s : State} {m : MethodId} {below : List Frame} {meth : Method} {c : Code} {b : Nat} (hx : p.tables.exec = Jvm.exec) (hb : c.code = code) (hr : meth.sig.returnType = ret) (hlocks : meth.locks = false) {pc : Nat} {H : Heap} {ls : Array Slot} (hdg : decode code pc = .ok (.ireturn, 1)) : W p l e room_1 s m #[Value.ref b] below meth c H [] 600000 7302250 (lw_Z below #[Value.ref b] s) (F0 m pc ls [.int 1]) := by
  intro T hT X
  obtain ⟨fs, hret, hrun, hended, hW, hframe⟩ := X.leave (v := some (.int 1)) (hlocks := hlocks) (fun h => by rw [hr] at h; cases h)
  have hmeth' : T.vm.method? m = some meth := X.method'
  refine ⟨T.setFrames fs, ?_, .returned (some (.int 1)), hrun, hended, rfl, ⟨_, rfl⟩, hW, hframe⟩
  jvm_step X.here [X.here.top, hx, hb, hdg, hmeth', hr, ret, narrow_b1]
  (try refine ⟨rfl, ?_⟩); (try refine ⟨rfl, ?_⟩)
  first | (intro acts; rw [hret _ acts rfl rfl rfl]) | rw [hret _ _ rfl rfl rfl]
  exact Steps.refl _
abbrev zlw (b : Nat) (ad : Nat → Nat) (i : Int32) : List (Nat × Value) := [(0, .ref b), (1, .ref (ad 0)), (2, .ref (ad 81)), (3, .int i)]
theorem zLw.c0 {M : zMem} (h : zLw M) : (zsh M 0).1 = 0 + 3 := h.2.2.2.1
theorem zLw.m {M : zMem} (h : zLw M) : zMt M ∧ zWd M ∧ (zsh M 81).1 = 14 := ⟨h.2.2.2.2.2.2.1, h.2.2.2.2.2.2.2.1, h.2.2.2.2.2.2.1.2.1⟩
theorem zLw.n {M : zMem} (h : zLw M) : zn M = 114 ∧ zw M = 84410 := ⟨h.1, h.2.1⟩
theorem zLb.fd {M N P : zMem} {a b c d e : Int} (h : zLb M) (hN : zLw N) (hu : ∀ q, 81 ≤ q → zi N q = zi M q ∧ zj N q = zj M q) (hc : (700 < ze M 1 1 + 20 ∧ ze N 1 1 = ze M 1 1 ∧ ∀ j : Nat, ze N 3 j = ze M 3 j) ∨ (ze M 1 1 + 20 ≤ 700 ∧ ze N 1 1 = ze M 1 1 + 20 ∧ ∀ j : Nat, ze N 3 j = zfd5 (fun j => ze M 3 j) (ze M 1 1) a b c d e j)) (hr : (700 < ze N 81 1 + 20 ∧ zGo N P (ze N 81 1) ∧ ∀ j : Nat, ze P 82 j = ze N 82 j) ∨ (ze N 81 1 + 20 ≤ 700 ∧ zGo N P (ze N 81 1 + 20) ∧ ∀ j : Nat, ze P 82 j = zfd5 (fun j => ze N 82 j) (ze N 81 1) a b c d e j)) : zLb P := by
  obtain ⟨hw, t1, t2, t3⟩ := h
  have e81 : ze N 81 1 = ze M 81 1 := ze_hi hu (by omega) 1
  have e82 : ∀ j, ze N 82 j = ze M 82 j := fun j => ze_hi hu (by omega) j
  have e82f : (fun k : Nat => ze N 82 k) = fun k : Nat => ze M 82 k := funext e82
  rcases hr with ⟨r1, r2, r3⟩ | ⟨r1, r2, r3⟩
  · have r4 := r2.2.2.2
    rcases hc with ⟨c1, c2, c3⟩ | ⟨c1, c2, c3⟩
    · refine ⟨hN.ref r2, by rw [r2.lo (by omega), c2, r4, e81]; exact t1, fun k hk => ?_, ?_⟩
      · rw [r4, e81] at hk
        rw [r2.lo (by omega), c3, r3, e82]
        exact t2 k hk
      · have e : (fun k : Nat => ze P 82 k) = fun k : Nat => ze M 82 k := funext fun k => (r3 k).trans (e82 k)
        rw [e, r4, e81]
        exact t3
    · omega
  · have r4 := r2.2.2.2
    rcases hc with ⟨c1, c2, c3⟩ | ⟨c1, c2, c3⟩
    · omega
    · have ep : ze P 81 1 = ze M 81 1 + 20 := by omega
      refine ⟨hN.ref r2, by rw [r2.lo (by omega), c2, ep, t1], fun k hk => ?_, ?_⟩
      · rw [ep] at hk
        rw [r2.lo (by omega), c3, r3, e82f, e81, t1]
        exact zfd5_c (f := fun j => ze M 3 j) (g := fun j => ze M 82 j) t2 k hk
      · have e : (fun k : Nat => ze P 82 k) = zfd5 (fun j => ze M 82 j) (ze M 81 1) a b c d e := funext fun k => by rw [r3 k, e82f, e81]
        rw [e, ep]
        exact zfd5_b t3
theorem zLb.en {M N P : zMem} {x : Int} (h : zLb M) (hN : zLw N) (hu : ∀ q, 81 ≤ q → zi N q = zi M q ∧ zj N q = zj M q) (h3 : ∀ j : Nat, ze N 3 j = ze M 3 j) (hc : ((x < 0 ∨ ze M 1 1 < x) ∧ ze N 1 1 = ze M 1 1) ∨ (0 ≤ x ∧ x ≤ ze M 1 1 ∧ ze N 1 1 = x)) (r3 : ∀ j : Nat, ze P 82 j = ze N 82 j) (hr : ((x < 0 ∨ ze N 81 1 < x) ∧ zGo N P (ze N 81 1)) ∨ (0 ≤ x ∧ x ≤ ze N 81 1 ∧ zGo N P x)) : zLb P := by
  obtain ⟨hw, t1, t2, t3⟩ := h
  have e81 : ze N 81 1 = ze M 81 1 := ze_hi hu (by omega) 1
  have e82 : ∀ j, ze N 82 j = ze M 82 j := fun j => ze_hi hu (by omega) j
  have e : (fun k : Nat => ze P 82 k) = fun k : Nat => ze M 82 k := funext fun k => (r3 k).trans (e82 k)
  rcases hr with ⟨r1, r2⟩ | ⟨r0, r1, r2⟩
  · have r4 := r2.2.2.2
    have c2 : ze N 1 1 = ze M 1 1 := by omega
    refine ⟨hN.ref r2, by rw [r2.lo (by omega), c2, r4, e81]; exact t1, fun k hk => ?_, ?_⟩
    · rw [r4, e81] at hk
      rw [r2.lo (by omega), h3, r3, e82]
      exact t2 k hk
    · rw [e, r4, e81]
      exact t3
  · have r4 := r2.2.2.2
    have c2 : ze N 1 1 = x := by omega
    refine ⟨hN.ref r2, by rw [r2.lo (by omega), c2, r4], fun k hk => ?_, fun k hk => ?_⟩
    · rw [r4] at hk
      rw [r2.lo (by omega), h3, r3, e82]
      exact t2 k (by omega)
    · rw [r4] at hk
      show 0 ≤ ze P 82 k ∧ ze P 82 k ≤ 255
      rw [r3, e82]
      exact t3 k (by omega)
section LAWC
variable {p : Program} {l : Launch} {e : Env} {s : State} {m : MethodId} {below : List Frame} {meth : Method} {c : Code} {D : va_G} {cI cJ : ClassId} {ad adV : Nat → Nat} {nm : String} {H : Heap} {locs : List Loc} {ls : Array Slot} {M : zMem} {b L : Nat} {xs : Nat → Int32} {i : Int32}
theorem lc_0 (C : zCtx p room_1 s m #[Value.ref b] meth c (mLaw nm)) (hX : va_X b L xs s s.heap) (hbl : b < ad 0) (hb2 : b < s.heap.size) (I : zI D cI cJ ad adV M s H locs) (hl : lv_has ls 4 (zlw b ad i)) (hM : zLv M) (hi : ∀ k : Int32, 0 ≤ k.toInt → k.toInt ≤ 5 → vp_in (i + k) L) (kk : ∀ (M' : zMem) (H' : Heap) (locs' : List Loc), zLv M' → zI D cI cJ ad adV M' s H' locs' → W p l e room_1 s m #[Value.ref b] below meth c H' locs' 114 84410 (lw_Z below #[Value.ref b] s) (F0 m 1510 ls [])) : W p l e room_1 s m #[Value.ref b] below meth c H locs 114 84410 (lw_Z below #[Value.ref b] s) (F0 m 232 ls []) := by
  have hx := C.1
  have hb : c.code = code := C.2.1
  have hbA : ¬ (fun q : Nat => ad 0 ≤ q) b := Nat.not_le.mpr hbl
  have hS := I.2.2.2.1
  have h0 := hM.1.1.c0
  have hn := hM.1.1.n
  refine lv_aload_n hx hb d_Law_232 rfl (lv_at hl 1 rfl) ?_
  refine lv_aload_n hx hb d_Law_233 rfl (lv_at hl 0 rfl) ?_
  refine lv_iload_n hx hb d_Law_234 rfl (lv_at hl 3 rfl) ?_
  refine lv_iconst (v := 1) hx hb d_Law_235 (by decide) ?_
  refine lv_iadd hx hb d_Law_236 ?_
  refine va_sld hx hb hX hb2 hbA hS (hi 1 (by decide) (by decide)) d_Law_237 ?_
  refine lv_aload_n hx hb d_Law_238 rfl (lv_at hl 0 rfl) ?_
  refine lv_iload_n hx hb d_Law_239 rfl (lv_at hl 3 rfl) ?_
  refine lv_iconst (v := 2) hx hb d_Law_240 (by decide) ?_
  refine lv_iadd hx hb d_Law_241 ?_
  refine va_sld hx hb hX hb2 hbA hS (hi 2 (by decide) (by decide)) d_Law_242 ?_
  refine lv_aload_n hx hb d_Law_243 rfl (lv_at hl 0 rfl) ?_
  refine lv_iload_n hx hb d_Law_244 rfl (lv_at hl 3 rfl) ?_
  refine lv_iconst (v := 3) hx hb d_Law_245 (by decide) ?_
  refine lv_iadd hx hb d_Law_246 ?_
  refine va_sld hx hb hX hb2 hbA hS (hi 3 (by decide) (by decide)) d_Law_247 ?_
  refine lv_aload_n hx hb d_Law_248 rfl (lv_at hl 0 rfl) ?_
  refine lv_iload_n hx hb d_Law_249 rfl (lv_at hl 3 rfl) ?_
  refine lv_iconst (v := 4) hx hb d_Law_250 (by decide) ?_
  refine lv_iadd hx hb d_Law_251 ?_
  refine va_sld hx hb hX hb2 hbA hS (hi 4 (by decide) (by decide)) d_Law_252 ?_
  refine lv_aload_n hx hb d_Law_253 rfl (lv_at hl 0 rfl) ?_
  refine lv_iload_n hx hb d_Law_254 rfl (lv_at hl 3 rfl) ?_
  refine lv_iconst (v := 5) hx hb d_Law_255 (by decide) ?_
  refine lv_iadd hx hb d_Law_256 ?_
  refine va_sld hx hb hX hb2 hbA hS (hi 5 (by decide) (by decide)) d_Law_257 ?_
  obtain ⟨Q1, hC1, hQ1⟩ := v9_feed l M hM (xs (i + 1).toNatClampNeg) (xs (i + 2).toNatClampNeg) (xs (i + 3).toNatClampNeg) (xs (i + 4).toNatClampNeg) (xs (i + 5).toNatClampNeg)
  refine lw_callV C I hl (q := 0) [.int (xs (i + 1).toNatClampNeg), .int (xs (i + 2).toNatClampNeg), .int (xs (i + 3).toNatClampNeg), .int (xs (i + 4).toNatClampNeg), .int (xs (i + 5).toNatClampNeg)] [] l_Law_13 hC1 rfl rfl h0 (by decide) ⟨Nat.le_of_ble_eq_true rfl, Nat.le_of_ble_eq_true rfl⟩ (by decide) d_Law_258 hn.1 hn.2 ⟨Nat.le_of_ble_eq_true rfl, Nat.le_of_ble_eq_true rfl⟩ ?_
  rintro r1 M1 H1 locs1 hq - - I1
  obtain ⟨⟨v1, rfl⟩, hl1, hw1, hu1, hc1⟩ := hQ1 r1 M1 hq
  have hS1 := I1.2.2.2.1
  have hn1 := hw1.n
  have hm1 := hw1.m
  refine lv_pop hx hb d_Law_261 rfl ?_
  refine lv_aload_n hx hb d_Law_262 rfl (lv_at hl 2 rfl) ?_
  refine lv_aload_n hx hb d_Law_263 rfl (lv_at hl 0 rfl) ?_
  refine lv_iload_n hx hb d_Law_264 rfl (lv_at hl 3 rfl) ?_
  refine lv_iconst (v := 1) hx hb d_Law_265 (by decide) ?_
  refine lv_iadd hx hb d_Law_266 ?_
  refine va_sld hx hb hX hb2 hbA hS1 (hi 1 (by decide) (by decide)) d_Law_267 ?_
  refine lv_aload_n hx hb d_Law_268 rfl (lv_at hl 0 rfl) ?_
  refine lv_iload_n hx hb d_Law_269 rfl (lv_at hl 3 rfl) ?_
  refine lv_iconst (v := 2) hx hb d_Law_270 (by decide) ?_
  refine lv_iadd hx hb d_Law_271 ?_
  refine va_sld hx hb hX hb2 hbA hS1 (hi 2 (by decide) (by decide)) d_Law_272 ?_
  refine lv_aload_n hx hb d_Law_273 rfl (lv_at hl 0 rfl) ?_
  refine lv_iload_n hx hb d_Law_274 rfl (lv_at hl 3 rfl) ?_
  refine lv_iconst (v := 3) hx hb d_Law_275 (by decide) ?_
  refine lv_iadd hx hb d_Law_276 ?_
  refine va_sld hx hb hX hb2 hbA hS1 (hi 3 (by decide) (by decide)) d_Law_277 ?_
  refine lv_aload_n hx hb d_Law_278 rfl (lv_at hl 0 rfl) ?_
  refine lv_iload_n hx hb d_Law_279 rfl (lv_at hl 3 rfl) ?_
  refine lv_iconst (v := 4) hx hb d_Law_280 (by decide) ?_
  refine lv_iadd hx hb d_Law_281 ?_
  refine va_sld hx hb hX hb2 hbA hS1 (hi 4 (by decide) (by decide)) d_Law_282 ?_
  refine lv_aload_n hx hb d_Law_283 rfl (lv_at hl 0 rfl) ?_
  refine lv_iload_n hx hb d_Law_284 rfl (lv_at hl 3 rfl) ?_
  refine lv_iconst (v := 5) hx hb d_Law_285 (by decide) ?_
  refine lv_iadd hx hb d_Law_286 ?_
  refine va_sld hx hb hX hb2 hbA hS1 (hi 5 (by decide) (by decide)) d_Law_287 ?_
  obtain ⟨Q2, hC2, hQ2⟩ := w9_feed l M1 hm1.1 hm1.2.1 (xs (i + 1).toNatClampNeg) (xs (i + 2).toNatClampNeg) (xs (i + 3).toNatClampNeg) (xs (i + 4).toNatClampNeg) (xs (i + 5).toNatClampNeg)
  refine lw_callV C I1 hl (q := 81) [.int (xs (i + 1).toNatClampNeg), .int (xs (i + 2).toNatClampNeg), .int (xs (i + 3).toNatClampNeg), .int (xs (i + 4).toNatClampNeg), .int (xs (i + 5).toNatClampNeg)] [] l_Law_17 hC2 rfl rfl hm1.2.2 (by decide) ⟨Nat.le_of_ble_eq_true rfl, Nat.le_of_ble_eq_true rfl⟩ (by decide) d_Law_288 hn1.1 hn1.2 ⟨Nat.le_of_ble_eq_true rfl, Nat.le_of_ble_eq_true rfl⟩ ?_
  rintro r2 M2 H2 locs2 hq - - I2
  obtain ⟨v2, rfl, hr8, hv⟩ := hQ2 r2 M2 hq
  refine lv_pop hx hb d_Law_291 rfl ?_
  refine lv_goto (tgt := 1510) hx hb d_Law_292 (by decide) ?_
  exact kk M2 H2 locs2 ⟨hM.1.fd hw1 hu1 hc1 (by rcases hv with ⟨a1, -, a2, a3⟩ | ⟨a1, -, a2, a3⟩; exact Or.inl ⟨a1, a2, a3⟩; exact Or.inr ⟨a1, a2, a3⟩), by rcases hv with ⟨-, -, a2, -⟩ | ⟨-, -, a2, -⟩ <;> exact hl1.ref a2 hr8⟩ I2
theorem lc_1 (C : zCtx p room_1 s m #[Value.ref b] meth c (mLaw nm)) (hX : va_X b L xs s s.heap) (hbl : b < ad 0) (hb2 : b < s.heap.size) (I : zI D cI cJ ad adV M s H locs) (hl : lv_has ls 4 (zlw b ad i)) (hM : zLv M) (hi : ∀ k : Int32, 0 ≤ k.toInt → k.toInt ≤ 5 → vp_in (i + k) L) (kk : ∀ (M' : zMem) (H' : Heap) (locs' : List Loc), zLv M' → zI D cI cJ ad adV M' s H' locs' → W p l e room_1 s m #[Value.ref b] below meth c H' locs' 114 84410 (lw_Z below #[Value.ref b] s) (F0 m 1510 ls [])) : W p l e room_1 s m #[Value.ref b] below meth c H locs 114 84410 (lw_Z below #[Value.ref b] s) (F0 m 295 ls []) := by
  have hx := C.1
  have hb : c.code = code := C.2.1
  have hbA : ¬ (fun q : Nat => ad 0 ≤ q) b := Nat.not_le.mpr hbl
  have hS := I.2.2.2.1
  have h0 := hM.1.1.c0
  have hn := hM.1.1.n
  refine lv_aload_n hx hb d_Law_295 rfl (lv_at hl 1 rfl) ?_
  refine lv_aload_n hx hb d_Law_296 rfl (lv_at hl 0 rfl) ?_
  refine lv_iload_n hx hb d_Law_297 rfl (lv_at hl 3 rfl) ?_
  refine lv_iconst (v := 1) hx hb d_Law_298 (by decide) ?_
  refine lv_iadd hx hb d_Law_299 ?_
  refine va_sld hx hb hX hb2 hbA hS (hi 1 (by decide) (by decide)) d_Law_300 ?_
  obtain ⟨Q1, hC1, hQ1⟩ := v9_end l M hM (xs (i + 1).toNatClampNeg)
  refine lw_callV C I hl (q := 0) [.int (xs (i + 1).toNatClampNeg)] [] l_Law_18 hC1 rfl rfl h0 (by decide) ⟨Nat.le_of_ble_eq_true rfl, Nat.le_of_ble_eq_true rfl⟩ (by decide) d_Law_301 hn.1 hn.2 ⟨Nat.le_of_ble_eq_true rfl, Nat.le_of_ble_eq_true rfl⟩ ?_
  rintro r1 M1 H1 locs1 hq - - I1
  obtain ⟨⟨v1, rfl⟩, hl1, hw1, hu1, h31, hc1⟩ := hQ1 r1 M1 hq
  have hS1 := I1.2.2.2.1
  have hn1 := hw1.n
  have hm1 := hw1.m
  refine lv_pop hx hb d_Law_304 rfl ?_
  refine lv_aload_n hx hb d_Law_305 rfl (lv_at hl 2 rfl) ?_
  refine lv_aload_n hx hb d_Law_306 rfl (lv_at hl 0 rfl) ?_
  refine lv_iload_n hx hb d_Law_307 rfl (lv_at hl 3 rfl) ?_
  refine lv_iconst (v := 1) hx hb d_Law_308 (by decide) ?_
  refine lv_iadd hx hb d_Law_309 ?_
  refine va_sld hx hb hX hb2 hbA hS1 (hi 1 (by decide) (by decide)) d_Law_310 ?_
  obtain ⟨Q2, hC2, hQ2⟩ := w9_end l M1 hm1.1 hm1.2.1 (xs (i + 1).toNatClampNeg)
  refine lw_callV C I1 hl (q := 81) [.int (xs (i + 1).toNatClampNeg)] [] l_Law_22 hC2 rfl rfl hm1.2.2 (by decide) ⟨Nat.le_of_ble_eq_true rfl, Nat.le_of_ble_eq_true rfl⟩ (by decide) d_Law_311 hn1.1 hn1.2 ⟨Nat.le_of_ble_eq_true rfl, Nat.le_of_ble_eq_true rfl⟩ ?_
  rintro r2 M2 H2 locs2 hq - - I2
  obtain ⟨⟨v2, rfl⟩, hr8, h32, hv⟩ := hQ2 r2 M2 hq
  refine lv_pop hx hb d_Law_314 rfl ?_
  refine lv_goto (tgt := 1510) hx hb d_Law_315 (by decide) ?_
  exact kk M2 H2 locs2 ⟨hM.1.en hw1 hu1 h31 hc1 h32 hv, by rcases hv with ⟨-, a2⟩ | ⟨-, -, a2⟩ <;> exact hl1.ref a2 hr8⟩ I2
theorem lc_2 (C : zCtx p room_1 s m #[Value.ref b] meth c (mLaw nm)) (hX : va_X b L xs s s.heap) (hbl : b < ad 0) (hb2 : b < s.heap.size) (I : zI D cI cJ ad adV M s H locs) (hl : lv_has ls 4 (zlw b ad i)) (hM : zLv M) (hi : ∀ k : Int32, 0 ≤ k.toInt → k.toInt ≤ 5 → vp_in (i + k) L) (kk : ∀ (M' : zMem) (H' : Heap) (locs' : List Loc), zLv M' → zI D cI cJ ad adV M' s H' locs' → W p l e room_1 s m #[Value.ref b] below meth c H' locs' 114 84410 (lw_Z below #[Value.ref b] s) (F0 m 1510 ls [])) : W p l e room_1 s m #[Value.ref b] below meth c H locs 114 84410 (lw_Z below #[Value.ref b] s) (F0 m 318 ls []) := by
  have hx := C.1
  have hb : c.code = code := C.2.1
  have hbA : ¬ (fun q : Nat => ad 0 ≤ q) b := Nat.not_le.mpr hbl
  have hS := I.2.2.2.1
  have h0 := hM.1.1.c0
  have hn := hM.1.1.n
  refine lv_aload_n hx hb d_Law_318 rfl (lv_at hl 1 rfl) ?_
  obtain ⟨P_, mv_, T_, nm_, s_, d_, ht_⟩ := id hM.2
  have hT_ := ht_.2.2.1.1.1
  have hb_ := ht_.2.2.2.2
  obtain ⟨Q1, hC1, hQ1⟩ := v9_troupe l M hM P_ mv_ T_ nm_ s_ d_ ht_ 
  refine lw_callV C I hl (q := 0) [] [] l_Law_23 hC1 rfl rfl h0 (by decide) ⟨Nat.le_of_ble_eq_true rfl, Nat.le_of_ble_eq_true rfl⟩ (by decide) d_Law_319 hn.1 hn.2 ⟨Nat.le_of_ble_eq_true rfl, Nat.le_of_ble_eq_true rfl⟩ ?_
  rintro r1 M1 H1 locs1 hq - - I1
  obtain ⟨⟨v1, rfl, hcat1, hzv1⟩, hw1, hz1, hu1, hr1_, ha1⟩ := hQ1 r1 M1 hq
  have hS1 := I1.2.2.2.1
  have hn1 := hw1.n
  have hm1 := hw1.m
  refine lv_pop hx hb d_Law_322 (by rw [hzv1]; exact hcat1) ?_
  refine lv_aload_n hx hb d_Law_323 rfl (lv_at hl 2 rfl) ?_
  obtain ⟨Q2, hC2, hQ2⟩ := w9_troupe l M1 hm1.1 hm1.2.1 _ _ (hM.1.r hu1) P_ mv_ T_ nm_ s_ hr1_ hb_ 
  refine lw_callV C I1 hl (q := 81) [] [] l_Law_27 hC2 rfl rfl hm1.2.2 (by decide) ⟨Nat.le_of_ble_eq_true rfl, Nat.le_of_ble_eq_true rfl⟩ (by decide) d_Law_324 hn1.1 hn1.2 ⟨Nat.le_of_ble_eq_true rfl, Nat.le_of_ble_eq_true rfl⟩ ?_
  rintro r2 M2 H2 locs2 hq - - I2
  obtain ⟨⟨v2, rfl, hcat, hzv⟩, hg, ha2⟩ := hQ2 r2 M2 hq
  refine lv_pop hx hb d_Law_327 (by rw [hzv]; exact hcat) ?_
  refine lv_goto (tgt := 1510) hx hb d_Law_328 (by decide) ?_
  exact kk M2 H2 locs2 ⟨zLb.z (hw1.ref hg) (by rw [hg.lo (by omega)]; exact hz1) hg.2.2.2, zLn.tr ha1 hg ha2⟩ I2
theorem lc_3 (C : zCtx p room_1 s m #[Value.ref b] meth c (mLaw nm)) (hX : va_X b L xs s s.heap) (hbl : b < ad 0) (hb2 : b < s.heap.size) (I : zI D cI cJ ad adV M s H locs) (hl : lv_has ls 4 (zlw b ad i)) (hM : zLv M) (hi : ∀ k : Int32, 0 ≤ k.toInt → k.toInt ≤ 5 → vp_in (i + k) L) (kk : ∀ (M' : zMem) (H' : Heap) (locs' : List Loc), zLv M' → zI D cI cJ ad adV M' s H' locs' → W p l e room_1 s m #[Value.ref b] below meth c H' locs' 114 84410 (lw_Z below #[Value.ref b] s) (F0 m 1510 ls [])) : W p l e room_1 s m #[Value.ref b] below meth c H locs 114 84410 (lw_Z below #[Value.ref b] s) (F0 m 331 ls []) := by
  have hx := C.1
  have hb : c.code = code := C.2.1
  have hbA : ¬ (fun q : Nat => ad 0 ≤ q) b := Nat.not_le.mpr hbl
  have hS := I.2.2.2.1
  have h0 := hM.1.1.c0
  have hn := hM.1.1.n
  refine lv_aload_n hx hb d_Law_331 rfl (lv_at hl 1 rfl) ?_
  refine lv_aload_n hx hb d_Law_332 rfl (lv_at hl 0 rfl) ?_
  refine lv_iload_n hx hb d_Law_333 rfl (lv_at hl 3 rfl) ?_
  refine lv_iconst (v := 1) hx hb d_Law_334 (by decide) ?_
  refine lv_iadd hx hb d_Law_335 ?_
  refine va_sld hx hb hX hb2 hbA hS (hi 1 (by decide) (by decide)) d_Law_336 ?_
  obtain ⟨Q1, hC1, hQ1⟩ := v9_fault l M hM (xs (i + 1).toNatClampNeg)
  refine lw_callV C I hl (q := 0) [.int (xs (i + 1).toNatClampNeg)] [] l_Law_28 hC1 rfl rfl h0 (by decide) ⟨Nat.le_of_ble_eq_true rfl, Nat.le_of_ble_eq_true rfl⟩ (by decide) d_Law_337 hn.1 hn.2 ⟨Nat.le_of_ble_eq_true rfl, Nat.le_of_ble_eq_true rfl⟩ ?_
  rintro r1 M1 H1 locs1 hq - - I1
  obtain ⟨⟨v1, rfl, hcat1, hzv1⟩, hM1⟩ := hQ1 r1 M1 hq
  have hw1 := hM1.1.1
  have hS1 := I1.2.2.2.1
  have hn1 := hw1.n
  have hm1 := hw1.m
  refine lv_pop hx hb d_Law_340 (by rw [hzv1]; exact hcat1) ?_
  refine lv_aload_n hx hb d_Law_341 rfl (lv_at hl 2 rfl) ?_
  refine lv_aload_n hx hb d_Law_342 rfl (lv_at hl 0 rfl) ?_
  refine lv_iload_n hx hb d_Law_343 rfl (lv_at hl 3 rfl) ?_
  refine lv_iconst (v := 1) hx hb d_Law_344 (by decide) ?_
  refine lv_iadd hx hb d_Law_345 ?_
  refine va_sld hx hb hX hb2 hbA hS1 (hi 1 (by decide) (by decide)) d_Law_346 ?_
  obtain ⟨Q2, hC2, hQ2⟩ := w9_fault l M1 hm1.1 hm1.2.1 (xs (i + 1).toNatClampNeg)
  refine lw_callV C I1 hl (q := 81) [.int (xs (i + 1).toNatClampNeg)] [] l_Law_31 hC2 rfl rfl hm1.2.2 (by decide) ⟨Nat.le_of_ble_eq_true rfl, Nat.le_of_ble_eq_true rfl⟩ (by decide) d_Law_347 hn1.1 hn1.2 ⟨Nat.le_of_ble_eq_true rfl, Nat.le_of_ble_eq_true rfl⟩ ?_
  rintro r2 M2 H2 locs2 hq - - I2
  obtain ⟨⟨v2, rfl, hcat, hzv⟩, hg, h82, hr8⟩ := hQ2 r2 M2 hq
  refine lv_pop hx hb d_Law_350 (by rw [hzv]; exact hcat) ?_
  refine lv_goto (tgt := 1510) hx hb d_Law_351 (by decide) ?_
  exact kk M2 H2 locs2 ⟨hM1.1.ref hg h82, hM1.2.ref hg hr8⟩ I2
theorem lc_4 (C : zCtx p room_1 s m #[Value.ref b] meth c (mLaw nm)) (hX : va_X b L xs s s.heap) (hbl : b < ad 0) (hb2 : b < s.heap.size) (I : zI D cI cJ ad adV M s H locs) (hl : lv_has ls 4 (zlw b ad i)) (hM : zLv M) (hi : ∀ k : Int32, 0 ≤ k.toInt → k.toInt ≤ 5 → vp_in (i + k) L) (kk : ∀ (M' : zMem) (H' : Heap) (locs' : List Loc), zLv M' → zI D cI cJ ad adV M' s H' locs' → W p l e room_1 s m #[Value.ref b] below meth c H' locs' 114 84410 (lw_Z below #[Value.ref b] s) (F0 m 1510 ls [])) : W p l e room_1 s m #[Value.ref b] below meth c H locs 114 84410 (lw_Z below #[Value.ref b] s) (F0 m 354 ls []) := by
  have hx := C.1
  have hb : c.code = code := C.2.1
  have hbA : ¬ (fun q : Nat => ad 0 ≤ q) b := Nat.not_le.mpr hbl
  have hS := I.2.2.2.1
  have h0 := hM.1.1.c0
  have hn := hM.1.1.n
  refine lv_aload_n hx hb d_Law_354 rfl (lv_at hl 1 rfl) ?_
  refine lv_aload_n hx hb d_Law_355 rfl (lv_at hl 0 rfl) ?_
  refine lv_iload_n hx hb d_Law_356 rfl (lv_at hl 3 rfl) ?_
  refine lv_iconst (v := 1) hx hb d_Law_357 (by decide) ?_
  refine lv_iadd hx hb d_Law_358 ?_
  refine va_sld hx hb hX hb2 hbA hS (hi 1 (by decide) (by decide)) d_Law_359 ?_
  obtain ⟨P_, mv_, T_, nm_, s_, d_, ht_⟩ := id hM.2
  have hT_ := ht_.2.2.1.1.1
  have hb_ := ht_.2.2.2.2
  obtain ⟨Q1, hC1, hQ1⟩ := v9_about l M hM P_ mv_ T_ nm_ s_ d_ ht_ (xs (i + 1).toNatClampNeg)
  refine lw_callV C I hl (q := 0) [.int (xs (i + 1).toNatClampNeg)] [] l_Law_32 hC1 rfl rfl h0 (by decide) ⟨Nat.le_of_ble_eq_true rfl, Nat.le_of_ble_eq_true rfl⟩ (by decide) d_Law_360 hn.1 hn.2 ⟨Nat.le_of_ble_eq_true rfl, Nat.le_of_ble_eq_true rfl⟩ ?_
  rintro r1 M1 H1 locs1 hq - - I1
  obtain ⟨⟨v1, rfl, hf1⟩, hM1, hr1_, hta_⟩ := hQ1 r1 M1 hq
  have hw1 := hM1.1.1
  have hS1 := I1.2.2.2.1
  have hn1 := hw1.n
  have hm1 := hw1.m
  refine lv_aload_n hx hb d_Law_363 rfl (lv_at hl 2 rfl) ?_
  refine lv_aload_n hx hb d_Law_364 rfl (lv_at hl 0 rfl) ?_
  refine lv_iload_n hx hb d_Law_365 rfl (lv_at hl 3 rfl) ?_
  refine lv_iconst (v := 1) hx hb d_Law_366 (by decide) ?_
  refine lv_iadd hx hb d_Law_367 ?_
  refine va_sld hx hb hX hb2 hbA hS1 (hi 1 (by decide) (by decide)) d_Law_368 ?_
  obtain ⟨Q2, hC2, hQ2⟩ := w9_about l M1 hm1.1 hm1.2.1 P_ mv_ T_ nm_ s_ hr1_ hb_ (xs (i + 1).toNatClampNeg)
  refine lw_callV C I1 hl (q := 81) [.int (xs (i + 1).toNatClampNeg)] [.int (Int32.ofInt v1)] l_Law_35 hC2 rfl rfl hm1.2.2 (by decide) ⟨Nat.le_of_ble_eq_true rfl, Nat.le_of_ble_eq_true rfl⟩ (Nat.le_of_ble_eq_true rfl) d_Law_369 hn1.1 hn1.2 ⟨Nat.le_of_ble_eq_true rfl, Nat.le_of_ble_eq_true rfl⟩ ?_
  rintro r2 M2 H2 locs2 hq - - I2
  obtain ⟨⟨v2, rfl, hf2⟩, hg, h82, hr8⟩ := hQ2 r2 M2 hq
  rw [hta_] at hf2
  have hve_ := zfR_u hf1 hf2
  have hB : zLv M2 := ⟨hM1.1.ref hg h82, hM1.2.ref hg hr8⟩
  obtain rfl := hve_
  exact lv_icmp_eq (tgt := 1510) hx hb d_Law_372 (by decide) (fun _ => kk M2 H2 locs2 hB I2) (fun hne => absurd rfl hne)
theorem lc_5 (C : zCtx p room_1 s m #[Value.ref b] meth c (mLaw nm)) (hX : va_X b L xs s s.heap) (hbl : b < ad 0) (hb2 : b < s.heap.size) (I : zI D cI cJ ad adV M s H locs) (hl : lv_has ls 4 (zlw b ad i)) (hM : zLv M) (hi : ∀ k : Int32, 0 ≤ k.toInt → k.toInt ≤ 5 → vp_in (i + k) L) (kk : ∀ (M' : zMem) (H' : Heap) (locs' : List Loc), zLv M' → zI D cI cJ ad adV M' s H' locs' → W p l e room_1 s m #[Value.ref b] below meth c H' locs' 114 84410 (lw_Z below #[Value.ref b] s) (F0 m 1510 ls [])) : W p l e room_1 s m #[Value.ref b] below meth c H locs 114 84410 (lw_Z below #[Value.ref b] s) (F0 m 377 ls []) := by
  have hx := C.1
  have hb : c.code = code := C.2.1
  have hbA : ¬ (fun q : Nat => ad 0 ≤ q) b := Nat.not_le.mpr hbl
  have hS := I.2.2.2.1
  have h0 := hM.1.1.c0
  have hn := hM.1.1.n
  refine lv_aload_n hx hb d_Law_377 rfl (lv_at hl 1 rfl) ?_
  refine lv_aload_n hx hb d_Law_378 rfl (lv_at hl 0 rfl) ?_
  refine lv_iload_n hx hb d_Law_379 rfl (lv_at hl 3 rfl) ?_
  refine lv_iconst (v := 1) hx hb d_Law_380 (by decide) ?_
  refine lv_iadd hx hb d_Law_381 ?_
  refine va_sld hx hb hX hb2 hbA hS (hi 1 (by decide) (by decide)) d_Law_382 ?_
  refine lv_aload_n hx hb d_Law_383 rfl (lv_at hl 0 rfl) ?_
  refine lv_iload_n hx hb d_Law_384 rfl (lv_at hl 3 rfl) ?_
  refine lv_iconst (v := 2) hx hb d_Law_385 (by decide) ?_
  refine lv_iadd hx hb d_Law_386 ?_
  refine va_sld hx hb hX hb2 hbA hS (hi 2 (by decide) (by decide)) d_Law_387 ?_
  obtain ⟨Q1, hC1, hQ1⟩ := v9_moves l M hM (xs (i + 1).toNatClampNeg) (xs (i + 2).toNatClampNeg)
  refine lw_callV C I hl (q := 0) [.int (xs (i + 1).toNatClampNeg), .int (xs (i + 2).toNatClampNeg)] [] l_Law_36 hC1 rfl rfl h0 (by decide) ⟨Nat.le_of_ble_eq_true rfl, Nat.le_of_ble_eq_true rfl⟩ (by decide) d_Law_388 hn.1 hn.2 ⟨Nat.le_of_ble_eq_true rfl, Nat.le_of_ble_eq_true rfl⟩ ?_
  rintro r1 M1 H1 locs1 hq - - I1
  obtain ⟨⟨v1, rfl, hcat1, hzv1⟩, hM1⟩ := hQ1 r1 M1 hq
  have hw1 := hM1.1.1
  have hS1 := I1.2.2.2.1
  have hn1 := hw1.n
  have hm1 := hw1.m
  refine lv_pop hx hb d_Law_391 (by rw [hzv1]; exact hcat1) ?_
  refine lv_aload_n hx hb d_Law_392 rfl (lv_at hl 2 rfl) ?_
  refine lv_aload_n hx hb d_Law_393 rfl (lv_at hl 0 rfl) ?_
  refine lv_iload_n hx hb d_Law_394 rfl (lv_at hl 3 rfl) ?_
  refine lv_iconst (v := 1) hx hb d_Law_395 (by decide) ?_
  refine lv_iadd hx hb d_Law_396 ?_
  refine va_sld hx hb hX hb2 hbA hS1 (hi 1 (by decide) (by decide)) d_Law_397 ?_
  refine lv_aload_n hx hb d_Law_398 rfl (lv_at hl 0 rfl) ?_
  refine lv_iload_n hx hb d_Law_399 rfl (lv_at hl 3 rfl) ?_
  refine lv_iconst (v := 2) hx hb d_Law_400 (by decide) ?_
  refine lv_iadd hx hb d_Law_401 ?_
  refine va_sld hx hb hX hb2 hbA hS1 (hi 2 (by decide) (by decide)) d_Law_402 ?_
  obtain ⟨Q2, hC2, hQ2⟩ := w9_moves l M1 hm1.1 hm1.2.1 (xs (i + 1).toNatClampNeg) (xs (i + 2).toNatClampNeg)
  refine lw_callV C I1 hl (q := 81) [.int (xs (i + 1).toNatClampNeg), .int (xs (i + 2).toNatClampNeg)] [] l_Law_40 hC2 rfl rfl hm1.2.2 (by decide) ⟨Nat.le_of_ble_eq_true rfl, Nat.le_of_ble_eq_true rfl⟩ (by decide) d_Law_403 hn1.1 hn1.2 ⟨Nat.le_of_ble_eq_true rfl, Nat.le_of_ble_eq_true rfl⟩ ?_
  rintro r2 M2 H2 locs2 hq - - I2
  obtain ⟨⟨v2, rfl, hcat, hzv⟩, hg, h82, hr8⟩ := hQ2 r2 M2 hq
  refine lv_pop hx hb d_Law_406 (by rw [hzv]; exact hcat) ?_
  refine lv_goto (tgt := 1510) hx hb d_Law_407 (by decide) ?_
  exact kk M2 H2 locs2 ⟨hM1.1.ref hg h82, hM1.2.ref hg hr8⟩ I2
theorem lc_6 (C : zCtx p room_1 s m #[Value.ref b] meth c (mLaw nm)) (hX : va_X b L xs s s.heap) (hbl : b < ad 0) (hb2 : b < s.heap.size) (I : zI D cI cJ ad adV M s H locs) (hl : lv_has ls 4 (zlw b ad i)) (hM : zLv M) (hi : ∀ k : Int32, 0 ≤ k.toInt → k.toInt ≤ 5 → vp_in (i + k) L) (kk : ∀ (M' : zMem) (H' : Heap) (locs' : List Loc), zLv M' → zI D cI cJ ad adV M' s H' locs' → W p l e room_1 s m #[Value.ref b] below meth c H' locs' 114 84410 (lw_Z below #[Value.ref b] s) (F0 m 1510 ls [])) : W p l e room_1 s m #[Value.ref b] below meth c H locs 114 84410 (lw_Z below #[Value.ref b] s) (F0 m 410 ls []) := by
  have hx := C.1
  have hb : c.code = code := C.2.1
  have hbA : ¬ (fun q : Nat => ad 0 ≤ q) b := Nat.not_le.mpr hbl
  have hS := I.2.2.2.1
  have h0 := hM.1.1.c0
  have hn := hM.1.1.n
  refine lv_aload_n hx hb d_Law_410 rfl (lv_at hl 1 rfl) ?_
  refine lv_aload_n hx hb d_Law_411 rfl (lv_at hl 0 rfl) ?_
  refine lv_iload_n hx hb d_Law_412 rfl (lv_at hl 3 rfl) ?_
  refine lv_iconst (v := 1) hx hb d_Law_413 (by decide) ?_
  refine lv_iadd hx hb d_Law_414 ?_
  refine va_sld hx hb hX hb2 hbA hS (hi 1 (by decide) (by decide)) d_Law_415 ?_
  refine lv_aload_n hx hb d_Law_416 rfl (lv_at hl 0 rfl) ?_
  refine lv_iload_n hx hb d_Law_417 rfl (lv_at hl 3 rfl) ?_
  refine lv_iconst (v := 2) hx hb d_Law_418 (by decide) ?_
  refine lv_iadd hx hb d_Law_419 ?_
  refine va_sld hx hb hX hb2 hbA hS (hi 2 (by decide) (by decide)) d_Law_420 ?_
  obtain ⟨Q1, hC1, hQ1⟩ := v9_times l M hM (xs (i + 1).toNatClampNeg) (xs (i + 2).toNatClampNeg)
  refine lw_callV C I hl (q := 0) [.int (xs (i + 1).toNatClampNeg), .int (xs (i + 2).toNatClampNeg)] [] l_Law_41 hC1 rfl rfl h0 (by decide) ⟨Nat.le_of_ble_eq_true rfl, Nat.le_of_ble_eq_true rfl⟩ (by decide) d_Law_421 hn.1 hn.2 ⟨Nat.le_of_ble_eq_true rfl, Nat.le_of_ble_eq_true rfl⟩ ?_
  rintro r1 M1 H1 locs1 hq - - I1
  obtain ⟨⟨v1, rfl, hcat1, hzv1⟩, hM1⟩ := hQ1 r1 M1 hq
  have hw1 := hM1.1.1
  have hS1 := I1.2.2.2.1
  have hn1 := hw1.n
  have hm1 := hw1.m
  refine lv_pop hx hb d_Law_424 (by rw [hzv1]; exact hcat1) ?_
  refine lv_aload_n hx hb d_Law_425 rfl (lv_at hl 2 rfl) ?_
  refine lv_aload_n hx hb d_Law_426 rfl (lv_at hl 0 rfl) ?_
  refine lv_iload_n hx hb d_Law_427 rfl (lv_at hl 3 rfl) ?_
  refine lv_iconst (v := 1) hx hb d_Law_428 (by decide) ?_
  refine lv_iadd hx hb d_Law_429 ?_
  refine va_sld hx hb hX hb2 hbA hS1 (hi 1 (by decide) (by decide)) d_Law_430 ?_
  refine lv_aload_n hx hb d_Law_431 rfl (lv_at hl 0 rfl) ?_
  refine lv_iload_n hx hb d_Law_432 rfl (lv_at hl 3 rfl) ?_
  refine lv_iconst (v := 2) hx hb d_Law_433 (by decide) ?_
  refine lv_iadd hx hb d_Law_434 ?_
  refine va_sld hx hb hX hb2 hbA hS1 (hi 2 (by decide) (by decide)) d_Law_435 ?_
  obtain ⟨Q2, hC2, hQ2⟩ := w9_times l M1 hm1.1 hm1.2.1 (xs (i + 1).toNatClampNeg) (xs (i + 2).toNatClampNeg)
  refine lw_callV C I1 hl (q := 81) [.int (xs (i + 1).toNatClampNeg), .int (xs (i + 2).toNatClampNeg)] [] l_Law_44 hC2 rfl rfl hm1.2.2 (by decide) ⟨Nat.le_of_ble_eq_true rfl, Nat.le_of_ble_eq_true rfl⟩ (by decide) d_Law_436 hn1.1 hn1.2 ⟨Nat.le_of_ble_eq_true rfl, Nat.le_of_ble_eq_true rfl⟩ ?_
  rintro r2 M2 H2 locs2 hq - - I2
  obtain ⟨⟨v2, rfl, hcat, hzv⟩, hg, h82, hr8⟩ := hQ2 r2 M2 hq
  refine lv_pop hx hb d_Law_439 (by rw [hzv]; exact hcat) ?_
  refine lv_goto (tgt := 1510) hx hb d_Law_440 (by decide) ?_
  exact kk M2 H2 locs2 ⟨hM1.1.ref hg h82, hM1.2.ref hg hr8⟩ I2
theorem lc_7 (C : zCtx p room_1 s m #[Value.ref b] meth c (mLaw nm)) (hX : va_X b L xs s s.heap) (hbl : b < ad 0) (hb2 : b < s.heap.size) (I : zI D cI cJ ad adV M s H locs) (hl : lv_has ls 4 (zlw b ad i)) (hM : zLv M) (hi : ∀ k : Int32, 0 ≤ k.toInt → k.toInt ≤ 5 → vp_in (i + k) L) (kk : ∀ (M' : zMem) (H' : Heap) (locs' : List Loc), zLv M' → zI D cI cJ ad adV M' s H' locs' → W p l e room_1 s m #[Value.ref b] below meth c H' locs' 114 84410 (lw_Z below #[Value.ref b] s) (F0 m 1510 ls [])) : W p l e room_1 s m #[Value.ref b] below meth c H locs 114 84410 (lw_Z below #[Value.ref b] s) (F0 m 443 ls []) := by
  have hx := C.1
  have hb : c.code = code := C.2.1
  have hbA : ¬ (fun q : Nat => ad 0 ≤ q) b := Nat.not_le.mpr hbl
  have hS := I.2.2.2.1
  have h0 := hM.1.1.c0
  have hn := hM.1.1.n
  refine lv_aload_n hx hb d_Law_443 rfl (lv_at hl 1 rfl) ?_
  refine lv_aload_n hx hb d_Law_444 rfl (lv_at hl 0 rfl) ?_
  refine lv_iload_n hx hb d_Law_445 rfl (lv_at hl 3 rfl) ?_
  refine lv_iconst (v := 1) hx hb d_Law_446 (by decide) ?_
  refine lv_iadd hx hb d_Law_447 ?_
  refine va_sld hx hb hX hb2 hbA hS (hi 1 (by decide) (by decide)) d_Law_448 ?_
  obtain ⟨Q1, hC1, hQ1⟩ := v9_order l M hM (xs (i + 1).toNatClampNeg)
  refine lw_callV C I hl (q := 0) [.int (xs (i + 1).toNatClampNeg)] [] l_Law_45 hC1 rfl rfl h0 (by decide) ⟨Nat.le_of_ble_eq_true rfl, Nat.le_of_ble_eq_true rfl⟩ (by decide) d_Law_449 hn.1 hn.2 ⟨Nat.le_of_ble_eq_true rfl, Nat.le_of_ble_eq_true rfl⟩ ?_
  rintro r1 M1 H1 locs1 hq - - I1
  obtain ⟨⟨v1, rfl, hcat1, hzv1⟩, hM1⟩ := hQ1 r1 M1 hq
  have hw1 := hM1.1.1
  have hS1 := I1.2.2.2.1
  have hn1 := hw1.n
  have hm1 := hw1.m
  refine lv_pop hx hb d_Law_452 (by rw [hzv1]; exact hcat1) ?_
  refine lv_aload_n hx hb d_Law_453 rfl (lv_at hl 2 rfl) ?_
  refine lv_aload_n hx hb d_Law_454 rfl (lv_at hl 0 rfl) ?_
  refine lv_iload_n hx hb d_Law_455 rfl (lv_at hl 3 rfl) ?_
  refine lv_iconst (v := 1) hx hb d_Law_456 (by decide) ?_
  refine lv_iadd hx hb d_Law_457 ?_
  refine va_sld hx hb hX hb2 hbA hS1 (hi 1 (by decide) (by decide)) d_Law_458 ?_
  obtain ⟨Q2, hC2, hQ2⟩ := w9_order l M1 hm1.1 hm1.2.1 (xs (i + 1).toNatClampNeg)
  refine lw_callV C I1 hl (q := 81) [.int (xs (i + 1).toNatClampNeg)] [] l_Law_48 hC2 rfl rfl hm1.2.2 (by decide) ⟨Nat.le_of_ble_eq_true rfl, Nat.le_of_ble_eq_true rfl⟩ (by decide) d_Law_459 hn1.1 hn1.2 ⟨Nat.le_of_ble_eq_true rfl, Nat.le_of_ble_eq_true rfl⟩ ?_
  rintro r2 M2 H2 locs2 hq - - I2
  obtain ⟨⟨v2, rfl, hcat, hzv⟩, hg, h82, hr8⟩ := hQ2 r2 M2 hq
  refine lv_pop hx hb d_Law_462 (by rw [hzv]; exact hcat) ?_
  refine lv_goto (tgt := 1510) hx hb d_Law_463 (by decide) ?_
  exact kk M2 H2 locs2 ⟨hM1.1.ref hg h82, hM1.2.ref hg hr8⟩ I2
theorem lc_8 (C : zCtx p room_1 s m #[Value.ref b] meth c (mLaw nm)) (hX : va_X b L xs s s.heap) (hbl : b < ad 0) (hb2 : b < s.heap.size) (I : zI D cI cJ ad adV M s H locs) (hl : lv_has ls 4 (zlw b ad i)) (hM : zLv M) (hi : ∀ k : Int32, 0 ≤ k.toInt → k.toInt ≤ 5 → vp_in (i + k) L) (kk : ∀ (M' : zMem) (H' : Heap) (locs' : List Loc), zLv M' → zI D cI cJ ad adV M' s H' locs' → W p l e room_1 s m #[Value.ref b] below meth c H' locs' 114 84410 (lw_Z below #[Value.ref b] s) (F0 m 1510 ls [])) : W p l e room_1 s m #[Value.ref b] below meth c H locs 114 84410 (lw_Z below #[Value.ref b] s) (F0 m 466 ls []) := by
  have hx := C.1
  have hb : c.code = code := C.2.1
  have hbA : ¬ (fun q : Nat => ad 0 ≤ q) b := Nat.not_le.mpr hbl
  have hS := I.2.2.2.1
  have h0 := hM.1.1.c0
  have hn := hM.1.1.n
  refine lv_aload_n hx hb d_Law_466 rfl (lv_at hl 1 rfl) ?_
  refine lv_aload_n hx hb d_Law_467 rfl (lv_at hl 0 rfl) ?_
  refine lv_iload_n hx hb d_Law_468 rfl (lv_at hl 3 rfl) ?_
  refine lv_iconst (v := 1) hx hb d_Law_469 (by decide) ?_
  refine lv_iadd hx hb d_Law_470 ?_
  refine va_sld hx hb hX hb2 hbA hS (hi 1 (by decide) (by decide)) d_Law_471 ?_
  obtain ⟨Q1, hC1, hQ1⟩ := v9_makesOf l M hM (xs (i + 1).toNatClampNeg)
  refine lw_callV C I hl (q := 0) [.int (xs (i + 1).toNatClampNeg)] [] l_Law_49 hC1 rfl rfl h0 (by decide) ⟨Nat.le_of_ble_eq_true rfl, Nat.le_of_ble_eq_true rfl⟩ (by decide) d_Law_472 hn.1 hn.2 ⟨Nat.le_of_ble_eq_true rfl, Nat.le_of_ble_eq_true rfl⟩ ?_
  rintro r1 M1 H1 locs1 hq - - I1
  obtain ⟨⟨v1, rfl, hcat1, hzv1⟩, hM1⟩ := hQ1 r1 M1 hq
  have hw1 := hM1.1.1
  have hS1 := I1.2.2.2.1
  have hn1 := hw1.n
  have hm1 := hw1.m
  refine lv_pop hx hb d_Law_475 (by rw [hzv1]; exact hcat1) ?_
  refine lv_aload_n hx hb d_Law_476 rfl (lv_at hl 2 rfl) ?_
  refine lv_aload_n hx hb d_Law_477 rfl (lv_at hl 0 rfl) ?_
  refine lv_iload_n hx hb d_Law_478 rfl (lv_at hl 3 rfl) ?_
  refine lv_iconst (v := 1) hx hb d_Law_479 (by decide) ?_
  refine lv_iadd hx hb d_Law_480 ?_
  refine va_sld hx hb hX hb2 hbA hS1 (hi 1 (by decide) (by decide)) d_Law_481 ?_
  obtain ⟨Q2, hC2, hQ2⟩ := w9_makesOf l M1 hm1.1 hm1.2.1 (xs (i + 1).toNatClampNeg)
  refine lw_callV C I1 hl (q := 81) [.int (xs (i + 1).toNatClampNeg)] [] l_Law_52 hC2 rfl rfl hm1.2.2 (by decide) ⟨Nat.le_of_ble_eq_true rfl, Nat.le_of_ble_eq_true rfl⟩ (by decide) d_Law_482 hn1.1 hn1.2 ⟨Nat.le_of_ble_eq_true rfl, Nat.le_of_ble_eq_true rfl⟩ ?_
  rintro r2 M2 H2 locs2 hq - - I2
  obtain ⟨⟨v2, rfl, hcat, hzv⟩, hg, h82, hr8⟩ := hQ2 r2 M2 hq
  refine lv_pop hx hb d_Law_485 (by rw [hzv]; exact hcat) ?_
  refine lv_goto (tgt := 1510) hx hb d_Law_486 (by decide) ?_
  exact kk M2 H2 locs2 ⟨hM1.1.ref hg h82, hM1.2.ref hg hr8⟩ I2
theorem lc_9 (C : zCtx p room_1 s m #[Value.ref b] meth c (mLaw nm)) (hX : va_X b L xs s s.heap) (hbl : b < ad 0) (hb2 : b < s.heap.size) (I : zI D cI cJ ad adV M s H locs) (hl : lv_has ls 4 (zlw b ad i)) (hM : zLv M) (hi : ∀ k : Int32, 0 ≤ k.toInt → k.toInt ≤ 5 → vp_in (i + k) L) (kk : ∀ (M' : zMem) (H' : Heap) (locs' : List Loc), zLv M' → zI D cI cJ ad adV M' s H' locs' → W p l e room_1 s m #[Value.ref b] below meth c H' locs' 114 84410 (lw_Z below #[Value.ref b] s) (F0 m 1510 ls [])) : W p l e room_1 s m #[Value.ref b] below meth c H locs 114 84410 (lw_Z below #[Value.ref b] s) (F0 m 489 ls []) := by
  have hx := C.1
  have hb : c.code = code := C.2.1
  have hbA : ¬ (fun q : Nat => ad 0 ≤ q) b := Nat.not_le.mpr hbl
  have hS := I.2.2.2.1
  have h0 := hM.1.1.c0
  have hn := hM.1.1.n
  refine lv_aload_n hx hb d_Law_489 rfl (lv_at hl 1 rfl) ?_
  refine lv_aload_n hx hb d_Law_490 rfl (lv_at hl 0 rfl) ?_
  refine lv_iload_n hx hb d_Law_491 rfl (lv_at hl 3 rfl) ?_
  refine lv_iconst (v := 1) hx hb d_Law_492 (by decide) ?_
  refine lv_iadd hx hb d_Law_493 ?_
  refine va_sld hx hb hX hb2 hbA hS (hi 1 (by decide) (by decide)) d_Law_494 ?_
  obtain ⟨Q1, hC1, hQ1⟩ := v9_sortOf l M hM (xs (i + 1).toNatClampNeg)
  refine lw_callV C I hl (q := 0) [.int (xs (i + 1).toNatClampNeg)] [] l_Law_53 hC1 rfl rfl h0 (by decide) ⟨Nat.le_of_ble_eq_true rfl, Nat.le_of_ble_eq_true rfl⟩ (by decide) d_Law_495 hn.1 hn.2 ⟨Nat.le_of_ble_eq_true rfl, Nat.le_of_ble_eq_true rfl⟩ ?_
  rintro r1 M1 H1 locs1 hq - - I1
  obtain ⟨⟨v1, rfl, hcat1, hzv1⟩, hM1⟩ := hQ1 r1 M1 hq
  have hw1 := hM1.1.1
  have hS1 := I1.2.2.2.1
  have hn1 := hw1.n
  have hm1 := hw1.m
  refine lv_pop hx hb d_Law_498 (by rw [hzv1]; exact hcat1) ?_
  refine lv_aload_n hx hb d_Law_499 rfl (lv_at hl 2 rfl) ?_
  refine lv_aload_n hx hb d_Law_500 rfl (lv_at hl 0 rfl) ?_
  refine lv_iload_n hx hb d_Law_501 rfl (lv_at hl 3 rfl) ?_
  refine lv_iconst (v := 1) hx hb d_Law_502 (by decide) ?_
  refine lv_iadd hx hb d_Law_503 ?_
  refine va_sld hx hb hX hb2 hbA hS1 (hi 1 (by decide) (by decide)) d_Law_504 ?_
  obtain ⟨Q2, hC2, hQ2⟩ := w9_sortOf l M1 hm1.1 hm1.2.1 (xs (i + 1).toNatClampNeg)
  refine lw_callV C I1 hl (q := 81) [.int (xs (i + 1).toNatClampNeg)] [] l_Law_56 hC2 rfl rfl hm1.2.2 (by decide) ⟨Nat.le_of_ble_eq_true rfl, Nat.le_of_ble_eq_true rfl⟩ (by decide) d_Law_505 hn1.1 hn1.2 ⟨Nat.le_of_ble_eq_true rfl, Nat.le_of_ble_eq_true rfl⟩ ?_
  rintro r2 M2 H2 locs2 hq - - I2
  obtain ⟨⟨v2, rfl, hcat, hzv⟩, hg, h82, hr8⟩ := hQ2 r2 M2 hq
  refine lv_pop hx hb d_Law_508 (by rw [hzv]; exact hcat) ?_
  refine lv_goto (tgt := 1510) hx hb d_Law_509 (by decide) ?_
  exact kk M2 H2 locs2 ⟨hM1.1.ref hg h82, hM1.2.ref hg hr8⟩ I2
theorem lc_10 (C : zCtx p room_1 s m #[Value.ref b] meth c (mLaw nm)) (hX : va_X b L xs s s.heap) (hbl : b < ad 0) (hb2 : b < s.heap.size) (I : zI D cI cJ ad adV M s H locs) (hl : lv_has ls 4 (zlw b ad i)) (hM : zLv M) (hi : ∀ k : Int32, 0 ≤ k.toInt → k.toInt ≤ 5 → vp_in (i + k) L) (kk : ∀ (M' : zMem) (H' : Heap) (locs' : List Loc), zLv M' → zI D cI cJ ad adV M' s H' locs' → W p l e room_1 s m #[Value.ref b] below meth c H' locs' 114 84410 (lw_Z below #[Value.ref b] s) (F0 m 1510 ls [])) : W p l e room_1 s m #[Value.ref b] below meth c H locs 114 84410 (lw_Z below #[Value.ref b] s) (F0 m 512 ls []) := by
  have hx := C.1
  have hb : c.code = code := C.2.1
  have hbA : ¬ (fun q : Nat => ad 0 ≤ q) b := Nat.not_le.mpr hbl
  have hS := I.2.2.2.1
  have h0 := hM.1.1.c0
  have hn := hM.1.1.n
  refine lv_aload_n hx hb d_Law_512 rfl (lv_at hl 1 rfl) ?_
  refine lv_aload_n hx hb d_Law_513 rfl (lv_at hl 0 rfl) ?_
  refine lv_iload_n hx hb d_Law_514 rfl (lv_at hl 3 rfl) ?_
  refine lv_iconst (v := 1) hx hb d_Law_515 (by decide) ?_
  refine lv_iadd hx hb d_Law_516 ?_
  refine va_sld hx hb hX hb2 hbA hS (hi 1 (by decide) (by decide)) d_Law_517 ?_
  refine lv_aload_n hx hb d_Law_518 rfl (lv_at hl 0 rfl) ?_
  refine lv_iload_n hx hb d_Law_519 rfl (lv_at hl 3 rfl) ?_
  refine lv_iconst (v := 2) hx hb d_Law_520 (by decide) ?_
  refine lv_iadd hx hb d_Law_521 ?_
  refine va_sld hx hb hX hb2 hbA hS (hi 2 (by decide) (by decide)) d_Law_522 ?_
  obtain ⟨Q1, hC1, hQ1⟩ := v9_sort l M hM (xs (i + 1).toNatClampNeg) (xs (i + 2).toNatClampNeg)
  refine lw_callV C I hl (q := 0) [.int (xs (i + 1).toNatClampNeg), .int (xs (i + 2).toNatClampNeg)] [] l_Law_57 hC1 rfl rfl h0 (by decide) ⟨Nat.le_of_ble_eq_true rfl, Nat.le_of_ble_eq_true rfl⟩ (by decide) d_Law_523 hn.1 hn.2 ⟨Nat.le_of_ble_eq_true rfl, Nat.le_of_ble_eq_true rfl⟩ ?_
  rintro r1 M1 H1 locs1 hq - - I1
  obtain ⟨⟨v1, rfl, hcat1, hzv1⟩, hM1⟩ := hQ1 r1 M1 hq
  have hw1 := hM1.1.1
  have hS1 := I1.2.2.2.1
  have hn1 := hw1.n
  have hm1 := hw1.m
  refine lv_pop hx hb d_Law_526 (by rw [hzv1]; exact hcat1) ?_
  refine lv_aload_n hx hb d_Law_527 rfl (lv_at hl 2 rfl) ?_
  refine lv_aload_n hx hb d_Law_528 rfl (lv_at hl 0 rfl) ?_
  refine lv_iload_n hx hb d_Law_529 rfl (lv_at hl 3 rfl) ?_
  refine lv_iconst (v := 1) hx hb d_Law_530 (by decide) ?_
  refine lv_iadd hx hb d_Law_531 ?_
  refine va_sld hx hb hX hb2 hbA hS1 (hi 1 (by decide) (by decide)) d_Law_532 ?_
  refine lv_aload_n hx hb d_Law_533 rfl (lv_at hl 0 rfl) ?_
  refine lv_iload_n hx hb d_Law_534 rfl (lv_at hl 3 rfl) ?_
  refine lv_iconst (v := 2) hx hb d_Law_535 (by decide) ?_
  refine lv_iadd hx hb d_Law_536 ?_
  refine va_sld hx hb hX hb2 hbA hS1 (hi 2 (by decide) (by decide)) d_Law_537 ?_
  obtain ⟨Q2, hC2, hQ2⟩ := w9_sort l M1 hm1.1 hm1.2.1 (xs (i + 1).toNatClampNeg) (xs (i + 2).toNatClampNeg)
  refine lw_callV C I1 hl (q := 81) [.int (xs (i + 1).toNatClampNeg), .int (xs (i + 2).toNatClampNeg)] [] l_Law_60 hC2 rfl rfl hm1.2.2 (by decide) ⟨Nat.le_of_ble_eq_true rfl, Nat.le_of_ble_eq_true rfl⟩ (by decide) d_Law_538 hn1.1 hn1.2 ⟨Nat.le_of_ble_eq_true rfl, Nat.le_of_ble_eq_true rfl⟩ ?_
  rintro r2 M2 H2 locs2 hq - - I2
  obtain ⟨⟨v2, rfl, hcat, hzv⟩, hg, h82, hr8⟩ := hQ2 r2 M2 hq
  refine lv_pop hx hb d_Law_541 (by rw [hzv]; exact hcat) ?_
  refine lv_goto (tgt := 1510) hx hb d_Law_542 (by decide) ?_
  exact kk M2 H2 locs2 ⟨hM1.1.ref hg h82, hM1.2.ref hg hr8⟩ I2
theorem lc_11 (C : zCtx p room_1 s m #[Value.ref b] meth c (mLaw nm)) (hX : va_X b L xs s s.heap) (hbl : b < ad 0) (hb2 : b < s.heap.size) (I : zI D cI cJ ad adV M s H locs) (hl : lv_has ls 4 (zlw b ad i)) (hM : zLv M) (hi : ∀ k : Int32, 0 ≤ k.toInt → k.toInt ≤ 5 → vp_in (i + k) L) (kk : ∀ (M' : zMem) (H' : Heap) (locs' : List Loc), zLv M' → zI D cI cJ ad adV M' s H' locs' → W p l e room_1 s m #[Value.ref b] below meth c H' locs' 114 84410 (lw_Z below #[Value.ref b] s) (F0 m 1510 ls [])) : W p l e room_1 s m #[Value.ref b] below meth c H locs 114 84410 (lw_Z below #[Value.ref b] s) (F0 m 545 ls []) := by
  have hx := C.1
  have hb : c.code = code := C.2.1
  have hbA : ¬ (fun q : Nat => ad 0 ≤ q) b := Nat.not_le.mpr hbl
  have hS := I.2.2.2.1
  have h0 := hM.1.1.c0
  have hn := hM.1.1.n
  refine lv_aload_n hx hb d_Law_545 rfl (lv_at hl 1 rfl) ?_
  refine lv_aload_n hx hb d_Law_546 rfl (lv_at hl 0 rfl) ?_
  refine lv_iload_n hx hb d_Law_547 rfl (lv_at hl 3 rfl) ?_
  refine lv_iconst (v := 1) hx hb d_Law_548 (by decide) ?_
  refine lv_iadd hx hb d_Law_549 ?_
  refine va_sld hx hb hX hb2 hbA hS (hi 1 (by decide) (by decide)) d_Law_550 ?_
  refine lv_aload_n hx hb d_Law_551 rfl (lv_at hl 0 rfl) ?_
  refine lv_iload_n hx hb d_Law_552 rfl (lv_at hl 3 rfl) ?_
  refine lv_iconst (v := 2) hx hb d_Law_553 (by decide) ?_
  refine lv_iadd hx hb d_Law_554 ?_
  refine va_sld hx hb hX hb2 hbA hS (hi 2 (by decide) (by decide)) d_Law_555 ?_
  obtain ⟨Q1, hC1, hQ1⟩ := v9_within l M hM (xs (i + 1).toNatClampNeg) (xs (i + 2).toNatClampNeg)
  refine lw_callV C I hl (q := 0) [.int (xs (i + 1).toNatClampNeg), .int (xs (i + 2).toNatClampNeg)] [] l_Law_61 hC1 rfl rfl h0 (by decide) ⟨Nat.le_of_ble_eq_true rfl, Nat.le_of_ble_eq_true rfl⟩ (by decide) d_Law_556 hn.1 hn.2 ⟨Nat.le_of_ble_eq_true rfl, Nat.le_of_ble_eq_true rfl⟩ ?_
  rintro r1 M1 H1 locs1 hq - - I1
  obtain ⟨⟨v1, rfl, hcat1, hzv1⟩, hM1⟩ := hQ1 r1 M1 hq
  have hw1 := hM1.1.1
  have hS1 := I1.2.2.2.1
  have hn1 := hw1.n
  have hm1 := hw1.m
  refine lv_pop hx hb d_Law_559 (by rw [hzv1]; exact hcat1) ?_
  refine lv_aload_n hx hb d_Law_560 rfl (lv_at hl 2 rfl) ?_
  refine lv_aload_n hx hb d_Law_561 rfl (lv_at hl 0 rfl) ?_
  refine lv_iload_n hx hb d_Law_562 rfl (lv_at hl 3 rfl) ?_
  refine lv_iconst (v := 1) hx hb d_Law_563 (by decide) ?_
  refine lv_iadd hx hb d_Law_564 ?_
  refine va_sld hx hb hX hb2 hbA hS1 (hi 1 (by decide) (by decide)) d_Law_565 ?_
  refine lv_aload_n hx hb d_Law_566 rfl (lv_at hl 0 rfl) ?_
  refine lv_iload_n hx hb d_Law_567 rfl (lv_at hl 3 rfl) ?_
  refine lv_iconst (v := 2) hx hb d_Law_568 (by decide) ?_
  refine lv_iadd hx hb d_Law_569 ?_
  refine va_sld hx hb hX hb2 hbA hS1 (hi 2 (by decide) (by decide)) d_Law_570 ?_
  obtain ⟨Q2, hC2, hQ2⟩ := w9_within l M1 hm1.1 hm1.2.1 (xs (i + 1).toNatClampNeg) (xs (i + 2).toNatClampNeg)
  refine lw_callV C I1 hl (q := 81) [.int (xs (i + 1).toNatClampNeg), .int (xs (i + 2).toNatClampNeg)] [] l_Law_64 hC2 rfl rfl hm1.2.2 (by decide) ⟨Nat.le_of_ble_eq_true rfl, Nat.le_of_ble_eq_true rfl⟩ (by decide) d_Law_571 hn1.1 hn1.2 ⟨Nat.le_of_ble_eq_true rfl, Nat.le_of_ble_eq_true rfl⟩ ?_
  rintro r2 M2 H2 locs2 hq - - I2
  obtain ⟨⟨v2, rfl, hcat, hzv⟩, hg, h82, hr8⟩ := hQ2 r2 M2 hq
  refine lv_pop hx hb d_Law_574 (by rw [hzv]; exact hcat) ?_
  refine lv_goto (tgt := 1510) hx hb d_Law_575 (by decide) ?_
  exact kk M2 H2 locs2 ⟨hM1.1.ref hg h82, hM1.2.ref hg hr8⟩ I2
theorem lc_12 (C : zCtx p room_1 s m #[Value.ref b] meth c (mLaw nm)) (hX : va_X b L xs s s.heap) (hbl : b < ad 0) (hb2 : b < s.heap.size) (I : zI D cI cJ ad adV M s H locs) (hl : lv_has ls 4 (zlw b ad i)) (hM : zLv M) (hi : ∀ k : Int32, 0 ≤ k.toInt → k.toInt ≤ 5 → vp_in (i + k) L) (kk : ∀ (M' : zMem) (H' : Heap) (locs' : List Loc), zLv M' → zI D cI cJ ad adV M' s H' locs' → W p l e room_1 s m #[Value.ref b] below meth c H' locs' 114 84410 (lw_Z below #[Value.ref b] s) (F0 m 1510 ls [])) : W p l e room_1 s m #[Value.ref b] below meth c H locs 114 84410 (lw_Z below #[Value.ref b] s) (F0 m 578 ls []) := by
  have hx := C.1
  have hb : c.code = code := C.2.1
  have hbA : ¬ (fun q : Nat => ad 0 ≤ q) b := Nat.not_le.mpr hbl
  have hS := I.2.2.2.1
  have h0 := hM.1.1.c0
  have hn := hM.1.1.n
  refine lv_aload_n hx hb d_Law_578 rfl (lv_at hl 1 rfl) ?_
  refine lv_aload_n hx hb d_Law_579 rfl (lv_at hl 0 rfl) ?_
  refine lv_iload_n hx hb d_Law_580 rfl (lv_at hl 3 rfl) ?_
  refine lv_iconst (v := 1) hx hb d_Law_581 (by decide) ?_
  refine lv_iadd hx hb d_Law_582 ?_
  refine va_sld hx hb hX hb2 hbA hS (hi 1 (by decide) (by decide)) d_Law_583 ?_
  refine lv_aload_n hx hb d_Law_584 rfl (lv_at hl 0 rfl) ?_
  refine lv_iload_n hx hb d_Law_585 rfl (lv_at hl 3 rfl) ?_
  refine lv_iconst (v := 2) hx hb d_Law_586 (by decide) ?_
  refine lv_iadd hx hb d_Law_587 ?_
  refine va_sld hx hb hX hb2 hbA hS (hi 2 (by decide) (by decide)) d_Law_588 ?_
  obtain ⟨Q1, hC1, hQ1⟩ := v9_mark l M hM (xs (i + 1).toNatClampNeg) (xs (i + 2).toNatClampNeg)
  refine lw_callV C I hl (q := 0) [.int (xs (i + 1).toNatClampNeg), .int (xs (i + 2).toNatClampNeg)] [] l_Law_65 hC1 rfl rfl h0 (by decide) ⟨Nat.le_of_ble_eq_true rfl, Nat.le_of_ble_eq_true rfl⟩ (by decide) d_Law_589 hn.1 hn.2 ⟨Nat.le_of_ble_eq_true rfl, Nat.le_of_ble_eq_true rfl⟩ ?_
  rintro r1 M1 H1 locs1 hq - - I1
  obtain ⟨⟨v1, rfl, hcat1, hzv1⟩, hM1⟩ := hQ1 r1 M1 hq
  have hw1 := hM1.1.1
  have hS1 := I1.2.2.2.1
  have hn1 := hw1.n
  have hm1 := hw1.m
  refine lv_pop hx hb d_Law_592 (by rw [hzv1]; exact hcat1) ?_
  refine lv_aload_n hx hb d_Law_593 rfl (lv_at hl 2 rfl) ?_
  refine lv_aload_n hx hb d_Law_594 rfl (lv_at hl 0 rfl) ?_
  refine lv_iload_n hx hb d_Law_595 rfl (lv_at hl 3 rfl) ?_
  refine lv_iconst (v := 1) hx hb d_Law_596 (by decide) ?_
  refine lv_iadd hx hb d_Law_597 ?_
  refine va_sld hx hb hX hb2 hbA hS1 (hi 1 (by decide) (by decide)) d_Law_598 ?_
  refine lv_aload_n hx hb d_Law_599 rfl (lv_at hl 0 rfl) ?_
  refine lv_iload_n hx hb d_Law_600 rfl (lv_at hl 3 rfl) ?_
  refine lv_iconst (v := 2) hx hb d_Law_601 (by decide) ?_
  refine lv_iadd hx hb d_Law_602 ?_
  refine va_sld hx hb hX hb2 hbA hS1 (hi 2 (by decide) (by decide)) d_Law_603 ?_
  obtain ⟨Q2, hC2, hQ2⟩ := w9_mark l M1 hm1.1 hm1.2.1 (xs (i + 1).toNatClampNeg) (xs (i + 2).toNatClampNeg)
  refine lw_callV C I1 hl (q := 81) [.int (xs (i + 1).toNatClampNeg), .int (xs (i + 2).toNatClampNeg)] [] l_Law_68 hC2 rfl rfl hm1.2.2 (by decide) ⟨Nat.le_of_ble_eq_true rfl, Nat.le_of_ble_eq_true rfl⟩ (by decide) d_Law_604 hn1.1 hn1.2 ⟨Nat.le_of_ble_eq_true rfl, Nat.le_of_ble_eq_true rfl⟩ ?_
  rintro r2 M2 H2 locs2 hq - - I2
  obtain ⟨⟨v2, rfl, hcat, hzv⟩, hg, h82, hr8⟩ := hQ2 r2 M2 hq
  refine lv_pop hx hb d_Law_607 (by rw [hzv]; exact hcat) ?_
  refine lv_goto (tgt := 1510) hx hb d_Law_608 (by decide) ?_
  exact kk M2 H2 locs2 ⟨hM1.1.ref hg h82, hM1.2.ref hg hr8⟩ I2
theorem lc_13 (C : zCtx p room_1 s m #[Value.ref b] meth c (mLaw nm)) (hX : va_X b L xs s s.heap) (hbl : b < ad 0) (hb2 : b < s.heap.size) (I : zI D cI cJ ad adV M s H locs) (hl : lv_has ls 4 (zlw b ad i)) (hM : zLv M) (hi : ∀ k : Int32, 0 ≤ k.toInt → k.toInt ≤ 5 → vp_in (i + k) L) (kk : ∀ (M' : zMem) (H' : Heap) (locs' : List Loc), zLv M' → zI D cI cJ ad adV M' s H' locs' → W p l e room_1 s m #[Value.ref b] below meth c H' locs' 114 84410 (lw_Z below #[Value.ref b] s) (F0 m 1510 ls [])) : W p l e room_1 s m #[Value.ref b] below meth c H locs 114 84410 (lw_Z below #[Value.ref b] s) (F0 m 611 ls []) := by
  have hx := C.1
  have hb : c.code = code := C.2.1
  have hbA : ¬ (fun q : Nat => ad 0 ≤ q) b := Nat.not_le.mpr hbl
  have hS := I.2.2.2.1
  have h0 := hM.1.1.c0
  have hn := hM.1.1.n
  refine lv_aload_n hx hb d_Law_611 rfl (lv_at hl 1 rfl) ?_
  refine lv_aload_n hx hb d_Law_612 rfl (lv_at hl 0 rfl) ?_
  refine lv_iload_n hx hb d_Law_613 rfl (lv_at hl 3 rfl) ?_
  refine lv_iconst (v := 1) hx hb d_Law_614 (by decide) ?_
  refine lv_iadd hx hb d_Law_615 ?_
  refine va_sld hx hb hX hb2 hbA hS (hi 1 (by decide) (by decide)) d_Law_616 ?_
  refine lv_aload_n hx hb d_Law_617 rfl (lv_at hl 0 rfl) ?_
  refine lv_iload_n hx hb d_Law_618 rfl (lv_at hl 3 rfl) ?_
  refine lv_iconst (v := 2) hx hb d_Law_619 (by decide) ?_
  refine lv_iadd hx hb d_Law_620 ?_
  refine va_sld hx hb hX hb2 hbA hS (hi 2 (by decide) (by decide)) d_Law_621 ?_
  refine lv_aload_n hx hb d_Law_622 rfl (lv_at hl 0 rfl) ?_
  refine lv_iload_n hx hb d_Law_623 rfl (lv_at hl 3 rfl) ?_
  refine lv_iconst (v := 3) hx hb d_Law_624 (by decide) ?_
  refine lv_iadd hx hb d_Law_625 ?_
  refine va_sld hx hb hX hb2 hbA hS (hi 3 (by decide) (by decide)) d_Law_626 ?_
  obtain ⟨Q1, hC1, hQ1⟩ := v9_product l M hM (xs (i + 1).toNatClampNeg) (xs (i + 2).toNatClampNeg) (xs (i + 3).toNatClampNeg)
  refine lw_callV C I hl (q := 0) [.int (xs (i + 1).toNatClampNeg), .int (xs (i + 2).toNatClampNeg), .int (xs (i + 3).toNatClampNeg)] [] l_Law_69 hC1 rfl rfl h0 (by decide) ⟨Nat.le_of_ble_eq_true rfl, Nat.le_of_ble_eq_true rfl⟩ (by decide) d_Law_627 hn.1 hn.2 ⟨Nat.le_of_ble_eq_true rfl, Nat.le_of_ble_eq_true rfl⟩ ?_
  rintro r1 M1 H1 locs1 hq - - I1
  obtain ⟨⟨v1, rfl, hcat1, hzv1⟩, hM1⟩ := hQ1 r1 M1 hq
  have hw1 := hM1.1.1
  have hS1 := I1.2.2.2.1
  have hn1 := hw1.n
  have hm1 := hw1.m
  refine lv_pop hx hb d_Law_630 (by rw [hzv1]; exact hcat1) ?_
  refine lv_aload_n hx hb d_Law_631 rfl (lv_at hl 2 rfl) ?_
  refine lv_aload_n hx hb d_Law_632 rfl (lv_at hl 0 rfl) ?_
  refine lv_iload_n hx hb d_Law_633 rfl (lv_at hl 3 rfl) ?_
  refine lv_iconst (v := 1) hx hb d_Law_634 (by decide) ?_
  refine lv_iadd hx hb d_Law_635 ?_
  refine va_sld hx hb hX hb2 hbA hS1 (hi 1 (by decide) (by decide)) d_Law_636 ?_
  refine lv_aload_n hx hb d_Law_637 rfl (lv_at hl 0 rfl) ?_
  refine lv_iload_n hx hb d_Law_638 rfl (lv_at hl 3 rfl) ?_
  refine lv_iconst (v := 2) hx hb d_Law_639 (by decide) ?_
  refine lv_iadd hx hb d_Law_640 ?_
  refine va_sld hx hb hX hb2 hbA hS1 (hi 2 (by decide) (by decide)) d_Law_641 ?_
  refine lv_aload_n hx hb d_Law_642 rfl (lv_at hl 0 rfl) ?_
  refine lv_iload_n hx hb d_Law_643 rfl (lv_at hl 3 rfl) ?_
  refine lv_iconst (v := 3) hx hb d_Law_644 (by decide) ?_
  refine lv_iadd hx hb d_Law_645 ?_
  refine va_sld hx hb hX hb2 hbA hS1 (hi 3 (by decide) (by decide)) d_Law_646 ?_
  obtain ⟨Q2, hC2, hQ2⟩ := w9_product l M1 hm1.1 hm1.2.1 (xs (i + 1).toNatClampNeg) (xs (i + 2).toNatClampNeg) (xs (i + 3).toNatClampNeg)
  refine lw_callV C I1 hl (q := 81) [.int (xs (i + 1).toNatClampNeg), .int (xs (i + 2).toNatClampNeg), .int (xs (i + 3).toNatClampNeg)] [] l_Law_73 hC2 rfl rfl hm1.2.2 (by decide) ⟨Nat.le_of_ble_eq_true rfl, Nat.le_of_ble_eq_true rfl⟩ (by decide) d_Law_647 hn1.1 hn1.2 ⟨Nat.le_of_ble_eq_true rfl, Nat.le_of_ble_eq_true rfl⟩ ?_
  rintro r2 M2 H2 locs2 hq - - I2
  obtain ⟨⟨v2, rfl, hcat, hzv⟩, hg, h82, hr8⟩ := hQ2 r2 M2 hq
  refine lv_pop hx hb d_Law_650 (by rw [hzv]; exact hcat) ?_
  refine lv_goto (tgt := 1510) hx hb d_Law_651 (by decide) ?_
  exact kk M2 H2 locs2 ⟨hM1.1.ref hg h82, hM1.2.ref hg hr8⟩ I2
theorem lc_14 (C : zCtx p room_1 s m #[Value.ref b] meth c (mLaw nm)) (hX : va_X b L xs s s.heap) (hbl : b < ad 0) (hb2 : b < s.heap.size) (I : zI D cI cJ ad adV M s H locs) (hl : lv_has ls 4 (zlw b ad i)) (hM : zLv M) (hi : ∀ k : Int32, 0 ≤ k.toInt → k.toInt ≤ 5 → vp_in (i + k) L) (kk : ∀ (M' : zMem) (H' : Heap) (locs' : List Loc), zLv M' → zI D cI cJ ad adV M' s H' locs' → W p l e room_1 s m #[Value.ref b] below meth c H' locs' 114 84410 (lw_Z below #[Value.ref b] s) (F0 m 1510 ls [])) : W p l e room_1 s m #[Value.ref b] below meth c H locs 114 84410 (lw_Z below #[Value.ref b] s) (F0 m 654 ls []) := by
  have hx := C.1
  have hb : c.code = code := C.2.1
  have hbA : ¬ (fun q : Nat => ad 0 ≤ q) b := Nat.not_le.mpr hbl
  have hS := I.2.2.2.1
  have h0 := hM.1.1.c0
  have hn := hM.1.1.n
  refine lv_aload_n hx hb d_Law_654 rfl (lv_at hl 1 rfl) ?_
  refine lv_aload_n hx hb d_Law_655 rfl (lv_at hl 0 rfl) ?_
  refine lv_iload_n hx hb d_Law_656 rfl (lv_at hl 3 rfl) ?_
  refine lv_iconst (v := 1) hx hb d_Law_657 (by decide) ?_
  refine lv_iadd hx hb d_Law_658 ?_
  refine va_sld hx hb hX hb2 hbA hS (hi 1 (by decide) (by decide)) d_Law_659 ?_
  refine lv_aload_n hx hb d_Law_660 rfl (lv_at hl 0 rfl) ?_
  refine lv_iload_n hx hb d_Law_661 rfl (lv_at hl 3 rfl) ?_
  refine lv_iconst (v := 2) hx hb d_Law_662 (by decide) ?_
  refine lv_iadd hx hb d_Law_663 ?_
  refine va_sld hx hb hX hb2 hbA hS (hi 2 (by decide) (by decide)) d_Law_664 ?_
  obtain ⟨Q1, hC1, hQ1⟩ := v9_residue l M hM (xs (i + 1).toNatClampNeg) (xs (i + 2).toNatClampNeg)
  refine lw_callV C I hl (q := 0) [.int (xs (i + 1).toNatClampNeg), .int (xs (i + 2).toNatClampNeg)] [] l_Law_74 hC1 rfl rfl h0 (by decide) ⟨Nat.le_of_ble_eq_true rfl, Nat.le_of_ble_eq_true rfl⟩ (by decide) d_Law_665 hn.1 hn.2 ⟨Nat.le_of_ble_eq_true rfl, Nat.le_of_ble_eq_true rfl⟩ ?_
  rintro r1 M1 H1 locs1 hq - - I1
  obtain ⟨⟨v1, rfl, hcat1, hzv1⟩, hM1⟩ := hQ1 r1 M1 hq
  have hw1 := hM1.1.1
  have hS1 := I1.2.2.2.1
  have hn1 := hw1.n
  have hm1 := hw1.m
  refine lv_pop hx hb d_Law_668 (by rw [hzv1]; exact hcat1) ?_
  refine lv_aload_n hx hb d_Law_669 rfl (lv_at hl 2 rfl) ?_
  refine lv_aload_n hx hb d_Law_670 rfl (lv_at hl 0 rfl) ?_
  refine lv_iload_n hx hb d_Law_671 rfl (lv_at hl 3 rfl) ?_
  refine lv_iconst (v := 1) hx hb d_Law_672 (by decide) ?_
  refine lv_iadd hx hb d_Law_673 ?_
  refine va_sld hx hb hX hb2 hbA hS1 (hi 1 (by decide) (by decide)) d_Law_674 ?_
  refine lv_aload_n hx hb d_Law_675 rfl (lv_at hl 0 rfl) ?_
  refine lv_iload_n hx hb d_Law_676 rfl (lv_at hl 3 rfl) ?_
  refine lv_iconst (v := 2) hx hb d_Law_677 (by decide) ?_
  refine lv_iadd hx hb d_Law_678 ?_
  refine va_sld hx hb hX hb2 hbA hS1 (hi 2 (by decide) (by decide)) d_Law_679 ?_
  obtain ⟨Q2, hC2, hQ2⟩ := w9_residue l M1 hm1.1 hm1.2.1 (xs (i + 1).toNatClampNeg) (xs (i + 2).toNatClampNeg)
  refine lw_callV C I1 hl (q := 81) [.int (xs (i + 1).toNatClampNeg), .int (xs (i + 2).toNatClampNeg)] [] l_Law_77 hC2 rfl rfl hm1.2.2 (by decide) ⟨Nat.le_of_ble_eq_true rfl, Nat.le_of_ble_eq_true rfl⟩ (by decide) d_Law_680 hn1.1 hn1.2 ⟨Nat.le_of_ble_eq_true rfl, Nat.le_of_ble_eq_true rfl⟩ ?_
  rintro r2 M2 H2 locs2 hq - - I2
  obtain ⟨⟨v2, rfl, hcat, hzv⟩, hg, h82, hr8⟩ := hQ2 r2 M2 hq
  refine lv_pop hx hb d_Law_683 (by rw [hzv]; exact hcat) ?_
  refine lv_goto (tgt := 1510) hx hb d_Law_684 (by decide) ?_
  exact kk M2 H2 locs2 ⟨hM1.1.ref hg h82, hM1.2.ref hg hr8⟩ I2
theorem lc_15 (C : zCtx p room_1 s m #[Value.ref b] meth c (mLaw nm)) (hX : va_X b L xs s s.heap) (hbl : b < ad 0) (hb2 : b < s.heap.size) (I : zI D cI cJ ad adV M s H locs) (hl : lv_has ls 4 (zlw b ad i)) (hM : zLv M) (hi : ∀ k : Int32, 0 ≤ k.toInt → k.toInt ≤ 5 → vp_in (i + k) L) (kk : ∀ (M' : zMem) (H' : Heap) (locs' : List Loc), zLv M' → zI D cI cJ ad adV M' s H' locs' → W p l e room_1 s m #[Value.ref b] below meth c H' locs' 114 84410 (lw_Z below #[Value.ref b] s) (F0 m 1510 ls [])) : W p l e room_1 s m #[Value.ref b] below meth c H locs 114 84410 (lw_Z below #[Value.ref b] s) (F0 m 687 ls []) := by
  have hx := C.1
  have hb : c.code = code := C.2.1
  have hbA : ¬ (fun q : Nat => ad 0 ≤ q) b := Nat.not_le.mpr hbl
  have hS := I.2.2.2.1
  have h0 := hM.1.1.c0
  have hn := hM.1.1.n
  refine lv_aload_n hx hb d_Law_687 rfl (lv_at hl 1 rfl) ?_
  refine lv_aload_n hx hb d_Law_688 rfl (lv_at hl 0 rfl) ?_
  refine lv_iload_n hx hb d_Law_689 rfl (lv_at hl 3 rfl) ?_
  refine lv_iconst (v := 1) hx hb d_Law_690 (by decide) ?_
  refine lv_iadd hx hb d_Law_691 ?_
  refine va_sld hx hb hX hb2 hbA hS (hi 1 (by decide) (by decide)) d_Law_692 ?_
  refine lv_aload_n hx hb d_Law_693 rfl (lv_at hl 0 rfl) ?_
  refine lv_iload_n hx hb d_Law_694 rfl (lv_at hl 3 rfl) ?_
  refine lv_iconst (v := 2) hx hb d_Law_695 (by decide) ?_
  refine lv_iadd hx hb d_Law_696 ?_
  refine va_sld hx hb hX hb2 hbA hS (hi 2 (by decide) (by decide)) d_Law_697 ?_
  obtain ⟨Q1, hC1, hQ1⟩ := v9_block l M hM (xs (i + 1).toNatClampNeg) (xs (i + 2).toNatClampNeg)
  refine lw_callV C I hl (q := 0) [.int (xs (i + 1).toNatClampNeg), .int (xs (i + 2).toNatClampNeg)] [] l_Law_78 hC1 rfl rfl h0 (by decide) ⟨Nat.le_of_ble_eq_true rfl, Nat.le_of_ble_eq_true rfl⟩ (by decide) d_Law_698 hn.1 hn.2 ⟨Nat.le_of_ble_eq_true rfl, Nat.le_of_ble_eq_true rfl⟩ ?_
  rintro r1 M1 H1 locs1 hq - - I1
  obtain ⟨⟨v1, rfl, hcat1, hzv1⟩, hM1⟩ := hQ1 r1 M1 hq
  have hw1 := hM1.1.1
  have hS1 := I1.2.2.2.1
  have hn1 := hw1.n
  have hm1 := hw1.m
  refine lv_pop hx hb d_Law_701 (by rw [hzv1]; exact hcat1) ?_
  refine lv_aload_n hx hb d_Law_702 rfl (lv_at hl 2 rfl) ?_
  refine lv_aload_n hx hb d_Law_703 rfl (lv_at hl 0 rfl) ?_
  refine lv_iload_n hx hb d_Law_704 rfl (lv_at hl 3 rfl) ?_
  refine lv_iconst (v := 1) hx hb d_Law_705 (by decide) ?_
  refine lv_iadd hx hb d_Law_706 ?_
  refine va_sld hx hb hX hb2 hbA hS1 (hi 1 (by decide) (by decide)) d_Law_707 ?_
  refine lv_aload_n hx hb d_Law_708 rfl (lv_at hl 0 rfl) ?_
  refine lv_iload_n hx hb d_Law_709 rfl (lv_at hl 3 rfl) ?_
  refine lv_iconst (v := 2) hx hb d_Law_710 (by decide) ?_
  refine lv_iadd hx hb d_Law_711 ?_
  refine va_sld hx hb hX hb2 hbA hS1 (hi 2 (by decide) (by decide)) d_Law_712 ?_
  obtain ⟨Q2, hC2, hQ2⟩ := w9_block l M1 hm1.1 hm1.2.1 (xs (i + 1).toNatClampNeg) (xs (i + 2).toNatClampNeg)
  refine lw_callV C I1 hl (q := 81) [.int (xs (i + 1).toNatClampNeg), .int (xs (i + 2).toNatClampNeg)] [] l_Law_81 hC2 rfl rfl hm1.2.2 (by decide) ⟨Nat.le_of_ble_eq_true rfl, Nat.le_of_ble_eq_true rfl⟩ (by decide) d_Law_713 hn1.1 hn1.2 ⟨Nat.le_of_ble_eq_true rfl, Nat.le_of_ble_eq_true rfl⟩ ?_
  rintro r2 M2 H2 locs2 hq - - I2
  obtain ⟨⟨v2, rfl, hcat, hzv⟩, hg, h82, hr8⟩ := hQ2 r2 M2 hq
  refine lv_pop hx hb d_Law_716 (by rw [hzv]; exact hcat) ?_
  refine lv_goto (tgt := 1510) hx hb d_Law_717 (by decide) ?_
  exact kk M2 H2 locs2 ⟨hM1.1.ref hg h82, hM1.2.ref hg hr8⟩ I2
end LAWC
