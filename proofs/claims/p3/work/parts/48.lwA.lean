def R_law : String := "TroupeSumsLaw"
def lw_P (b : Addr) (xs : List Int32) (args : Array Value) (s : State) : Prop := args = #[.ref b] ∧ s.IntsAt b xs ∧ xs.length ≤ 3072 ∧ (Jvm.Cond.and given_1 narrow_1).before args s = true
def lw_Q (_ : Array Value) (s : State) (o : Outcome) (t : State) : Prop := o = .returned (some (.int 1)) ∧ Framed s o t [] 600000 7302250
def lw_Z (below : List Frame) (a : Array Value) (s : State) : State → Prop := fun t => ∃ o, t.status = .running ∧ Ended t below o ∧ lw_Q a s o t
/-- the law's own end, with 1 on the stack, nothing written that was there before, its room as the claim has it -/
theorem lw_ret {p : Program} {l : Launch} {e : Env} {s : State} {m : MethodId} {below : List Frame} {meth : Method} {c : Code} {b : Nat} (hx : p.tables.exec = Jvm.exec) (hb : c.code = code) (hr : meth.sig.returnType = ret) (hlocks : meth.locks = false) {pc : Nat} {H : Heap} {ls : Array Slot} (hdg : decode code pc = .ok (.ireturn, 1)) : W p l e room_1 s m #[Value.ref b] below meth c H [] 600000 7302250 (lw_Z below #[Value.ref b] s) (F0 m pc ls [.int 1]) := by
  intro T hT X
  obtain ⟨fs, hret, hrun, hended, hW, hframe⟩ := X.leave (v := some (.int 1)) (hlocks := hlocks) (fun h => by rw [hr] at h; cases h)
  have hmeth' : T.vm.method? m = some meth := X.method'
  refine ⟨T.setFrames fs, ?_, .returned (some (.int 1)), hrun, hended, rfl, ⟨_, rfl⟩, hW, hframe⟩
  jvm_step X.here [X.here.top, hx, hb, hdg, hmeth', hr, ret, narrow_b1]
  (try refine ⟨rfl, ?_⟩); (try refine ⟨rfl, ?_⟩)
  first | (intro acts; rw [hret _ acts rfl rfl rfl]) | rw [hret _ _ rfl rfl rfl]
  exact Steps.refl _
/-! the law's cases -/
abbrev zlw (b : Nat) (ad : Nat → Nat) (i : Int32) : List (Nat × Value) := [(0, .ref b), (1, .ref (ad 0)), (2, .ref (ad 81)), (3, .int i)]
theorem zLb.refk {a d : Int32} {M N : zMem} (h : zLb a d M) (hg : zGo M N (ze M 81 1)) : zLb a d N := by
  have h2 := h.ref hg
  rwa [zLb_e h, Int32.ofInt_toInt] at h2
theorem zLb.ref0 {a d : Int32} {M N : zMem} (h : zLb a d M) (hg : zGo M N 0) : zLb a 0 N := h.ref hg
theorem zLb.m {a d : Int32} {M : zMem} (h : zLb a d M) : zMt M ∧ zWd M ∧ (zsh M 81).1 = 14 := ⟨h.2.2.2.2.2.2.1, h.2.2.2.2.2.2.2.1, h.2.2.2.2.2.2.1.2.1⟩
theorem zLb.n {a d : Int32} {M : zMem} (h : zLb a d M) : zn M = 114 ∧ zw M = 84410 := ⟨h.1, h.2.1⟩
theorem zLb.f {a d : Int32} {M : zMem} (h : zLb a d M) : zf M 0 0 = some 1 ∧ zi M 1 1 = a := ⟨h.2.2.2.2.2.1, h.2.2.2.2.2.2.2.2.1⟩
theorem lw_fd {a : Int32} (h0 : 0 ≤ a.toInt) (h1 : a.toInt ≤ 700) : (a + 20 ≤ 700 ↔ a.toInt + 20 ≤ 700) ∧ a + 20 = Int32.ofInt (a.toInt + 20) := by
  have e : a + 20 = Int32.ofInt (a.toInt + 20) := by
    rw [Int32.ofInt_add, Int32.ofInt_toInt]
    rfl
  refine ⟨?_, e⟩
  rw [e, show (700 : Int32) = Int32.ofInt 700 from rfl, z32e ⟨by omega, by omega⟩ ⟨by decide, by decide⟩]
theorem lw_en {a x : Int32} : (x < 0 ↔ x.toInt < 0) ∧ (a < x ↔ a.toInt < x.toInt) := by
  refine ⟨?_, Int32.lt_iff_toInt_lt⟩
  rw [Int32.lt_iff_toInt_lt]
  exact Iff.rfl
section LAWC
variable {p : Program} {l : Launch} {e : Env} {s : State} {m : MethodId} {below : List Frame} {meth : Method} {c : Code} {D : va_G} {cI cJ : ClassId} {ad adV : Nat → Nat} {nm : String} {H : Heap} {locs : List Loc} {ls : Array Slot} {M : zMem} {b L : Nat} {xs : Nat → Int32} {a i : Int32}
theorem lc_0 (C : zCtx p room_1 s m #[Value.ref b] meth c (mLaw nm)) (hX : va_X b L xs s s.heap) (hbl : b < ad 0) (hb2 : b < s.heap.size) (I : zI D cI cJ ad adV M s H locs) (hl : lv_has ls 4 (zlw b ad i)) (hM : zLb a a M) (hi : ∀ k : Int32, 0 ≤ k.toInt → k.toInt ≤ 5 → vp_in (i + k) L) (kk : ∀ (M' : zMem) (H' : Heap) (locs' : List Loc) (a' : Int32), zLb a' a' M' → zI D cI cJ ad adV M' s H' locs' → W p l e room_1 s m #[Value.ref b] below meth c H' locs' 114 84410 (lw_Z below #[Value.ref b] s) (F0 m 1510 ls [])) : W p l e room_1 s m #[Value.ref b] below meth c H locs 114 84410 (lw_Z below #[Value.ref b] s) (F0 m 232 ls []) := by
  have hx := C.1
  have hb : c.code = code := C.2.1
  have hbA : ¬ (fun q : Nat => ad 0 ≤ q) b := Nat.not_le.mpr hbl
  have hS := I.2.2.2.1
  have h0 := hM.c0
  have hn := hM.n
  refine lv_aload_n hx hb d_Law_232 rfl (lv_at hl 1 rfl) ?_
  refine lv_aload_n hx hb d_Law_233 rfl (lv_at hl 0 rfl) ?_
  refine lv_iload_n hx hb d_Law_234 rfl (lv_at hl 3 rfl) ?_
  refine lv_iconst (v := 1) hx hb d_Law_235 (by decide) ?_
  refine lv_iadd hx hb d_Law_236 ?_
  refine va_sld hx hb hX hb2 hbA hS (hi 1 (by decide) (by decide)) d_Law_237 ?_
  refine lv_aload_n hx hb d_Law_238 rfl (lv_at hl 0 rfl) ?_
  refine lv_iload_n hx hb d_Law_239 rfl (lv_at hl 3 rfl) ?_
  refine lv_iconst (v := 2) hx hb d_Law_240 (by decide) ?_
  refine lv_iadd hx hb d_Law_241 ?_
  refine va_sld hx hb hX hb2 hbA hS (hi 2 (by decide) (by decide)) d_Law_242 ?_
  refine lv_aload_n hx hb d_Law_243 rfl (lv_at hl 0 rfl) ?_
  refine lv_iload_n hx hb d_Law_244 rfl (lv_at hl 3 rfl) ?_
  refine lv_iconst (v := 3) hx hb d_Law_245 (by decide) ?_
  refine lv_iadd hx hb d_Law_246 ?_
  refine va_sld hx hb hX hb2 hbA hS (hi 3 (by decide) (by decide)) d_Law_247 ?_
  refine lv_aload_n hx hb d_Law_248 rfl (lv_at hl 0 rfl) ?_
  refine lv_iload_n hx hb d_Law_249 rfl (lv_at hl 3 rfl) ?_
  refine lv_iconst (v := 4) hx hb d_Law_250 (by decide) ?_
  refine lv_iadd hx hb d_Law_251 ?_
  refine va_sld hx hb hX hb2 hbA hS (hi 4 (by decide) (by decide)) d_Law_252 ?_
  refine lv_aload_n hx hb d_Law_253 rfl (lv_at hl 0 rfl) ?_
  refine lv_iload_n hx hb d_Law_254 rfl (lv_at hl 3 rfl) ?_
  refine lv_iconst (v := 5) hx hb d_Law_255 (by decide) ?_
  refine lv_iadd hx hb d_Law_256 ?_
  refine va_sld hx hb hX hb2 hbA hS (hi 5 (by decide) (by decide)) d_Law_257 ?_
  refine lw_callV C I hl (q := 0) [.int (xs (i + 1).toNatClampNeg), .int (xs (i + 2).toNatClampNeg), .int (xs (i + 3).toNatClampNeg), .int (xs (i + 4).toNatClampNeg), .int (xs (i + 5).toNatClampNeg)] [] l_Law_13 (c_T_feed l 81 M h0.1 0 h0.2.1 h0.2.2 (xs (i + 1).toNatClampNeg) (xs (i + 2).toNatClampNeg) (xs (i + 3).toNatClampNeg) (xs (i + 4).toNatClampNeg) (xs (i + 5).toNatClampNeg)) rfl rfl h0.2.2 (by decide) ⟨Nat.le_of_ble_eq_true rfl, Nat.le_of_ble_eq_true rfl⟩ (by decide) d_Law_258 hn.1 hn.2 ⟨Nat.le_of_ble_eq_true rfl, Nat.le_of_ble_eq_true rfl⟩ ?_
  rintro r1 M1 H1 locs1 hq - - I1
  obtain ⟨⟨hm, v1, rfl⟩, hq2⟩ := hq
  obtain ⟨q1, q2⟩ := hq2 1 hM.f.1
  rw [hM.f.2] at q1 q2
  have hM1 := hM.mod hm
  have hS1 := I1.2.2.2.1
  have hn1 := hM1.n
  have hw1 := hM1.m
  refine lv_pop hx hb d_Law_261 rfl ?_
  refine lv_aload_n hx hb d_Law_262 rfl (lv_at hl 2 rfl) ?_
  refine lv_aload_n hx hb d_Law_263 rfl (lv_at hl 0 rfl) ?_
  refine lv_iload_n hx hb d_Law_264 rfl (lv_at hl 3 rfl) ?_
  refine lv_iconst (v := 1) hx hb d_Law_265 (by decide) ?_
  refine lv_iadd hx hb d_Law_266 ?_
  refine va_sld hx hb hX hb2 hbA hS1 (hi 1 (by decide) (by decide)) d_Law_267 ?_
  refine lv_aload_n hx hb d_Law_268 rfl (lv_at hl 0 rfl) ?_
  refine lv_iload_n hx hb d_Law_269 rfl (lv_at hl 3 rfl) ?_
  refine lv_iconst (v := 2) hx hb d_Law_270 (by decide) ?_
  refine lv_iadd hx hb d_Law_271 ?_
  refine va_sld hx hb hX hb2 hbA hS1 (hi 2 (by decide) (by decide)) d_Law_272 ?_
  refine lv_aload_n hx hb d_Law_273 rfl (lv_at hl 0 rfl) ?_
  refine lv_iload_n hx hb d_Law_274 rfl (lv_at hl 3 rfl) ?_
  refine lv_iconst (v := 3) hx hb d_Law_275 (by decide) ?_
  refine lv_iadd hx hb d_Law_276 ?_
  refine va_sld hx hb hX hb2 hbA hS1 (hi 3 (by decide) (by decide)) d_Law_277 ?_
  refine lv_aload_n hx hb d_Law_278 rfl (lv_at hl 0 rfl) ?_
  refine lv_iload_n hx hb d_Law_279 rfl (lv_at hl 3 rfl) ?_
  refine lv_iconst (v := 4) hx hb d_Law_280 (by decide) ?_
  refine lv_iadd hx hb d_Law_281 ?_
  refine va_sld hx hb hX hb2 hbA hS1 (hi 4 (by decide) (by decide)) d_Law_282 ?_
  refine lv_aload_n hx hb d_Law_283 rfl (lv_at hl 0 rfl) ?_
  refine lv_iload_n hx hb d_Law_284 rfl (lv_at hl 3 rfl) ?_
  refine lv_iconst (v := 5) hx hb d_Law_285 (by decide) ?_
  refine lv_iadd hx hb d_Law_286 ?_
  refine va_sld hx hb hX hb2 hbA hS1 (hi 5 (by decide) (by decide)) d_Law_287 ?_
  obtain ⟨Q2, hC2, hQ2⟩ := w_feed l M1 hw1.1 hw1.2.1 (xs (i + 1).toNatClampNeg) (xs (i + 2).toNatClampNeg) (xs (i + 3).toNatClampNeg) (xs (i + 4).toNatClampNeg) (xs (i + 5).toNatClampNeg)
  refine lw_callV C I1 hl (q := 81) [.int (xs (i + 1).toNatClampNeg), .int (xs (i + 2).toNatClampNeg), .int (xs (i + 3).toNatClampNeg), .int (xs (i + 4).toNatClampNeg), .int (xs (i + 5).toNatClampNeg)] [] l_Law_17 hC2 rfl rfl hw1.2.2 (by decide) ⟨Nat.le_of_ble_eq_true rfl, Nat.le_of_ble_eq_true rfl⟩ (by decide) d_Law_288 hn1.1 hn1.2 ⟨Nat.le_of_ble_eq_true rfl, Nat.le_of_ble_eq_true rfl⟩ ?_
  rintro r2 M2 H2 locs2 hq - - I2
  obtain ⟨v2, rfl, hv⟩ := hQ2 r2 M2 hq
  refine lv_pop hx hb d_Law_291 rfl ?_
  refine lv_goto (tgt := 1510) hx hb d_Law_292 (by decide) ?_
  have e1 := zLb_e hM1
  have hr1 := hM1.m.2.1.1
  have e2 := lw_fd (a := a) (by omega) (by omega)
  rcases hv with ⟨h3, -, hg⟩ | ⟨h3, -, hg⟩
  · obtain ⟨q3, q4⟩ := q1 (by rw [e2.1]; omega)
    rw [q4] at hM1
    exact kk M2 H2 locs2 _ (hM1.refk hg) I2
  · obtain ⟨q3, q4⟩ := q2 (by rw [e2.1]; omega)
    rw [q4] at hM1
    have hM2 := hM1.ref hg
    rw [e1, ← e2.2] at hM2
    exact kk M2 H2 locs2 _ hM2 I2
theorem lc_1 (C : zCtx p room_1 s m #[Value.ref b] meth c (mLaw nm)) (hX : va_X b L xs s s.heap) (hbl : b < ad 0) (hb2 : b < s.heap.size) (I : zI D cI cJ ad adV M s H locs) (hl : lv_has ls 4 (zlw b ad i)) (hM : zLb a a M) (hi : ∀ k : Int32, 0 ≤ k.toInt → k.toInt ≤ 5 → vp_in (i + k) L) (kk : ∀ (M' : zMem) (H' : Heap) (locs' : List Loc) (a' : Int32), zLb a' a' M' → zI D cI cJ ad adV M' s H' locs' → W p l e room_1 s m #[Value.ref b] below meth c H' locs' 114 84410 (lw_Z below #[Value.ref b] s) (F0 m 1510 ls [])) : W p l e room_1 s m #[Value.ref b] below meth c H locs 114 84410 (lw_Z below #[Value.ref b] s) (F0 m 295 ls []) := by
  have hx := C.1
  have hb : c.code = code := C.2.1
  have hbA : ¬ (fun q : Nat => ad 0 ≤ q) b := Nat.not_le.mpr hbl
  have hS := I.2.2.2.1
  have h0 := hM.c0
  have hn := hM.n
  refine lv_aload_n hx hb d_Law_295 rfl (lv_at hl 1 rfl) ?_
  refine lv_aload_n hx hb d_Law_296 rfl (lv_at hl 0 rfl) ?_
  refine lv_iload_n hx hb d_Law_297 rfl (lv_at hl 3 rfl) ?_
  refine lv_iconst (v := 1) hx hb d_Law_298 (by decide) ?_
  refine lv_iadd hx hb d_Law_299 ?_
  refine va_sld hx hb hX hb2 hbA hS (hi 1 (by decide) (by decide)) d_Law_300 ?_
  refine lw_callV C I hl (q := 0) [.int (xs (i + 1).toNatClampNeg)] [] l_Law_18 (c_T_end l 81 M h0.1 0 h0.2.1 h0.2.2 (xs (i + 1).toNatClampNeg)) rfl rfl h0.2.2 (by decide) ⟨Nat.le_of_ble_eq_true rfl, Nat.le_of_ble_eq_true rfl⟩ (by decide) d_Law_301 hn.1 hn.2 ⟨Nat.le_of_ble_eq_true rfl, Nat.le_of_ble_eq_true rfl⟩ ?_
  rintro r1 M1 H1 locs1 hq - - I1
  obtain ⟨⟨hm, v1, rfl⟩, hq2⟩ := hq
  obtain ⟨q1, q2⟩ := hq2 1 hM.f.1
  rw [hM.f.2] at q1 q2
  have hM1 := hM.mod hm
  have hS1 := I1.2.2.2.1
  have hn1 := hM1.n
  have hw1 := hM1.m
  refine lv_aload_n hx hb d_Law_304 rfl (lv_at hl 2 rfl) ?_
  refine lv_aload_n hx hb d_Law_305 rfl (lv_at hl 0 rfl) ?_
  refine lv_iload_n hx hb d_Law_306 rfl (lv_at hl 3 rfl) ?_
  refine lv_iconst (v := 1) hx hb d_Law_307 (by decide) ?_
  refine lv_iadd hx hb d_Law_308 ?_
  refine va_sld hx hb hX hb2 hbA hS1 (hi 1 (by decide) (by decide)) d_Law_309 ?_
  obtain ⟨Q2, hC2, hQ2⟩ := w_end l M1 hw1.1 hw1.2.1 (xs (i + 1).toNatClampNeg)
  refine lw_callV C I1 hl (q := 81) [.int (xs (i + 1).toNatClampNeg)] [.int v1] l_Law_22 hC2 rfl rfl hw1.2.2 (by decide) ⟨Nat.le_of_ble_eq_true rfl, Nat.le_of_ble_eq_true rfl⟩ (Nat.le_of_ble_eq_true rfl) d_Law_310 hn1.1 hn1.2 ⟨Nat.le_of_ble_eq_true rfl, Nat.le_of_ble_eq_true rfl⟩ ?_
  rintro r2 M2 H2 locs2 hq - - I2
  obtain ⟨v2, rfl, hv⟩ := hQ2 r2 M2 hq
  have e1 := zLb_e hM1
  have e2 := lw_en (a := a) (x := xs (i + 1).toNatClampNeg)
  rcases hv with ⟨h3, rfl, hg⟩ | ⟨h3, h4, rfl, hg⟩
  · obtain ⟨q3, q4⟩ := q1 (by rw [e2.1, e2.2]; omega)
    cases q3
    rw [q4] at hM1
    exact lv_icmp_eq (tgt := 1510) hx hb d_Law_313 (by decide) (fun _ => kk M2 H2 locs2 _ (hM1.refk hg) I2) (fun hne => absurd (by decide) hne)
  · obtain ⟨q3, q4⟩ := q2 (by rw [e2.1, e2.2]; omega)
    cases q3
    have hM2 := hM1.ref hg
    rw [q4, Int32.ofInt_toInt] at hM2
    exact lv_icmp_eq (tgt := 1510) hx hb d_Law_313 (by decide) (fun _ => kk M2 H2 locs2 _ hM2 I2) (fun hne => absurd rfl hne)
theorem lc_2 (C : zCtx p room_1 s m #[Value.ref b] meth c (mLaw nm)) (hX : va_X b L xs s s.heap) (hbl : b < ad 0) (hb2 : b < s.heap.size) (I : zI D cI cJ ad adV M s H locs) (hl : lv_has ls 4 (zlw b ad i)) (hM : zLb a a M) (hi : ∀ k : Int32, 0 ≤ k.toInt → k.toInt ≤ 5 → vp_in (i + k) L) (kk : ∀ (M' : zMem) (H' : Heap) (locs' : List Loc) (a' : Int32), zLb a' a' M' → zI D cI cJ ad adV M' s H' locs' → W p l e room_1 s m #[Value.ref b] below meth c H' locs' 114 84410 (lw_Z below #[Value.ref b] s) (F0 m 1510 ls [])) : W p l e room_1 s m #[Value.ref b] below meth c H locs 114 84410 (lw_Z below #[Value.ref b] s) (F0 m 318 ls []) := by
  have hx := C.1
  have hb : c.code = code := C.2.1
  have hbA : ¬ (fun q : Nat => ad 0 ≤ q) b := Nat.not_le.mpr hbl
  have hS := I.2.2.2.1
  have h0 := hM.c0
  have hn := hM.n
  refine lv_aload_n hx hb d_Law_318 rfl (lv_at hl 1 rfl) ?_
  refine lw_callV C I hl (q := 0) [] [] l_Law_23 (c_T_troupe l 81 M h0.1 0 h0.2.1 h0.2.2 ) rfl rfl h0.2.2 (by decide) ⟨Nat.le_of_ble_eq_true rfl, Nat.le_of_ble_eq_true rfl⟩ (by decide) d_Law_319 hn.1 hn.2 ⟨Nat.le_of_ble_eq_true rfl, Nat.le_of_ble_eq_true rfl⟩ ?_
  rintro r1 M1 H1 locs1 hq - - I1
  obtain ⟨⟨v1, rfl⟩, hM1⟩ := hM.zT hq
  have hS1 := I1.2.2.2.1
  have hn1 := hM1.n
  have hw1 := hM1.m
  refine lv_pop hx hb d_Law_322 rfl ?_
  refine lv_aload_n hx hb d_Law_323 rfl (lv_at hl 2 rfl) ?_
  obtain ⟨Q2, hC2, hQ2⟩ := w_troupe l M1 hw1.1 hw1.2.1 
  refine lw_callV C I1 hl (q := 81) [] [] l_Law_27 hC2 rfl rfl hw1.2.2 (by decide) ⟨Nat.le_of_ble_eq_true rfl, Nat.le_of_ble_eq_true rfl⟩ (by decide) d_Law_324 hn1.1 hn1.2 ⟨Nat.le_of_ble_eq_true rfl, Nat.le_of_ble_eq_true rfl⟩ ?_
  rintro r2 M2 H2 locs2 hq - - I2
  obtain ⟨⟨v2, rfl, hcat, hzv⟩, hg⟩ := hQ2 r2 M2 hq
  refine lv_pop hx hb d_Law_327 (by rw [hzv]; exact hcat) ?_
  refine lv_goto (tgt := 1510) hx hb d_Law_328 (by decide) ?_
  exact kk M2 H2 locs2 _ (hM1.ref0 hg) I2
theorem lc_3 (C : zCtx p room_1 s m #[Value.ref b] meth c (mLaw nm)) (hX : va_X b L xs s s.heap) (hbl : b < ad 0) (hb2 : b < s.heap.size) (I : zI D cI cJ ad adV M s H locs) (hl : lv_has ls 4 (zlw b ad i)) (hM : zLb a a M) (hi : ∀ k : Int32, 0 ≤ k.toInt → k.toInt ≤ 5 → vp_in (i + k) L) (kk : ∀ (M' : zMem) (H' : Heap) (locs' : List Loc) (a' : Int32), zLb a' a' M' → zI D cI cJ ad adV M' s H' locs' → W p l e room_1 s m #[Value.ref b] below meth c H' locs' 114 84410 (lw_Z below #[Value.ref b] s) (F0 m 1510 ls [])) : W p l e room_1 s m #[Value.ref b] below meth c H locs 114 84410 (lw_Z below #[Value.ref b] s) (F0 m 331 ls []) := by
  have hx := C.1
  have hb : c.code = code := C.2.1
  have hbA : ¬ (fun q : Nat => ad 0 ≤ q) b := Nat.not_le.mpr hbl
  have hS := I.2.2.2.1
  have h0 := hM.c0
  have hn := hM.n
  refine lv_aload_n hx hb d_Law_331 rfl (lv_at hl 1 rfl) ?_
  refine lv_aload_n hx hb d_Law_332 rfl (lv_at hl 0 rfl) ?_
  refine lv_iload_n hx hb d_Law_333 rfl (lv_at hl 3 rfl) ?_
  refine lv_iconst (v := 1) hx hb d_Law_334 (by decide) ?_
  refine lv_iadd hx hb d_Law_335 ?_
  refine va_sld hx hb hX hb2 hbA hS (hi 1 (by decide) (by decide)) d_Law_336 ?_
  refine lw_callV C I hl (q := 0) [.int (xs (i + 1).toNatClampNeg)] [] l_Law_28 (c_T_fault l 81 M h0.1 0 h0.2.1 h0.2.2 (xs (i + 1).toNatClampNeg)) rfl rfl h0.2.2 (by decide) ⟨Nat.le_of_ble_eq_true rfl, Nat.le_of_ble_eq_true rfl⟩ (by decide) d_Law_337 hn.1 hn.2 ⟨Nat.le_of_ble_eq_true rfl, Nat.le_of_ble_eq_true rfl⟩ ?_
  rintro r1 M1 H1 locs1 hq - - I1
  obtain ⟨hm, v1, rfl⟩ := hq
  have hM1 := hM.cls hm (by decide)
  have hS1 := I1.2.2.2.1
  have hn1 := hM1.n
  have hw1 := hM1.m
  refine lv_pop hx hb d_Law_340 rfl ?_
  refine lv_aload_n hx hb d_Law_341 rfl (lv_at hl 2 rfl) ?_
  refine lv_aload_n hx hb d_Law_342 rfl (lv_at hl 0 rfl) ?_
  refine lv_iload_n hx hb d_Law_343 rfl (lv_at hl 3 rfl) ?_
  refine lv_iconst (v := 1) hx hb d_Law_344 (by decide) ?_
  refine lv_iadd hx hb d_Law_345 ?_
  refine va_sld hx hb hX hb2 hbA hS1 (hi 1 (by decide) (by decide)) d_Law_346 ?_
  obtain ⟨Q2, hC2, hQ2⟩ := w_fault l M1 hw1.1 hw1.2.1 (xs (i + 1).toNatClampNeg)
  refine lw_callV C I1 hl (q := 81) [.int (xs (i + 1).toNatClampNeg)] [] l_Law_31 hC2 rfl rfl hw1.2.2 (by decide) ⟨Nat.le_of_ble_eq_true rfl, Nat.le_of_ble_eq_true rfl⟩ (by decide) d_Law_347 hn1.1 hn1.2 ⟨Nat.le_of_ble_eq_true rfl, Nat.le_of_ble_eq_true rfl⟩ ?_
  rintro r2 M2 H2 locs2 hq - - I2
  obtain ⟨⟨v2, rfl, hcat, hzv⟩, hg⟩ := hQ2 r2 M2 hq
  refine lv_pop hx hb d_Law_350 (by rw [hzv]; exact hcat) ?_
  refine lv_goto (tgt := 1510) hx hb d_Law_351 (by decide) ?_
  exact kk M2 H2 locs2 _ (hM1.refk hg) I2
theorem lc_4 (C : zCtx p room_1 s m #[Value.ref b] meth c (mLaw nm)) (hX : va_X b L xs s s.heap) (hbl : b < ad 0) (hb2 : b < s.heap.size) (I : zI D cI cJ ad adV M s H locs) (hl : lv_has ls 4 (zlw b ad i)) (hM : zLb a a M) (hi : ∀ k : Int32, 0 ≤ k.toInt → k.toInt ≤ 5 → vp_in (i + k) L) (kk : ∀ (M' : zMem) (H' : Heap) (locs' : List Loc) (a' : Int32), zLb a' a' M' → zI D cI cJ ad adV M' s H' locs' → W p l e room_1 s m #[Value.ref b] below meth c H' locs' 114 84410 (lw_Z below #[Value.ref b] s) (F0 m 1510 ls [])) : W p l e room_1 s m #[Value.ref b] below meth c H locs 114 84410 (lw_Z below #[Value.ref b] s) (F0 m 354 ls []) := by
  have hx := C.1
  have hb : c.code = code := C.2.1
  have hbA : ¬ (fun q : Nat => ad 0 ≤ q) b := Nat.not_le.mpr hbl
  have hS := I.2.2.2.1
  have h0 := hM.c0
  have hn := hM.n
  refine lv_aload_n hx hb d_Law_354 rfl (lv_at hl 1 rfl) ?_
  refine lv_aload_n hx hb d_Law_355 rfl (lv_at hl 0 rfl) ?_
  refine lv_iload_n hx hb d_Law_356 rfl (lv_at hl 3 rfl) ?_
  refine lv_iconst (v := 1) hx hb d_Law_357 (by decide) ?_
  refine lv_iadd hx hb d_Law_358 ?_
  refine va_sld hx hb hX hb2 hbA hS (hi 1 (by decide) (by decide)) d_Law_359 ?_
  refine lw_callV C I hl (q := 0) [.int (xs (i + 1).toNatClampNeg)] [] l_Law_32 (c_T_about l 81 M h0.1 0 h0.2.1 h0.2.2 (xs (i + 1).toNatClampNeg)) rfl rfl h0.2.2 (by decide) ⟨Nat.le_of_ble_eq_true rfl, Nat.le_of_ble_eq_true rfl⟩ (by decide) d_Law_360 hn.1 hn.2 ⟨Nat.le_of_ble_eq_true rfl, Nat.le_of_ble_eq_true rfl⟩ ?_
  rintro r1 M1 H1 locs1 hq - - I1
  obtain ⟨hm, v1, rfl⟩ := hq
  have hM1 := hM.cls hm (by decide)
  have hS1 := I1.2.2.2.1
  have hn1 := hM1.n
  have hw1 := hM1.m
  refine lv_pop hx hb d_Law_363 rfl ?_
  refine lv_aload_n hx hb d_Law_364 rfl (lv_at hl 2 rfl) ?_
  refine lv_aload_n hx hb d_Law_365 rfl (lv_at hl 0 rfl) ?_
  refine lv_iload_n hx hb d_Law_366 rfl (lv_at hl 3 rfl) ?_
  refine lv_iconst (v := 1) hx hb d_Law_367 (by decide) ?_
  refine lv_iadd hx hb d_Law_368 ?_
  refine va_sld hx hb hX hb2 hbA hS1 (hi 1 (by decide) (by decide)) d_Law_369 ?_
  obtain ⟨Q2, hC2, hQ2⟩ := w_about l M1 hw1.1 hw1.2.1 (xs (i + 1).toNatClampNeg)
  refine lw_callV C I1 hl (q := 81) [.int (xs (i + 1).toNatClampNeg)] [] l_Law_35 hC2 rfl rfl hw1.2.2 (by decide) ⟨Nat.le_of_ble_eq_true rfl, Nat.le_of_ble_eq_true rfl⟩ (by decide) d_Law_370 hn1.1 hn1.2 ⟨Nat.le_of_ble_eq_true rfl, Nat.le_of_ble_eq_true rfl⟩ ?_
  rintro r2 M2 H2 locs2 hq - - I2
  obtain ⟨⟨v2, rfl, hcat, hzv⟩, hg⟩ := hQ2 r2 M2 hq
  refine lv_pop hx hb d_Law_373 (by rw [hzv]; exact hcat) ?_
  refine lv_goto (tgt := 1510) hx hb d_Law_374 (by decide) ?_
  exact kk M2 H2 locs2 _ (hM1.refk hg) I2
theorem lc_5 (C : zCtx p room_1 s m #[Value.ref b] meth c (mLaw nm)) (hX : va_X b L xs s s.heap) (hbl : b < ad 0) (hb2 : b < s.heap.size) (I : zI D cI cJ ad adV M s H locs) (hl : lv_has ls 4 (zlw b ad i)) (hM : zLb a a M) (hi : ∀ k : Int32, 0 ≤ k.toInt → k.toInt ≤ 5 → vp_in (i + k) L) (kk : ∀ (M' : zMem) (H' : Heap) (locs' : List Loc) (a' : Int32), zLb a' a' M' → zI D cI cJ ad adV M' s H' locs' → W p l e room_1 s m #[Value.ref b] below meth c H' locs' 114 84410 (lw_Z below #[Value.ref b] s) (F0 m 1510 ls [])) : W p l e room_1 s m #[Value.ref b] below meth c H locs 114 84410 (lw_Z below #[Value.ref b] s) (F0 m 377 ls []) := by
  have hx := C.1
  have hb : c.code = code := C.2.1
  have hbA : ¬ (fun q : Nat => ad 0 ≤ q) b := Nat.not_le.mpr hbl
  have hS := I.2.2.2.1
  have h0 := hM.c0
  have hn := hM.n
  refine lv_aload_n hx hb d_Law_377 rfl (lv_at hl 1 rfl) ?_
  refine lv_aload_n hx hb d_Law_378 rfl (lv_at hl 0 rfl) ?_
  refine lv_iload_n hx hb d_Law_379 rfl (lv_at hl 3 rfl) ?_
  refine lv_iconst (v := 1) hx hb d_Law_380 (by decide) ?_
  refine lv_iadd hx hb d_Law_381 ?_
  refine va_sld hx hb hX hb2 hbA hS (hi 1 (by decide) (by decide)) d_Law_382 ?_
  refine lv_aload_n hx hb d_Law_383 rfl (lv_at hl 0 rfl) ?_
  refine lv_iload_n hx hb d_Law_384 rfl (lv_at hl 3 rfl) ?_
  refine lv_iconst (v := 2) hx hb d_Law_385 (by decide) ?_
  refine lv_iadd hx hb d_Law_386 ?_
  refine va_sld hx hb hX hb2 hbA hS (hi 2 (by decide) (by decide)) d_Law_387 ?_
  refine lw_callV C I hl (q := 0) [.int (xs (i + 1).toNatClampNeg), .int (xs (i + 2).toNatClampNeg)] [] l_Law_36 (c_T_moves l 81 M h0.1 0 h0.2.1 h0.2.2 (xs (i + 1).toNatClampNeg) (xs (i + 2).toNatClampNeg)) rfl rfl h0.2.2 (by decide) ⟨Nat.le_of_ble_eq_true rfl, Nat.le_of_ble_eq_true rfl⟩ (by decide) d_Law_388 hn.1 hn.2 ⟨Nat.le_of_ble_eq_true rfl, Nat.le_of_ble_eq_true rfl⟩ ?_
  rintro r1 M1 H1 locs1 hq - - I1
  obtain ⟨hm, v1, rfl⟩ := hq
  have hM1 := hM.cls hm (by decide)
  have hS1 := I1.2.2.2.1
  have hn1 := hM1.n
  have hw1 := hM1.m
  refine lv_pop hx hb d_Law_391 rfl ?_
  refine lv_aload_n hx hb d_Law_392 rfl (lv_at hl 2 rfl) ?_
  refine lv_aload_n hx hb d_Law_393 rfl (lv_at hl 0 rfl) ?_
  refine lv_iload_n hx hb d_Law_394 rfl (lv_at hl 3 rfl) ?_
  refine lv_iconst (v := 1) hx hb d_Law_395 (by decide) ?_
  refine lv_iadd hx hb d_Law_396 ?_
  refine va_sld hx hb hX hb2 hbA hS1 (hi 1 (by decide) (by decide)) d_Law_397 ?_
  refine lv_aload_n hx hb d_Law_398 rfl (lv_at hl 0 rfl) ?_
  refine lv_iload_n hx hb d_Law_399 rfl (lv_at hl 3 rfl) ?_
  refine lv_iconst (v := 2) hx hb d_Law_400 (by decide) ?_
  refine lv_iadd hx hb d_Law_401 ?_
  refine va_sld hx hb hX hb2 hbA hS1 (hi 2 (by decide) (by decide)) d_Law_402 ?_
  obtain ⟨Q2, hC2, hQ2⟩ := w_moves l M1 hw1.1 hw1.2.1 (xs (i + 1).toNatClampNeg) (xs (i + 2).toNatClampNeg)
  refine lw_callV C I1 hl (q := 81) [.int (xs (i + 1).toNatClampNeg), .int (xs (i + 2).toNatClampNeg)] [] l_Law_40 hC2 rfl rfl hw1.2.2 (by decide) ⟨Nat.le_of_ble_eq_true rfl, Nat.le_of_ble_eq_true rfl⟩ (by decide) d_Law_403 hn1.1 hn1.2 ⟨Nat.le_of_ble_eq_true rfl, Nat.le_of_ble_eq_true rfl⟩ ?_
  rintro r2 M2 H2 locs2 hq - - I2
  obtain ⟨⟨v2, rfl, hcat, hzv⟩, hg⟩ := hQ2 r2 M2 hq
  refine lv_pop hx hb d_Law_406 (by rw [hzv]; exact hcat) ?_
  refine lv_goto (tgt := 1510) hx hb d_Law_407 (by decide) ?_
  exact kk M2 H2 locs2 _ (hM1.refk hg) I2
theorem lc_6 (C : zCtx p room_1 s m #[Value.ref b] meth c (mLaw nm)) (hX : va_X b L xs s s.heap) (hbl : b < ad 0) (hb2 : b < s.heap.size) (I : zI D cI cJ ad adV M s H locs) (hl : lv_has ls 4 (zlw b ad i)) (hM : zLb a a M) (hi : ∀ k : Int32, 0 ≤ k.toInt → k.toInt ≤ 5 → vp_in (i + k) L) (kk : ∀ (M' : zMem) (H' : Heap) (locs' : List Loc) (a' : Int32), zLb a' a' M' → zI D cI cJ ad adV M' s H' locs' → W p l e room_1 s m #[Value.ref b] below meth c H' locs' 114 84410 (lw_Z below #[Value.ref b] s) (F0 m 1510 ls [])) : W p l e room_1 s m #[Value.ref b] below meth c H locs 114 84410 (lw_Z below #[Value.ref b] s) (F0 m 410 ls []) := by
  have hx := C.1
  have hb : c.code = code := C.2.1
  have hbA : ¬ (fun q : Nat => ad 0 ≤ q) b := Nat.not_le.mpr hbl
  have hS := I.2.2.2.1
  have h0 := hM.c0
  have hn := hM.n
  refine lv_aload_n hx hb d_Law_410 rfl (lv_at hl 1 rfl) ?_
  refine lv_aload_n hx hb d_Law_411 rfl (lv_at hl 0 rfl) ?_
  refine lv_iload_n hx hb d_Law_412 rfl (lv_at hl 3 rfl) ?_
  refine lv_iconst (v := 1) hx hb d_Law_413 (by decide) ?_
  refine lv_iadd hx hb d_Law_414 ?_
  refine va_sld hx hb hX hb2 hbA hS (hi 1 (by decide) (by decide)) d_Law_415 ?_
  refine lv_aload_n hx hb d_Law_416 rfl (lv_at hl 0 rfl) ?_
  refine lv_iload_n hx hb d_Law_417 rfl (lv_at hl 3 rfl) ?_
  refine lv_iconst (v := 2) hx hb d_Law_418 (by decide) ?_
  refine lv_iadd hx hb d_Law_419 ?_
  refine va_sld hx hb hX hb2 hbA hS (hi 2 (by decide) (by decide)) d_Law_420 ?_
  refine lw_callV C I hl (q := 0) [.int (xs (i + 1).toNatClampNeg), .int (xs (i + 2).toNatClampNeg)] [] l_Law_41 (c_T_times l 81 M h0.1 0 h0.2.1 h0.2.2 (xs (i + 1).toNatClampNeg) (xs (i + 2).toNatClampNeg)) rfl rfl h0.2.2 (by decide) ⟨Nat.le_of_ble_eq_true rfl, Nat.le_of_ble_eq_true rfl⟩ (by decide) d_Law_421 hn.1 hn.2 ⟨Nat.le_of_ble_eq_true rfl, Nat.le_of_ble_eq_true rfl⟩ ?_
  rintro r1 M1 H1 locs1 hq - - I1
  obtain ⟨hm, v1, rfl⟩ := hq
  have hM1 := hM.cls hm (by decide)
  have hS1 := I1.2.2.2.1
  have hn1 := hM1.n
  have hw1 := hM1.m
  refine lv_pop hx hb d_Law_424 rfl ?_
  refine lv_aload_n hx hb d_Law_425 rfl (lv_at hl 2 rfl) ?_
  refine lv_aload_n hx hb d_Law_426 rfl (lv_at hl 0 rfl) ?_
  refine lv_iload_n hx hb d_Law_427 rfl (lv_at hl 3 rfl) ?_
  refine lv_iconst (v := 1) hx hb d_Law_428 (by decide) ?_
  refine lv_iadd hx hb d_Law_429 ?_
  refine va_sld hx hb hX hb2 hbA hS1 (hi 1 (by decide) (by decide)) d_Law_430 ?_
  refine lv_aload_n hx hb d_Law_431 rfl (lv_at hl 0 rfl) ?_
  refine lv_iload_n hx hb d_Law_432 rfl (lv_at hl 3 rfl) ?_
  refine lv_iconst (v := 2) hx hb d_Law_433 (by decide) ?_
  refine lv_iadd hx hb d_Law_434 ?_
  refine va_sld hx hb hX hb2 hbA hS1 (hi 2 (by decide) (by decide)) d_Law_435 ?_
  obtain ⟨Q2, hC2, hQ2⟩ := w_times l M1 hw1.1 hw1.2.1 (xs (i + 1).toNatClampNeg) (xs (i + 2).toNatClampNeg)
  refine lw_callV C I1 hl (q := 81) [.int (xs (i + 1).toNatClampNeg), .int (xs (i + 2).toNatClampNeg)] [] l_Law_44 hC2 rfl rfl hw1.2.2 (by decide) ⟨Nat.le_of_ble_eq_true rfl, Nat.le_of_ble_eq_true rfl⟩ (by decide) d_Law_436 hn1.1 hn1.2 ⟨Nat.le_of_ble_eq_true rfl, Nat.le_of_ble_eq_true rfl⟩ ?_
  rintro r2 M2 H2 locs2 hq - - I2
  obtain ⟨⟨v2, rfl, hcat, hzv⟩, hg⟩ := hQ2 r2 M2 hq
  refine lv_pop hx hb d_Law_439 (by rw [hzv]; exact hcat) ?_
  refine lv_goto (tgt := 1510) hx hb d_Law_440 (by decide) ?_
  exact kk M2 H2 locs2 _ (hM1.refk hg) I2
theorem lc_7 (C : zCtx p room_1 s m #[Value.ref b] meth c (mLaw nm)) (hX : va_X b L xs s s.heap) (hbl : b < ad 0) (hb2 : b < s.heap.size) (I : zI D cI cJ ad adV M s H locs) (hl : lv_has ls 4 (zlw b ad i)) (hM : zLb a a M) (hi : ∀ k : Int32, 0 ≤ k.toInt → k.toInt ≤ 5 → vp_in (i + k) L) (kk : ∀ (M' : zMem) (H' : Heap) (locs' : List Loc) (a' : Int32), zLb a' a' M' → zI D cI cJ ad adV M' s H' locs' → W p l e room_1 s m #[Value.ref b] below meth c H' locs' 114 84410 (lw_Z below #[Value.ref b] s) (F0 m 1510 ls [])) : W p l e room_1 s m #[Value.ref b] below meth c H locs 114 84410 (lw_Z below #[Value.ref b] s) (F0 m 443 ls []) := by
  have hx := C.1
  have hb : c.code = code := C.2.1
  have hbA : ¬ (fun q : Nat => ad 0 ≤ q) b := Nat.not_le.mpr hbl
  have hS := I.2.2.2.1
  have h0 := hM.c0
  have hn := hM.n
  refine lv_aload_n hx hb d_Law_443 rfl (lv_at hl 1 rfl) ?_
  refine lv_aload_n hx hb d_Law_444 rfl (lv_at hl 0 rfl) ?_
  refine lv_iload_n hx hb d_Law_445 rfl (lv_at hl 3 rfl) ?_
  refine lv_iconst (v := 1) hx hb d_Law_446 (by decide) ?_
  refine lv_iadd hx hb d_Law_447 ?_
  refine va_sld hx hb hX hb2 hbA hS (hi 1 (by decide) (by decide)) d_Law_448 ?_
  refine lw_callV C I hl (q := 0) [.int (xs (i + 1).toNatClampNeg)] [] l_Law_45 (c_T_order l 81 M h0.1 0 h0.2.1 h0.2.2 (xs (i + 1).toNatClampNeg)) rfl rfl h0.2.2 (by decide) ⟨Nat.le_of_ble_eq_true rfl, Nat.le_of_ble_eq_true rfl⟩ (by decide) d_Law_449 hn.1 hn.2 ⟨Nat.le_of_ble_eq_true rfl, Nat.le_of_ble_eq_true rfl⟩ ?_
  rintro r1 M1 H1 locs1 hq - - I1
  obtain ⟨hm, v1, rfl⟩ := hq
  have hM1 := hM.cls hm (by decide)
  have hS1 := I1.2.2.2.1
  have hn1 := hM1.n
  have hw1 := hM1.m
  refine lv_pop hx hb d_Law_452 rfl ?_
  refine lv_aload_n hx hb d_Law_453 rfl (lv_at hl 2 rfl) ?_
  refine lv_aload_n hx hb d_Law_454 rfl (lv_at hl 0 rfl) ?_
  refine lv_iload_n hx hb d_Law_455 rfl (lv_at hl 3 rfl) ?_
  refine lv_iconst (v := 1) hx hb d_Law_456 (by decide) ?_
  refine lv_iadd hx hb d_Law_457 ?_
  refine va_sld hx hb hX hb2 hbA hS1 (hi 1 (by decide) (by decide)) d_Law_458 ?_
  obtain ⟨Q2, hC2, hQ2⟩ := w_order l M1 hw1.1 hw1.2.1 (xs (i + 1).toNatClampNeg)
  refine lw_callV C I1 hl (q := 81) [.int (xs (i + 1).toNatClampNeg)] [] l_Law_48 hC2 rfl rfl hw1.2.2 (by decide) ⟨Nat.le_of_ble_eq_true rfl, Nat.le_of_ble_eq_true rfl⟩ (by decide) d_Law_459 hn1.1 hn1.2 ⟨Nat.le_of_ble_eq_true rfl, Nat.le_of_ble_eq_true rfl⟩ ?_
  rintro r2 M2 H2 locs2 hq - - I2
  obtain ⟨⟨v2, rfl, hcat, hzv⟩, hg⟩ := hQ2 r2 M2 hq
  refine lv_pop hx hb d_Law_462 (by rw [hzv]; exact hcat) ?_
  refine lv_goto (tgt := 1510) hx hb d_Law_463 (by decide) ?_
  exact kk M2 H2 locs2 _ (hM1.refk hg) I2
theorem lc_8 (C : zCtx p room_1 s m #[Value.ref b] meth c (mLaw nm)) (hX : va_X b L xs s s.heap) (hbl : b < ad 0) (hb2 : b < s.heap.size) (I : zI D cI cJ ad adV M s H locs) (hl : lv_has ls 4 (zlw b ad i)) (hM : zLb a a M) (hi : ∀ k : Int32, 0 ≤ k.toInt → k.toInt ≤ 5 → vp_in (i + k) L) (kk : ∀ (M' : zMem) (H' : Heap) (locs' : List Loc) (a' : Int32), zLb a' a' M' → zI D cI cJ ad adV M' s H' locs' → W p l e room_1 s m #[Value.ref b] below meth c H' locs' 114 84410 (lw_Z below #[Value.ref b] s) (F0 m 1510 ls [])) : W p l e room_1 s m #[Value.ref b] below meth c H locs 114 84410 (lw_Z below #[Value.ref b] s) (F0 m 466 ls []) := by
  have hx := C.1
  have hb : c.code = code := C.2.1
  have hbA : ¬ (fun q : Nat => ad 0 ≤ q) b := Nat.not_le.mpr hbl
  have hS := I.2.2.2.1
  have h0 := hM.c0
  have hn := hM.n
  refine lv_aload_n hx hb d_Law_466 rfl (lv_at hl 1 rfl) ?_
  refine lv_aload_n hx hb d_Law_467 rfl (lv_at hl 0 rfl) ?_
  refine lv_iload_n hx hb d_Law_468 rfl (lv_at hl 3 rfl) ?_
  refine lv_iconst (v := 1) hx hb d_Law_469 (by decide) ?_
  refine lv_iadd hx hb d_Law_470 ?_
  refine va_sld hx hb hX hb2 hbA hS (hi 1 (by decide) (by decide)) d_Law_471 ?_
  refine lw_callV C I hl (q := 0) [.int (xs (i + 1).toNatClampNeg)] [] l_Law_49 (c_T_makesOf l 81 M h0.1 0 h0.2.1 h0.2.2 (xs (i + 1).toNatClampNeg)) rfl rfl h0.2.2 (by decide) ⟨Nat.le_of_ble_eq_true rfl, Nat.le_of_ble_eq_true rfl⟩ (by decide) d_Law_472 hn.1 hn.2 ⟨Nat.le_of_ble_eq_true rfl, Nat.le_of_ble_eq_true rfl⟩ ?_
  rintro r1 M1 H1 locs1 hq - - I1
  obtain ⟨hm, v1, rfl⟩ := hq
  have hM1 := hM.cls hm (by decide)
  have hS1 := I1.2.2.2.1
  have hn1 := hM1.n
  have hw1 := hM1.m
  refine lv_pop hx hb d_Law_475 rfl ?_
  refine lv_aload_n hx hb d_Law_476 rfl (lv_at hl 2 rfl) ?_
  refine lv_aload_n hx hb d_Law_477 rfl (lv_at hl 0 rfl) ?_
  refine lv_iload_n hx hb d_Law_478 rfl (lv_at hl 3 rfl) ?_
  refine lv_iconst (v := 1) hx hb d_Law_479 (by decide) ?_
  refine lv_iadd hx hb d_Law_480 ?_
  refine va_sld hx hb hX hb2 hbA hS1 (hi 1 (by decide) (by decide)) d_Law_481 ?_
  obtain ⟨Q2, hC2, hQ2⟩ := w_makesOf l M1 hw1.1 hw1.2.1 (xs (i + 1).toNatClampNeg)
  refine lw_callV C I1 hl (q := 81) [.int (xs (i + 1).toNatClampNeg)] [] l_Law_52 hC2 rfl rfl hw1.2.2 (by decide) ⟨Nat.le_of_ble_eq_true rfl, Nat.le_of_ble_eq_true rfl⟩ (by decide) d_Law_482 hn1.1 hn1.2 ⟨Nat.le_of_ble_eq_true rfl, Nat.le_of_ble_eq_true rfl⟩ ?_
  rintro r2 M2 H2 locs2 hq - - I2
  obtain ⟨⟨v2, rfl, hcat, hzv⟩, hg⟩ := hQ2 r2 M2 hq
  refine lv_pop hx hb d_Law_485 (by rw [hzv]; exact hcat) ?_
  refine lv_goto (tgt := 1510) hx hb d_Law_486 (by decide) ?_
  exact kk M2 H2 locs2 _ (hM1.refk hg) I2
theorem lc_9 (C : zCtx p room_1 s m #[Value.ref b] meth c (mLaw nm)) (hX : va_X b L xs s s.heap) (hbl : b < ad 0) (hb2 : b < s.heap.size) (I : zI D cI cJ ad adV M s H locs) (hl : lv_has ls 4 (zlw b ad i)) (hM : zLb a a M) (hi : ∀ k : Int32, 0 ≤ k.toInt → k.toInt ≤ 5 → vp_in (i + k) L) (kk : ∀ (M' : zMem) (H' : Heap) (locs' : List Loc) (a' : Int32), zLb a' a' M' → zI D cI cJ ad adV M' s H' locs' → W p l e room_1 s m #[Value.ref b] below meth c H' locs' 114 84410 (lw_Z below #[Value.ref b] s) (F0 m 1510 ls [])) : W p l e room_1 s m #[Value.ref b] below meth c H locs 114 84410 (lw_Z below #[Value.ref b] s) (F0 m 489 ls []) := by
  have hx := C.1
  have hb : c.code = code := C.2.1
  have hbA : ¬ (fun q : Nat => ad 0 ≤ q) b := Nat.not_le.mpr hbl
  have hS := I.2.2.2.1
  have h0 := hM.c0
  have hn := hM.n
  refine lv_aload_n hx hb d_Law_489 rfl (lv_at hl 1 rfl) ?_
  refine lv_aload_n hx hb d_Law_490 rfl (lv_at hl 0 rfl) ?_
  refine lv_iload_n hx hb d_Law_491 rfl (lv_at hl 3 rfl) ?_
  refine lv_iconst (v := 1) hx hb d_Law_492 (by decide) ?_
  refine lv_iadd hx hb d_Law_493 ?_
  refine va_sld hx hb hX hb2 hbA hS (hi 1 (by decide) (by decide)) d_Law_494 ?_
  refine lw_callV C I hl (q := 0) [.int (xs (i + 1).toNatClampNeg)] [] l_Law_53 (c_T_sortOf l 81 M h0.1 0 h0.2.1 h0.2.2 (xs (i + 1).toNatClampNeg)) rfl rfl h0.2.2 (by decide) ⟨Nat.le_of_ble_eq_true rfl, Nat.le_of_ble_eq_true rfl⟩ (by decide) d_Law_495 hn.1 hn.2 ⟨Nat.le_of_ble_eq_true rfl, Nat.le_of_ble_eq_true rfl⟩ ?_
  rintro r1 M1 H1 locs1 hq - - I1
  obtain ⟨hm, v1, rfl⟩ := hq
  have hM1 := hM.cls hm (by decide)
  have hS1 := I1.2.2.2.1
  have hn1 := hM1.n
  have hw1 := hM1.m
  refine lv_pop hx hb d_Law_498 rfl ?_
  refine lv_aload_n hx hb d_Law_499 rfl (lv_at hl 2 rfl) ?_
  refine lv_aload_n hx hb d_Law_500 rfl (lv_at hl 0 rfl) ?_
  refine lv_iload_n hx hb d_Law_501 rfl (lv_at hl 3 rfl) ?_
  refine lv_iconst (v := 1) hx hb d_Law_502 (by decide) ?_
  refine lv_iadd hx hb d_Law_503 ?_
  refine va_sld hx hb hX hb2 hbA hS1 (hi 1 (by decide) (by decide)) d_Law_504 ?_
  obtain ⟨Q2, hC2, hQ2⟩ := w_sortOf l M1 hw1.1 hw1.2.1 (xs (i + 1).toNatClampNeg)
  refine lw_callV C I1 hl (q := 81) [.int (xs (i + 1).toNatClampNeg)] [] l_Law_56 hC2 rfl rfl hw1.2.2 (by decide) ⟨Nat.le_of_ble_eq_true rfl, Nat.le_of_ble_eq_true rfl⟩ (by decide) d_Law_505 hn1.1 hn1.2 ⟨Nat.le_of_ble_eq_true rfl, Nat.le_of_ble_eq_true rfl⟩ ?_
  rintro r2 M2 H2 locs2 hq - - I2
  obtain ⟨⟨v2, rfl, hcat, hzv⟩, hg⟩ := hQ2 r2 M2 hq
  refine lv_pop hx hb d_Law_508 (by rw [hzv]; exact hcat) ?_
  refine lv_goto (tgt := 1510) hx hb d_Law_509 (by decide) ?_
  exact kk M2 H2 locs2 _ (hM1.refk hg) I2
theorem lc_10 (C : zCtx p room_1 s m #[Value.ref b] meth c (mLaw nm)) (hX : va_X b L xs s s.heap) (hbl : b < ad 0) (hb2 : b < s.heap.size) (I : zI D cI cJ ad adV M s H locs) (hl : lv_has ls 4 (zlw b ad i)) (hM : zLb a a M) (hi : ∀ k : Int32, 0 ≤ k.toInt → k.toInt ≤ 5 → vp_in (i + k) L) (kk : ∀ (M' : zMem) (H' : Heap) (locs' : List Loc) (a' : Int32), zLb a' a' M' → zI D cI cJ ad adV M' s H' locs' → W p l e room_1 s m #[Value.ref b] below meth c H' locs' 114 84410 (lw_Z below #[Value.ref b] s) (F0 m 1510 ls [])) : W p l e room_1 s m #[Value.ref b] below meth c H locs 114 84410 (lw_Z below #[Value.ref b] s) (F0 m 512 ls []) := by
  have hx := C.1
  have hb : c.code = code := C.2.1
  have hbA : ¬ (fun q : Nat => ad 0 ≤ q) b := Nat.not_le.mpr hbl
  have hS := I.2.2.2.1
  have h0 := hM.c0
  have hn := hM.n
  refine lv_aload_n hx hb d_Law_512 rfl (lv_at hl 1 rfl) ?_
  refine lv_aload_n hx hb d_Law_513 rfl (lv_at hl 0 rfl) ?_
  refine lv_iload_n hx hb d_Law_514 rfl (lv_at hl 3 rfl) ?_
  refine lv_iconst (v := 1) hx hb d_Law_515 (by decide) ?_
  refine lv_iadd hx hb d_Law_516 ?_
  refine va_sld hx hb hX hb2 hbA hS (hi 1 (by decide) (by decide)) d_Law_517 ?_
  refine lv_aload_n hx hb d_Law_518 rfl (lv_at hl 0 rfl) ?_
  refine lv_iload_n hx hb d_Law_519 rfl (lv_at hl 3 rfl) ?_
  refine lv_iconst (v := 2) hx hb d_Law_520 (by decide) ?_
  refine lv_iadd hx hb d_Law_521 ?_
  refine va_sld hx hb hX hb2 hbA hS (hi 2 (by decide) (by decide)) d_Law_522 ?_
  refine lw_callV C I hl (q := 0) [.int (xs (i + 1).toNatClampNeg), .int (xs (i + 2).toNatClampNeg)] [] l_Law_57 (c_T_sort l 81 M h0.1 0 h0.2.1 h0.2.2 (xs (i + 1).toNatClampNeg) (xs (i + 2).toNatClampNeg)) rfl rfl h0.2.2 (by decide) ⟨Nat.le_of_ble_eq_true rfl, Nat.le_of_ble_eq_true rfl⟩ (by decide) d_Law_523 hn.1 hn.2 ⟨Nat.le_of_ble_eq_true rfl, Nat.le_of_ble_eq_true rfl⟩ ?_
  rintro r1 M1 H1 locs1 hq - - I1
  obtain ⟨hm, v1, rfl⟩ := hq
  have hM1 := hM.cls hm (by decide)
  have hS1 := I1.2.2.2.1
  have hn1 := hM1.n
  have hw1 := hM1.m
  refine lv_pop hx hb d_Law_526 rfl ?_
  refine lv_aload_n hx hb d_Law_527 rfl (lv_at hl 2 rfl) ?_
  refine lv_aload_n hx hb d_Law_528 rfl (lv_at hl 0 rfl) ?_
  refine lv_iload_n hx hb d_Law_529 rfl (lv_at hl 3 rfl) ?_
  refine lv_iconst (v := 1) hx hb d_Law_530 (by decide) ?_
  refine lv_iadd hx hb d_Law_531 ?_
  refine va_sld hx hb hX hb2 hbA hS1 (hi 1 (by decide) (by decide)) d_Law_532 ?_
  refine lv_aload_n hx hb d_Law_533 rfl (lv_at hl 0 rfl) ?_
  refine lv_iload_n hx hb d_Law_534 rfl (lv_at hl 3 rfl) ?_
  refine lv_iconst (v := 2) hx hb d_Law_535 (by decide) ?_
  refine lv_iadd hx hb d_Law_536 ?_
  refine va_sld hx hb hX hb2 hbA hS1 (hi 2 (by decide) (by decide)) d_Law_537 ?_
  obtain ⟨Q2, hC2, hQ2⟩ := w_sort l M1 hw1.1 hw1.2.1 (xs (i + 1).toNatClampNeg) (xs (i + 2).toNatClampNeg)
  refine lw_callV C I1 hl (q := 81) [.int (xs (i + 1).toNatClampNeg), .int (xs (i + 2).toNatClampNeg)] [] l_Law_60 hC2 rfl rfl hw1.2.2 (by decide) ⟨Nat.le_of_ble_eq_true rfl, Nat.le_of_ble_eq_true rfl⟩ (by decide) d_Law_538 hn1.1 hn1.2 ⟨Nat.le_of_ble_eq_true rfl, Nat.le_of_ble_eq_true rfl⟩ ?_
  rintro r2 M2 H2 locs2 hq - - I2
  obtain ⟨⟨v2, rfl, hcat, hzv⟩, hg⟩ := hQ2 r2 M2 hq
  refine lv_pop hx hb d_Law_541 (by rw [hzv]; exact hcat) ?_
  refine lv_goto (tgt := 1510) hx hb d_Law_542 (by decide) ?_
  exact kk M2 H2 locs2 _ (hM1.refk hg) I2
theorem lc_11 (C : zCtx p room_1 s m #[Value.ref b] meth c (mLaw nm)) (hX : va_X b L xs s s.heap) (hbl : b < ad 0) (hb2 : b < s.heap.size) (I : zI D cI cJ ad adV M s H locs) (hl : lv_has ls 4 (zlw b ad i)) (hM : zLb a a M) (hi : ∀ k : Int32, 0 ≤ k.toInt → k.toInt ≤ 5 → vp_in (i + k) L) (kk : ∀ (M' : zMem) (H' : Heap) (locs' : List Loc) (a' : Int32), zLb a' a' M' → zI D cI cJ ad adV M' s H' locs' → W p l e room_1 s m #[Value.ref b] below meth c H' locs' 114 84410 (lw_Z below #[Value.ref b] s) (F0 m 1510 ls [])) : W p l e room_1 s m #[Value.ref b] below meth c H locs 114 84410 (lw_Z below #[Value.ref b] s) (F0 m 545 ls []) := by
  have hx := C.1
  have hb : c.code = code := C.2.1
  have hbA : ¬ (fun q : Nat => ad 0 ≤ q) b := Nat.not_le.mpr hbl
  have hS := I.2.2.2.1
  have h0 := hM.c0
  have hn := hM.n
  refine lv_aload_n hx hb d_Law_545 rfl (lv_at hl 1 rfl) ?_
  refine lv_aload_n hx hb d_Law_546 rfl (lv_at hl 0 rfl) ?_
  refine lv_iload_n hx hb d_Law_547 rfl (lv_at hl 3 rfl) ?_
  refine lv_iconst (v := 1) hx hb d_Law_548 (by decide) ?_
  refine lv_iadd hx hb d_Law_549 ?_
  refine va_sld hx hb hX hb2 hbA hS (hi 1 (by decide) (by decide)) d_Law_550 ?_
  refine lv_aload_n hx hb d_Law_551 rfl (lv_at hl 0 rfl) ?_
  refine lv_iload_n hx hb d_Law_552 rfl (lv_at hl 3 rfl) ?_
  refine lv_iconst (v := 2) hx hb d_Law_553 (by decide) ?_
  refine lv_iadd hx hb d_Law_554 ?_
  refine va_sld hx hb hX hb2 hbA hS (hi 2 (by decide) (by decide)) d_Law_555 ?_
  refine lw_callV C I hl (q := 0) [.int (xs (i + 1).toNatClampNeg), .int (xs (i + 2).toNatClampNeg)] [] l_Law_61 (c_T_within l 81 M h0.1 0 h0.2.1 h0.2.2 (xs (i + 1).toNatClampNeg) (xs (i + 2).toNatClampNeg)) rfl rfl h0.2.2 (by decide) ⟨Nat.le_of_ble_eq_true rfl, Nat.le_of_ble_eq_true rfl⟩ (by decide) d_Law_556 hn.1 hn.2 ⟨Nat.le_of_ble_eq_true rfl, Nat.le_of_ble_eq_true rfl⟩ ?_
  rintro r1 M1 H1 locs1 hq - - I1
  obtain ⟨hm, v1, rfl⟩ := hq
  have hM1 := hM.cls hm (by decide)
  have hS1 := I1.2.2.2.1
  have hn1 := hM1.n
  have hw1 := hM1.m
  refine lv_pop hx hb d_Law_559 rfl ?_
  refine lv_aload_n hx hb d_Law_560 rfl (lv_at hl 2 rfl) ?_
  refine lv_aload_n hx hb d_Law_561 rfl (lv_at hl 0 rfl) ?_
  refine lv_iload_n hx hb d_Law_562 rfl (lv_at hl 3 rfl) ?_
  refine lv_iconst (v := 1) hx hb d_Law_563 (by decide) ?_
  refine lv_iadd hx hb d_Law_564 ?_
  refine va_sld hx hb hX hb2 hbA hS1 (hi 1 (by decide) (by decide)) d_Law_565 ?_
  refine lv_aload_n hx hb d_Law_566 rfl (lv_at hl 0 rfl) ?_
  refine lv_iload_n hx hb d_Law_567 rfl (lv_at hl 3 rfl) ?_
  refine lv_iconst (v := 2) hx hb d_Law_568 (by decide) ?_
  refine lv_iadd hx hb d_Law_569 ?_
  refine va_sld hx hb hX hb2 hbA hS1 (hi 2 (by decide) (by decide)) d_Law_570 ?_
  obtain ⟨Q2, hC2, hQ2⟩ := w_within l M1 hw1.1 hw1.2.1 (xs (i + 1).toNatClampNeg) (xs (i + 2).toNatClampNeg)
  refine lw_callV C I1 hl (q := 81) [.int (xs (i + 1).toNatClampNeg), .int (xs (i + 2).toNatClampNeg)] [] l_Law_64 hC2 rfl rfl hw1.2.2 (by decide) ⟨Nat.le_of_ble_eq_true rfl, Nat.le_of_ble_eq_true rfl⟩ (by decide) d_Law_571 hn1.1 hn1.2 ⟨Nat.le_of_ble_eq_true rfl, Nat.le_of_ble_eq_true rfl⟩ ?_
  rintro r2 M2 H2 locs2 hq - - I2
  obtain ⟨⟨v2, rfl, hcat, hzv⟩, hg⟩ := hQ2 r2 M2 hq
  refine lv_pop hx hb d_Law_574 (by rw [hzv]; exact hcat) ?_
  refine lv_goto (tgt := 1510) hx hb d_Law_575 (by decide) ?_
  exact kk M2 H2 locs2 _ (hM1.refk hg) I2
theorem lc_12 (C : zCtx p room_1 s m #[Value.ref b] meth c (mLaw nm)) (hX : va_X b L xs s s.heap) (hbl : b < ad 0) (hb2 : b < s.heap.size) (I : zI D cI cJ ad adV M s H locs) (hl : lv_has ls 4 (zlw b ad i)) (hM : zLb a a M) (hi : ∀ k : Int32, 0 ≤ k.toInt → k.toInt ≤ 5 → vp_in (i + k) L) (kk : ∀ (M' : zMem) (H' : Heap) (locs' : List Loc) (a' : Int32), zLb a' a' M' → zI D cI cJ ad adV M' s H' locs' → W p l e room_1 s m #[Value.ref b] below meth c H' locs' 114 84410 (lw_Z below #[Value.ref b] s) (F0 m 1510 ls [])) : W p l e room_1 s m #[Value.ref b] below meth c H locs 114 84410 (lw_Z below #[Value.ref b] s) (F0 m 578 ls []) := by
  have hx := C.1
  have hb : c.code = code := C.2.1
  have hbA : ¬ (fun q : Nat => ad 0 ≤ q) b := Nat.not_le.mpr hbl
  have hS := I.2.2.2.1
  have h0 := hM.c0
  have hn := hM.n
  refine lv_aload_n hx hb d_Law_578 rfl (lv_at hl 1 rfl) ?_
  refine lv_aload_n hx hb d_Law_579 rfl (lv_at hl 0 rfl) ?_
  refine lv_iload_n hx hb d_Law_580 rfl (lv_at hl 3 rfl) ?_
  refine lv_iconst (v := 1) hx hb d_Law_581 (by decide) ?_
  refine lv_iadd hx hb d_Law_582 ?_
  refine va_sld hx hb hX hb2 hbA hS (hi 1 (by decide) (by decide)) d_Law_583 ?_
  refine lv_aload_n hx hb d_Law_584 rfl (lv_at hl 0 rfl) ?_
  refine lv_iload_n hx hb d_Law_585 rfl (lv_at hl 3 rfl) ?_
  refine lv_iconst (v := 2) hx hb d_Law_586 (by decide) ?_
  refine lv_iadd hx hb d_Law_587 ?_
  refine va_sld hx hb hX hb2 hbA hS (hi 2 (by decide) (by decide)) d_Law_588 ?_
  refine lw_callV C I hl (q := 0) [.int (xs (i + 1).toNatClampNeg), .int (xs (i + 2).toNatClampNeg)] [] l_Law_65 (c_T_mark l 81 M h0.1 0 h0.2.1 h0.2.2 (xs (i + 1).toNatClampNeg) (xs (i + 2).toNatClampNeg)) rfl rfl h0.2.2 (by decide) ⟨Nat.le_of_ble_eq_true rfl, Nat.le_of_ble_eq_true rfl⟩ (by decide) d_Law_589 hn.1 hn.2 ⟨Nat.le_of_ble_eq_true rfl, Nat.le_of_ble_eq_true rfl⟩ ?_
  rintro r1 M1 H1 locs1 hq - - I1
  obtain ⟨hm, v1, rfl⟩ := hq
  have hM1 := hM.cls hm (by decide)
  have hS1 := I1.2.2.2.1
  have hn1 := hM1.n
  have hw1 := hM1.m
  refine lv_pop hx hb d_Law_592 rfl ?_
  refine lv_aload_n hx hb d_Law_593 rfl (lv_at hl 2 rfl) ?_
  refine lv_aload_n hx hb d_Law_594 rfl (lv_at hl 0 rfl) ?_
  refine lv_iload_n hx hb d_Law_595 rfl (lv_at hl 3 rfl) ?_
  refine lv_iconst (v := 1) hx hb d_Law_596 (by decide) ?_
  refine lv_iadd hx hb d_Law_597 ?_
  refine va_sld hx hb hX hb2 hbA hS1 (hi 1 (by decide) (by decide)) d_Law_598 ?_
  refine lv_aload_n hx hb d_Law_599 rfl (lv_at hl 0 rfl) ?_
  refine lv_iload_n hx hb d_Law_600 rfl (lv_at hl 3 rfl) ?_
  refine lv_iconst (v := 2) hx hb d_Law_601 (by decide) ?_
  refine lv_iadd hx hb d_Law_602 ?_
  refine va_sld hx hb hX hb2 hbA hS1 (hi 2 (by decide) (by decide)) d_Law_603 ?_
  obtain ⟨Q2, hC2, hQ2⟩ := w_mark l M1 hw1.1 hw1.2.1 (xs (i + 1).toNatClampNeg) (xs (i + 2).toNatClampNeg)
  refine lw_callV C I1 hl (q := 81) [.int (xs (i + 1).toNatClampNeg), .int (xs (i + 2).toNatClampNeg)] [] l_Law_68 hC2 rfl rfl hw1.2.2 (by decide) ⟨Nat.le_of_ble_eq_true rfl, Nat.le_of_ble_eq_true rfl⟩ (by decide) d_Law_604 hn1.1 hn1.2 ⟨Nat.le_of_ble_eq_true rfl, Nat.le_of_ble_eq_true rfl⟩ ?_
  rintro r2 M2 H2 locs2 hq - - I2
  obtain ⟨⟨v2, rfl, hcat, hzv⟩, hg⟩ := hQ2 r2 M2 hq
  refine lv_pop hx hb d_Law_607 (by rw [hzv]; exact hcat) ?_
  refine lv_goto (tgt := 1510) hx hb d_Law_608 (by decide) ?_
  exact kk M2 H2 locs2 _ (hM1.refk hg) I2
theorem lc_13 (C : zCtx p room_1 s m #[Value.ref b] meth c (mLaw nm)) (hX : va_X b L xs s s.heap) (hbl : b < ad 0) (hb2 : b < s.heap.size) (I : zI D cI cJ ad adV M s H locs) (hl : lv_has ls 4 (zlw b ad i)) (hM : zLb a a M) (hi : ∀ k : Int32, 0 ≤ k.toInt → k.toInt ≤ 5 → vp_in (i + k) L) (kk : ∀ (M' : zMem) (H' : Heap) (locs' : List Loc) (a' : Int32), zLb a' a' M' → zI D cI cJ ad adV M' s H' locs' → W p l e room_1 s m #[Value.ref b] below meth c H' locs' 114 84410 (lw_Z below #[Value.ref b] s) (F0 m 1510 ls [])) : W p l e room_1 s m #[Value.ref b] below meth c H locs 114 84410 (lw_Z below #[Value.ref b] s) (F0 m 611 ls []) := by
  have hx := C.1
  have hb : c.code = code := C.2.1
  have hbA : ¬ (fun q : Nat => ad 0 ≤ q) b := Nat.not_le.mpr hbl
  have hS := I.2.2.2.1
  have h0 := hM.c0
  have hn := hM.n
  refine lv_aload_n hx hb d_Law_611 rfl (lv_at hl 1 rfl) ?_
  refine lv_aload_n hx hb d_Law_612 rfl (lv_at hl 0 rfl) ?_
  refine lv_iload_n hx hb d_Law_613 rfl (lv_at hl 3 rfl) ?_
  refine lv_iconst (v := 1) hx hb d_Law_614 (by decide) ?_
  refine lv_iadd hx hb d_Law_615 ?_
  refine va_sld hx hb hX hb2 hbA hS (hi 1 (by decide) (by decide)) d_Law_616 ?_
  refine lv_aload_n hx hb d_Law_617 rfl (lv_at hl 0 rfl) ?_
  refine lv_iload_n hx hb d_Law_618 rfl (lv_at hl 3 rfl) ?_
  refine lv_iconst (v := 2) hx hb d_Law_619 (by decide) ?_
  refine lv_iadd hx hb d_Law_620 ?_
  refine va_sld hx hb hX hb2 hbA hS (hi 2 (by decide) (by decide)) d_Law_621 ?_
  refine lv_aload_n hx hb d_Law_622 rfl (lv_at hl 0 rfl) ?_
  refine lv_iload_n hx hb d_Law_623 rfl (lv_at hl 3 rfl) ?_
  refine lv_iconst (v := 3) hx hb d_Law_624 (by decide) ?_
  refine lv_iadd hx hb d_Law_625 ?_
  refine va_sld hx hb hX hb2 hbA hS (hi 3 (by decide) (by decide)) d_Law_626 ?_
  refine lw_callV C I hl (q := 0) [.int (xs (i + 1).toNatClampNeg), .int (xs (i + 2).toNatClampNeg), .int (xs (i + 3).toNatClampNeg)] [] l_Law_69 (c_T_product l 81 M h0.1 0 h0.2.1 h0.2.2 (xs (i + 1).toNatClampNeg) (xs (i + 2).toNatClampNeg) (xs (i + 3).toNatClampNeg)) rfl rfl h0.2.2 (by decide) ⟨Nat.le_of_ble_eq_true rfl, Nat.le_of_ble_eq_true rfl⟩ (by decide) d_Law_627 hn.1 hn.2 ⟨Nat.le_of_ble_eq_true rfl, Nat.le_of_ble_eq_true rfl⟩ ?_
  rintro r1 M1 H1 locs1 hq - - I1
  obtain ⟨hm, v1, rfl⟩ := hq
  have hM1 := hM.cls hm (by decide)
  have hS1 := I1.2.2.2.1
  have hn1 := hM1.n
  have hw1 := hM1.m
  refine lv_pop hx hb d_Law_630 rfl ?_
  refine lv_aload_n hx hb d_Law_631 rfl (lv_at hl 2 rfl) ?_
  refine lv_aload_n hx hb d_Law_632 rfl (lv_at hl 0 rfl) ?_
  refine lv_iload_n hx hb d_Law_633 rfl (lv_at hl 3 rfl) ?_
  refine lv_iconst (v := 1) hx hb d_Law_634 (by decide) ?_
  refine lv_iadd hx hb d_Law_635 ?_
  refine va_sld hx hb hX hb2 hbA hS1 (hi 1 (by decide) (by decide)) d_Law_636 ?_
  refine lv_aload_n hx hb d_Law_637 rfl (lv_at hl 0 rfl) ?_
  refine lv_iload_n hx hb d_Law_638 rfl (lv_at hl 3 rfl) ?_
  refine lv_iconst (v := 2) hx hb d_Law_639 (by decide) ?_
  refine lv_iadd hx hb d_Law_640 ?_
  refine va_sld hx hb hX hb2 hbA hS1 (hi 2 (by decide) (by decide)) d_Law_641 ?_
  refine lv_aload_n hx hb d_Law_642 rfl (lv_at hl 0 rfl) ?_
  refine lv_iload_n hx hb d_Law_643 rfl (lv_at hl 3 rfl) ?_
  refine lv_iconst (v := 3) hx hb d_Law_644 (by decide) ?_
  refine lv_iadd hx hb d_Law_645 ?_
  refine va_sld hx hb hX hb2 hbA hS1 (hi 3 (by decide) (by decide)) d_Law_646 ?_
  obtain ⟨Q2, hC2, hQ2⟩ := w_product l M1 hw1.1 hw1.2.1 (xs (i + 1).toNatClampNeg) (xs (i + 2).toNatClampNeg) (xs (i + 3).toNatClampNeg)
  refine lw_callV C I1 hl (q := 81) [.int (xs (i + 1).toNatClampNeg), .int (xs (i + 2).toNatClampNeg), .int (xs (i + 3).toNatClampNeg)] [] l_Law_73 hC2 rfl rfl hw1.2.2 (by decide) ⟨Nat.le_of_ble_eq_true rfl, Nat.le_of_ble_eq_true rfl⟩ (by decide) d_Law_647 hn1.1 hn1.2 ⟨Nat.le_of_ble_eq_true rfl, Nat.le_of_ble_eq_true rfl⟩ ?_
  rintro r2 M2 H2 locs2 hq - - I2
  obtain ⟨⟨v2, rfl, hcat, hzv⟩, hg⟩ := hQ2 r2 M2 hq
  refine lv_pop hx hb d_Law_650 (by rw [hzv]; exact hcat) ?_
  refine lv_goto (tgt := 1510) hx hb d_Law_651 (by decide) ?_
  exact kk M2 H2 locs2 _ (hM1.refk hg) I2
theorem lc_14 (C : zCtx p room_1 s m #[Value.ref b] meth c (mLaw nm)) (hX : va_X b L xs s s.heap) (hbl : b < ad 0) (hb2 : b < s.heap.size) (I : zI D cI cJ ad adV M s H locs) (hl : lv_has ls 4 (zlw b ad i)) (hM : zLb a a M) (hi : ∀ k : Int32, 0 ≤ k.toInt → k.toInt ≤ 5 → vp_in (i + k) L) (kk : ∀ (M' : zMem) (H' : Heap) (locs' : List Loc) (a' : Int32), zLb a' a' M' → zI D cI cJ ad adV M' s H' locs' → W p l e room_1 s m #[Value.ref b] below meth c H' locs' 114 84410 (lw_Z below #[Value.ref b] s) (F0 m 1510 ls [])) : W p l e room_1 s m #[Value.ref b] below meth c H locs 114 84410 (lw_Z below #[Value.ref b] s) (F0 m 654 ls []) := by
  have hx := C.1
  have hb : c.code = code := C.2.1
  have hbA : ¬ (fun q : Nat => ad 0 ≤ q) b := Nat.not_le.mpr hbl
  have hS := I.2.2.2.1
  have h0 := hM.c0
  have hn := hM.n
  refine lv_aload_n hx hb d_Law_654 rfl (lv_at hl 1 rfl) ?_
  refine lv_aload_n hx hb d_Law_655 rfl (lv_at hl 0 rfl) ?_
  refine lv_iload_n hx hb d_Law_656 rfl (lv_at hl 3 rfl) ?_
  refine lv_iconst (v := 1) hx hb d_Law_657 (by decide) ?_
  refine lv_iadd hx hb d_Law_658 ?_
  refine va_sld hx hb hX hb2 hbA hS (hi 1 (by decide) (by decide)) d_Law_659 ?_
  refine lv_aload_n hx hb d_Law_660 rfl (lv_at hl 0 rfl) ?_
  refine lv_iload_n hx hb d_Law_661 rfl (lv_at hl 3 rfl) ?_
  refine lv_iconst (v := 2) hx hb d_Law_662 (by decide) ?_
  refine lv_iadd hx hb d_Law_663 ?_
  refine va_sld hx hb hX hb2 hbA hS (hi 2 (by decide) (by decide)) d_Law_664 ?_
  refine lw_callV C I hl (q := 0) [.int (xs (i + 1).toNatClampNeg), .int (xs (i + 2).toNatClampNeg)] [] l_Law_74 (c_T_residue l 81 M h0.1 0 h0.2.1 h0.2.2 (xs (i + 1).toNatClampNeg) (xs (i + 2).toNatClampNeg)) rfl rfl h0.2.2 (by decide) ⟨Nat.le_of_ble_eq_true rfl, Nat.le_of_ble_eq_true rfl⟩ (by decide) d_Law_665 hn.1 hn.2 ⟨Nat.le_of_ble_eq_true rfl, Nat.le_of_ble_eq_true rfl⟩ ?_
  rintro r1 M1 H1 locs1 hq - - I1
  obtain ⟨hm, v1, rfl⟩ := hq
  have hM1 := hM.cls hm (by decide)
  have hS1 := I1.2.2.2.1
  have hn1 := hM1.n
  have hw1 := hM1.m
  refine lv_pop hx hb d_Law_668 rfl ?_
  refine lv_aload_n hx hb d_Law_669 rfl (lv_at hl 2 rfl) ?_
  refine lv_aload_n hx hb d_Law_670 rfl (lv_at hl 0 rfl) ?_
  refine lv_iload_n hx hb d_Law_671 rfl (lv_at hl 3 rfl) ?_
  refine lv_iconst (v := 1) hx hb d_Law_672 (by decide) ?_
  refine lv_iadd hx hb d_Law_673 ?_
  refine va_sld hx hb hX hb2 hbA hS1 (hi 1 (by decide) (by decide)) d_Law_674 ?_
  refine lv_aload_n hx hb d_Law_675 rfl (lv_at hl 0 rfl) ?_
  refine lv_iload_n hx hb d_Law_676 rfl (lv_at hl 3 rfl) ?_
  refine lv_iconst (v := 2) hx hb d_Law_677 (by decide) ?_
  refine lv_iadd hx hb d_Law_678 ?_
  refine va_sld hx hb hX hb2 hbA hS1 (hi 2 (by decide) (by decide)) d_Law_679 ?_
  obtain ⟨Q2, hC2, hQ2⟩ := w_residue l M1 hw1.1 hw1.2.1 (xs (i + 1).toNatClampNeg) (xs (i + 2).toNatClampNeg)
  refine lw_callV C I1 hl (q := 81) [.int (xs (i + 1).toNatClampNeg), .int (xs (i + 2).toNatClampNeg)] [] l_Law_77 hC2 rfl rfl hw1.2.2 (by decide) ⟨Nat.le_of_ble_eq_true rfl, Nat.le_of_ble_eq_true rfl⟩ (by decide) d_Law_680 hn1.1 hn1.2 ⟨Nat.le_of_ble_eq_true rfl, Nat.le_of_ble_eq_true rfl⟩ ?_
  rintro r2 M2 H2 locs2 hq - - I2
  obtain ⟨⟨v2, rfl, hcat, hzv⟩, hg⟩ := hQ2 r2 M2 hq
  refine lv_pop hx hb d_Law_683 (by rw [hzv]; exact hcat) ?_
  refine lv_goto (tgt := 1510) hx hb d_Law_684 (by decide) ?_
  exact kk M2 H2 locs2 _ (hM1.refk hg) I2
theorem lc_15 (C : zCtx p room_1 s m #[Value.ref b] meth c (mLaw nm)) (hX : va_X b L xs s s.heap) (hbl : b < ad 0) (hb2 : b < s.heap.size) (I : zI D cI cJ ad adV M s H locs) (hl : lv_has ls 4 (zlw b ad i)) (hM : zLb a a M) (hi : ∀ k : Int32, 0 ≤ k.toInt → k.toInt ≤ 5 → vp_in (i + k) L) (kk : ∀ (M' : zMem) (H' : Heap) (locs' : List Loc) (a' : Int32), zLb a' a' M' → zI D cI cJ ad adV M' s H' locs' → W p l e room_1 s m #[Value.ref b] below meth c H' locs' 114 84410 (lw_Z below #[Value.ref b] s) (F0 m 1510 ls [])) : W p l e room_1 s m #[Value.ref b] below meth c H locs 114 84410 (lw_Z below #[Value.ref b] s) (F0 m 687 ls []) := by
  have hx := C.1
  have hb : c.code = code := C.2.1
  have hbA : ¬ (fun q : Nat => ad 0 ≤ q) b := Nat.not_le.mpr hbl
  have hS := I.2.2.2.1
  have h0 := hM.c0
  have hn := hM.n
  refine lv_aload_n hx hb d_Law_687 rfl (lv_at hl 1 rfl) ?_
  refine lv_aload_n hx hb d_Law_688 rfl (lv_at hl 0 rfl) ?_
  refine lv_iload_n hx hb d_Law_689 rfl (lv_at hl 3 rfl) ?_
  refine lv_iconst (v := 1) hx hb d_Law_690 (by decide) ?_
  refine lv_iadd hx hb d_Law_691 ?_
  refine va_sld hx hb hX hb2 hbA hS (hi 1 (by decide) (by decide)) d_Law_692 ?_
  refine lv_aload_n hx hb d_Law_693 rfl (lv_at hl 0 rfl) ?_
  refine lv_iload_n hx hb d_Law_694 rfl (lv_at hl 3 rfl) ?_
  refine lv_iconst (v := 2) hx hb d_Law_695 (by decide) ?_
  refine lv_iadd hx hb d_Law_696 ?_
  refine va_sld hx hb hX hb2 hbA hS (hi 2 (by decide) (by decide)) d_Law_697 ?_
  refine lw_callV C I hl (q := 0) [.int (xs (i + 1).toNatClampNeg), .int (xs (i + 2).toNatClampNeg)] [] l_Law_78 (c_T_block l 81 M h0.1 0 h0.2.1 h0.2.2 (xs (i + 1).toNatClampNeg) (xs (i + 2).toNatClampNeg)) rfl rfl h0.2.2 (by decide) ⟨Nat.le_of_ble_eq_true rfl, Nat.le_of_ble_eq_true rfl⟩ (by decide) d_Law_698 hn.1 hn.2 ⟨Nat.le_of_ble_eq_true rfl, Nat.le_of_ble_eq_true rfl⟩ ?_
  rintro r1 M1 H1 locs1 hq - - I1
  obtain ⟨hm, v1, rfl⟩ := hq
  have hM1 := hM.cls hm (by decide)
  have hS1 := I1.2.2.2.1
  have hn1 := hM1.n
  have hw1 := hM1.m
  refine lv_pop hx hb d_Law_701 rfl ?_
  refine lv_aload_n hx hb d_Law_702 rfl (lv_at hl 2 rfl) ?_
  refine lv_aload_n hx hb d_Law_703 rfl (lv_at hl 0 rfl) ?_
  refine lv_iload_n hx hb d_Law_704 rfl (lv_at hl 3 rfl) ?_
  refine lv_iconst (v := 1) hx hb d_Law_705 (by decide) ?_
  refine lv_iadd hx hb d_Law_706 ?_
  refine va_sld hx hb hX hb2 hbA hS1 (hi 1 (by decide) (by decide)) d_Law_707 ?_
  refine lv_aload_n hx hb d_Law_708 rfl (lv_at hl 0 rfl) ?_
  refine lv_iload_n hx hb d_Law_709 rfl (lv_at hl 3 rfl) ?_
  refine lv_iconst (v := 2) hx hb d_Law_710 (by decide) ?_
  refine lv_iadd hx hb d_Law_711 ?_
  refine va_sld hx hb hX hb2 hbA hS1 (hi 2 (by decide) (by decide)) d_Law_712 ?_
  obtain ⟨Q2, hC2, hQ2⟩ := w_block l M1 hw1.1 hw1.2.1 (xs (i + 1).toNatClampNeg) (xs (i + 2).toNatClampNeg)
  refine lw_callV C I1 hl (q := 81) [.int (xs (i + 1).toNatClampNeg), .int (xs (i + 2).toNatClampNeg)] [] l_Law_81 hC2 rfl rfl hw1.2.2 (by decide) ⟨Nat.le_of_ble_eq_true rfl, Nat.le_of_ble_eq_true rfl⟩ (by decide) d_Law_713 hn1.1 hn1.2 ⟨Nat.le_of_ble_eq_true rfl, Nat.le_of_ble_eq_true rfl⟩ ?_
  rintro r2 M2 H2 locs2 hq - - I2
  obtain ⟨⟨v2, rfl, hcat, hzv⟩, hg⟩ := hQ2 r2 M2 hq
  refine lv_pop hx hb d_Law_716 (by rw [hzv]; exact hcat) ?_
  refine lv_goto (tgt := 1510) hx hb d_Law_717 (by decide) ?_
  exact kk M2 H2 locs2 _ (hM1.refk hg) I2
end LAWC
