theorem zTy_same {B : Nat} {M N : zMem} (h : zTy B M) (hs : ∀ q, q < B → zsh N q = zsh M q) (hf : ∀ q, q < B → zf N q = zf M q) : zTy B N := by
  refine ⟨fun q ci j hq hk hc hj hg => ?_, fun q hq => by rw [hs q hq]; exact h.2 q hq⟩
  rw [hs q hq] at hk
  obtain ⟨r, h1, h2, h3⟩ := h.1 q ci j hq hk hc hj hg
  exact ⟨r, by rw [hf q hq]; exact h1, h2, by rw [hs r h2]; exact h3⟩
theorem zKW_of {M : zMem} {d : Nat} (hn : zn M = 114) (hd : d = 5 ∨ d = 43) (hs : ∀ q, q < 81 → zsh M q = zsh zMT q) (hf : ∀ q, q < 81 → zf M q = zf zMT q) (h0 : zKB 0 zKt0 zKo0 zKr0 zMT) (h1 : zKB d zKt zKo zKr zMT) : zKW d M := by
  obtain ⟨a1, a2, a3⟩ := h0
  obtain ⟨b1, b2, b3⟩ := h1
  have c1 : ∀ e ∈ zKt0, e.1 < 38 := by decide
  have c2 : ∀ e ∈ zKo0, e.1 < 38 := by decide
  have c3 : ∀ e ∈ zKr0, e.1 < 38 := by decide
  have d1 : ∀ e ∈ zKt, e.1 < 38 := by decide
  have d2 : ∀ e ∈ zKo, e.1 < 38 := by decide
  have d3 : ∀ e ∈ zKr, e.1 < 38 := by decide
  refine ⟨by omega, hd, ⟨fun e he => ?_, fun e he => ?_, fun e he => ?_⟩, fun e he => ?_, fun e he => ?_, fun e he => ?_⟩
  · have := c1 e he
    rw [hf _ (by omega)]
    exact a1 e he
  · have := c2 e he
    rw [hs _ (by omega)]
    exact a2 e he
  · have := c3 e he
    rw [hs _ (by omega)]
    exact a3 e he
  · have := d1 e he
    rw [hf _ (by omega)]
    exact b1 e he
  · have := d2 e he
    rw [hs _ (by omega)]
    exact b2 e he
  · have := d3 e he
    rw [hs _ (by omega)]
    exact b3 e he
theorem lw_ix {i : Int32} {L : Nat} (hL : L ≤ 3072) (h0 : 0 ≤ i.toInt) (h1 : i.toInt + 6 ≤ L) : ∀ k : Int32, 0 ≤ k.toInt → k.toInt ≤ 5 → vp_in (i + k) L := by
  intro k k0 k1
  have e : i + k = Int32.ofInt (i.toInt + k.toInt) := by rw [Int32.ofInt_add, Int32.ofInt_toInt, Int32.ofInt_toInt]
  rw [vp_in_iff, e, z32 ⟨by omega, by omega⟩]
  omega
theorem lw_ns {L : Nat} (hL : L ≤ 3072) : (Int32.ofNat L - 6).toInt = (L : Int) - 6 := by
  have e : Int32.ofNat L - 6 = Int32.ofInt ((L : Int) - 6) := by
    rw [Int32.ofInt_sub]
    rfl
  rw [e, z32 ⟨by omega, by omega⟩]
set_option maxHeartbeats 4000000 in
theorem lw_loop {p : Program} {l : Launch} {e : Env} {s : State} {m : MethodId} {below : List Frame} {meth : Method} {c : Code} {D : va_G} {cI cJ : ClassId} {ad adV : Nat → Nat} {nm : String} {b L : Nat} {xs : Nat → Int32} (hL : L ≤ 3072) (C : zCtx p room_1 s m #[Value.ref b] meth c (mLaw nm)) (hX : va_X b L xs s s.heap) (ha0 : ad 0 = s.heap.size) (hb2 : b < s.heap.size) (hr : meth.sig.returnType = ret) (hlocks : meth.locks = false) : ∀ (n : Nat) (M : zMem) (H : Heap) (locs : List Loc) (ls : Array Slot) (i : Int32), (3200 - i.toInt).toNat < n → zLv M → zI D cI cJ ad adV M s H locs → lv_has ls 4 (zlw b ad i) → 0 ≤ i.toInt → i.toInt ≤ 3080 → W p l e room_1 s m #[Value.ref b] below meth c H locs 114 84410 (lw_Z below #[Value.ref b] s) (F0 m 18 ls []) := by
  intro n
  induction n with
  | zero => exact fun M H locs ls i h => absurd h (Nat.not_lt_zero _)
  | succ n ih =>
    intro M H locs ls i hn hM I hl h0 h1
    have hx := C.1
    have hb : c.code = code := C.2.1
    have hbl : b < ad 0 := by omega
    have hbA : ¬ (fun q : Nat => ad 0 ≤ q) b := Nat.not_le.mpr hbl
    have hS := I.2.2.2.1
    refine lv_iload_n hx hb d_Law_18 rfl (lv_at hl 3 rfl) ?_
    refine lv_aload_n hx hb d_Law_19 rfl (lv_at hl 0 rfl) ?_
    refine va_slen hx hb hX hb2 hbA hS d_Law_20 ?_
    refine lv_bipush (v := 6) hx hb d_Law_21 (by decide) ?_
    refine lv_isub hx hb d_Law_23 ?_
    refine lv_icmp_gt (tgt := 1516) hx hb d_Law_24 (by decide) (fun hc => ?_) (fun hc => ?_)
    · refine lv_iconst (v := 1) hx hb d_Law_1516 (by decide) ?_
      refine va_forget (fun q hq => by have := hS.2.2 q hq; omega) ?_
      refine W.widen (k := 600000) (n := 7302250) (Nat.le_of_ble_eq_true rfl) (Nat.le_of_ble_eq_true rfl) ?_
      exact lw_ret hx hb hr hlocks d_Law_1517
    · rw [Int32.lt_iff_toInt_lt, lw_ns hL] at hc
      have hi := lw_ix (i := i) hL h0 (by omega)
      have hi0 : vp_in i L := by rw [vp_in_iff]; omega
      have kk : ∀ (M' : zMem) (H' : Heap) (locs' : List Loc), zLv M' → zI D cI cJ ad adV M' s H' locs' → W p l e room_1 s m #[Value.ref b] below meth c H' locs' 114 84410 (lw_Z below #[Value.ref b] s) (F0 m 1510 ls []) := by
        intro M' H' locs' hM' I'
        have e6 : i + Int32.ofInt 6 = Int32.ofInt (i.toInt + 6) := by rw [Int32.ofInt_add, Int32.ofInt_toInt]
        refine lv_iinc (k := 3) (x := i) (v := Int32.ofInt (i.toInt + 6)) (lv' := [(3, .int (Int32.ofInt (i.toInt + 6))), (0, .ref b), (1, .ref (ad 0)), (2, .ref (ad 81))]) hx hb d_Law_1510 hl rfl e6 (by decide) rfl (fun ls2 hl2 => ?_)
        refine lv_goto (tgt := 18) hx hb d_Law_1513 (by decide) ?_
        have e7 : (Int32.ofInt (i.toInt + 6)).toInt = i.toInt + 6 := z32 ⟨by omega, by omega⟩
        exact ih M' H' locs' ls2 (Int32.ofInt (i.toInt + 6)) (by rw [e7]; omega) hM' I' (lv_sub hl2 [1, 2, 3, 0] rfl) (by rw [e7]; omega) (by rw [e7]; omega)
      refine lv_aload_n hx hb d_Law_27 rfl (lv_at hl 0 rfl) ?_
      refine lv_iload_n hx hb d_Law_28 rfl (lv_at hl 3 rfl) ?_
      refine va_sld hx hb hX hb2 hbA hS hi0 d_Law_29 ?_
      refine lv_bipush (v := 63) hx hb d_Law_30 (by decide) ?_
      refine lv_iand hx hb d_Law_32 ?_
      generalize xs i.toNatClampNeg &&& 63 = y
      by_cases hs0 : y.toInt = 0
      · exact lv_tableIn (off := 199) (tgt := 232) hx hb d_Law_33 (by rw [hs0]; decide) (by rw [hs0]; decide) (by rw [hs0]; rfl) (by decide) (lc_0 C hX hbl hb2 I hl hM hi kk)
      by_cases hs1 : y.toInt = 1
      · exact lv_tableIn (off := 262) (tgt := 295) hx hb d_Law_33 (by rw [hs1]; decide) (by rw [hs1]; decide) (by rw [hs1]; rfl) (by decide) (lc_1 C hX hbl hb2 I hl hM hi kk)
      by_cases hs2 : y.toInt = 2
      · exact lv_tableIn (off := 285) (tgt := 318) hx hb d_Law_33 (by rw [hs2]; decide) (by rw [hs2]; decide) (by rw [hs2]; rfl) (by decide) (lc_2 C hX hbl hb2 I hl hM hi kk)
      by_cases hs3 : y.toInt = 3
      · exact lv_tableIn (off := 298) (tgt := 331) hx hb d_Law_33 (by rw [hs3]; decide) (by rw [hs3]; decide) (by rw [hs3]; rfl) (by decide) (lc_3 C hX hbl hb2 I hl hM hi kk)
      by_cases hs4 : y.toInt = 4
      · exact lv_tableIn (off := 321) (tgt := 354) hx hb d_Law_33 (by rw [hs4]; decide) (by rw [hs4]; decide) (by rw [hs4]; rfl) (by decide) (lc_4 C hX hbl hb2 I hl hM hi kk)
      by_cases hs5 : y.toInt = 5
      · exact lv_tableIn (off := 344) (tgt := 377) hx hb d_Law_33 (by rw [hs5]; decide) (by rw [hs5]; decide) (by rw [hs5]; rfl) (by decide) (lc_5 C hX hbl hb2 I hl hM hi kk)
      by_cases hs6 : y.toInt = 6
      · exact lv_tableIn (off := 377) (tgt := 410) hx hb d_Law_33 (by rw [hs6]; decide) (by rw [hs6]; decide) (by rw [hs6]; rfl) (by decide) (lc_6 C hX hbl hb2 I hl hM hi kk)
      by_cases hs7 : y.toInt = 7
      · exact lv_tableIn (off := 410) (tgt := 443) hx hb d_Law_33 (by rw [hs7]; decide) (by rw [hs7]; decide) (by rw [hs7]; rfl) (by decide) (lc_7 C hX hbl hb2 I hl hM hi kk)
      by_cases hs8 : y.toInt = 8
      · exact lv_tableIn (off := 433) (tgt := 466) hx hb d_Law_33 (by rw [hs8]; decide) (by rw [hs8]; decide) (by rw [hs8]; rfl) (by decide) (lc_8 C hX hbl hb2 I hl hM hi kk)
      by_cases hs9 : y.toInt = 9
      · exact lv_tableIn (off := 456) (tgt := 489) hx hb d_Law_33 (by rw [hs9]; decide) (by rw [hs9]; decide) (by rw [hs9]; rfl) (by decide) (lc_9 C hX hbl hb2 I hl hM hi kk)
      by_cases hs10 : y.toInt = 10
      · exact lv_tableIn (off := 479) (tgt := 512) hx hb d_Law_33 (by rw [hs10]; decide) (by rw [hs10]; decide) (by rw [hs10]; rfl) (by decide) (lc_10 C hX hbl hb2 I hl hM hi kk)
      by_cases hs11 : y.toInt = 11
      · exact lv_tableIn (off := 512) (tgt := 545) hx hb d_Law_33 (by rw [hs11]; decide) (by rw [hs11]; decide) (by rw [hs11]; rfl) (by decide) (lc_11 C hX hbl hb2 I hl hM hi kk)
      by_cases hs12 : y.toInt = 12
      · exact lv_tableIn (off := 545) (tgt := 578) hx hb d_Law_33 (by rw [hs12]; decide) (by rw [hs12]; decide) (by rw [hs12]; rfl) (by decide) (lc_12 C hX hbl hb2 I hl hM hi kk)
      by_cases hs13 : y.toInt = 13
      · exact lv_tableIn (off := 578) (tgt := 611) hx hb d_Law_33 (by rw [hs13]; decide) (by rw [hs13]; decide) (by rw [hs13]; rfl) (by decide) (lc_13 C hX hbl hb2 I hl hM hi kk)
      by_cases hs14 : y.toInt = 14
      · exact lv_tableIn (off := 621) (tgt := 654) hx hb d_Law_33 (by rw [hs14]; decide) (by rw [hs14]; decide) (by rw [hs14]; rfl) (by decide) (lc_14 C hX hbl hb2 I hl hM hi kk)
      by_cases hs15 : y.toInt = 15
      · exact lv_tableIn (off := 654) (tgt := 687) hx hb d_Law_33 (by rw [hs15]; decide) (by rw [hs15]; decide) (by rw [hs15]; rfl) (by decide) (lc_15 C hX hbl hb2 I hl hM hi kk)
      by_cases hs16 : y.toInt = 16
      · exact lv_tableIn (off := 687) (tgt := 720) hx hb d_Law_33 (by rw [hs16]; decide) (by rw [hs16]; decide) (by rw [hs16]; rfl) (by decide) (lc_16 C hX hbl hb2 I hl hM hi kk)
      by_cases hs17 : y.toInt = 17
      · exact lv_tableIn (off := 710) (tgt := 743) hx hb d_Law_33 (by rw [hs17]; decide) (by rw [hs17]; decide) (by rw [hs17]; rfl) (by decide) (lc_17 C hX hbl hb2 I hl hM hi kk)
      by_cases hs18 : y.toInt = 18
      · exact lv_tableIn (off := 733) (tgt := 766) hx hb d_Law_33 (by rw [hs18]; decide) (by rw [hs18]; decide) (by rw [hs18]; rfl) (by decide) (lc_18 C hX hbl hb2 I hl hM hi kk)
      by_cases hs19 : y.toInt = 19
      · exact lv_tableIn (off := 766) (tgt := 799) hx hb d_Law_33 (by rw [hs19]; decide) (by rw [hs19]; decide) (by rw [hs19]; rfl) (by decide) (lc_19 C hX hbl hb2 I hl hM hi kk)
      by_cases hs20 : y.toInt = 20
      · exact lv_tableIn (off := 809) (tgt := 842) hx hb d_Law_33 (by rw [hs20]; decide) (by rw [hs20]; decide) (by rw [hs20]; rfl) (by decide) (lc_20 C hX hbl hb2 I hl hM hi kk)
      by_cases hs21 : y.toInt = 21
      · exact lv_tableIn (off := 832) (tgt := 865) hx hb d_Law_33 (by rw [hs21]; decide) (by rw [hs21]; decide) (by rw [hs21]; rfl) (by decide) (lc_21 C hX hbl hb2 I hl hM hi kk)
      by_cases hs22 : y.toInt = 22
      · exact lv_tableIn (off := 855) (tgt := 888) hx hb d_Law_33 (by rw [hs22]; decide) (by rw [hs22]; decide) (by rw [hs22]; rfl) (by decide) (lc_22 C hX hbl hb2 I hl hM hi kk)
      by_cases hs23 : y.toInt = 23
      · exact lv_tableIn (off := 878) (tgt := 911) hx hb d_Law_33 (by rw [hs23]; decide) (by rw [hs23]; decide) (by rw [hs23]; rfl) (by decide) (lc_23 C hX hbl hb2 I hl hM hi kk)
      by_cases hs24 : y.toInt = 24
      · exact lv_tableIn (off := 911) (tgt := 944) hx hb d_Law_33 (by rw [hs24]; decide) (by rw [hs24]; decide) (by rw [hs24]; rfl) (by decide) (lc_24 C hX hbl hb2 I hl hM hi kk)
      by_cases hs25 : y.toInt = 25
      · exact lv_tableIn (off := 924) (tgt := 957) hx hb d_Law_33 (by rw [hs25]; decide) (by rw [hs25]; decide) (by rw [hs25]; rfl) (by decide) (lc_25 C hX hbl hb2 I hl hM hi kk)
      by_cases hs26 : y.toInt = 26
      · exact lv_tableIn (off := 957) (tgt := 990) hx hb d_Law_33 (by rw [hs26]; decide) (by rw [hs26]; decide) (by rw [hs26]; rfl) (by decide) (lc_26 C hX hbl hb2 I hl hM hi kk)
      by_cases hs27 : y.toInt = 27
      · exact lv_tableIn (off := 990) (tgt := 1023) hx hb d_Law_33 (by rw [hs27]; decide) (by rw [hs27]; decide) (by rw [hs27]; rfl) (by decide) (lc_27 C hX hbl hb2 I hl hM hi kk)
      by_cases hs28 : y.toInt = 28
      · exact lv_tableIn (off := 1013) (tgt := 1046) hx hb d_Law_33 (by rw [hs28]; decide) (by rw [hs28]; decide) (by rw [hs28]; rfl) (by decide) (lc_28 C hX hbl hb2 I hl hM hi kk)
      by_cases hs29 : y.toInt = 29
      · exact lv_tableIn (off := 1036) (tgt := 1069) hx hb d_Law_33 (by rw [hs29]; decide) (by rw [hs29]; decide) (by rw [hs29]; rfl) (by decide) (lc_29 C hX hbl hb2 I hl hM hi kk)
      by_cases hs30 : y.toInt = 30
      · exact lv_tableIn (off := 1079) (tgt := 1112) hx hb d_Law_33 (by rw [hs30]; decide) (by rw [hs30]; decide) (by rw [hs30]; rfl) (by decide) (lc_30 C hX hbl hb2 I hl hM hi kk)
      by_cases hs31 : y.toInt = 31
      · exact lv_tableIn (off := 1132) (tgt := 1165) hx hb d_Law_33 (by rw [hs31]; decide) (by rw [hs31]; decide) (by rw [hs31]; rfl) (by decide) (lc_31 C hX hbl hb2 I hl hM hi kk)
      by_cases hs32 : y.toInt = 32
      · exact lv_tableIn (off := 1145) (tgt := 1178) hx hb d_Law_33 (by rw [hs32]; decide) (by rw [hs32]; decide) (by rw [hs32]; rfl) (by decide) (lc_32 C hX hbl hb2 I hl hM hi kk)
      by_cases hs33 : y.toInt = 33
      · exact lv_tableIn (off := 1178) (tgt := 1211) hx hb d_Law_33 (by rw [hs33]; decide) (by rw [hs33]; decide) (by rw [hs33]; rfl) (by decide) (lc_33 C hX hbl hb2 I hl hM hi kk)
      by_cases hs34 : y.toInt = 34
      · exact lv_tableIn (off := 1211) (tgt := 1244) hx hb d_Law_33 (by rw [hs34]; decide) (by rw [hs34]; decide) (by rw [hs34]; rfl) (by decide) (lc_34 C hX hbl hb2 I hl hM hi kk)
      by_cases hs35 : y.toInt = 35
      · exact lv_tableIn (off := 1234) (tgt := 1267) hx hb d_Law_33 (by rw [hs35]; decide) (by rw [hs35]; decide) (by rw [hs35]; rfl) (by decide) (lc_35 C hX hbl hb2 I hl hM hi kk)
      by_cases hs36 : y.toInt = 36
      · exact lv_tableIn (off := 1257) (tgt := 1290) hx hb d_Law_33 (by rw [hs36]; decide) (by rw [hs36]; decide) (by rw [hs36]; rfl) (by decide) (lc_36 C hX hbl hb2 I hl hM hi kk)
      by_cases hs37 : y.toInt = 37
      · exact lv_tableIn (off := 1280) (tgt := 1313) hx hb d_Law_33 (by rw [hs37]; decide) (by rw [hs37]; decide) (by rw [hs37]; rfl) (by decide) (lc_37 C hX hbl hb2 I hl hM hi kk)
      by_cases hs38 : y.toInt = 38
      · exact lv_tableIn (off := 1293) (tgt := 1326) hx hb d_Law_33 (by rw [hs38]; decide) (by rw [hs38]; decide) (by rw [hs38]; rfl) (by decide) (lc_38 C hX hbl hb2 I hl hM hi kk)
      by_cases hs39 : y.toInt = 39
      · exact lv_tableIn (off := 1316) (tgt := 1349) hx hb d_Law_33 (by rw [hs39]; decide) (by rw [hs39]; decide) (by rw [hs39]; rfl) (by decide) (lc_39 C hX hbl hb2 I hl hM hi kk)
      by_cases hs40 : y.toInt = 40
      · exact lv_tableIn (off := 1339) (tgt := 1372) hx hb d_Law_33 (by rw [hs40]; decide) (by rw [hs40]; decide) (by rw [hs40]; rfl) (by decide) (lc_40 C hX hbl hb2 I hl hM hi kk)
      by_cases hs41 : y.toInt = 41
      · exact lv_tableIn (off := 1352) (tgt := 1385) hx hb d_Law_33 (by rw [hs41]; decide) (by rw [hs41]; decide) (by rw [hs41]; rfl) (by decide) (lc_41 C hX hbl hb2 I hl hM hi kk)
      by_cases hs42 : y.toInt = 42
      · exact lv_tableIn (off := 1385) (tgt := 1418) hx hb d_Law_33 (by rw [hs42]; decide) (by rw [hs42]; decide) (by rw [hs42]; rfl) (by decide) (lc_42 C hX hbl hb2 I hl hM hi kk)
      by_cases hs43 : y.toInt = 43
      · exact lv_tableIn (off := 1398) (tgt := 1431) hx hb d_Law_33 (by rw [hs43]; decide) (by rw [hs43]; decide) (by rw [hs43]; rfl) (by decide) (lc_43 C hX hbl hb2 I hl hM hi kk)
      by_cases hs44 : y.toInt = 44
      · exact lv_tableIn (off := 1421) (tgt := 1454) hx hb d_Law_33 (by rw [hs44]; decide) (by rw [hs44]; decide) (by rw [hs44]; rfl) (by decide) (lc_44 C hX hbl hb2 I hl hM hi kk)
      by_cases hs45 : y.toInt = 45
      · exact lv_tableIn (off := 1464) (tgt := 1497) hx hb d_Law_33 (by rw [hs45]; decide) (by rw [hs45]; decide) (by rw [hs45]; rfl) (by decide) (lc_45 C hX hbl hb2 I hl hM hi kk)
      exact lv_tableOut (tgt := 1510) hx hb d_Law_33 (by omega) (by decide) (kk M H locs hM I)
set_option maxHeartbeats 4000000 in
theorem whole_start {p : Program} {e : Env} {s : State} {m : MethodId} {below : List Frame} {meth : Method} {c : Code} (l : Launch) (hflags : l.flags = flags0) {b L : Nat} {xs : Nat → Int32} (hL : L ≤ 3072) (C0 : lw_At p s m meth c b L xs) : W p l e room_1 s m #[Value.ref b] below meth c s.heap [] 0 0 (lw_Z below #[Value.ref b] s) (entryFrame m ([Value.ref b] : List Value).toArray 4) := by
  obtain ⟨hx, hb, hr, hml, hown, hts, hX, hbl, hlocks, hgv⟩ := id C0
  obtain ⟨D, cI, cJ, ad, adV, hE, ha0, had⟩ := lw_env hts hgv
  have htz : ∀ w ∈ z_tbl, w.before #[Value.ref b] s = true := fun w hw => hts w (List.mem_filter.mp hw).1
  have C : zCtx p room_1 s m #[Value.ref b] meth c (mLaw meth.name) := ⟨hx, hb, hml, hown, htz, hr, hlocks, rfl, Nat.le_refl _, Nat.le_refl _⟩
  have I0 : zI D cI cJ ad adV zM0 s s.heap [] := ⟨hE, by omega, fun k q h => (by simp [zws, zn, zM0] at h), va_S.rf, ha0.symm, ⟨Nat.zero_le _, had, fun q _ => rfl⟩⟩
  have hl := lv_entry ([.ref b]) (n := 4) (Nat.le_of_ble_eq_true rfl)
  rw [lg_entry_eq]
  generalize (lg_sl ([.ref b]) ++ List.replicate (4 - (lg_sl ([.ref b])).length) Slot.unset).toArray = ls at hl ⊢
  have hl : lv_has ls 4 [(0, .ref b)] := hl
  refine lw_new (ci := 0) C I0 (by decide) n_Law_7 (by decide) d_Law_0 rfl rfl (by decide) ⟨Nat.le_of_ble_eq_true rfl, Nat.le_of_ble_eq_true rfl⟩ (fun H1 I1 => ?_)
  refine lv_dup hx hb d_Law_3 rfl ?_
  refine lw_callI C I1 hl (q := 0) [] [.ref (ad 0)] l_Law_9 (k_TN l) rfl rfl ⟨Nat.le_of_ble_eq_true rfl, Nat.le_of_ble_eq_true rfl⟩ (Nat.le_of_ble_eq_true rfl) d_Law_4 rfl rfl ⟨Nat.le_of_ble_eq_true rfl, Nat.le_of_ble_eq_true rfl⟩ ?_
  rintro r1 M1 H2 locs2 ⟨rfl, b1, b2, b3, b4, T0, b5, b6⟩ hn1 hw1 I2
  refine lv_astore_n (lv' := [(1, .ref (ad 0)), (0, .ref b)]) hx hb d_Law_7 rfl hl (by decide) rfl (fun ls1 hl1 => ?_)
  have hn81 : zn M1 = 81 := hn1
  have hw81 : zw M1 = 6233 := hw1
  refine W.widen (k := 81) (n := 6233) (Nat.le_of_ble_eq_true rfl) (Nat.le_of_ble_eq_true rfl) ?_
  refine lw_new (ci := 11) C I2 (by decide) n_Law_10 (by decide) d_Law_8 hn81 hw81 (by decide) ⟨Nat.le_of_ble_eq_true rfl, Nat.le_of_ble_eq_true rfl⟩ (fun H3 I3 => ?_)
  refine lv_dup hx hb d_Law_11 rfl ?_
  have z1 : zn (zal M1 (11 + 3) (zN 11)) = 82 := by show zn M1 + 1 = 82; omega
  have z2 : (zsh (zal M1 (11 + 3) (zN 11)) 81).1 = 14 := by
    rw [← hn81, zal_sh]
  have z3 : ∀ j, zi (zal M1 (11 + 3) (zN 11)) 81 j = 0 := fun j => by
    show (if 81 = M1.1.1 then fun _ => 0 else M1.2.2.1 81) j = 0
    rw [if_pos (show 81 = M1.1.1 from hn81.symm)]
  refine lw_callI C I3 hl1 (q := 81) [] [.ref (ad 81)] l_Law_12 (w9_init l _ z1 z2 z3) rfl rfl ⟨Nat.le_of_ble_eq_true rfl, Nat.le_of_ble_eq_true rfl⟩ (Nat.le_of_ble_eq_true rfl) d_Law_12 z1 (by show zw M1 + 66 = 6299; omega) ⟨Nat.le_of_ble_eq_true rfl, Nat.le_of_ble_eq_true rfl⟩ ?_
  rintro r2 M3 H4 locs4 ⟨rfl, hol, hMt, hWd, hz1, T1, hr1⟩ hn3 hw3 I4
  refine lv_astore_n (lv' := [(2, .ref (ad 81)), (1, .ref (ad 0)), (0, .ref b)]) hx hb d_Law_15 rfl hl1 (by decide) rfl (fun ls2 hl2 => ?_)
  refine lv_iconst (v := 0) hx hb d_Law_16 (by decide) ?_
  refine lv_istore_n (lv' := [(3, .int 0), (2, .ref (ad 81)), (1, .ref (ad 0)), (0, .ref b)]) hx hb d_Law_17 rfl hl2 (by decide) rfl (fun ls3 hl3 => ?_)
  have hl4 : lv_has ls3 4 (zlw b ad 0) := lv_sub hl3 [3, 2, 1, 0] rfl
  obtain ⟨f1, f2, f3, f4, f5, f6, f7, f8⟩ := zMT_facts
  have hT : zTy 81 zMT := zTy_of zMT_ty
  have old : ∀ q, q < 81 → zsh M3 q = zsh M1 q ∧ zf M3 q = zf M1 q ∧ zi M3 q = zi M1 q := by
    intro q hq
    obtain ⟨o1, o2, o3, o4⟩ := hol
    obtain ⟨k1, k2, k3, k4⟩ := zmk_old _ z1 q hq
    have hne : ¬ q = M1.1.1 := by have : M1.1.1 = 81 := hn81; omega
    have a1 : zsh (zal M1 (11 + 3) (zN 11)) q = zsh M1 q := if_neg hne
    have a2 : zf (zal M1 (11 + 3) (zN 11)) q = zf M1 q := if_neg hne
    have a3 : zi (zal M1 (11 + 3) (zN 11)) q = zi M1 q := if_neg hne
    exact ⟨by rw [o2, k1, a1], by rw [o3, k2, a2], by rw [(o4 q hq).1, k3, a3]⟩
  have old3 : ∀ q, q < 81 → zi M3 q = zi M1 q ∧ zj M3 q = zj M1 q := by
    intro q hq
    obtain ⟨o1, o2, o3, o4⟩ := hol
    obtain ⟨k1, k2, k3, k4⟩ := zmk_old _ z1 q hq
    have hne : ¬ q = M1.1.1 := by have : M1.1.1 = 81 := hn81; omega
    have a3 : zi (zal M1 (11 + 3) (zN 11)) q = zi M1 q := if_neg hne
    have a4 : zj (zal M1 (11 + 3) (zN 11)) q = zj M1 q := if_neg hne
    exact ⟨by rw [(o4 q hq).1, k3, a3], by rw [(o4 q hq).2, k4, a4]⟩
  obtain ⟨k1, k2, k3, k4, k5⟩ := zMT_K
  have hz11 : ze M3 1 1 = 0 := by
    unfold ze
    rw [(old 1 (by decide)).2.2, b4, f6]
    rfl
  have shM : ∀ q, q < 81 → zsh M3 q = zsh zMT q := fun q hq => by rw [(old q hq).1, b2]
  have fM : ∀ q, q < 81 → zf M3 q = zf zMT q := fun q hq => by rw [(old q hq).2.1, b3]
  have hkx : zKx M3 := ⟨zKW_of hn3 (Or.inl rfl) shM fM k1 k2, zKW_of hn3 (Or.inr rfl) shM fM k1 k3, 5, 43, Or.inl ⟨rfl, rfl⟩, by rw [fM 0 (by decide)]; exact k4, by rw [fM 0 (by decide)]; exact k5⟩
  have hbb : zLb M3 := zLb.z ⟨hn3, hw3, zTy_same (zTy_q hT b2 b3) (fun q hq => (old q hq).1) (fun q hq => (old q hq).2.1), by rw [(old 0 (by decide)).1, b2]; exact f3, by rw [(old 1 (by decide)).1, b2]; exact f5, by rw [(old 0 (by decide)).2.1, b3]; exact f4, hMt, hWd, hkx⟩ hz11 hz1
  have hks : zKXn 1 [] T0 [] zS00 5 M3 := zKXn.ee (fun o ho => old3 (5 + o) (by omega)) b6
  have eT := zTm_uq b5 hr1.1.2.1
  rw [eT] at hks
  have hb0 : zLv M3 := ⟨hbb, 1, [], T1, [], zS00, 5, by rw [fM 0 (by decide)]; exact k4, hkx.1, hr1, hks, zSB_0⟩
  exact lw_loop hL C hX ha0 hbl hr hlocks _ M3 H4 locs4 ls3 0 (Nat.lt_succ_self _) hb0 I4 hl4 (by decide) (by decide)
set_option maxHeartbeats 4000000 in
theorem lw_walk (l : Launch) (hflags : l.flags = flags0) (b : Addr) (xs : List Int32) : MetFree l x (headSpec (Jvm.Cond.code x code maxLocals ret :: tables_1) room_1) (lw_P b xs) (fun _ _ _ _ _ => True) lw_Q := by
  refine MetFree.of_bodyS (code := code) (maxLocals := maxLocals) (ret := ret) (by decide) ?_ ?_
  · intro args s m h hn
    obtain ⟨meth, c, h1, h2, h3, h4, h5, h6, -, -⟩ := Cond.code_spec hn (atoms_spec (ws := Jvm.Cond.code x code maxLocals ret :: tables_1) h _ List.mem_cons_self)
    exact ⟨meth, c, h1, h2, h3, h4, h5, h6⟩
  · intro p e s m args below meth c s₁ B hml0 hP _
    obtain ⟨rfl, hx, hbd, hgv⟩ := hP
    obtain ⟨scr, harrAt, hlist, hof, hsmall⟩ := hx
    obtain ⟨hcb, hkn, -, -⟩ := State.arrayAt?_spec harrAt
    have hown : s.vm.findClass R_law = some m.cls := findClass_of_methodNamed B.named
    have hts0 : ∀ c ∈ (Jvm.Cond.code x code maxLocals ret :: tables_1), c.before #[Value.ref b] s = true := atoms_spec (ws := Jvm.Cond.code x code maxLocals ret :: tables_1) B.pre
    have hts : ∀ w ∈ lw_tbl, w.before #[Value.ref b] s = true := k2_hts_sels lw_privs (fun w hw => hts0 w (List.mem_cons_of_mem _ hw)) lw_privs_ok
    have hml : c.maxLocals = 4 := B.maxLocals_eq (hts0 _ List.mem_cons_self)
    have X₀ : Stand p l e room_1 s m #[Value.ref b] below meth c s₁ [] 0 0 := Stand.of_body B
    have hh0 : s₁.heap = s.heap := by rw [B.state]; rfl
    have hsz : scr.slots.size = xs.length := by rw [← Array.length_toList, hlist, List.length_map]
    have hval : ∀ j : Nat, j < xs.length → scr.slots[j]? = some (.int (xs.getD j 0)) := fun j hj => by
      rw [← Array.getElem?_toList, hlist]
      simp [hj]
    have hbl : b < s.heap.size := (Array.getElem?_eq_some_iff.mp hcb).1
    have hX : va_X b xs.length (fun j => xs.getD j 0) s s.heap := ⟨scr, hcb, hof, hkn, hsz, hval⟩
    have K : W p l e room_1 s m #[Value.ref b] below meth c s₁.heap [] 0 0 (lw_Z below #[Value.ref b] s) (entryFrame m ([Value.ref b] : List Value).toArray 4) := by
      rw [hh0]
      exact whole_start l hflags hbd ⟨B.exec, B.bytes, B.returns, hml, hown, hts, hX, hbl, B.notSynchronized, hgv⟩
    obtain ⟨t, a1, o, b1, b2, b3⟩ := K s₁ rfl X₀
    exact ⟨t, o, a1, b1, b2, b3⟩
theorem lw_pre_spec {args : Array Value} {s : State} (h : (Jvm.Cond.and given_1 narrow_1).before args s = true) (hr : rest_1_c.before args s = true) : ∃ (b : Addr) (xs : List Int32), lw_P b xs args s := by
  have hs := flat_of_before _ h
  have hq := flat_of_before _ hr
  have hc : (Cond.count 1).before args s = true := hs _ (by decide +kernel)
  have harr : (Cond.arrayOf (.arg 0) .int).before args s = true := hs _ (by decide +kernel)
  have hle : (Cond.le (.length (.arg 0)) (.int 3072)).before args s = true := hs _ (by decide +kernel)
  have hlen : (Cond.isInt (.length (.arg 0))).before args s = true := hq _ (by decide +kernel)
  have hall : (Cond.all (.arg 0) (.isInt (.elem (.arg 0) (.index 0)))).before args s = true := hq _ (by decide +kernel)
  obtain ⟨b, xs, hb, hx⟩ := State.ints_of_pre rfl harr hlen hall
  have hsm : xs.length < 2 ^ 31 := hx.choose_spec.2.2.2
  have hev : (Term.length (.arg 0)).eval args s none [] s = some (.int xs.length.toInt32) := hx.length_eval hb
  have hv := Cond.le_ints hev (show (Term.int 3072).eval args s none [] s = some (.int 3072) from rfl)
  have hd : xs.length.toInt32 ≤ 3072 := by
    simpa [Cond.before, Cond.holds, hv] using hle
  have hN : xs.length ≤ 3072 := (Int32.ofNat_le_ofNat hsm (by decide)).mp (show Int32.ofNat xs.length ≤ Int32.ofNat 3072 from hd)
  exact ⟨b, xs, Cond.one_arg hc (show args[0]? = some (.ref b) from hb), hx, hN, h⟩
theorem lw_comes (l : Launch) (hflags : l.flags = flags0) : Comes l x (Jvm.Cond.code x code maxLocals ret :: tables_1) room_1 (fun tb e args s => Calls_1 tb e args s ∧ rest_1 tb e args s ∧ Pre_1 tb e args s)
    (fun _ _ args s o t => lw_Q args s o t) := by
  intro p e ha hc hk s m args below hf hfit hheap happ hpre
  obtain ⟨b, xs, hP⟩ := lw_pre_spec hpre.2.2 hpre.2.1
  obtain ⟨k, o, h1, h2, h3, hQ⟩ := lw_walk l hflags b xs p e ha hc hk s m args below hf ((Spec.applies_iff_loose hf).mp happ).1 hP trivial
  exact ⟨k, o, h1, h2, h3, hQ⟩
theorem lw_frame {s t : State} {o : Outcome} {args : Array Value} (h : Framed s o t [] 600000 7302250) :
    Framed s o t (fieldLocs frame_1_writes args s ++ arrayLocs frame_1_arrays args s ++ staticLocs frame_1_statics s) 600000 7302250 := h
theorem lw_limb (L : Cond) (hL : ∀ (args : Array Value) (s t : State), L.after args s (.returned (some (.int 1))) t = true) :
    ArmFor flags0 classFile x code maxLocals ret World_1 tables_1 room_1 Calls_1 rest_1 Pre_1
      (fun tb e a s o t => postC L tb e a s o t ∧ Framed s o t (fieldLocs frame_1_writes a s ++ arrayLocs frame_1_arrays a s ++ staticLocs frame_1_statics s) 600000 7302250) := by
  intro l hflags _ _ p e ha hc hk s m args below hf hfit hheap happ hpre
  obtain ⟨k, o, h1, h2, h3, rfl, hF⟩ := lw_comes l hflags p e ha hc hk s m args below hf hfit hheap happ hpre
  exact ⟨k, _, h1, h2, h3, hL args s _, lw_frame hF⟩
theorem i_vc : Claimed_1_1 ∧ Claimed_1_2 := ⟨lw_limb limb_1_1 (fun args s t => by simp [limb_1_1, Cond.after, Cond.holds, Cond.value]), lw_limb limb_1_2 (fun args s t => Cond.after_iff.mpr (by
  first | (rw [show limb_1_2 = Cond.eq .result (.int 1) from rfl, Cond.eq_ints (x := 1) (y := 1) rfl rfl]; simp; done) | (simp [limb_1_2, Cond.value, Term.eval]; done)))⟩
