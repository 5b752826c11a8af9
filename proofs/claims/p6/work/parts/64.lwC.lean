section LAWC
variable {p : Program} {l : Launch} {e : Env} {s : State} {m : MethodId} {below : List Frame} {meth : Method} {c : Code} {D : va_G} {cI cJ : ClassId} {ad adV : Nat → Nat} {nm : String} {H : Heap} {locs : List Loc} {ls : Array Slot} {M : zMem} {b L : Nat} {xs : Nat → Int32} {i : Int32}
theorem lc_32 (C : zCtx p room_1 s m #[Value.ref b] meth c (mLaw nm)) (hX : va_X b L xs s s.heap) (hbl : b < ad 0) (hb2 : b < s.heap.size) (I : zI D cI cJ ad adV M s H locs) (hl : lv_has ls 4 (zlw b ad i)) (hM : zLv M) (hi : ∀ k : Int32, 0 ≤ k.toInt → k.toInt ≤ 5 → vp_in (i + k) L) (kk : ∀ (M' : zMem) (H' : Heap) (locs' : List Loc), zLv M' → zI D cI cJ ad adV M' s H' locs' → W p l e room_1 s m #[Value.ref b] below meth c H' locs' 114 84410 (lw_Z below #[Value.ref b] s) (F0 m 1510 ls [])) : W p l e room_1 s m #[Value.ref b] below meth c H locs 114 84410 (lw_Z below #[Value.ref b] s) (F0 m 1178 ls []) := by
  have hx := C.1
  have hb : c.code = code := C.2.1
  have hbA : ¬ (fun q : Nat => ad 0 ≤ q) b := Nat.not_le.mpr hbl
  have hS := I.2.2.2.1
  have h0 := hM.1.1.c0
  have hn := hM.1.1.n
  refine lv_aload_n hx hb d_Law_1178 rfl (lv_at hl 1 rfl) ?_
  refine lv_aload_n hx hb d_Law_1179 rfl (lv_at hl 0 rfl) ?_
  refine lv_iload_n hx hb d_Law_1180 rfl (lv_at hl 3 rfl) ?_
  refine lv_iconst (v := 1) hx hb d_Law_1181 (by decide) ?_
  refine lv_iadd hx hb d_Law_1182 ?_
  refine va_sld hx hb hX hb2 hbA hS (hi 1 (by decide) (by decide)) d_Law_1183 ?_
  refine lv_aload_n hx hb d_Law_1184 rfl (lv_at hl 0 rfl) ?_
  refine lv_iload_n hx hb d_Law_1185 rfl (lv_at hl 3 rfl) ?_
  refine lv_iconst (v := 2) hx hb d_Law_1186 (by decide) ?_
  refine lv_iadd hx hb d_Law_1187 ?_
  refine va_sld hx hb hX hb2 hbA hS (hi 2 (by decide) (by decide)) d_Law_1188 ?_
  obtain ⟨Q1, hC1, hQ1⟩ := v9_unit l M hM (xs (i + 1).toNatClampNeg) (xs (i + 2).toNatClampNeg)
  refine lw_callV C I hl (q := 0) [.int (xs (i + 1).toNatClampNeg), .int (xs (i + 2).toNatClampNeg)] [] l_Law_147 hC1 rfl rfl h0 (by decide) ⟨Nat.le_of_ble_eq_true rfl, Nat.le_of_ble_eq_true rfl⟩ (by decide) d_Law_1189 hn.1 hn.2 ⟨Nat.le_of_ble_eq_true rfl, Nat.le_of_ble_eq_true rfl⟩ ?_
  rintro r1 M1 H1 locs1 hq - - I1
  obtain ⟨⟨v1, rfl, hcat1, hzv1⟩, hM1⟩ := hQ1 r1 M1 hq
  have hw1 := hM1.1.1
  have hS1 := I1.2.2.2.1
  have hn1 := hw1.n
  have hm1 := hw1.m
  refine lv_pop hx hb d_Law_1192 (by rw [hzv1]; exact hcat1) ?_
  refine lv_aload_n hx hb d_Law_1193 rfl (lv_at hl 2 rfl) ?_
  refine lv_aload_n hx hb d_Law_1194 rfl (lv_at hl 0 rfl) ?_
  refine lv_iload_n hx hb d_Law_1195 rfl (lv_at hl 3 rfl) ?_
  refine lv_iconst (v := 1) hx hb d_Law_1196 (by decide) ?_
  refine lv_iadd hx hb d_Law_1197 ?_
  refine va_sld hx hb hX hb2 hbA hS1 (hi 1 (by decide) (by decide)) d_Law_1198 ?_
  refine lv_aload_n hx hb d_Law_1199 rfl (lv_at hl 0 rfl) ?_
  refine lv_iload_n hx hb d_Law_1200 rfl (lv_at hl 3 rfl) ?_
  refine lv_iconst (v := 2) hx hb d_Law_1201 (by decide) ?_
  refine lv_iadd hx hb d_Law_1202 ?_
  refine va_sld hx hb hX hb2 hbA hS1 (hi 2 (by decide) (by decide)) d_Law_1203 ?_
  obtain ⟨Q2, hC2, hQ2⟩ := w9_unit l M1 hm1.1 hm1.2.1 (xs (i + 1).toNatClampNeg) (xs (i + 2).toNatClampNeg)
  refine lw_callV C I1 hl (q := 81) [.int (xs (i + 1).toNatClampNeg), .int (xs (i + 2).toNatClampNeg)] [] l_Law_150 hC2 rfl rfl hm1.2.2 (by decide) ⟨Nat.le_of_ble_eq_true rfl, Nat.le_of_ble_eq_true rfl⟩ (by decide) d_Law_1204 hn1.1 hn1.2 ⟨Nat.le_of_ble_eq_true rfl, Nat.le_of_ble_eq_true rfl⟩ ?_
  rintro r2 M2 H2 locs2 hq - - I2
  obtain ⟨⟨v2, rfl, hcat, hzv⟩, hg, h82, hr8⟩ := hQ2 r2 M2 hq
  refine lv_pop hx hb d_Law_1207 (by rw [hzv]; exact hcat) ?_
  refine lv_goto (tgt := 1510) hx hb d_Law_1208 (by decide) ?_
  exact kk M2 H2 locs2 ⟨hM1.1.ref hg h82, hM1.2.ref hg hr8⟩ I2
theorem lc_33 (C : zCtx p room_1 s m #[Value.ref b] meth c (mLaw nm)) (hX : va_X b L xs s s.heap) (hbl : b < ad 0) (hb2 : b < s.heap.size) (I : zI D cI cJ ad adV M s H locs) (hl : lv_has ls 4 (zlw b ad i)) (hM : zLv M) (hi : ∀ k : Int32, 0 ≤ k.toInt → k.toInt ≤ 5 → vp_in (i + k) L) (kk : ∀ (M' : zMem) (H' : Heap) (locs' : List Loc), zLv M' → zI D cI cJ ad adV M' s H' locs' → W p l e room_1 s m #[Value.ref b] below meth c H' locs' 114 84410 (lw_Z below #[Value.ref b] s) (F0 m 1510 ls [])) : W p l e room_1 s m #[Value.ref b] below meth c H locs 114 84410 (lw_Z below #[Value.ref b] s) (F0 m 1211 ls []) := by
  have hx := C.1
  have hb : c.code = code := C.2.1
  have hbA : ¬ (fun q : Nat => ad 0 ≤ q) b := Nat.not_le.mpr hbl
  have hS := I.2.2.2.1
  have h0 := hM.1.1.c0
  have hn := hM.1.1.n
  refine lv_aload_n hx hb d_Law_1211 rfl (lv_at hl 1 rfl) ?_
  refine lv_aload_n hx hb d_Law_1212 rfl (lv_at hl 0 rfl) ?_
  refine lv_iload_n hx hb d_Law_1213 rfl (lv_at hl 3 rfl) ?_
  refine lv_iconst (v := 1) hx hb d_Law_1214 (by decide) ?_
  refine lv_iadd hx hb d_Law_1215 ?_
  refine va_sld hx hb hX hb2 hbA hS (hi 1 (by decide) (by decide)) d_Law_1216 ?_
  refine lv_aload_n hx hb d_Law_1217 rfl (lv_at hl 0 rfl) ?_
  refine lv_iload_n hx hb d_Law_1218 rfl (lv_at hl 3 rfl) ?_
  refine lv_iconst (v := 2) hx hb d_Law_1219 (by decide) ?_
  refine lv_iadd hx hb d_Law_1220 ?_
  refine va_sld hx hb hX hb2 hbA hS (hi 2 (by decide) (by decide)) d_Law_1221 ?_
  obtain ⟨Q1, hC1, hQ1⟩ := v9_named l M hM (xs (i + 1).toNatClampNeg) (xs (i + 2).toNatClampNeg)
  refine lw_callV C I hl (q := 0) [.int (xs (i + 1).toNatClampNeg), .int (xs (i + 2).toNatClampNeg)] [] l_Law_151 hC1 rfl rfl h0 (by decide) ⟨Nat.le_of_ble_eq_true rfl, Nat.le_of_ble_eq_true rfl⟩ (by decide) d_Law_1222 hn.1 hn.2 ⟨Nat.le_of_ble_eq_true rfl, Nat.le_of_ble_eq_true rfl⟩ ?_
  rintro r1 M1 H1 locs1 hq - - I1
  obtain ⟨⟨v1, rfl, hcat1, hzv1⟩, hM1⟩ := hQ1 r1 M1 hq
  have hw1 := hM1.1.1
  have hS1 := I1.2.2.2.1
  have hn1 := hw1.n
  have hm1 := hw1.m
  refine lv_pop2_2 hx hb d_Law_1225 (by rw [hzv1]; exact hcat1) ?_
  refine lv_aload_n hx hb d_Law_1226 rfl (lv_at hl 2 rfl) ?_
  refine lv_aload_n hx hb d_Law_1227 rfl (lv_at hl 0 rfl) ?_
  refine lv_iload_n hx hb d_Law_1228 rfl (lv_at hl 3 rfl) ?_
  refine lv_iconst (v := 1) hx hb d_Law_1229 (by decide) ?_
  refine lv_iadd hx hb d_Law_1230 ?_
  refine va_sld hx hb hX hb2 hbA hS1 (hi 1 (by decide) (by decide)) d_Law_1231 ?_
  refine lv_aload_n hx hb d_Law_1232 rfl (lv_at hl 0 rfl) ?_
  refine lv_iload_n hx hb d_Law_1233 rfl (lv_at hl 3 rfl) ?_
  refine lv_iconst (v := 2) hx hb d_Law_1234 (by decide) ?_
  refine lv_iadd hx hb d_Law_1235 ?_
  refine va_sld hx hb hX hb2 hbA hS1 (hi 2 (by decide) (by decide)) d_Law_1236 ?_
  obtain ⟨Q2, hC2, hQ2⟩ := w9_named l M1 hm1.1 hm1.2.1 (xs (i + 1).toNatClampNeg) (xs (i + 2).toNatClampNeg)
  refine lw_callV C I1 hl (q := 81) [.int (xs (i + 1).toNatClampNeg), .int (xs (i + 2).toNatClampNeg)] [] l_Law_155 hC2 rfl rfl hm1.2.2 (by decide) ⟨Nat.le_of_ble_eq_true rfl, Nat.le_of_ble_eq_true rfl⟩ (by decide) d_Law_1237 hn1.1 hn1.2 ⟨Nat.le_of_ble_eq_true rfl, Nat.le_of_ble_eq_true rfl⟩ ?_
  rintro r2 M2 H2 locs2 hq - - I2
  obtain ⟨⟨v2, rfl, hcat, hzv⟩, hg, h82, hr8⟩ := hQ2 r2 M2 hq
  refine lv_pop2_2 hx hb d_Law_1240 (by rw [hzv]; exact hcat) ?_
  refine lv_goto (tgt := 1510) hx hb d_Law_1241 (by decide) ?_
  exact kk M2 H2 locs2 ⟨hM1.1.ref hg h82, hM1.2.ref hg hr8⟩ I2
theorem lc_34 (C : zCtx p room_1 s m #[Value.ref b] meth c (mLaw nm)) (hX : va_X b L xs s s.heap) (hbl : b < ad 0) (hb2 : b < s.heap.size) (I : zI D cI cJ ad adV M s H locs) (hl : lv_has ls 4 (zlw b ad i)) (hM : zLv M) (hi : ∀ k : Int32, 0 ≤ k.toInt → k.toInt ≤ 5 → vp_in (i + k) L) (kk : ∀ (M' : zMem) (H' : Heap) (locs' : List Loc), zLv M' → zI D cI cJ ad adV M' s H' locs' → W p l e room_1 s m #[Value.ref b] below meth c H' locs' 114 84410 (lw_Z below #[Value.ref b] s) (F0 m 1510 ls [])) : W p l e room_1 s m #[Value.ref b] below meth c H locs 114 84410 (lw_Z below #[Value.ref b] s) (F0 m 1244 ls []) := by
  have hx := C.1
  have hb : c.code = code := C.2.1
  have hbA : ¬ (fun q : Nat => ad 0 ≤ q) b := Nat.not_le.mpr hbl
  have hS := I.2.2.2.1
  have h0 := hM.1.1.c0
  have hn := hM.1.1.n
  refine lv_aload_n hx hb d_Law_1244 rfl (lv_at hl 1 rfl) ?_
  refine lv_aload_n hx hb d_Law_1245 rfl (lv_at hl 0 rfl) ?_
  refine lv_iload_n hx hb d_Law_1246 rfl (lv_at hl 3 rfl) ?_
  refine lv_iconst (v := 1) hx hb d_Law_1247 (by decide) ?_
  refine lv_iadd hx hb d_Law_1248 ?_
  refine va_sld hx hb hX hb2 hbA hS (hi 1 (by decide) (by decide)) d_Law_1249 ?_
  obtain ⟨Q1, hC1, hQ1⟩ := v9_has l M hM (xs (i + 1).toNatClampNeg)
  refine lw_callV C I hl (q := 0) [.int (xs (i + 1).toNatClampNeg)] [] l_Law_156 hC1 rfl rfl h0 (by decide) ⟨Nat.le_of_ble_eq_true rfl, Nat.le_of_ble_eq_true rfl⟩ (by decide) d_Law_1250 hn.1 hn.2 ⟨Nat.le_of_ble_eq_true rfl, Nat.le_of_ble_eq_true rfl⟩ ?_
  rintro r1 M1 H1 locs1 hq - - I1
  obtain ⟨⟨v1, rfl, hcat1, hzv1⟩, hM1⟩ := hQ1 r1 M1 hq
  have hw1 := hM1.1.1
  have hS1 := I1.2.2.2.1
  have hn1 := hw1.n
  have hm1 := hw1.m
  refine lv_pop2_2 hx hb d_Law_1253 (by rw [hzv1]; exact hcat1) ?_
  refine lv_aload_n hx hb d_Law_1254 rfl (lv_at hl 2 rfl) ?_
  refine lv_aload_n hx hb d_Law_1255 rfl (lv_at hl 0 rfl) ?_
  refine lv_iload_n hx hb d_Law_1256 rfl (lv_at hl 3 rfl) ?_
  refine lv_iconst (v := 1) hx hb d_Law_1257 (by decide) ?_
  refine lv_iadd hx hb d_Law_1258 ?_
  refine va_sld hx hb hX hb2 hbA hS1 (hi 1 (by decide) (by decide)) d_Law_1259 ?_
  obtain ⟨Q2, hC2, hQ2⟩ := w9_has l M1 hm1.1 hm1.2.1 (xs (i + 1).toNatClampNeg)
  refine lw_callV C I1 hl (q := 81) [.int (xs (i + 1).toNatClampNeg)] [] l_Law_160 hC2 rfl rfl hm1.2.2 (by decide) ⟨Nat.le_of_ble_eq_true rfl, Nat.le_of_ble_eq_true rfl⟩ (by decide) d_Law_1260 hn1.1 hn1.2 ⟨Nat.le_of_ble_eq_true rfl, Nat.le_of_ble_eq_true rfl⟩ ?_
  rintro r2 M2 H2 locs2 hq - - I2
  obtain ⟨⟨v2, rfl, hcat, hzv⟩, hg, h82, hr8⟩ := hQ2 r2 M2 hq
  refine lv_pop2_2 hx hb d_Law_1263 (by rw [hzv]; exact hcat) ?_
  refine lv_goto (tgt := 1510) hx hb d_Law_1264 (by decide) ?_
  exact kk M2 H2 locs2 ⟨hM1.1.ref hg h82, hM1.2.ref hg hr8⟩ I2
theorem lc_35 (C : zCtx p room_1 s m #[Value.ref b] meth c (mLaw nm)) (hX : va_X b L xs s s.heap) (hbl : b < ad 0) (hb2 : b < s.heap.size) (I : zI D cI cJ ad adV M s H locs) (hl : lv_has ls 4 (zlw b ad i)) (hM : zLv M) (hi : ∀ k : Int32, 0 ≤ k.toInt → k.toInt ≤ 5 → vp_in (i + k) L) (kk : ∀ (M' : zMem) (H' : Heap) (locs' : List Loc), zLv M' → zI D cI cJ ad adV M' s H' locs' → W p l e room_1 s m #[Value.ref b] below meth c H' locs' 114 84410 (lw_Z below #[Value.ref b] s) (F0 m 1510 ls [])) : W p l e room_1 s m #[Value.ref b] below meth c H locs 114 84410 (lw_Z below #[Value.ref b] s) (F0 m 1267 ls []) := by
  have hx := C.1
  have hb : c.code = code := C.2.1
  have hbA : ¬ (fun q : Nat => ad 0 ≤ q) b := Nat.not_le.mpr hbl
  have hS := I.2.2.2.1
  have h0 := hM.1.1.c0
  have hn := hM.1.1.n
  refine lv_aload_n hx hb d_Law_1267 rfl (lv_at hl 1 rfl) ?_
  refine lv_aload_n hx hb d_Law_1268 rfl (lv_at hl 0 rfl) ?_
  refine lv_iload_n hx hb d_Law_1269 rfl (lv_at hl 3 rfl) ?_
  refine lv_iconst (v := 1) hx hb d_Law_1270 (by decide) ?_
  refine lv_iadd hx hb d_Law_1271 ?_
  refine va_sld hx hb hX hb2 hbA hS (hi 1 (by decide) (by decide)) d_Law_1272 ?_
  obtain ⟨Q1, hC1, hQ1⟩ := v9_marked l M hM (xs (i + 1).toNatClampNeg)
  refine lw_callV C I hl (q := 0) [.int (xs (i + 1).toNatClampNeg)] [] l_Law_161 hC1 rfl rfl h0 (by decide) ⟨Nat.le_of_ble_eq_true rfl, Nat.le_of_ble_eq_true rfl⟩ (by decide) d_Law_1273 hn.1 hn.2 ⟨Nat.le_of_ble_eq_true rfl, Nat.le_of_ble_eq_true rfl⟩ ?_
  rintro r1 M1 H1 locs1 hq - - I1
  obtain ⟨⟨v1, rfl, hcat1, hzv1⟩, hM1⟩ := hQ1 r1 M1 hq
  have hw1 := hM1.1.1
  have hS1 := I1.2.2.2.1
  have hn1 := hw1.n
  have hm1 := hw1.m
  refine lv_pop2_2 hx hb d_Law_1276 (by rw [hzv1]; exact hcat1) ?_
  refine lv_aload_n hx hb d_Law_1277 rfl (lv_at hl 2 rfl) ?_
  refine lv_aload_n hx hb d_Law_1278 rfl (lv_at hl 0 rfl) ?_
  refine lv_iload_n hx hb d_Law_1279 rfl (lv_at hl 3 rfl) ?_
  refine lv_iconst (v := 1) hx hb d_Law_1280 (by decide) ?_
  refine lv_iadd hx hb d_Law_1281 ?_
  refine va_sld hx hb hX hb2 hbA hS1 (hi 1 (by decide) (by decide)) d_Law_1282 ?_
  obtain ⟨Q2, hC2, hQ2⟩ := w9_marked l M1 hm1.1 hm1.2.1 (xs (i + 1).toNatClampNeg)
  refine lw_callV C I1 hl (q := 81) [.int (xs (i + 1).toNatClampNeg)] [] l_Law_164 hC2 rfl rfl hm1.2.2 (by decide) ⟨Nat.le_of_ble_eq_true rfl, Nat.le_of_ble_eq_true rfl⟩ (by decide) d_Law_1283 hn1.1 hn1.2 ⟨Nat.le_of_ble_eq_true rfl, Nat.le_of_ble_eq_true rfl⟩ ?_
  rintro r2 M2 H2 locs2 hq - - I2
  obtain ⟨⟨v2, rfl, hcat, hzv⟩, hg, h82, hr8⟩ := hQ2 r2 M2 hq
  refine lv_pop2_2 hx hb d_Law_1286 (by rw [hzv]; exact hcat) ?_
  refine lv_goto (tgt := 1510) hx hb d_Law_1287 (by decide) ?_
  exact kk M2 H2 locs2 ⟨hM1.1.ref hg h82, hM1.2.ref hg hr8⟩ I2
theorem lc_36 (C : zCtx p room_1 s m #[Value.ref b] meth c (mLaw nm)) (hX : va_X b L xs s s.heap) (hbl : b < ad 0) (hb2 : b < s.heap.size) (I : zI D cI cJ ad adV M s H locs) (hl : lv_has ls 4 (zlw b ad i)) (hM : zLv M) (hi : ∀ k : Int32, 0 ≤ k.toInt → k.toInt ≤ 5 → vp_in (i + k) L) (kk : ∀ (M' : zMem) (H' : Heap) (locs' : List Loc), zLv M' → zI D cI cJ ad adV M' s H' locs' → W p l e room_1 s m #[Value.ref b] below meth c H' locs' 114 84410 (lw_Z below #[Value.ref b] s) (F0 m 1510 ls [])) : W p l e room_1 s m #[Value.ref b] below meth c H locs 114 84410 (lw_Z below #[Value.ref b] s) (F0 m 1290 ls []) := by
  have hx := C.1
  have hb : c.code = code := C.2.1
  have hbA : ¬ (fun q : Nat => ad 0 ≤ q) b := Nat.not_le.mpr hbl
  have hS := I.2.2.2.1
  have h0 := hM.1.1.c0
  have hn := hM.1.1.n
  refine lv_aload_n hx hb d_Law_1290 rfl (lv_at hl 1 rfl) ?_
  refine lv_aload_n hx hb d_Law_1291 rfl (lv_at hl 0 rfl) ?_
  refine lv_iload_n hx hb d_Law_1292 rfl (lv_at hl 3 rfl) ?_
  refine lv_iconst (v := 1) hx hb d_Law_1293 (by decide) ?_
  refine lv_iadd hx hb d_Law_1294 ?_
  refine va_sld hx hb hX hb2 hbA hS (hi 1 (by decide) (by decide)) d_Law_1295 ?_
  obtain ⟨Q1, hC1, hQ1⟩ := v9_character l M hM (xs (i + 1).toNatClampNeg)
  refine lw_callV C I hl (q := 0) [.int (xs (i + 1).toNatClampNeg)] [] l_Law_165 hC1 rfl rfl h0 (by decide) ⟨Nat.le_of_ble_eq_true rfl, Nat.le_of_ble_eq_true rfl⟩ (by decide) d_Law_1296 hn.1 hn.2 ⟨Nat.le_of_ble_eq_true rfl, Nat.le_of_ble_eq_true rfl⟩ ?_
  rintro r1 M1 H1 locs1 hq - - I1
  obtain ⟨⟨v1, rfl, hcat1, hzv1⟩, hM1⟩ := hQ1 r1 M1 hq
  have hw1 := hM1.1.1
  have hS1 := I1.2.2.2.1
  have hn1 := hw1.n
  have hm1 := hw1.m
  refine lv_pop2_2 hx hb d_Law_1299 (by rw [hzv1]; exact hcat1) ?_
  refine lv_aload_n hx hb d_Law_1300 rfl (lv_at hl 2 rfl) ?_
  refine lv_aload_n hx hb d_Law_1301 rfl (lv_at hl 0 rfl) ?_
  refine lv_iload_n hx hb d_Law_1302 rfl (lv_at hl 3 rfl) ?_
  refine lv_iconst (v := 1) hx hb d_Law_1303 (by decide) ?_
  refine lv_iadd hx hb d_Law_1304 ?_
  refine va_sld hx hb hX hb2 hbA hS1 (hi 1 (by decide) (by decide)) d_Law_1305 ?_
  obtain ⟨Q2, hC2, hQ2⟩ := w9_character l M1 hm1.1 hm1.2.1 (xs (i + 1).toNatClampNeg)
  refine lw_callV C I1 hl (q := 81) [.int (xs (i + 1).toNatClampNeg)] [] l_Law_168 hC2 rfl rfl hm1.2.2 (by decide) ⟨Nat.le_of_ble_eq_true rfl, Nat.le_of_ble_eq_true rfl⟩ (by decide) d_Law_1306 hn1.1 hn1.2 ⟨Nat.le_of_ble_eq_true rfl, Nat.le_of_ble_eq_true rfl⟩ ?_
  rintro r2 M2 H2 locs2 hq - - I2
  obtain ⟨⟨v2, rfl, hcat, hzv⟩, hg, h82, hr8⟩ := hQ2 r2 M2 hq
  refine lv_pop2_2 hx hb d_Law_1309 (by rw [hzv]; exact hcat) ?_
  refine lv_goto (tgt := 1510) hx hb d_Law_1310 (by decide) ?_
  exact kk M2 H2 locs2 ⟨hM1.1.ref hg h82, hM1.2.ref hg hr8⟩ I2
theorem lc_37 (C : zCtx p room_1 s m #[Value.ref b] meth c (mLaw nm)) (hX : va_X b L xs s s.heap) (hbl : b < ad 0) (hb2 : b < s.heap.size) (I : zI D cI cJ ad adV M s H locs) (hl : lv_has ls 4 (zlw b ad i)) (hM : zLv M) (hi : ∀ k : Int32, 0 ≤ k.toInt → k.toInt ≤ 5 → vp_in (i + k) L) (kk : ∀ (M' : zMem) (H' : Heap) (locs' : List Loc), zLv M' → zI D cI cJ ad adV M' s H' locs' → W p l e room_1 s m #[Value.ref b] below meth c H' locs' 114 84410 (lw_Z below #[Value.ref b] s) (F0 m 1510 ls [])) : W p l e room_1 s m #[Value.ref b] below meth c H locs 114 84410 (lw_Z below #[Value.ref b] s) (F0 m 1313 ls []) := by
  have hx := C.1
  have hb : c.code = code := C.2.1
  have hbA : ¬ (fun q : Nat => ad 0 ≤ q) b := Nat.not_le.mpr hbl
  have hS := I.2.2.2.1
  have h0 := hM.1.1.c0
  have hn := hM.1.1.n
  refine lv_aload_n hx hb d_Law_1313 rfl (lv_at hl 1 rfl) ?_
  obtain ⟨Q1, hC1, hQ1⟩ := v9_parts l M hM 
  refine lw_callV C I hl (q := 0) [] [] l_Law_169 hC1 rfl rfl h0 (by decide) ⟨Nat.le_of_ble_eq_true rfl, Nat.le_of_ble_eq_true rfl⟩ (by decide) d_Law_1314 hn.1 hn.2 ⟨Nat.le_of_ble_eq_true rfl, Nat.le_of_ble_eq_true rfl⟩ ?_
  rintro r1 M1 H1 locs1 hq - - I1
  obtain ⟨⟨v1, rfl, hcat1, hzv1⟩, hM1⟩ := hQ1 r1 M1 hq
  have hw1 := hM1.1.1
  have hS1 := I1.2.2.2.1
  have hn1 := hw1.n
  have hm1 := hw1.m
  refine lv_pop hx hb d_Law_1317 (by rw [hzv1]; exact hcat1) ?_
  refine lv_aload_n hx hb d_Law_1318 rfl (lv_at hl 2 rfl) ?_
  obtain ⟨Q2, hC2, hQ2⟩ := w9_parts l M1 hm1.1 hm1.2.1 
  refine lw_callV C I1 hl (q := 81) [] [] l_Law_172 hC2 rfl rfl hm1.2.2 (by decide) ⟨Nat.le_of_ble_eq_true rfl, Nat.le_of_ble_eq_true rfl⟩ (by decide) d_Law_1319 hn1.1 hn1.2 ⟨Nat.le_of_ble_eq_true rfl, Nat.le_of_ble_eq_true rfl⟩ ?_
  rintro r2 M2 H2 locs2 hq - - I2
  obtain ⟨⟨v2, rfl, hcat, hzv⟩, hg, h82, hr8⟩ := hQ2 r2 M2 hq
  refine lv_pop hx hb d_Law_1322 (by rw [hzv]; exact hcat) ?_
  refine lv_goto (tgt := 1510) hx hb d_Law_1323 (by decide) ?_
  exact kk M2 H2 locs2 ⟨hM1.1.ref hg h82, hM1.2.ref hg hr8⟩ I2
theorem lc_38 (C : zCtx p room_1 s m #[Value.ref b] meth c (mLaw nm)) (hX : va_X b L xs s s.heap) (hbl : b < ad 0) (hb2 : b < s.heap.size) (I : zI D cI cJ ad adV M s H locs) (hl : lv_has ls 4 (zlw b ad i)) (hM : zLv M) (hi : ∀ k : Int32, 0 ≤ k.toInt → k.toInt ≤ 5 → vp_in (i + k) L) (kk : ∀ (M' : zMem) (H' : Heap) (locs' : List Loc), zLv M' → zI D cI cJ ad adV M' s H' locs' → W p l e room_1 s m #[Value.ref b] below meth c H' locs' 114 84410 (lw_Z below #[Value.ref b] s) (F0 m 1510 ls [])) : W p l e room_1 s m #[Value.ref b] below meth c H locs 114 84410 (lw_Z below #[Value.ref b] s) (F0 m 1326 ls []) := by
  have hx := C.1
  have hb : c.code = code := C.2.1
  have hbA : ¬ (fun q : Nat => ad 0 ≤ q) b := Nat.not_le.mpr hbl
  have hS := I.2.2.2.1
  have h0 := hM.1.1.c0
  have hn := hM.1.1.n
  refine lv_aload_n hx hb d_Law_1326 rfl (lv_at hl 1 rfl) ?_
  refine lv_aload_n hx hb d_Law_1327 rfl (lv_at hl 0 rfl) ?_
  refine lv_iload_n hx hb d_Law_1328 rfl (lv_at hl 3 rfl) ?_
  refine lv_iconst (v := 1) hx hb d_Law_1329 (by decide) ?_
  refine lv_iadd hx hb d_Law_1330 ?_
  refine va_sld hx hb hX hb2 hbA hS (hi 1 (by decide) (by decide)) d_Law_1331 ?_
  obtain ⟨Q1, hC1, hQ1⟩ := v9_congruence l M hM (xs (i + 1).toNatClampNeg)
  refine lw_callV C I hl (q := 0) [.int (xs (i + 1).toNatClampNeg)] [] l_Law_173 hC1 rfl rfl h0 (by decide) ⟨Nat.le_of_ble_eq_true rfl, Nat.le_of_ble_eq_true rfl⟩ (by decide) d_Law_1332 hn.1 hn.2 ⟨Nat.le_of_ble_eq_true rfl, Nat.le_of_ble_eq_true rfl⟩ ?_
  rintro r1 M1 H1 locs1 hq - - I1
  obtain ⟨⟨v1, rfl, hcat1, hzv1⟩, hM1⟩ := hQ1 r1 M1 hq
  have hw1 := hM1.1.1
  have hS1 := I1.2.2.2.1
  have hn1 := hw1.n
  have hm1 := hw1.m
  refine lv_pop2_2 hx hb d_Law_1335 (by rw [hzv1]; exact hcat1) ?_
  refine lv_aload_n hx hb d_Law_1336 rfl (lv_at hl 2 rfl) ?_
  refine lv_aload_n hx hb d_Law_1337 rfl (lv_at hl 0 rfl) ?_
  refine lv_iload_n hx hb d_Law_1338 rfl (lv_at hl 3 rfl) ?_
  refine lv_iconst (v := 1) hx hb d_Law_1339 (by decide) ?_
  refine lv_iadd hx hb d_Law_1340 ?_
  refine va_sld hx hb hX hb2 hbA hS1 (hi 1 (by decide) (by decide)) d_Law_1341 ?_
  obtain ⟨Q2, hC2, hQ2⟩ := w9_congruence l M1 hm1.1 hm1.2.1 (xs (i + 1).toNatClampNeg)
  refine lw_callV C I1 hl (q := 81) [.int (xs (i + 1).toNatClampNeg)] [] l_Law_176 hC2 rfl rfl hm1.2.2 (by decide) ⟨Nat.le_of_ble_eq_true rfl, Nat.le_of_ble_eq_true rfl⟩ (by decide) d_Law_1342 hn1.1 hn1.2 ⟨Nat.le_of_ble_eq_true rfl, Nat.le_of_ble_eq_true rfl⟩ ?_
  rintro r2 M2 H2 locs2 hq - - I2
  obtain ⟨⟨v2, rfl, hcat, hzv⟩, hg, h82, hr8⟩ := hQ2 r2 M2 hq
  refine lv_pop2_2 hx hb d_Law_1345 (by rw [hzv]; exact hcat) ?_
  refine lv_goto (tgt := 1510) hx hb d_Law_1346 (by decide) ?_
  exact kk M2 H2 locs2 ⟨hM1.1.ref hg h82, hM1.2.ref hg hr8⟩ I2
theorem lc_39 (C : zCtx p room_1 s m #[Value.ref b] meth c (mLaw nm)) (hX : va_X b L xs s s.heap) (hbl : b < ad 0) (hb2 : b < s.heap.size) (I : zI D cI cJ ad adV M s H locs) (hl : lv_has ls 4 (zlw b ad i)) (hM : zLv M) (hi : ∀ k : Int32, 0 ≤ k.toInt → k.toInt ≤ 5 → vp_in (i + k) L) (kk : ∀ (M' : zMem) (H' : Heap) (locs' : List Loc), zLv M' → zI D cI cJ ad adV M' s H' locs' → W p l e room_1 s m #[Value.ref b] below meth c H' locs' 114 84410 (lw_Z below #[Value.ref b] s) (F0 m 1510 ls [])) : W p l e room_1 s m #[Value.ref b] below meth c H locs 114 84410 (lw_Z below #[Value.ref b] s) (F0 m 1349 ls []) := by
  have hx := C.1
  have hb : c.code = code := C.2.1
  have hbA : ¬ (fun q : Nat => ad 0 ≤ q) b := Nat.not_le.mpr hbl
  have hS := I.2.2.2.1
  have h0 := hM.1.1.c0
  have hn := hM.1.1.n
  refine lv_aload_n hx hb d_Law_1349 rfl (lv_at hl 1 rfl) ?_
  refine lv_aload_n hx hb d_Law_1350 rfl (lv_at hl 0 rfl) ?_
  refine lv_iload_n hx hb d_Law_1351 rfl (lv_at hl 3 rfl) ?_
  refine lv_iconst (v := 1) hx hb d_Law_1352 (by decide) ?_
  refine lv_iadd hx hb d_Law_1353 ?_
  refine va_sld hx hb hX hb2 hbA hS (hi 1 (by decide) (by decide)) d_Law_1354 ?_
  obtain ⟨Q1, hC1, hQ1⟩ := v9_is l M hM (xs (i + 1).toNatClampNeg)
  refine lw_callV C I hl (q := 0) [.int (xs (i + 1).toNatClampNeg)] [] l_Law_177 hC1 rfl rfl h0 (by decide) ⟨Nat.le_of_ble_eq_true rfl, Nat.le_of_ble_eq_true rfl⟩ (by decide) d_Law_1355 hn.1 hn.2 ⟨Nat.le_of_ble_eq_true rfl, Nat.le_of_ble_eq_true rfl⟩ ?_
  rintro r1 M1 H1 locs1 hq - - I1
  obtain ⟨⟨v1, rfl, hcat1, hzv1⟩, hM1⟩ := hQ1 r1 M1 hq
  have hw1 := hM1.1.1
  have hS1 := I1.2.2.2.1
  have hn1 := hw1.n
  have hm1 := hw1.m
  refine lv_pop hx hb d_Law_1358 (by rw [hzv1]; exact hcat1) ?_
  refine lv_aload_n hx hb d_Law_1359 rfl (lv_at hl 2 rfl) ?_
  refine lv_aload_n hx hb d_Law_1360 rfl (lv_at hl 0 rfl) ?_
  refine lv_iload_n hx hb d_Law_1361 rfl (lv_at hl 3 rfl) ?_
  refine lv_iconst (v := 1) hx hb d_Law_1362 (by decide) ?_
  refine lv_iadd hx hb d_Law_1363 ?_
  refine va_sld hx hb hX hb2 hbA hS1 (hi 1 (by decide) (by decide)) d_Law_1364 ?_
  obtain ⟨Q2, hC2, hQ2⟩ := w9_is l M1 hm1.1 hm1.2.1 (xs (i + 1).toNatClampNeg)
  refine lw_callV C I1 hl (q := 81) [.int (xs (i + 1).toNatClampNeg)] [] l_Law_180 hC2 rfl rfl hm1.2.2 (by decide) ⟨Nat.le_of_ble_eq_true rfl, Nat.le_of_ble_eq_true rfl⟩ (by decide) d_Law_1365 hn1.1 hn1.2 ⟨Nat.le_of_ble_eq_true rfl, Nat.le_of_ble_eq_true rfl⟩ ?_
  rintro r2 M2 H2 locs2 hq - - I2
  obtain ⟨⟨v2, rfl, hcat, hzv⟩, hg, h82, hr8⟩ := hQ2 r2 M2 hq
  refine lv_pop hx hb d_Law_1368 (by rw [hzv]; exact hcat) ?_
  refine lv_goto (tgt := 1510) hx hb d_Law_1369 (by decide) ?_
  exact kk M2 H2 locs2 ⟨hM1.1.ref hg h82, hM1.2.ref hg hr8⟩ I2
theorem lc_40 (C : zCtx p room_1 s m #[Value.ref b] meth c (mLaw nm)) (hX : va_X b L xs s s.heap) (hbl : b < ad 0) (hb2 : b < s.heap.size) (I : zI D cI cJ ad adV M s H locs) (hl : lv_has ls 4 (zlw b ad i)) (hM : zLv M) (hi : ∀ k : Int32, 0 ≤ k.toInt → k.toInt ≤ 5 → vp_in (i + k) L) (kk : ∀ (M' : zMem) (H' : Heap) (locs' : List Loc), zLv M' → zI D cI cJ ad adV M' s H' locs' → W p l e room_1 s m #[Value.ref b] below meth c H' locs' 114 84410 (lw_Z below #[Value.ref b] s) (F0 m 1510 ls [])) : W p l e room_1 s m #[Value.ref b] below meth c H locs 114 84410 (lw_Z below #[Value.ref b] s) (F0 m 1372 ls []) := by
  have hx := C.1
  have hb : c.code = code := C.2.1
  have hbA : ¬ (fun q : Nat => ad 0 ≤ q) b := Nat.not_le.mpr hbl
  have hS := I.2.2.2.1
  have h0 := hM.1.1.c0
  have hn := hM.1.1.n
  refine lv_aload_n hx hb d_Law_1372 rfl (lv_at hl 1 rfl) ?_
  obtain ⟨P_, mv_, T_, nm_, s_, d_, ht_⟩ := id hM.2
  have hT_ := ht_.2.2.1.1.1
  have hb_ := ht_.2.2.2.2
  obtain ⟨Q1, hC1, hQ1⟩ := v9_makes l M hM P_ mv_ T_ nm_ s_ d_ ht_ 
  refine lw_callV C I hl (q := 0) [] [] l_Law_181 hC1 rfl rfl h0 (by decide) ⟨Nat.le_of_ble_eq_true rfl, Nat.le_of_ble_eq_true rfl⟩ (by decide) d_Law_1373 hn.1 hn.2 ⟨Nat.le_of_ble_eq_true rfl, Nat.le_of_ble_eq_true rfl⟩ ?_
  rintro r1 M1 H1 locs1 hq - - I1
  obtain ⟨v1, s1_, rfl, x1_, hb1_, hk1_, hr1_, hw1, hu1, hz1⟩ := hQ1 r1 M1 hq
  have hS1 := I1.2.2.2.1
  have hn1 := hw1.n
  have hm1 := hw1.m
  refine lv_pop hx hb d_Law_1376 rfl ?_
  refine lv_aload_n hx hb d_Law_1377 rfl (lv_at hl 2 rfl) ?_
  obtain ⟨Q2, hC2, hQ2⟩ := w9_makes l M1 hm1.1 hm1.2.1 _ _ (hM.1.r hu1) P_ mv_ T_ nm_ s_ hr1_ hb_ 
  refine lw_callV C I1 hl (q := 81) [] [] l_Law_184 hC2 rfl rfl hm1.2.2 (by decide) ⟨Nat.le_of_ble_eq_true rfl, Nat.le_of_ble_eq_true rfl⟩ (by decide) d_Law_1378 hn1.1 hn1.2 ⟨Nat.le_of_ble_eq_true rfl, Nat.le_of_ble_eq_true rfl⟩ ?_
  rintro r2 M2 H2 locs2 hq - - I2
  obtain ⟨v2, s2_, rfl, x2_, hr2_, hg⟩ := hQ2 r2 M2 hq
  obtain ⟨rfl, hve_⟩ := zAmakes_u x1_ x2_
  have hB : zLv M2 := ⟨zLb.z (hw1.ref hg) (by rw [hg.lo (by omega)]; exact hz1) hg.2.2.2, zLn.st hk1_ hg hr2_ hb1_⟩
  refine lv_pop hx hb d_Law_1381 rfl ?_
  refine lv_goto (tgt := 1510) hx hb d_Law_1382 (by decide) ?_
  exact kk M2 H2 locs2 hB I2
theorem lc_41 (C : zCtx p room_1 s m #[Value.ref b] meth c (mLaw nm)) (hX : va_X b L xs s s.heap) (hbl : b < ad 0) (hb2 : b < s.heap.size) (I : zI D cI cJ ad adV M s H locs) (hl : lv_has ls 4 (zlw b ad i)) (hM : zLv M) (hi : ∀ k : Int32, 0 ≤ k.toInt → k.toInt ≤ 5 → vp_in (i + k) L) (kk : ∀ (M' : zMem) (H' : Heap) (locs' : List Loc), zLv M' → zI D cI cJ ad adV M' s H' locs' → W p l e room_1 s m #[Value.ref b] below meth c H' locs' 114 84410 (lw_Z below #[Value.ref b] s) (F0 m 1510 ls [])) : W p l e room_1 s m #[Value.ref b] below meth c H locs 114 84410 (lw_Z below #[Value.ref b] s) (F0 m 1385 ls []) := by
  have hx := C.1
  have hb : c.code = code := C.2.1
  have hbA : ¬ (fun q : Nat => ad 0 ≤ q) b := Nat.not_le.mpr hbl
  have hS := I.2.2.2.1
  have h0 := hM.1.1.c0
  have hn := hM.1.1.n
  refine lv_aload_n hx hb d_Law_1385 rfl (lv_at hl 1 rfl) ?_
  refine lv_aload_n hx hb d_Law_1386 rfl (lv_at hl 0 rfl) ?_
  refine lv_iload_n hx hb d_Law_1387 rfl (lv_at hl 3 rfl) ?_
  refine lv_iconst (v := 1) hx hb d_Law_1388 (by decide) ?_
  refine lv_iadd hx hb d_Law_1389 ?_
  refine va_sld hx hb hX hb2 hbA hS (hi 1 (by decide) (by decide)) d_Law_1390 ?_
  refine lv_aload_n hx hb d_Law_1391 rfl (lv_at hl 0 rfl) ?_
  refine lv_iload_n hx hb d_Law_1392 rfl (lv_at hl 3 rfl) ?_
  refine lv_iconst (v := 2) hx hb d_Law_1393 (by decide) ?_
  refine lv_iadd hx hb d_Law_1394 ?_
  refine va_sld hx hb hX hb2 hbA hS (hi 2 (by decide) (by decide)) d_Law_1395 ?_
  obtain ⟨P_, mv_, T_, nm_, s_, d_, ht_⟩ := id hM.2
  have hT_ := ht_.2.2.1.1.1
  have hb_ := ht_.2.2.2.2
  obtain ⟨Q1, hC1, hQ1⟩ := v9_take l M hM P_ mv_ T_ nm_ s_ d_ ht_ (xs (i + 1).toNatClampNeg) (xs (i + 2).toNatClampNeg)
  refine lw_callV C I hl (q := 0) [.int (xs (i + 1).toNatClampNeg), .int (xs (i + 2).toNatClampNeg)] [] l_Law_185 hC1 rfl rfl h0 (by decide) ⟨Nat.le_of_ble_eq_true rfl, Nat.le_of_ble_eq_true rfl⟩ (by decide) d_Law_1396 hn.1 hn.2 ⟨Nat.le_of_ble_eq_true rfl, Nat.le_of_ble_eq_true rfl⟩ ?_
  rintro r1 M1 H1 locs1 hq - - I1
  obtain ⟨v1, s1_, rfl, x1_, hb1_, hk1_, hr1_, hw1, hu1, hz1⟩ := hQ1 r1 M1 hq
  have hS1 := I1.2.2.2.1
  have hn1 := hw1.n
  have hm1 := hw1.m
  refine lv_pop hx hb d_Law_1399 rfl ?_
  refine lv_aload_n hx hb d_Law_1400 rfl (lv_at hl 2 rfl) ?_
  refine lv_aload_n hx hb d_Law_1401 rfl (lv_at hl 0 rfl) ?_
  refine lv_iload_n hx hb d_Law_1402 rfl (lv_at hl 3 rfl) ?_
  refine lv_iconst (v := 1) hx hb d_Law_1403 (by decide) ?_
  refine lv_iadd hx hb d_Law_1404 ?_
  refine va_sld hx hb hX hb2 hbA hS1 (hi 1 (by decide) (by decide)) d_Law_1405 ?_
  refine lv_aload_n hx hb d_Law_1406 rfl (lv_at hl 0 rfl) ?_
  refine lv_iload_n hx hb d_Law_1407 rfl (lv_at hl 3 rfl) ?_
  refine lv_iconst (v := 2) hx hb d_Law_1408 (by decide) ?_
  refine lv_iadd hx hb d_Law_1409 ?_
  refine va_sld hx hb hX hb2 hbA hS1 (hi 2 (by decide) (by decide)) d_Law_1410 ?_
  obtain ⟨Q2, hC2, hQ2⟩ := w9_take l M1 hm1.1 hm1.2.1 P_ mv_ T_ nm_ s_ hr1_ hb_ (xs (i + 1).toNatClampNeg) (xs (i + 2).toNatClampNeg)
  refine lw_callV C I1 hl (q := 81) [.int (xs (i + 1).toNatClampNeg), .int (xs (i + 2).toNatClampNeg)] [] l_Law_188 hC2 rfl rfl hm1.2.2 (by decide) ⟨Nat.le_of_ble_eq_true rfl, Nat.le_of_ble_eq_true rfl⟩ (by decide) d_Law_1411 hn1.1 hn1.2 ⟨Nat.le_of_ble_eq_true rfl, Nat.le_of_ble_eq_true rfl⟩ ?_
  rintro r2 M2 H2 locs2 hq - - I2
  obtain ⟨v2, s2_, rfl, x2_, hr2_, hg, h82⟩ := hQ2 r2 M2 hq
  obtain rfl := zAtake_u x1_ x2_
  have hB : zLv M2 := ⟨hz1.ref hg h82, zLn.st hk1_ hg hr2_ hb1_⟩
  refine lv_pop hx hb d_Law_1414 rfl ?_
  refine lv_goto (tgt := 1510) hx hb d_Law_1415 (by decide) ?_
  exact kk M2 H2 locs2 hB I2
theorem lc_42 (C : zCtx p room_1 s m #[Value.ref b] meth c (mLaw nm)) (hX : va_X b L xs s s.heap) (hbl : b < ad 0) (hb2 : b < s.heap.size) (I : zI D cI cJ ad adV M s H locs) (hl : lv_has ls 4 (zlw b ad i)) (hM : zLv M) (hi : ∀ k : Int32, 0 ≤ k.toInt → k.toInt ≤ 5 → vp_in (i + k) L) (kk : ∀ (M' : zMem) (H' : Heap) (locs' : List Loc), zLv M' → zI D cI cJ ad adV M' s H' locs' → W p l e room_1 s m #[Value.ref b] below meth c H' locs' 114 84410 (lw_Z below #[Value.ref b] s) (F0 m 1510 ls [])) : W p l e room_1 s m #[Value.ref b] below meth c H locs 114 84410 (lw_Z below #[Value.ref b] s) (F0 m 1418 ls []) := by
  have hx := C.1
  have hb : c.code = code := C.2.1
  have hbA : ¬ (fun q : Nat => ad 0 ≤ q) b := Nat.not_le.mpr hbl
  have hS := I.2.2.2.1
  have h0 := hM.1.1.c0
  have hn := hM.1.1.n
  refine lv_aload_n hx hb d_Law_1418 rfl (lv_at hl 1 rfl) ?_
  obtain ⟨P_, mv_, T_, nm_, s_, d_, ht_⟩ := id hM.2
  have hT_ := ht_.2.2.1.1.1
  have hb_ := ht_.2.2.2.2
  obtain ⟨Q1, hC1, hQ1⟩ := v9_marks l M hM P_ mv_ T_ nm_ s_ d_ ht_ 
  refine lw_callV C I hl (q := 0) [] [] l_Law_189 hC1 rfl rfl h0 (by decide) ⟨Nat.le_of_ble_eq_true rfl, Nat.le_of_ble_eq_true rfl⟩ (by decide) d_Law_1419 hn.1 hn.2 ⟨Nat.le_of_ble_eq_true rfl, Nat.le_of_ble_eq_true rfl⟩ ?_
  rintro r1 M1 H1 locs1 hq - - I1
  obtain ⟨v1, s1_, rfl, x1_, hb1_, hk1_, hr1_, hw1, hu1, hz1⟩ := hQ1 r1 M1 hq
  have hS1 := I1.2.2.2.1
  have hn1 := hw1.n
  have hm1 := hw1.m
  refine lv_pop hx hb d_Law_1422 rfl ?_
  refine lv_aload_n hx hb d_Law_1423 rfl (lv_at hl 2 rfl) ?_
  obtain ⟨Q2, hC2, hQ2⟩ := w9_marks l M1 hm1.1 hm1.2.1 _ _ (hM.1.r hu1) P_ mv_ T_ nm_ s_ hr1_ hb_ 
  refine lw_callV C I1 hl (q := 81) [] [] l_Law_192 hC2 rfl rfl hm1.2.2 (by decide) ⟨Nat.le_of_ble_eq_true rfl, Nat.le_of_ble_eq_true rfl⟩ (by decide) d_Law_1424 hn1.1 hn1.2 ⟨Nat.le_of_ble_eq_true rfl, Nat.le_of_ble_eq_true rfl⟩ ?_
  rintro r2 M2 H2 locs2 hq - - I2
  obtain ⟨v2, s2_, rfl, x2_, hr2_, hg⟩ := hQ2 r2 M2 hq
  obtain ⟨rfl, hve_⟩ := zAmarks_u hT_ x1_ x2_
  have hB : zLv M2 := ⟨zLb.z (hw1.ref hg) (by rw [hg.lo (by omega)]; exact hz1) hg.2.2.2, zLn.st hk1_ hg hr2_ hb1_⟩
  refine lv_pop hx hb d_Law_1427 rfl ?_
  refine lv_goto (tgt := 1510) hx hb d_Law_1428 (by decide) ?_
  exact kk M2 H2 locs2 hB I2
theorem lc_43 (C : zCtx p room_1 s m #[Value.ref b] meth c (mLaw nm)) (hX : va_X b L xs s s.heap) (hbl : b < ad 0) (hb2 : b < s.heap.size) (I : zI D cI cJ ad adV M s H locs) (hl : lv_has ls 4 (zlw b ad i)) (hM : zLv M) (hi : ∀ k : Int32, 0 ≤ k.toInt → k.toInt ≤ 5 → vp_in (i + k) L) (kk : ∀ (M' : zMem) (H' : Heap) (locs' : List Loc), zLv M' → zI D cI cJ ad adV M' s H' locs' → W p l e room_1 s m #[Value.ref b] below meth c H' locs' 114 84410 (lw_Z below #[Value.ref b] s) (F0 m 1510 ls [])) : W p l e room_1 s m #[Value.ref b] below meth c H locs 114 84410 (lw_Z below #[Value.ref b] s) (F0 m 1431 ls []) := by
  have hx := C.1
  have hb : c.code = code := C.2.1
  have hbA : ¬ (fun q : Nat => ad 0 ≤ q) b := Nat.not_le.mpr hbl
  have hS := I.2.2.2.1
  have h0 := hM.1.1.c0
  have hn := hM.1.1.n
  refine lv_aload_n hx hb d_Law_1431 rfl (lv_at hl 1 rfl) ?_
  refine lv_aload_n hx hb d_Law_1432 rfl (lv_at hl 0 rfl) ?_
  refine lv_iload_n hx hb d_Law_1433 rfl (lv_at hl 3 rfl) ?_
  refine lv_iconst (v := 1) hx hb d_Law_1434 (by decide) ?_
  refine lv_iadd hx hb d_Law_1435 ?_
  refine va_sld hx hb hX hb2 hbA hS (hi 1 (by decide) (by decide)) d_Law_1436 ?_
  obtain ⟨P_, mv_, T_, nm_, s_, d_, ht_⟩ := id hM.2
  have hT_ := ht_.2.2.1.1.1
  have hb_ := ht_.2.2.2.2
  obtain ⟨Q1, hC1, hQ1⟩ := v9_uses l M hM P_ mv_ T_ nm_ s_ d_ ht_ (xs (i + 1).toNatClampNeg)
  refine lw_callV C I hl (q := 0) [.int (xs (i + 1).toNatClampNeg)] [] l_Law_193 hC1 rfl rfl h0 (by decide) ⟨Nat.le_of_ble_eq_true rfl, Nat.le_of_ble_eq_true rfl⟩ (by decide) d_Law_1437 hn.1 hn.2 ⟨Nat.le_of_ble_eq_true rfl, Nat.le_of_ble_eq_true rfl⟩ ?_
  rintro r1 M1 H1 locs1 hq - - I1
  obtain ⟨v1, s1_, rfl, x1_, hb1_, hk1_, hr1_, hw1, hu1, hz1⟩ := hQ1 r1 M1 hq
  have hS1 := I1.2.2.2.1
  have hn1 := hw1.n
  have hm1 := hw1.m
  refine lv_pop hx hb d_Law_1440 rfl ?_
  refine lv_aload_n hx hb d_Law_1441 rfl (lv_at hl 2 rfl) ?_
  refine lv_aload_n hx hb d_Law_1442 rfl (lv_at hl 0 rfl) ?_
  refine lv_iload_n hx hb d_Law_1443 rfl (lv_at hl 3 rfl) ?_
  refine lv_iconst (v := 1) hx hb d_Law_1444 (by decide) ?_
  refine lv_iadd hx hb d_Law_1445 ?_
  refine va_sld hx hb hX hb2 hbA hS1 (hi 1 (by decide) (by decide)) d_Law_1446 ?_
  obtain ⟨Q2, hC2, hQ2⟩ := w9_uses l M1 hm1.1 hm1.2.1 P_ mv_ T_ nm_ s_ hr1_ hb_ (xs (i + 1).toNatClampNeg)
  refine lw_callV C I1 hl (q := 81) [.int (xs (i + 1).toNatClampNeg)] [] l_Law_196 hC2 rfl rfl hm1.2.2 (by decide) ⟨Nat.le_of_ble_eq_true rfl, Nat.le_of_ble_eq_true rfl⟩ (by decide) d_Law_1447 hn1.1 hn1.2 ⟨Nat.le_of_ble_eq_true rfl, Nat.le_of_ble_eq_true rfl⟩ ?_
  rintro r2 M2 H2 locs2 hq - - I2
  obtain ⟨v2, s2_, rfl, x2_, hr2_, hg, h82⟩ := hQ2 r2 M2 hq
  obtain ⟨rfl, hve_⟩ := zAuses_u x1_ x2_
  have hB : zLv M2 := ⟨hz1.ref hg h82, zLn.st hk1_ hg hr2_ hb1_⟩
  refine lv_pop hx hb d_Law_1450 rfl ?_
  refine lv_goto (tgt := 1510) hx hb d_Law_1451 (by decide) ?_
  exact kk M2 H2 locs2 hB I2
theorem lc_44 (C : zCtx p room_1 s m #[Value.ref b] meth c (mLaw nm)) (hX : va_X b L xs s s.heap) (hbl : b < ad 0) (hb2 : b < s.heap.size) (I : zI D cI cJ ad adV M s H locs) (hl : lv_has ls 4 (zlw b ad i)) (hM : zLv M) (hi : ∀ k : Int32, 0 ≤ k.toInt → k.toInt ≤ 5 → vp_in (i + k) L) (kk : ∀ (M' : zMem) (H' : Heap) (locs' : List Loc), zLv M' → zI D cI cJ ad adV M' s H' locs' → W p l e room_1 s m #[Value.ref b] below meth c H' locs' 114 84410 (lw_Z below #[Value.ref b] s) (F0 m 1510 ls [])) : W p l e room_1 s m #[Value.ref b] below meth c H locs 114 84410 (lw_Z below #[Value.ref b] s) (F0 m 1454 ls []) := by
  have hx := C.1
  have hb : c.code = code := C.2.1
  have hbA : ¬ (fun q : Nat => ad 0 ≤ q) b := Nat.not_le.mpr hbl
  have hS := I.2.2.2.1
  have h0 := hM.1.1.c0
  have hn := hM.1.1.n
  refine lv_aload_n hx hb d_Law_1454 rfl (lv_at hl 1 rfl) ?_
  refine lv_aload_n hx hb d_Law_1455 rfl (lv_at hl 0 rfl) ?_
  refine lv_iload_n hx hb d_Law_1456 rfl (lv_at hl 3 rfl) ?_
  refine lv_iconst (v := 1) hx hb d_Law_1457 (by decide) ?_
  refine lv_iadd hx hb d_Law_1458 ?_
  refine va_sld hx hb hX hb2 hbA hS (hi 1 (by decide) (by decide)) d_Law_1459 ?_
  refine lv_aload_n hx hb d_Law_1460 rfl (lv_at hl 0 rfl) ?_
  refine lv_iload_n hx hb d_Law_1461 rfl (lv_at hl 3 rfl) ?_
  refine lv_iconst (v := 2) hx hb d_Law_1462 (by decide) ?_
  refine lv_iadd hx hb d_Law_1463 ?_
  refine va_sld hx hb hX hb2 hbA hS (hi 2 (by decide) (by decide)) d_Law_1464 ?_
  refine lv_aload_n hx hb d_Law_1465 rfl (lv_at hl 0 rfl) ?_
  refine lv_iload_n hx hb d_Law_1466 rfl (lv_at hl 3 rfl) ?_
  refine lv_iconst (v := 3) hx hb d_Law_1467 (by decide) ?_
  refine lv_iadd hx hb d_Law_1468 ?_
  refine va_sld hx hb hX hb2 hbA hS (hi 3 (by decide) (by decide)) d_Law_1469 ?_
  obtain ⟨P_, mv_, T_, nm_, s_, d_, ht_⟩ := id hM.2
  have hT_ := ht_.2.2.1.1.1
  have hb_ := ht_.2.2.2.2
  obtain ⟨Q1, hC1, hQ1⟩ := v9_grows l M hM P_ mv_ T_ nm_ s_ d_ ht_ (xs (i + 1).toNatClampNeg) (xs (i + 2).toNatClampNeg) (xs (i + 3).toNatClampNeg)
  refine lw_callV C I hl (q := 0) [.int (xs (i + 1).toNatClampNeg), .int (xs (i + 2).toNatClampNeg), .int (xs (i + 3).toNatClampNeg)] [] l_Law_197 hC1 rfl rfl h0 (by decide) ⟨Nat.le_of_ble_eq_true rfl, Nat.le_of_ble_eq_true rfl⟩ (by decide) d_Law_1470 hn.1 hn.2 ⟨Nat.le_of_ble_eq_true rfl, Nat.le_of_ble_eq_true rfl⟩ ?_
  rintro r1 M1 H1 locs1 hq - - I1
  obtain ⟨v1, s1_, rfl, x1_, hb1_, hk1_, hr1_, hw1, hu1, hz1⟩ := hQ1 r1 M1 hq
  have hS1 := I1.2.2.2.1
  have hn1 := hw1.n
  have hm1 := hw1.m
  refine lv_pop2_2 hx hb d_Law_1473 rfl ?_
  refine lv_aload_n hx hb d_Law_1474 rfl (lv_at hl 2 rfl) ?_
  refine lv_aload_n hx hb d_Law_1475 rfl (lv_at hl 0 rfl) ?_
  refine lv_iload_n hx hb d_Law_1476 rfl (lv_at hl 3 rfl) ?_
  refine lv_iconst (v := 1) hx hb d_Law_1477 (by decide) ?_
  refine lv_iadd hx hb d_Law_1478 ?_
  refine va_sld hx hb hX hb2 hbA hS1 (hi 1 (by decide) (by decide)) d_Law_1479 ?_
  refine lv_aload_n hx hb d_Law_1480 rfl (lv_at hl 0 rfl) ?_
  refine lv_iload_n hx hb d_Law_1481 rfl (lv_at hl 3 rfl) ?_
  refine lv_iconst (v := 2) hx hb d_Law_1482 (by decide) ?_
  refine lv_iadd hx hb d_Law_1483 ?_
  refine va_sld hx hb hX hb2 hbA hS1 (hi 2 (by decide) (by decide)) d_Law_1484 ?_
  refine lv_aload_n hx hb d_Law_1485 rfl (lv_at hl 0 rfl) ?_
  refine lv_iload_n hx hb d_Law_1486 rfl (lv_at hl 3 rfl) ?_
  refine lv_iconst (v := 3) hx hb d_Law_1487 (by decide) ?_
  refine lv_iadd hx hb d_Law_1488 ?_
  refine va_sld hx hb hX hb2 hbA hS1 (hi 3 (by decide) (by decide)) d_Law_1489 ?_
  obtain ⟨Q2, hC2, hQ2⟩ := w9_grows l M1 hm1.1 hm1.2.1 P_ mv_ T_ nm_ s_ hr1_ hb_ (xs (i + 1).toNatClampNeg) (xs (i + 2).toNatClampNeg) (xs (i + 3).toNatClampNeg)
  refine lw_callV C I1 hl (q := 81) [.int (xs (i + 1).toNatClampNeg), .int (xs (i + 2).toNatClampNeg), .int (xs (i + 3).toNatClampNeg)] [] l_Law_201 hC2 rfl rfl hm1.2.2 (by decide) ⟨Nat.le_of_ble_eq_true rfl, Nat.le_of_ble_eq_true rfl⟩ (by decide) d_Law_1490 hn1.1 hn1.2 ⟨Nat.le_of_ble_eq_true rfl, Nat.le_of_ble_eq_true rfl⟩ ?_
  rintro r2 M2 H2 locs2 hq - - I2
  obtain ⟨v2, s2_, rfl, x2_, hr2_, hg, h82⟩ := hQ2 r2 M2 hq
  obtain ⟨rfl, hve_⟩ := zAgrows_u x1_ x2_
  have hB : zLv M2 := ⟨hz1.ref hg h82, zLn.st hk1_ hg hr2_ hb1_⟩
  refine lv_pop2_2 hx hb d_Law_1493 rfl ?_
  refine lv_goto (tgt := 1510) hx hb d_Law_1494 (by decide) ?_
  exact kk M2 H2 locs2 hB I2
theorem lc_45 (C : zCtx p room_1 s m #[Value.ref b] meth c (mLaw nm)) (hX : va_X b L xs s s.heap) (hbl : b < ad 0) (hb2 : b < s.heap.size) (I : zI D cI cJ ad adV M s H locs) (hl : lv_has ls 4 (zlw b ad i)) (hM : zLv M) (hi : ∀ k : Int32, 0 ≤ k.toInt → k.toInt ≤ 5 → vp_in (i + k) L) (kk : ∀ (M' : zMem) (H' : Heap) (locs' : List Loc), zLv M' → zI D cI cJ ad adV M' s H' locs' → W p l e room_1 s m #[Value.ref b] below meth c H' locs' 114 84410 (lw_Z below #[Value.ref b] s) (F0 m 1510 ls [])) : W p l e room_1 s m #[Value.ref b] below meth c H locs 114 84410 (lw_Z below #[Value.ref b] s) (F0 m 1497 ls []) := by
  have hx := C.1
  have hb : c.code = code := C.2.1
  have hbA : ¬ (fun q : Nat => ad 0 ≤ q) b := Nat.not_le.mpr hbl
  have hS := I.2.2.2.1
  have h0 := hM.1.1.c0
  have hn := hM.1.1.n
  refine lv_aload_n hx hb d_Law_1497 rfl (lv_at hl 1 rfl) ?_
  obtain ⟨P_, mv_, T_, nm_, s_, d_, ht_⟩ := id hM.2
  have hT_ := ht_.2.2.1.1.1
  have hb_ := ht_.2.2.2.2
  obtain ⟨Q1, hC1, hQ1⟩ := v9_undo l M hM P_ mv_ T_ nm_ s_ d_ ht_ 
  refine lw_callV C I hl (q := 0) [] [] l_Law_202 hC1 rfl rfl h0 (by decide) ⟨Nat.le_of_ble_eq_true rfl, Nat.le_of_ble_eq_true rfl⟩ (by decide) d_Law_1498 hn.1 hn.2 ⟨Nat.le_of_ble_eq_true rfl, Nat.le_of_ble_eq_true rfl⟩ ?_
  rintro r1 M1 H1 locs1 hq - - I1
  obtain ⟨v1, s1_, rfl, x1_, hb1_, hk1_, hr1_, hw1, hu1, hz1⟩ := hQ1 r1 M1 hq
  have hS1 := I1.2.2.2.1
  have hn1 := hw1.n
  have hm1 := hw1.m
  refine lv_pop hx hb d_Law_1501 rfl ?_
  refine lv_aload_n hx hb d_Law_1502 rfl (lv_at hl 2 rfl) ?_
  obtain ⟨Q2, hC2, hQ2⟩ := w9_undo l M1 hm1.1 hm1.2.1 P_ mv_ T_ nm_ s_ hr1_ hb_ 
  refine lw_callV C I1 hl (q := 81) [] [] l_Law_205 hC2 rfl rfl hm1.2.2 (by decide) ⟨Nat.le_of_ble_eq_true rfl, Nat.le_of_ble_eq_true rfl⟩ (by decide) d_Law_1503 hn1.1 hn1.2 ⟨Nat.le_of_ble_eq_true rfl, Nat.le_of_ble_eq_true rfl⟩ ?_
  rintro r2 M2 H2 locs2 hq - - I2
  obtain ⟨v2, s2_, rfl, x2_, hr2_, hg, h82⟩ := hQ2 r2 M2 hq
  obtain ⟨rfl, hve_⟩ := zAundo_u x1_ x2_
  have hB : zLv M2 := ⟨hz1.ref hg h82, zLn.st hk1_ hg hr2_ hb1_⟩
  refine lv_pop hx hb d_Law_1506 rfl ?_
  refine lv_goto (tgt := 1510) hx hb d_Law_1507 (by decide) ?_
  exact kk M2 H2 locs2 hB I2
end LAWC
