section LAWC
variable {p : Program} {l : Launch} {e : Env} {s : State} {m : MethodId} {below : List Frame} {meth : Method} {c : Code} {D : va_G} {cI cJ : ClassId} {ad adV : Nat → Nat} {nm : String} {H : Heap} {locs : List Loc} {ls : Array Slot} {M : zMem} {b L : Nat} {xs : Nat → Int32} {i : Int32}
theorem lc_16 (C : zCtx p room_1 s m #[Value.ref b] meth c (mLaw nm)) (hX : va_X b L xs s s.heap) (hbl : b < ad 0) (hb2 : b < s.heap.size) (I : zI D cI cJ ad adV M s H locs) (hl : lv_has ls 4 (zlw b ad i)) (hM : zLv M) (hi : ∀ k : Int32, 0 ≤ k.toInt → k.toInt ≤ 5 → vp_in (i + k) L) (kk : ∀ (M' : zMem) (H' : Heap) (locs' : List Loc), zLv M' → zI D cI cJ ad adV M' s H' locs' → W p l e room_1 s m #[Value.ref b] below meth c H' locs' 114 84410 (lw_Z below #[Value.ref b] s) (F0 m 1510 ls [])) : W p l e room_1 s m #[Value.ref b] below meth c H locs 114 84410 (lw_Z below #[Value.ref b] s) (F0 m 720 ls []) := by
  have hx := C.1
  have hb : c.code = code := C.2.1
  have hbA : ¬ (fun q : Nat => ad 0 ≤ q) b := Nat.not_le.mpr hbl
  have hS := I.2.2.2.1
  have h0 := hM.1.1.c0
  have hn := hM.1.1.n
  refine lv_aload_n hx hb d_Law_720 rfl (lv_at hl 1 rfl) ?_
  refine lv_aload_n hx hb d_Law_721 rfl (lv_at hl 0 rfl) ?_
  refine lv_iload_n hx hb d_Law_722 rfl (lv_at hl 3 rfl) ?_
  refine lv_iconst (v := 1) hx hb d_Law_723 (by decide) ?_
  refine lv_iadd hx hb d_Law_724 ?_
  refine va_sld hx hb hX hb2 hbA hS (hi 1 (by decide) (by decide)) d_Law_725 ?_
  obtain ⟨Q1, hC1, hQ1⟩ := v9_keeper l M hM (xs (i + 1).toNatClampNeg)
  refine lw_callV C I hl (q := 0) [.int (xs (i + 1).toNatClampNeg)] [] l_Law_82 hC1 rfl rfl h0 (by decide) ⟨Nat.le_of_ble_eq_true rfl, Nat.le_of_ble_eq_true rfl⟩ (by decide) d_Law_726 hn.1 hn.2 ⟨Nat.le_of_ble_eq_true rfl, Nat.le_of_ble_eq_true rfl⟩ ?_
  rintro r1 M1 H1 locs1 hq - - I1
  obtain ⟨⟨v1, rfl, hcat1, hzv1⟩, hM1⟩ := hQ1 r1 M1 hq
  have hw1 := hM1.1.1
  have hS1 := I1.2.2.2.1
  have hn1 := hw1.n
  have hm1 := hw1.m
  refine lv_pop hx hb d_Law_729 (by rw [hzv1]; exact hcat1) ?_
  refine lv_aload_n hx hb d_Law_730 rfl (lv_at hl 2 rfl) ?_
  refine lv_aload_n hx hb d_Law_731 rfl (lv_at hl 0 rfl) ?_
  refine lv_iload_n hx hb d_Law_732 rfl (lv_at hl 3 rfl) ?_
  refine lv_iconst (v := 1) hx hb d_Law_733 (by decide) ?_
  refine lv_iadd hx hb d_Law_734 ?_
  refine va_sld hx hb hX hb2 hbA hS1 (hi 1 (by decide) (by decide)) d_Law_735 ?_
  obtain ⟨Q2, hC2, hQ2⟩ := w9_keeper l M1 hm1.1 hm1.2.1 (xs (i + 1).toNatClampNeg)
  refine lw_callV C I1 hl (q := 81) [.int (xs (i + 1).toNatClampNeg)] [] l_Law_85 hC2 rfl rfl hm1.2.2 (by decide) ⟨Nat.le_of_ble_eq_true rfl, Nat.le_of_ble_eq_true rfl⟩ (by decide) d_Law_736 hn1.1 hn1.2 ⟨Nat.le_of_ble_eq_true rfl, Nat.le_of_ble_eq_true rfl⟩ ?_
  rintro r2 M2 H2 locs2 hq - - I2
  obtain ⟨⟨v2, rfl, hcat, hzv⟩, hg, h82, hr8⟩ := hQ2 r2 M2 hq
  refine lv_pop hx hb d_Law_739 (by rw [hzv]; exact hcat) ?_
  refine lv_goto (tgt := 1510) hx hb d_Law_740 (by decide) ?_
  exact kk M2 H2 locs2 ⟨hM1.1.ref hg h82, hM1.2.ref hg hr8⟩ I2
theorem lc_17 (C : zCtx p room_1 s m #[Value.ref b] meth c (mLaw nm)) (hX : va_X b L xs s s.heap) (hbl : b < ad 0) (hb2 : b < s.heap.size) (I : zI D cI cJ ad adV M s H locs) (hl : lv_has ls 4 (zlw b ad i)) (hM : zLv M) (hi : ∀ k : Int32, 0 ≤ k.toInt → k.toInt ≤ 5 → vp_in (i + k) L) (kk : ∀ (M' : zMem) (H' : Heap) (locs' : List Loc), zLv M' → zI D cI cJ ad adV M' s H' locs' → W p l e room_1 s m #[Value.ref b] below meth c H' locs' 114 84410 (lw_Z below #[Value.ref b] s) (F0 m 1510 ls [])) : W p l e room_1 s m #[Value.ref b] below meth c H locs 114 84410 (lw_Z below #[Value.ref b] s) (F0 m 743 ls []) := by
  have hx := C.1
  have hb : c.code = code := C.2.1
  have hbA : ¬ (fun q : Nat => ad 0 ≤ q) b := Nat.not_le.mpr hbl
  have hS := I.2.2.2.1
  have h0 := hM.1.1.c0
  have hn := hM.1.1.n
  refine lv_aload_n hx hb d_Law_743 rfl (lv_at hl 1 rfl) ?_
  refine lv_aload_n hx hb d_Law_744 rfl (lv_at hl 0 rfl) ?_
  refine lv_iload_n hx hb d_Law_745 rfl (lv_at hl 3 rfl) ?_
  refine lv_iconst (v := 1) hx hb d_Law_746 (by decide) ?_
  refine lv_iadd hx hb d_Law_747 ?_
  refine va_sld hx hb hX hb2 hbA hS (hi 1 (by decide) (by decide)) d_Law_748 ?_
  obtain ⟨Q1, hC1, hQ1⟩ := v9_orbit l M hM (xs (i + 1).toNatClampNeg)
  refine lw_callV C I hl (q := 0) [.int (xs (i + 1).toNatClampNeg)] [] l_Law_86 hC1 rfl rfl h0 (by decide) ⟨Nat.le_of_ble_eq_true rfl, Nat.le_of_ble_eq_true rfl⟩ (by decide) d_Law_749 hn.1 hn.2 ⟨Nat.le_of_ble_eq_true rfl, Nat.le_of_ble_eq_true rfl⟩ ?_
  rintro r1 M1 H1 locs1 hq - - I1
  obtain ⟨⟨v1, rfl, hcat1, hzv1⟩, hM1⟩ := hQ1 r1 M1 hq
  have hw1 := hM1.1.1
  have hS1 := I1.2.2.2.1
  have hn1 := hw1.n
  have hm1 := hw1.m
  refine lv_pop hx hb d_Law_752 (by rw [hzv1]; exact hcat1) ?_
  refine lv_aload_n hx hb d_Law_753 rfl (lv_at hl 2 rfl) ?_
  refine lv_aload_n hx hb d_Law_754 rfl (lv_at hl 0 rfl) ?_
  refine lv_iload_n hx hb d_Law_755 rfl (lv_at hl 3 rfl) ?_
  refine lv_iconst (v := 1) hx hb d_Law_756 (by decide) ?_
  refine lv_iadd hx hb d_Law_757 ?_
  refine va_sld hx hb hX hb2 hbA hS1 (hi 1 (by decide) (by decide)) d_Law_758 ?_
  obtain ⟨Q2, hC2, hQ2⟩ := w9_orbit l M1 hm1.1 hm1.2.1 (xs (i + 1).toNatClampNeg)
  refine lw_callV C I1 hl (q := 81) [.int (xs (i + 1).toNatClampNeg)] [] l_Law_89 hC2 rfl rfl hm1.2.2 (by decide) ⟨Nat.le_of_ble_eq_true rfl, Nat.le_of_ble_eq_true rfl⟩ (by decide) d_Law_759 hn1.1 hn1.2 ⟨Nat.le_of_ble_eq_true rfl, Nat.le_of_ble_eq_true rfl⟩ ?_
  rintro r2 M2 H2 locs2 hq - - I2
  obtain ⟨⟨v2, rfl, hcat, hzv⟩, hg, h82, hr8⟩ := hQ2 r2 M2 hq
  refine lv_pop hx hb d_Law_762 (by rw [hzv]; exact hcat) ?_
  refine lv_goto (tgt := 1510) hx hb d_Law_763 (by decide) ?_
  exact kk M2 H2 locs2 ⟨hM1.1.ref hg h82, hM1.2.ref hg hr8⟩ I2
theorem lc_18 (C : zCtx p room_1 s m #[Value.ref b] meth c (mLaw nm)) (hX : va_X b L xs s s.heap) (hbl : b < ad 0) (hb2 : b < s.heap.size) (I : zI D cI cJ ad adV M s H locs) (hl : lv_has ls 4 (zlw b ad i)) (hM : zLv M) (hi : ∀ k : Int32, 0 ≤ k.toInt → k.toInt ≤ 5 → vp_in (i + k) L) (kk : ∀ (M' : zMem) (H' : Heap) (locs' : List Loc), zLv M' → zI D cI cJ ad adV M' s H' locs' → W p l e room_1 s m #[Value.ref b] below meth c H' locs' 114 84410 (lw_Z below #[Value.ref b] s) (F0 m 1510 ls [])) : W p l e room_1 s m #[Value.ref b] below meth c H locs 114 84410 (lw_Z below #[Value.ref b] s) (F0 m 766 ls []) := by
  have hx := C.1
  have hb : c.code = code := C.2.1
  have hbA : ¬ (fun q : Nat => ad 0 ≤ q) b := Nat.not_le.mpr hbl
  have hS := I.2.2.2.1
  have h0 := hM.1.1.c0
  have hn := hM.1.1.n
  refine lv_aload_n hx hb d_Law_766 rfl (lv_at hl 1 rfl) ?_
  refine lv_aload_n hx hb d_Law_767 rfl (lv_at hl 0 rfl) ?_
  refine lv_iload_n hx hb d_Law_768 rfl (lv_at hl 3 rfl) ?_
  refine lv_iconst (v := 1) hx hb d_Law_769 (by decide) ?_
  refine lv_iadd hx hb d_Law_770 ?_
  refine va_sld hx hb hX hb2 hbA hS (hi 1 (by decide) (by decide)) d_Law_771 ?_
  refine lv_aload_n hx hb d_Law_772 rfl (lv_at hl 0 rfl) ?_
  refine lv_iload_n hx hb d_Law_773 rfl (lv_at hl 3 rfl) ?_
  refine lv_iconst (v := 2) hx hb d_Law_774 (by decide) ?_
  refine lv_iadd hx hb d_Law_775 ?_
  refine va_sld hx hb hX hb2 hbA hS (hi 2 (by decide) (by decide)) d_Law_776 ?_
  obtain ⟨Q1, hC1, hQ1⟩ := v9_coset l M hM (xs (i + 1).toNatClampNeg) (xs (i + 2).toNatClampNeg)
  refine lw_callV C I hl (q := 0) [.int (xs (i + 1).toNatClampNeg), .int (xs (i + 2).toNatClampNeg)] [] l_Law_90 hC1 rfl rfl h0 (by decide) ⟨Nat.le_of_ble_eq_true rfl, Nat.le_of_ble_eq_true rfl⟩ (by decide) d_Law_777 hn.1 hn.2 ⟨Nat.le_of_ble_eq_true rfl, Nat.le_of_ble_eq_true rfl⟩ ?_
  rintro r1 M1 H1 locs1 hq - - I1
  obtain ⟨⟨v1, rfl, hcat1, hzv1⟩, hM1⟩ := hQ1 r1 M1 hq
  have hw1 := hM1.1.1
  have hS1 := I1.2.2.2.1
  have hn1 := hw1.n
  have hm1 := hw1.m
  refine lv_pop hx hb d_Law_780 (by rw [hzv1]; exact hcat1) ?_
  refine lv_aload_n hx hb d_Law_781 rfl (lv_at hl 2 rfl) ?_
  refine lv_aload_n hx hb d_Law_782 rfl (lv_at hl 0 rfl) ?_
  refine lv_iload_n hx hb d_Law_783 rfl (lv_at hl 3 rfl) ?_
  refine lv_iconst (v := 1) hx hb d_Law_784 (by decide) ?_
  refine lv_iadd hx hb d_Law_785 ?_
  refine va_sld hx hb hX hb2 hbA hS1 (hi 1 (by decide) (by decide)) d_Law_786 ?_
  refine lv_aload_n hx hb d_Law_787 rfl (lv_at hl 0 rfl) ?_
  refine lv_iload_n hx hb d_Law_788 rfl (lv_at hl 3 rfl) ?_
  refine lv_iconst (v := 2) hx hb d_Law_789 (by decide) ?_
  refine lv_iadd hx hb d_Law_790 ?_
  refine va_sld hx hb hX hb2 hbA hS1 (hi 2 (by decide) (by decide)) d_Law_791 ?_
  obtain ⟨Q2, hC2, hQ2⟩ := w9_coset l M1 hm1.1 hm1.2.1 (xs (i + 1).toNatClampNeg) (xs (i + 2).toNatClampNeg)
  refine lw_callV C I1 hl (q := 81) [.int (xs (i + 1).toNatClampNeg), .int (xs (i + 2).toNatClampNeg)] [] l_Law_93 hC2 rfl rfl hm1.2.2 (by decide) ⟨Nat.le_of_ble_eq_true rfl, Nat.le_of_ble_eq_true rfl⟩ (by decide) d_Law_792 hn1.1 hn1.2 ⟨Nat.le_of_ble_eq_true rfl, Nat.le_of_ble_eq_true rfl⟩ ?_
  rintro r2 M2 H2 locs2 hq - - I2
  obtain ⟨⟨v2, rfl, hcat, hzv⟩, hg, h82, hr8⟩ := hQ2 r2 M2 hq
  refine lv_pop hx hb d_Law_795 (by rw [hzv]; exact hcat) ?_
  refine lv_goto (tgt := 1510) hx hb d_Law_796 (by decide) ?_
  exact kk M2 H2 locs2 ⟨hM1.1.ref hg h82, hM1.2.ref hg hr8⟩ I2
theorem lc_19 (C : zCtx p room_1 s m #[Value.ref b] meth c (mLaw nm)) (hX : va_X b L xs s s.heap) (hbl : b < ad 0) (hb2 : b < s.heap.size) (I : zI D cI cJ ad adV M s H locs) (hl : lv_has ls 4 (zlw b ad i)) (hM : zLv M) (hi : ∀ k : Int32, 0 ≤ k.toInt → k.toInt ≤ 5 → vp_in (i + k) L) (kk : ∀ (M' : zMem) (H' : Heap) (locs' : List Loc), zLv M' → zI D cI cJ ad adV M' s H' locs' → W p l e room_1 s m #[Value.ref b] below meth c H' locs' 114 84410 (lw_Z below #[Value.ref b] s) (F0 m 1510 ls [])) : W p l e room_1 s m #[Value.ref b] below meth c H locs 114 84410 (lw_Z below #[Value.ref b] s) (F0 m 799 ls []) := by
  have hx := C.1
  have hb : c.code = code := C.2.1
  have hbA : ¬ (fun q : Nat => ad 0 ≤ q) b := Nat.not_le.mpr hbl
  have hS := I.2.2.2.1
  have h0 := hM.1.1.c0
  have hn := hM.1.1.n
  refine lv_aload_n hx hb d_Law_799 rfl (lv_at hl 1 rfl) ?_
  refine lv_aload_n hx hb d_Law_800 rfl (lv_at hl 0 rfl) ?_
  refine lv_iload_n hx hb d_Law_801 rfl (lv_at hl 3 rfl) ?_
  refine lv_iconst (v := 1) hx hb d_Law_802 (by decide) ?_
  refine lv_iadd hx hb d_Law_803 ?_
  refine va_sld hx hb hX hb2 hbA hS (hi 1 (by decide) (by decide)) d_Law_804 ?_
  refine lv_aload_n hx hb d_Law_805 rfl (lv_at hl 0 rfl) ?_
  refine lv_iload_n hx hb d_Law_806 rfl (lv_at hl 3 rfl) ?_
  refine lv_iconst (v := 2) hx hb d_Law_807 (by decide) ?_
  refine lv_iadd hx hb d_Law_808 ?_
  refine va_sld hx hb hX hb2 hbA hS (hi 2 (by decide) (by decide)) d_Law_809 ?_
  refine lv_aload_n hx hb d_Law_810 rfl (lv_at hl 0 rfl) ?_
  refine lv_iload_n hx hb d_Law_811 rfl (lv_at hl 3 rfl) ?_
  refine lv_iconst (v := 3) hx hb d_Law_812 (by decide) ?_
  refine lv_iadd hx hb d_Law_813 ?_
  refine va_sld hx hb hX hb2 hbA hS (hi 3 (by decide) (by decide)) d_Law_814 ?_
  obtain ⟨Q1, hC1, hQ1⟩ := v9_takes l M hM (xs (i + 1).toNatClampNeg) (xs (i + 2).toNatClampNeg) (xs (i + 3).toNatClampNeg)
  refine lw_callV C I hl (q := 0) [.int (xs (i + 1).toNatClampNeg), .int (xs (i + 2).toNatClampNeg), .int (xs (i + 3).toNatClampNeg)] [] l_Law_94 hC1 rfl rfl h0 (by decide) ⟨Nat.le_of_ble_eq_true rfl, Nat.le_of_ble_eq_true rfl⟩ (by decide) d_Law_815 hn.1 hn.2 ⟨Nat.le_of_ble_eq_true rfl, Nat.le_of_ble_eq_true rfl⟩ ?_
  rintro r1 M1 H1 locs1 hq - - I1
  obtain ⟨⟨v1, rfl, hcat1, hzv1⟩, hM1⟩ := hQ1 r1 M1 hq
  have hw1 := hM1.1.1
  have hS1 := I1.2.2.2.1
  have hn1 := hw1.n
  have hm1 := hw1.m
  refine lv_pop hx hb d_Law_818 (by rw [hzv1]; exact hcat1) ?_
  refine lv_aload_n hx hb d_Law_819 rfl (lv_at hl 2 rfl) ?_
  refine lv_aload_n hx hb d_Law_820 rfl (lv_at hl 0 rfl) ?_
  refine lv_iload_n hx hb d_Law_821 rfl (lv_at hl 3 rfl) ?_
  refine lv_iconst (v := 1) hx hb d_Law_822 (by decide) ?_
  refine lv_iadd hx hb d_Law_823 ?_
  refine va_sld hx hb hX hb2 hbA hS1 (hi 1 (by decide) (by decide)) d_Law_824 ?_
  refine lv_aload_n hx hb d_Law_825 rfl (lv_at hl 0 rfl) ?_
  refine lv_iload_n hx hb d_Law_826 rfl (lv_at hl 3 rfl) ?_
  refine lv_iconst (v := 2) hx hb d_Law_827 (by decide) ?_
  refine lv_iadd hx hb d_Law_828 ?_
  refine va_sld hx hb hX hb2 hbA hS1 (hi 2 (by decide) (by decide)) d_Law_829 ?_
  refine lv_aload_n hx hb d_Law_830 rfl (lv_at hl 0 rfl) ?_
  refine lv_iload_n hx hb d_Law_831 rfl (lv_at hl 3 rfl) ?_
  refine lv_iconst (v := 3) hx hb d_Law_832 (by decide) ?_
  refine lv_iadd hx hb d_Law_833 ?_
  refine va_sld hx hb hX hb2 hbA hS1 (hi 3 (by decide) (by decide)) d_Law_834 ?_
  obtain ⟨Q2, hC2, hQ2⟩ := w9_takes l M1 hm1.1 hm1.2.1 (xs (i + 1).toNatClampNeg) (xs (i + 2).toNatClampNeg) (xs (i + 3).toNatClampNeg)
  refine lw_callV C I1 hl (q := 81) [.int (xs (i + 1).toNatClampNeg), .int (xs (i + 2).toNatClampNeg), .int (xs (i + 3).toNatClampNeg)] [] l_Law_97 hC2 rfl rfl hm1.2.2 (by decide) ⟨Nat.le_of_ble_eq_true rfl, Nat.le_of_ble_eq_true rfl⟩ (by decide) d_Law_835 hn1.1 hn1.2 ⟨Nat.le_of_ble_eq_true rfl, Nat.le_of_ble_eq_true rfl⟩ ?_
  rintro r2 M2 H2 locs2 hq - - I2
  obtain ⟨⟨v2, rfl, hcat, hzv⟩, hg, h82, hr8⟩ := hQ2 r2 M2 hq
  refine lv_pop hx hb d_Law_838 (by rw [hzv]; exact hcat) ?_
  refine lv_goto (tgt := 1510) hx hb d_Law_839 (by decide) ?_
  exact kk M2 H2 locs2 ⟨hM1.1.ref hg h82, hM1.2.ref hg hr8⟩ I2
theorem lc_20 (C : zCtx p room_1 s m #[Value.ref b] meth c (mLaw nm)) (hX : va_X b L xs s s.heap) (hbl : b < ad 0) (hb2 : b < s.heap.size) (I : zI D cI cJ ad adV M s H locs) (hl : lv_has ls 4 (zlw b ad i)) (hM : zLv M) (hi : ∀ k : Int32, 0 ≤ k.toInt → k.toInt ≤ 5 → vp_in (i + k) L) (kk : ∀ (M' : zMem) (H' : Heap) (locs' : List Loc), zLv M' → zI D cI cJ ad adV M' s H' locs' → W p l e room_1 s m #[Value.ref b] below meth c H' locs' 114 84410 (lw_Z below #[Value.ref b] s) (F0 m 1510 ls [])) : W p l e room_1 s m #[Value.ref b] below meth c H locs 114 84410 (lw_Z below #[Value.ref b] s) (F0 m 842 ls []) := by
  have hx := C.1
  have hb : c.code = code := C.2.1
  have hbA : ¬ (fun q : Nat => ad 0 ≤ q) b := Nat.not_le.mpr hbl
  have hS := I.2.2.2.1
  have h0 := hM.1.1.c0
  have hn := hM.1.1.n
  refine lv_aload_n hx hb d_Law_842 rfl (lv_at hl 1 rfl) ?_
  refine lv_aload_n hx hb d_Law_843 rfl (lv_at hl 0 rfl) ?_
  refine lv_iload_n hx hb d_Law_844 rfl (lv_at hl 3 rfl) ?_
  refine lv_iconst (v := 1) hx hb d_Law_845 (by decide) ?_
  refine lv_iadd hx hb d_Law_846 ?_
  refine va_sld hx hb hX hb2 hbA hS (hi 1 (by decide) (by decide)) d_Law_847 ?_
  obtain ⟨Q1, hC1, hQ1⟩ := v9_moebius l M hM (xs (i + 1).toNatClampNeg)
  refine lw_callV C I hl (q := 0) [.int (xs (i + 1).toNatClampNeg)] [] l_Law_98 hC1 rfl rfl h0 (by decide) ⟨Nat.le_of_ble_eq_true rfl, Nat.le_of_ble_eq_true rfl⟩ (by decide) d_Law_848 hn.1 hn.2 ⟨Nat.le_of_ble_eq_true rfl, Nat.le_of_ble_eq_true rfl⟩ ?_
  rintro r1 M1 H1 locs1 hq - - I1
  obtain ⟨⟨v1, rfl, hcat1, hzv1⟩, hM1⟩ := hQ1 r1 M1 hq
  have hw1 := hM1.1.1
  have hS1 := I1.2.2.2.1
  have hn1 := hw1.n
  have hm1 := hw1.m
  refine lv_pop hx hb d_Law_851 (by rw [hzv1]; exact hcat1) ?_
  refine lv_aload_n hx hb d_Law_852 rfl (lv_at hl 2 rfl) ?_
  refine lv_aload_n hx hb d_Law_853 rfl (lv_at hl 0 rfl) ?_
  refine lv_iload_n hx hb d_Law_854 rfl (lv_at hl 3 rfl) ?_
  refine lv_iconst (v := 1) hx hb d_Law_855 (by decide) ?_
  refine lv_iadd hx hb d_Law_856 ?_
  refine va_sld hx hb hX hb2 hbA hS1 (hi 1 (by decide) (by decide)) d_Law_857 ?_
  obtain ⟨Q2, hC2, hQ2⟩ := w9_moebius l M1 hm1.1 hm1.2.1 (xs (i + 1).toNatClampNeg)
  refine lw_callV C I1 hl (q := 81) [.int (xs (i + 1).toNatClampNeg)] [] l_Law_101 hC2 rfl rfl hm1.2.2 (by decide) ⟨Nat.le_of_ble_eq_true rfl, Nat.le_of_ble_eq_true rfl⟩ (by decide) d_Law_858 hn1.1 hn1.2 ⟨Nat.le_of_ble_eq_true rfl, Nat.le_of_ble_eq_true rfl⟩ ?_
  rintro r2 M2 H2 locs2 hq - - I2
  obtain ⟨⟨v2, rfl, hcat, hzv⟩, hg, h82, hr8⟩ := hQ2 r2 M2 hq
  refine lv_pop hx hb d_Law_861 (by rw [hzv]; exact hcat) ?_
  refine lv_goto (tgt := 1510) hx hb d_Law_862 (by decide) ?_
  exact kk M2 H2 locs2 ⟨hM1.1.ref hg h82, hM1.2.ref hg hr8⟩ I2
theorem lc_21 (C : zCtx p room_1 s m #[Value.ref b] meth c (mLaw nm)) (hX : va_X b L xs s s.heap) (hbl : b < ad 0) (hb2 : b < s.heap.size) (I : zI D cI cJ ad adV M s H locs) (hl : lv_has ls 4 (zlw b ad i)) (hM : zLv M) (hi : ∀ k : Int32, 0 ≤ k.toInt → k.toInt ≤ 5 → vp_in (i + k) L) (kk : ∀ (M' : zMem) (H' : Heap) (locs' : List Loc), zLv M' → zI D cI cJ ad adV M' s H' locs' → W p l e room_1 s m #[Value.ref b] below meth c H' locs' 114 84410 (lw_Z below #[Value.ref b] s) (F0 m 1510 ls [])) : W p l e room_1 s m #[Value.ref b] below meth c H locs 114 84410 (lw_Z below #[Value.ref b] s) (F0 m 865 ls []) := by
  have hx := C.1
  have hb : c.code = code := C.2.1
  have hbA : ¬ (fun q : Nat => ad 0 ≤ q) b := Nat.not_le.mpr hbl
  have hS := I.2.2.2.1
  have h0 := hM.1.1.c0
  have hn := hM.1.1.n
  refine lv_aload_n hx hb d_Law_865 rfl (lv_at hl 1 rfl) ?_
  refine lv_aload_n hx hb d_Law_866 rfl (lv_at hl 0 rfl) ?_
  refine lv_iload_n hx hb d_Law_867 rfl (lv_at hl 3 rfl) ?_
  refine lv_iconst (v := 1) hx hb d_Law_868 (by decide) ?_
  refine lv_iadd hx hb d_Law_869 ?_
  refine va_sld hx hb hX hb2 hbA hS (hi 1 (by decide) (by decide)) d_Law_870 ?_
  obtain ⟨Q1, hC1, hQ1⟩ := v9_mixed l M hM (xs (i + 1).toNatClampNeg)
  refine lw_callV C I hl (q := 0) [.int (xs (i + 1).toNatClampNeg)] [] l_Law_102 hC1 rfl rfl h0 (by decide) ⟨Nat.le_of_ble_eq_true rfl, Nat.le_of_ble_eq_true rfl⟩ (by decide) d_Law_871 hn.1 hn.2 ⟨Nat.le_of_ble_eq_true rfl, Nat.le_of_ble_eq_true rfl⟩ ?_
  rintro r1 M1 H1 locs1 hq - - I1
  obtain ⟨⟨v1, rfl, hcat1, hzv1⟩, hM1⟩ := hQ1 r1 M1 hq
  have hw1 := hM1.1.1
  have hS1 := I1.2.2.2.1
  have hn1 := hw1.n
  have hm1 := hw1.m
  refine lv_pop hx hb d_Law_874 (by rw [hzv1]; exact hcat1) ?_
  refine lv_aload_n hx hb d_Law_875 rfl (lv_at hl 2 rfl) ?_
  refine lv_aload_n hx hb d_Law_876 rfl (lv_at hl 0 rfl) ?_
  refine lv_iload_n hx hb d_Law_877 rfl (lv_at hl 3 rfl) ?_
  refine lv_iconst (v := 1) hx hb d_Law_878 (by decide) ?_
  refine lv_iadd hx hb d_Law_879 ?_
  refine va_sld hx hb hX hb2 hbA hS1 (hi 1 (by decide) (by decide)) d_Law_880 ?_
  obtain ⟨Q2, hC2, hQ2⟩ := w9_mixed l M1 hm1.1 hm1.2.1 (xs (i + 1).toNatClampNeg)
  refine lw_callV C I1 hl (q := 81) [.int (xs (i + 1).toNatClampNeg)] [] l_Law_105 hC2 rfl rfl hm1.2.2 (by decide) ⟨Nat.le_of_ble_eq_true rfl, Nat.le_of_ble_eq_true rfl⟩ (by decide) d_Law_881 hn1.1 hn1.2 ⟨Nat.le_of_ble_eq_true rfl, Nat.le_of_ble_eq_true rfl⟩ ?_
  rintro r2 M2 H2 locs2 hq - - I2
  obtain ⟨⟨v2, rfl, hcat, hzv⟩, hg, h82, hr8⟩ := hQ2 r2 M2 hq
  refine lv_pop hx hb d_Law_884 (by rw [hzv]; exact hcat) ?_
  refine lv_goto (tgt := 1510) hx hb d_Law_885 (by decide) ?_
  exact kk M2 H2 locs2 ⟨hM1.1.ref hg h82, hM1.2.ref hg hr8⟩ I2
theorem lc_22 (C : zCtx p room_1 s m #[Value.ref b] meth c (mLaw nm)) (hX : va_X b L xs s s.heap) (hbl : b < ad 0) (hb2 : b < s.heap.size) (I : zI D cI cJ ad adV M s H locs) (hl : lv_has ls 4 (zlw b ad i)) (hM : zLv M) (hi : ∀ k : Int32, 0 ≤ k.toInt → k.toInt ≤ 5 → vp_in (i + k) L) (kk : ∀ (M' : zMem) (H' : Heap) (locs' : List Loc), zLv M' → zI D cI cJ ad adV M' s H' locs' → W p l e room_1 s m #[Value.ref b] below meth c H' locs' 114 84410 (lw_Z below #[Value.ref b] s) (F0 m 1510 ls [])) : W p l e room_1 s m #[Value.ref b] below meth c H locs 114 84410 (lw_Z below #[Value.ref b] s) (F0 m 888 ls []) := by
  have hx := C.1
  have hb : c.code = code := C.2.1
  have hbA : ¬ (fun q : Nat => ad 0 ≤ q) b := Nat.not_le.mpr hbl
  have hS := I.2.2.2.1
  have h0 := hM.1.1.c0
  have hn := hM.1.1.n
  refine lv_aload_n hx hb d_Law_888 rfl (lv_at hl 1 rfl) ?_
  refine lv_aload_n hx hb d_Law_889 rfl (lv_at hl 0 rfl) ?_
  refine lv_iload_n hx hb d_Law_890 rfl (lv_at hl 3 rfl) ?_
  refine lv_iconst (v := 1) hx hb d_Law_891 (by decide) ?_
  refine lv_iadd hx hb d_Law_892 ?_
  refine va_sld hx hb hX hb2 hbA hS (hi 1 (by decide) (by decide)) d_Law_893 ?_
  obtain ⟨Q1, hC1, hQ1⟩ := v9_centre l M hM (xs (i + 1).toNatClampNeg)
  refine lw_callV C I hl (q := 0) [.int (xs (i + 1).toNatClampNeg)] [] l_Law_106 hC1 rfl rfl h0 (by decide) ⟨Nat.le_of_ble_eq_true rfl, Nat.le_of_ble_eq_true rfl⟩ (by decide) d_Law_894 hn.1 hn.2 ⟨Nat.le_of_ble_eq_true rfl, Nat.le_of_ble_eq_true rfl⟩ ?_
  rintro r1 M1 H1 locs1 hq - - I1
  obtain ⟨⟨v1, rfl, hcat1, hzv1⟩, hM1⟩ := hQ1 r1 M1 hq
  have hw1 := hM1.1.1
  have hS1 := I1.2.2.2.1
  have hn1 := hw1.n
  have hm1 := hw1.m
  refine lv_pop hx hb d_Law_897 (by rw [hzv1]; exact hcat1) ?_
  refine lv_aload_n hx hb d_Law_898 rfl (lv_at hl 2 rfl) ?_
  refine lv_aload_n hx hb d_Law_899 rfl (lv_at hl 0 rfl) ?_
  refine lv_iload_n hx hb d_Law_900 rfl (lv_at hl 3 rfl) ?_
  refine lv_iconst (v := 1) hx hb d_Law_901 (by decide) ?_
  refine lv_iadd hx hb d_Law_902 ?_
  refine va_sld hx hb hX hb2 hbA hS1 (hi 1 (by decide) (by decide)) d_Law_903 ?_
  obtain ⟨Q2, hC2, hQ2⟩ := w9_centre l M1 hm1.1 hm1.2.1 (xs (i + 1).toNatClampNeg)
  refine lw_callV C I1 hl (q := 81) [.int (xs (i + 1).toNatClampNeg)] [] l_Law_109 hC2 rfl rfl hm1.2.2 (by decide) ⟨Nat.le_of_ble_eq_true rfl, Nat.le_of_ble_eq_true rfl⟩ (by decide) d_Law_904 hn1.1 hn1.2 ⟨Nat.le_of_ble_eq_true rfl, Nat.le_of_ble_eq_true rfl⟩ ?_
  rintro r2 M2 H2 locs2 hq - - I2
  obtain ⟨⟨v2, rfl, hcat, hzv⟩, hg, h82, hr8⟩ := hQ2 r2 M2 hq
  refine lv_pop hx hb d_Law_907 (by rw [hzv]; exact hcat) ?_
  refine lv_goto (tgt := 1510) hx hb d_Law_908 (by decide) ?_
  exact kk M2 H2 locs2 ⟨hM1.1.ref hg h82, hM1.2.ref hg hr8⟩ I2
theorem lc_23 (C : zCtx p room_1 s m #[Value.ref b] meth c (mLaw nm)) (hX : va_X b L xs s s.heap) (hbl : b < ad 0) (hb2 : b < s.heap.size) (I : zI D cI cJ ad adV M s H locs) (hl : lv_has ls 4 (zlw b ad i)) (hM : zLv M) (hi : ∀ k : Int32, 0 ≤ k.toInt → k.toInt ≤ 5 → vp_in (i + k) L) (kk : ∀ (M' : zMem) (H' : Heap) (locs' : List Loc), zLv M' → zI D cI cJ ad adV M' s H' locs' → W p l e room_1 s m #[Value.ref b] below meth c H' locs' 114 84410 (lw_Z below #[Value.ref b] s) (F0 m 1510 ls [])) : W p l e room_1 s m #[Value.ref b] below meth c H locs 114 84410 (lw_Z below #[Value.ref b] s) (F0 m 911 ls []) := by
  have hx := C.1
  have hb : c.code = code := C.2.1
  have hbA : ¬ (fun q : Nat => ad 0 ≤ q) b := Nat.not_le.mpr hbl
  have hS := I.2.2.2.1
  have h0 := hM.1.1.c0
  have hn := hM.1.1.n
  refine lv_aload_n hx hb d_Law_911 rfl (lv_at hl 1 rfl) ?_
  refine lv_aload_n hx hb d_Law_912 rfl (lv_at hl 0 rfl) ?_
  refine lv_iload_n hx hb d_Law_913 rfl (lv_at hl 3 rfl) ?_
  refine lv_iconst (v := 1) hx hb d_Law_914 (by decide) ?_
  refine lv_iadd hx hb d_Law_915 ?_
  refine va_sld hx hb hX hb2 hbA hS (hi 1 (by decide) (by decide)) d_Law_916 ?_
  refine lv_aload_n hx hb d_Law_917 rfl (lv_at hl 0 rfl) ?_
  refine lv_iload_n hx hb d_Law_918 rfl (lv_at hl 3 rfl) ?_
  refine lv_iconst (v := 2) hx hb d_Law_919 (by decide) ?_
  refine lv_iadd hx hb d_Law_920 ?_
  refine va_sld hx hb hX hb2 hbA hS (hi 2 (by decide) (by decide)) d_Law_921 ?_
  obtain ⟨Q1, hC1, hQ1⟩ := v9_pairs l M hM (xs (i + 1).toNatClampNeg) (xs (i + 2).toNatClampNeg)
  refine lw_callV C I hl (q := 0) [.int (xs (i + 1).toNatClampNeg), .int (xs (i + 2).toNatClampNeg)] [] l_Law_110 hC1 rfl rfl h0 (by decide) ⟨Nat.le_of_ble_eq_true rfl, Nat.le_of_ble_eq_true rfl⟩ (by decide) d_Law_922 hn.1 hn.2 ⟨Nat.le_of_ble_eq_true rfl, Nat.le_of_ble_eq_true rfl⟩ ?_
  rintro r1 M1 H1 locs1 hq - - I1
  obtain ⟨⟨v1, rfl, hcat1, hzv1⟩, hM1⟩ := hQ1 r1 M1 hq
  have hw1 := hM1.1.1
  have hS1 := I1.2.2.2.1
  have hn1 := hw1.n
  have hm1 := hw1.m
  refine lv_pop hx hb d_Law_925 (by rw [hzv1]; exact hcat1) ?_
  refine lv_aload_n hx hb d_Law_926 rfl (lv_at hl 2 rfl) ?_
  refine lv_aload_n hx hb d_Law_927 rfl (lv_at hl 0 rfl) ?_
  refine lv_iload_n hx hb d_Law_928 rfl (lv_at hl 3 rfl) ?_
  refine lv_iconst (v := 1) hx hb d_Law_929 (by decide) ?_
  refine lv_iadd hx hb d_Law_930 ?_
  refine va_sld hx hb hX hb2 hbA hS1 (hi 1 (by decide) (by decide)) d_Law_931 ?_
  refine lv_aload_n hx hb d_Law_932 rfl (lv_at hl 0 rfl) ?_
  refine lv_iload_n hx hb d_Law_933 rfl (lv_at hl 3 rfl) ?_
  refine lv_iconst (v := 2) hx hb d_Law_934 (by decide) ?_
  refine lv_iadd hx hb d_Law_935 ?_
  refine va_sld hx hb hX hb2 hbA hS1 (hi 2 (by decide) (by decide)) d_Law_936 ?_
  obtain ⟨Q2, hC2, hQ2⟩ := w9_pairs l M1 hm1.1 hm1.2.1 (xs (i + 1).toNatClampNeg) (xs (i + 2).toNatClampNeg)
  refine lw_callV C I1 hl (q := 81) [.int (xs (i + 1).toNatClampNeg), .int (xs (i + 2).toNatClampNeg)] [] l_Law_113 hC2 rfl rfl hm1.2.2 (by decide) ⟨Nat.le_of_ble_eq_true rfl, Nat.le_of_ble_eq_true rfl⟩ (by decide) d_Law_937 hn1.1 hn1.2 ⟨Nat.le_of_ble_eq_true rfl, Nat.le_of_ble_eq_true rfl⟩ ?_
  rintro r2 M2 H2 locs2 hq - - I2
  obtain ⟨⟨v2, rfl, hcat, hzv⟩, hg, h82, hr8⟩ := hQ2 r2 M2 hq
  refine lv_pop hx hb d_Law_940 (by rw [hzv]; exact hcat) ?_
  refine lv_goto (tgt := 1510) hx hb d_Law_941 (by decide) ?_
  exact kk M2 H2 locs2 ⟨hM1.1.ref hg h82, hM1.2.ref hg hr8⟩ I2
theorem lc_24 (C : zCtx p room_1 s m #[Value.ref b] meth c (mLaw nm)) (hX : va_X b L xs s s.heap) (hbl : b < ad 0) (hb2 : b < s.heap.size) (I : zI D cI cJ ad adV M s H locs) (hl : lv_has ls 4 (zlw b ad i)) (hM : zLv M) (hi : ∀ k : Int32, 0 ≤ k.toInt → k.toInt ≤ 5 → vp_in (i + k) L) (kk : ∀ (M' : zMem) (H' : Heap) (locs' : List Loc), zLv M' → zI D cI cJ ad adV M' s H' locs' → W p l e room_1 s m #[Value.ref b] below meth c H' locs' 114 84410 (lw_Z below #[Value.ref b] s) (F0 m 1510 ls [])) : W p l e room_1 s m #[Value.ref b] below meth c H locs 114 84410 (lw_Z below #[Value.ref b] s) (F0 m 944 ls []) := by
  have hx := C.1
  have hb : c.code = code := C.2.1
  have hbA : ¬ (fun q : Nat => ad 0 ≤ q) b := Nat.not_le.mpr hbl
  have hS := I.2.2.2.1
  have h0 := hM.1.1.c0
  have hn := hM.1.1.n
  refine lv_aload_n hx hb d_Law_944 rfl (lv_at hl 1 rfl) ?_
  obtain ⟨Q1, hC1, hQ1⟩ := v9_alike l M hM 
  refine lw_callV C I hl (q := 0) [] [] l_Law_114 hC1 rfl rfl h0 (by decide) ⟨Nat.le_of_ble_eq_true rfl, Nat.le_of_ble_eq_true rfl⟩ (by decide) d_Law_945 hn.1 hn.2 ⟨Nat.le_of_ble_eq_true rfl, Nat.le_of_ble_eq_true rfl⟩ ?_
  rintro r1 M1 H1 locs1 hq - - I1
  obtain ⟨⟨v1, rfl, hcat1, hzv1⟩, hM1⟩ := hQ1 r1 M1 hq
  have hw1 := hM1.1.1
  have hS1 := I1.2.2.2.1
  have hn1 := hw1.n
  have hm1 := hw1.m
  refine lv_pop hx hb d_Law_948 (by rw [hzv1]; exact hcat1) ?_
  refine lv_aload_n hx hb d_Law_949 rfl (lv_at hl 2 rfl) ?_
  obtain ⟨Q2, hC2, hQ2⟩ := w9_alike l M1 hm1.1 hm1.2.1 
  refine lw_callV C I1 hl (q := 81) [] [] l_Law_117 hC2 rfl rfl hm1.2.2 (by decide) ⟨Nat.le_of_ble_eq_true rfl, Nat.le_of_ble_eq_true rfl⟩ (by decide) d_Law_950 hn1.1 hn1.2 ⟨Nat.le_of_ble_eq_true rfl, Nat.le_of_ble_eq_true rfl⟩ ?_
  rintro r2 M2 H2 locs2 hq - - I2
  obtain ⟨⟨v2, rfl, hcat, hzv⟩, hg, h82, hr8⟩ := hQ2 r2 M2 hq
  refine lv_pop hx hb d_Law_953 (by rw [hzv]; exact hcat) ?_
  refine lv_goto (tgt := 1510) hx hb d_Law_954 (by decide) ?_
  exact kk M2 H2 locs2 ⟨hM1.1.ref hg h82, hM1.2.ref hg hr8⟩ I2
theorem lc_25 (C : zCtx p room_1 s m #[Value.ref b] meth c (mLaw nm)) (hX : va_X b L xs s s.heap) (hbl : b < ad 0) (hb2 : b < s.heap.size) (I : zI D cI cJ ad adV M s H locs) (hl : lv_has ls 4 (zlw b ad i)) (hM : zLv M) (hi : ∀ k : Int32, 0 ≤ k.toInt → k.toInt ≤ 5 → vp_in (i + k) L) (kk : ∀ (M' : zMem) (H' : Heap) (locs' : List Loc), zLv M' → zI D cI cJ ad adV M' s H' locs' → W p l e room_1 s m #[Value.ref b] below meth c H' locs' 114 84410 (lw_Z below #[Value.ref b] s) (F0 m 1510 ls [])) : W p l e room_1 s m #[Value.ref b] below meth c H locs 114 84410 (lw_Z below #[Value.ref b] s) (F0 m 957 ls []) := by
  have hx := C.1
  have hb : c.code = code := C.2.1
  have hbA : ¬ (fun q : Nat => ad 0 ≤ q) b := Nat.not_le.mpr hbl
  have hS := I.2.2.2.1
  have h0 := hM.1.1.c0
  have hn := hM.1.1.n
  refine lv_aload_n hx hb d_Law_957 rfl (lv_at hl 1 rfl) ?_
  refine lv_aload_n hx hb d_Law_958 rfl (lv_at hl 0 rfl) ?_
  refine lv_iload_n hx hb d_Law_959 rfl (lv_at hl 3 rfl) ?_
  refine lv_iconst (v := 1) hx hb d_Law_960 (by decide) ?_
  refine lv_iadd hx hb d_Law_961 ?_
  refine va_sld hx hb hX hb2 hbA hS (hi 1 (by decide) (by decide)) d_Law_962 ?_
  refine lv_aload_n hx hb d_Law_963 rfl (lv_at hl 0 rfl) ?_
  refine lv_iload_n hx hb d_Law_964 rfl (lv_at hl 3 rfl) ?_
  refine lv_iconst (v := 2) hx hb d_Law_965 (by decide) ?_
  refine lv_iadd hx hb d_Law_966 ?_
  refine va_sld hx hb hX hb2 hbA hS (hi 2 (by decide) (by decide)) d_Law_967 ?_
  obtain ⟨Q1, hC1, hQ1⟩ := v9_meet l M hM (xs (i + 1).toNatClampNeg) (xs (i + 2).toNatClampNeg)
  refine lw_callV C I hl (q := 0) [.int (xs (i + 1).toNatClampNeg), .int (xs (i + 2).toNatClampNeg)] [] l_Law_118 hC1 rfl rfl h0 (by decide) ⟨Nat.le_of_ble_eq_true rfl, Nat.le_of_ble_eq_true rfl⟩ (by decide) d_Law_968 hn.1 hn.2 ⟨Nat.le_of_ble_eq_true rfl, Nat.le_of_ble_eq_true rfl⟩ ?_
  rintro r1 M1 H1 locs1 hq - - I1
  obtain ⟨⟨v1, rfl, hcat1, hzv1⟩, hM1⟩ := hQ1 r1 M1 hq
  have hw1 := hM1.1.1
  have hS1 := I1.2.2.2.1
  have hn1 := hw1.n
  have hm1 := hw1.m
  refine lv_pop hx hb d_Law_971 (by rw [hzv1]; exact hcat1) ?_
  refine lv_aload_n hx hb d_Law_972 rfl (lv_at hl 2 rfl) ?_
  refine lv_aload_n hx hb d_Law_973 rfl (lv_at hl 0 rfl) ?_
  refine lv_iload_n hx hb d_Law_974 rfl (lv_at hl 3 rfl) ?_
  refine lv_iconst (v := 1) hx hb d_Law_975 (by decide) ?_
  refine lv_iadd hx hb d_Law_976 ?_
  refine va_sld hx hb hX hb2 hbA hS1 (hi 1 (by decide) (by decide)) d_Law_977 ?_
  refine lv_aload_n hx hb d_Law_978 rfl (lv_at hl 0 rfl) ?_
  refine lv_iload_n hx hb d_Law_979 rfl (lv_at hl 3 rfl) ?_
  refine lv_iconst (v := 2) hx hb d_Law_980 (by decide) ?_
  refine lv_iadd hx hb d_Law_981 ?_
  refine va_sld hx hb hX hb2 hbA hS1 (hi 2 (by decide) (by decide)) d_Law_982 ?_
  obtain ⟨Q2, hC2, hQ2⟩ := w9_meet l M1 hm1.1 hm1.2.1 (xs (i + 1).toNatClampNeg) (xs (i + 2).toNatClampNeg)
  refine lw_callV C I1 hl (q := 81) [.int (xs (i + 1).toNatClampNeg), .int (xs (i + 2).toNatClampNeg)] [] l_Law_121 hC2 rfl rfl hm1.2.2 (by decide) ⟨Nat.le_of_ble_eq_true rfl, Nat.le_of_ble_eq_true rfl⟩ (by decide) d_Law_983 hn1.1 hn1.2 ⟨Nat.le_of_ble_eq_true rfl, Nat.le_of_ble_eq_true rfl⟩ ?_
  rintro r2 M2 H2 locs2 hq - - I2
  obtain ⟨⟨v2, rfl, hcat, hzv⟩, hg, h82, hr8⟩ := hQ2 r2 M2 hq
  refine lv_pop hx hb d_Law_986 (by rw [hzv]; exact hcat) ?_
  refine lv_goto (tgt := 1510) hx hb d_Law_987 (by decide) ?_
  exact kk M2 H2 locs2 ⟨hM1.1.ref hg h82, hM1.2.ref hg hr8⟩ I2
theorem lc_26 (C : zCtx p room_1 s m #[Value.ref b] meth c (mLaw nm)) (hX : va_X b L xs s s.heap) (hbl : b < ad 0) (hb2 : b < s.heap.size) (I : zI D cI cJ ad adV M s H locs) (hl : lv_has ls 4 (zlw b ad i)) (hM : zLv M) (hi : ∀ k : Int32, 0 ≤ k.toInt → k.toInt ≤ 5 → vp_in (i + k) L) (kk : ∀ (M' : zMem) (H' : Heap) (locs' : List Loc), zLv M' → zI D cI cJ ad adV M' s H' locs' → W p l e room_1 s m #[Value.ref b] below meth c H' locs' 114 84410 (lw_Z below #[Value.ref b] s) (F0 m 1510 ls [])) : W p l e room_1 s m #[Value.ref b] below meth c H locs 114 84410 (lw_Z below #[Value.ref b] s) (F0 m 990 ls []) := by
  have hx := C.1
  have hb : c.code = code := C.2.1
  have hbA : ¬ (fun q : Nat => ad 0 ≤ q) b := Nat.not_le.mpr hbl
  have hS := I.2.2.2.1
  have h0 := hM.1.1.c0
  have hn := hM.1.1.n
  refine lv_aload_n hx hb d_Law_990 rfl (lv_at hl 1 rfl) ?_
  refine lv_aload_n hx hb d_Law_991 rfl (lv_at hl 0 rfl) ?_
  refine lv_iload_n hx hb d_Law_992 rfl (lv_at hl 3 rfl) ?_
  refine lv_iconst (v := 1) hx hb d_Law_993 (by decide) ?_
  refine lv_iadd hx hb d_Law_994 ?_
  refine va_sld hx hb hX hb2 hbA hS (hi 1 (by decide) (by decide)) d_Law_995 ?_
  refine lv_aload_n hx hb d_Law_996 rfl (lv_at hl 0 rfl) ?_
  refine lv_iload_n hx hb d_Law_997 rfl (lv_at hl 3 rfl) ?_
  refine lv_iconst (v := 2) hx hb d_Law_998 (by decide) ?_
  refine lv_iadd hx hb d_Law_999 ?_
  refine va_sld hx hb hX hb2 hbA hS (hi 2 (by decide) (by decide)) d_Law_1000 ?_
  obtain ⟨Q1, hC1, hQ1⟩ := v9_join l M hM (xs (i + 1).toNatClampNeg) (xs (i + 2).toNatClampNeg)
  refine lw_callV C I hl (q := 0) [.int (xs (i + 1).toNatClampNeg), .int (xs (i + 2).toNatClampNeg)] [] l_Law_122 hC1 rfl rfl h0 (by decide) ⟨Nat.le_of_ble_eq_true rfl, Nat.le_of_ble_eq_true rfl⟩ (by decide) d_Law_1001 hn.1 hn.2 ⟨Nat.le_of_ble_eq_true rfl, Nat.le_of_ble_eq_true rfl⟩ ?_
  rintro r1 M1 H1 locs1 hq - - I1
  obtain ⟨⟨v1, rfl, hcat1, hzv1⟩, hM1⟩ := hQ1 r1 M1 hq
  have hw1 := hM1.1.1
  have hS1 := I1.2.2.2.1
  have hn1 := hw1.n
  have hm1 := hw1.m
  refine lv_pop hx hb d_Law_1004 (by rw [hzv1]; exact hcat1) ?_
  refine lv_aload_n hx hb d_Law_1005 rfl (lv_at hl 2 rfl) ?_
  refine lv_aload_n hx hb d_Law_1006 rfl (lv_at hl 0 rfl) ?_
  refine lv_iload_n hx hb d_Law_1007 rfl (lv_at hl 3 rfl) ?_
  refine lv_iconst (v := 1) hx hb d_Law_1008 (by decide) ?_
  refine lv_iadd hx hb d_Law_1009 ?_
  refine va_sld hx hb hX hb2 hbA hS1 (hi 1 (by decide) (by decide)) d_Law_1010 ?_
  refine lv_aload_n hx hb d_Law_1011 rfl (lv_at hl 0 rfl) ?_
  refine lv_iload_n hx hb d_Law_1012 rfl (lv_at hl 3 rfl) ?_
  refine lv_iconst (v := 2) hx hb d_Law_1013 (by decide) ?_
  refine lv_iadd hx hb d_Law_1014 ?_
  refine va_sld hx hb hX hb2 hbA hS1 (hi 2 (by decide) (by decide)) d_Law_1015 ?_
  obtain ⟨Q2, hC2, hQ2⟩ := w9_join l M1 hm1.1 hm1.2.1 (xs (i + 1).toNatClampNeg) (xs (i + 2).toNatClampNeg)
  refine lw_callV C I1 hl (q := 81) [.int (xs (i + 1).toNatClampNeg), .int (xs (i + 2).toNatClampNeg)] [] l_Law_125 hC2 rfl rfl hm1.2.2 (by decide) ⟨Nat.le_of_ble_eq_true rfl, Nat.le_of_ble_eq_true rfl⟩ (by decide) d_Law_1016 hn1.1 hn1.2 ⟨Nat.le_of_ble_eq_true rfl, Nat.le_of_ble_eq_true rfl⟩ ?_
  rintro r2 M2 H2 locs2 hq - - I2
  obtain ⟨⟨v2, rfl, hcat, hzv⟩, hg, h82, hr8⟩ := hQ2 r2 M2 hq
  refine lv_pop hx hb d_Law_1019 (by rw [hzv]; exact hcat) ?_
  refine lv_goto (tgt := 1510) hx hb d_Law_1020 (by decide) ?_
  exact kk M2 H2 locs2 ⟨hM1.1.ref hg h82, hM1.2.ref hg hr8⟩ I2
theorem lc_27 (C : zCtx p room_1 s m #[Value.ref b] meth c (mLaw nm)) (hX : va_X b L xs s s.heap) (hbl : b < ad 0) (hb2 : b < s.heap.size) (I : zI D cI cJ ad adV M s H locs) (hl : lv_has ls 4 (zlw b ad i)) (hM : zLv M) (hi : ∀ k : Int32, 0 ≤ k.toInt → k.toInt ≤ 5 → vp_in (i + k) L) (kk : ∀ (M' : zMem) (H' : Heap) (locs' : List Loc), zLv M' → zI D cI cJ ad adV M' s H' locs' → W p l e room_1 s m #[Value.ref b] below meth c H' locs' 114 84410 (lw_Z below #[Value.ref b] s) (F0 m 1510 ls [])) : W p l e room_1 s m #[Value.ref b] below meth c H locs 114 84410 (lw_Z below #[Value.ref b] s) (F0 m 1023 ls []) := by
  have hx := C.1
  have hb : c.code = code := C.2.1
  have hbA : ¬ (fun q : Nat => ad 0 ≤ q) b := Nat.not_le.mpr hbl
  have hS := I.2.2.2.1
  have h0 := hM.1.1.c0
  have hn := hM.1.1.n
  refine lv_aload_n hx hb d_Law_1023 rfl (lv_at hl 1 rfl) ?_
  refine lv_aload_n hx hb d_Law_1024 rfl (lv_at hl 0 rfl) ?_
  refine lv_iload_n hx hb d_Law_1025 rfl (lv_at hl 3 rfl) ?_
  refine lv_iconst (v := 1) hx hb d_Law_1026 (by decide) ?_
  refine lv_iadd hx hb d_Law_1027 ?_
  refine va_sld hx hb hX hb2 hbA hS (hi 1 (by decide) (by decide)) d_Law_1028 ?_
  obtain ⟨Q1, hC1, hQ1⟩ := v9_orders l M hM (xs (i + 1).toNatClampNeg)
  refine lw_callV C I hl (q := 0) [.int (xs (i + 1).toNatClampNeg)] [] l_Law_126 hC1 rfl rfl h0 (by decide) ⟨Nat.le_of_ble_eq_true rfl, Nat.le_of_ble_eq_true rfl⟩ (by decide) d_Law_1029 hn.1 hn.2 ⟨Nat.le_of_ble_eq_true rfl, Nat.le_of_ble_eq_true rfl⟩ ?_
  rintro r1 M1 H1 locs1 hq - - I1
  obtain ⟨⟨v1, rfl, hcat1, hzv1⟩, hM1⟩ := hQ1 r1 M1 hq
  have hw1 := hM1.1.1
  have hS1 := I1.2.2.2.1
  have hn1 := hw1.n
  have hm1 := hw1.m
  refine lv_pop hx hb d_Law_1032 (by rw [hzv1]; exact hcat1) ?_
  refine lv_aload_n hx hb d_Law_1033 rfl (lv_at hl 2 rfl) ?_
  refine lv_aload_n hx hb d_Law_1034 rfl (lv_at hl 0 rfl) ?_
  refine lv_iload_n hx hb d_Law_1035 rfl (lv_at hl 3 rfl) ?_
  refine lv_iconst (v := 1) hx hb d_Law_1036 (by decide) ?_
  refine lv_iadd hx hb d_Law_1037 ?_
  refine va_sld hx hb hX hb2 hbA hS1 (hi 1 (by decide) (by decide)) d_Law_1038 ?_
  obtain ⟨Q2, hC2, hQ2⟩ := w9_orders l M1 hm1.1 hm1.2.1 (xs (i + 1).toNatClampNeg)
  refine lw_callV C I1 hl (q := 81) [.int (xs (i + 1).toNatClampNeg)] [] l_Law_129 hC2 rfl rfl hm1.2.2 (by decide) ⟨Nat.le_of_ble_eq_true rfl, Nat.le_of_ble_eq_true rfl⟩ (by decide) d_Law_1039 hn1.1 hn1.2 ⟨Nat.le_of_ble_eq_true rfl, Nat.le_of_ble_eq_true rfl⟩ ?_
  rintro r2 M2 H2 locs2 hq - - I2
  obtain ⟨⟨v2, rfl, hcat, hzv⟩, hg, h82, hr8⟩ := hQ2 r2 M2 hq
  refine lv_pop hx hb d_Law_1042 (by rw [hzv]; exact hcat) ?_
  refine lv_goto (tgt := 1510) hx hb d_Law_1043 (by decide) ?_
  exact kk M2 H2 locs2 ⟨hM1.1.ref hg h82, hM1.2.ref hg hr8⟩ I2
theorem lc_28 (C : zCtx p room_1 s m #[Value.ref b] meth c (mLaw nm)) (hX : va_X b L xs s s.heap) (hbl : b < ad 0) (hb2 : b < s.heap.size) (I : zI D cI cJ ad adV M s H locs) (hl : lv_has ls 4 (zlw b ad i)) (hM : zLv M) (hi : ∀ k : Int32, 0 ≤ k.toInt → k.toInt ≤ 5 → vp_in (i + k) L) (kk : ∀ (M' : zMem) (H' : Heap) (locs' : List Loc), zLv M' → zI D cI cJ ad adV M' s H' locs' → W p l e room_1 s m #[Value.ref b] below meth c H' locs' 114 84410 (lw_Z below #[Value.ref b] s) (F0 m 1510 ls [])) : W p l e room_1 s m #[Value.ref b] below meth c H locs 114 84410 (lw_Z below #[Value.ref b] s) (F0 m 1046 ls []) := by
  have hx := C.1
  have hb : c.code = code := C.2.1
  have hbA : ¬ (fun q : Nat => ad 0 ≤ q) b := Nat.not_le.mpr hbl
  have hS := I.2.2.2.1
  have h0 := hM.1.1.c0
  have hn := hM.1.1.n
  refine lv_aload_n hx hb d_Law_1046 rfl (lv_at hl 1 rfl) ?_
  refine lv_aload_n hx hb d_Law_1047 rfl (lv_at hl 0 rfl) ?_
  refine lv_iload_n hx hb d_Law_1048 rfl (lv_at hl 3 rfl) ?_
  refine lv_iconst (v := 1) hx hb d_Law_1049 (by decide) ?_
  refine lv_iadd hx hb d_Law_1050 ?_
  refine va_sld hx hb hX hb2 hbA hS (hi 1 (by decide) (by decide)) d_Law_1051 ?_
  obtain ⟨Q1, hC1, hQ1⟩ := v9_likes l M hM (xs (i + 1).toNatClampNeg)
  refine lw_callV C I hl (q := 0) [.int (xs (i + 1).toNatClampNeg)] [] l_Law_130 hC1 rfl rfl h0 (by decide) ⟨Nat.le_of_ble_eq_true rfl, Nat.le_of_ble_eq_true rfl⟩ (by decide) d_Law_1052 hn.1 hn.2 ⟨Nat.le_of_ble_eq_true rfl, Nat.le_of_ble_eq_true rfl⟩ ?_
  rintro r1 M1 H1 locs1 hq - - I1
  obtain ⟨⟨v1, rfl, hcat1, hzv1⟩, hM1⟩ := hQ1 r1 M1 hq
  have hw1 := hM1.1.1
  have hS1 := I1.2.2.2.1
  have hn1 := hw1.n
  have hm1 := hw1.m
  refine lv_pop hx hb d_Law_1055 (by rw [hzv1]; exact hcat1) ?_
  refine lv_aload_n hx hb d_Law_1056 rfl (lv_at hl 2 rfl) ?_
  refine lv_aload_n hx hb d_Law_1057 rfl (lv_at hl 0 rfl) ?_
  refine lv_iload_n hx hb d_Law_1058 rfl (lv_at hl 3 rfl) ?_
  refine lv_iconst (v := 1) hx hb d_Law_1059 (by decide) ?_
  refine lv_iadd hx hb d_Law_1060 ?_
  refine va_sld hx hb hX hb2 hbA hS1 (hi 1 (by decide) (by decide)) d_Law_1061 ?_
  obtain ⟨Q2, hC2, hQ2⟩ := w9_likes l M1 hm1.1 hm1.2.1 (xs (i + 1).toNatClampNeg)
  refine lw_callV C I1 hl (q := 81) [.int (xs (i + 1).toNatClampNeg)] [] l_Law_133 hC2 rfl rfl hm1.2.2 (by decide) ⟨Nat.le_of_ble_eq_true rfl, Nat.le_of_ble_eq_true rfl⟩ (by decide) d_Law_1062 hn1.1 hn1.2 ⟨Nat.le_of_ble_eq_true rfl, Nat.le_of_ble_eq_true rfl⟩ ?_
  rintro r2 M2 H2 locs2 hq - - I2
  obtain ⟨⟨v2, rfl, hcat, hzv⟩, hg, h82, hr8⟩ := hQ2 r2 M2 hq
  refine lv_pop hx hb d_Law_1065 (by rw [hzv]; exact hcat) ?_
  refine lv_goto (tgt := 1510) hx hb d_Law_1066 (by decide) ?_
  exact kk M2 H2 locs2 ⟨hM1.1.ref hg h82, hM1.2.ref hg hr8⟩ I2
theorem lc_29 (C : zCtx p room_1 s m #[Value.ref b] meth c (mLaw nm)) (hX : va_X b L xs s s.heap) (hbl : b < ad 0) (hb2 : b < s.heap.size) (I : zI D cI cJ ad adV M s H locs) (hl : lv_has ls 4 (zlw b ad i)) (hM : zLv M) (hi : ∀ k : Int32, 0 ≤ k.toInt → k.toInt ≤ 5 → vp_in (i + k) L) (kk : ∀ (M' : zMem) (H' : Heap) (locs' : List Loc), zLv M' → zI D cI cJ ad adV M' s H' locs' → W p l e room_1 s m #[Value.ref b] below meth c H' locs' 114 84410 (lw_Z below #[Value.ref b] s) (F0 m 1510 ls [])) : W p l e room_1 s m #[Value.ref b] below meth c H locs 114 84410 (lw_Z below #[Value.ref b] s) (F0 m 1069 ls []) := by
  have hx := C.1
  have hb : c.code = code := C.2.1
  have hbA : ¬ (fun q : Nat => ad 0 ≤ q) b := Nat.not_le.mpr hbl
  have hS := I.2.2.2.1
  have h0 := hM.1.1.c0
  have hn := hM.1.1.n
  refine lv_aload_n hx hb d_Law_1069 rfl (lv_at hl 1 rfl) ?_
  refine lv_aload_n hx hb d_Law_1070 rfl (lv_at hl 0 rfl) ?_
  refine lv_iload_n hx hb d_Law_1071 rfl (lv_at hl 3 rfl) ?_
  refine lv_iconst (v := 1) hx hb d_Law_1072 (by decide) ?_
  refine lv_iadd hx hb d_Law_1073 ?_
  refine va_sld hx hb hX hb2 hbA hS (hi 1 (by decide) (by decide)) d_Law_1074 ?_
  refine lv_aload_n hx hb d_Law_1075 rfl (lv_at hl 0 rfl) ?_
  refine lv_iload_n hx hb d_Law_1076 rfl (lv_at hl 3 rfl) ?_
  refine lv_iconst (v := 2) hx hb d_Law_1077 (by decide) ?_
  refine lv_iadd hx hb d_Law_1078 ?_
  refine va_sld hx hb hX hb2 hbA hS (hi 2 (by decide) (by decide)) d_Law_1079 ?_
  refine lv_aload_n hx hb d_Law_1080 rfl (lv_at hl 0 rfl) ?_
  refine lv_iload_n hx hb d_Law_1081 rfl (lv_at hl 3 rfl) ?_
  refine lv_iconst (v := 3) hx hb d_Law_1082 (by decide) ?_
  refine lv_iadd hx hb d_Law_1083 ?_
  refine va_sld hx hb hX hb2 hbA hS (hi 3 (by decide) (by decide)) d_Law_1084 ?_
  obtain ⟨Q1, hC1, hQ1⟩ := v9_peak l M hM (xs (i + 1).toNatClampNeg) (xs (i + 2).toNatClampNeg) (xs (i + 3).toNatClampNeg)
  refine lw_callV C I hl (q := 0) [.int (xs (i + 1).toNatClampNeg), .int (xs (i + 2).toNatClampNeg), .int (xs (i + 3).toNatClampNeg)] [] l_Law_134 hC1 rfl rfl h0 (by decide) ⟨Nat.le_of_ble_eq_true rfl, Nat.le_of_ble_eq_true rfl⟩ (by decide) d_Law_1085 hn.1 hn.2 ⟨Nat.le_of_ble_eq_true rfl, Nat.le_of_ble_eq_true rfl⟩ ?_
  rintro r1 M1 H1 locs1 hq - - I1
  obtain ⟨⟨v1, rfl, hcat1, hzv1⟩, hM1⟩ := hQ1 r1 M1 hq
  have hw1 := hM1.1.1
  have hS1 := I1.2.2.2.1
  have hn1 := hw1.n
  have hm1 := hw1.m
  refine lv_pop hx hb d_Law_1088 (by rw [hzv1]; exact hcat1) ?_
  refine lv_aload_n hx hb d_Law_1089 rfl (lv_at hl 2 rfl) ?_
  refine lv_aload_n hx hb d_Law_1090 rfl (lv_at hl 0 rfl) ?_
  refine lv_iload_n hx hb d_Law_1091 rfl (lv_at hl 3 rfl) ?_
  refine lv_iconst (v := 1) hx hb d_Law_1092 (by decide) ?_
  refine lv_iadd hx hb d_Law_1093 ?_
  refine va_sld hx hb hX hb2 hbA hS1 (hi 1 (by decide) (by decide)) d_Law_1094 ?_
  refine lv_aload_n hx hb d_Law_1095 rfl (lv_at hl 0 rfl) ?_
  refine lv_iload_n hx hb d_Law_1096 rfl (lv_at hl 3 rfl) ?_
  refine lv_iconst (v := 2) hx hb d_Law_1097 (by decide) ?_
  refine lv_iadd hx hb d_Law_1098 ?_
  refine va_sld hx hb hX hb2 hbA hS1 (hi 2 (by decide) (by decide)) d_Law_1099 ?_
  refine lv_aload_n hx hb d_Law_1100 rfl (lv_at hl 0 rfl) ?_
  refine lv_iload_n hx hb d_Law_1101 rfl (lv_at hl 3 rfl) ?_
  refine lv_iconst (v := 3) hx hb d_Law_1102 (by decide) ?_
  refine lv_iadd hx hb d_Law_1103 ?_
  refine va_sld hx hb hX hb2 hbA hS1 (hi 3 (by decide) (by decide)) d_Law_1104 ?_
  obtain ⟨Q2, hC2, hQ2⟩ := w9_peak l M1 hm1.1 hm1.2.1 (xs (i + 1).toNatClampNeg) (xs (i + 2).toNatClampNeg) (xs (i + 3).toNatClampNeg)
  refine lw_callV C I1 hl (q := 81) [.int (xs (i + 1).toNatClampNeg), .int (xs (i + 2).toNatClampNeg), .int (xs (i + 3).toNatClampNeg)] [] l_Law_137 hC2 rfl rfl hm1.2.2 (by decide) ⟨Nat.le_of_ble_eq_true rfl, Nat.le_of_ble_eq_true rfl⟩ (by decide) d_Law_1105 hn1.1 hn1.2 ⟨Nat.le_of_ble_eq_true rfl, Nat.le_of_ble_eq_true rfl⟩ ?_
  rintro r2 M2 H2 locs2 hq - - I2
  obtain ⟨⟨v2, rfl, hcat, hzv⟩, hg, h82, hr8⟩ := hQ2 r2 M2 hq
  refine lv_pop hx hb d_Law_1108 (by rw [hzv]; exact hcat) ?_
  refine lv_goto (tgt := 1510) hx hb d_Law_1109 (by decide) ?_
  exact kk M2 H2 locs2 ⟨hM1.1.ref hg h82, hM1.2.ref hg hr8⟩ I2
theorem lc_30 (C : zCtx p room_1 s m #[Value.ref b] meth c (mLaw nm)) (hX : va_X b L xs s s.heap) (hbl : b < ad 0) (hb2 : b < s.heap.size) (I : zI D cI cJ ad adV M s H locs) (hl : lv_has ls 4 (zlw b ad i)) (hM : zLv M) (hi : ∀ k : Int32, 0 ≤ k.toInt → k.toInt ≤ 5 → vp_in (i + k) L) (kk : ∀ (M' : zMem) (H' : Heap) (locs' : List Loc), zLv M' → zI D cI cJ ad adV M' s H' locs' → W p l e room_1 s m #[Value.ref b] below meth c H' locs' 114 84410 (lw_Z below #[Value.ref b] s) (F0 m 1510 ls [])) : W p l e room_1 s m #[Value.ref b] below meth c H locs 114 84410 (lw_Z below #[Value.ref b] s) (F0 m 1112 ls []) := by
  have hx := C.1
  have hb : c.code = code := C.2.1
  have hbA : ¬ (fun q : Nat => ad 0 ≤ q) b := Nat.not_le.mpr hbl
  have hS := I.2.2.2.1
  have h0 := hM.1.1.c0
  have hn := hM.1.1.n
  refine lv_aload_n hx hb d_Law_1112 rfl (lv_at hl 1 rfl) ?_
  refine lv_aload_n hx hb d_Law_1113 rfl (lv_at hl 0 rfl) ?_
  refine lv_iload_n hx hb d_Law_1114 rfl (lv_at hl 3 rfl) ?_
  refine lv_iconst (v := 1) hx hb d_Law_1115 (by decide) ?_
  refine lv_iadd hx hb d_Law_1116 ?_
  refine va_sld hx hb hX hb2 hbA hS (hi 1 (by decide) (by decide)) d_Law_1117 ?_
  refine lv_aload_n hx hb d_Law_1118 rfl (lv_at hl 0 rfl) ?_
  refine lv_iload_n hx hb d_Law_1119 rfl (lv_at hl 3 rfl) ?_
  refine lv_iconst (v := 2) hx hb d_Law_1120 (by decide) ?_
  refine lv_iadd hx hb d_Law_1121 ?_
  refine va_sld hx hb hX hb2 hbA hS (hi 2 (by decide) (by decide)) d_Law_1122 ?_
  refine lv_aload_n hx hb d_Law_1123 rfl (lv_at hl 0 rfl) ?_
  refine lv_iload_n hx hb d_Law_1124 rfl (lv_at hl 3 rfl) ?_
  refine lv_iconst (v := 3) hx hb d_Law_1125 (by decide) ?_
  refine lv_iadd hx hb d_Law_1126 ?_
  refine va_sld hx hb hX hb2 hbA hS (hi 3 (by decide) (by decide)) d_Law_1127 ?_
  refine lv_aload_n hx hb d_Law_1128 rfl (lv_at hl 0 rfl) ?_
  refine lv_iload_n hx hb d_Law_1129 rfl (lv_at hl 3 rfl) ?_
  refine lv_iconst (v := 4) hx hb d_Law_1130 (by decide) ?_
  refine lv_iadd hx hb d_Law_1131 ?_
  refine va_sld hx hb hX hb2 hbA hS (hi 4 (by decide) (by decide)) d_Law_1132 ?_
  obtain ⟨Q1, hC1, hQ1⟩ := v9_local l M hM (xs (i + 1).toNatClampNeg) (xs (i + 2).toNatClampNeg) (xs (i + 3).toNatClampNeg) (xs (i + 4).toNatClampNeg)
  refine lw_callV C I hl (q := 0) [.int (xs (i + 1).toNatClampNeg), .int (xs (i + 2).toNatClampNeg), .int (xs (i + 3).toNatClampNeg), .int (xs (i + 4).toNatClampNeg)] [] l_Law_138 hC1 rfl rfl h0 (by decide) ⟨Nat.le_of_ble_eq_true rfl, Nat.le_of_ble_eq_true rfl⟩ (by decide) d_Law_1133 hn.1 hn.2 ⟨Nat.le_of_ble_eq_true rfl, Nat.le_of_ble_eq_true rfl⟩ ?_
  rintro r1 M1 H1 locs1 hq - - I1
  obtain ⟨⟨v1, rfl, hcat1, hzv1⟩, hM1⟩ := hQ1 r1 M1 hq
  have hw1 := hM1.1.1
  have hS1 := I1.2.2.2.1
  have hn1 := hw1.n
  have hm1 := hw1.m
  refine lv_pop hx hb d_Law_1136 (by rw [hzv1]; exact hcat1) ?_
  refine lv_aload_n hx hb d_Law_1137 rfl (lv_at hl 2 rfl) ?_
  refine lv_aload_n hx hb d_Law_1138 rfl (lv_at hl 0 rfl) ?_
  refine lv_iload_n hx hb d_Law_1139 rfl (lv_at hl 3 rfl) ?_
  refine lv_iconst (v := 1) hx hb d_Law_1140 (by decide) ?_
  refine lv_iadd hx hb d_Law_1141 ?_
  refine va_sld hx hb hX hb2 hbA hS1 (hi 1 (by decide) (by decide)) d_Law_1142 ?_
  refine lv_aload_n hx hb d_Law_1143 rfl (lv_at hl 0 rfl) ?_
  refine lv_iload_n hx hb d_Law_1144 rfl (lv_at hl 3 rfl) ?_
  refine lv_iconst (v := 2) hx hb d_Law_1145 (by decide) ?_
  refine lv_iadd hx hb d_Law_1146 ?_
  refine va_sld hx hb hX hb2 hbA hS1 (hi 2 (by decide) (by decide)) d_Law_1147 ?_
  refine lv_aload_n hx hb d_Law_1148 rfl (lv_at hl 0 rfl) ?_
  refine lv_iload_n hx hb d_Law_1149 rfl (lv_at hl 3 rfl) ?_
  refine lv_iconst (v := 3) hx hb d_Law_1150 (by decide) ?_
  refine lv_iadd hx hb d_Law_1151 ?_
  refine va_sld hx hb hX hb2 hbA hS1 (hi 3 (by decide) (by decide)) d_Law_1152 ?_
  refine lv_aload_n hx hb d_Law_1153 rfl (lv_at hl 0 rfl) ?_
  refine lv_iload_n hx hb d_Law_1154 rfl (lv_at hl 3 rfl) ?_
  refine lv_iconst (v := 4) hx hb d_Law_1155 (by decide) ?_
  refine lv_iadd hx hb d_Law_1156 ?_
  refine va_sld hx hb hX hb2 hbA hS1 (hi 4 (by decide) (by decide)) d_Law_1157 ?_
  obtain ⟨Q2, hC2, hQ2⟩ := w9_local l M1 hm1.1 hm1.2.1 (xs (i + 1).toNatClampNeg) (xs (i + 2).toNatClampNeg) (xs (i + 3).toNatClampNeg) (xs (i + 4).toNatClampNeg)
  refine lw_callV C I1 hl (q := 81) [.int (xs (i + 1).toNatClampNeg), .int (xs (i + 2).toNatClampNeg), .int (xs (i + 3).toNatClampNeg), .int (xs (i + 4).toNatClampNeg)] [] l_Law_142 hC2 rfl rfl hm1.2.2 (by decide) ⟨Nat.le_of_ble_eq_true rfl, Nat.le_of_ble_eq_true rfl⟩ (by decide) d_Law_1158 hn1.1 hn1.2 ⟨Nat.le_of_ble_eq_true rfl, Nat.le_of_ble_eq_true rfl⟩ ?_
  rintro r2 M2 H2 locs2 hq - - I2
  obtain ⟨⟨v2, rfl, hcat, hzv⟩, hg, h82, hr8⟩ := hQ2 r2 M2 hq
  refine lv_pop hx hb d_Law_1161 (by rw [hzv]; exact hcat) ?_
  refine lv_goto (tgt := 1510) hx hb d_Law_1162 (by decide) ?_
  exact kk M2 H2 locs2 ⟨hM1.1.ref hg h82, hM1.2.ref hg hr8⟩ I2
theorem lc_31 (C : zCtx p room_1 s m #[Value.ref b] meth c (mLaw nm)) (hX : va_X b L xs s s.heap) (hbl : b < ad 0) (hb2 : b < s.heap.size) (I : zI D cI cJ ad adV M s H locs) (hl : lv_has ls 4 (zlw b ad i)) (hM : zLv M) (hi : ∀ k : Int32, 0 ≤ k.toInt → k.toInt ≤ 5 → vp_in (i + k) L) (kk : ∀ (M' : zMem) (H' : Heap) (locs' : List Loc), zLv M' → zI D cI cJ ad adV M' s H' locs' → W p l e room_1 s m #[Value.ref b] below meth c H' locs' 114 84410 (lw_Z below #[Value.ref b] s) (F0 m 1510 ls [])) : W p l e room_1 s m #[Value.ref b] below meth c H locs 114 84410 (lw_Z below #[Value.ref b] s) (F0 m 1165 ls []) := by
  have hx := C.1
  have hb : c.code = code := C.2.1
  have hbA : ¬ (fun q : Nat => ad 0 ≤ q) b := Nat.not_le.mpr hbl
  have hS := I.2.2.2.1
  have h0 := hM.1.1.c0
  have hn := hM.1.1.n
  refine lv_aload_n hx hb d_Law_1165 rfl (lv_at hl 1 rfl) ?_
  obtain ⟨Q1, hC1, hQ1⟩ := v9_units l M hM 
  refine lw_callV C I hl (q := 0) [] [] l_Law_143 hC1 rfl rfl h0 (by decide) ⟨Nat.le_of_ble_eq_true rfl, Nat.le_of_ble_eq_true rfl⟩ (by decide) d_Law_1166 hn.1 hn.2 ⟨Nat.le_of_ble_eq_true rfl, Nat.le_of_ble_eq_true rfl⟩ ?_
  rintro r1 M1 H1 locs1 hq - - I1
  obtain ⟨⟨v1, rfl, hcat1, hzv1⟩, hM1⟩ := hQ1 r1 M1 hq
  have hw1 := hM1.1.1
  have hS1 := I1.2.2.2.1
  have hn1 := hw1.n
  have hm1 := hw1.m
  refine lv_pop hx hb d_Law_1169 (by rw [hzv1]; exact hcat1) ?_
  refine lv_aload_n hx hb d_Law_1170 rfl (lv_at hl 2 rfl) ?_
  obtain ⟨Q2, hC2, hQ2⟩ := w9_units l M1 hm1.1 hm1.2.1 
  refine lw_callV C I1 hl (q := 81) [] [] l_Law_146 hC2 rfl rfl hm1.2.2 (by decide) ⟨Nat.le_of_ble_eq_true rfl, Nat.le_of_ble_eq_true rfl⟩ (by decide) d_Law_1171 hn1.1 hn1.2 ⟨Nat.le_of_ble_eq_true rfl, Nat.le_of_ble_eq_true rfl⟩ ?_
  rintro r2 M2 H2 locs2 hq - - I2
  obtain ⟨⟨v2, rfl, hcat, hzv⟩, hg, h82, hr8⟩ := hQ2 r2 M2 hq
  refine lv_pop hx hb d_Law_1174 (by rw [hzv]; exact hcat) ?_
  refine lv_goto (tgt := 1510) hx hb d_Law_1175 (by decide) ?_
  exact kk M2 H2 locs2 ⟨hM1.1.ref hg h82, hM1.2.ref hg hr8⟩ I2
end LAWC
