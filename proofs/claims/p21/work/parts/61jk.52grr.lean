set_option maxHeartbeats 4000000 in
theorem c_M_takesG (l : Launch) (Mz : zMem) (hW : zMt Mz) (a0_ : Int) (ha0_a : -2147483648 ≤ a0_) (ha0_b : a0_ < 2147483648) (a1_ : Int) (ha1_a : -2147483648 ≤ a1_) (ha1_b : a1_ < 2147483648) (a2_ : Int) (ha2_a : -2147483648 ≤ a2_) (ha2_b : a2_ < 2147483648) (T : zGT) (hO : gOK T) (p0_ : zGB T Mz) : zC l m_M_takes 0 0 [.ref 81, .int (Int32.ofInt a0_), .int (Int32.ofInt a1_), .int (Int32.ofInt a2_)] Mz (zpI [] [] Mz (fun v N => (((0 ≤ a0_ ∧ a0_ < ((gF T).length : Int) ∧ 0 ≤ a1_ ∧ a1_ < (gN T : Int) ∧ 0 ≤ a2_ ∧ a2_ < (gN T : Int) ∧ v = ((gcos T (gFn T (a0_).toNat) (gm T (a1_).toNat (a2_).toNat) : Nat) : Int)) ∨ (¬ (0 ≤ a0_ ∧ a0_ < ((gF T).length : Int) ∧ 0 ≤ a1_ ∧ a1_ < (gN T : Int) ∧ 0 ≤ a2_ ∧ a2_ < (gN T : Int)) ∧ v = (-1 : Int)))))) := by
  refine zC_of (L0 := [some (.ref 81), some (.int (Int32.ofInt a0_)), some (.int (Int32.ofInt a1_)), some (.int (Int32.ofInt a2_))]) md_M_takes (Nat.le_of_ble_eq_true rfl) rfl ?_ zQ0
  have hf : zFr [] [] Mz Mz := zFr.rf
  have r_20 := ze_r Mz 81 20
  have r_26 := ze_r Mz 81 26
  have hG := hO.1
  have g24 := hG.2.1
  have g1 := hG.1
  have dv0 : zTab T Mz := p0_.1
  have dv1 : zB 85 144 0 5 Mz := p0_.2.1
  have dv2 : zJX T Mz := p0_.2.2.1
  have dv3 : zFirs T Mz := p0_.2.2.2.1
  have dv4 : zSSm T Mz := p0_.2.2.2.2.1
  have dv5 : zGD Mz := zGB.d hO p0_
  have gb := dv5.1
  have gn := dv0.1
  have hsz_ := dv0.1
  have hfl_ := dv3.1
  have hcs_ := p0_.2.2.2.2.2.1
  refine zw_aload_n (pc := 0) (n := 0) (x := 81) rfl d_M_takes_0 ?_
  refine zw_iload_n (pc := 1) (n := 1) (x := Int32.ofInt a0_) rfl d_M_takes_1 ?_
  refine zr_callV (hf.w hW) hf.x (pc := 2) [.int (Int32.ofInt a0_)] [] l_M_414 (c_M_isSortG l Mz (hf.w hW) a0_ ha0_a ha0_b T hO p0_) rfl rfl rfl (by decide) (Nat.le_of_ble_eq_true rfl) d_M_takes_2 ?_
  rintro _ N1_ ⟨v2_, rfl, ⟨hv2_a, hv2_b⟩, hsN1_, hp0_N1_⟩
  obtain rfl := hsN1_.eq.symm
  replace hp0_N1_ : ((v2_ = 1 ∧ 0 ≤ a0_ ∧ a0_ < ze Mz 81 26) ∨ (v2_ = 0 ∧ (a0_ < 0 ∨ ze Mz 81 26 ≤ a0_))) := hp0_N1_
  rcases hp0_N1_ with ⟨rfl, ha2_0_hp0_N1_, ha2_1_hp0_N1_⟩ | ⟨rfl, ha2_0_hp0_N1_⟩
  · skip
    show zW l m_M_takes (zn Mz + 0, zw Mz + 0) Mz 5 [some (.ref 81), some (.int (Int32.ofInt a0_)), some (.int (Int32.ofInt a1_)), some (.int (Int32.ofInt a2_))] [.int (Int32.ofInt 1)] (zpI [] [] Mz (fun v N => (((0 ≤ a0_ ∧ a0_ < ((gF T).length : Int) ∧ 0 ≤ a1_ ∧ a1_ < (gN T : Int) ∧ 0 ≤ a2_ ∧ a2_ < (gN T : Int) ∧ v = ((gcos T (gFn T (a0_).toNat) (gm T (a1_).toNat (a2_).toNat) : Nat) : Int)) ∨ (¬ (0 ≤ a0_ ∧ a0_ < ((gF T).length : Int) ∧ 0 ≤ a1_ ∧ a1_ < (gN T : Int) ∧ 0 ≤ a2_ ∧ a2_ < (gN T : Int)) ∧ v = (-1 : Int))))))
    refine zr_if_eq (pc := 5) (tgt := 43) ⟨(by decide), (by decide)⟩ (by decide) d_M_takes_5 (fun hc_5 => ?_) (fun hc_5 => ?_)
    · skip
      exact absurd hc_5 (by decide)
    · skip
      refine zw_aload_n (pc := 8) (n := 0) (x := 81) rfl d_M_takes_8 ?_
      refine zw_iload_n (pc := 9) (n := 2) (x := Int32.ofInt a1_) rfl d_M_takes_9 ?_
      refine zr_callV (hf.w hW) hf.x (pc := 10) [.int (Int32.ofInt a1_)] [] l_M_400 (c_M_isMemberG l Mz (hf.w hW) a1_ ha1_a ha1_b T hO p0_) rfl rfl rfl (by decide) (Nat.le_of_ble_eq_true rfl) d_M_takes_10 ?_
      rintro _ N3_ ⟨v4_, rfl, ⟨hv4_a, hv4_b⟩, hsN3_, hp0_N3_⟩
      obtain rfl := hsN3_.eq.symm
      replace hp0_N3_ : ((v4_ = 1 ∧ 0 ≤ a1_ ∧ a1_ < ze Mz 81 20) ∨ (v4_ = 0 ∧ (a1_ < 0 ∨ ze Mz 81 20 ≤ a1_))) := hp0_N3_
      rcases hp0_N3_ with ⟨rfl, ha10_0_hp0_N3_, ha10_1_hp0_N3_⟩ | ⟨rfl, ha10_0_hp0_N3_⟩
      · skip
        show zW l m_M_takes (zn Mz + 0, zw Mz + 0) Mz 13 [some (.ref 81), some (.int (Int32.ofInt a0_)), some (.int (Int32.ofInt a1_)), some (.int (Int32.ofInt a2_))] [.int (Int32.ofInt 1)] (zpI [] [] Mz (fun v N => (((0 ≤ a0_ ∧ a0_ < ((gF T).length : Int) ∧ 0 ≤ a1_ ∧ a1_ < (gN T : Int) ∧ 0 ≤ a2_ ∧ a2_ < (gN T : Int) ∧ v = ((gcos T (gFn T (a0_).toNat) (gm T (a1_).toNat (a2_).toNat) : Nat) : Int)) ∨ (¬ (0 ≤ a0_ ∧ a0_ < ((gF T).length : Int) ∧ 0 ≤ a1_ ∧ a1_ < (gN T : Int) ∧ 0 ≤ a2_ ∧ a2_ < (gN T : Int)) ∧ v = (-1 : Int))))))
        refine zr_if_eq (pc := 13) (tgt := 43) ⟨(by decide), (by decide)⟩ (by decide) d_M_takes_13 (fun hc_13 => ?_) (fun hc_13 => ?_)
        · skip
          exact absurd hc_13 (by decide)
        · skip
          refine zw_aload_n (pc := 16) (n := 0) (x := 81) rfl d_M_takes_16 ?_
          refine zw_iload_n (pc := 17) (n := 3) (x := Int32.ofInt a2_) rfl d_M_takes_17 ?_
          refine zr_callV (hf.w hW) hf.x (pc := 18) [.int (Int32.ofInt a2_)] [] l_M_400 (c_M_isMemberG l Mz (hf.w hW) a2_ ha2_a ha2_b T hO p0_) rfl rfl rfl (by decide) (Nat.le_of_ble_eq_true rfl) d_M_takes_18 ?_
          rintro _ N5_ ⟨v6_, rfl, ⟨hv6_a, hv6_b⟩, hsN5_, hp0_N5_⟩
          obtain rfl := hsN5_.eq.symm
          replace hp0_N5_ : ((v6_ = 1 ∧ 0 ≤ a2_ ∧ a2_ < ze Mz 81 20) ∨ (v6_ = 0 ∧ (a2_ < 0 ∨ ze Mz 81 20 ≤ a2_))) := hp0_N5_
          rcases hp0_N5_ with ⟨rfl, ha18_0_hp0_N5_, ha18_1_hp0_N5_⟩ | ⟨rfl, ha18_0_hp0_N5_⟩
          · skip
            show zW l m_M_takes (zn Mz + 0, zw Mz + 0) Mz 21 [some (.ref 81), some (.int (Int32.ofInt a0_)), some (.int (Int32.ofInt a1_)), some (.int (Int32.ofInt a2_))] [.int (Int32.ofInt 1)] (zpI [] [] Mz (fun v N => (((0 ≤ a0_ ∧ a0_ < ((gF T).length : Int) ∧ 0 ≤ a1_ ∧ a1_ < (gN T : Int) ∧ 0 ≤ a2_ ∧ a2_ < (gN T : Int) ∧ v = ((gcos T (gFn T (a0_).toNat) (gm T (a1_).toNat (a2_).toNat) : Nat) : Int)) ∨ (¬ (0 ≤ a0_ ∧ a0_ < ((gF T).length : Int) ∧ 0 ≤ a1_ ∧ a1_ < (gN T : Int) ∧ 0 ≤ a2_ ∧ a2_ < (gN T : Int)) ∧ v = (-1 : Int))))))
            refine zr_if_eq (pc := 21) (tgt := 43) ⟨(by decide), (by decide)⟩ (by decide) d_M_takes_21 (fun hc_21 => ?_) (fun hc_21 => ?_)
            · skip
              exact absurd hc_21 (by decide)
            · skip
              refine zw_aload_n (pc := 24) (n := 0) (x := 81) rfl d_M_takes_24 ?_
              refine zr_getF (r := 94) (hf.w hW) (pc := 25) f_M_53 rfl (zh_94 (hf.w hW)).1 d_M_takes_25 ?_
              refine zw_bipush (pc := 28) (v := Int32.ofInt 24) (by decide) d_M_takes_28 ?_
              refine zw_iload_n (pc := 30) (n := 1) (x := Int32.ofInt a0_) rfl d_M_takes_30 ?_
              refine zr_imul (pc := 31) d_M_takes_31 ?_
              refine zw_aload_n (pc := 32) (n := 0) (x := 81) rfl d_M_takes_32 ?_
              refine zw_iload_n (pc := 33) (n := 2) (x := Int32.ofInt a1_) rfl d_M_takes_33 ?_
              refine zw_iload_n (pc := 34) (n := 3) (x := Int32.ofInt a2_) rfl d_M_takes_34 ?_
              refine zr_callV (hf.w hW) hf.x (pc := 35) [.int (Int32.ofInt a1_), .int (Int32.ofInt a2_)] [.int (Int32.ofInt (24 * a0_)), .ref 94] l_M_216 (c_M_by l Mz (hf.w hW) a1_ ha1_a ha1_b a2_ ha2_a ha2_b T hG dv0 (show 0 ≤ a1_ by first | assumption | omega) (show a1_ < ze Mz 81 20 by first | assumption | omega) (show 0 ≤ a2_ by first | assumption | omega) (show a2_ < ze Mz 81 20 by first | assumption | omega)) rfl rfl rfl (by decide) (Nat.le_of_ble_eq_true rfl) d_M_takes_35 ?_
              rintro _ N7_ ⟨v8_, rfl, ⟨hv8_a, hv8_b⟩, hsN7_, ⟨hp0_N7_, hp1_N7_, hp2_N7_⟩⟩
              obtain rfl := hsN7_.eq.symm
              show zW l m_M_takes (zn Mz + 0, zw Mz + 0) Mz 38 [some (.ref 81), some (.int (Int32.ofInt a0_)), some (.int (Int32.ofInt a1_)), some (.int (Int32.ofInt a2_))] [.int (Int32.ofInt v8_), .int (Int32.ofInt (24 * a0_)), .ref 94] (zpI [] [] Mz (fun v N => (((0 ≤ a0_ ∧ a0_ < ((gF T).length : Int) ∧ 0 ≤ a1_ ∧ a1_ < (gN T : Int) ∧ 0 ≤ a2_ ∧ a2_ < (gN T : Int) ∧ v = ((gcos T (gFn T (a0_).toNat) (gm T (a1_).toNat (a2_).toNat) : Nat) : Int)) ∨ (¬ (0 ≤ a0_ ∧ a0_ < ((gF T).length : Int) ∧ 0 ≤ a1_ ∧ a1_ < (gN T : Int) ∧ 0 ≤ a2_ ∧ a2_ < (gN T : Int)) ∧ v = (-1 : Int))))))
              have hgm_ := hp0_N7_
              have hgl_ := hG.2.2.2 (a1_).toNat (a2_).toNat (by omega) (by omega)
              have hco_ := hcs_ (a0_).toNat (by omega) _ hgl_
              rw [← Int.toNat_natCast (gm T (a1_).toNat (a2_).toNat), ← hgm_, show 24 * (a0_).toNat + (v8_).toNat = (24 * a0_ + v8_).toNat by omega] at hco_
              rw [hgm_, Int.toNat_natCast, ← hgm_] at hco_
              refine zr_iadd (pc := 38) d_M_takes_38 ?_
              refine zr_ialdn (pc := 39) (zh_94 (hf.w hW)).2 (by decide) (by omega) (by omega) d_M_takes_39 (fun v9_ hv9_ hv9_a hv9_b => ?_)
              refine zw_goto (pc := 40) (tgt := 44) (by decide) d_M_takes_40 ?_
              exact zr_iret (pc := 44) (ty := .int) rfl rfl ⟨by omega, by omega⟩ hf (show ((0 ≤ a0_ ∧ a0_ < ((gF T).length : Int) ∧ 0 ≤ a1_ ∧ a1_ < (gN T : Int) ∧ 0 ≤ a2_ ∧ a2_ < (gN T : Int) ∧ v9_ = ((gcos T (gFn T (a0_).toNat) (gm T (a1_).toNat (a2_).toNat) : Nat) : Int)) ∨ (¬ (0 ≤ a0_ ∧ a0_ < ((gF T).length : Int) ∧ 0 ≤ a1_ ∧ a1_ < (gN T : Int) ∧ 0 ≤ a2_ ∧ a2_ < (gN T : Int)) ∧ v9_ = (-1 : Int))) by first | exact Or.inr ⟨by omega, rfl⟩ | exact Or.inl ⟨by omega, by omega, by omega, by omega, by omega, by omega, (show v9_ = _ by assumption).trans hco_⟩) d_M_takes_44
          · skip
            show zW l m_M_takes (zn Mz + 0, zw Mz + 0) Mz 21 [some (.ref 81), some (.int (Int32.ofInt a0_)), some (.int (Int32.ofInt a1_)), some (.int (Int32.ofInt a2_))] [.int (Int32.ofInt 0)] (zpI [] [] Mz (fun v N => (((0 ≤ a0_ ∧ a0_ < ((gF T).length : Int) ∧ 0 ≤ a1_ ∧ a1_ < (gN T : Int) ∧ 0 ≤ a2_ ∧ a2_ < (gN T : Int) ∧ v = ((gcos T (gFn T (a0_).toNat) (gm T (a1_).toNat (a2_).toNat) : Nat) : Int)) ∨ (¬ (0 ≤ a0_ ∧ a0_ < ((gF T).length : Int) ∧ 0 ≤ a1_ ∧ a1_ < (gN T : Int) ∧ 0 ≤ a2_ ∧ a2_ < (gN T : Int)) ∧ v = (-1 : Int))))))
            refine zr_if_eq (pc := 21) (tgt := 43) ⟨(by decide), (by decide)⟩ (by decide) d_M_takes_21 (fun hc_21 => ?_) (fun hc_21 => ?_)
            · skip
              refine zw_iconst (pc := 43) (v := Int32.ofInt (-1)) (by decide) d_M_takes_43 ?_
              exact zr_iret (pc := 44) (ty := .int) rfl rfl ⟨by omega, by omega⟩ hf (show ((0 ≤ a0_ ∧ a0_ < ((gF T).length : Int) ∧ 0 ≤ a1_ ∧ a1_ < (gN T : Int) ∧ 0 ≤ a2_ ∧ a2_ < (gN T : Int) ∧ ((-1)) = ((gcos T (gFn T (a0_).toNat) (gm T (a1_).toNat (a2_).toNat) : Nat) : Int)) ∨ (¬ (0 ≤ a0_ ∧ a0_ < ((gF T).length : Int) ∧ 0 ≤ a1_ ∧ a1_ < (gN T : Int) ∧ 0 ≤ a2_ ∧ a2_ < (gN T : Int)) ∧ ((-1)) = (-1 : Int))) by first | exact Or.inr ⟨by omega, rfl⟩ | exact Or.inl ⟨by omega, by omega, by omega, by omega, by omega, by omega, (show ((-1)) = _ by assumption).trans hco_⟩) d_M_takes_44
            · skip
              exact absurd hc_21 (by decide)
      · skip
        show zW l m_M_takes (zn Mz + 0, zw Mz + 0) Mz 13 [some (.ref 81), some (.int (Int32.ofInt a0_)), some (.int (Int32.ofInt a1_)), some (.int (Int32.ofInt a2_))] [.int (Int32.ofInt 0)] (zpI [] [] Mz (fun v N => (((0 ≤ a0_ ∧ a0_ < ((gF T).length : Int) ∧ 0 ≤ a1_ ∧ a1_ < (gN T : Int) ∧ 0 ≤ a2_ ∧ a2_ < (gN T : Int) ∧ v = ((gcos T (gFn T (a0_).toNat) (gm T (a1_).toNat (a2_).toNat) : Nat) : Int)) ∨ (¬ (0 ≤ a0_ ∧ a0_ < ((gF T).length : Int) ∧ 0 ≤ a1_ ∧ a1_ < (gN T : Int) ∧ 0 ≤ a2_ ∧ a2_ < (gN T : Int)) ∧ v = (-1 : Int))))))
        refine zr_if_eq (pc := 13) (tgt := 43) ⟨(by decide), (by decide)⟩ (by decide) d_M_takes_13 (fun hc_13 => ?_) (fun hc_13 => ?_)
        · skip
          refine zw_iconst (pc := 43) (v := Int32.ofInt (-1)) (by decide) d_M_takes_43 ?_
          exact zr_iret (pc := 44) (ty := .int) rfl rfl ⟨by omega, by omega⟩ hf (show ((0 ≤ a0_ ∧ a0_ < ((gF T).length : Int) ∧ 0 ≤ a1_ ∧ a1_ < (gN T : Int) ∧ 0 ≤ a2_ ∧ a2_ < (gN T : Int) ∧ ((-1)) = ((gcos T (gFn T (a0_).toNat) (gm T (a1_).toNat (a2_).toNat) : Nat) : Int)) ∨ (¬ (0 ≤ a0_ ∧ a0_ < ((gF T).length : Int) ∧ 0 ≤ a1_ ∧ a1_ < (gN T : Int) ∧ 0 ≤ a2_ ∧ a2_ < (gN T : Int)) ∧ ((-1)) = (-1 : Int))) by first | exact Or.inr ⟨by omega, rfl⟩ | exact Or.inl ⟨by omega, by omega, by omega, by omega, by omega, by omega, (show ((-1)) = _ by assumption).trans hco_⟩) d_M_takes_44
        · skip
          exact absurd hc_13 (by decide)
  · skip
    show zW l m_M_takes (zn Mz + 0, zw Mz + 0) Mz 5 [some (.ref 81), some (.int (Int32.ofInt a0_)), some (.int (Int32.ofInt a1_)), some (.int (Int32.ofInt a2_))] [.int (Int32.ofInt 0)] (zpI [] [] Mz (fun v N => (((0 ≤ a0_ ∧ a0_ < ((gF T).length : Int) ∧ 0 ≤ a1_ ∧ a1_ < (gN T : Int) ∧ 0 ≤ a2_ ∧ a2_ < (gN T : Int) ∧ v = ((gcos T (gFn T (a0_).toNat) (gm T (a1_).toNat (a2_).toNat) : Nat) : Int)) ∨ (¬ (0 ≤ a0_ ∧ a0_ < ((gF T).length : Int) ∧ 0 ≤ a1_ ∧ a1_ < (gN T : Int) ∧ 0 ≤ a2_ ∧ a2_ < (gN T : Int)) ∧ v = (-1 : Int))))))
    refine zr_if_eq (pc := 5) (tgt := 43) ⟨(by decide), (by decide)⟩ (by decide) d_M_takes_5 (fun hc_5 => ?_) (fun hc_5 => ?_)
    · skip
      refine zw_iconst (pc := 43) (v := Int32.ofInt (-1)) (by decide) d_M_takes_43 ?_
      exact zr_iret (pc := 44) (ty := .int) rfl rfl ⟨by omega, by omega⟩ hf (show ((0 ≤ a0_ ∧ a0_ < ((gF T).length : Int) ∧ 0 ≤ a1_ ∧ a1_ < (gN T : Int) ∧ 0 ≤ a2_ ∧ a2_ < (gN T : Int) ∧ ((-1)) = ((gcos T (gFn T (a0_).toNat) (gm T (a1_).toNat (a2_).toNat) : Nat) : Int)) ∨ (¬ (0 ≤ a0_ ∧ a0_ < ((gF T).length : Int) ∧ 0 ≤ a1_ ∧ a1_ < (gN T : Int) ∧ 0 ≤ a2_ ∧ a2_ < (gN T : Int)) ∧ ((-1)) = (-1 : Int))) by first | exact Or.inr ⟨by omega, rfl⟩ | exact Or.inl ⟨by omega, by omega, by omega, by omega, by omega, by omega, (show ((-1)) = _ by assumption).trans hco_⟩) d_M_takes_44
    · skip
      exact absurd hc_5 (by decide)
