set_option maxHeartbeats 4000000 in
theorem c_M_marksS (l : Launch) (Mz : zMem) (hW : zMt Mz) (T : zGT) (hO : gOK T) (hX : gEx T) (hTt : T ∈ gTabs) (b_ : Nat → Int) (n_ : Nat) (s_ : zSg) (p0_ : zGB T Mz) (p1_ : zRp b_ n_ Mz) (p2_ : zSR (gF T).length s_ Mz) : zC l m_M_marks 0 0 [.ref 81] Mz (zpI [1, 55, 60, 64, 65] [98, 99, 109, 111] Mz (fun v N => ze N 81 1 = 0 ∧ (((v = -2 ∧ (¬ ∃ f_ : Nat → Int, zRown b_ n_ (gF T).length f_) ∧ zSR (gF T).length s_ N) ∨ ∃ f_ : Nat → Int, zRown b_ n_ (gF T).length f_ ∧ (∀ j : Nat, j < (gF T).length → -1000000 ≤ f_ j ∧ f_ j ≤ 1000000) ∧ zMkO T f_ v ∧ ((v = 0 ∧ zSR (gF T).length (zpush s_ (zsq (gF T).length (gmkI T) f_)) N) ∨ (v ≠ 0 ∧ zSR (gF T).length s_ N)))))) := by
  refine zC_of (L0 := [some (.ref 81), none, none, none, none]) md_M_marks (Nat.le_of_ble_eq_true rfl) rfl ?_ zQ0
  have hf : zFr [1, 55, 60, 64, 65] [98, 99, 109, 111] Mz Mz := zFr.rf
  have r_1 := ze_r Mz 81 1
  have r_26 := ze_r Mz 81 26
  have r_55 := ze_r Mz 81 55
  have r_60 := ze_r Mz 81 60
  have hG := hO.1
  have g24 := hG.2.1
  have g1 := hG.1
  have dv0 : zTab T Mz := p0_.1
  have dv1 : zB 85 144 0 5 Mz := p0_.2.1
  have dv2 : zJX T Mz := p0_.2.2.1
  have dv3 : zFirs T Mz := p0_.2.2.2.1
  have dv4 : zSSm T Mz := p0_.2.2.2.2.1
  have dv5 : zGD Mz := zGB.d hO p0_
  have dv6 : zRmk (gF T).length (gmkI T) Mz := p0_.rm
  have dv7 : zR82 b_ n_ Mz := p1_.r82
  have gb := dv5.1
  have gn := dv0.1
  have gfl := dv3.1
  have gf6 := gF_pos hO
  have gxl := hX.2.1
  have hTA_ := gT_zTA hTt
  obtain ⟨⟨hF1_, hF27_⟩, hAr_⟩ := id hTA_
  have hF64_ : (gF T).length ≤ 64 := by omega
  obtain ⟨⟨hs1_, hs2_⟩, hs3_, hs4_⟩ := id p2_
  have h82_ := p1_.r82
  have hrp1_ := p1_.1
  refine zw_aload_n (pc := 0) (n := 0) (x := 81) rfl d_M_marks_0 ?_
  refine zr_getI (hf.w hW) (pc := 1) f_M_124 rfl d_M_marks_1 ?_
  refine zw_istore_n (pc := 4) (i := 1) (L2 := [some (.ref 81), some (.int (Int32.ofInt (ze Mz 81 1))), none, none, none]) rfl (by decide) rfl d_M_marks_4 ?_
  refine zw_aload_n (pc := 5) (n := 0) (x := 81) rfl d_M_marks_5 ?_
  refine zw_iconst (pc := 6) (v := Int32.ofInt 0) (by decide) d_M_marks_6 ?_
  refine zr_putI (hf.w hW) (pc := 7) f_M_124 rfl rfl ⟨by omega, by omega⟩ rfl rfl d_M_marks_7 (fun N1_ hsN1_ hvN1_ => ?_)
  have hf_N1_ : zFr [1, 55, 60, 64, 65] [98, 99, 109, 111] Mz N1_ := hf.tr hsN1_ (by decide) (by decide)
  have r1_N1_ := ze_r N1_ 81 1
  have e26_N1_ : ze N1_ 81 26 = ze Mz 81 26 := hsN1_.e (by decide)
  have e55_N1_ : ze N1_ 81 55 = ze Mz 81 55 := hsN1_.e (by decide)
  have e60_N1_ : ze N1_ 81 60 = ze Mz 81 60 := hsN1_.e (by decide)
  have c2_ : zGB T N1_ := zGB.fr hsN1_ p0_ (by decide) (by decide)
  have c3_ : zSR (gF T).length s_ N1_ := zSR.fr hsN1_ p2_ (by decide) (by decide)
  have c4_ : zTab T N1_ := zTab.fr hsN1_ dv0 (by decide) (by decide)
  have c5_ : zB 85 144 0 5 N1_ := zB.fr hsN1_ dv1 (by decide) (by decide)
  have c6_ : zJX T N1_ := zJX.fr hsN1_ dv2 (by decide) (by decide)
  have c7_ : zFirs T N1_ := zFirs.fr hsN1_ dv3 (by decide) (by decide)
  have c8_ : zSSm T N1_ := zSSm.fr hsN1_ dv4 (by decide) (by decide)
  have c9_ : zGD N1_ := zGD.fr hsN1_ dv5 (by decide) (by decide)
  have c10_ : zRmk (gF T).length (gmkI T) N1_ := zRmk.fr hsN1_ dv6 (by decide) (by decide)
  have c11_ : zR82 b_ n_ N1_ := zR82.fr hsN1_ dv7 (by decide) (by decide)
  refine zw_aload_n (pc := 10) (n := 0) (x := 81) rfl d_M_marks_10 ?_
  refine zw_iload_n (pc := 11) (n := 1) (x := Int32.ofInt (ze Mz 81 1)) rfl d_M_marks_11 ?_
  refine zr_callV (hf_N1_.w hW) hf_N1_.x (pc := 12) [.int (Int32.ofInt (ze Mz 81 1))] [] l_M_520 (c_M_readsMarksS l N1_ (hf_N1_.w hW) (ze Mz 81 1) (ze_r Mz 81 1).1 (ze_r Mz 81 1).2 T hO b_ n_ c2_ c11_ (show (ze Mz 81 1) = n_ by first | assumption | omega)) rfl rfl rfl (by decide) (Nat.le_of_ble_eq_true rfl) d_M_marks_12 ?_
  rintro _ N12_ ⟨v13_, rfl, ⟨hv13_a, hv13_b⟩, hsN12_, hp0_N12_⟩
  replace hp0_N12_ : ((v13_ = 1 ∧ zRown b_ n_ (gF T).length (fun j_ => zg N12_ 99 j_) ∧ (∀ j : Nat, j < (gF T).length → -999999 ≤ zg N12_ 99 j ∧ zg N12_ 99 j ≤ 999999)) ∨ (v13_ = 0 ∧ ¬ ∃ f_ : Nat → Int, zRown b_ n_ (gF T).length f_)) := hp0_N12_
  have hf_N12_ : zFr [1, 55, 60, 64, 65] [98, 99, 109, 111] Mz N12_ := hf_N1_.tr hsN12_ (by decide) (by decide)
  have e1_N12_ : ze N12_ 81 1 = ze N1_ 81 1 := hsN12_.e (by decide)
  have e26_N12_ : ze N12_ 81 26 = ze N1_ 81 26 := hsN12_.e (by decide)
  have e55_N12_ : ze N12_ 81 55 = ze N1_ 81 55 := hsN12_.e (by decide)
  have e60_N12_ : ze N12_ 81 60 = ze N1_ 81 60 := hsN12_.e (by decide)
  have c14_ : zGB T N12_ := zGB.fr hsN12_ c2_ (by decide) (by decide)
  have c15_ : zSR (gF T).length s_ N12_ := zSR.fr hsN12_ c3_ (by decide) (by decide)
  have c16_ : zTab T N12_ := zTab.fr hsN12_ c4_ (by decide) (by decide)
  have c17_ : zB 85 144 0 5 N12_ := zB.fr hsN12_ c5_ (by decide) (by decide)
  have c18_ : zJX T N12_ := zJX.fr hsN12_ c6_ (by decide) (by decide)
  have c19_ : zFirs T N12_ := zFirs.fr hsN12_ c7_ (by decide) (by decide)
  have c20_ : zSSm T N12_ := zSSm.fr hsN12_ c8_ (by decide) (by decide)
  have c21_ : zGD N12_ := zGD.fr hsN12_ c9_ (by decide) (by decide)
  have c22_ : zRmk (gF T).length (gmkI T) N12_ := zRmk.fr hsN12_ c10_ (by decide) (by decide)
  have c23_ : zR82 b_ n_ N12_ := zR82.fr hsN12_ c11_ (by decide) (by decide)
  rcases hp0_N12_ with ⟨rfl, ha12_0_hp0_N12_, ha12_1_hp0_N12_⟩ | ⟨rfl, ha12_0_hp0_N12_⟩
  · skip
    obtain ⟨f_, hf99_⟩ : ∃ f : Nat → Int, ∀ j : Nat, zg N12_ 99 j = f j := ⟨_, fun _ => rfl⟩
    have hrow_ := ha12_0_hp0_N12_
    have hbd0_ := ha12_1_hp0_N12_
    rw [show (fun j_ => zg N12_ 99 j_) = f_ from funext hf99_] at hrow_
    have hbd_ : ∀ j_ : Nat, j_ < (gF T).length → -1000000 ≤ f_ j_ ∧ f_ j_ ≤ 1000000 := fun j_ hj_ => by have h_ := hbd0_ j_ hj_; rw [hf99_] at h_; omega
    have hab_ : ∀ j_ : Nat, j_ < (gF T).length → (f_ j_).natAbs ≤ 1000000 := fun j_ hj_ => by have h_ := hbd_ j_ hj_; omega
    show zW l m_M_marks (zn Mz + 0, zw Mz + 0) N12_ 15 [some (.ref 81), some (.int (Int32.ofInt (ze Mz 81 1))), none, none, none] [.int (Int32.ofInt 1)] (zpI [1, 55, 60, 64, 65] [98, 99, 109, 111] Mz (fun v N => ze N 81 1 = 0 ∧ (((v = -2 ∧ (¬ ∃ f_ : Nat → Int, zRown b_ n_ (gF T).length f_) ∧ zSR (gF T).length s_ N) ∨ ∃ f_ : Nat → Int, zRown b_ n_ (gF T).length f_ ∧ (∀ j : Nat, j < (gF T).length → -1000000 ≤ f_ j ∧ f_ j ≤ 1000000) ∧ zMkO T f_ v ∧ ((v = 0 ∧ zSR (gF T).length (zpush s_ (zsq (gF T).length (gmkI T) f_)) N) ∨ (v ≠ 0 ∧ zSR (gF T).length s_ N))))))
    refine zr_if_ne (pc := 15) (tgt := 21) ⟨(by decide), (by decide)⟩ (by decide) d_M_marks_15 (fun hc_15 => ?_) (fun hc_15 => ?_)
    · skip
      refine zw_iconst (pc := 21) (v := Int32.ofInt 0) (by decide) d_M_marks_21 ?_
      refine zw_istore_n (pc := 22) (i := 2) (L2 := [some (.ref 81), some (.int (Int32.ofInt (ze Mz 81 1))), some (.int (Int32.ofInt 0)), none, none]) rfl (by decide) rfl d_M_marks_22 ?_
      have lp_23 : ∀ (n : Nat) (u24_ : Int) (hu24_a : -2147483648 ≤ u24_) (hu24_b : u24_ < 2147483648) (N25_ : zMem) (hs26_ : zFr [55] [109] N12_ N25_) (i27_ : 0 ≤ u24_) (i28_ : u24_ ≤ ((gF T).length : Int)) (i29_ : (∀ j : Nat, zg N25_ 99 j = f_ j)) (i30_ : (∀ i : Nat, (i : Int) < u24_ → zCgr T (gFn T i) f_)) (i31_ : ze N25_ 81 1 = 0), (((gF T).length : Int) - u24_).toNat < n → zW l m_M_marks (zn Mz + 0, zw Mz + 0) N25_ 23 [some (.ref 81), some (.int (Int32.ofInt (ze Mz 81 1))), some (.int (Int32.ofInt u24_)), none, none] [] (zpI [1, 55, 60, 64, 65] [98, 99, 109, 111] Mz (fun v N => ze N 81 1 = 0 ∧ (((v = -2 ∧ (¬ ∃ f_ : Nat → Int, zRown b_ n_ (gF T).length f_) ∧ zSR (gF T).length s_ N) ∨ ∃ f_ : Nat → Int, zRown b_ n_ (gF T).length f_ ∧ (∀ j : Nat, j < (gF T).length → -1000000 ≤ f_ j ∧ f_ j ≤ 1000000) ∧ zMkO T f_ v ∧ ((v = 0 ∧ zSR (gF T).length (zpush s_ (zsq (gF T).length (gmkI T) f_)) N) ∨ (v ≠ 0 ∧ zSR (gF T).length s_ N)))))) := by
        intro n
        induction n with
        | zero =>
          intro u24_ hu24_a hu24_b N25_ hs26_ i27_ i28_ i29_ i30_ i31_ h0
          exact absurd h0 (Nat.not_lt_zero _)
        | succ n ih_23 =>
          intro u24_ hu24_a hu24_b N25_ hs26_ i27_ i28_ i29_ i30_ i31_ hlt_23
          have hf_N25_ : zFr [1, 55, 60, 64, 65] [98, 99, 109, 111] Mz N25_ := hf_N12_.tr hs26_ (by decide) (by decide)
          have e1_N25_ : ze N25_ 81 1 = ze N12_ 81 1 := hs26_.e (by decide)
          have e26_N25_ : ze N25_ 81 26 = ze N12_ 81 26 := hs26_.e (by decide)
          have r55_N25_ := ze_r N25_ 81 55
          have e60_N25_ : ze N25_ 81 60 = ze N12_ 81 60 := hs26_.e (by decide)
          have c32_ : zGB T N25_ := zGB.fr hs26_ c14_ (by decide) (by decide)
          have c33_ : zSR (gF T).length s_ N25_ := zSR.fr hs26_ c15_ (by decide) (by decide)
          have c34_ : zTab T N25_ := zTab.fr hs26_ c16_ (by decide) (by decide)
          have c35_ : zB 85 144 0 5 N25_ := zB.fr hs26_ c17_ (by decide) (by decide)
          have c36_ : zJX T N25_ := zJX.fr hs26_ c18_ (by decide) (by decide)
          have c37_ : zFirs T N25_ := zFirs.fr hs26_ c19_ (by decide) (by decide)
          have c38_ : zSSm T N25_ := zSSm.fr hs26_ c20_ (by decide) (by decide)
          have c39_ : zGD N25_ := zGD.fr hs26_ c21_ (by decide) (by decide)
          have c40_ : zRmk (gF T).length (gmkI T) N25_ := zRmk.fr hs26_ c22_ (by decide) (by decide)
          have c41_ : zR82 b_ n_ N25_ := zR82.fr hs26_ c23_ (by decide) (by decide)
          have hfi_ := (show (∀ j : Nat, zg N25_ 99 j = f_ j) by assumption)
          have hcj_ := (show (∀ i : Nat, (i : Int) < u24_ → zCgr T (gFn T i) f_) by assumption)
          refine zw_iload_n (pc := 23) (n := 2) (x := Int32.ofInt u24_) rfl d_M_marks_23 ?_
          refine zw_aload_n (pc := 24) (n := 0) (x := 81) rfl d_M_marks_24 ?_
          refine zr_getI0 hf_N25_ hW (pc := 25) (by decide) f_M_235 rfl d_M_marks_25 ?_
          refine zr_icmp_ge (pc := 28) (tgt := 63) ⟨hu24_a, hu24_b⟩ ⟨(ze_r Mz 81 26).1, (ze_r Mz 81 26).2⟩ (by decide) d_M_marks_28 (fun hc_28 => ?_) (fun hc_28 => ?_)
          · skip
            refine zw_aload_n (pc := 63) (n := 0) (x := 81) rfl d_M_marks_63 ?_
            refine zr_callV (hf_N25_.w hW) hf_N25_.x (pc := 64) [] [] l_M_481 (c_M_actS l N25_ (hf_N25_.w hW) (gF T).length hF64_ s_ c33_) rfl rfl rfl (by decide) (Nat.le_of_ble_eq_true rfl) d_M_marks_64 ?_
            rintro _ N42_ ⟨rfl, hsN42_, hp0_N42_⟩
            replace hp0_N42_ : zSA (gF T).length s_ N42_ := hp0_N42_
            have hf_N42_ : zFr [1, 55, 60, 64, 65] [98, 99, 109, 111] Mz N42_ := hf_N25_.tr hsN42_ (by decide) (by decide)
            have e1_N42_ : ze N42_ 81 1 = ze N25_ 81 1 := hsN42_.e (by decide)
            have e26_N42_ : ze N42_ 81 26 = ze N25_ 81 26 := hsN42_.e (by decide)
            have e55_N42_ : ze N42_ 81 55 = ze N25_ 81 55 := hsN42_.e (by decide)
            have r60_N42_ := ze_r N42_ 81 60
            have c44_ : zGB T N42_ := zGB.fr hsN42_ c32_ (by decide) (by decide)
            have c45_ : zTab T N42_ := zTab.fr hsN42_ c34_ (by decide) (by decide)
            have c46_ : zB 85 144 0 5 N42_ := zB.fr hsN42_ c35_ (by decide) (by decide)
            have c47_ : zJX T N42_ := zJX.fr hsN42_ c36_ (by decide) (by decide)
            have c48_ : zFirs T N42_ := zFirs.fr hsN42_ c37_ (by decide) (by decide)
            have c49_ : zSSm T N42_ := zSSm.fr hsN42_ c38_ (by decide) (by decide)
            have c50_ : zGD N42_ := zGD.fr hsN42_ c39_ (by decide) (by decide)
            have c51_ : zRmk (gF T).length (gmkI T) N42_ := zRmk.fr hsN42_ c40_ (by decide) (by decide)
            have c52_ : zR82 b_ n_ N42_ := zR82.fr hsN42_ c41_ (by decide) (by decide)
            show zW l m_M_marks (zn Mz + 0, zw Mz + 0) N42_ 67 [some (.ref 81), some (.int (Int32.ofInt (ze Mz 81 1))), some (.int (Int32.ofInt u24_)), none, none] [] (zpI [1, 55, 60, 64, 65] [98, 99, 109, 111] Mz (fun v N => ze N 81 1 = 0 ∧ (((v = -2 ∧ (¬ ∃ f_ : Nat → Int, zRown b_ n_ (gF T).length f_) ∧ zSR (gF T).length s_ N) ∨ ∃ f_ : Nat → Int, zRown b_ n_ (gF T).length f_ ∧ (∀ j : Nat, j < (gF T).length → -1000000 ≤ f_ j ∧ f_ j ≤ 1000000) ∧ zMkO T f_ v ∧ ((v = 0 ∧ zSR (gF T).length (zpush s_ (zsq (gF T).length (gmkI T) f_)) N) ∨ (v ≠ 0 ∧ zSR (gF T).length s_ N))))))
            have hfa_ : (∀ j : Nat, zg N42_ 99 j = f_ j) := fun j_ => ((hsN42_).jg (by decide) (by decide) j_).trans (hfi_ j_)
            refine zw_aload_n (pc := 67) (n := 0) (x := 81) rfl d_M_marks_67 ?_
            refine zw_aload_n (pc := 68) (n := 0) (x := 81) rfl d_M_marks_68 ?_
            refine zr_getF (r := 99) (hf_N42_.w hW) (pc := 69) f_M_69 rfl (zh_99 (hf_N42_.w hW)).1 d_M_marks_69 ?_
            refine zw_aload_n (pc := 72) (n := 0) (x := 81) rfl d_M_marks_72 ?_
            refine zr_getF (r := 98) (hf_N42_.w hW) (pc := 73) f_M_66 rfl (zh_98 (hf_N42_.w hW)).1 d_M_marks_73 ?_
            refine zw_iconst (pc := 76) (v := Int32.ofInt 0) (by decide) d_M_marks_76 ?_
            refine zr_callV (hf_N42_.w hW) hf_N42_.x (pc := 77) [.ref 99, .ref 98, .int (Int32.ofInt 0)] [] l_M_289 (c_M_numbers_99_98S l N42_ (hf_N42_.w hW) 0 (by decide) (by decide) (gF T).length (gmkI T) hTA_ c51_ (show 0 ≤ 0 by first | assumption | omega) (show 0 ≤ 0 by first | assumption | omega) (show (∀ j : Nat, j < (gF T).length → -1000000 ≤ zg N42_ 99 j ∧ zg N42_ 99 j ≤ 1000000) by exact fun j_ hj_ => by rw [hfa_]; exact hbd_ j_ hj_)) rfl rfl rfl (by decide) (Nat.le_of_ble_eq_true rfl) d_M_marks_77 ?_
            rintro _ N53_ ⟨rfl, hsN53_, hp0_N53_⟩
            replace hp0_N53_ : (∀ k : Nat, k < (gF T).length → zg N53_ 98 k = (zsq (gF T).length (gmkI T) (fun j_ => zg N42_ 99 j_)) k) := hp0_N53_
            have hf_N53_ : zFr [1, 55, 60, 64, 65] [98, 99, 109, 111] Mz N53_ := hf_N42_.tr hsN53_ (by decide) (by decide)
            have e1_N53_ : ze N53_ 81 1 = ze N42_ 81 1 := hsN53_.e (by decide)
            have e26_N53_ : ze N53_ 81 26 = ze N42_ 81 26 := hsN53_.e (by decide)
            have e55_N53_ : ze N53_ 81 55 = ze N42_ 81 55 := hsN53_.e (by decide)
            have e60_N53_ : ze N53_ 81 60 = ze N42_ 81 60 := hsN53_.e (by decide)
            have c55_ : zGB T N53_ := zGB.fr hsN53_ c44_ (by decide) (by decide)
            have c56_ : zTab T N53_ := zTab.fr hsN53_ c45_ (by decide) (by decide)
            have c57_ : zB 85 144 0 5 N53_ := zB.fr hsN53_ c46_ (by decide) (by decide)
            have c58_ : zJX T N53_ := zJX.fr hsN53_ c47_ (by decide) (by decide)
            have c59_ : zFirs T N53_ := zFirs.fr hsN53_ c48_ (by decide) (by decide)
            have c60_ : zSSm T N53_ := zSSm.fr hsN53_ c49_ (by decide) (by decide)
            have c61_ : zGD N53_ := zGD.fr hsN53_ c50_ (by decide) (by decide)
            have c62_ : zRmk (gF T).length (gmkI T) N53_ := zRmk.fr hsN53_ c51_ (by decide) (by decide)
            have c63_ : zR82 b_ n_ N53_ := zR82.fr hsN53_ c52_ (by decide) (by decide)
            have c64_ : zSA (gF T).length s_ N53_ := zSA.fr hsN53_ hp0_N42_ (by decide) (by decide)
            show zW l m_M_marks (zn Mz + 0, zw Mz + 0) N53_ 80 [some (.ref 81), some (.int (Int32.ofInt (ze Mz 81 1))), some (.int (Int32.ofInt u24_)), none, none] [] (zpI [1, 55, 60, 64, 65] [98, 99, 109, 111] Mz (fun v N => ze N 81 1 = 0 ∧ (((v = -2 ∧ (¬ ∃ f_ : Nat → Int, zRown b_ n_ (gF T).length f_) ∧ zSR (gF T).length s_ N) ∨ ∃ f_ : Nat → Int, zRown b_ n_ (gF T).length f_ ∧ (∀ j : Nat, j < (gF T).length → -1000000 ≤ f_ j ∧ f_ j ≤ 1000000) ∧ zMkO T f_ v ∧ ((v = 0 ∧ zSR (gF T).length (zpush s_ (zsq (gF T).length (gmkI T) f_)) N) ∨ (v ≠ 0 ∧ zSR (gF T).length s_ N))))))
            have hnu_ := hp0_N53_
            have hsr_ := c64_.ps (fun k_ hk_ => (hnu_ k_ hk_).trans (zsq_cc (m' := f_) (fun j_ _ => hfa_ j_) k_ hk_))
            refine zw_iconst (pc := 80) (v := Int32.ofInt 0) (by decide) d_M_marks_80 ?_
            exact zr_iret (pc := 81) (ty := .int) rfl rfl ⟨by omega, by omega⟩ hf_N53_ ⟨(show ze N53_ 81 1 = 0 by first | assumption | omega), (show ((0 = -2 ∧ (¬ ∃ f_ : Nat → Int, zRown b_ n_ (gF T).length f_) ∧ zSR (gF T).length s_ N53_) ∨ ∃ f_ : Nat → Int, zRown b_ n_ (gF T).length f_ ∧ (∀ j : Nat, j < (gF T).length → -1000000 ≤ f_ j ∧ f_ j ≤ 1000000) ∧ zMkO T f_ 0 ∧ ((0 = 0 ∧ zSR (gF T).length (zpush s_ (zsq (gF T).length (gmkI T) f_)) N53_) ∨ (0 ≠ 0 ∧ zSR (gF T).length s_ N53_))) by exact Or.inr ⟨f_, hrow_, hbd_, Or.inl ⟨rfl, fun i_ hi_ => hcj_ i_ (by omega)⟩, Or.inl ⟨rfl, hsr_⟩⟩)⟩ d_M_marks_81
          · skip
            refine zw_aload_n (pc := 31) (n := 0) (x := 81) rfl d_M_marks_31 ?_
            refine zw_aload_n (pc := 32) (n := 0) (x := 81) rfl d_M_marks_32 ?_
            refine zr_getF (r := 99) (hf_N25_.w hW) (pc := 33) f_M_69 rfl (zh_99 (hf_N25_.w hW)).1 d_M_marks_33 ?_
            refine zw_iload_n (pc := 36) (n := 2) (x := Int32.ofInt u24_) rfl d_M_marks_36 ?_
            refine zr_callV (hf_N25_.w hW) hf_N25_.x (pc := 37) [.ref 99, .int (Int32.ofInt u24_)] [] l_M_475 (c_M_congruenceOf_99S l N25_ (hf_N25_.w hW) u24_ hu24_a hu24_b T hO hX c32_ (show 0 ≤ u24_ by first | assumption | omega) (show u24_ < ze N25_ 81 26 by first | assumption | omega)) rfl rfl rfl (by decide) (Nat.le_of_ble_eq_true rfl) d_M_marks_37 ?_
            rintro _ N65_ ⟨v66_, rfl, ⟨hv66_a, hv66_b⟩, hsN65_, ⟨hp0_N65_, hp1_N65_, hp2_N65_, hp3_N65_⟩⟩
            have hf_N65_ : zFr [1, 55, 60, 64, 65] [98, 99, 109, 111] Mz N65_ := hf_N25_.tr hsN65_ (by decide) (by decide)
            have hb0_N65_ : zFr [55] [109] N12_ N65_ := hs26_.tr hsN65_ (by decide) (by decide)
            have e1_N65_ : ze N65_ 81 1 = ze N25_ 81 1 := hsN65_.e (by decide)
            have e26_N65_ : ze N65_ 81 26 = ze N25_ 81 26 := hsN65_.e (by decide)
            have r55_N65_ := ze_r N65_ 81 55
            have e60_N65_ : ze N65_ 81 60 = ze N25_ 81 60 := hsN65_.e (by decide)
            have c67_ : zGB T N65_ := zGB.fr hsN65_ c32_ (by decide) (by decide)
            have c68_ : zSR (gF T).length s_ N65_ := zSR.fr hsN65_ c33_ (by decide) (by decide)
            have c69_ : zTab T N65_ := zTab.fr hsN65_ c34_ (by decide) (by decide)
            have c70_ : zB 85 144 0 5 N65_ := zB.fr hsN65_ c35_ (by decide) (by decide)
            have c71_ : zJX T N65_ := zJX.fr hsN65_ c36_ (by decide) (by decide)
            have c72_ : zFirs T N65_ := zFirs.fr hsN65_ c37_ (by decide) (by decide)
            have c73_ : zSSm T N65_ := zSSm.fr hsN65_ c38_ (by decide) (by decide)
            have c74_ : zGD N65_ := zGD.fr hsN65_ c39_ (by decide) (by decide)
            have c75_ : zRmk (gF T).length (gmkI T) N65_ := zRmk.fr hsN65_ c40_ (by decide) (by decide)
            have c76_ : zR82 b_ n_ N65_ := zR82.fr hsN65_ c41_ (by decide) (by decide)
            show zW l m_M_marks (zn Mz + 0, zw Mz + 0) N65_ 40 [some (.ref 81), some (.int (Int32.ofInt (ze Mz 81 1))), some (.int (Int32.ofInt u24_)), none, none] [.long (Int64.ofInt v66_)] (zpI [1, 55, 60, 64, 65] [98, 99, 109, 111] Mz (fun v N => ze N 81 1 = 0 ∧ (((v = -2 ∧ (¬ ∃ f_ : Nat → Int, zRown b_ n_ (gF T).length f_) ∧ zSR (gF T).length s_ N) ∨ ∃ f_ : Nat → Int, zRown b_ n_ (gF T).length f_ ∧ (∀ j : Nat, j < (gF T).length → -1000000 ≤ f_ j ∧ f_ j ≤ 1000000) ∧ zMkO T f_ v ∧ ((v = 0 ∧ zSR (gF T).length (zpush s_ (zsq (gF T).length (gmkI T) f_)) N) ∨ (v ≠ 0 ∧ zSR (gF T).length s_ N))))))
            have hco_ := hp0_N65_
            rw [show (fun j_ => zg N25_ 99 j_) = f_ from funext hfi_] at hco_
            have hsb_ := zmi_sb hTt (H := gFn T (u24_).toNat) (f := f_) (n := gN T) (by omega) hab_
            have hve_ := z64q ⟨by omega, by omega⟩ ⟨by omega, by omega⟩ hco_
            have hgm_ := hp1_N65_
            have hfj_ : (∀ j : Nat, zg N65_ 99 j = f_ j) := fun j_ => ((hsN65_).jg (by decide) (by decide) j_).trans (hfi_ j_)
            refine zw_lstore_n (pc := 40) (i := 3) (L2 := [some (.ref 81), some (.int (Int32.ofInt (ze Mz 81 1))), some (.int (Int32.ofInt u24_)), some (.long (Int64.ofInt v66_)), none]) rfl (by decide) rfl d_M_marks_40 ?_
            refine zw_lload_n (pc := 41) (n := 3) (x := Int64.ofInt v66_) rfl d_M_marks_41 ?_
            refine zw_aload_n (pc := 42) (n := 0) (x := 81) rfl d_M_marks_42 ?_
            refine zr_getI (hf_N65_.w hW) (pc := 43) f_M_453 rfl d_M_marks_43 ?_
            refine zr_i2l (pc := 46) ⟨(ze_r N65_ 81 55).1, (ze_r N65_ 81 55).2⟩ d_M_marks_46 ?_
            refine zr_lrem (pc := 47) ⟨by omega, by omega⟩ (by omega) d_M_marks_47 ?_
            have hr77_ := zlrem_r v66_ (ze N65_ 81 55)
            have hlr_ := zlrem_d (a := v66_) (b := ze N65_ 81 55) (by omega) (by omega) (by omega) (by omega)
            have hcg_ : zCgr T (gFn T (u24_).toNat) f_ ↔ ze N65_ 81 55 ∣ v66_ := by rw [hve_, hgm_]; exact Iff.rfl
            have hcn_ : zlrem v66_ (ze N65_ 81 55) = 0 → ∀ i : Nat, (i : Int) < u24_ + 1 → zCgr T (gFn T i) f_ := fun z_ i_ hi_ => by by_cases g_ : (i_ : Int) < u24_; exact hcj_ i_ g_; (rw [show i_ = (u24_).toNat by omega]; exact hcg_.mpr (hlr_.mp z_))
            have hno2_ : zlrem v66_ (ze N65_ 81 55) ≠ 0 → zMkO T f_ (u24_ + 1) := fun z_ => Or.inr ⟨(u24_).toNat, by omega, by omega, fun q_ => z_ (hlr_.mpr (hcg_.mp q_)), fun i_ hi_ => hcj_ i_ (by omega)⟩
            refine zw_lconst (pc := 48) (v := Int64.ofInt 0) (by decide) d_M_marks_48 ?_
            refine zr_lcmp (pc := 49) ⟨(by omega), (by omega)⟩ ⟨(by decide), (by decide)⟩ d_M_marks_49 ?_
            have hr78_ := zcmp_s (zlrem v66_ (ze N65_ 81 55)) 0
            refine zr_if_eq (pc := 50) (tgt := 57) ⟨(by omega), (by omega)⟩ (by decide) d_M_marks_50 (fun hc_50 => ?_) (fun hc_50 => ?_)
            · skip
              refine zr_iinc (pc := 57) (i := 2) (a := u24_) (n := 1) (L2 := [some (.ref 81), some (.int (Int32.ofInt (ze Mz 81 1))), some (.int (Int32.ofInt (u24_ + 1))), some (.long (Int64.ofInt v66_)), none]) rfl (by decide) rfl d_M_marks_57 ?_
              refine zw_goto (pc := 60) (tgt := 23) (by decide) d_M_marks_60 ?_
              refine zW_le [some (.ref 81), some (.int (Int32.ofInt (ze Mz 81 1))), some (.int (Int32.ofInt (u24_ + 1))), none, none] (⟨rfl, rfl, rfl, trivial⟩) ?_
              exact ih_23 (u24_ + 1) (by omega) (by omega) N65_ hb0_N65_ (show 0 ≤ (u24_ + 1) by first | assumption | omega) (show (u24_ + 1) ≤ ((gF T).length : Int) by first | assumption | omega) (show (∀ j : Nat, zg N65_ 99 j = f_ j) by exact hfj_) (show (∀ i : Nat, (i : Int) < (u24_ + 1) → zCgr T (gFn T i) f_) by exact hcn_ (by omega)) (show ze N65_ 81 1 = 0 by first | assumption | omega) (by omega)
            · skip
              refine zw_iload_n (pc := 53) (n := 2) (x := Int32.ofInt u24_) rfl d_M_marks_53 ?_
              refine zw_iconst (pc := 54) (v := Int32.ofInt 1) (by decide) d_M_marks_54 ?_
              refine zr_iadd (pc := 55) d_M_marks_55 ?_
              exact zr_iret (pc := 56) (ty := .int) rfl rfl ⟨by omega, by omega⟩ hf_N65_ ⟨(show ze N65_ 81 1 = 0 by first | assumption | omega), (show (((u24_ + 1) = -2 ∧ (¬ ∃ f_ : Nat → Int, zRown b_ n_ (gF T).length f_) ∧ zSR (gF T).length s_ N65_) ∨ ∃ f_ : Nat → Int, zRown b_ n_ (gF T).length f_ ∧ (∀ j : Nat, j < (gF T).length → -1000000 ≤ f_ j ∧ f_ j ≤ 1000000) ∧ zMkO T f_ (u24_ + 1) ∧ (((u24_ + 1) = 0 ∧ zSR (gF T).length (zpush s_ (zsq (gF T).length (gmkI T) f_)) N65_) ∨ ((u24_ + 1) ≠ 0 ∧ zSR (gF T).length s_ N65_))) by exact Or.inr ⟨f_, hrow_, hbd_, hno2_ (by omega), Or.inr ⟨by omega, c68_⟩⟩)⟩ d_M_marks_56
      exact lp_23 _ 0 (by decide) (by decide) N12_ zFr.rf (show 0 ≤ (0 : Int) by first | assumption | omega) (show (0 : Int) ≤ ((gF T).length : Int) by first | assumption | omega) (show (∀ j : Nat, zg N12_ 99 j = f_ j) by exact hf99_) (show (∀ i : Nat, (i : Int) < (0 : Int) → zCgr T (gFn T i) f_) by exact fun i_ hi_ => absurd hi_ (by omega)) (show ze N12_ 81 1 = 0 by first | assumption | omega) (Nat.lt_succ_self _)
    · skip
      exact absurd hc_15 (by decide)
  · skip
    have hno_ := ha12_0_hp0_N12_
    show zW l m_M_marks (zn Mz + 0, zw Mz + 0) N12_ 15 [some (.ref 81), some (.int (Int32.ofInt (ze Mz 81 1))), none, none, none] [.int (Int32.ofInt 0)] (zpI [1, 55, 60, 64, 65] [98, 99, 109, 111] Mz (fun v N => ze N 81 1 = 0 ∧ (((v = -2 ∧ (¬ ∃ f_ : Nat → Int, zRown b_ n_ (gF T).length f_) ∧ zSR (gF T).length s_ N) ∨ ∃ f_ : Nat → Int, zRown b_ n_ (gF T).length f_ ∧ (∀ j : Nat, j < (gF T).length → -1000000 ≤ f_ j ∧ f_ j ≤ 1000000) ∧ zMkO T f_ v ∧ ((v = 0 ∧ zSR (gF T).length (zpush s_ (zsq (gF T).length (gmkI T) f_)) N) ∨ (v ≠ 0 ∧ zSR (gF T).length s_ N))))))
    refine zr_if_ne (pc := 15) (tgt := 21) ⟨(by decide), (by decide)⟩ (by decide) d_M_marks_15 (fun hc_15 => ?_) (fun hc_15 => ?_)
    · skip
      exact absurd hc_15 (by decide)
    · skip
      refine zw_bipush (pc := 18) (v := Int32.ofInt (-2)) (by decide) d_M_marks_18 ?_
      exact zr_iret (pc := 20) (ty := .int) rfl rfl ⟨by omega, by omega⟩ hf_N12_ ⟨(show ze N12_ 81 1 = 0 by first | assumption | omega), (show ((((-2)) = -2 ∧ (¬ ∃ f_ : Nat → Int, zRown b_ n_ (gF T).length f_) ∧ zSR (gF T).length s_ N12_) ∨ ∃ f_ : Nat → Int, zRown b_ n_ (gF T).length f_ ∧ (∀ j : Nat, j < (gF T).length → -1000000 ≤ f_ j ∧ f_ j ≤ 1000000) ∧ zMkO T f_ ((-2)) ∧ ((((-2)) = 0 ∧ zSR (gF T).length (zpush s_ (zsq (gF T).length (gmkI T) f_)) N12_) ∨ (((-2)) ≠ 0 ∧ zSR (gF T).length s_ N12_))) by exact Or.inl ⟨rfl, hno_, c15_⟩)⟩ d_M_marks_20
