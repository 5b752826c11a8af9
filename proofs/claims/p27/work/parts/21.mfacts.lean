def zPr (a jj : Nat) (M N : zMem) : Prop := zsh N a = zsh M a ∧ zf N 81 jj = zf M 81 jj ∧ zi N a = zi M a ∧ zj N a = zj M a
theorem zPr.tr {a jj : Nat} {M N P : zMem} (x : zPr a jj M N) (y : zPr a jj N P) : zPr a jj M P := ⟨y.1.trans x.1, y.2.1.trans x.2.1, y.2.2.1.trans x.2.2.1, y.2.2.2.trans x.2.2.2⟩
theorem zal_io {M : zMem} {t n r : Nat} (h : r < zn M) : zi (zal M t n) r = zi M r ∧ zj (zal M t n) r = zj M r := by
  have hne : ¬ r = M.1.1 := by
    have : zn M = M.1.1 := rfl
    omega
  simp [zi, zj, zal, hne]
theorem zPr.al {a jj j t n : Nat} {v : Option Nat} {M : zMem} (ha : a < zn M) (h81 : 81 < zn M) (hj : jj ≠ j) : zPr a jj M (zsF (zal M t n) 81 j v) :=
  ⟨(zal_old (t := t) (n := n) ha).1, (zup2_n (fun z => hj z.2)).trans (congrFun (zal_old (t := t) (n := n) h81).2 jj), (zal_io (t := t) (n := n) ha).1, (zal_io (t := t) (n := n) ha).2⟩
theorem zPr.i {a jj j : Nat} {v : Int32} {M : zMem} (ha : a ≠ 81) : zPr a jj M (zsI M 81 j v) := ⟨rfl, rfl, zup2_q ha, rfl⟩
theorem zsF_s (M : zMem) (r j : Nat) (v : Option Nat) : zf (zsF M r j v) r j = v := zup2_s
theorem zal_new {M : zMem} {t n : Nat} : zi (zal M t n) (zn M) = (fun _ => 0) ∧ zj (zal M t n) (zn M) = (fun _ => 0) := by simp [zi, zj, zal, zn]
theorem zmk_z1 (M : zMem) (h : zn M = 82) : zn (zmk_1 M) = 83 := by
  have a1 : zn (zmk_1 M) = zn M + 1 := (zn_sF (zal M 1 700) 81 0 _).trans (zn_al M 1 700)
  have := h
  omega
theorem zmk_z2 (M : zMem) (h : zn M = 82) : zn (zmk_2 M) = 83 := by
  have a2 : zn (zmk_2 M) = zn (zmk_1 M) := rfl
  have := (zmk_z1 M h)
  omega
theorem zmk_z3 (M : zMem) (h : zn M = 82) : zn (zmk_3 M) = 83 := by
  have a3 : zn (zmk_3 M) = zn (zmk_2 M) := rfl
  have := (zmk_z2 M h)
  omega
theorem zmk_z4 (M : zMem) (h : zn M = 82) : zn (zmk_4 M) = 84 := by
  have a4 : zn (zmk_4 M) = zn (zmk_3 M) + 1 := (zn_sF (zal (zmk_3 M) 1 24) 81 15 _).trans (zn_al (zmk_3 M) 1 24)
  have := (zmk_z3 M h)
  omega
theorem zmk_z5 (M : zMem) (h : zn M = 82) : zn (zmk_5 M) = 85 := by
  have a5 : zn (zmk_5 M) = zn (zmk_4 M) + 1 := (zn_sF (zal (zmk_4 M) 1 24) 81 19 _).trans (zn_al (zmk_4 M) 1 24)
  have := (zmk_z4 M h)
  omega
theorem zmk_z6 (M : zMem) (h : zn M = 82) : zn (zmk_6 M) = 86 := by
  have a6 : zn (zmk_6 M) = zn (zmk_5 M) + 1 := (zn_sF (zal (zmk_5 M) 1 144) 81 21 _).trans (zn_al (zmk_5 M) 1 144)
  have := (zmk_z5 M h)
  omega
theorem zmk_z7 (M : zMem) (h : zn M = 82) : zn (zmk_7 M) = 87 := by
  have a7 : zn (zmk_7 M) = zn (zmk_6 M) + 1 := (zn_sF (zal (zmk_6 M) 1 6) 81 22 _).trans (zn_al (zmk_6 M) 1 6)
  have := (zmk_z6 M h)
  omega
theorem zmk_z8 (M : zMem) (h : zn M = 82) : zn (zmk_8 M) = 88 := by
  have a8 : zn (zmk_8 M) = zn (zmk_7 M) + 1 := (zn_sF (zal (zmk_7 M) 1 576) 81 23 _).trans (zn_al (zmk_7 M) 1 576)
  have := (zmk_z7 M h)
  omega
theorem zmk_z9 (M : zMem) (h : zn M = 82) : zn (zmk_9 M) = 89 := by
  have a9 : zn (zmk_9 M) = zn (zmk_8 M) + 1 := (zn_sF (zal (zmk_8 M) 1 24) 81 24 _).trans (zn_al (zmk_8 M) 1 24)
  have := (zmk_z8 M h)
  omega
theorem zmk_z10 (M : zMem) (h : zn M = 82) : zn (zmk_10 M) = 90 := by
  have a10 : zn (zmk_10 M) = zn (zmk_9 M) + 1 := (zn_sF (zal (zmk_9 M) 1 128) 81 27 _).trans (zn_al (zmk_9 M) 1 128)
  have := (zmk_z9 M h)
  omega
theorem zmk_z11 (M : zMem) (h : zn M = 82) : zn (zmk_11 M) = 91 := by
  have a11 : zn (zmk_11 M) = zn (zmk_10 M) + 1 := (zn_sF (zal (zmk_10 M) 1 128) 81 28 _).trans (zn_al (zmk_10 M) 1 128)
  have := (zmk_z10 M h)
  omega
theorem zmk_z12 (M : zMem) (h : zn M = 82) : zn (zmk_12 M) = 92 := by
  have a12 : zn (zmk_12 M) = zn (zmk_11 M) + 1 := (zn_sF (zal (zmk_11 M) 1 64) 81 29 _).trans (zn_al (zmk_11 M) 1 64)
  have := (zmk_z11 M h)
  omega
theorem zmk_z13 (M : zMem) (h : zn M = 82) : zn (zmk_13 M) = 93 := by
  have a13 : zn (zmk_13 M) = zn (zmk_12 M) + 1 := (zn_sF (zal (zmk_12 M) 1 64) 81 30 _).trans (zn_al (zmk_12 M) 1 64)
  have := (zmk_z12 M h)
  omega
theorem zmk_z14 (M : zMem) (h : zn M = 82) : zn (zmk_14 M) = 94 := by
  have a14 : zn (zmk_14 M) = zn (zmk_13 M) + 1 := (zn_sF (zal (zmk_13 M) 1 4096) 81 31 _).trans (zn_al (zmk_13 M) 1 4096)
  have := (zmk_z13 M h)
  omega
theorem zmk_z15 (M : zMem) (h : zn M = 82) : zn (zmk_15 M) = 95 := by
  have a15 : zn (zmk_15 M) = zn (zmk_14 M) + 1 := (zn_sF (zal (zmk_14 M) 1 1536) 81 32 _).trans (zn_al (zmk_14 M) 1 1536)
  have := (zmk_z14 M h)
  omega
theorem zmk_z16 (M : zMem) (h : zn M = 82) : zn (zmk_16 M) = 96 := by
  have a16 : zn (zmk_16 M) = zn (zmk_15 M) + 1 := (zn_sF (zal (zmk_15 M) 2 2560) 81 33 _).trans (zn_al (zmk_15 M) 2 2560)
  have := (zmk_z15 M h)
  omega
theorem zmk_z17 (M : zMem) (h : zn M = 82) : zn (zmk_17 M) = 97 := by
  have a17 : zn (zmk_17 M) = zn (zmk_16 M) + 1 := (zn_sF (zal (zmk_16 M) 2 64) 81 34 _).trans (zn_al (zmk_16 M) 2 64)
  have := (zmk_z16 M h)
  omega
theorem zmk_z18 (M : zMem) (h : zn M = 82) : zn (zmk_18 M) = 98 := by
  have a18 : zn (zmk_18 M) = zn (zmk_17 M) + 1 := (zn_sF (zal (zmk_17 M) 2 64) 81 35 _).trans (zn_al (zmk_17 M) 2 64)
  have := (zmk_z17 M h)
  omega
theorem zmk_z19 (M : zMem) (h : zn M = 82) : zn (zmk_19 M) = 99 := by
  have a19 : zn (zmk_19 M) = zn (zmk_18 M) + 1 := (zn_sF (zal (zmk_18 M) 2 64) 81 36 _).trans (zn_al (zmk_18 M) 2 64)
  have := (zmk_z18 M h)
  omega
theorem zmk_z20 (M : zMem) (h : zn M = 82) : zn (zmk_20 M) = 100 := by
  have a20 : zn (zmk_20 M) = zn (zmk_19 M) + 1 := (zn_sF (zal (zmk_19 M) 2 64) 81 37 _).trans (zn_al (zmk_19 M) 2 64)
  have := (zmk_z19 M h)
  omega
theorem zmk_z21 (M : zMem) (h : zn M = 82) : zn (zmk_21 M) = 101 := by
  have a21 : zn (zmk_21 M) = zn (zmk_20 M) + 1 := (zn_sF (zal (zmk_20 M) 1 80) 81 40 _).trans (zn_al (zmk_20 M) 1 80)
  have := (zmk_z20 M h)
  omega
theorem zmk_z22 (M : zMem) (h : zn M = 82) : zn (zmk_22 M) = 102 := by
  have a22 : zn (zmk_22 M) = zn (zmk_21 M) + 1 := (zn_sF (zal (zmk_21 M) 2 8) 81 44 _).trans (zn_al (zmk_21 M) 2 8)
  have := (zmk_z21 M h)
  omega
theorem zmk_z23 (M : zMem) (h : zn M = 82) : zn (zmk_23 M) = 103 := by
  have a23 : zn (zmk_23 M) = zn (zmk_22 M) + 1 := (zn_sF (zal (zmk_22 M) 2 512) 81 45 _).trans (zn_al (zmk_22 M) 2 512)
  have := (zmk_z22 M h)
  omega
theorem zmk_z24 (M : zMem) (h : zn M = 82) : zn (zmk_24 M) = 104 := by
  have a24 : zn (zmk_24 M) = zn (zmk_23 M) + 1 := (zn_sF (zal (zmk_23 M) 2 8) 81 46 _).trans (zn_al (zmk_23 M) 2 8)
  have := (zmk_z23 M h)
  omega
theorem zmk_z25 (M : zMem) (h : zn M = 82) : zn (zmk_25 M) = 105 := by
  have a25 : zn (zmk_25 M) = zn (zmk_24 M) + 1 := (zn_sF (zal (zmk_24 M) 2 512) 81 47 _).trans (zn_al (zmk_24 M) 2 512)
  have := (zmk_z24 M h)
  omega
theorem zmk_z26 (M : zMem) (h : zn M = 82) : zn (zmk_26 M) = 106 := by
  have a26 : zn (zmk_26 M) = zn (zmk_25 M) + 1 := (zn_sF (zal (zmk_25 M) 2 64) 81 48 _).trans (zn_al (zmk_25 M) 2 64)
  have := (zmk_z25 M h)
  omega
theorem zmk_z27 (M : zMem) (h : zn M = 82) : zn (zmk_27 M) = 107 := by
  have a27 : zn (zmk_27 M) = zn (zmk_26 M) + 1 := (zn_sF (zal (zmk_26 M) 1 128) 81 49 _).trans (zn_al (zmk_26 M) 1 128)
  have := (zmk_z26 M h)
  omega
theorem zmk_z28 (M : zMem) (h : zn M = 82) : zn (zmk_28 M) = 108 := by
  have a28 : zn (zmk_28 M) = zn (zmk_27 M) + 1 := (zn_sF (zal (zmk_27 M) 2 64) 81 50 _).trans (zn_al (zmk_27 M) 2 64)
  have := (zmk_z27 M h)
  omega
theorem zmk_z29 (M : zMem) (h : zn M = 82) : zn (zmk_29 M) = 109 := by
  have a29 : zn (zmk_29 M) = zn (zmk_28 M) + 1 := (zn_sF (zal (zmk_28 M) 2 64) 81 51 _).trans (zn_al (zmk_28 M) 2 64)
  have := (zmk_z28 M h)
  omega
theorem zmk_z30 (M : zMem) (h : zn M = 82) : zn (zmk_30 M) = 110 := by
  have a30 : zn (zmk_30 M) = zn (zmk_29 M) + 1 := (zn_sF (zal (zmk_29 M) 1 24) 81 54 _).trans (zn_al (zmk_29 M) 1 24)
  have := (zmk_z29 M h)
  omega
theorem zmk_z31 (M : zMem) (h : zn M = 82) : zn (zmk_31 M) = 111 := by
  have a31 : zn (zmk_31 M) = zn (zmk_30 M) + 1 := (zn_sF (zal (zmk_30 M) 1 65536) 81 56 _).trans (zn_al (zmk_30 M) 1 65536)
  have := (zmk_z30 M h)
  omega
theorem zmk_z32 (M : zMem) (h : zn M = 82) : zn (zmk_32 M) = 112 := by
  have a32 : zn (zmk_32 M) = zn (zmk_31 M) + 1 := (zn_sF (zal (zmk_31 M) 2 768) 81 59 _).trans (zn_al (zmk_31 M) 2 768)
  have := (zmk_z31 M h)
  omega
theorem zmk_z33 (M : zMem) (h : zn M = 82) : zn (zmk_33 M) = 113 := by
  have a33 : zn (zmk_33 M) = zn (zmk_32 M) + 1 := (zn_sF (zal (zmk_32 M) 1 6) 81 61 _).trans (zn_al (zmk_32 M) 1 6)
  have := (zmk_z32 M h)
  omega
theorem zmk_a82 (M : zMem) (h : zn M = 82) : zf (zmk M) 81 0 = some 82 ∧ zsh (zmk M) 82 = (1, 700) ∧ zi (zmk M) 82 = (fun _ => 0) ∧ zj (zmk M) 82 = (fun _ => 0) := by
  have hz : zn M = 82 := h
  have b1 : zf (zmk_1 M) 81 0 = some (zn M) := zsF_s (zal M 1 700) 81 0 (some (zn M))
  have b2 : zsh (zmk_1 M) (zn M) = (1, 700) := zal_sh (M := M) (t := 1) (n := 700)
  have b3 : zi (zmk_1 M) (zn M) = (fun _ => 0) ∧ zj (zmk_1 M) (zn M) = (fun _ => 0) := zal_new (M := M) (t := 1) (n := 700)
  rw [hz] at b1 b2 b3
  have p2 : zPr 82 0 (zmk_1 M) (zmk_2 M) := zPr.i (by decide)
  have p3 : zPr 82 0 (zmk_1 M) (zmk_3 M) := p2.tr (zPr.i (by decide))
  have p4 : zPr 82 0 (zmk_1 M) (zmk_4 M) := p3.tr (zPr.al (t := 1) (n := 24) (by have := zmk_z3 M h; omega) (by have := zmk_z3 M h; omega) (by decide))
  have p5 : zPr 82 0 (zmk_1 M) (zmk_5 M) := p4.tr (zPr.al (t := 1) (n := 24) (by have := zmk_z4 M h; omega) (by have := zmk_z4 M h; omega) (by decide))
  have p6 : zPr 82 0 (zmk_1 M) (zmk_6 M) := p5.tr (zPr.al (t := 1) (n := 144) (by have := zmk_z5 M h; omega) (by have := zmk_z5 M h; omega) (by decide))
  have p7 : zPr 82 0 (zmk_1 M) (zmk_7 M) := p6.tr (zPr.al (t := 1) (n := 6) (by have := zmk_z6 M h; omega) (by have := zmk_z6 M h; omega) (by decide))
  have p8 : zPr 82 0 (zmk_1 M) (zmk_8 M) := p7.tr (zPr.al (t := 1) (n := 576) (by have := zmk_z7 M h; omega) (by have := zmk_z7 M h; omega) (by decide))
  have p9 : zPr 82 0 (zmk_1 M) (zmk_9 M) := p8.tr (zPr.al (t := 1) (n := 24) (by have := zmk_z8 M h; omega) (by have := zmk_z8 M h; omega) (by decide))
  have p10 : zPr 82 0 (zmk_1 M) (zmk_10 M) := p9.tr (zPr.al (t := 1) (n := 128) (by have := zmk_z9 M h; omega) (by have := zmk_z9 M h; omega) (by decide))
  have p11 : zPr 82 0 (zmk_1 M) (zmk_11 M) := p10.tr (zPr.al (t := 1) (n := 128) (by have := zmk_z10 M h; omega) (by have := zmk_z10 M h; omega) (by decide))
  have p12 : zPr 82 0 (zmk_1 M) (zmk_12 M) := p11.tr (zPr.al (t := 1) (n := 64) (by have := zmk_z11 M h; omega) (by have := zmk_z11 M h; omega) (by decide))
  have p13 : zPr 82 0 (zmk_1 M) (zmk_13 M) := p12.tr (zPr.al (t := 1) (n := 64) (by have := zmk_z12 M h; omega) (by have := zmk_z12 M h; omega) (by decide))
  have p14 : zPr 82 0 (zmk_1 M) (zmk_14 M) := p13.tr (zPr.al (t := 1) (n := 4096) (by have := zmk_z13 M h; omega) (by have := zmk_z13 M h; omega) (by decide))
  have p15 : zPr 82 0 (zmk_1 M) (zmk_15 M) := p14.tr (zPr.al (t := 1) (n := 1536) (by have := zmk_z14 M h; omega) (by have := zmk_z14 M h; omega) (by decide))
  have p16 : zPr 82 0 (zmk_1 M) (zmk_16 M) := p15.tr (zPr.al (t := 2) (n := 2560) (by have := zmk_z15 M h; omega) (by have := zmk_z15 M h; omega) (by decide))
  have p17 : zPr 82 0 (zmk_1 M) (zmk_17 M) := p16.tr (zPr.al (t := 2) (n := 64) (by have := zmk_z16 M h; omega) (by have := zmk_z16 M h; omega) (by decide))
  have p18 : zPr 82 0 (zmk_1 M) (zmk_18 M) := p17.tr (zPr.al (t := 2) (n := 64) (by have := zmk_z17 M h; omega) (by have := zmk_z17 M h; omega) (by decide))
  have p19 : zPr 82 0 (zmk_1 M) (zmk_19 M) := p18.tr (zPr.al (t := 2) (n := 64) (by have := zmk_z18 M h; omega) (by have := zmk_z18 M h; omega) (by decide))
  have p20 : zPr 82 0 (zmk_1 M) (zmk_20 M) := p19.tr (zPr.al (t := 2) (n := 64) (by have := zmk_z19 M h; omega) (by have := zmk_z19 M h; omega) (by decide))
  have p21 : zPr 82 0 (zmk_1 M) (zmk_21 M) := p20.tr (zPr.al (t := 1) (n := 80) (by have := zmk_z20 M h; omega) (by have := zmk_z20 M h; omega) (by decide))
  have p22 : zPr 82 0 (zmk_1 M) (zmk_22 M) := p21.tr (zPr.al (t := 2) (n := 8) (by have := zmk_z21 M h; omega) (by have := zmk_z21 M h; omega) (by decide))
  have p23 : zPr 82 0 (zmk_1 M) (zmk_23 M) := p22.tr (zPr.al (t := 2) (n := 512) (by have := zmk_z22 M h; omega) (by have := zmk_z22 M h; omega) (by decide))
  have p24 : zPr 82 0 (zmk_1 M) (zmk_24 M) := p23.tr (zPr.al (t := 2) (n := 8) (by have := zmk_z23 M h; omega) (by have := zmk_z23 M h; omega) (by decide))
  have p25 : zPr 82 0 (zmk_1 M) (zmk_25 M) := p24.tr (zPr.al (t := 2) (n := 512) (by have := zmk_z24 M h; omega) (by have := zmk_z24 M h; omega) (by decide))
  have p26 : zPr 82 0 (zmk_1 M) (zmk_26 M) := p25.tr (zPr.al (t := 2) (n := 64) (by have := zmk_z25 M h; omega) (by have := zmk_z25 M h; omega) (by decide))
  have p27 : zPr 82 0 (zmk_1 M) (zmk_27 M) := p26.tr (zPr.al (t := 1) (n := 128) (by have := zmk_z26 M h; omega) (by have := zmk_z26 M h; omega) (by decide))
  have p28 : zPr 82 0 (zmk_1 M) (zmk_28 M) := p27.tr (zPr.al (t := 2) (n := 64) (by have := zmk_z27 M h; omega) (by have := zmk_z27 M h; omega) (by decide))
  have p29 : zPr 82 0 (zmk_1 M) (zmk_29 M) := p28.tr (zPr.al (t := 2) (n := 64) (by have := zmk_z28 M h; omega) (by have := zmk_z28 M h; omega) (by decide))
  have p30 : zPr 82 0 (zmk_1 M) (zmk_30 M) := p29.tr (zPr.al (t := 1) (n := 24) (by have := zmk_z29 M h; omega) (by have := zmk_z29 M h; omega) (by decide))
  have p31 : zPr 82 0 (zmk_1 M) (zmk_31 M) := p30.tr (zPr.al (t := 1) (n := 65536) (by have := zmk_z30 M h; omega) (by have := zmk_z30 M h; omega) (by decide))
  have p32 : zPr 82 0 (zmk_1 M) (zmk_32 M) := p31.tr (zPr.al (t := 2) (n := 768) (by have := zmk_z31 M h; omega) (by have := zmk_z31 M h; omega) (by decide))
  have p33 : zPr 82 0 (zmk_1 M) (zmk_33 M) := p32.tr (zPr.al (t := 1) (n := 6) (by have := zmk_z32 M h; omega) (by have := zmk_z32 M h; omega) (by decide))
  have p34 : zPr 82 0 (zmk_1 M) (zmk_34 M) := p33.tr (zPr.al (t := 1) (n := 7) (by have := zmk_z33 M h; omega) (by have := zmk_z33 M h; omega) (by decide))
  have p35 : zPr 82 0 (zmk_1 M) (zmk_35 M) := p34.tr (zPr.i (by decide))
  exact ⟨p35.2.1.trans b1, p35.1.trans b2, p35.2.2.1.trans b3.1, p35.2.2.2.trans b3.2⟩
theorem zmk_a83 (M : zMem) (h : zn M = 82) : zf (zmk M) 81 15 = some 83 ∧ zsh (zmk M) 83 = (1, 24) ∧ zi (zmk M) 83 = (fun _ => 0) ∧ zj (zmk M) 83 = (fun _ => 0) := by
  have hz : zn (zmk_3 M) = 83 := (zmk_z3 M h)
  have b1 : zf (zmk_4 M) 81 15 = some (zn (zmk_3 M)) := zsF_s (zal (zmk_3 M) 1 24) 81 15 (some (zn (zmk_3 M)))
  have b2 : zsh (zmk_4 M) (zn (zmk_3 M)) = (1, 24) := zal_sh (M := (zmk_3 M)) (t := 1) (n := 24)
  have b3 : zi (zmk_4 M) (zn (zmk_3 M)) = (fun _ => 0) ∧ zj (zmk_4 M) (zn (zmk_3 M)) = (fun _ => 0) := zal_new (M := (zmk_3 M)) (t := 1) (n := 24)
  rw [hz] at b1 b2 b3
  have p5 : zPr 83 15 (zmk_4 M) (zmk_5 M) := zPr.al (t := 1) (n := 24) (by have := zmk_z4 M h; omega) (by have := zmk_z4 M h; omega) (by decide)
  have p6 : zPr 83 15 (zmk_4 M) (zmk_6 M) := p5.tr (zPr.al (t := 1) (n := 144) (by have := zmk_z5 M h; omega) (by have := zmk_z5 M h; omega) (by decide))
  have p7 : zPr 83 15 (zmk_4 M) (zmk_7 M) := p6.tr (zPr.al (t := 1) (n := 6) (by have := zmk_z6 M h; omega) (by have := zmk_z6 M h; omega) (by decide))
  have p8 : zPr 83 15 (zmk_4 M) (zmk_8 M) := p7.tr (zPr.al (t := 1) (n := 576) (by have := zmk_z7 M h; omega) (by have := zmk_z7 M h; omega) (by decide))
  have p9 : zPr 83 15 (zmk_4 M) (zmk_9 M) := p8.tr (zPr.al (t := 1) (n := 24) (by have := zmk_z8 M h; omega) (by have := zmk_z8 M h; omega) (by decide))
  have p10 : zPr 83 15 (zmk_4 M) (zmk_10 M) := p9.tr (zPr.al (t := 1) (n := 128) (by have := zmk_z9 M h; omega) (by have := zmk_z9 M h; omega) (by decide))
  have p11 : zPr 83 15 (zmk_4 M) (zmk_11 M) := p10.tr (zPr.al (t := 1) (n := 128) (by have := zmk_z10 M h; omega) (by have := zmk_z10 M h; omega) (by decide))
  have p12 : zPr 83 15 (zmk_4 M) (zmk_12 M) := p11.tr (zPr.al (t := 1) (n := 64) (by have := zmk_z11 M h; omega) (by have := zmk_z11 M h; omega) (by decide))
  have p13 : zPr 83 15 (zmk_4 M) (zmk_13 M) := p12.tr (zPr.al (t := 1) (n := 64) (by have := zmk_z12 M h; omega) (by have := zmk_z12 M h; omega) (by decide))
  have p14 : zPr 83 15 (zmk_4 M) (zmk_14 M) := p13.tr (zPr.al (t := 1) (n := 4096) (by have := zmk_z13 M h; omega) (by have := zmk_z13 M h; omega) (by decide))
  have p15 : zPr 83 15 (zmk_4 M) (zmk_15 M) := p14.tr (zPr.al (t := 1) (n := 1536) (by have := zmk_z14 M h; omega) (by have := zmk_z14 M h; omega) (by decide))
  have p16 : zPr 83 15 (zmk_4 M) (zmk_16 M) := p15.tr (zPr.al (t := 2) (n := 2560) (by have := zmk_z15 M h; omega) (by have := zmk_z15 M h; omega) (by decide))
  have p17 : zPr 83 15 (zmk_4 M) (zmk_17 M) := p16.tr (zPr.al (t := 2) (n := 64) (by have := zmk_z16 M h; omega) (by have := zmk_z16 M h; omega) (by decide))
  have p18 : zPr 83 15 (zmk_4 M) (zmk_18 M) := p17.tr (zPr.al (t := 2) (n := 64) (by have := zmk_z17 M h; omega) (by have := zmk_z17 M h; omega) (by decide))
  have p19 : zPr 83 15 (zmk_4 M) (zmk_19 M) := p18.tr (zPr.al (t := 2) (n := 64) (by have := zmk_z18 M h; omega) (by have := zmk_z18 M h; omega) (by decide))
  have p20 : zPr 83 15 (zmk_4 M) (zmk_20 M) := p19.tr (zPr.al (t := 2) (n := 64) (by have := zmk_z19 M h; omega) (by have := zmk_z19 M h; omega) (by decide))
  have p21 : zPr 83 15 (zmk_4 M) (zmk_21 M) := p20.tr (zPr.al (t := 1) (n := 80) (by have := zmk_z20 M h; omega) (by have := zmk_z20 M h; omega) (by decide))
  have p22 : zPr 83 15 (zmk_4 M) (zmk_22 M) := p21.tr (zPr.al (t := 2) (n := 8) (by have := zmk_z21 M h; omega) (by have := zmk_z21 M h; omega) (by decide))
  have p23 : zPr 83 15 (zmk_4 M) (zmk_23 M) := p22.tr (zPr.al (t := 2) (n := 512) (by have := zmk_z22 M h; omega) (by have := zmk_z22 M h; omega) (by decide))
  have p24 : zPr 83 15 (zmk_4 M) (zmk_24 M) := p23.tr (zPr.al (t := 2) (n := 8) (by have := zmk_z23 M h; omega) (by have := zmk_z23 M h; omega) (by decide))
  have p25 : zPr 83 15 (zmk_4 M) (zmk_25 M) := p24.tr (zPr.al (t := 2) (n := 512) (by have := zmk_z24 M h; omega) (by have := zmk_z24 M h; omega) (by decide))
  have p26 : zPr 83 15 (zmk_4 M) (zmk_26 M) := p25.tr (zPr.al (t := 2) (n := 64) (by have := zmk_z25 M h; omega) (by have := zmk_z25 M h; omega) (by decide))
  have p27 : zPr 83 15 (zmk_4 M) (zmk_27 M) := p26.tr (zPr.al (t := 1) (n := 128) (by have := zmk_z26 M h; omega) (by have := zmk_z26 M h; omega) (by decide))
  have p28 : zPr 83 15 (zmk_4 M) (zmk_28 M) := p27.tr (zPr.al (t := 2) (n := 64) (by have := zmk_z27 M h; omega) (by have := zmk_z27 M h; omega) (by decide))
  have p29 : zPr 83 15 (zmk_4 M) (zmk_29 M) := p28.tr (zPr.al (t := 2) (n := 64) (by have := zmk_z28 M h; omega) (by have := zmk_z28 M h; omega) (by decide))
  have p30 : zPr 83 15 (zmk_4 M) (zmk_30 M) := p29.tr (zPr.al (t := 1) (n := 24) (by have := zmk_z29 M h; omega) (by have := zmk_z29 M h; omega) (by decide))
  have p31 : zPr 83 15 (zmk_4 M) (zmk_31 M) := p30.tr (zPr.al (t := 1) (n := 65536) (by have := zmk_z30 M h; omega) (by have := zmk_z30 M h; omega) (by decide))
  have p32 : zPr 83 15 (zmk_4 M) (zmk_32 M) := p31.tr (zPr.al (t := 2) (n := 768) (by have := zmk_z31 M h; omega) (by have := zmk_z31 M h; omega) (by decide))
  have p33 : zPr 83 15 (zmk_4 M) (zmk_33 M) := p32.tr (zPr.al (t := 1) (n := 6) (by have := zmk_z32 M h; omega) (by have := zmk_z32 M h; omega) (by decide))
  have p34 : zPr 83 15 (zmk_4 M) (zmk_34 M) := p33.tr (zPr.al (t := 1) (n := 7) (by have := zmk_z33 M h; omega) (by have := zmk_z33 M h; omega) (by decide))
  have p35 : zPr 83 15 (zmk_4 M) (zmk_35 M) := p34.tr (zPr.i (by decide))
  exact ⟨p35.2.1.trans b1, p35.1.trans b2, p35.2.2.1.trans b3.1, p35.2.2.2.trans b3.2⟩
theorem zmk_a84 (M : zMem) (h : zn M = 82) : zf (zmk M) 81 19 = some 84 ∧ zsh (zmk M) 84 = (1, 24) ∧ zi (zmk M) 84 = (fun _ => 0) ∧ zj (zmk M) 84 = (fun _ => 0) := by
  have hz : zn (zmk_4 M) = 84 := (zmk_z4 M h)
  have b1 : zf (zmk_5 M) 81 19 = some (zn (zmk_4 M)) := zsF_s (zal (zmk_4 M) 1 24) 81 19 (some (zn (zmk_4 M)))
  have b2 : zsh (zmk_5 M) (zn (zmk_4 M)) = (1, 24) := zal_sh (M := (zmk_4 M)) (t := 1) (n := 24)
  have b3 : zi (zmk_5 M) (zn (zmk_4 M)) = (fun _ => 0) ∧ zj (zmk_5 M) (zn (zmk_4 M)) = (fun _ => 0) := zal_new (M := (zmk_4 M)) (t := 1) (n := 24)
  rw [hz] at b1 b2 b3
  have p6 : zPr 84 19 (zmk_5 M) (zmk_6 M) := zPr.al (t := 1) (n := 144) (by have := zmk_z5 M h; omega) (by have := zmk_z5 M h; omega) (by decide)
  have p7 : zPr 84 19 (zmk_5 M) (zmk_7 M) := p6.tr (zPr.al (t := 1) (n := 6) (by have := zmk_z6 M h; omega) (by have := zmk_z6 M h; omega) (by decide))
  have p8 : zPr 84 19 (zmk_5 M) (zmk_8 M) := p7.tr (zPr.al (t := 1) (n := 576) (by have := zmk_z7 M h; omega) (by have := zmk_z7 M h; omega) (by decide))
  have p9 : zPr 84 19 (zmk_5 M) (zmk_9 M) := p8.tr (zPr.al (t := 1) (n := 24) (by have := zmk_z8 M h; omega) (by have := zmk_z8 M h; omega) (by decide))
  have p10 : zPr 84 19 (zmk_5 M) (zmk_10 M) := p9.tr (zPr.al (t := 1) (n := 128) (by have := zmk_z9 M h; omega) (by have := zmk_z9 M h; omega) (by decide))
  have p11 : zPr 84 19 (zmk_5 M) (zmk_11 M) := p10.tr (zPr.al (t := 1) (n := 128) (by have := zmk_z10 M h; omega) (by have := zmk_z10 M h; omega) (by decide))
  have p12 : zPr 84 19 (zmk_5 M) (zmk_12 M) := p11.tr (zPr.al (t := 1) (n := 64) (by have := zmk_z11 M h; omega) (by have := zmk_z11 M h; omega) (by decide))
  have p13 : zPr 84 19 (zmk_5 M) (zmk_13 M) := p12.tr (zPr.al (t := 1) (n := 64) (by have := zmk_z12 M h; omega) (by have := zmk_z12 M h; omega) (by decide))
  have p14 : zPr 84 19 (zmk_5 M) (zmk_14 M) := p13.tr (zPr.al (t := 1) (n := 4096) (by have := zmk_z13 M h; omega) (by have := zmk_z13 M h; omega) (by decide))
  have p15 : zPr 84 19 (zmk_5 M) (zmk_15 M) := p14.tr (zPr.al (t := 1) (n := 1536) (by have := zmk_z14 M h; omega) (by have := zmk_z14 M h; omega) (by decide))
  have p16 : zPr 84 19 (zmk_5 M) (zmk_16 M) := p15.tr (zPr.al (t := 2) (n := 2560) (by have := zmk_z15 M h; omega) (by have := zmk_z15 M h; omega) (by decide))
  have p17 : zPr 84 19 (zmk_5 M) (zmk_17 M) := p16.tr (zPr.al (t := 2) (n := 64) (by have := zmk_z16 M h; omega) (by have := zmk_z16 M h; omega) (by decide))
  have p18 : zPr 84 19 (zmk_5 M) (zmk_18 M) := p17.tr (zPr.al (t := 2) (n := 64) (by have := zmk_z17 M h; omega) (by have := zmk_z17 M h; omega) (by decide))
  have p19 : zPr 84 19 (zmk_5 M) (zmk_19 M) := p18.tr (zPr.al (t := 2) (n := 64) (by have := zmk_z18 M h; omega) (by have := zmk_z18 M h; omega) (by decide))
  have p20 : zPr 84 19 (zmk_5 M) (zmk_20 M) := p19.tr (zPr.al (t := 2) (n := 64) (by have := zmk_z19 M h; omega) (by have := zmk_z19 M h; omega) (by decide))
  have p21 : zPr 84 19 (zmk_5 M) (zmk_21 M) := p20.tr (zPr.al (t := 1) (n := 80) (by have := zmk_z20 M h; omega) (by have := zmk_z20 M h; omega) (by decide))
  have p22 : zPr 84 19 (zmk_5 M) (zmk_22 M) := p21.tr (zPr.al (t := 2) (n := 8) (by have := zmk_z21 M h; omega) (by have := zmk_z21 M h; omega) (by decide))
  have p23 : zPr 84 19 (zmk_5 M) (zmk_23 M) := p22.tr (zPr.al (t := 2) (n := 512) (by have := zmk_z22 M h; omega) (by have := zmk_z22 M h; omega) (by decide))
  have p24 : zPr 84 19 (zmk_5 M) (zmk_24 M) := p23.tr (zPr.al (t := 2) (n := 8) (by have := zmk_z23 M h; omega) (by have := zmk_z23 M h; omega) (by decide))
  have p25 : zPr 84 19 (zmk_5 M) (zmk_25 M) := p24.tr (zPr.al (t := 2) (n := 512) (by have := zmk_z24 M h; omega) (by have := zmk_z24 M h; omega) (by decide))
  have p26 : zPr 84 19 (zmk_5 M) (zmk_26 M) := p25.tr (zPr.al (t := 2) (n := 64) (by have := zmk_z25 M h; omega) (by have := zmk_z25 M h; omega) (by decide))
  have p27 : zPr 84 19 (zmk_5 M) (zmk_27 M) := p26.tr (zPr.al (t := 1) (n := 128) (by have := zmk_z26 M h; omega) (by have := zmk_z26 M h; omega) (by decide))
  have p28 : zPr 84 19 (zmk_5 M) (zmk_28 M) := p27.tr (zPr.al (t := 2) (n := 64) (by have := zmk_z27 M h; omega) (by have := zmk_z27 M h; omega) (by decide))
  have p29 : zPr 84 19 (zmk_5 M) (zmk_29 M) := p28.tr (zPr.al (t := 2) (n := 64) (by have := zmk_z28 M h; omega) (by have := zmk_z28 M h; omega) (by decide))
  have p30 : zPr 84 19 (zmk_5 M) (zmk_30 M) := p29.tr (zPr.al (t := 1) (n := 24) (by have := zmk_z29 M h; omega) (by have := zmk_z29 M h; omega) (by decide))
  have p31 : zPr 84 19 (zmk_5 M) (zmk_31 M) := p30.tr (zPr.al (t := 1) (n := 65536) (by have := zmk_z30 M h; omega) (by have := zmk_z30 M h; omega) (by decide))
  have p32 : zPr 84 19 (zmk_5 M) (zmk_32 M) := p31.tr (zPr.al (t := 2) (n := 768) (by have := zmk_z31 M h; omega) (by have := zmk_z31 M h; omega) (by decide))
  have p33 : zPr 84 19 (zmk_5 M) (zmk_33 M) := p32.tr (zPr.al (t := 1) (n := 6) (by have := zmk_z32 M h; omega) (by have := zmk_z32 M h; omega) (by decide))
  have p34 : zPr 84 19 (zmk_5 M) (zmk_34 M) := p33.tr (zPr.al (t := 1) (n := 7) (by have := zmk_z33 M h; omega) (by have := zmk_z33 M h; omega) (by decide))
  have p35 : zPr 84 19 (zmk_5 M) (zmk_35 M) := p34.tr (zPr.i (by decide))
  exact ⟨p35.2.1.trans b1, p35.1.trans b2, p35.2.2.1.trans b3.1, p35.2.2.2.trans b3.2⟩
theorem zmk_a85 (M : zMem) (h : zn M = 82) : zf (zmk M) 81 21 = some 85 ∧ zsh (zmk M) 85 = (1, 144) ∧ zi (zmk M) 85 = (fun _ => 0) ∧ zj (zmk M) 85 = (fun _ => 0) := by
  have hz : zn (zmk_5 M) = 85 := (zmk_z5 M h)
  have b1 : zf (zmk_6 M) 81 21 = some (zn (zmk_5 M)) := zsF_s (zal (zmk_5 M) 1 144) 81 21 (some (zn (zmk_5 M)))
  have b2 : zsh (zmk_6 M) (zn (zmk_5 M)) = (1, 144) := zal_sh (M := (zmk_5 M)) (t := 1) (n := 144)
  have b3 : zi (zmk_6 M) (zn (zmk_5 M)) = (fun _ => 0) ∧ zj (zmk_6 M) (zn (zmk_5 M)) = (fun _ => 0) := zal_new (M := (zmk_5 M)) (t := 1) (n := 144)
  rw [hz] at b1 b2 b3
  have p7 : zPr 85 21 (zmk_6 M) (zmk_7 M) := zPr.al (t := 1) (n := 6) (by have := zmk_z6 M h; omega) (by have := zmk_z6 M h; omega) (by decide)
  have p8 : zPr 85 21 (zmk_6 M) (zmk_8 M) := p7.tr (zPr.al (t := 1) (n := 576) (by have := zmk_z7 M h; omega) (by have := zmk_z7 M h; omega) (by decide))
  have p9 : zPr 85 21 (zmk_6 M) (zmk_9 M) := p8.tr (zPr.al (t := 1) (n := 24) (by have := zmk_z8 M h; omega) (by have := zmk_z8 M h; omega) (by decide))
  have p10 : zPr 85 21 (zmk_6 M) (zmk_10 M) := p9.tr (zPr.al (t := 1) (n := 128) (by have := zmk_z9 M h; omega) (by have := zmk_z9 M h; omega) (by decide))
  have p11 : zPr 85 21 (zmk_6 M) (zmk_11 M) := p10.tr (zPr.al (t := 1) (n := 128) (by have := zmk_z10 M h; omega) (by have := zmk_z10 M h; omega) (by decide))
  have p12 : zPr 85 21 (zmk_6 M) (zmk_12 M) := p11.tr (zPr.al (t := 1) (n := 64) (by have := zmk_z11 M h; omega) (by have := zmk_z11 M h; omega) (by decide))
  have p13 : zPr 85 21 (zmk_6 M) (zmk_13 M) := p12.tr (zPr.al (t := 1) (n := 64) (by have := zmk_z12 M h; omega) (by have := zmk_z12 M h; omega) (by decide))
  have p14 : zPr 85 21 (zmk_6 M) (zmk_14 M) := p13.tr (zPr.al (t := 1) (n := 4096) (by have := zmk_z13 M h; omega) (by have := zmk_z13 M h; omega) (by decide))
  have p15 : zPr 85 21 (zmk_6 M) (zmk_15 M) := p14.tr (zPr.al (t := 1) (n := 1536) (by have := zmk_z14 M h; omega) (by have := zmk_z14 M h; omega) (by decide))
  have p16 : zPr 85 21 (zmk_6 M) (zmk_16 M) := p15.tr (zPr.al (t := 2) (n := 2560) (by have := zmk_z15 M h; omega) (by have := zmk_z15 M h; omega) (by decide))
  have p17 : zPr 85 21 (zmk_6 M) (zmk_17 M) := p16.tr (zPr.al (t := 2) (n := 64) (by have := zmk_z16 M h; omega) (by have := zmk_z16 M h; omega) (by decide))
  have p18 : zPr 85 21 (zmk_6 M) (zmk_18 M) := p17.tr (zPr.al (t := 2) (n := 64) (by have := zmk_z17 M h; omega) (by have := zmk_z17 M h; omega) (by decide))
  have p19 : zPr 85 21 (zmk_6 M) (zmk_19 M) := p18.tr (zPr.al (t := 2) (n := 64) (by have := zmk_z18 M h; omega) (by have := zmk_z18 M h; omega) (by decide))
  have p20 : zPr 85 21 (zmk_6 M) (zmk_20 M) := p19.tr (zPr.al (t := 2) (n := 64) (by have := zmk_z19 M h; omega) (by have := zmk_z19 M h; omega) (by decide))
  have p21 : zPr 85 21 (zmk_6 M) (zmk_21 M) := p20.tr (zPr.al (t := 1) (n := 80) (by have := zmk_z20 M h; omega) (by have := zmk_z20 M h; omega) (by decide))
  have p22 : zPr 85 21 (zmk_6 M) (zmk_22 M) := p21.tr (zPr.al (t := 2) (n := 8) (by have := zmk_z21 M h; omega) (by have := zmk_z21 M h; omega) (by decide))
  have p23 : zPr 85 21 (zmk_6 M) (zmk_23 M) := p22.tr (zPr.al (t := 2) (n := 512) (by have := zmk_z22 M h; omega) (by have := zmk_z22 M h; omega) (by decide))
  have p24 : zPr 85 21 (zmk_6 M) (zmk_24 M) := p23.tr (zPr.al (t := 2) (n := 8) (by have := zmk_z23 M h; omega) (by have := zmk_z23 M h; omega) (by decide))
  have p25 : zPr 85 21 (zmk_6 M) (zmk_25 M) := p24.tr (zPr.al (t := 2) (n := 512) (by have := zmk_z24 M h; omega) (by have := zmk_z24 M h; omega) (by decide))
  have p26 : zPr 85 21 (zmk_6 M) (zmk_26 M) := p25.tr (zPr.al (t := 2) (n := 64) (by have := zmk_z25 M h; omega) (by have := zmk_z25 M h; omega) (by decide))
  have p27 : zPr 85 21 (zmk_6 M) (zmk_27 M) := p26.tr (zPr.al (t := 1) (n := 128) (by have := zmk_z26 M h; omega) (by have := zmk_z26 M h; omega) (by decide))
  have p28 : zPr 85 21 (zmk_6 M) (zmk_28 M) := p27.tr (zPr.al (t := 2) (n := 64) (by have := zmk_z27 M h; omega) (by have := zmk_z27 M h; omega) (by decide))
  have p29 : zPr 85 21 (zmk_6 M) (zmk_29 M) := p28.tr (zPr.al (t := 2) (n := 64) (by have := zmk_z28 M h; omega) (by have := zmk_z28 M h; omega) (by decide))
  have p30 : zPr 85 21 (zmk_6 M) (zmk_30 M) := p29.tr (zPr.al (t := 1) (n := 24) (by have := zmk_z29 M h; omega) (by have := zmk_z29 M h; omega) (by decide))
  have p31 : zPr 85 21 (zmk_6 M) (zmk_31 M) := p30.tr (zPr.al (t := 1) (n := 65536) (by have := zmk_z30 M h; omega) (by have := zmk_z30 M h; omega) (by decide))
  have p32 : zPr 85 21 (zmk_6 M) (zmk_32 M) := p31.tr (zPr.al (t := 2) (n := 768) (by have := zmk_z31 M h; omega) (by have := zmk_z31 M h; omega) (by decide))
  have p33 : zPr 85 21 (zmk_6 M) (zmk_33 M) := p32.tr (zPr.al (t := 1) (n := 6) (by have := zmk_z32 M h; omega) (by have := zmk_z32 M h; omega) (by decide))
  have p34 : zPr 85 21 (zmk_6 M) (zmk_34 M) := p33.tr (zPr.al (t := 1) (n := 7) (by have := zmk_z33 M h; omega) (by have := zmk_z33 M h; omega) (by decide))
  have p35 : zPr 85 21 (zmk_6 M) (zmk_35 M) := p34.tr (zPr.i (by decide))
  exact ⟨p35.2.1.trans b1, p35.1.trans b2, p35.2.2.1.trans b3.1, p35.2.2.2.trans b3.2⟩
theorem zmk_a86 (M : zMem) (h : zn M = 82) : zf (zmk M) 81 22 = some 86 ∧ zsh (zmk M) 86 = (1, 6) ∧ zi (zmk M) 86 = (fun _ => 0) ∧ zj (zmk M) 86 = (fun _ => 0) := by
  have hz : zn (zmk_6 M) = 86 := (zmk_z6 M h)
  have b1 : zf (zmk_7 M) 81 22 = some (zn (zmk_6 M)) := zsF_s (zal (zmk_6 M) 1 6) 81 22 (some (zn (zmk_6 M)))
  have b2 : zsh (zmk_7 M) (zn (zmk_6 M)) = (1, 6) := zal_sh (M := (zmk_6 M)) (t := 1) (n := 6)
  have b3 : zi (zmk_7 M) (zn (zmk_6 M)) = (fun _ => 0) ∧ zj (zmk_7 M) (zn (zmk_6 M)) = (fun _ => 0) := zal_new (M := (zmk_6 M)) (t := 1) (n := 6)
  rw [hz] at b1 b2 b3
  have p8 : zPr 86 22 (zmk_7 M) (zmk_8 M) := zPr.al (t := 1) (n := 576) (by have := zmk_z7 M h; omega) (by have := zmk_z7 M h; omega) (by decide)
  have p9 : zPr 86 22 (zmk_7 M) (zmk_9 M) := p8.tr (zPr.al (t := 1) (n := 24) (by have := zmk_z8 M h; omega) (by have := zmk_z8 M h; omega) (by decide))
  have p10 : zPr 86 22 (zmk_7 M) (zmk_10 M) := p9.tr (zPr.al (t := 1) (n := 128) (by have := zmk_z9 M h; omega) (by have := zmk_z9 M h; omega) (by decide))
  have p11 : zPr 86 22 (zmk_7 M) (zmk_11 M) := p10.tr (zPr.al (t := 1) (n := 128) (by have := zmk_z10 M h; omega) (by have := zmk_z10 M h; omega) (by decide))
  have p12 : zPr 86 22 (zmk_7 M) (zmk_12 M) := p11.tr (zPr.al (t := 1) (n := 64) (by have := zmk_z11 M h; omega) (by have := zmk_z11 M h; omega) (by decide))
  have p13 : zPr 86 22 (zmk_7 M) (zmk_13 M) := p12.tr (zPr.al (t := 1) (n := 64) (by have := zmk_z12 M h; omega) (by have := zmk_z12 M h; omega) (by decide))
  have p14 : zPr 86 22 (zmk_7 M) (zmk_14 M) := p13.tr (zPr.al (t := 1) (n := 4096) (by have := zmk_z13 M h; omega) (by have := zmk_z13 M h; omega) (by decide))
  have p15 : zPr 86 22 (zmk_7 M) (zmk_15 M) := p14.tr (zPr.al (t := 1) (n := 1536) (by have := zmk_z14 M h; omega) (by have := zmk_z14 M h; omega) (by decide))
  have p16 : zPr 86 22 (zmk_7 M) (zmk_16 M) := p15.tr (zPr.al (t := 2) (n := 2560) (by have := zmk_z15 M h; omega) (by have := zmk_z15 M h; omega) (by decide))
  have p17 : zPr 86 22 (zmk_7 M) (zmk_17 M) := p16.tr (zPr.al (t := 2) (n := 64) (by have := zmk_z16 M h; omega) (by have := zmk_z16 M h; omega) (by decide))
  have p18 : zPr 86 22 (zmk_7 M) (zmk_18 M) := p17.tr (zPr.al (t := 2) (n := 64) (by have := zmk_z17 M h; omega) (by have := zmk_z17 M h; omega) (by decide))
  have p19 : zPr 86 22 (zmk_7 M) (zmk_19 M) := p18.tr (zPr.al (t := 2) (n := 64) (by have := zmk_z18 M h; omega) (by have := zmk_z18 M h; omega) (by decide))
  have p20 : zPr 86 22 (zmk_7 M) (zmk_20 M) := p19.tr (zPr.al (t := 2) (n := 64) (by have := zmk_z19 M h; omega) (by have := zmk_z19 M h; omega) (by decide))
  have p21 : zPr 86 22 (zmk_7 M) (zmk_21 M) := p20.tr (zPr.al (t := 1) (n := 80) (by have := zmk_z20 M h; omega) (by have := zmk_z20 M h; omega) (by decide))
  have p22 : zPr 86 22 (zmk_7 M) (zmk_22 M) := p21.tr (zPr.al (t := 2) (n := 8) (by have := zmk_z21 M h; omega) (by have := zmk_z21 M h; omega) (by decide))
  have p23 : zPr 86 22 (zmk_7 M) (zmk_23 M) := p22.tr (zPr.al (t := 2) (n := 512) (by have := zmk_z22 M h; omega) (by have := zmk_z22 M h; omega) (by decide))
  have p24 : zPr 86 22 (zmk_7 M) (zmk_24 M) := p23.tr (zPr.al (t := 2) (n := 8) (by have := zmk_z23 M h; omega) (by have := zmk_z23 M h; omega) (by decide))
  have p25 : zPr 86 22 (zmk_7 M) (zmk_25 M) := p24.tr (zPr.al (t := 2) (n := 512) (by have := zmk_z24 M h; omega) (by have := zmk_z24 M h; omega) (by decide))
  have p26 : zPr 86 22 (zmk_7 M) (zmk_26 M) := p25.tr (zPr.al (t := 2) (n := 64) (by have := zmk_z25 M h; omega) (by have := zmk_z25 M h; omega) (by decide))
  have p27 : zPr 86 22 (zmk_7 M) (zmk_27 M) := p26.tr (zPr.al (t := 1) (n := 128) (by have := zmk_z26 M h; omega) (by have := zmk_z26 M h; omega) (by decide))
  have p28 : zPr 86 22 (zmk_7 M) (zmk_28 M) := p27.tr (zPr.al (t := 2) (n := 64) (by have := zmk_z27 M h; omega) (by have := zmk_z27 M h; omega) (by decide))
  have p29 : zPr 86 22 (zmk_7 M) (zmk_29 M) := p28.tr (zPr.al (t := 2) (n := 64) (by have := zmk_z28 M h; omega) (by have := zmk_z28 M h; omega) (by decide))
  have p30 : zPr 86 22 (zmk_7 M) (zmk_30 M) := p29.tr (zPr.al (t := 1) (n := 24) (by have := zmk_z29 M h; omega) (by have := zmk_z29 M h; omega) (by decide))
  have p31 : zPr 86 22 (zmk_7 M) (zmk_31 M) := p30.tr (zPr.al (t := 1) (n := 65536) (by have := zmk_z30 M h; omega) (by have := zmk_z30 M h; omega) (by decide))
  have p32 : zPr 86 22 (zmk_7 M) (zmk_32 M) := p31.tr (zPr.al (t := 2) (n := 768) (by have := zmk_z31 M h; omega) (by have := zmk_z31 M h; omega) (by decide))
  have p33 : zPr 86 22 (zmk_7 M) (zmk_33 M) := p32.tr (zPr.al (t := 1) (n := 6) (by have := zmk_z32 M h; omega) (by have := zmk_z32 M h; omega) (by decide))
  have p34 : zPr 86 22 (zmk_7 M) (zmk_34 M) := p33.tr (zPr.al (t := 1) (n := 7) (by have := zmk_z33 M h; omega) (by have := zmk_z33 M h; omega) (by decide))
  have p35 : zPr 86 22 (zmk_7 M) (zmk_35 M) := p34.tr (zPr.i (by decide))
  exact ⟨p35.2.1.trans b1, p35.1.trans b2, p35.2.2.1.trans b3.1, p35.2.2.2.trans b3.2⟩
theorem zmk_a87 (M : zMem) (h : zn M = 82) : zf (zmk M) 81 23 = some 87 ∧ zsh (zmk M) 87 = (1, 576) ∧ zi (zmk M) 87 = (fun _ => 0) ∧ zj (zmk M) 87 = (fun _ => 0) := by
  have hz : zn (zmk_7 M) = 87 := (zmk_z7 M h)
  have b1 : zf (zmk_8 M) 81 23 = some (zn (zmk_7 M)) := zsF_s (zal (zmk_7 M) 1 576) 81 23 (some (zn (zmk_7 M)))
  have b2 : zsh (zmk_8 M) (zn (zmk_7 M)) = (1, 576) := zal_sh (M := (zmk_7 M)) (t := 1) (n := 576)
  have b3 : zi (zmk_8 M) (zn (zmk_7 M)) = (fun _ => 0) ∧ zj (zmk_8 M) (zn (zmk_7 M)) = (fun _ => 0) := zal_new (M := (zmk_7 M)) (t := 1) (n := 576)
  rw [hz] at b1 b2 b3
  have p9 : zPr 87 23 (zmk_8 M) (zmk_9 M) := zPr.al (t := 1) (n := 24) (by have := zmk_z8 M h; omega) (by have := zmk_z8 M h; omega) (by decide)
  have p10 : zPr 87 23 (zmk_8 M) (zmk_10 M) := p9.tr (zPr.al (t := 1) (n := 128) (by have := zmk_z9 M h; omega) (by have := zmk_z9 M h; omega) (by decide))
  have p11 : zPr 87 23 (zmk_8 M) (zmk_11 M) := p10.tr (zPr.al (t := 1) (n := 128) (by have := zmk_z10 M h; omega) (by have := zmk_z10 M h; omega) (by decide))
  have p12 : zPr 87 23 (zmk_8 M) (zmk_12 M) := p11.tr (zPr.al (t := 1) (n := 64) (by have := zmk_z11 M h; omega) (by have := zmk_z11 M h; omega) (by decide))
  have p13 : zPr 87 23 (zmk_8 M) (zmk_13 M) := p12.tr (zPr.al (t := 1) (n := 64) (by have := zmk_z12 M h; omega) (by have := zmk_z12 M h; omega) (by decide))
  have p14 : zPr 87 23 (zmk_8 M) (zmk_14 M) := p13.tr (zPr.al (t := 1) (n := 4096) (by have := zmk_z13 M h; omega) (by have := zmk_z13 M h; omega) (by decide))
  have p15 : zPr 87 23 (zmk_8 M) (zmk_15 M) := p14.tr (zPr.al (t := 1) (n := 1536) (by have := zmk_z14 M h; omega) (by have := zmk_z14 M h; omega) (by decide))
  have p16 : zPr 87 23 (zmk_8 M) (zmk_16 M) := p15.tr (zPr.al (t := 2) (n := 2560) (by have := zmk_z15 M h; omega) (by have := zmk_z15 M h; omega) (by decide))
  have p17 : zPr 87 23 (zmk_8 M) (zmk_17 M) := p16.tr (zPr.al (t := 2) (n := 64) (by have := zmk_z16 M h; omega) (by have := zmk_z16 M h; omega) (by decide))
  have p18 : zPr 87 23 (zmk_8 M) (zmk_18 M) := p17.tr (zPr.al (t := 2) (n := 64) (by have := zmk_z17 M h; omega) (by have := zmk_z17 M h; omega) (by decide))
  have p19 : zPr 87 23 (zmk_8 M) (zmk_19 M) := p18.tr (zPr.al (t := 2) (n := 64) (by have := zmk_z18 M h; omega) (by have := zmk_z18 M h; omega) (by decide))
  have p20 : zPr 87 23 (zmk_8 M) (zmk_20 M) := p19.tr (zPr.al (t := 2) (n := 64) (by have := zmk_z19 M h; omega) (by have := zmk_z19 M h; omega) (by decide))
  have p21 : zPr 87 23 (zmk_8 M) (zmk_21 M) := p20.tr (zPr.al (t := 1) (n := 80) (by have := zmk_z20 M h; omega) (by have := zmk_z20 M h; omega) (by decide))
  have p22 : zPr 87 23 (zmk_8 M) (zmk_22 M) := p21.tr (zPr.al (t := 2) (n := 8) (by have := zmk_z21 M h; omega) (by have := zmk_z21 M h; omega) (by decide))
  have p23 : zPr 87 23 (zmk_8 M) (zmk_23 M) := p22.tr (zPr.al (t := 2) (n := 512) (by have := zmk_z22 M h; omega) (by have := zmk_z22 M h; omega) (by decide))
  have p24 : zPr 87 23 (zmk_8 M) (zmk_24 M) := p23.tr (zPr.al (t := 2) (n := 8) (by have := zmk_z23 M h; omega) (by have := zmk_z23 M h; omega) (by decide))
  have p25 : zPr 87 23 (zmk_8 M) (zmk_25 M) := p24.tr (zPr.al (t := 2) (n := 512) (by have := zmk_z24 M h; omega) (by have := zmk_z24 M h; omega) (by decide))
  have p26 : zPr 87 23 (zmk_8 M) (zmk_26 M) := p25.tr (zPr.al (t := 2) (n := 64) (by have := zmk_z25 M h; omega) (by have := zmk_z25 M h; omega) (by decide))
  have p27 : zPr 87 23 (zmk_8 M) (zmk_27 M) := p26.tr (zPr.al (t := 1) (n := 128) (by have := zmk_z26 M h; omega) (by have := zmk_z26 M h; omega) (by decide))
  have p28 : zPr 87 23 (zmk_8 M) (zmk_28 M) := p27.tr (zPr.al (t := 2) (n := 64) (by have := zmk_z27 M h; omega) (by have := zmk_z27 M h; omega) (by decide))
  have p29 : zPr 87 23 (zmk_8 M) (zmk_29 M) := p28.tr (zPr.al (t := 2) (n := 64) (by have := zmk_z28 M h; omega) (by have := zmk_z28 M h; omega) (by decide))
  have p30 : zPr 87 23 (zmk_8 M) (zmk_30 M) := p29.tr (zPr.al (t := 1) (n := 24) (by have := zmk_z29 M h; omega) (by have := zmk_z29 M h; omega) (by decide))
  have p31 : zPr 87 23 (zmk_8 M) (zmk_31 M) := p30.tr (zPr.al (t := 1) (n := 65536) (by have := zmk_z30 M h; omega) (by have := zmk_z30 M h; omega) (by decide))
  have p32 : zPr 87 23 (zmk_8 M) (zmk_32 M) := p31.tr (zPr.al (t := 2) (n := 768) (by have := zmk_z31 M h; omega) (by have := zmk_z31 M h; omega) (by decide))
  have p33 : zPr 87 23 (zmk_8 M) (zmk_33 M) := p32.tr (zPr.al (t := 1) (n := 6) (by have := zmk_z32 M h; omega) (by have := zmk_z32 M h; omega) (by decide))
  have p34 : zPr 87 23 (zmk_8 M) (zmk_34 M) := p33.tr (zPr.al (t := 1) (n := 7) (by have := zmk_z33 M h; omega) (by have := zmk_z33 M h; omega) (by decide))
  have p35 : zPr 87 23 (zmk_8 M) (zmk_35 M) := p34.tr (zPr.i (by decide))
  exact ⟨p35.2.1.trans b1, p35.1.trans b2, p35.2.2.1.trans b3.1, p35.2.2.2.trans b3.2⟩
theorem zmk_a88 (M : zMem) (h : zn M = 82) : zf (zmk M) 81 24 = some 88 ∧ zsh (zmk M) 88 = (1, 24) ∧ zi (zmk M) 88 = (fun _ => 0) ∧ zj (zmk M) 88 = (fun _ => 0) := by
  have hz : zn (zmk_8 M) = 88 := (zmk_z8 M h)
  have b1 : zf (zmk_9 M) 81 24 = some (zn (zmk_8 M)) := zsF_s (zal (zmk_8 M) 1 24) 81 24 (some (zn (zmk_8 M)))
  have b2 : zsh (zmk_9 M) (zn (zmk_8 M)) = (1, 24) := zal_sh (M := (zmk_8 M)) (t := 1) (n := 24)
  have b3 : zi (zmk_9 M) (zn (zmk_8 M)) = (fun _ => 0) ∧ zj (zmk_9 M) (zn (zmk_8 M)) = (fun _ => 0) := zal_new (M := (zmk_8 M)) (t := 1) (n := 24)
  rw [hz] at b1 b2 b3
  have p10 : zPr 88 24 (zmk_9 M) (zmk_10 M) := zPr.al (t := 1) (n := 128) (by have := zmk_z9 M h; omega) (by have := zmk_z9 M h; omega) (by decide)
  have p11 : zPr 88 24 (zmk_9 M) (zmk_11 M) := p10.tr (zPr.al (t := 1) (n := 128) (by have := zmk_z10 M h; omega) (by have := zmk_z10 M h; omega) (by decide))
  have p12 : zPr 88 24 (zmk_9 M) (zmk_12 M) := p11.tr (zPr.al (t := 1) (n := 64) (by have := zmk_z11 M h; omega) (by have := zmk_z11 M h; omega) (by decide))
  have p13 : zPr 88 24 (zmk_9 M) (zmk_13 M) := p12.tr (zPr.al (t := 1) (n := 64) (by have := zmk_z12 M h; omega) (by have := zmk_z12 M h; omega) (by decide))
  have p14 : zPr 88 24 (zmk_9 M) (zmk_14 M) := p13.tr (zPr.al (t := 1) (n := 4096) (by have := zmk_z13 M h; omega) (by have := zmk_z13 M h; omega) (by decide))
  have p15 : zPr 88 24 (zmk_9 M) (zmk_15 M) := p14.tr (zPr.al (t := 1) (n := 1536) (by have := zmk_z14 M h; omega) (by have := zmk_z14 M h; omega) (by decide))
  have p16 : zPr 88 24 (zmk_9 M) (zmk_16 M) := p15.tr (zPr.al (t := 2) (n := 2560) (by have := zmk_z15 M h; omega) (by have := zmk_z15 M h; omega) (by decide))
  have p17 : zPr 88 24 (zmk_9 M) (zmk_17 M) := p16.tr (zPr.al (t := 2) (n := 64) (by have := zmk_z16 M h; omega) (by have := zmk_z16 M h; omega) (by decide))
  have p18 : zPr 88 24 (zmk_9 M) (zmk_18 M) := p17.tr (zPr.al (t := 2) (n := 64) (by have := zmk_z17 M h; omega) (by have := zmk_z17 M h; omega) (by decide))
  have p19 : zPr 88 24 (zmk_9 M) (zmk_19 M) := p18.tr (zPr.al (t := 2) (n := 64) (by have := zmk_z18 M h; omega) (by have := zmk_z18 M h; omega) (by decide))
  have p20 : zPr 88 24 (zmk_9 M) (zmk_20 M) := p19.tr (zPr.al (t := 2) (n := 64) (by have := zmk_z19 M h; omega) (by have := zmk_z19 M h; omega) (by decide))
  have p21 : zPr 88 24 (zmk_9 M) (zmk_21 M) := p20.tr (zPr.al (t := 1) (n := 80) (by have := zmk_z20 M h; omega) (by have := zmk_z20 M h; omega) (by decide))
  have p22 : zPr 88 24 (zmk_9 M) (zmk_22 M) := p21.tr (zPr.al (t := 2) (n := 8) (by have := zmk_z21 M h; omega) (by have := zmk_z21 M h; omega) (by decide))
  have p23 : zPr 88 24 (zmk_9 M) (zmk_23 M) := p22.tr (zPr.al (t := 2) (n := 512) (by have := zmk_z22 M h; omega) (by have := zmk_z22 M h; omega) (by decide))
  have p24 : zPr 88 24 (zmk_9 M) (zmk_24 M) := p23.tr (zPr.al (t := 2) (n := 8) (by have := zmk_z23 M h; omega) (by have := zmk_z23 M h; omega) (by decide))
  have p25 : zPr 88 24 (zmk_9 M) (zmk_25 M) := p24.tr (zPr.al (t := 2) (n := 512) (by have := zmk_z24 M h; omega) (by have := zmk_z24 M h; omega) (by decide))
  have p26 : zPr 88 24 (zmk_9 M) (zmk_26 M) := p25.tr (zPr.al (t := 2) (n := 64) (by have := zmk_z25 M h; omega) (by have := zmk_z25 M h; omega) (by decide))
  have p27 : zPr 88 24 (zmk_9 M) (zmk_27 M) := p26.tr (zPr.al (t := 1) (n := 128) (by have := zmk_z26 M h; omega) (by have := zmk_z26 M h; omega) (by decide))
  have p28 : zPr 88 24 (zmk_9 M) (zmk_28 M) := p27.tr (zPr.al (t := 2) (n := 64) (by have := zmk_z27 M h; omega) (by have := zmk_z27 M h; omega) (by decide))
  have p29 : zPr 88 24 (zmk_9 M) (zmk_29 M) := p28.tr (zPr.al (t := 2) (n := 64) (by have := zmk_z28 M h; omega) (by have := zmk_z28 M h; omega) (by decide))
  have p30 : zPr 88 24 (zmk_9 M) (zmk_30 M) := p29.tr (zPr.al (t := 1) (n := 24) (by have := zmk_z29 M h; omega) (by have := zmk_z29 M h; omega) (by decide))
  have p31 : zPr 88 24 (zmk_9 M) (zmk_31 M) := p30.tr (zPr.al (t := 1) (n := 65536) (by have := zmk_z30 M h; omega) (by have := zmk_z30 M h; omega) (by decide))
  have p32 : zPr 88 24 (zmk_9 M) (zmk_32 M) := p31.tr (zPr.al (t := 2) (n := 768) (by have := zmk_z31 M h; omega) (by have := zmk_z31 M h; omega) (by decide))
  have p33 : zPr 88 24 (zmk_9 M) (zmk_33 M) := p32.tr (zPr.al (t := 1) (n := 6) (by have := zmk_z32 M h; omega) (by have := zmk_z32 M h; omega) (by decide))
  have p34 : zPr 88 24 (zmk_9 M) (zmk_34 M) := p33.tr (zPr.al (t := 1) (n := 7) (by have := zmk_z33 M h; omega) (by have := zmk_z33 M h; omega) (by decide))
  have p35 : zPr 88 24 (zmk_9 M) (zmk_35 M) := p34.tr (zPr.i (by decide))
  exact ⟨p35.2.1.trans b1, p35.1.trans b2, p35.2.2.1.trans b3.1, p35.2.2.2.trans b3.2⟩
theorem zmk_a89 (M : zMem) (h : zn M = 82) : zf (zmk M) 81 27 = some 89 ∧ zsh (zmk M) 89 = (1, 128) ∧ zi (zmk M) 89 = (fun _ => 0) ∧ zj (zmk M) 89 = (fun _ => 0) := by
  have hz : zn (zmk_9 M) = 89 := (zmk_z9 M h)
  have b1 : zf (zmk_10 M) 81 27 = some (zn (zmk_9 M)) := zsF_s (zal (zmk_9 M) 1 128) 81 27 (some (zn (zmk_9 M)))
  have b2 : zsh (zmk_10 M) (zn (zmk_9 M)) = (1, 128) := zal_sh (M := (zmk_9 M)) (t := 1) (n := 128)
  have b3 : zi (zmk_10 M) (zn (zmk_9 M)) = (fun _ => 0) ∧ zj (zmk_10 M) (zn (zmk_9 M)) = (fun _ => 0) := zal_new (M := (zmk_9 M)) (t := 1) (n := 128)
  rw [hz] at b1 b2 b3
  have p11 : zPr 89 27 (zmk_10 M) (zmk_11 M) := zPr.al (t := 1) (n := 128) (by have := zmk_z10 M h; omega) (by have := zmk_z10 M h; omega) (by decide)
  have p12 : zPr 89 27 (zmk_10 M) (zmk_12 M) := p11.tr (zPr.al (t := 1) (n := 64) (by have := zmk_z11 M h; omega) (by have := zmk_z11 M h; omega) (by decide))
  have p13 : zPr 89 27 (zmk_10 M) (zmk_13 M) := p12.tr (zPr.al (t := 1) (n := 64) (by have := zmk_z12 M h; omega) (by have := zmk_z12 M h; omega) (by decide))
  have p14 : zPr 89 27 (zmk_10 M) (zmk_14 M) := p13.tr (zPr.al (t := 1) (n := 4096) (by have := zmk_z13 M h; omega) (by have := zmk_z13 M h; omega) (by decide))
  have p15 : zPr 89 27 (zmk_10 M) (zmk_15 M) := p14.tr (zPr.al (t := 1) (n := 1536) (by have := zmk_z14 M h; omega) (by have := zmk_z14 M h; omega) (by decide))
  have p16 : zPr 89 27 (zmk_10 M) (zmk_16 M) := p15.tr (zPr.al (t := 2) (n := 2560) (by have := zmk_z15 M h; omega) (by have := zmk_z15 M h; omega) (by decide))
  have p17 : zPr 89 27 (zmk_10 M) (zmk_17 M) := p16.tr (zPr.al (t := 2) (n := 64) (by have := zmk_z16 M h; omega) (by have := zmk_z16 M h; omega) (by decide))
  have p18 : zPr 89 27 (zmk_10 M) (zmk_18 M) := p17.tr (zPr.al (t := 2) (n := 64) (by have := zmk_z17 M h; omega) (by have := zmk_z17 M h; omega) (by decide))
  have p19 : zPr 89 27 (zmk_10 M) (zmk_19 M) := p18.tr (zPr.al (t := 2) (n := 64) (by have := zmk_z18 M h; omega) (by have := zmk_z18 M h; omega) (by decide))
  have p20 : zPr 89 27 (zmk_10 M) (zmk_20 M) := p19.tr (zPr.al (t := 2) (n := 64) (by have := zmk_z19 M h; omega) (by have := zmk_z19 M h; omega) (by decide))
  have p21 : zPr 89 27 (zmk_10 M) (zmk_21 M) := p20.tr (zPr.al (t := 1) (n := 80) (by have := zmk_z20 M h; omega) (by have := zmk_z20 M h; omega) (by decide))
  have p22 : zPr 89 27 (zmk_10 M) (zmk_22 M) := p21.tr (zPr.al (t := 2) (n := 8) (by have := zmk_z21 M h; omega) (by have := zmk_z21 M h; omega) (by decide))
  have p23 : zPr 89 27 (zmk_10 M) (zmk_23 M) := p22.tr (zPr.al (t := 2) (n := 512) (by have := zmk_z22 M h; omega) (by have := zmk_z22 M h; omega) (by decide))
  have p24 : zPr 89 27 (zmk_10 M) (zmk_24 M) := p23.tr (zPr.al (t := 2) (n := 8) (by have := zmk_z23 M h; omega) (by have := zmk_z23 M h; omega) (by decide))
  have p25 : zPr 89 27 (zmk_10 M) (zmk_25 M) := p24.tr (zPr.al (t := 2) (n := 512) (by have := zmk_z24 M h; omega) (by have := zmk_z24 M h; omega) (by decide))
  have p26 : zPr 89 27 (zmk_10 M) (zmk_26 M) := p25.tr (zPr.al (t := 2) (n := 64) (by have := zmk_z25 M h; omega) (by have := zmk_z25 M h; omega) (by decide))
  have p27 : zPr 89 27 (zmk_10 M) (zmk_27 M) := p26.tr (zPr.al (t := 1) (n := 128) (by have := zmk_z26 M h; omega) (by have := zmk_z26 M h; omega) (by decide))
  have p28 : zPr 89 27 (zmk_10 M) (zmk_28 M) := p27.tr (zPr.al (t := 2) (n := 64) (by have := zmk_z27 M h; omega) (by have := zmk_z27 M h; omega) (by decide))
  have p29 : zPr 89 27 (zmk_10 M) (zmk_29 M) := p28.tr (zPr.al (t := 2) (n := 64) (by have := zmk_z28 M h; omega) (by have := zmk_z28 M h; omega) (by decide))
  have p30 : zPr 89 27 (zmk_10 M) (zmk_30 M) := p29.tr (zPr.al (t := 1) (n := 24) (by have := zmk_z29 M h; omega) (by have := zmk_z29 M h; omega) (by decide))
  have p31 : zPr 89 27 (zmk_10 M) (zmk_31 M) := p30.tr (zPr.al (t := 1) (n := 65536) (by have := zmk_z30 M h; omega) (by have := zmk_z30 M h; omega) (by decide))
  have p32 : zPr 89 27 (zmk_10 M) (zmk_32 M) := p31.tr (zPr.al (t := 2) (n := 768) (by have := zmk_z31 M h; omega) (by have := zmk_z31 M h; omega) (by decide))
  have p33 : zPr 89 27 (zmk_10 M) (zmk_33 M) := p32.tr (zPr.al (t := 1) (n := 6) (by have := zmk_z32 M h; omega) (by have := zmk_z32 M h; omega) (by decide))
  have p34 : zPr 89 27 (zmk_10 M) (zmk_34 M) := p33.tr (zPr.al (t := 1) (n := 7) (by have := zmk_z33 M h; omega) (by have := zmk_z33 M h; omega) (by decide))
  have p35 : zPr 89 27 (zmk_10 M) (zmk_35 M) := p34.tr (zPr.i (by decide))
  exact ⟨p35.2.1.trans b1, p35.1.trans b2, p35.2.2.1.trans b3.1, p35.2.2.2.trans b3.2⟩
theorem zmk_a90 (M : zMem) (h : zn M = 82) : zf (zmk M) 81 28 = some 90 ∧ zsh (zmk M) 90 = (1, 128) ∧ zi (zmk M) 90 = (fun _ => 0) ∧ zj (zmk M) 90 = (fun _ => 0) := by
  have hz : zn (zmk_10 M) = 90 := (zmk_z10 M h)
  have b1 : zf (zmk_11 M) 81 28 = some (zn (zmk_10 M)) := zsF_s (zal (zmk_10 M) 1 128) 81 28 (some (zn (zmk_10 M)))
  have b2 : zsh (zmk_11 M) (zn (zmk_10 M)) = (1, 128) := zal_sh (M := (zmk_10 M)) (t := 1) (n := 128)
  have b3 : zi (zmk_11 M) (zn (zmk_10 M)) = (fun _ => 0) ∧ zj (zmk_11 M) (zn (zmk_10 M)) = (fun _ => 0) := zal_new (M := (zmk_10 M)) (t := 1) (n := 128)
  rw [hz] at b1 b2 b3
  have p12 : zPr 90 28 (zmk_11 M) (zmk_12 M) := zPr.al (t := 1) (n := 64) (by have := zmk_z11 M h; omega) (by have := zmk_z11 M h; omega) (by decide)
  have p13 : zPr 90 28 (zmk_11 M) (zmk_13 M) := p12.tr (zPr.al (t := 1) (n := 64) (by have := zmk_z12 M h; omega) (by have := zmk_z12 M h; omega) (by decide))
  have p14 : zPr 90 28 (zmk_11 M) (zmk_14 M) := p13.tr (zPr.al (t := 1) (n := 4096) (by have := zmk_z13 M h; omega) (by have := zmk_z13 M h; omega) (by decide))
  have p15 : zPr 90 28 (zmk_11 M) (zmk_15 M) := p14.tr (zPr.al (t := 1) (n := 1536) (by have := zmk_z14 M h; omega) (by have := zmk_z14 M h; omega) (by decide))
  have p16 : zPr 90 28 (zmk_11 M) (zmk_16 M) := p15.tr (zPr.al (t := 2) (n := 2560) (by have := zmk_z15 M h; omega) (by have := zmk_z15 M h; omega) (by decide))
  have p17 : zPr 90 28 (zmk_11 M) (zmk_17 M) := p16.tr (zPr.al (t := 2) (n := 64) (by have := zmk_z16 M h; omega) (by have := zmk_z16 M h; omega) (by decide))
  have p18 : zPr 90 28 (zmk_11 M) (zmk_18 M) := p17.tr (zPr.al (t := 2) (n := 64) (by have := zmk_z17 M h; omega) (by have := zmk_z17 M h; omega) (by decide))
  have p19 : zPr 90 28 (zmk_11 M) (zmk_19 M) := p18.tr (zPr.al (t := 2) (n := 64) (by have := zmk_z18 M h; omega) (by have := zmk_z18 M h; omega) (by decide))
  have p20 : zPr 90 28 (zmk_11 M) (zmk_20 M) := p19.tr (zPr.al (t := 2) (n := 64) (by have := zmk_z19 M h; omega) (by have := zmk_z19 M h; omega) (by decide))
  have p21 : zPr 90 28 (zmk_11 M) (zmk_21 M) := p20.tr (zPr.al (t := 1) (n := 80) (by have := zmk_z20 M h; omega) (by have := zmk_z20 M h; omega) (by decide))
  have p22 : zPr 90 28 (zmk_11 M) (zmk_22 M) := p21.tr (zPr.al (t := 2) (n := 8) (by have := zmk_z21 M h; omega) (by have := zmk_z21 M h; omega) (by decide))
  have p23 : zPr 90 28 (zmk_11 M) (zmk_23 M) := p22.tr (zPr.al (t := 2) (n := 512) (by have := zmk_z22 M h; omega) (by have := zmk_z22 M h; omega) (by decide))
  have p24 : zPr 90 28 (zmk_11 M) (zmk_24 M) := p23.tr (zPr.al (t := 2) (n := 8) (by have := zmk_z23 M h; omega) (by have := zmk_z23 M h; omega) (by decide))
  have p25 : zPr 90 28 (zmk_11 M) (zmk_25 M) := p24.tr (zPr.al (t := 2) (n := 512) (by have := zmk_z24 M h; omega) (by have := zmk_z24 M h; omega) (by decide))
  have p26 : zPr 90 28 (zmk_11 M) (zmk_26 M) := p25.tr (zPr.al (t := 2) (n := 64) (by have := zmk_z25 M h; omega) (by have := zmk_z25 M h; omega) (by decide))
  have p27 : zPr 90 28 (zmk_11 M) (zmk_27 M) := p26.tr (zPr.al (t := 1) (n := 128) (by have := zmk_z26 M h; omega) (by have := zmk_z26 M h; omega) (by decide))
  have p28 : zPr 90 28 (zmk_11 M) (zmk_28 M) := p27.tr (zPr.al (t := 2) (n := 64) (by have := zmk_z27 M h; omega) (by have := zmk_z27 M h; omega) (by decide))
  have p29 : zPr 90 28 (zmk_11 M) (zmk_29 M) := p28.tr (zPr.al (t := 2) (n := 64) (by have := zmk_z28 M h; omega) (by have := zmk_z28 M h; omega) (by decide))
  have p30 : zPr 90 28 (zmk_11 M) (zmk_30 M) := p29.tr (zPr.al (t := 1) (n := 24) (by have := zmk_z29 M h; omega) (by have := zmk_z29 M h; omega) (by decide))
  have p31 : zPr 90 28 (zmk_11 M) (zmk_31 M) := p30.tr (zPr.al (t := 1) (n := 65536) (by have := zmk_z30 M h; omega) (by have := zmk_z30 M h; omega) (by decide))
  have p32 : zPr 90 28 (zmk_11 M) (zmk_32 M) := p31.tr (zPr.al (t := 2) (n := 768) (by have := zmk_z31 M h; omega) (by have := zmk_z31 M h; omega) (by decide))
  have p33 : zPr 90 28 (zmk_11 M) (zmk_33 M) := p32.tr (zPr.al (t := 1) (n := 6) (by have := zmk_z32 M h; omega) (by have := zmk_z32 M h; omega) (by decide))
  have p34 : zPr 90 28 (zmk_11 M) (zmk_34 M) := p33.tr (zPr.al (t := 1) (n := 7) (by have := zmk_z33 M h; omega) (by have := zmk_z33 M h; omega) (by decide))
  have p35 : zPr 90 28 (zmk_11 M) (zmk_35 M) := p34.tr (zPr.i (by decide))
  exact ⟨p35.2.1.trans b1, p35.1.trans b2, p35.2.2.1.trans b3.1, p35.2.2.2.trans b3.2⟩
theorem zmk_a91 (M : zMem) (h : zn M = 82) : zf (zmk M) 81 29 = some 91 ∧ zsh (zmk M) 91 = (1, 64) ∧ zi (zmk M) 91 = (fun _ => 0) ∧ zj (zmk M) 91 = (fun _ => 0) := by
  have hz : zn (zmk_11 M) = 91 := (zmk_z11 M h)
  have b1 : zf (zmk_12 M) 81 29 = some (zn (zmk_11 M)) := zsF_s (zal (zmk_11 M) 1 64) 81 29 (some (zn (zmk_11 M)))
  have b2 : zsh (zmk_12 M) (zn (zmk_11 M)) = (1, 64) := zal_sh (M := (zmk_11 M)) (t := 1) (n := 64)
  have b3 : zi (zmk_12 M) (zn (zmk_11 M)) = (fun _ => 0) ∧ zj (zmk_12 M) (zn (zmk_11 M)) = (fun _ => 0) := zal_new (M := (zmk_11 M)) (t := 1) (n := 64)
  rw [hz] at b1 b2 b3
  have p13 : zPr 91 29 (zmk_12 M) (zmk_13 M) := zPr.al (t := 1) (n := 64) (by have := zmk_z12 M h; omega) (by have := zmk_z12 M h; omega) (by decide)
  have p14 : zPr 91 29 (zmk_12 M) (zmk_14 M) := p13.tr (zPr.al (t := 1) (n := 4096) (by have := zmk_z13 M h; omega) (by have := zmk_z13 M h; omega) (by decide))
  have p15 : zPr 91 29 (zmk_12 M) (zmk_15 M) := p14.tr (zPr.al (t := 1) (n := 1536) (by have := zmk_z14 M h; omega) (by have := zmk_z14 M h; omega) (by decide))
  have p16 : zPr 91 29 (zmk_12 M) (zmk_16 M) := p15.tr (zPr.al (t := 2) (n := 2560) (by have := zmk_z15 M h; omega) (by have := zmk_z15 M h; omega) (by decide))
  have p17 : zPr 91 29 (zmk_12 M) (zmk_17 M) := p16.tr (zPr.al (t := 2) (n := 64) (by have := zmk_z16 M h; omega) (by have := zmk_z16 M h; omega) (by decide))
  have p18 : zPr 91 29 (zmk_12 M) (zmk_18 M) := p17.tr (zPr.al (t := 2) (n := 64) (by have := zmk_z17 M h; omega) (by have := zmk_z17 M h; omega) (by decide))
  have p19 : zPr 91 29 (zmk_12 M) (zmk_19 M) := p18.tr (zPr.al (t := 2) (n := 64) (by have := zmk_z18 M h; omega) (by have := zmk_z18 M h; omega) (by decide))
  have p20 : zPr 91 29 (zmk_12 M) (zmk_20 M) := p19.tr (zPr.al (t := 2) (n := 64) (by have := zmk_z19 M h; omega) (by have := zmk_z19 M h; omega) (by decide))
  have p21 : zPr 91 29 (zmk_12 M) (zmk_21 M) := p20.tr (zPr.al (t := 1) (n := 80) (by have := zmk_z20 M h; omega) (by have := zmk_z20 M h; omega) (by decide))
  have p22 : zPr 91 29 (zmk_12 M) (zmk_22 M) := p21.tr (zPr.al (t := 2) (n := 8) (by have := zmk_z21 M h; omega) (by have := zmk_z21 M h; omega) (by decide))
  have p23 : zPr 91 29 (zmk_12 M) (zmk_23 M) := p22.tr (zPr.al (t := 2) (n := 512) (by have := zmk_z22 M h; omega) (by have := zmk_z22 M h; omega) (by decide))
  have p24 : zPr 91 29 (zmk_12 M) (zmk_24 M) := p23.tr (zPr.al (t := 2) (n := 8) (by have := zmk_z23 M h; omega) (by have := zmk_z23 M h; omega) (by decide))
  have p25 : zPr 91 29 (zmk_12 M) (zmk_25 M) := p24.tr (zPr.al (t := 2) (n := 512) (by have := zmk_z24 M h; omega) (by have := zmk_z24 M h; omega) (by decide))
  have p26 : zPr 91 29 (zmk_12 M) (zmk_26 M) := p25.tr (zPr.al (t := 2) (n := 64) (by have := zmk_z25 M h; omega) (by have := zmk_z25 M h; omega) (by decide))
  have p27 : zPr 91 29 (zmk_12 M) (zmk_27 M) := p26.tr (zPr.al (t := 1) (n := 128) (by have := zmk_z26 M h; omega) (by have := zmk_z26 M h; omega) (by decide))
  have p28 : zPr 91 29 (zmk_12 M) (zmk_28 M) := p27.tr (zPr.al (t := 2) (n := 64) (by have := zmk_z27 M h; omega) (by have := zmk_z27 M h; omega) (by decide))
  have p29 : zPr 91 29 (zmk_12 M) (zmk_29 M) := p28.tr (zPr.al (t := 2) (n := 64) (by have := zmk_z28 M h; omega) (by have := zmk_z28 M h; omega) (by decide))
  have p30 : zPr 91 29 (zmk_12 M) (zmk_30 M) := p29.tr (zPr.al (t := 1) (n := 24) (by have := zmk_z29 M h; omega) (by have := zmk_z29 M h; omega) (by decide))
  have p31 : zPr 91 29 (zmk_12 M) (zmk_31 M) := p30.tr (zPr.al (t := 1) (n := 65536) (by have := zmk_z30 M h; omega) (by have := zmk_z30 M h; omega) (by decide))
  have p32 : zPr 91 29 (zmk_12 M) (zmk_32 M) := p31.tr (zPr.al (t := 2) (n := 768) (by have := zmk_z31 M h; omega) (by have := zmk_z31 M h; omega) (by decide))
  have p33 : zPr 91 29 (zmk_12 M) (zmk_33 M) := p32.tr (zPr.al (t := 1) (n := 6) (by have := zmk_z32 M h; omega) (by have := zmk_z32 M h; omega) (by decide))
  have p34 : zPr 91 29 (zmk_12 M) (zmk_34 M) := p33.tr (zPr.al (t := 1) (n := 7) (by have := zmk_z33 M h; omega) (by have := zmk_z33 M h; omega) (by decide))
  have p35 : zPr 91 29 (zmk_12 M) (zmk_35 M) := p34.tr (zPr.i (by decide))
  exact ⟨p35.2.1.trans b1, p35.1.trans b2, p35.2.2.1.trans b3.1, p35.2.2.2.trans b3.2⟩
theorem zmk_a92 (M : zMem) (h : zn M = 82) : zf (zmk M) 81 30 = some 92 ∧ zsh (zmk M) 92 = (1, 64) ∧ zi (zmk M) 92 = (fun _ => 0) ∧ zj (zmk M) 92 = (fun _ => 0) := by
  have hz : zn (zmk_12 M) = 92 := (zmk_z12 M h)
  have b1 : zf (zmk_13 M) 81 30 = some (zn (zmk_12 M)) := zsF_s (zal (zmk_12 M) 1 64) 81 30 (some (zn (zmk_12 M)))
  have b2 : zsh (zmk_13 M) (zn (zmk_12 M)) = (1, 64) := zal_sh (M := (zmk_12 M)) (t := 1) (n := 64)
  have b3 : zi (zmk_13 M) (zn (zmk_12 M)) = (fun _ => 0) ∧ zj (zmk_13 M) (zn (zmk_12 M)) = (fun _ => 0) := zal_new (M := (zmk_12 M)) (t := 1) (n := 64)
  rw [hz] at b1 b2 b3
  have p14 : zPr 92 30 (zmk_13 M) (zmk_14 M) := zPr.al (t := 1) (n := 4096) (by have := zmk_z13 M h; omega) (by have := zmk_z13 M h; omega) (by decide)
  have p15 : zPr 92 30 (zmk_13 M) (zmk_15 M) := p14.tr (zPr.al (t := 1) (n := 1536) (by have := zmk_z14 M h; omega) (by have := zmk_z14 M h; omega) (by decide))
  have p16 : zPr 92 30 (zmk_13 M) (zmk_16 M) := p15.tr (zPr.al (t := 2) (n := 2560) (by have := zmk_z15 M h; omega) (by have := zmk_z15 M h; omega) (by decide))
  have p17 : zPr 92 30 (zmk_13 M) (zmk_17 M) := p16.tr (zPr.al (t := 2) (n := 64) (by have := zmk_z16 M h; omega) (by have := zmk_z16 M h; omega) (by decide))
  have p18 : zPr 92 30 (zmk_13 M) (zmk_18 M) := p17.tr (zPr.al (t := 2) (n := 64) (by have := zmk_z17 M h; omega) (by have := zmk_z17 M h; omega) (by decide))
  have p19 : zPr 92 30 (zmk_13 M) (zmk_19 M) := p18.tr (zPr.al (t := 2) (n := 64) (by have := zmk_z18 M h; omega) (by have := zmk_z18 M h; omega) (by decide))
  have p20 : zPr 92 30 (zmk_13 M) (zmk_20 M) := p19.tr (zPr.al (t := 2) (n := 64) (by have := zmk_z19 M h; omega) (by have := zmk_z19 M h; omega) (by decide))
  have p21 : zPr 92 30 (zmk_13 M) (zmk_21 M) := p20.tr (zPr.al (t := 1) (n := 80) (by have := zmk_z20 M h; omega) (by have := zmk_z20 M h; omega) (by decide))
  have p22 : zPr 92 30 (zmk_13 M) (zmk_22 M) := p21.tr (zPr.al (t := 2) (n := 8) (by have := zmk_z21 M h; omega) (by have := zmk_z21 M h; omega) (by decide))
  have p23 : zPr 92 30 (zmk_13 M) (zmk_23 M) := p22.tr (zPr.al (t := 2) (n := 512) (by have := zmk_z22 M h; omega) (by have := zmk_z22 M h; omega) (by decide))
  have p24 : zPr 92 30 (zmk_13 M) (zmk_24 M) := p23.tr (zPr.al (t := 2) (n := 8) (by have := zmk_z23 M h; omega) (by have := zmk_z23 M h; omega) (by decide))
  have p25 : zPr 92 30 (zmk_13 M) (zmk_25 M) := p24.tr (zPr.al (t := 2) (n := 512) (by have := zmk_z24 M h; omega) (by have := zmk_z24 M h; omega) (by decide))
  have p26 : zPr 92 30 (zmk_13 M) (zmk_26 M) := p25.tr (zPr.al (t := 2) (n := 64) (by have := zmk_z25 M h; omega) (by have := zmk_z25 M h; omega) (by decide))
  have p27 : zPr 92 30 (zmk_13 M) (zmk_27 M) := p26.tr (zPr.al (t := 1) (n := 128) (by have := zmk_z26 M h; omega) (by have := zmk_z26 M h; omega) (by decide))
  have p28 : zPr 92 30 (zmk_13 M) (zmk_28 M) := p27.tr (zPr.al (t := 2) (n := 64) (by have := zmk_z27 M h; omega) (by have := zmk_z27 M h; omega) (by decide))
  have p29 : zPr 92 30 (zmk_13 M) (zmk_29 M) := p28.tr (zPr.al (t := 2) (n := 64) (by have := zmk_z28 M h; omega) (by have := zmk_z28 M h; omega) (by decide))
  have p30 : zPr 92 30 (zmk_13 M) (zmk_30 M) := p29.tr (zPr.al (t := 1) (n := 24) (by have := zmk_z29 M h; omega) (by have := zmk_z29 M h; omega) (by decide))
  have p31 : zPr 92 30 (zmk_13 M) (zmk_31 M) := p30.tr (zPr.al (t := 1) (n := 65536) (by have := zmk_z30 M h; omega) (by have := zmk_z30 M h; omega) (by decide))
  have p32 : zPr 92 30 (zmk_13 M) (zmk_32 M) := p31.tr (zPr.al (t := 2) (n := 768) (by have := zmk_z31 M h; omega) (by have := zmk_z31 M h; omega) (by decide))
  have p33 : zPr 92 30 (zmk_13 M) (zmk_33 M) := p32.tr (zPr.al (t := 1) (n := 6) (by have := zmk_z32 M h; omega) (by have := zmk_z32 M h; omega) (by decide))
  have p34 : zPr 92 30 (zmk_13 M) (zmk_34 M) := p33.tr (zPr.al (t := 1) (n := 7) (by have := zmk_z33 M h; omega) (by have := zmk_z33 M h; omega) (by decide))
  have p35 : zPr 92 30 (zmk_13 M) (zmk_35 M) := p34.tr (zPr.i (by decide))
  exact ⟨p35.2.1.trans b1, p35.1.trans b2, p35.2.2.1.trans b3.1, p35.2.2.2.trans b3.2⟩
theorem zmk_a93 (M : zMem) (h : zn M = 82) : zf (zmk M) 81 31 = some 93 ∧ zsh (zmk M) 93 = (1, 4096) ∧ zi (zmk M) 93 = (fun _ => 0) ∧ zj (zmk M) 93 = (fun _ => 0) := by
  have hz : zn (zmk_13 M) = 93 := (zmk_z13 M h)
  have b1 : zf (zmk_14 M) 81 31 = some (zn (zmk_13 M)) := zsF_s (zal (zmk_13 M) 1 4096) 81 31 (some (zn (zmk_13 M)))
  have b2 : zsh (zmk_14 M) (zn (zmk_13 M)) = (1, 4096) := zal_sh (M := (zmk_13 M)) (t := 1) (n := 4096)
  have b3 : zi (zmk_14 M) (zn (zmk_13 M)) = (fun _ => 0) ∧ zj (zmk_14 M) (zn (zmk_13 M)) = (fun _ => 0) := zal_new (M := (zmk_13 M)) (t := 1) (n := 4096)
  rw [hz] at b1 b2 b3
  have p15 : zPr 93 31 (zmk_14 M) (zmk_15 M) := zPr.al (t := 1) (n := 1536) (by have := zmk_z14 M h; omega) (by have := zmk_z14 M h; omega) (by decide)
  have p16 : zPr 93 31 (zmk_14 M) (zmk_16 M) := p15.tr (zPr.al (t := 2) (n := 2560) (by have := zmk_z15 M h; omega) (by have := zmk_z15 M h; omega) (by decide))
  have p17 : zPr 93 31 (zmk_14 M) (zmk_17 M) := p16.tr (zPr.al (t := 2) (n := 64) (by have := zmk_z16 M h; omega) (by have := zmk_z16 M h; omega) (by decide))
  have p18 : zPr 93 31 (zmk_14 M) (zmk_18 M) := p17.tr (zPr.al (t := 2) (n := 64) (by have := zmk_z17 M h; omega) (by have := zmk_z17 M h; omega) (by decide))
  have p19 : zPr 93 31 (zmk_14 M) (zmk_19 M) := p18.tr (zPr.al (t := 2) (n := 64) (by have := zmk_z18 M h; omega) (by have := zmk_z18 M h; omega) (by decide))
  have p20 : zPr 93 31 (zmk_14 M) (zmk_20 M) := p19.tr (zPr.al (t := 2) (n := 64) (by have := zmk_z19 M h; omega) (by have := zmk_z19 M h; omega) (by decide))
  have p21 : zPr 93 31 (zmk_14 M) (zmk_21 M) := p20.tr (zPr.al (t := 1) (n := 80) (by have := zmk_z20 M h; omega) (by have := zmk_z20 M h; omega) (by decide))
  have p22 : zPr 93 31 (zmk_14 M) (zmk_22 M) := p21.tr (zPr.al (t := 2) (n := 8) (by have := zmk_z21 M h; omega) (by have := zmk_z21 M h; omega) (by decide))
  have p23 : zPr 93 31 (zmk_14 M) (zmk_23 M) := p22.tr (zPr.al (t := 2) (n := 512) (by have := zmk_z22 M h; omega) (by have := zmk_z22 M h; omega) (by decide))
  have p24 : zPr 93 31 (zmk_14 M) (zmk_24 M) := p23.tr (zPr.al (t := 2) (n := 8) (by have := zmk_z23 M h; omega) (by have := zmk_z23 M h; omega) (by decide))
  have p25 : zPr 93 31 (zmk_14 M) (zmk_25 M) := p24.tr (zPr.al (t := 2) (n := 512) (by have := zmk_z24 M h; omega) (by have := zmk_z24 M h; omega) (by decide))
  have p26 : zPr 93 31 (zmk_14 M) (zmk_26 M) := p25.tr (zPr.al (t := 2) (n := 64) (by have := zmk_z25 M h; omega) (by have := zmk_z25 M h; omega) (by decide))
  have p27 : zPr 93 31 (zmk_14 M) (zmk_27 M) := p26.tr (zPr.al (t := 1) (n := 128) (by have := zmk_z26 M h; omega) (by have := zmk_z26 M h; omega) (by decide))
  have p28 : zPr 93 31 (zmk_14 M) (zmk_28 M) := p27.tr (zPr.al (t := 2) (n := 64) (by have := zmk_z27 M h; omega) (by have := zmk_z27 M h; omega) (by decide))
  have p29 : zPr 93 31 (zmk_14 M) (zmk_29 M) := p28.tr (zPr.al (t := 2) (n := 64) (by have := zmk_z28 M h; omega) (by have := zmk_z28 M h; omega) (by decide))
  have p30 : zPr 93 31 (zmk_14 M) (zmk_30 M) := p29.tr (zPr.al (t := 1) (n := 24) (by have := zmk_z29 M h; omega) (by have := zmk_z29 M h; omega) (by decide))
  have p31 : zPr 93 31 (zmk_14 M) (zmk_31 M) := p30.tr (zPr.al (t := 1) (n := 65536) (by have := zmk_z30 M h; omega) (by have := zmk_z30 M h; omega) (by decide))
  have p32 : zPr 93 31 (zmk_14 M) (zmk_32 M) := p31.tr (zPr.al (t := 2) (n := 768) (by have := zmk_z31 M h; omega) (by have := zmk_z31 M h; omega) (by decide))
  have p33 : zPr 93 31 (zmk_14 M) (zmk_33 M) := p32.tr (zPr.al (t := 1) (n := 6) (by have := zmk_z32 M h; omega) (by have := zmk_z32 M h; omega) (by decide))
  have p34 : zPr 93 31 (zmk_14 M) (zmk_34 M) := p33.tr (zPr.al (t := 1) (n := 7) (by have := zmk_z33 M h; omega) (by have := zmk_z33 M h; omega) (by decide))
  have p35 : zPr 93 31 (zmk_14 M) (zmk_35 M) := p34.tr (zPr.i (by decide))
  exact ⟨p35.2.1.trans b1, p35.1.trans b2, p35.2.2.1.trans b3.1, p35.2.2.2.trans b3.2⟩
theorem zmk_a94 (M : zMem) (h : zn M = 82) : zf (zmk M) 81 32 = some 94 ∧ zsh (zmk M) 94 = (1, 1536) ∧ zi (zmk M) 94 = (fun _ => 0) ∧ zj (zmk M) 94 = (fun _ => 0) := by
  have hz : zn (zmk_14 M) = 94 := (zmk_z14 M h)
  have b1 : zf (zmk_15 M) 81 32 = some (zn (zmk_14 M)) := zsF_s (zal (zmk_14 M) 1 1536) 81 32 (some (zn (zmk_14 M)))
  have b2 : zsh (zmk_15 M) (zn (zmk_14 M)) = (1, 1536) := zal_sh (M := (zmk_14 M)) (t := 1) (n := 1536)
  have b3 : zi (zmk_15 M) (zn (zmk_14 M)) = (fun _ => 0) ∧ zj (zmk_15 M) (zn (zmk_14 M)) = (fun _ => 0) := zal_new (M := (zmk_14 M)) (t := 1) (n := 1536)
  rw [hz] at b1 b2 b3
  have p16 : zPr 94 32 (zmk_15 M) (zmk_16 M) := zPr.al (t := 2) (n := 2560) (by have := zmk_z15 M h; omega) (by have := zmk_z15 M h; omega) (by decide)
  have p17 : zPr 94 32 (zmk_15 M) (zmk_17 M) := p16.tr (zPr.al (t := 2) (n := 64) (by have := zmk_z16 M h; omega) (by have := zmk_z16 M h; omega) (by decide))
  have p18 : zPr 94 32 (zmk_15 M) (zmk_18 M) := p17.tr (zPr.al (t := 2) (n := 64) (by have := zmk_z17 M h; omega) (by have := zmk_z17 M h; omega) (by decide))
  have p19 : zPr 94 32 (zmk_15 M) (zmk_19 M) := p18.tr (zPr.al (t := 2) (n := 64) (by have := zmk_z18 M h; omega) (by have := zmk_z18 M h; omega) (by decide))
  have p20 : zPr 94 32 (zmk_15 M) (zmk_20 M) := p19.tr (zPr.al (t := 2) (n := 64) (by have := zmk_z19 M h; omega) (by have := zmk_z19 M h; omega) (by decide))
  have p21 : zPr 94 32 (zmk_15 M) (zmk_21 M) := p20.tr (zPr.al (t := 1) (n := 80) (by have := zmk_z20 M h; omega) (by have := zmk_z20 M h; omega) (by decide))
  have p22 : zPr 94 32 (zmk_15 M) (zmk_22 M) := p21.tr (zPr.al (t := 2) (n := 8) (by have := zmk_z21 M h; omega) (by have := zmk_z21 M h; omega) (by decide))
  have p23 : zPr 94 32 (zmk_15 M) (zmk_23 M) := p22.tr (zPr.al (t := 2) (n := 512) (by have := zmk_z22 M h; omega) (by have := zmk_z22 M h; omega) (by decide))
  have p24 : zPr 94 32 (zmk_15 M) (zmk_24 M) := p23.tr (zPr.al (t := 2) (n := 8) (by have := zmk_z23 M h; omega) (by have := zmk_z23 M h; omega) (by decide))
  have p25 : zPr 94 32 (zmk_15 M) (zmk_25 M) := p24.tr (zPr.al (t := 2) (n := 512) (by have := zmk_z24 M h; omega) (by have := zmk_z24 M h; omega) (by decide))
  have p26 : zPr 94 32 (zmk_15 M) (zmk_26 M) := p25.tr (zPr.al (t := 2) (n := 64) (by have := zmk_z25 M h; omega) (by have := zmk_z25 M h; omega) (by decide))
  have p27 : zPr 94 32 (zmk_15 M) (zmk_27 M) := p26.tr (zPr.al (t := 1) (n := 128) (by have := zmk_z26 M h; omega) (by have := zmk_z26 M h; omega) (by decide))
  have p28 : zPr 94 32 (zmk_15 M) (zmk_28 M) := p27.tr (zPr.al (t := 2) (n := 64) (by have := zmk_z27 M h; omega) (by have := zmk_z27 M h; omega) (by decide))
  have p29 : zPr 94 32 (zmk_15 M) (zmk_29 M) := p28.tr (zPr.al (t := 2) (n := 64) (by have := zmk_z28 M h; omega) (by have := zmk_z28 M h; omega) (by decide))
  have p30 : zPr 94 32 (zmk_15 M) (zmk_30 M) := p29.tr (zPr.al (t := 1) (n := 24) (by have := zmk_z29 M h; omega) (by have := zmk_z29 M h; omega) (by decide))
  have p31 : zPr 94 32 (zmk_15 M) (zmk_31 M) := p30.tr (zPr.al (t := 1) (n := 65536) (by have := zmk_z30 M h; omega) (by have := zmk_z30 M h; omega) (by decide))
  have p32 : zPr 94 32 (zmk_15 M) (zmk_32 M) := p31.tr (zPr.al (t := 2) (n := 768) (by have := zmk_z31 M h; omega) (by have := zmk_z31 M h; omega) (by decide))
  have p33 : zPr 94 32 (zmk_15 M) (zmk_33 M) := p32.tr (zPr.al (t := 1) (n := 6) (by have := zmk_z32 M h; omega) (by have := zmk_z32 M h; omega) (by decide))
  have p34 : zPr 94 32 (zmk_15 M) (zmk_34 M) := p33.tr (zPr.al (t := 1) (n := 7) (by have := zmk_z33 M h; omega) (by have := zmk_z33 M h; omega) (by decide))
  have p35 : zPr 94 32 (zmk_15 M) (zmk_35 M) := p34.tr (zPr.i (by decide))
  exact ⟨p35.2.1.trans b1, p35.1.trans b2, p35.2.2.1.trans b3.1, p35.2.2.2.trans b3.2⟩
theorem zmk_a95 (M : zMem) (h : zn M = 82) : zf (zmk M) 81 33 = some 95 ∧ zsh (zmk M) 95 = (2, 2560) ∧ zi (zmk M) 95 = (fun _ => 0) ∧ zj (zmk M) 95 = (fun _ => 0) := by
  have hz : zn (zmk_15 M) = 95 := (zmk_z15 M h)
  have b1 : zf (zmk_16 M) 81 33 = some (zn (zmk_15 M)) := zsF_s (zal (zmk_15 M) 2 2560) 81 33 (some (zn (zmk_15 M)))
  have b2 : zsh (zmk_16 M) (zn (zmk_15 M)) = (2, 2560) := zal_sh (M := (zmk_15 M)) (t := 2) (n := 2560)
  have b3 : zi (zmk_16 M) (zn (zmk_15 M)) = (fun _ => 0) ∧ zj (zmk_16 M) (zn (zmk_15 M)) = (fun _ => 0) := zal_new (M := (zmk_15 M)) (t := 2) (n := 2560)
  rw [hz] at b1 b2 b3
  have p17 : zPr 95 33 (zmk_16 M) (zmk_17 M) := zPr.al (t := 2) (n := 64) (by have := zmk_z16 M h; omega) (by have := zmk_z16 M h; omega) (by decide)
  have p18 : zPr 95 33 (zmk_16 M) (zmk_18 M) := p17.tr (zPr.al (t := 2) (n := 64) (by have := zmk_z17 M h; omega) (by have := zmk_z17 M h; omega) (by decide))
  have p19 : zPr 95 33 (zmk_16 M) (zmk_19 M) := p18.tr (zPr.al (t := 2) (n := 64) (by have := zmk_z18 M h; omega) (by have := zmk_z18 M h; omega) (by decide))
  have p20 : zPr 95 33 (zmk_16 M) (zmk_20 M) := p19.tr (zPr.al (t := 2) (n := 64) (by have := zmk_z19 M h; omega) (by have := zmk_z19 M h; omega) (by decide))
  have p21 : zPr 95 33 (zmk_16 M) (zmk_21 M) := p20.tr (zPr.al (t := 1) (n := 80) (by have := zmk_z20 M h; omega) (by have := zmk_z20 M h; omega) (by decide))
  have p22 : zPr 95 33 (zmk_16 M) (zmk_22 M) := p21.tr (zPr.al (t := 2) (n := 8) (by have := zmk_z21 M h; omega) (by have := zmk_z21 M h; omega) (by decide))
  have p23 : zPr 95 33 (zmk_16 M) (zmk_23 M) := p22.tr (zPr.al (t := 2) (n := 512) (by have := zmk_z22 M h; omega) (by have := zmk_z22 M h; omega) (by decide))
  have p24 : zPr 95 33 (zmk_16 M) (zmk_24 M) := p23.tr (zPr.al (t := 2) (n := 8) (by have := zmk_z23 M h; omega) (by have := zmk_z23 M h; omega) (by decide))
  have p25 : zPr 95 33 (zmk_16 M) (zmk_25 M) := p24.tr (zPr.al (t := 2) (n := 512) (by have := zmk_z24 M h; omega) (by have := zmk_z24 M h; omega) (by decide))
  have p26 : zPr 95 33 (zmk_16 M) (zmk_26 M) := p25.tr (zPr.al (t := 2) (n := 64) (by have := zmk_z25 M h; omega) (by have := zmk_z25 M h; omega) (by decide))
  have p27 : zPr 95 33 (zmk_16 M) (zmk_27 M) := p26.tr (zPr.al (t := 1) (n := 128) (by have := zmk_z26 M h; omega) (by have := zmk_z26 M h; omega) (by decide))
  have p28 : zPr 95 33 (zmk_16 M) (zmk_28 M) := p27.tr (zPr.al (t := 2) (n := 64) (by have := zmk_z27 M h; omega) (by have := zmk_z27 M h; omega) (by decide))
  have p29 : zPr 95 33 (zmk_16 M) (zmk_29 M) := p28.tr (zPr.al (t := 2) (n := 64) (by have := zmk_z28 M h; omega) (by have := zmk_z28 M h; omega) (by decide))
  have p30 : zPr 95 33 (zmk_16 M) (zmk_30 M) := p29.tr (zPr.al (t := 1) (n := 24) (by have := zmk_z29 M h; omega) (by have := zmk_z29 M h; omega) (by decide))
  have p31 : zPr 95 33 (zmk_16 M) (zmk_31 M) := p30.tr (zPr.al (t := 1) (n := 65536) (by have := zmk_z30 M h; omega) (by have := zmk_z30 M h; omega) (by decide))
  have p32 : zPr 95 33 (zmk_16 M) (zmk_32 M) := p31.tr (zPr.al (t := 2) (n := 768) (by have := zmk_z31 M h; omega) (by have := zmk_z31 M h; omega) (by decide))
  have p33 : zPr 95 33 (zmk_16 M) (zmk_33 M) := p32.tr (zPr.al (t := 1) (n := 6) (by have := zmk_z32 M h; omega) (by have := zmk_z32 M h; omega) (by decide))
  have p34 : zPr 95 33 (zmk_16 M) (zmk_34 M) := p33.tr (zPr.al (t := 1) (n := 7) (by have := zmk_z33 M h; omega) (by have := zmk_z33 M h; omega) (by decide))
  have p35 : zPr 95 33 (zmk_16 M) (zmk_35 M) := p34.tr (zPr.i (by decide))
  exact ⟨p35.2.1.trans b1, p35.1.trans b2, p35.2.2.1.trans b3.1, p35.2.2.2.trans b3.2⟩
theorem zmk_a96 (M : zMem) (h : zn M = 82) : zf (zmk M) 81 34 = some 96 ∧ zsh (zmk M) 96 = (2, 64) ∧ zi (zmk M) 96 = (fun _ => 0) ∧ zj (zmk M) 96 = (fun _ => 0) := by
  have hz : zn (zmk_16 M) = 96 := (zmk_z16 M h)
  have b1 : zf (zmk_17 M) 81 34 = some (zn (zmk_16 M)) := zsF_s (zal (zmk_16 M) 2 64) 81 34 (some (zn (zmk_16 M)))
  have b2 : zsh (zmk_17 M) (zn (zmk_16 M)) = (2, 64) := zal_sh (M := (zmk_16 M)) (t := 2) (n := 64)
  have b3 : zi (zmk_17 M) (zn (zmk_16 M)) = (fun _ => 0) ∧ zj (zmk_17 M) (zn (zmk_16 M)) = (fun _ => 0) := zal_new (M := (zmk_16 M)) (t := 2) (n := 64)
  rw [hz] at b1 b2 b3
  have p18 : zPr 96 34 (zmk_17 M) (zmk_18 M) := zPr.al (t := 2) (n := 64) (by have := zmk_z17 M h; omega) (by have := zmk_z17 M h; omega) (by decide)
  have p19 : zPr 96 34 (zmk_17 M) (zmk_19 M) := p18.tr (zPr.al (t := 2) (n := 64) (by have := zmk_z18 M h; omega) (by have := zmk_z18 M h; omega) (by decide))
  have p20 : zPr 96 34 (zmk_17 M) (zmk_20 M) := p19.tr (zPr.al (t := 2) (n := 64) (by have := zmk_z19 M h; omega) (by have := zmk_z19 M h; omega) (by decide))
  have p21 : zPr 96 34 (zmk_17 M) (zmk_21 M) := p20.tr (zPr.al (t := 1) (n := 80) (by have := zmk_z20 M h; omega) (by have := zmk_z20 M h; omega) (by decide))
  have p22 : zPr 96 34 (zmk_17 M) (zmk_22 M) := p21.tr (zPr.al (t := 2) (n := 8) (by have := zmk_z21 M h; omega) (by have := zmk_z21 M h; omega) (by decide))
  have p23 : zPr 96 34 (zmk_17 M) (zmk_23 M) := p22.tr (zPr.al (t := 2) (n := 512) (by have := zmk_z22 M h; omega) (by have := zmk_z22 M h; omega) (by decide))
  have p24 : zPr 96 34 (zmk_17 M) (zmk_24 M) := p23.tr (zPr.al (t := 2) (n := 8) (by have := zmk_z23 M h; omega) (by have := zmk_z23 M h; omega) (by decide))
  have p25 : zPr 96 34 (zmk_17 M) (zmk_25 M) := p24.tr (zPr.al (t := 2) (n := 512) (by have := zmk_z24 M h; omega) (by have := zmk_z24 M h; omega) (by decide))
  have p26 : zPr 96 34 (zmk_17 M) (zmk_26 M) := p25.tr (zPr.al (t := 2) (n := 64) (by have := zmk_z25 M h; omega) (by have := zmk_z25 M h; omega) (by decide))
  have p27 : zPr 96 34 (zmk_17 M) (zmk_27 M) := p26.tr (zPr.al (t := 1) (n := 128) (by have := zmk_z26 M h; omega) (by have := zmk_z26 M h; omega) (by decide))
  have p28 : zPr 96 34 (zmk_17 M) (zmk_28 M) := p27.tr (zPr.al (t := 2) (n := 64) (by have := zmk_z27 M h; omega) (by have := zmk_z27 M h; omega) (by decide))
  have p29 : zPr 96 34 (zmk_17 M) (zmk_29 M) := p28.tr (zPr.al (t := 2) (n := 64) (by have := zmk_z28 M h; omega) (by have := zmk_z28 M h; omega) (by decide))
  have p30 : zPr 96 34 (zmk_17 M) (zmk_30 M) := p29.tr (zPr.al (t := 1) (n := 24) (by have := zmk_z29 M h; omega) (by have := zmk_z29 M h; omega) (by decide))
  have p31 : zPr 96 34 (zmk_17 M) (zmk_31 M) := p30.tr (zPr.al (t := 1) (n := 65536) (by have := zmk_z30 M h; omega) (by have := zmk_z30 M h; omega) (by decide))
  have p32 : zPr 96 34 (zmk_17 M) (zmk_32 M) := p31.tr (zPr.al (t := 2) (n := 768) (by have := zmk_z31 M h; omega) (by have := zmk_z31 M h; omega) (by decide))
  have p33 : zPr 96 34 (zmk_17 M) (zmk_33 M) := p32.tr (zPr.al (t := 1) (n := 6) (by have := zmk_z32 M h; omega) (by have := zmk_z32 M h; omega) (by decide))
  have p34 : zPr 96 34 (zmk_17 M) (zmk_34 M) := p33.tr (zPr.al (t := 1) (n := 7) (by have := zmk_z33 M h; omega) (by have := zmk_z33 M h; omega) (by decide))
  have p35 : zPr 96 34 (zmk_17 M) (zmk_35 M) := p34.tr (zPr.i (by decide))
  exact ⟨p35.2.1.trans b1, p35.1.trans b2, p35.2.2.1.trans b3.1, p35.2.2.2.trans b3.2⟩
theorem zmk_a97 (M : zMem) (h : zn M = 82) : zf (zmk M) 81 35 = some 97 ∧ zsh (zmk M) 97 = (2, 64) ∧ zi (zmk M) 97 = (fun _ => 0) ∧ zj (zmk M) 97 = (fun _ => 0) := by
  have hz : zn (zmk_17 M) = 97 := (zmk_z17 M h)
  have b1 : zf (zmk_18 M) 81 35 = some (zn (zmk_17 M)) := zsF_s (zal (zmk_17 M) 2 64) 81 35 (some (zn (zmk_17 M)))
  have b2 : zsh (zmk_18 M) (zn (zmk_17 M)) = (2, 64) := zal_sh (M := (zmk_17 M)) (t := 2) (n := 64)
  have b3 : zi (zmk_18 M) (zn (zmk_17 M)) = (fun _ => 0) ∧ zj (zmk_18 M) (zn (zmk_17 M)) = (fun _ => 0) := zal_new (M := (zmk_17 M)) (t := 2) (n := 64)
  rw [hz] at b1 b2 b3
  have p19 : zPr 97 35 (zmk_18 M) (zmk_19 M) := zPr.al (t := 2) (n := 64) (by have := zmk_z18 M h; omega) (by have := zmk_z18 M h; omega) (by decide)
  have p20 : zPr 97 35 (zmk_18 M) (zmk_20 M) := p19.tr (zPr.al (t := 2) (n := 64) (by have := zmk_z19 M h; omega) (by have := zmk_z19 M h; omega) (by decide))
  have p21 : zPr 97 35 (zmk_18 M) (zmk_21 M) := p20.tr (zPr.al (t := 1) (n := 80) (by have := zmk_z20 M h; omega) (by have := zmk_z20 M h; omega) (by decide))
  have p22 : zPr 97 35 (zmk_18 M) (zmk_22 M) := p21.tr (zPr.al (t := 2) (n := 8) (by have := zmk_z21 M h; omega) (by have := zmk_z21 M h; omega) (by decide))
  have p23 : zPr 97 35 (zmk_18 M) (zmk_23 M) := p22.tr (zPr.al (t := 2) (n := 512) (by have := zmk_z22 M h; omega) (by have := zmk_z22 M h; omega) (by decide))
  have p24 : zPr 97 35 (zmk_18 M) (zmk_24 M) := p23.tr (zPr.al (t := 2) (n := 8) (by have := zmk_z23 M h; omega) (by have := zmk_z23 M h; omega) (by decide))
  have p25 : zPr 97 35 (zmk_18 M) (zmk_25 M) := p24.tr (zPr.al (t := 2) (n := 512) (by have := zmk_z24 M h; omega) (by have := zmk_z24 M h; omega) (by decide))
  have p26 : zPr 97 35 (zmk_18 M) (zmk_26 M) := p25.tr (zPr.al (t := 2) (n := 64) (by have := zmk_z25 M h; omega) (by have := zmk_z25 M h; omega) (by decide))
  have p27 : zPr 97 35 (zmk_18 M) (zmk_27 M) := p26.tr (zPr.al (t := 1) (n := 128) (by have := zmk_z26 M h; omega) (by have := zmk_z26 M h; omega) (by decide))
  have p28 : zPr 97 35 (zmk_18 M) (zmk_28 M) := p27.tr (zPr.al (t := 2) (n := 64) (by have := zmk_z27 M h; omega) (by have := zmk_z27 M h; omega) (by decide))
  have p29 : zPr 97 35 (zmk_18 M) (zmk_29 M) := p28.tr (zPr.al (t := 2) (n := 64) (by have := zmk_z28 M h; omega) (by have := zmk_z28 M h; omega) (by decide))
  have p30 : zPr 97 35 (zmk_18 M) (zmk_30 M) := p29.tr (zPr.al (t := 1) (n := 24) (by have := zmk_z29 M h; omega) (by have := zmk_z29 M h; omega) (by decide))
  have p31 : zPr 97 35 (zmk_18 M) (zmk_31 M) := p30.tr (zPr.al (t := 1) (n := 65536) (by have := zmk_z30 M h; omega) (by have := zmk_z30 M h; omega) (by decide))
  have p32 : zPr 97 35 (zmk_18 M) (zmk_32 M) := p31.tr (zPr.al (t := 2) (n := 768) (by have := zmk_z31 M h; omega) (by have := zmk_z31 M h; omega) (by decide))
  have p33 : zPr 97 35 (zmk_18 M) (zmk_33 M) := p32.tr (zPr.al (t := 1) (n := 6) (by have := zmk_z32 M h; omega) (by have := zmk_z32 M h; omega) (by decide))
  have p34 : zPr 97 35 (zmk_18 M) (zmk_34 M) := p33.tr (zPr.al (t := 1) (n := 7) (by have := zmk_z33 M h; omega) (by have := zmk_z33 M h; omega) (by decide))
  have p35 : zPr 97 35 (zmk_18 M) (zmk_35 M) := p34.tr (zPr.i (by decide))
  exact ⟨p35.2.1.trans b1, p35.1.trans b2, p35.2.2.1.trans b3.1, p35.2.2.2.trans b3.2⟩
theorem zmk_a98 (M : zMem) (h : zn M = 82) : zf (zmk M) 81 36 = some 98 ∧ zsh (zmk M) 98 = (2, 64) ∧ zi (zmk M) 98 = (fun _ => 0) ∧ zj (zmk M) 98 = (fun _ => 0) := by
  have hz : zn (zmk_18 M) = 98 := (zmk_z18 M h)
  have b1 : zf (zmk_19 M) 81 36 = some (zn (zmk_18 M)) := zsF_s (zal (zmk_18 M) 2 64) 81 36 (some (zn (zmk_18 M)))
  have b2 : zsh (zmk_19 M) (zn (zmk_18 M)) = (2, 64) := zal_sh (M := (zmk_18 M)) (t := 2) (n := 64)
  have b3 : zi (zmk_19 M) (zn (zmk_18 M)) = (fun _ => 0) ∧ zj (zmk_19 M) (zn (zmk_18 M)) = (fun _ => 0) := zal_new (M := (zmk_18 M)) (t := 2) (n := 64)
  rw [hz] at b1 b2 b3
  have p20 : zPr 98 36 (zmk_19 M) (zmk_20 M) := zPr.al (t := 2) (n := 64) (by have := zmk_z19 M h; omega) (by have := zmk_z19 M h; omega) (by decide)
  have p21 : zPr 98 36 (zmk_19 M) (zmk_21 M) := p20.tr (zPr.al (t := 1) (n := 80) (by have := zmk_z20 M h; omega) (by have := zmk_z20 M h; omega) (by decide))
  have p22 : zPr 98 36 (zmk_19 M) (zmk_22 M) := p21.tr (zPr.al (t := 2) (n := 8) (by have := zmk_z21 M h; omega) (by have := zmk_z21 M h; omega) (by decide))
  have p23 : zPr 98 36 (zmk_19 M) (zmk_23 M) := p22.tr (zPr.al (t := 2) (n := 512) (by have := zmk_z22 M h; omega) (by have := zmk_z22 M h; omega) (by decide))
  have p24 : zPr 98 36 (zmk_19 M) (zmk_24 M) := p23.tr (zPr.al (t := 2) (n := 8) (by have := zmk_z23 M h; omega) (by have := zmk_z23 M h; omega) (by decide))
  have p25 : zPr 98 36 (zmk_19 M) (zmk_25 M) := p24.tr (zPr.al (t := 2) (n := 512) (by have := zmk_z24 M h; omega) (by have := zmk_z24 M h; omega) (by decide))
  have p26 : zPr 98 36 (zmk_19 M) (zmk_26 M) := p25.tr (zPr.al (t := 2) (n := 64) (by have := zmk_z25 M h; omega) (by have := zmk_z25 M h; omega) (by decide))
  have p27 : zPr 98 36 (zmk_19 M) (zmk_27 M) := p26.tr (zPr.al (t := 1) (n := 128) (by have := zmk_z26 M h; omega) (by have := zmk_z26 M h; omega) (by decide))
  have p28 : zPr 98 36 (zmk_19 M) (zmk_28 M) := p27.tr (zPr.al (t := 2) (n := 64) (by have := zmk_z27 M h; omega) (by have := zmk_z27 M h; omega) (by decide))
  have p29 : zPr 98 36 (zmk_19 M) (zmk_29 M) := p28.tr (zPr.al (t := 2) (n := 64) (by have := zmk_z28 M h; omega) (by have := zmk_z28 M h; omega) (by decide))
  have p30 : zPr 98 36 (zmk_19 M) (zmk_30 M) := p29.tr (zPr.al (t := 1) (n := 24) (by have := zmk_z29 M h; omega) (by have := zmk_z29 M h; omega) (by decide))
  have p31 : zPr 98 36 (zmk_19 M) (zmk_31 M) := p30.tr (zPr.al (t := 1) (n := 65536) (by have := zmk_z30 M h; omega) (by have := zmk_z30 M h; omega) (by decide))
  have p32 : zPr 98 36 (zmk_19 M) (zmk_32 M) := p31.tr (zPr.al (t := 2) (n := 768) (by have := zmk_z31 M h; omega) (by have := zmk_z31 M h; omega) (by decide))
  have p33 : zPr 98 36 (zmk_19 M) (zmk_33 M) := p32.tr (zPr.al (t := 1) (n := 6) (by have := zmk_z32 M h; omega) (by have := zmk_z32 M h; omega) (by decide))
  have p34 : zPr 98 36 (zmk_19 M) (zmk_34 M) := p33.tr (zPr.al (t := 1) (n := 7) (by have := zmk_z33 M h; omega) (by have := zmk_z33 M h; omega) (by decide))
  have p35 : zPr 98 36 (zmk_19 M) (zmk_35 M) := p34.tr (zPr.i (by decide))
  exact ⟨p35.2.1.trans b1, p35.1.trans b2, p35.2.2.1.trans b3.1, p35.2.2.2.trans b3.2⟩
theorem zmk_a99 (M : zMem) (h : zn M = 82) : zf (zmk M) 81 37 = some 99 ∧ zsh (zmk M) 99 = (2, 64) ∧ zi (zmk M) 99 = (fun _ => 0) ∧ zj (zmk M) 99 = (fun _ => 0) := by
  have hz : zn (zmk_19 M) = 99 := (zmk_z19 M h)
  have b1 : zf (zmk_20 M) 81 37 = some (zn (zmk_19 M)) := zsF_s (zal (zmk_19 M) 2 64) 81 37 (some (zn (zmk_19 M)))
  have b2 : zsh (zmk_20 M) (zn (zmk_19 M)) = (2, 64) := zal_sh (M := (zmk_19 M)) (t := 2) (n := 64)
  have b3 : zi (zmk_20 M) (zn (zmk_19 M)) = (fun _ => 0) ∧ zj (zmk_20 M) (zn (zmk_19 M)) = (fun _ => 0) := zal_new (M := (zmk_19 M)) (t := 2) (n := 64)
  rw [hz] at b1 b2 b3
  have p21 : zPr 99 37 (zmk_20 M) (zmk_21 M) := zPr.al (t := 1) (n := 80) (by have := zmk_z20 M h; omega) (by have := zmk_z20 M h; omega) (by decide)
  have p22 : zPr 99 37 (zmk_20 M) (zmk_22 M) := p21.tr (zPr.al (t := 2) (n := 8) (by have := zmk_z21 M h; omega) (by have := zmk_z21 M h; omega) (by decide))
  have p23 : zPr 99 37 (zmk_20 M) (zmk_23 M) := p22.tr (zPr.al (t := 2) (n := 512) (by have := zmk_z22 M h; omega) (by have := zmk_z22 M h; omega) (by decide))
  have p24 : zPr 99 37 (zmk_20 M) (zmk_24 M) := p23.tr (zPr.al (t := 2) (n := 8) (by have := zmk_z23 M h; omega) (by have := zmk_z23 M h; omega) (by decide))
  have p25 : zPr 99 37 (zmk_20 M) (zmk_25 M) := p24.tr (zPr.al (t := 2) (n := 512) (by have := zmk_z24 M h; omega) (by have := zmk_z24 M h; omega) (by decide))
  have p26 : zPr 99 37 (zmk_20 M) (zmk_26 M) := p25.tr (zPr.al (t := 2) (n := 64) (by have := zmk_z25 M h; omega) (by have := zmk_z25 M h; omega) (by decide))
  have p27 : zPr 99 37 (zmk_20 M) (zmk_27 M) := p26.tr (zPr.al (t := 1) (n := 128) (by have := zmk_z26 M h; omega) (by have := zmk_z26 M h; omega) (by decide))
  have p28 : zPr 99 37 (zmk_20 M) (zmk_28 M) := p27.tr (zPr.al (t := 2) (n := 64) (by have := zmk_z27 M h; omega) (by have := zmk_z27 M h; omega) (by decide))
  have p29 : zPr 99 37 (zmk_20 M) (zmk_29 M) := p28.tr (zPr.al (t := 2) (n := 64) (by have := zmk_z28 M h; omega) (by have := zmk_z28 M h; omega) (by decide))
  have p30 : zPr 99 37 (zmk_20 M) (zmk_30 M) := p29.tr (zPr.al (t := 1) (n := 24) (by have := zmk_z29 M h; omega) (by have := zmk_z29 M h; omega) (by decide))
  have p31 : zPr 99 37 (zmk_20 M) (zmk_31 M) := p30.tr (zPr.al (t := 1) (n := 65536) (by have := zmk_z30 M h; omega) (by have := zmk_z30 M h; omega) (by decide))
  have p32 : zPr 99 37 (zmk_20 M) (zmk_32 M) := p31.tr (zPr.al (t := 2) (n := 768) (by have := zmk_z31 M h; omega) (by have := zmk_z31 M h; omega) (by decide))
  have p33 : zPr 99 37 (zmk_20 M) (zmk_33 M) := p32.tr (zPr.al (t := 1) (n := 6) (by have := zmk_z32 M h; omega) (by have := zmk_z32 M h; omega) (by decide))
  have p34 : zPr 99 37 (zmk_20 M) (zmk_34 M) := p33.tr (zPr.al (t := 1) (n := 7) (by have := zmk_z33 M h; omega) (by have := zmk_z33 M h; omega) (by decide))
  have p35 : zPr 99 37 (zmk_20 M) (zmk_35 M) := p34.tr (zPr.i (by decide))
  exact ⟨p35.2.1.trans b1, p35.1.trans b2, p35.2.2.1.trans b3.1, p35.2.2.2.trans b3.2⟩
theorem zmk_a100 (M : zMem) (h : zn M = 82) : zf (zmk M) 81 40 = some 100 ∧ zsh (zmk M) 100 = (1, 80) ∧ zi (zmk M) 100 = (fun _ => 0) ∧ zj (zmk M) 100 = (fun _ => 0) := by
  have hz : zn (zmk_20 M) = 100 := (zmk_z20 M h)
  have b1 : zf (zmk_21 M) 81 40 = some (zn (zmk_20 M)) := zsF_s (zal (zmk_20 M) 1 80) 81 40 (some (zn (zmk_20 M)))
  have b2 : zsh (zmk_21 M) (zn (zmk_20 M)) = (1, 80) := zal_sh (M := (zmk_20 M)) (t := 1) (n := 80)
  have b3 : zi (zmk_21 M) (zn (zmk_20 M)) = (fun _ => 0) ∧ zj (zmk_21 M) (zn (zmk_20 M)) = (fun _ => 0) := zal_new (M := (zmk_20 M)) (t := 1) (n := 80)
  rw [hz] at b1 b2 b3
  have p22 : zPr 100 40 (zmk_21 M) (zmk_22 M) := zPr.al (t := 2) (n := 8) (by have := zmk_z21 M h; omega) (by have := zmk_z21 M h; omega) (by decide)
  have p23 : zPr 100 40 (zmk_21 M) (zmk_23 M) := p22.tr (zPr.al (t := 2) (n := 512) (by have := zmk_z22 M h; omega) (by have := zmk_z22 M h; omega) (by decide))
  have p24 : zPr 100 40 (zmk_21 M) (zmk_24 M) := p23.tr (zPr.al (t := 2) (n := 8) (by have := zmk_z23 M h; omega) (by have := zmk_z23 M h; omega) (by decide))
  have p25 : zPr 100 40 (zmk_21 M) (zmk_25 M) := p24.tr (zPr.al (t := 2) (n := 512) (by have := zmk_z24 M h; omega) (by have := zmk_z24 M h; omega) (by decide))
  have p26 : zPr 100 40 (zmk_21 M) (zmk_26 M) := p25.tr (zPr.al (t := 2) (n := 64) (by have := zmk_z25 M h; omega) (by have := zmk_z25 M h; omega) (by decide))
  have p27 : zPr 100 40 (zmk_21 M) (zmk_27 M) := p26.tr (zPr.al (t := 1) (n := 128) (by have := zmk_z26 M h; omega) (by have := zmk_z26 M h; omega) (by decide))
  have p28 : zPr 100 40 (zmk_21 M) (zmk_28 M) := p27.tr (zPr.al (t := 2) (n := 64) (by have := zmk_z27 M h; omega) (by have := zmk_z27 M h; omega) (by decide))
  have p29 : zPr 100 40 (zmk_21 M) (zmk_29 M) := p28.tr (zPr.al (t := 2) (n := 64) (by have := zmk_z28 M h; omega) (by have := zmk_z28 M h; omega) (by decide))
  have p30 : zPr 100 40 (zmk_21 M) (zmk_30 M) := p29.tr (zPr.al (t := 1) (n := 24) (by have := zmk_z29 M h; omega) (by have := zmk_z29 M h; omega) (by decide))
  have p31 : zPr 100 40 (zmk_21 M) (zmk_31 M) := p30.tr (zPr.al (t := 1) (n := 65536) (by have := zmk_z30 M h; omega) (by have := zmk_z30 M h; omega) (by decide))
  have p32 : zPr 100 40 (zmk_21 M) (zmk_32 M) := p31.tr (zPr.al (t := 2) (n := 768) (by have := zmk_z31 M h; omega) (by have := zmk_z31 M h; omega) (by decide))
  have p33 : zPr 100 40 (zmk_21 M) (zmk_33 M) := p32.tr (zPr.al (t := 1) (n := 6) (by have := zmk_z32 M h; omega) (by have := zmk_z32 M h; omega) (by decide))
  have p34 : zPr 100 40 (zmk_21 M) (zmk_34 M) := p33.tr (zPr.al (t := 1) (n := 7) (by have := zmk_z33 M h; omega) (by have := zmk_z33 M h; omega) (by decide))
  have p35 : zPr 100 40 (zmk_21 M) (zmk_35 M) := p34.tr (zPr.i (by decide))
  exact ⟨p35.2.1.trans b1, p35.1.trans b2, p35.2.2.1.trans b3.1, p35.2.2.2.trans b3.2⟩
theorem zmk_a101 (M : zMem) (h : zn M = 82) : zf (zmk M) 81 44 = some 101 ∧ zsh (zmk M) 101 = (2, 8) ∧ zi (zmk M) 101 = (fun _ => 0) ∧ zj (zmk M) 101 = (fun _ => 0) := by
  have hz : zn (zmk_21 M) = 101 := (zmk_z21 M h)
  have b1 : zf (zmk_22 M) 81 44 = some (zn (zmk_21 M)) := zsF_s (zal (zmk_21 M) 2 8) 81 44 (some (zn (zmk_21 M)))
  have b2 : zsh (zmk_22 M) (zn (zmk_21 M)) = (2, 8) := zal_sh (M := (zmk_21 M)) (t := 2) (n := 8)
  have b3 : zi (zmk_22 M) (zn (zmk_21 M)) = (fun _ => 0) ∧ zj (zmk_22 M) (zn (zmk_21 M)) = (fun _ => 0) := zal_new (M := (zmk_21 M)) (t := 2) (n := 8)
  rw [hz] at b1 b2 b3
  have p23 : zPr 101 44 (zmk_22 M) (zmk_23 M) := zPr.al (t := 2) (n := 512) (by have := zmk_z22 M h; omega) (by have := zmk_z22 M h; omega) (by decide)
  have p24 : zPr 101 44 (zmk_22 M) (zmk_24 M) := p23.tr (zPr.al (t := 2) (n := 8) (by have := zmk_z23 M h; omega) (by have := zmk_z23 M h; omega) (by decide))
  have p25 : zPr 101 44 (zmk_22 M) (zmk_25 M) := p24.tr (zPr.al (t := 2) (n := 512) (by have := zmk_z24 M h; omega) (by have := zmk_z24 M h; omega) (by decide))
  have p26 : zPr 101 44 (zmk_22 M) (zmk_26 M) := p25.tr (zPr.al (t := 2) (n := 64) (by have := zmk_z25 M h; omega) (by have := zmk_z25 M h; omega) (by decide))
  have p27 : zPr 101 44 (zmk_22 M) (zmk_27 M) := p26.tr (zPr.al (t := 1) (n := 128) (by have := zmk_z26 M h; omega) (by have := zmk_z26 M h; omega) (by decide))
  have p28 : zPr 101 44 (zmk_22 M) (zmk_28 M) := p27.tr (zPr.al (t := 2) (n := 64) (by have := zmk_z27 M h; omega) (by have := zmk_z27 M h; omega) (by decide))
  have p29 : zPr 101 44 (zmk_22 M) (zmk_29 M) := p28.tr (zPr.al (t := 2) (n := 64) (by have := zmk_z28 M h; omega) (by have := zmk_z28 M h; omega) (by decide))
  have p30 : zPr 101 44 (zmk_22 M) (zmk_30 M) := p29.tr (zPr.al (t := 1) (n := 24) (by have := zmk_z29 M h; omega) (by have := zmk_z29 M h; omega) (by decide))
  have p31 : zPr 101 44 (zmk_22 M) (zmk_31 M) := p30.tr (zPr.al (t := 1) (n := 65536) (by have := zmk_z30 M h; omega) (by have := zmk_z30 M h; omega) (by decide))
  have p32 : zPr 101 44 (zmk_22 M) (zmk_32 M) := p31.tr (zPr.al (t := 2) (n := 768) (by have := zmk_z31 M h; omega) (by have := zmk_z31 M h; omega) (by decide))
  have p33 : zPr 101 44 (zmk_22 M) (zmk_33 M) := p32.tr (zPr.al (t := 1) (n := 6) (by have := zmk_z32 M h; omega) (by have := zmk_z32 M h; omega) (by decide))
  have p34 : zPr 101 44 (zmk_22 M) (zmk_34 M) := p33.tr (zPr.al (t := 1) (n := 7) (by have := zmk_z33 M h; omega) (by have := zmk_z33 M h; omega) (by decide))
  have p35 : zPr 101 44 (zmk_22 M) (zmk_35 M) := p34.tr (zPr.i (by decide))
  exact ⟨p35.2.1.trans b1, p35.1.trans b2, p35.2.2.1.trans b3.1, p35.2.2.2.trans b3.2⟩
theorem zmk_a102 (M : zMem) (h : zn M = 82) : zf (zmk M) 81 45 = some 102 ∧ zsh (zmk M) 102 = (2, 512) ∧ zi (zmk M) 102 = (fun _ => 0) ∧ zj (zmk M) 102 = (fun _ => 0) := by
  have hz : zn (zmk_22 M) = 102 := (zmk_z22 M h)
  have b1 : zf (zmk_23 M) 81 45 = some (zn (zmk_22 M)) := zsF_s (zal (zmk_22 M) 2 512) 81 45 (some (zn (zmk_22 M)))
  have b2 : zsh (zmk_23 M) (zn (zmk_22 M)) = (2, 512) := zal_sh (M := (zmk_22 M)) (t := 2) (n := 512)
  have b3 : zi (zmk_23 M) (zn (zmk_22 M)) = (fun _ => 0) ∧ zj (zmk_23 M) (zn (zmk_22 M)) = (fun _ => 0) := zal_new (M := (zmk_22 M)) (t := 2) (n := 512)
  rw [hz] at b1 b2 b3
  have p24 : zPr 102 45 (zmk_23 M) (zmk_24 M) := zPr.al (t := 2) (n := 8) (by have := zmk_z23 M h; omega) (by have := zmk_z23 M h; omega) (by decide)
  have p25 : zPr 102 45 (zmk_23 M) (zmk_25 M) := p24.tr (zPr.al (t := 2) (n := 512) (by have := zmk_z24 M h; omega) (by have := zmk_z24 M h; omega) (by decide))
  have p26 : zPr 102 45 (zmk_23 M) (zmk_26 M) := p25.tr (zPr.al (t := 2) (n := 64) (by have := zmk_z25 M h; omega) (by have := zmk_z25 M h; omega) (by decide))
  have p27 : zPr 102 45 (zmk_23 M) (zmk_27 M) := p26.tr (zPr.al (t := 1) (n := 128) (by have := zmk_z26 M h; omega) (by have := zmk_z26 M h; omega) (by decide))
  have p28 : zPr 102 45 (zmk_23 M) (zmk_28 M) := p27.tr (zPr.al (t := 2) (n := 64) (by have := zmk_z27 M h; omega) (by have := zmk_z27 M h; omega) (by decide))
  have p29 : zPr 102 45 (zmk_23 M) (zmk_29 M) := p28.tr (zPr.al (t := 2) (n := 64) (by have := zmk_z28 M h; omega) (by have := zmk_z28 M h; omega) (by decide))
  have p30 : zPr 102 45 (zmk_23 M) (zmk_30 M) := p29.tr (zPr.al (t := 1) (n := 24) (by have := zmk_z29 M h; omega) (by have := zmk_z29 M h; omega) (by decide))
  have p31 : zPr 102 45 (zmk_23 M) (zmk_31 M) := p30.tr (zPr.al (t := 1) (n := 65536) (by have := zmk_z30 M h; omega) (by have := zmk_z30 M h; omega) (by decide))
  have p32 : zPr 102 45 (zmk_23 M) (zmk_32 M) := p31.tr (zPr.al (t := 2) (n := 768) (by have := zmk_z31 M h; omega) (by have := zmk_z31 M h; omega) (by decide))
  have p33 : zPr 102 45 (zmk_23 M) (zmk_33 M) := p32.tr (zPr.al (t := 1) (n := 6) (by have := zmk_z32 M h; omega) (by have := zmk_z32 M h; omega) (by decide))
  have p34 : zPr 102 45 (zmk_23 M) (zmk_34 M) := p33.tr (zPr.al (t := 1) (n := 7) (by have := zmk_z33 M h; omega) (by have := zmk_z33 M h; omega) (by decide))
  have p35 : zPr 102 45 (zmk_23 M) (zmk_35 M) := p34.tr (zPr.i (by decide))
  exact ⟨p35.2.1.trans b1, p35.1.trans b2, p35.2.2.1.trans b3.1, p35.2.2.2.trans b3.2⟩
theorem zmk_a103 (M : zMem) (h : zn M = 82) : zf (zmk M) 81 46 = some 103 ∧ zsh (zmk M) 103 = (2, 8) ∧ zi (zmk M) 103 = (fun _ => 0) ∧ zj (zmk M) 103 = (fun _ => 0) := by
  have hz : zn (zmk_23 M) = 103 := (zmk_z23 M h)
  have b1 : zf (zmk_24 M) 81 46 = some (zn (zmk_23 M)) := zsF_s (zal (zmk_23 M) 2 8) 81 46 (some (zn (zmk_23 M)))
  have b2 : zsh (zmk_24 M) (zn (zmk_23 M)) = (2, 8) := zal_sh (M := (zmk_23 M)) (t := 2) (n := 8)
  have b3 : zi (zmk_24 M) (zn (zmk_23 M)) = (fun _ => 0) ∧ zj (zmk_24 M) (zn (zmk_23 M)) = (fun _ => 0) := zal_new (M := (zmk_23 M)) (t := 2) (n := 8)
  rw [hz] at b1 b2 b3
  have p25 : zPr 103 46 (zmk_24 M) (zmk_25 M) := zPr.al (t := 2) (n := 512) (by have := zmk_z24 M h; omega) (by have := zmk_z24 M h; omega) (by decide)
  have p26 : zPr 103 46 (zmk_24 M) (zmk_26 M) := p25.tr (zPr.al (t := 2) (n := 64) (by have := zmk_z25 M h; omega) (by have := zmk_z25 M h; omega) (by decide))
  have p27 : zPr 103 46 (zmk_24 M) (zmk_27 M) := p26.tr (zPr.al (t := 1) (n := 128) (by have := zmk_z26 M h; omega) (by have := zmk_z26 M h; omega) (by decide))
  have p28 : zPr 103 46 (zmk_24 M) (zmk_28 M) := p27.tr (zPr.al (t := 2) (n := 64) (by have := zmk_z27 M h; omega) (by have := zmk_z27 M h; omega) (by decide))
  have p29 : zPr 103 46 (zmk_24 M) (zmk_29 M) := p28.tr (zPr.al (t := 2) (n := 64) (by have := zmk_z28 M h; omega) (by have := zmk_z28 M h; omega) (by decide))
  have p30 : zPr 103 46 (zmk_24 M) (zmk_30 M) := p29.tr (zPr.al (t := 1) (n := 24) (by have := zmk_z29 M h; omega) (by have := zmk_z29 M h; omega) (by decide))
  have p31 : zPr 103 46 (zmk_24 M) (zmk_31 M) := p30.tr (zPr.al (t := 1) (n := 65536) (by have := zmk_z30 M h; omega) (by have := zmk_z30 M h; omega) (by decide))
  have p32 : zPr 103 46 (zmk_24 M) (zmk_32 M) := p31.tr (zPr.al (t := 2) (n := 768) (by have := zmk_z31 M h; omega) (by have := zmk_z31 M h; omega) (by decide))
  have p33 : zPr 103 46 (zmk_24 M) (zmk_33 M) := p32.tr (zPr.al (t := 1) (n := 6) (by have := zmk_z32 M h; omega) (by have := zmk_z32 M h; omega) (by decide))
  have p34 : zPr 103 46 (zmk_24 M) (zmk_34 M) := p33.tr (zPr.al (t := 1) (n := 7) (by have := zmk_z33 M h; omega) (by have := zmk_z33 M h; omega) (by decide))
  have p35 : zPr 103 46 (zmk_24 M) (zmk_35 M) := p34.tr (zPr.i (by decide))
  exact ⟨p35.2.1.trans b1, p35.1.trans b2, p35.2.2.1.trans b3.1, p35.2.2.2.trans b3.2⟩
theorem zmk_a104 (M : zMem) (h : zn M = 82) : zf (zmk M) 81 47 = some 104 ∧ zsh (zmk M) 104 = (2, 512) ∧ zi (zmk M) 104 = (fun _ => 0) ∧ zj (zmk M) 104 = (fun _ => 0) := by
  have hz : zn (zmk_24 M) = 104 := (zmk_z24 M h)
  have b1 : zf (zmk_25 M) 81 47 = some (zn (zmk_24 M)) := zsF_s (zal (zmk_24 M) 2 512) 81 47 (some (zn (zmk_24 M)))
  have b2 : zsh (zmk_25 M) (zn (zmk_24 M)) = (2, 512) := zal_sh (M := (zmk_24 M)) (t := 2) (n := 512)
  have b3 : zi (zmk_25 M) (zn (zmk_24 M)) = (fun _ => 0) ∧ zj (zmk_25 M) (zn (zmk_24 M)) = (fun _ => 0) := zal_new (M := (zmk_24 M)) (t := 2) (n := 512)
  rw [hz] at b1 b2 b3
  have p26 : zPr 104 47 (zmk_25 M) (zmk_26 M) := zPr.al (t := 2) (n := 64) (by have := zmk_z25 M h; omega) (by have := zmk_z25 M h; omega) (by decide)
  have p27 : zPr 104 47 (zmk_25 M) (zmk_27 M) := p26.tr (zPr.al (t := 1) (n := 128) (by have := zmk_z26 M h; omega) (by have := zmk_z26 M h; omega) (by decide))
  have p28 : zPr 104 47 (zmk_25 M) (zmk_28 M) := p27.tr (zPr.al (t := 2) (n := 64) (by have := zmk_z27 M h; omega) (by have := zmk_z27 M h; omega) (by decide))
  have p29 : zPr 104 47 (zmk_25 M) (zmk_29 M) := p28.tr (zPr.al (t := 2) (n := 64) (by have := zmk_z28 M h; omega) (by have := zmk_z28 M h; omega) (by decide))
  have p30 : zPr 104 47 (zmk_25 M) (zmk_30 M) := p29.tr (zPr.al (t := 1) (n := 24) (by have := zmk_z29 M h; omega) (by have := zmk_z29 M h; omega) (by decide))
  have p31 : zPr 104 47 (zmk_25 M) (zmk_31 M) := p30.tr (zPr.al (t := 1) (n := 65536) (by have := zmk_z30 M h; omega) (by have := zmk_z30 M h; omega) (by decide))
  have p32 : zPr 104 47 (zmk_25 M) (zmk_32 M) := p31.tr (zPr.al (t := 2) (n := 768) (by have := zmk_z31 M h; omega) (by have := zmk_z31 M h; omega) (by decide))
  have p33 : zPr 104 47 (zmk_25 M) (zmk_33 M) := p32.tr (zPr.al (t := 1) (n := 6) (by have := zmk_z32 M h; omega) (by have := zmk_z32 M h; omega) (by decide))
  have p34 : zPr 104 47 (zmk_25 M) (zmk_34 M) := p33.tr (zPr.al (t := 1) (n := 7) (by have := zmk_z33 M h; omega) (by have := zmk_z33 M h; omega) (by decide))
  have p35 : zPr 104 47 (zmk_25 M) (zmk_35 M) := p34.tr (zPr.i (by decide))
  exact ⟨p35.2.1.trans b1, p35.1.trans b2, p35.2.2.1.trans b3.1, p35.2.2.2.trans b3.2⟩
theorem zmk_a105 (M : zMem) (h : zn M = 82) : zf (zmk M) 81 48 = some 105 ∧ zsh (zmk M) 105 = (2, 64) ∧ zi (zmk M) 105 = (fun _ => 0) ∧ zj (zmk M) 105 = (fun _ => 0) := by
  have hz : zn (zmk_25 M) = 105 := (zmk_z25 M h)
  have b1 : zf (zmk_26 M) 81 48 = some (zn (zmk_25 M)) := zsF_s (zal (zmk_25 M) 2 64) 81 48 (some (zn (zmk_25 M)))
  have b2 : zsh (zmk_26 M) (zn (zmk_25 M)) = (2, 64) := zal_sh (M := (zmk_25 M)) (t := 2) (n := 64)
  have b3 : zi (zmk_26 M) (zn (zmk_25 M)) = (fun _ => 0) ∧ zj (zmk_26 M) (zn (zmk_25 M)) = (fun _ => 0) := zal_new (M := (zmk_25 M)) (t := 2) (n := 64)
  rw [hz] at b1 b2 b3
  have p27 : zPr 105 48 (zmk_26 M) (zmk_27 M) := zPr.al (t := 1) (n := 128) (by have := zmk_z26 M h; omega) (by have := zmk_z26 M h; omega) (by decide)
  have p28 : zPr 105 48 (zmk_26 M) (zmk_28 M) := p27.tr (zPr.al (t := 2) (n := 64) (by have := zmk_z27 M h; omega) (by have := zmk_z27 M h; omega) (by decide))
  have p29 : zPr 105 48 (zmk_26 M) (zmk_29 M) := p28.tr (zPr.al (t := 2) (n := 64) (by have := zmk_z28 M h; omega) (by have := zmk_z28 M h; omega) (by decide))
  have p30 : zPr 105 48 (zmk_26 M) (zmk_30 M) := p29.tr (zPr.al (t := 1) (n := 24) (by have := zmk_z29 M h; omega) (by have := zmk_z29 M h; omega) (by decide))
  have p31 : zPr 105 48 (zmk_26 M) (zmk_31 M) := p30.tr (zPr.al (t := 1) (n := 65536) (by have := zmk_z30 M h; omega) (by have := zmk_z30 M h; omega) (by decide))
  have p32 : zPr 105 48 (zmk_26 M) (zmk_32 M) := p31.tr (zPr.al (t := 2) (n := 768) (by have := zmk_z31 M h; omega) (by have := zmk_z31 M h; omega) (by decide))
  have p33 : zPr 105 48 (zmk_26 M) (zmk_33 M) := p32.tr (zPr.al (t := 1) (n := 6) (by have := zmk_z32 M h; omega) (by have := zmk_z32 M h; omega) (by decide))
  have p34 : zPr 105 48 (zmk_26 M) (zmk_34 M) := p33.tr (zPr.al (t := 1) (n := 7) (by have := zmk_z33 M h; omega) (by have := zmk_z33 M h; omega) (by decide))
  have p35 : zPr 105 48 (zmk_26 M) (zmk_35 M) := p34.tr (zPr.i (by decide))
  exact ⟨p35.2.1.trans b1, p35.1.trans b2, p35.2.2.1.trans b3.1, p35.2.2.2.trans b3.2⟩
theorem zmk_a106 (M : zMem) (h : zn M = 82) : zf (zmk M) 81 49 = some 106 ∧ zsh (zmk M) 106 = (1, 128) ∧ zi (zmk M) 106 = (fun _ => 0) ∧ zj (zmk M) 106 = (fun _ => 0) := by
  have hz : zn (zmk_26 M) = 106 := (zmk_z26 M h)
  have b1 : zf (zmk_27 M) 81 49 = some (zn (zmk_26 M)) := zsF_s (zal (zmk_26 M) 1 128) 81 49 (some (zn (zmk_26 M)))
  have b2 : zsh (zmk_27 M) (zn (zmk_26 M)) = (1, 128) := zal_sh (M := (zmk_26 M)) (t := 1) (n := 128)
  have b3 : zi (zmk_27 M) (zn (zmk_26 M)) = (fun _ => 0) ∧ zj (zmk_27 M) (zn (zmk_26 M)) = (fun _ => 0) := zal_new (M := (zmk_26 M)) (t := 1) (n := 128)
  rw [hz] at b1 b2 b3
  have p28 : zPr 106 49 (zmk_27 M) (zmk_28 M) := zPr.al (t := 2) (n := 64) (by have := zmk_z27 M h; omega) (by have := zmk_z27 M h; omega) (by decide)
  have p29 : zPr 106 49 (zmk_27 M) (zmk_29 M) := p28.tr (zPr.al (t := 2) (n := 64) (by have := zmk_z28 M h; omega) (by have := zmk_z28 M h; omega) (by decide))
  have p30 : zPr 106 49 (zmk_27 M) (zmk_30 M) := p29.tr (zPr.al (t := 1) (n := 24) (by have := zmk_z29 M h; omega) (by have := zmk_z29 M h; omega) (by decide))
  have p31 : zPr 106 49 (zmk_27 M) (zmk_31 M) := p30.tr (zPr.al (t := 1) (n := 65536) (by have := zmk_z30 M h; omega) (by have := zmk_z30 M h; omega) (by decide))
  have p32 : zPr 106 49 (zmk_27 M) (zmk_32 M) := p31.tr (zPr.al (t := 2) (n := 768) (by have := zmk_z31 M h; omega) (by have := zmk_z31 M h; omega) (by decide))
  have p33 : zPr 106 49 (zmk_27 M) (zmk_33 M) := p32.tr (zPr.al (t := 1) (n := 6) (by have := zmk_z32 M h; omega) (by have := zmk_z32 M h; omega) (by decide))
  have p34 : zPr 106 49 (zmk_27 M) (zmk_34 M) := p33.tr (zPr.al (t := 1) (n := 7) (by have := zmk_z33 M h; omega) (by have := zmk_z33 M h; omega) (by decide))
  have p35 : zPr 106 49 (zmk_27 M) (zmk_35 M) := p34.tr (zPr.i (by decide))
  exact ⟨p35.2.1.trans b1, p35.1.trans b2, p35.2.2.1.trans b3.1, p35.2.2.2.trans b3.2⟩
theorem zmk_a107 (M : zMem) (h : zn M = 82) : zf (zmk M) 81 50 = some 107 ∧ zsh (zmk M) 107 = (2, 64) ∧ zi (zmk M) 107 = (fun _ => 0) ∧ zj (zmk M) 107 = (fun _ => 0) := by
  have hz : zn (zmk_27 M) = 107 := (zmk_z27 M h)
  have b1 : zf (zmk_28 M) 81 50 = some (zn (zmk_27 M)) := zsF_s (zal (zmk_27 M) 2 64) 81 50 (some (zn (zmk_27 M)))
  have b2 : zsh (zmk_28 M) (zn (zmk_27 M)) = (2, 64) := zal_sh (M := (zmk_27 M)) (t := 2) (n := 64)
  have b3 : zi (zmk_28 M) (zn (zmk_27 M)) = (fun _ => 0) ∧ zj (zmk_28 M) (zn (zmk_27 M)) = (fun _ => 0) := zal_new (M := (zmk_27 M)) (t := 2) (n := 64)
  rw [hz] at b1 b2 b3
  have p29 : zPr 107 50 (zmk_28 M) (zmk_29 M) := zPr.al (t := 2) (n := 64) (by have := zmk_z28 M h; omega) (by have := zmk_z28 M h; omega) (by decide)
  have p30 : zPr 107 50 (zmk_28 M) (zmk_30 M) := p29.tr (zPr.al (t := 1) (n := 24) (by have := zmk_z29 M h; omega) (by have := zmk_z29 M h; omega) (by decide))
  have p31 : zPr 107 50 (zmk_28 M) (zmk_31 M) := p30.tr (zPr.al (t := 1) (n := 65536) (by have := zmk_z30 M h; omega) (by have := zmk_z30 M h; omega) (by decide))
  have p32 : zPr 107 50 (zmk_28 M) (zmk_32 M) := p31.tr (zPr.al (t := 2) (n := 768) (by have := zmk_z31 M h; omega) (by have := zmk_z31 M h; omega) (by decide))
  have p33 : zPr 107 50 (zmk_28 M) (zmk_33 M) := p32.tr (zPr.al (t := 1) (n := 6) (by have := zmk_z32 M h; omega) (by have := zmk_z32 M h; omega) (by decide))
  have p34 : zPr 107 50 (zmk_28 M) (zmk_34 M) := p33.tr (zPr.al (t := 1) (n := 7) (by have := zmk_z33 M h; omega) (by have := zmk_z33 M h; omega) (by decide))
  have p35 : zPr 107 50 (zmk_28 M) (zmk_35 M) := p34.tr (zPr.i (by decide))
  exact ⟨p35.2.1.trans b1, p35.1.trans b2, p35.2.2.1.trans b3.1, p35.2.2.2.trans b3.2⟩
theorem zmk_a108 (M : zMem) (h : zn M = 82) : zf (zmk M) 81 51 = some 108 ∧ zsh (zmk M) 108 = (2, 64) ∧ zi (zmk M) 108 = (fun _ => 0) ∧ zj (zmk M) 108 = (fun _ => 0) := by
  have hz : zn (zmk_28 M) = 108 := (zmk_z28 M h)
  have b1 : zf (zmk_29 M) 81 51 = some (zn (zmk_28 M)) := zsF_s (zal (zmk_28 M) 2 64) 81 51 (some (zn (zmk_28 M)))
  have b2 : zsh (zmk_29 M) (zn (zmk_28 M)) = (2, 64) := zal_sh (M := (zmk_28 M)) (t := 2) (n := 64)
  have b3 : zi (zmk_29 M) (zn (zmk_28 M)) = (fun _ => 0) ∧ zj (zmk_29 M) (zn (zmk_28 M)) = (fun _ => 0) := zal_new (M := (zmk_28 M)) (t := 2) (n := 64)
  rw [hz] at b1 b2 b3
  have p30 : zPr 108 51 (zmk_29 M) (zmk_30 M) := zPr.al (t := 1) (n := 24) (by have := zmk_z29 M h; omega) (by have := zmk_z29 M h; omega) (by decide)
  have p31 : zPr 108 51 (zmk_29 M) (zmk_31 M) := p30.tr (zPr.al (t := 1) (n := 65536) (by have := zmk_z30 M h; omega) (by have := zmk_z30 M h; omega) (by decide))
  have p32 : zPr 108 51 (zmk_29 M) (zmk_32 M) := p31.tr (zPr.al (t := 2) (n := 768) (by have := zmk_z31 M h; omega) (by have := zmk_z31 M h; omega) (by decide))
  have p33 : zPr 108 51 (zmk_29 M) (zmk_33 M) := p32.tr (zPr.al (t := 1) (n := 6) (by have := zmk_z32 M h; omega) (by have := zmk_z32 M h; omega) (by decide))
  have p34 : zPr 108 51 (zmk_29 M) (zmk_34 M) := p33.tr (zPr.al (t := 1) (n := 7) (by have := zmk_z33 M h; omega) (by have := zmk_z33 M h; omega) (by decide))
  have p35 : zPr 108 51 (zmk_29 M) (zmk_35 M) := p34.tr (zPr.i (by decide))
  exact ⟨p35.2.1.trans b1, p35.1.trans b2, p35.2.2.1.trans b3.1, p35.2.2.2.trans b3.2⟩
theorem zmk_a109 (M : zMem) (h : zn M = 82) : zf (zmk M) 81 54 = some 109 ∧ zsh (zmk M) 109 = (1, 24) ∧ zi (zmk M) 109 = (fun _ => 0) ∧ zj (zmk M) 109 = (fun _ => 0) := by
  have hz : zn (zmk_29 M) = 109 := (zmk_z29 M h)
  have b1 : zf (zmk_30 M) 81 54 = some (zn (zmk_29 M)) := zsF_s (zal (zmk_29 M) 1 24) 81 54 (some (zn (zmk_29 M)))
  have b2 : zsh (zmk_30 M) (zn (zmk_29 M)) = (1, 24) := zal_sh (M := (zmk_29 M)) (t := 1) (n := 24)
  have b3 : zi (zmk_30 M) (zn (zmk_29 M)) = (fun _ => 0) ∧ zj (zmk_30 M) (zn (zmk_29 M)) = (fun _ => 0) := zal_new (M := (zmk_29 M)) (t := 1) (n := 24)
  rw [hz] at b1 b2 b3
  have p31 : zPr 109 54 (zmk_30 M) (zmk_31 M) := zPr.al (t := 1) (n := 65536) (by have := zmk_z30 M h; omega) (by have := zmk_z30 M h; omega) (by decide)
  have p32 : zPr 109 54 (zmk_30 M) (zmk_32 M) := p31.tr (zPr.al (t := 2) (n := 768) (by have := zmk_z31 M h; omega) (by have := zmk_z31 M h; omega) (by decide))
  have p33 : zPr 109 54 (zmk_30 M) (zmk_33 M) := p32.tr (zPr.al (t := 1) (n := 6) (by have := zmk_z32 M h; omega) (by have := zmk_z32 M h; omega) (by decide))
  have p34 : zPr 109 54 (zmk_30 M) (zmk_34 M) := p33.tr (zPr.al (t := 1) (n := 7) (by have := zmk_z33 M h; omega) (by have := zmk_z33 M h; omega) (by decide))
  have p35 : zPr 109 54 (zmk_30 M) (zmk_35 M) := p34.tr (zPr.i (by decide))
  exact ⟨p35.2.1.trans b1, p35.1.trans b2, p35.2.2.1.trans b3.1, p35.2.2.2.trans b3.2⟩
theorem zmk_a110 (M : zMem) (h : zn M = 82) : zf (zmk M) 81 56 = some 110 ∧ zsh (zmk M) 110 = (1, 65536) ∧ zi (zmk M) 110 = (fun _ => 0) ∧ zj (zmk M) 110 = (fun _ => 0) := by
  have hz : zn (zmk_30 M) = 110 := (zmk_z30 M h)
  have b1 : zf (zmk_31 M) 81 56 = some (zn (zmk_30 M)) := zsF_s (zal (zmk_30 M) 1 65536) 81 56 (some (zn (zmk_30 M)))
  have b2 : zsh (zmk_31 M) (zn (zmk_30 M)) = (1, 65536) := zal_sh (M := (zmk_30 M)) (t := 1) (n := 65536)
  have b3 : zi (zmk_31 M) (zn (zmk_30 M)) = (fun _ => 0) ∧ zj (zmk_31 M) (zn (zmk_30 M)) = (fun _ => 0) := zal_new (M := (zmk_30 M)) (t := 1) (n := 65536)
  rw [hz] at b1 b2 b3
  have p32 : zPr 110 56 (zmk_31 M) (zmk_32 M) := zPr.al (t := 2) (n := 768) (by have := zmk_z31 M h; omega) (by have := zmk_z31 M h; omega) (by decide)
  have p33 : zPr 110 56 (zmk_31 M) (zmk_33 M) := p32.tr (zPr.al (t := 1) (n := 6) (by have := zmk_z32 M h; omega) (by have := zmk_z32 M h; omega) (by decide))
  have p34 : zPr 110 56 (zmk_31 M) (zmk_34 M) := p33.tr (zPr.al (t := 1) (n := 7) (by have := zmk_z33 M h; omega) (by have := zmk_z33 M h; omega) (by decide))
  have p35 : zPr 110 56 (zmk_31 M) (zmk_35 M) := p34.tr (zPr.i (by decide))
  exact ⟨p35.2.1.trans b1, p35.1.trans b2, p35.2.2.1.trans b3.1, p35.2.2.2.trans b3.2⟩
theorem zmk_a111 (M : zMem) (h : zn M = 82) : zf (zmk M) 81 59 = some 111 ∧ zsh (zmk M) 111 = (2, 768) ∧ zi (zmk M) 111 = (fun _ => 0) ∧ zj (zmk M) 111 = (fun _ => 0) := by
  have hz : zn (zmk_31 M) = 111 := (zmk_z31 M h)
  have b1 : zf (zmk_32 M) 81 59 = some (zn (zmk_31 M)) := zsF_s (zal (zmk_31 M) 2 768) 81 59 (some (zn (zmk_31 M)))
  have b2 : zsh (zmk_32 M) (zn (zmk_31 M)) = (2, 768) := zal_sh (M := (zmk_31 M)) (t := 2) (n := 768)
  have b3 : zi (zmk_32 M) (zn (zmk_31 M)) = (fun _ => 0) ∧ zj (zmk_32 M) (zn (zmk_31 M)) = (fun _ => 0) := zal_new (M := (zmk_31 M)) (t := 2) (n := 768)
  rw [hz] at b1 b2 b3
  have p33 : zPr 111 59 (zmk_32 M) (zmk_33 M) := zPr.al (t := 1) (n := 6) (by have := zmk_z32 M h; omega) (by have := zmk_z32 M h; omega) (by decide)
  have p34 : zPr 111 59 (zmk_32 M) (zmk_34 M) := p33.tr (zPr.al (t := 1) (n := 7) (by have := zmk_z33 M h; omega) (by have := zmk_z33 M h; omega) (by decide))
  have p35 : zPr 111 59 (zmk_32 M) (zmk_35 M) := p34.tr (zPr.i (by decide))
  exact ⟨p35.2.1.trans b1, p35.1.trans b2, p35.2.2.1.trans b3.1, p35.2.2.2.trans b3.2⟩
theorem zmk_a112 (M : zMem) (h : zn M = 82) : zf (zmk M) 81 61 = some 112 ∧ zsh (zmk M) 112 = (1, 6) ∧ zi (zmk M) 112 = (fun _ => 0) ∧ zj (zmk M) 112 = (fun _ => 0) := by
  have hz : zn (zmk_32 M) = 112 := (zmk_z32 M h)
  have b1 : zf (zmk_33 M) 81 61 = some (zn (zmk_32 M)) := zsF_s (zal (zmk_32 M) 1 6) 81 61 (some (zn (zmk_32 M)))
  have b2 : zsh (zmk_33 M) (zn (zmk_32 M)) = (1, 6) := zal_sh (M := (zmk_32 M)) (t := 1) (n := 6)
  have b3 : zi (zmk_33 M) (zn (zmk_32 M)) = (fun _ => 0) ∧ zj (zmk_33 M) (zn (zmk_32 M)) = (fun _ => 0) := zal_new (M := (zmk_32 M)) (t := 1) (n := 6)
  rw [hz] at b1 b2 b3
  have p34 : zPr 112 61 (zmk_33 M) (zmk_34 M) := zPr.al (t := 1) (n := 7) (by have := zmk_z33 M h; omega) (by have := zmk_z33 M h; omega) (by decide)
  have p35 : zPr 112 61 (zmk_33 M) (zmk_35 M) := p34.tr (zPr.i (by decide))
  exact ⟨p35.2.1.trans b1, p35.1.trans b2, p35.2.2.1.trans b3.1, p35.2.2.2.trans b3.2⟩
theorem zmk_a113 (M : zMem) (h : zn M = 82) : zf (zmk M) 81 62 = some 113 ∧ zsh (zmk M) 113 = (1, 7) ∧ zi (zmk M) 113 = (fun _ => 0) ∧ zj (zmk M) 113 = (fun _ => 0) := by
  have hz : zn (zmk_33 M) = 113 := (zmk_z33 M h)
  have b1 : zf (zmk_34 M) 81 62 = some (zn (zmk_33 M)) := zsF_s (zal (zmk_33 M) 1 7) 81 62 (some (zn (zmk_33 M)))
  have b2 : zsh (zmk_34 M) (zn (zmk_33 M)) = (1, 7) := zal_sh (M := (zmk_33 M)) (t := 1) (n := 7)
  have b3 : zi (zmk_34 M) (zn (zmk_33 M)) = (fun _ => 0) ∧ zj (zmk_34 M) (zn (zmk_33 M)) = (fun _ => 0) := zal_new (M := (zmk_33 M)) (t := 1) (n := 7)
  rw [hz] at b1 b2 b3
  have p35 : zPr 113 62 (zmk_34 M) (zmk_35 M) := zPr.i (by decide)
  exact ⟨p35.2.1.trans b1, p35.1.trans b2, p35.2.2.1.trans b3.1, p35.2.2.2.trans b3.2⟩
theorem zmk_o (M : zMem) (h : zn M = 82) : zsh (zmk M) 81 = zsh M 81 ∧ zj (zmk M) 81 = zj M 81 ∧ ∀ j, zi (zmk M) 81 j = if j = 12 then 1 else if j = 10 then -1 else if j = 8 then -1 else zi M 81 j := by
  have s1 : zsh (zmk_1 M) 81 = zsh M 81 ∧ zj (zmk_1 M) 81 = zj M 81 ∧ zi (zmk_1 M) 81 = zi M 81 := ⟨(zal_old (t := 1) (n := 700) (by have := h; omega)).1, (zal_io (t := 1) (n := 700) (by have := h; omega)).2, (zal_io (t := 1) (n := 700) (by have := h; omega)).1⟩
  have s2 : zsh (zmk_2 M) 81 = zsh (zmk_1 M) 81 ∧ zj (zmk_2 M) 81 = zj (zmk_1 M) 81 ∧ ∀ j, zi (zmk_2 M) 81 j = if j = 8 then (-1) else zi (zmk_1 M) 81 j := ⟨rfl, rfl, fun j => by show (if 81 = 81 ∧ j = 8 then _ else _) = _; simp only [true_and]; rfl⟩
  have s3 : zsh (zmk_3 M) 81 = zsh (zmk_2 M) 81 ∧ zj (zmk_3 M) 81 = zj (zmk_2 M) 81 ∧ ∀ j, zi (zmk_3 M) 81 j = if j = 10 then (-1) else zi (zmk_2 M) 81 j := ⟨rfl, rfl, fun j => by show (if 81 = 81 ∧ j = 10 then _ else _) = _; simp only [true_and]; rfl⟩
  have s4 : zsh (zmk_4 M) 81 = zsh (zmk_3 M) 81 ∧ zj (zmk_4 M) 81 = zj (zmk_3 M) 81 ∧ zi (zmk_4 M) 81 = zi (zmk_3 M) 81 := ⟨(zal_old (t := 1) (n := 24) (by have := (zmk_z3 M h); omega)).1, (zal_io (t := 1) (n := 24) (by have := (zmk_z3 M h); omega)).2, (zal_io (t := 1) (n := 24) (by have := (zmk_z3 M h); omega)).1⟩
  have s5 : zsh (zmk_5 M) 81 = zsh (zmk_4 M) 81 ∧ zj (zmk_5 M) 81 = zj (zmk_4 M) 81 ∧ zi (zmk_5 M) 81 = zi (zmk_4 M) 81 := ⟨(zal_old (t := 1) (n := 24) (by have := (zmk_z4 M h); omega)).1, (zal_io (t := 1) (n := 24) (by have := (zmk_z4 M h); omega)).2, (zal_io (t := 1) (n := 24) (by have := (zmk_z4 M h); omega)).1⟩
  have s6 : zsh (zmk_6 M) 81 = zsh (zmk_5 M) 81 ∧ zj (zmk_6 M) 81 = zj (zmk_5 M) 81 ∧ zi (zmk_6 M) 81 = zi (zmk_5 M) 81 := ⟨(zal_old (t := 1) (n := 144) (by have := (zmk_z5 M h); omega)).1, (zal_io (t := 1) (n := 144) (by have := (zmk_z5 M h); omega)).2, (zal_io (t := 1) (n := 144) (by have := (zmk_z5 M h); omega)).1⟩
  have s7 : zsh (zmk_7 M) 81 = zsh (zmk_6 M) 81 ∧ zj (zmk_7 M) 81 = zj (zmk_6 M) 81 ∧ zi (zmk_7 M) 81 = zi (zmk_6 M) 81 := ⟨(zal_old (t := 1) (n := 6) (by have := (zmk_z6 M h); omega)).1, (zal_io (t := 1) (n := 6) (by have := (zmk_z6 M h); omega)).2, (zal_io (t := 1) (n := 6) (by have := (zmk_z6 M h); omega)).1⟩
  have s8 : zsh (zmk_8 M) 81 = zsh (zmk_7 M) 81 ∧ zj (zmk_8 M) 81 = zj (zmk_7 M) 81 ∧ zi (zmk_8 M) 81 = zi (zmk_7 M) 81 := ⟨(zal_old (t := 1) (n := 576) (by have := (zmk_z7 M h); omega)).1, (zal_io (t := 1) (n := 576) (by have := (zmk_z7 M h); omega)).2, (zal_io (t := 1) (n := 576) (by have := (zmk_z7 M h); omega)).1⟩
  have s9 : zsh (zmk_9 M) 81 = zsh (zmk_8 M) 81 ∧ zj (zmk_9 M) 81 = zj (zmk_8 M) 81 ∧ zi (zmk_9 M) 81 = zi (zmk_8 M) 81 := ⟨(zal_old (t := 1) (n := 24) (by have := (zmk_z8 M h); omega)).1, (zal_io (t := 1) (n := 24) (by have := (zmk_z8 M h); omega)).2, (zal_io (t := 1) (n := 24) (by have := (zmk_z8 M h); omega)).1⟩
  have s10 : zsh (zmk_10 M) 81 = zsh (zmk_9 M) 81 ∧ zj (zmk_10 M) 81 = zj (zmk_9 M) 81 ∧ zi (zmk_10 M) 81 = zi (zmk_9 M) 81 := ⟨(zal_old (t := 1) (n := 128) (by have := (zmk_z9 M h); omega)).1, (zal_io (t := 1) (n := 128) (by have := (zmk_z9 M h); omega)).2, (zal_io (t := 1) (n := 128) (by have := (zmk_z9 M h); omega)).1⟩
  have s11 : zsh (zmk_11 M) 81 = zsh (zmk_10 M) 81 ∧ zj (zmk_11 M) 81 = zj (zmk_10 M) 81 ∧ zi (zmk_11 M) 81 = zi (zmk_10 M) 81 := ⟨(zal_old (t := 1) (n := 128) (by have := (zmk_z10 M h); omega)).1, (zal_io (t := 1) (n := 128) (by have := (zmk_z10 M h); omega)).2, (zal_io (t := 1) (n := 128) (by have := (zmk_z10 M h); omega)).1⟩
  have s12 : zsh (zmk_12 M) 81 = zsh (zmk_11 M) 81 ∧ zj (zmk_12 M) 81 = zj (zmk_11 M) 81 ∧ zi (zmk_12 M) 81 = zi (zmk_11 M) 81 := ⟨(zal_old (t := 1) (n := 64) (by have := (zmk_z11 M h); omega)).1, (zal_io (t := 1) (n := 64) (by have := (zmk_z11 M h); omega)).2, (zal_io (t := 1) (n := 64) (by have := (zmk_z11 M h); omega)).1⟩
  have s13 : zsh (zmk_13 M) 81 = zsh (zmk_12 M) 81 ∧ zj (zmk_13 M) 81 = zj (zmk_12 M) 81 ∧ zi (zmk_13 M) 81 = zi (zmk_12 M) 81 := ⟨(zal_old (t := 1) (n := 64) (by have := (zmk_z12 M h); omega)).1, (zal_io (t := 1) (n := 64) (by have := (zmk_z12 M h); omega)).2, (zal_io (t := 1) (n := 64) (by have := (zmk_z12 M h); omega)).1⟩
  have s14 : zsh (zmk_14 M) 81 = zsh (zmk_13 M) 81 ∧ zj (zmk_14 M) 81 = zj (zmk_13 M) 81 ∧ zi (zmk_14 M) 81 = zi (zmk_13 M) 81 := ⟨(zal_old (t := 1) (n := 4096) (by have := (zmk_z13 M h); omega)).1, (zal_io (t := 1) (n := 4096) (by have := (zmk_z13 M h); omega)).2, (zal_io (t := 1) (n := 4096) (by have := (zmk_z13 M h); omega)).1⟩
  have s15 : zsh (zmk_15 M) 81 = zsh (zmk_14 M) 81 ∧ zj (zmk_15 M) 81 = zj (zmk_14 M) 81 ∧ zi (zmk_15 M) 81 = zi (zmk_14 M) 81 := ⟨(zal_old (t := 1) (n := 1536) (by have := (zmk_z14 M h); omega)).1, (zal_io (t := 1) (n := 1536) (by have := (zmk_z14 M h); omega)).2, (zal_io (t := 1) (n := 1536) (by have := (zmk_z14 M h); omega)).1⟩
  have s16 : zsh (zmk_16 M) 81 = zsh (zmk_15 M) 81 ∧ zj (zmk_16 M) 81 = zj (zmk_15 M) 81 ∧ zi (zmk_16 M) 81 = zi (zmk_15 M) 81 := ⟨(zal_old (t := 2) (n := 2560) (by have := (zmk_z15 M h); omega)).1, (zal_io (t := 2) (n := 2560) (by have := (zmk_z15 M h); omega)).2, (zal_io (t := 2) (n := 2560) (by have := (zmk_z15 M h); omega)).1⟩
  have s17 : zsh (zmk_17 M) 81 = zsh (zmk_16 M) 81 ∧ zj (zmk_17 M) 81 = zj (zmk_16 M) 81 ∧ zi (zmk_17 M) 81 = zi (zmk_16 M) 81 := ⟨(zal_old (t := 2) (n := 64) (by have := (zmk_z16 M h); omega)).1, (zal_io (t := 2) (n := 64) (by have := (zmk_z16 M h); omega)).2, (zal_io (t := 2) (n := 64) (by have := (zmk_z16 M h); omega)).1⟩
  have s18 : zsh (zmk_18 M) 81 = zsh (zmk_17 M) 81 ∧ zj (zmk_18 M) 81 = zj (zmk_17 M) 81 ∧ zi (zmk_18 M) 81 = zi (zmk_17 M) 81 := ⟨(zal_old (t := 2) (n := 64) (by have := (zmk_z17 M h); omega)).1, (zal_io (t := 2) (n := 64) (by have := (zmk_z17 M h); omega)).2, (zal_io (t := 2) (n := 64) (by have := (zmk_z17 M h); omega)).1⟩
  have s19 : zsh (zmk_19 M) 81 = zsh (zmk_18 M) 81 ∧ zj (zmk_19 M) 81 = zj (zmk_18 M) 81 ∧ zi (zmk_19 M) 81 = zi (zmk_18 M) 81 := ⟨(zal_old (t := 2) (n := 64) (by have := (zmk_z18 M h); omega)).1, (zal_io (t := 2) (n := 64) (by have := (zmk_z18 M h); omega)).2, (zal_io (t := 2) (n := 64) (by have := (zmk_z18 M h); omega)).1⟩
  have s20 : zsh (zmk_20 M) 81 = zsh (zmk_19 M) 81 ∧ zj (zmk_20 M) 81 = zj (zmk_19 M) 81 ∧ zi (zmk_20 M) 81 = zi (zmk_19 M) 81 := ⟨(zal_old (t := 2) (n := 64) (by have := (zmk_z19 M h); omega)).1, (zal_io (t := 2) (n := 64) (by have := (zmk_z19 M h); omega)).2, (zal_io (t := 2) (n := 64) (by have := (zmk_z19 M h); omega)).1⟩
  have s21 : zsh (zmk_21 M) 81 = zsh (zmk_20 M) 81 ∧ zj (zmk_21 M) 81 = zj (zmk_20 M) 81 ∧ zi (zmk_21 M) 81 = zi (zmk_20 M) 81 := ⟨(zal_old (t := 1) (n := 80) (by have := (zmk_z20 M h); omega)).1, (zal_io (t := 1) (n := 80) (by have := (zmk_z20 M h); omega)).2, (zal_io (t := 1) (n := 80) (by have := (zmk_z20 M h); omega)).1⟩
  have s22 : zsh (zmk_22 M) 81 = zsh (zmk_21 M) 81 ∧ zj (zmk_22 M) 81 = zj (zmk_21 M) 81 ∧ zi (zmk_22 M) 81 = zi (zmk_21 M) 81 := ⟨(zal_old (t := 2) (n := 8) (by have := (zmk_z21 M h); omega)).1, (zal_io (t := 2) (n := 8) (by have := (zmk_z21 M h); omega)).2, (zal_io (t := 2) (n := 8) (by have := (zmk_z21 M h); omega)).1⟩
  have s23 : zsh (zmk_23 M) 81 = zsh (zmk_22 M) 81 ∧ zj (zmk_23 M) 81 = zj (zmk_22 M) 81 ∧ zi (zmk_23 M) 81 = zi (zmk_22 M) 81 := ⟨(zal_old (t := 2) (n := 512) (by have := (zmk_z22 M h); omega)).1, (zal_io (t := 2) (n := 512) (by have := (zmk_z22 M h); omega)).2, (zal_io (t := 2) (n := 512) (by have := (zmk_z22 M h); omega)).1⟩
  have s24 : zsh (zmk_24 M) 81 = zsh (zmk_23 M) 81 ∧ zj (zmk_24 M) 81 = zj (zmk_23 M) 81 ∧ zi (zmk_24 M) 81 = zi (zmk_23 M) 81 := ⟨(zal_old (t := 2) (n := 8) (by have := (zmk_z23 M h); omega)).1, (zal_io (t := 2) (n := 8) (by have := (zmk_z23 M h); omega)).2, (zal_io (t := 2) (n := 8) (by have := (zmk_z23 M h); omega)).1⟩
  have s25 : zsh (zmk_25 M) 81 = zsh (zmk_24 M) 81 ∧ zj (zmk_25 M) 81 = zj (zmk_24 M) 81 ∧ zi (zmk_25 M) 81 = zi (zmk_24 M) 81 := ⟨(zal_old (t := 2) (n := 512) (by have := (zmk_z24 M h); omega)).1, (zal_io (t := 2) (n := 512) (by have := (zmk_z24 M h); omega)).2, (zal_io (t := 2) (n := 512) (by have := (zmk_z24 M h); omega)).1⟩
  have s26 : zsh (zmk_26 M) 81 = zsh (zmk_25 M) 81 ∧ zj (zmk_26 M) 81 = zj (zmk_25 M) 81 ∧ zi (zmk_26 M) 81 = zi (zmk_25 M) 81 := ⟨(zal_old (t := 2) (n := 64) (by have := (zmk_z25 M h); omega)).1, (zal_io (t := 2) (n := 64) (by have := (zmk_z25 M h); omega)).2, (zal_io (t := 2) (n := 64) (by have := (zmk_z25 M h); omega)).1⟩
  have s27 : zsh (zmk_27 M) 81 = zsh (zmk_26 M) 81 ∧ zj (zmk_27 M) 81 = zj (zmk_26 M) 81 ∧ zi (zmk_27 M) 81 = zi (zmk_26 M) 81 := ⟨(zal_old (t := 1) (n := 128) (by have := (zmk_z26 M h); omega)).1, (zal_io (t := 1) (n := 128) (by have := (zmk_z26 M h); omega)).2, (zal_io (t := 1) (n := 128) (by have := (zmk_z26 M h); omega)).1⟩
  have s28 : zsh (zmk_28 M) 81 = zsh (zmk_27 M) 81 ∧ zj (zmk_28 M) 81 = zj (zmk_27 M) 81 ∧ zi (zmk_28 M) 81 = zi (zmk_27 M) 81 := ⟨(zal_old (t := 2) (n := 64) (by have := (zmk_z27 M h); omega)).1, (zal_io (t := 2) (n := 64) (by have := (zmk_z27 M h); omega)).2, (zal_io (t := 2) (n := 64) (by have := (zmk_z27 M h); omega)).1⟩
  have s29 : zsh (zmk_29 M) 81 = zsh (zmk_28 M) 81 ∧ zj (zmk_29 M) 81 = zj (zmk_28 M) 81 ∧ zi (zmk_29 M) 81 = zi (zmk_28 M) 81 := ⟨(zal_old (t := 2) (n := 64) (by have := (zmk_z28 M h); omega)).1, (zal_io (t := 2) (n := 64) (by have := (zmk_z28 M h); omega)).2, (zal_io (t := 2) (n := 64) (by have := (zmk_z28 M h); omega)).1⟩
  have s30 : zsh (zmk_30 M) 81 = zsh (zmk_29 M) 81 ∧ zj (zmk_30 M) 81 = zj (zmk_29 M) 81 ∧ zi (zmk_30 M) 81 = zi (zmk_29 M) 81 := ⟨(zal_old (t := 1) (n := 24) (by have := (zmk_z29 M h); omega)).1, (zal_io (t := 1) (n := 24) (by have := (zmk_z29 M h); omega)).2, (zal_io (t := 1) (n := 24) (by have := (zmk_z29 M h); omega)).1⟩
  have s31 : zsh (zmk_31 M) 81 = zsh (zmk_30 M) 81 ∧ zj (zmk_31 M) 81 = zj (zmk_30 M) 81 ∧ zi (zmk_31 M) 81 = zi (zmk_30 M) 81 := ⟨(zal_old (t := 1) (n := 65536) (by have := (zmk_z30 M h); omega)).1, (zal_io (t := 1) (n := 65536) (by have := (zmk_z30 M h); omega)).2, (zal_io (t := 1) (n := 65536) (by have := (zmk_z30 M h); omega)).1⟩
  have s32 : zsh (zmk_32 M) 81 = zsh (zmk_31 M) 81 ∧ zj (zmk_32 M) 81 = zj (zmk_31 M) 81 ∧ zi (zmk_32 M) 81 = zi (zmk_31 M) 81 := ⟨(zal_old (t := 2) (n := 768) (by have := (zmk_z31 M h); omega)).1, (zal_io (t := 2) (n := 768) (by have := (zmk_z31 M h); omega)).2, (zal_io (t := 2) (n := 768) (by have := (zmk_z31 M h); omega)).1⟩
  have s33 : zsh (zmk_33 M) 81 = zsh (zmk_32 M) 81 ∧ zj (zmk_33 M) 81 = zj (zmk_32 M) 81 ∧ zi (zmk_33 M) 81 = zi (zmk_32 M) 81 := ⟨(zal_old (t := 1) (n := 6) (by have := (zmk_z32 M h); omega)).1, (zal_io (t := 1) (n := 6) (by have := (zmk_z32 M h); omega)).2, (zal_io (t := 1) (n := 6) (by have := (zmk_z32 M h); omega)).1⟩
  have s34 : zsh (zmk_34 M) 81 = zsh (zmk_33 M) 81 ∧ zj (zmk_34 M) 81 = zj (zmk_33 M) 81 ∧ zi (zmk_34 M) 81 = zi (zmk_33 M) 81 := ⟨(zal_old (t := 1) (n := 7) (by have := (zmk_z33 M h); omega)).1, (zal_io (t := 1) (n := 7) (by have := (zmk_z33 M h); omega)).2, (zal_io (t := 1) (n := 7) (by have := (zmk_z33 M h); omega)).1⟩
  have s35 : zsh (zmk_35 M) 81 = zsh (zmk_34 M) 81 ∧ zj (zmk_35 M) 81 = zj (zmk_34 M) 81 ∧ ∀ j, zi (zmk_35 M) 81 j = if j = 12 then 1 else zi (zmk_34 M) 81 j := ⟨rfl, rfl, fun j => by show (if 81 = 81 ∧ j = 12 then _ else _) = _; simp only [true_and]; rfl⟩
  refine ⟨((((((((((((((((((((((((((((((((((s35.1).trans s34.1).trans s33.1).trans s32.1).trans s31.1).trans s30.1).trans s29.1).trans s28.1).trans s27.1).trans s26.1).trans s25.1).trans s24.1).trans s23.1).trans s22.1).trans s21.1).trans s20.1).trans s19.1).trans s18.1).trans s17.1).trans s16.1).trans s15.1).trans s14.1).trans s13.1).trans s12.1).trans s11.1).trans s10.1).trans s9.1).trans s8.1).trans s7.1).trans s6.1).trans s5.1).trans s4.1).trans s3.1).trans s2.1).trans s1.1, ((((((((((((((((((((((((((((((((((s35.2.1).trans s34.2.1).trans s33.2.1).trans s32.2.1).trans s31.2.1).trans s30.2.1).trans s29.2.1).trans s28.2.1).trans s27.2.1).trans s26.2.1).trans s25.2.1).trans s24.2.1).trans s23.2.1).trans s22.2.1).trans s21.2.1).trans s20.2.1).trans s19.2.1).trans s18.2.1).trans s17.2.1).trans s16.2.1).trans s15.2.1).trans s14.2.1).trans s13.2.1).trans s12.2.1).trans s11.2.1).trans s10.2.1).trans s9.2.1).trans s8.2.1).trans s7.2.1).trans s6.2.1).trans s5.2.1).trans s4.2.1).trans s3.2.1).trans s2.2.1).trans s1.2.1, fun j => ?_⟩
  show zi (zmk_35 M) 81 j = _
  rw [s35.2.2 j]
  rw [s34.2.2]
  rw [s33.2.2]
  rw [s32.2.2]
  rw [s31.2.2]
  rw [s30.2.2]
  rw [s29.2.2]
  rw [s28.2.2]
  rw [s27.2.2]
  rw [s26.2.2]
  rw [s25.2.2]
  rw [s24.2.2]
  rw [s23.2.2]
  rw [s22.2.2]
  rw [s21.2.2]
  rw [s20.2.2]
  rw [s19.2.2]
  rw [s18.2.2]
  rw [s17.2.2]
  rw [s16.2.2]
  rw [s15.2.2]
  rw [s14.2.2]
  rw [s13.2.2]
  rw [s12.2.2]
  rw [s11.2.2]
  rw [s10.2.2]
  rw [s9.2.2]
  rw [s8.2.2]
  rw [s7.2.2]
  rw [s6.2.2]
  rw [s5.2.2]
  rw [s4.2.2]
  rw [s3.2.2 j]
  rw [s2.2.2 j]
  rw [s1.2.2]
theorem zmk_t (M : zMem) (h : zn M = 82) (h2 : (zsh M 81).1 = 14) : zMt (zmk M) := by
  refine ⟨by have := (zmk_nw M).1; omega, by rw [(zmk_o M h).1]; exact h2, ?_⟩
  unfold zMtab
  refine List.forall_mem_cons.mpr ⟨⟨(zmk_a82 M h).1, (zmk_a82 M h).2.1⟩, List.forall_mem_cons.mpr ⟨⟨(zmk_a83 M h).1, (zmk_a83 M h).2.1⟩, List.forall_mem_cons.mpr ⟨⟨(zmk_a84 M h).1, (zmk_a84 M h).2.1⟩, List.forall_mem_cons.mpr ⟨⟨(zmk_a85 M h).1, (zmk_a85 M h).2.1⟩, List.forall_mem_cons.mpr ⟨⟨(zmk_a86 M h).1, (zmk_a86 M h).2.1⟩, List.forall_mem_cons.mpr ⟨⟨(zmk_a87 M h).1, (zmk_a87 M h).2.1⟩, List.forall_mem_cons.mpr ⟨⟨(zmk_a88 M h).1, (zmk_a88 M h).2.1⟩, List.forall_mem_cons.mpr ⟨⟨(zmk_a89 M h).1, (zmk_a89 M h).2.1⟩, List.forall_mem_cons.mpr ⟨⟨(zmk_a90 M h).1, (zmk_a90 M h).2.1⟩, List.forall_mem_cons.mpr ⟨⟨(zmk_a91 M h).1, (zmk_a91 M h).2.1⟩, List.forall_mem_cons.mpr ⟨⟨(zmk_a92 M h).1, (zmk_a92 M h).2.1⟩, List.forall_mem_cons.mpr ⟨⟨(zmk_a93 M h).1, (zmk_a93 M h).2.1⟩, List.forall_mem_cons.mpr ⟨⟨(zmk_a94 M h).1, (zmk_a94 M h).2.1⟩, List.forall_mem_cons.mpr ⟨⟨(zmk_a95 M h).1, (zmk_a95 M h).2.1⟩, List.forall_mem_cons.mpr ⟨⟨(zmk_a96 M h).1, (zmk_a96 M h).2.1⟩, List.forall_mem_cons.mpr ⟨⟨(zmk_a97 M h).1, (zmk_a97 M h).2.1⟩, List.forall_mem_cons.mpr ⟨⟨(zmk_a98 M h).1, (zmk_a98 M h).2.1⟩, List.forall_mem_cons.mpr ⟨⟨(zmk_a99 M h).1, (zmk_a99 M h).2.1⟩, List.forall_mem_cons.mpr ⟨⟨(zmk_a100 M h).1, (zmk_a100 M h).2.1⟩, List.forall_mem_cons.mpr ⟨⟨(zmk_a101 M h).1, (zmk_a101 M h).2.1⟩, List.forall_mem_cons.mpr ⟨⟨(zmk_a102 M h).1, (zmk_a102 M h).2.1⟩, List.forall_mem_cons.mpr ⟨⟨(zmk_a103 M h).1, (zmk_a103 M h).2.1⟩, List.forall_mem_cons.mpr ⟨⟨(zmk_a104 M h).1, (zmk_a104 M h).2.1⟩, List.forall_mem_cons.mpr ⟨⟨(zmk_a105 M h).1, (zmk_a105 M h).2.1⟩, List.forall_mem_cons.mpr ⟨⟨(zmk_a106 M h).1, (zmk_a106 M h).2.1⟩, List.forall_mem_cons.mpr ⟨⟨(zmk_a107 M h).1, (zmk_a107 M h).2.1⟩, List.forall_mem_cons.mpr ⟨⟨(zmk_a108 M h).1, (zmk_a108 M h).2.1⟩, List.forall_mem_cons.mpr ⟨⟨(zmk_a109 M h).1, (zmk_a109 M h).2.1⟩, List.forall_mem_cons.mpr ⟨⟨(zmk_a110 M h).1, (zmk_a110 M h).2.1⟩, List.forall_mem_cons.mpr ⟨⟨(zmk_a111 M h).1, (zmk_a111 M h).2.1⟩, List.forall_mem_cons.mpr ⟨⟨(zmk_a112 M h).1, (zmk_a112 M h).2.1⟩, List.forall_mem_cons.mpr ⟨⟨(zmk_a113 M h).1, (zmk_a113 M h).2.1⟩, fun _ h => absurd h List.not_mem_nil⟩⟩⟩⟩⟩⟩⟩⟩⟩⟩⟩⟩⟩⟩⟩⟩⟩⟩⟩⟩⟩⟩⟩⟩⟩⟩⟩⟩⟩⟩⟩⟩
