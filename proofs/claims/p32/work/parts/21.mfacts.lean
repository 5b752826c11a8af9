def zPr (a jj : Nat) (M N : zMem) : Prop := zsh N a = zsh M a ∧ zf N 81 jj = zf M 81 jj ∧ zi N a = zi M a ∧ zj N a = zj M a
theorem zPr.tr {a jj : Nat} {M N P : zMem} (x : zPr a jj M N) (y : zPr a jj N P) : zPr a jj M P := ⟨y.1.trans x.1, y.2.1.trans x.2.1, y.2.2.1.trans x.2.2.1, y.2.2.2.trans x.2.2.2⟩
theorem zal_io {M : zMem} {t n r : Nat} (h : r < zn M) : zi (zal M t n) r = zi M r ∧ zj (zal M t n) r = zj M r := by
  have hne : ¬ r = M.1.1 := by
    have : zn M = M.1.1 := rfl
    omega
  simp [zi, zj, zal, hne]
theorem zPr.al {a jj j t n : Nat} {v : Option Nat} {M : zMem} (ha : a < zn M) (h81 : 81 < zn M) (hj : jj ≠ j) : zPr a jj M (zsF (zal M t n) 81 j v) :=
  ⟨(zal_old (t := t) (n := n) ha).1, (zup2_n (fun z => hj z.2)).trans (congrFun (zal_old (t := t) (n := n) h81).2 jj), (zal_io (t := t) (n := n) ha).1, (zal_io (t := t) (n := n) ha).2⟩
theorem zPr.i {a jj j : Nat} {v : Int32} {M : zMem} (ha : a ≠ 81) : zPr a jj M (zsI M 81 j v) := ⟨rfl, rfl, zup2_q ha, rfl⟩
theorem zsF_s (M : zMem) (r j : Nat) (v : Option Nat) : zf (zsF M r j v) r j = v := zup2_s
theorem zal_new {M : zMem} {t n : Nat} : zi (zal M t n) (zn M) = (fun _ => 0) ∧ zj (zal M t n) (zn M) = (fun _ => 0) := by simp [zi, zj, zal, zn]
theorem zmk_z1 (M : zMem) (h : zn M = 82) : zn (zmk_1 M) = 83 := by
  have a1 : zn (zmk_1 M) = zn M + 1 := (zn_sF (zal M 1 700) 81 0 _).trans (zn_al M 1 700)
  have := h
  omega
theorem zmk_z2 (M : zMem) (h : zn M = 82) : zn (zmk_2 M) = 83 := by
  have a2 : zn (zmk_2 M) = zn (zmk_1 M) := rfl
  have := (zmk_z1 M h)
  omega
theorem zmk_z3 (M : zMem) (h : zn M = 82) : zn (zmk_3 M) = 83 := by
  have a3 : zn (zmk_3 M) = zn (zmk_2 M) := rfl
  have := (zmk_z2 M h)
  omega
theorem zmk_z4 (M : zMem) (h : zn M = 82) : zn (zmk_4 M) = 84 := by
  have a4 : zn (zmk_4 M) = zn (zmk_3 M) + 1 := (zn_sF (zal (zmk_3 M) 1 24) 81 15 _).trans (zn_al (zmk_3 M) 1 24)
  have := (zmk_z3 M h)
  omega
theorem zmk_z5 (M : zMem) (h : zn M = 82) : zn (zmk_5 M) = 85 := by
  have a5 : zn (zmk_5 M) = zn (zmk_4 M) + 1 := (zn_sF (zal (zmk_4 M) 1 24) 81 19 _).trans (zn_al (zmk_4 M) 1 24)
  have := (zmk_z4 M h)
  omega
theorem zmk_z6 (M : zMem) (h : zn M = 82) : zn (zmk_6 M) = 86 := by
  have a6 : zn (zmk_6 M) = zn (zmk_5 M) + 1 := (zn_sF (zal (zmk_5 M) 1 144) 81 21 _).trans (zn_al (zmk_5 M) 1 144)
  have := (zmk_z5 M h)
  omega
theorem zmk_z7 (M : zMem) (h : zn M = 82) : zn (zmk_7 M) = 87 := by
  have a7 : zn (zmk_7 M) = zn (zmk_6 M) + 1 := (zn_sF (zal (zmk_6 M) 1 6) 81 22 _).trans (zn_al (zmk_6 M) 1 6)
  have := (zmk_z6 M h)
  omega
theorem zmk_z8 (M : zMem) (h : zn M = 82) : zn (zmk_8 M) = 88 := by
  have a8 : zn (zmk_8 M) = zn (zmk_7 M) + 1 := (zn_sF (zal (zmk_7 M) 1 576) 81 23 _).trans (zn_al (zmk_7 M) 1 576)
  have := (zmk_z7 M h)
  omega
theorem zmk_z9 (M : zMem) (h : zn M = 82) : zn (zmk_9 M) = 89 := by
  have a9 : zn (zmk_9 M) = zn (zmk_8 M) + 1 := (zn_sF (zal (zmk_8 M) 1 24) 81 24 _).trans (zn_al (zmk_8 M) 1 24)
  have := (zmk_z8 M h)
  omega
theorem zmk_z10 (M : zMem) (h : zn M = 82) : zn (zmk_10 M) = 90 := by
  have a10 : zn (zmk_10 M) = zn (zmk_9 M) + 1 := (zn_sF (zal (zmk_9 M) 1 128) 81 27 _).trans (zn_al (zmk_9 M) 1 128)
  have := (zmk_z9 M h)
  omega
theorem zmk_z11 (M : zMem) (h : zn M = 82) : zn (zmk_11 M) = 91 := by
  have a11 : zn (zmk_11 M) = zn (zmk_10 M) + 1 := (zn_sF (zal (zmk_10 M) 1 128) 81 28 _).trans (zn_al (zmk_10 M) 1 128)
  have := (zmk_z10 M h)
  omega
theorem zmk_z12 (M : zMem) (h : zn M = 82) : zn (zmk_12 M) = 92 := by
  have a12 : zn (zmk_12 M) = zn (zmk_11 M) + 1 := (zn_sF (zal (zmk_11 M) 1 64) 81 29 _).trans (zn_al (zmk_11 M) 1 64)
  have := (zmk_z11 M h)
  omega
theorem zmk_z13 (M : zMem) (h : zn M = 82) : zn (zmk_13 M) = 93 := by
  have a13 : zn (zmk_13 M) = zn (zmk_12 M) + 1 := (zn_sF (zal (zmk_12 M) 1 64) 81 30 _).trans (zn_al (zmk_12 M) 1 64)
  have := (zmk_z12 M h)
  omega
theorem zmk_z14 (M : zMem) (h : zn M = 82) : zn (zmk_14 M) = 94 := by
  have a14 : zn (zmk_14 M) = zn (zmk_13 M) + 1 := (zn_sF (zal (zmk_13 M) 1 4096) 81 31 _).trans (zn_al (zmk_13 M) 1 4096)
  have := (zmk_z13 M h)
  omega
theorem zmk_z15 (M : zMem) (h : zn M = 82) : zn (zmk_15 M) = 95 := by
  have a15 : zn (zmk_15 M) = zn (zmk_14 M) + 1 := (zn_sF (zal (zmk_14 M) 1 1536) 81 32 _).trans (zn_al (zmk_14 M) 1 1536)
  have := (zmk_z14 M h)
  omega
theorem zmk_z16 (M : zMem) (h : zn M = 82) : zn (zmk_16 M) = 96 := by
  have a16 : zn (zmk_16 M) = zn (zmk_15 M) + 1 := (zn_sF (zal (zmk_15 M) 2 2560) 81 33 _).trans (zn_al (zmk_15 M) 2 2560)
  have := (zmk_z15 M h)
  omega
theorem zmk_z17 (M : zMem) (h : zn M = 82) : zn (zmk_17 M) = 97 := by
  have a17 : zn (zmk_17 M) = zn (zmk_16 M) + 1 := (zn_sF (zal (zmk_16 M) 2 64) 81 34 _).trans (zn_al (zmk_16 M) 2 64)
  have := (zmk_z16 M h)
  omega
theorem zmk_z18 (M : zMem) (h : zn M = 82) : zn (zmk_18 M) = 98 := by
  have a18 : zn (zmk_18 M) = zn (zmk_17 M) + 1 := (zn_sF (zal (zmk_17 M) 2 64) 81 35 _).trans (zn_al (zmk_17 M) 2 64)
  have := (zmk_z17 M h)
  omega
theorem zmk_z19 (M : zMem) (h : zn M = 82) : zn (zmk_19 M) = 99 := by
  have a19 : zn (zmk_19 M) = zn (zmk_18 M) + 1 := (zn_sF (zal (zmk_18 M) 2 64) 81 36 _).trans (zn_al (zmk_18 M) 2 64)
  have := (zmk_z18 M h)
  omega
theorem zmk_z20 (M : zMem) (h : zn M = 82) : zn (zmk_20 M) = 100 := by
  have a20 : zn (zmk_20 M) = zn (zmk_19 M) + 1 := (zn_sF (zal (zmk_19 M) 2 64) 81 37 _).trans (zn_al (zmk_19 M) 2 64)
  have := (zmk_z19 M h)
  omega
theorem zmk_z21 (M : zMem) (h : zn M = 82) : zn (zmk_21 M) = 101 := by
  have a21 : zn (zmk_21 M) = zn (zmk_20 M) + 1 := (zn_sF (zal (zmk_20 M) 1 80) 81 40 _).trans (zn_al (zmk_20 M) 1 80)
  have := (zmk_z20 M h)
  omega
theorem zmk_z22 (M : zMem) (h : zn M = 82) : zn (zmk_22 M) = 102 := by
  have a22 : zn (zmk_22 M) = zn (zmk_21 M) + 1 := (zn_sF (zal (zmk_21 M) 2 8) 81 44 _).trans (zn_al (zmk_21 M) 2 8)
  have := (zmk_z21 M h)
  omega
theorem zmk_z23 (M : zMem) (h : zn M = 82) : zn (zmk_23 M) = 103 := by
  have a23 : zn (zmk_23 M) = zn (zmk_22 M) + 1 := (zn_sF (zal (zmk_22 M) 2 512) 81 45 _).trans (zn_al (zmk_22 M) 2 512)
  have := (zmk_z22 M h)
  omega
theorem zmk_z24 (M : zMem) (h : zn M = 82) : zn (zmk_24 M) = 104 := by
  have a24 : zn (zmk_24 M) = zn (zmk_23 M) + 1 := (zn_sF (zal (zmk_23 M) 2 8) 81 46 _).trans (zn_al (zmk_23 M) 2 8)
  have := (zmk_z23 M h)
  omega
theorem zmk_z25 (M : zMem) (h : zn M = 82) : zn (zmk_25 M) = 105 := by
  have a25 : zn (zmk_25 M) = zn (zmk_24 M) + 1 := (zn_sF (zal (zmk_24 M) 2 512) 81 47 _).trans (zn_al (zmk_24 M) 2 512)
  have := (zmk_z24 M h)
  omega
theorem zmk_z26 (M : zMem) (h : zn M = 82) : zn (zmk_26 M) = 106 := by
  have a26 : zn (zmk_26 M) = zn (zmk_25 M) + 1 := (zn_sF (zal (zmk_25 M) 2 64) 81 48 _).trans (zn_al (zmk_25 M) 2 64)
  have := (zmk_z25 M h)
  omega
theorem zmk_z27 (M : zMem) (h : zn M = 82) : zn (zmk_27 M) = 107 := by
  have a27 : zn (zmk_27 M) = zn (zmk_26 M) + 1 := (zn_sF (zal (zmk_26 M) 1 128) 81 49 _).trans (zn_al (zmk_26 M) 1 128)
  have := (zmk_z26 M h)
  omega
theorem zmk_z28 (M : zMem) (h : zn M = 82) : zn (zmk_28 M) = 108 := by
  have a28 : zn (zmk_28 M) = zn (zmk_27 M) + 1 := (zn_sF (zal (zmk_27 M) 2 64) 81 50 _).trans (zn_al (zmk_27 M) 2 64)
  have := (zmk_z27 M h)
  omega
theorem zmk_z29 (M : zMem) (h : zn M = 82) : zn (zmk_29 M) = 109 := by
  have a29 : zn (zmk_29 M) = zn (zmk_28 M) + 1 := (zn_sF (zal (zmk_28 M) 2 64) 81 51 _).trans (zn_al (zmk_28 M) 2 64)
  have := (zmk_z28 M h)
  omega
theorem zmk_z30 (M : zMem) (h : zn M = 82) : zn (zmk_30 M) = 110 := by
  have a30 : zn (zmk_30 M) = zn (zmk_29 M) + 1 := (zn_sF (zal (zmk_29 M) 1 24) 81 54 _).trans (zn_al (zmk_29 M) 1 24)
  have := (zmk_z29 M h)
  omega
theorem zmk_z31 (M : zMem) (h : zn M = 82) : zn (zmk_31 M) = 111 := by
  have a31 : zn (zmk_31 M) = zn (zmk_30 M) + 1 := (zn_sF (zal (zmk_30 M) 1 65536) 81 56 _).trans (zn_al (zmk_30 M) 1 65536)
  have := (zmk_z30 M h)
  omega
theorem zmk_z32 (M : zMem) (h : zn M = 82) : zn (zmk_32 M) = 112 := by
  have a32 : zn (zmk_32 M) = zn (zmk_31 M) + 1 := (zn_sF (zal (zmk_31 M) 2 768) 81 59 _).trans (zn_al (zmk_31 M) 2 768)
  have := (zmk_z31 M h)
  omega
theorem zmk_z33 (M : zMem) (h : zn M = 82) : zn (zmk_33 M) = 113 := by
  have a33 : zn (zmk_33 M) = zn (zmk_32 M) + 1 := (zn_sF (zal (zmk_32 M) 1 6) 81 61 _).trans (zn_al (zmk_32 M) 1 6)
  have := (zmk_z32 M h)
  omega
theorem zmk_a82 (M : zMem) (h : zn M = 82) : zf (zmk M) 81 0 = some 82 ∧ zsh (zmk M) 82 = (1, 700) ∧ zi (zmk M) 82 = (fun _ => 0) ∧ zj (zmk M) 82 = (fun _ => 0) := by
  have hz : zn M = 82 := h
  have b1 : zf (zmk_1 M) 81 0 = some (zn M) := zsF_s (zal M 1 700) 81 0 (some (zn M))
  have b2 : zsh (zmk_1 M) (zn M) = (1, 700) := zal_sh (M := M) (t := 1) (n := 700)
  have b3 : zi (zmk_1 M) (zn M) = (fun _ => 0) ∧ zj (zmk_1 M) (zn M) = (fun _ => 0) := zal_new (M := M) (t := 1) (n := 700)
  rw [hz] at b1 b2 b3
  have p2 : zPr 82 0 (zmk_1 M) (zmk_2 M) := zPr.i (by decide)
  have p3 : zPr 82 0 (zmk_1 M) (zmk_3 M) := p2.tr (zPr.i (by decide))
  have p4 : zPr 82 0 (zmk_1 M) (zmk_4 M) := p3.tr (zPr.al (t := 1) (n := 24) (by have := zmk_z3 M h; omega) (by have := zmk_z3 M h; (exact zo_1649 this)) (by decide))
  have p5 : zPr 82 0 (zmk_1 M) (zmk_5 M) := p4.tr (zPr.al (t := 1) (n := 24) (by have := zmk_z4 M h; omega) (by have := zmk_z4 M h; (exact zo_1651 this)) (by decide))
  have p6 : zPr 82 0 (zmk_1 M) (zmk_6 M) := p5.tr (zPr.al (t := 1) (n := 144) (by have := zmk_z5 M h; omega) (by have := zmk_z5 M h; (exact zo_1653 this)) (by decide))
  have p7 : zPr 82 0 (zmk_1 M) (zmk_7 M) := p6.tr (zPr.al (t := 1) (n := 6) (by have := zmk_z6 M h; omega) (by have := zmk_z6 M h; (exact zo_1655 this)) (by decide))
  have p8 : zPr 82 0 (zmk_1 M) (zmk_8 M) := p7.tr (zPr.al (t := 1) (n := 576) (by have := zmk_z7 M h; omega) (by have := zmk_z7 M h; (exact zo_1657 this)) (by decide))
  have p9 : zPr 82 0 (zmk_1 M) (zmk_9 M) := p8.tr (zPr.al (t := 1) (n := 24) (by have := zmk_z8 M h; omega) (by have := zmk_z8 M h; (exact zo_1659 this)) (by decide))
  have p10 : zPr 82 0 (zmk_1 M) (zmk_10 M) := p9.tr (zPr.al (t := 1) (n := 128) (by have := zmk_z9 M h; omega) (by have := zmk_z9 M h; (exact zo_1661 this)) (by decide))
  have p11 : zPr 82 0 (zmk_1 M) (zmk_11 M) := p10.tr (zPr.al (t := 1) (n := 128) (by have := zmk_z10 M h; omega) (by have := zmk_z10 M h; (exact zo_1663 this)) (by decide))
  have p12 : zPr 82 0 (zmk_1 M) (zmk_12 M) := p11.tr (zPr.al (t := 1) (n := 64) (by have := zmk_z11 M h; omega) (by have := zmk_z11 M h; (exact zo_1665 this)) (by decide))
  have p13 : zPr 82 0 (zmk_1 M) (zmk_13 M) := p12.tr (zPr.al (t := 1) (n := 64) (by have := zmk_z12 M h; omega) (by have := zmk_z12 M h; (exact zo_1667 this)) (by decide))
  have p14 : zPr 82 0 (zmk_1 M) (zmk_14 M) := p13.tr (zPr.al (t := 1) (n := 4096) (by have := zmk_z13 M h; omega) (by have := zmk_z13 M h; (exact zo_1669 this)) (by decide))
  have p15 : zPr 82 0 (zmk_1 M) (zmk_15 M) := p14.tr (zPr.al (t := 1) (n := 1536) (by have := zmk_z14 M h; omega) (by have := zmk_z14 M h; (exact zo_1671 this)) (by decide))
  have p16 : zPr 82 0 (zmk_1 M) (zmk_16 M) := p15.tr (zPr.al (t := 2) (n := 2560) (by have := zmk_z15 M h; omega) (by have := zmk_z15 M h; (exact zo_1673 this)) (by decide))
  have p17 : zPr 82 0 (zmk_1 M) (zmk_17 M) := p16.tr (zPr.al (t := 2) (n := 64) (by have := zmk_z16 M h; omega) (by have := zmk_z16 M h; (exact zo_1675 this)) (by decide))
  have p18 : zPr 82 0 (zmk_1 M) (zmk_18 M) := p17.tr (zPr.al (t := 2) (n := 64) (by have := zmk_z17 M h; omega) (by have := zmk_z17 M h; (exact zo_1677 this)) (by decide))
  have p19 : zPr 82 0 (zmk_1 M) (zmk_19 M) := p18.tr (zPr.al (t := 2) (n := 64) (by have := zmk_z18 M h; omega) (by have := zmk_z18 M h; (exact zo_1679 this)) (by decide))
  have p20 : zPr 82 0 (zmk_1 M) (zmk_20 M) := p19.tr (zPr.al (t := 2) (n := 64) (by have := zmk_z19 M h; omega) (by have := zmk_z19 M h; (exact zo_1681 this)) (by decide))
  have p21 : zPr 82 0 (zmk_1 M) (zmk_21 M) := p20.tr (zPr.al (t := 1) (n := 80) (by have := zmk_z20 M h; omega) (by have := zmk_z20 M h; (exact zo_1683 this)) (by decide))
  have p22 : zPr 82 0 (zmk_1 M) (zmk_22 M) := p21.tr (zPr.al (t := 2) (n := 8) (by have := zmk_z21 M h; omega) (by have := zmk_z21 M h; (exact zo_1685 this)) (by decide))
  have p23 : zPr 82 0 (zmk_1 M) (zmk_23 M) := p22.tr (zPr.al (t := 2) (n := 512) (by have := zmk_z22 M h; omega) (by have := zmk_z22 M h; (exact zo_1687 this)) (by decide))
  have p24 : zPr 82 0 (zmk_1 M) (zmk_24 M) := p23.tr (zPr.al (t := 2) (n := 8) (by have := zmk_z23 M h; omega) (by have := zmk_z23 M h; (exact zo_1689 this)) (by decide))
  have p25 : zPr 82 0 (zmk_1 M) (zmk_25 M) := p24.tr (zPr.al (t := 2) (n := 512) (by have := zmk_z24 M h; omega) (by have := zmk_z24 M h; (exact zo_1691 this)) (by decide))
  have p26 : zPr 82 0 (zmk_1 M) (zmk_26 M) := p25.tr (zPr.al (t := 2) (n := 64) (by have := zmk_z25 M h; omega) (by have := zmk_z25 M h; (exact zo_1693 this)) (by decide))
  have p27 : zPr 82 0 (zmk_1 M) (zmk_27 M) := p26.tr (zPr.al (t := 1) (n := 128) (by have := zmk_z26 M h; omega) (by have := zmk_z26 M h; (exact zo_1695 this)) (by decide))
  have p28 : zPr 82 0 (zmk_1 M) (zmk_28 M) := p27.tr (zPr.al (t := 2) (n := 64) (by have := zmk_z27 M h; omega) (by have := zmk_z27 M h; (exact zo_1697 this)) (by decide))
  have p29 : zPr 82 0 (zmk_1 M) (zmk_29 M) := p28.tr (zPr.al (t := 2) (n := 64) (by have := zmk_z28 M h; omega) (by have := zmk_z28 M h; (exact zo_1699 this)) (by decide))
  have p30 : zPr 82 0 (zmk_1 M) (zmk_30 M) := p29.tr (zPr.al (t := 1) (n := 24) (by have := zmk_z29 M h; omega) (by have := zmk_z29 M h; (exact zo_1701 this)) (by decide))
  have p31 : zPr 82 0 (zmk_1 M) (zmk_31 M) := p30.tr (zPr.al (t := 1) (n := 65536) (by have := zmk_z30 M h; omega) (by have := zmk_z30 M h; (exact zo_1703 this)) (by decide))
  have p32 : zPr 82 0 (zmk_1 M) (zmk_32 M) := p31.tr (zPr.al (t := 2) (n := 768) (by have := zmk_z31 M h; omega) (by have := zmk_z31 M h; (exact zo_1705 this)) (by decide))
  have p33 : zPr 82 0 (zmk_1 M) (zmk_33 M) := p32.tr (zPr.al (t := 1) (n := 6) (by have := zmk_z32 M h; omega) (by have := zmk_z32 M h; (exact zo_1707 this)) (by decide))
  have p34 : zPr 82 0 (zmk_1 M) (zmk_34 M) := p33.tr (zPr.al (t := 1) (n := 7) (by have := zmk_z33 M h; omega) (by have := zmk_z33 M h; (exact zo_1709 this)) (by decide))
  have p35 : zPr 82 0 (zmk_1 M) (zmk_35 M) := p34.tr (zPr.i (by decide))
  exact ⟨p35.2.1.trans b1, p35.1.trans b2, p35.2.2.1.trans b3.1, p35.2.2.2.trans b3.2⟩
theorem zmk_a83 (M : zMem) (h : zn M = 82) : zf (zmk M) 81 15 = some 83 ∧ zsh (zmk M) 83 = (1, 24) ∧ zi (zmk M) 83 = (fun _ => 0) ∧ zj (zmk M) 83 = (fun _ => 0) := by
  have hz : zn (zmk_3 M) = 83 := (zmk_z3 M h)
  have b1 : zf (zmk_4 M) 81 15 = some (zn (zmk_3 M)) := zsF_s (zal (zmk_3 M) 1 24) 81 15 (some (zn (zmk_3 M)))
  have b2 : zsh (zmk_4 M) (zn (zmk_3 M)) = (1, 24) := zal_sh (M := (zmk_3 M)) (t := 1) (n := 24)
  have b3 : zi (zmk_4 M) (zn (zmk_3 M)) = (fun _ => 0) ∧ zj (zmk_4 M) (zn (zmk_3 M)) = (fun _ => 0) := zal_new (M := (zmk_3 M)) (t := 1) (n := 24)
  rw [hz] at b1 b2 b3
  have p5 : zPr 83 15 (zmk_4 M) (zmk_5 M) := zPr.al (t := 1) (n := 24) (by have := zmk_z4 M h; omega) (by have := zmk_z4 M h; (exact zo_1651 this)) (by decide)
  have p6 : zPr 83 15 (zmk_4 M) (zmk_6 M) := p5.tr (zPr.al (t := 1) (n := 144) (by have := zmk_z5 M h; omega) (by have := zmk_z5 M h; (exact zo_1653 this)) (by decide))
  have p7 : zPr 83 15 (zmk_4 M) (zmk_7 M) := p6.tr (zPr.al (t := 1) (n := 6) (by have := zmk_z6 M h; omega) (by have := zmk_z6 M h; (exact zo_1655 this)) (by decide))
  have p8 : zPr 83 15 (zmk_4 M) (zmk_8 M) := p7.tr (zPr.al (t := 1) (n := 576) (by have := zmk_z7 M h; omega) (by have := zmk_z7 M h; (exact zo_1657 this)) (by decide))
  have p9 : zPr 83 15 (zmk_4 M) (zmk_9 M) := p8.tr (zPr.al (t := 1) (n := 24) (by have := zmk_z8 M h; omega) (by have := zmk_z8 M h; (exact zo_1659 this)) (by decide))
  have p10 : zPr 83 15 (zmk_4 M) (zmk_10 M) := p9.tr (zPr.al (t := 1) (n := 128) (by have := zmk_z9 M h; omega) (by have := zmk_z9 M h; (exact zo_1661 this)) (by decide))
  have p11 : zPr 83 15 (zmk_4 M) (zmk_11 M) := p10.tr (zPr.al (t := 1) (n := 128) (by have := zmk_z10 M h; omega) (by have := zmk_z10 M h; (exact zo_1663 this)) (by decide))
  have p12 : zPr 83 15 (zmk_4 M) (zmk_12 M) := p11.tr (zPr.al (t := 1) (n := 64) (by have := zmk_z11 M h; omega) (by have := zmk_z11 M h; (exact zo_1665 this)) (by decide))
  have p13 : zPr 83 15 (zmk_4 M) (zmk_13 M) := p12.tr (zPr.al (t := 1) (n := 64) (by have := zmk_z12 M h; omega) (by have := zmk_z12 M h; (exact zo_1667 this)) (by decide))
  have p14 : zPr 83 15 (zmk_4 M) (zmk_14 M) := p13.tr (zPr.al (t := 1) (n := 4096) (by have := zmk_z13 M h; omega) (by have := zmk_z13 M h; (exact zo_1669 this)) (by decide))
  have p15 : zPr 83 15 (zmk_4 M) (zmk_15 M) := p14.tr (zPr.al (t := 1) (n := 1536) (by have := zmk_z14 M h; omega) (by have := zmk_z14 M h; (exact zo_1671 this)) (by decide))
  have p16 : zPr 83 15 (zmk_4 M) (zmk_16 M) := p15.tr (zPr.al (t := 2) (n := 2560) (by have := zmk_z15 M h; omega) (by have := zmk_z15 M h; (exact zo_1673 this)) (by decide))
  have p17 : zPr 83 15 (zmk_4 M) (zmk_17 M) := p16.tr (zPr.al (t := 2) (n := 64) (by have := zmk_z16 M h; omega) (by have := zmk_z16 M h; (exact zo_1675 this)) (by decide))
  have p18 : zPr 83 15 (zmk_4 M) (zmk_18 M) := p17.tr (zPr.al (t := 2) (n := 64) (by have := zmk_z17 M h; omega) (by have := zmk_z17 M h; (exact zo_1677 this)) (by decide))
  have p19 : zPr 83 15 (zmk_4 M) (zmk_19 M) := p18.tr (zPr.al (t := 2) (n := 64) (by have := zmk_z18 M h; omega) (by have := zmk_z18 M h; (exact zo_1679 this)) (by decide))
  have p20 : zPr 83 15 (zmk_4 M) (zmk_20 M) := p19.tr (zPr.al (t := 2) (n := 64) (by have := zmk_z19 M h; omega) (by have := zmk_z19 M h; (exact zo_1681 this)) (by decide))
  have p21 : zPr 83 15 (zmk_4 M) (zmk_21 M) := p20.tr (zPr.al (t := 1) (n := 80) (by have := zmk_z20 M h; omega) (by have := zmk_z20 M h; (exact zo_1683 this)) (by decide))
  have p22 : zPr 83 15 (zmk_4 M) (zmk_22 M) := p21.tr (zPr.al (t := 2) (n := 8) (by have := zmk_z21 M h; omega) (by have := zmk_z21 M h; (exact zo_1685 this)) (by decide))
  have p23 : zPr 83 15 (zmk_4 M) (zmk_23 M) := p22.tr (zPr.al (t := 2) (n := 512) (by have := zmk_z22 M h; omega) (by have := zmk_z22 M h; (exact zo_1687 this)) (by decide))
  have p24 : zPr 83 15 (zmk_4 M) (zmk_24 M) := p23.tr (zPr.al (t := 2) (n := 8) (by have := zmk_z23 M h; omega) (by have := zmk_z23 M h; (exact zo_1689 this)) (by decide))
  have p25 : zPr 83 15 (zmk_4 M) (zmk_25 M) := p24.tr (zPr.al (t := 2) (n := 512) (by have := zmk_z24 M h; omega) (by have := zmk_z24 M h; (exact zo_1691 this)) (by decide))
  have p26 : zPr 83 15 (zmk_4 M) (zmk_26 M) := p25.tr (zPr.al (t := 2) (n := 64) (by have := zmk_z25 M h; omega) (by have := zmk_z25 M h; (exact zo_1693 this)) (by decide))
  have p27 : zPr 83 15 (zmk_4 M) (zmk_27 M) := p26.tr (zPr.al (t := 1) (n := 128) (by have := zmk_z26 M h; omega) (by have := zmk_z26 M h; (exact zo_1695 this)) (by decide))
  have p28 : zPr 83 15 (zmk_4 M) (zmk_28 M) := p27.tr (zPr.al (t := 2) (n := 64) (by have := zmk_z27 M h; omega) (by have := zmk_z27 M h; (exact zo_1697 this)) (by decide))
  have p29 : zPr 83 15 (zmk_4 M) (zmk_29 M) := p28.tr (zPr.al (t := 2) (n := 64) (by have := zmk_z28 M h; omega) (by have := zmk_z28 M h; (exact zo_1699 this)) (by decide))
  have p30 : zPr 83 15 (zmk_4 M) (zmk_30 M) := p29.tr (zPr.al (t := 1) (n := 24) (by have := zmk_z29 M h; omega) (by have := zmk_z29 M h; (exact zo_1701 this)) (by decide))
  have p31 : zPr 83 15 (zmk_4 M) (zmk_31 M) := p30.tr (zPr.al (t := 1) (n := 65536) (by have := zmk_z30 M h; omega) (by have := zmk_z30 M h; (exact zo_1703 this)) (by decide))
  have p32 : zPr 83 15 (zmk_4 M) (zmk_32 M) := p31.tr (zPr.al (t := 2) (n := 768) (by have := zmk_z31 M h; omega) (by have := zmk_z31 M h; (exact zo_1705 this)) (by decide))
  have p33 : zPr 83 15 (zmk_4 M) (zmk_33 M) := p32.tr (zPr.al (t := 1) (n := 6) (by have := zmk_z32 M h; omega) (by have := zmk_z32 M h; (exact zo_1707 this)) (by decide))
  have p34 : zPr 83 15 (zmk_4 M) (zmk_34 M) := p33.tr (zPr.al (t := 1) (n := 7) (by have := zmk_z33 M h; omega) (by have := zmk_z33 M h; (exact zo_1709 this)) (by decide))
  have p35 : zPr 83 15 (zmk_4 M) (zmk_35 M) := p34.tr (zPr.i (by decide))
  exact ⟨p35.2.1.trans b1, p35.1.trans b2, p35.2.2.1.trans b3.1, p35.2.2.2.trans b3.2⟩
theorem zmk_a84 (M : zMem) (h : zn M = 82) : zf (zmk M) 81 19 = some 84 ∧ zsh (zmk M) 84 = (1, 24) ∧ zi (zmk M) 84 = (fun _ => 0) ∧ zj (zmk M) 84 = (fun _ => 0) := by
  have hz : zn (zmk_4 M) = 84 := (zmk_z4 M h)
  have b1 : zf (zmk_5 M) 81 19 = some (zn (zmk_4 M)) := zsF_s (zal (zmk_4 M) 1 24) 81 19 (some (zn (zmk_4 M)))
  have b2 : zsh (zmk_5 M) (zn (zmk_4 M)) = (1, 24) := zal_sh (M := (zmk_4 M)) (t := 1) (n := 24)
  have b3 : zi (zmk_5 M) (zn (zmk_4 M)) = (fun _ => 0) ∧ zj (zmk_5 M) (zn (zmk_4 M)) = (fun _ => 0) := zal_new (M := (zmk_4 M)) (t := 1) (n := 24)
  rw [hz] at b1 b2 b3
  have p6 : zPr 84 19 (zmk_5 M) (zmk_6 M) := zPr.al (t := 1) (n := 144) (by have := zmk_z5 M h; omega) (by have := zmk_z5 M h; (exact zo_1653 this)) (by decide)
  have p7 : zPr 84 19 (zmk_5 M) (zmk_7 M) := p6.tr (zPr.al (t := 1) (n := 6) (by have := zmk_z6 M h; omega) (by have := zmk_z6 M h; (exact zo_1655 this)) (by decide))
  have p8 : zPr 84 19 (zmk_5 M) (zmk_8 M) := p7.tr (zPr.al (t := 1) (n := 576) (by have := zmk_z7 M h; omega) (by have := zmk_z7 M h; (exact zo_1657 this)) (by decide))
  have p9 : zPr 84 19 (zmk_5 M) (zmk_9 M) := p8.tr (zPr.al (t := 1) (n := 24) (by have := zmk_z8 M h; omega) (by have := zmk_z8 M h; (exact zo_1659 this)) (by decide))
  have p10 : zPr 84 19 (zmk_5 M) (zmk_10 M) := p9.tr (zPr.al (t := 1) (n := 128) (by have := zmk_z9 M h; omega) (by have := zmk_z9 M h; (exact zo_1661 this)) (by decide))
  have p11 : zPr 84 19 (zmk_5 M) (zmk_11 M) := p10.tr (zPr.al (t := 1) (n := 128) (by have := zmk_z10 M h; omega) (by have := zmk_z10 M h; (exact zo_1663 this)) (by decide))
  have p12 : zPr 84 19 (zmk_5 M) (zmk_12 M) := p11.tr (zPr.al (t := 1) (n := 64) (by have := zmk_z11 M h; omega) (by have := zmk_z11 M h; (exact zo_1665 this)) (by decide))
  have p13 : zPr 84 19 (zmk_5 M) (zmk_13 M) := p12.tr (zPr.al (t := 1) (n := 64) (by have := zmk_z12 M h; omega) (by have := zmk_z12 M h; (exact zo_1667 this)) (by decide))
  have p14 : zPr 84 19 (zmk_5 M) (zmk_14 M) := p13.tr (zPr.al (t := 1) (n := 4096) (by have := zmk_z13 M h; omega) (by have := zmk_z13 M h; (exact zo_1669 this)) (by decide))
  have p15 : zPr 84 19 (zmk_5 M) (zmk_15 M) := p14.tr (zPr.al (t := 1) (n := 1536) (by have := zmk_z14 M h; omega) (by have := zmk_z14 M h; (exact zo_1671 this)) (by decide))
  have p16 : zPr 84 19 (zmk_5 M) (zmk_16 M) := p15.tr (zPr.al (t := 2) (n := 2560) (by have := zmk_z15 M h; omega) (by have := zmk_z15 M h; (exact zo_1673 this)) (by decide))
  have p17 : zPr 84 19 (zmk_5 M) (zmk_17 M) := p16.tr (zPr.al (t := 2) (n := 64) (by have := zmk_z16 M h; omega) (by have := zmk_z16 M h; (exact zo_1675 this)) (by decide))
  have p18 : zPr 84 19 (zmk_5 M) (zmk_18 M) := p17.tr (zPr.al (t := 2) (n := 64) (by have := zmk_z17 M h; omega) (by have := zmk_z17 M h; (exact zo_1677 this)) (by decide))
  have p19 : zPr 84 19 (zmk_5 M) (zmk_19 M) := p18.tr (zPr.al (t := 2) (n := 64) (by have := zmk_z18 M h; omega) (by have := zmk_z18 M h; (exact zo_1679 this)) (by decide))
  have p20 : zPr 84 19 (zmk_5 M) (zmk_20 M) := p19.tr (zPr.al (t := 2) (n := 64) (by have := zmk_z19 M h; omega) (by have := zmk_z19 M h; (exact zo_1681 this)) (by decide))
  have p21 : zPr 84 19 (zmk_5 M) (zmk_21 M) := p20.tr (zPr.al (t := 1) (n := 80) (by have := zmk_z20 M h; omega) (by have := zmk_z20 M h; (exact zo_1683 this)) (by decide))
  have p22 : zPr 84 19 (zmk_5 M) (zmk_22 M) := p21.tr (zPr.al (t := 2) (n := 8) (by have := zmk_z21 M h; omega) (by have := zmk_z21 M h; (exact zo_1685 this)) (by decide))
  have p23 : zPr 84 19 (zmk_5 M) (zmk_23 M) := p22.tr (zPr.al (t := 2) (n := 512) (by have := zmk_z22 M h; omega) (by have := zmk_z22 M h; (exact zo_1687 this)) (by decide))
  have p24 : zPr 84 19 (zmk_5 M) (zmk_24 M) := p23.tr (zPr.al (t := 2) (n := 8) (by have := zmk_z23 M h; omega) (by have := zmk_z23 M h; (exact zo_1689 this)) (by decide))
  have p25 : zPr 84 19 (zmk_5 M) (zmk_25 M) := p24.tr (zPr.al (t := 2) (n := 512) (by have := zmk_z24 M h; omega) (by have := zmk_z24 M h; (exact zo_1691 this)) (by decide))
  have p26 : zPr 84 19 (zmk_5 M) (zmk_26 M) := p25.tr (zPr.al (t := 2) (n := 64) (by have := zmk_z25 M h; omega) (by have := zmk_z25 M h; (exact zo_1693 this)) (by decide))
  have p27 : zPr 84 19 (zmk_5 M) (zmk_27 M) := p26.tr (zPr.al (t := 1) (n := 128) (by have := zmk_z26 M h; omega) (by have := zmk_z26 M h; (exact zo_1695 this)) (by decide))
  have p28 : zPr 84 19 (zmk_5 M) (zmk_28 M) := p27.tr (zPr.al (t := 2) (n := 64) (by have := zmk_z27 M h; omega) (by have := zmk_z27 M h; (exact zo_1697 this)) (by decide))
  have p29 : zPr 84 19 (zmk_5 M) (zmk_29 M) := p28.tr (zPr.al (t := 2) (n := 64) (by have := zmk_z28 M h; omega) (by have := zmk_z28 M h; (exact zo_1699 this)) (by decide))
  have p30 : zPr 84 19 (zmk_5 M) (zmk_30 M) := p29.tr (zPr.al (t := 1) (n := 24) (by have := zmk_z29 M h; omega) (by have := zmk_z29 M h; (exact zo_1701 this)) (by decide))
  have p31 : zPr 84 19 (zmk_5 M) (zmk_31 M) := p30.tr (zPr.al (t := 1) (n := 65536) (by have := zmk_z30 M h; omega) (by have := zmk_z30 M h; (exact zo_1703 this)) (by decide))
  have p32 : zPr 84 19 (zmk_5 M) (zmk_32 M) := p31.tr (zPr.al (t := 2) (n := 768) (by have := zmk_z31 M h; omega) (by have := zmk_z31 M h; (exact zo_1705 this)) (by decide))
  have p33 : zPr 84 19 (zmk_5 M) (zmk_33 M) := p32.tr (zPr.al (t := 1) (n := 6) (by have := zmk_z32 M h; omega) (by have := zmk_z32 M h; (exact zo_1707 this)) (by decide))
  have p34 : zPr 84 19 (zmk_5 M) (zmk_34 M) := p33.tr (zPr.al (t := 1) (n := 7) (by have := zmk_z33 M h; omega) (by have := zmk_z33 M h; (exact zo_1709 this)) (by decide))
  have p35 : zPr 84 19 (zmk_5 M) (zmk_35 M) := p34.tr (zPr.i (by decide))
  exact ⟨p35.2.1.trans b1, p35.1.trans b2, p35.2.2.1.trans b3.1, p35.2.2.2.trans b3.2⟩
theorem zmk_a85 (M : zMem) (h : zn M = 82) : zf (zmk M) 81 21 = some 85 ∧ zsh (zmk M) 85 = (1, 144) ∧ zi (zmk M) 85 = (fun _ => 0) ∧ zj (zmk M) 85 = (fun _ => 0) := by
  have hz : zn (zmk_5 M) = 85 := (zmk_z5 M h)
  have b1 : zf (zmk_6 M) 81 21 = some (zn (zmk_5 M)) := zsF_s (zal (zmk_5 M) 1 144) 81 21 (some (zn (zmk_5 M)))
  have b2 : zsh (zmk_6 M) (zn (zmk_5 M)) = (1, 144) := zal_sh (M := (zmk_5 M)) (t := 1) (n := 144)
  have b3 : zi (zmk_6 M) (zn (zmk_5 M)) = (fun _ => 0) ∧ zj (zmk_6 M) (zn (zmk_5 M)) = (fun _ => 0) := zal_new (M := (zmk_5 M)) (t := 1) (n := 144)
  rw [hz] at b1 b2 b3
  have p7 : zPr 85 21 (zmk_6 M) (zmk_7 M) := zPr.al (t := 1) (n := 6) (by have := zmk_z6 M h; omega) (by have := zmk_z6 M h; (exact zo_1655 this)) (by decide)
  have p8 : zPr 85 21 (zmk_6 M) (zmk_8 M) := p7.tr (zPr.al (t := 1) (n := 576) (by have := zmk_z7 M h; omega) (by have := zmk_z7 M h; (exact zo_1657 this)) (by decide))
  have p9 : zPr 85 21 (zmk_6 M) (zmk_9 M) := p8.tr (zPr.al (t := 1) (n := 24) (by have := zmk_z8 M h; omega) (by have := zmk_z8 M h; (exact zo_1659 this)) (by decide))
  have p10 : zPr 85 21 (zmk_6 M) (zmk_10 M) := p9.tr (zPr.al (t := 1) (n := 128) (by have := zmk_z9 M h; omega) (by have := zmk_z9 M h; (exact zo_1661 this)) (by decide))
  have p11 : zPr 85 21 (zmk_6 M) (zmk_11 M) := p10.tr (zPr.al (t := 1) (n := 128) (by have := zmk_z10 M h; omega) (by have := zmk_z10 M h; (exact zo_1663 this)) (by decide))
  have p12 : zPr 85 21 (zmk_6 M) (zmk_12 M) := p11.tr (zPr.al (t := 1) (n := 64) (by have := zmk_z11 M h; omega) (by have := zmk_z11 M h; (exact zo_1665 this)) (by decide))
  have p13 : zPr 85 21 (zmk_6 M) (zmk_13 M) := p12.tr (zPr.al (t := 1) (n := 64) (by have := zmk_z12 M h; omega) (by have := zmk_z12 M h; (exact zo_1667 this)) (by decide))
  have p14 : zPr 85 21 (zmk_6 M) (zmk_14 M) := p13.tr (zPr.al (t := 1) (n := 4096) (by have := zmk_z13 M h; omega) (by have := zmk_z13 M h; (exact zo_1669 this)) (by decide))
  have p15 : zPr 85 21 (zmk_6 M) (zmk_15 M) := p14.tr (zPr.al (t := 1) (n := 1536) (by have := zmk_z14 M h; omega) (by have := zmk_z14 M h; (exact zo_1671 this)) (by decide))
  have p16 : zPr 85 21 (zmk_6 M) (zmk_16 M) := p15.tr (zPr.al (t := 2) (n := 2560) (by have := zmk_z15 M h; omega) (by have := zmk_z15 M h; (exact zo_1673 this)) (by decide))
  have p17 : zPr 85 21 (zmk_6 M) (zmk_17 M) := p16.tr (zPr.al (t := 2) (n := 64) (by have := zmk_z16 M h; omega) (by have := zmk_z16 M h; (exact zo_1675 this)) (by decide))
  have p18 : zPr 85 21 (zmk_6 M) (zmk_18 M) := p17.tr (zPr.al (t := 2) (n := 64) (by have := zmk_z17 M h; omega) (by have := zmk_z17 M h; (exact zo_1677 this)) (by decide))
  have p19 : zPr 85 21 (zmk_6 M) (zmk_19 M) := p18.tr (zPr.al (t := 2) (n := 64) (by have := zmk_z18 M h; omega) (by have := zmk_z18 M h; (exact zo_1679 this)) (by decide))
  have p20 : zPr 85 21 (zmk_6 M) (zmk_20 M) := p19.tr (zPr.al (t := 2) (n := 64) (by have := zmk_z19 M h; omega) (by have := zmk_z19 M h; (exact zo_1681 this)) (by decide))
  have p21 : zPr 85 21 (zmk_6 M) (zmk_21 M) := p20.tr (zPr.al (t := 1) (n := 80) (by have := zmk_z20 M h; omega) (by have := zmk_z20 M h; (exact zo_1683 this)) (by decide))
  have p22 : zPr 85 21 (zmk_6 M) (zmk_22 M) := p21.tr (zPr.al (t := 2) (n := 8) (by have := zmk_z21 M h; omega) (by have := zmk_z21 M h; (exact zo_1685 this)) (by decide))
  have p23 : zPr 85 21 (zmk_6 M) (zmk_23 M) := p22.tr (zPr.al (t := 2) (n := 512) (by have := zmk_z22 M h; omega) (by have := zmk_z22 M h; (exact zo_1687 this)) (by decide))
  have p24 : zPr 85 21 (zmk_6 M) (zmk_24 M) := p23.tr (zPr.al (t := 2) (n := 8) (by have := zmk_z23 M h; omega) (by have := zmk_z23 M h; (exact zo_1689 this)) (by decide))
  have p25 : zPr 85 21 (zmk_6 M) (zmk_25 M) := p24.tr (zPr.al (t := 2) (n := 512) (by have := zmk_z24 M h; omega) (by have := zmk_z24 M h; (exact zo_1691 this)) (by decide))
  have p26 : zPr 85 21 (zmk_6 M) (zmk_26 M) := p25.tr (zPr.al (t := 2) (n := 64) (by have := zmk_z25 M h; omega) (by have := zmk_z25 M h; (exact zo_1693 this)) (by decide))
  have p27 : zPr 85 21 (zmk_6 M) (zmk_27 M) := p26.tr (zPr.al (t := 1) (n := 128) (by have := zmk_z26 M h; omega) (by have := zmk_z26 M h; (exact zo_1695 this)) (by decide))
  have p28 : zPr 85 21 (zmk_6 M) (zmk_28 M) := p27.tr (zPr.al (t := 2) (n := 64) (by have := zmk_z27 M h; omega) (by have := zmk_z27 M h; (exact zo_1697 this)) (by decide))
  have p29 : zPr 85 21 (zmk_6 M) (zmk_29 M) := p28.tr (zPr.al (t := 2) (n := 64) (by have := zmk_z28 M h; omega) (by have := zmk_z28 M h; (exact zo_1699 this)) (by decide))
  have p30 : zPr 85 21 (zmk_6 M) (zmk_30 M) := p29.tr (zPr.al (t := 1) (n := 24) (by have := zmk_z29 M h; omega) (by have := zmk_z29 M h; (exact zo_1701 this)) (by decide))
  have p31 : zPr 85 21 (zmk_6 M) (zmk_31 M) := p30.tr (zPr.al (t := 1) (n := 65536) (by have := zmk_z30 M h; omega) (by have := zmk_z30 M h; (exact zo_1703 this)) (by decide))
  have p32 : zPr 85 21 (zmk_6 M) (zmk_32 M) := p31.tr (zPr.al (t := 2) (n := 768) (by have := zmk_z31 M h; omega) (by have := zmk_z31 M h; (exact zo_1705 this)) (by decide))
  have p33 : zPr 85 21 (zmk_6 M) (zmk_33 M) := p32.tr (zPr.al (t := 1) (n := 6) (by have := zmk_z32 M h; omega) (by have := zmk_z32 M h; (exact zo_1707 this)) (by decide))
  have p34 : zPr 85 21 (zmk_6 M) (zmk_34 M) := p33.tr (zPr.al (t := 1) (n := 7) (by have := zmk_z33 M h; omega) (by have := zmk_z33 M h; (exact zo_1709 this)) (by decide))
  have p35 : zPr 85 21 (zmk_6 M) (zmk_35 M) := p34.tr (zPr.i (by decide))
  exact ⟨p35.2.1.trans b1, p35.1.trans b2, p35.2.2.1.trans b3.1, p35.2.2.2.trans b3.2⟩
theorem zmk_a86 (M : zMem) (h : zn M = 82) : zf (zmk M) 81 22 = some 86 ∧ zsh (zmk M) 86 = (1, 6) ∧ zi (zmk M) 86 = (fun _ => 0) ∧ zj (zmk M) 86 = (fun _ => 0) := by
  have hz : zn (zmk_6 M) = 86 := (zmk_z6 M h)
  have b1 : zf (zmk_7 M) 81 22 = some (zn (zmk_6 M)) := zsF_s (zal (zmk_6 M) 1 6) 81 22 (some (zn (zmk_6 M)))
  have b2 : zsh (zmk_7 M) (zn (zmk_6 M)) = (1, 6) := zal_sh (M := (zmk_6 M)) (t := 1) (n := 6)
  have b3 : zi (zmk_7 M) (zn (zmk_6 M)) = (fun _ => 0) ∧ zj (zmk_7 M) (zn (zmk_6 M)) = (fun _ => 0) := zal_new (M := (zmk_6 M)) (t := 1) (n := 6)
  rw [hz] at b1 b2 b3
  have p8 : zPr 86 22 (zmk_7 M) (zmk_8 M) := zPr.al (t := 1) (n := 576) (by have := zmk_z7 M h; omega) (by have := zmk_z7 M h; (exact zo_1657 this)) (by decide)
  have p9 : zPr 86 22 (zmk_7 M) (zmk_9 M) := p8.tr (zPr.al (t := 1) (n := 24) (by have := zmk_z8 M h; omega) (by have := zmk_z8 M h; (exact zo_1659 this)) (by decide))
  have p10 : zPr 86 22 (zmk_7 M) (zmk_10 M) := p9.tr (zPr.al (t := 1) (n := 128) (by have := zmk_z9 M h; omega) (by have := zmk_z9 M h; (exact zo_1661 this)) (by decide))
  have p11 : zPr 86 22 (zmk_7 M) (zmk_11 M) := p10.tr (zPr.al (t := 1) (n := 128) (by have := zmk_z10 M h; omega) (by have := zmk_z10 M h; (exact zo_1663 this)) (by decide))
  have p12 : zPr 86 22 (zmk_7 M) (zmk_12 M) := p11.tr (zPr.al (t := 1) (n := 64) (by have := zmk_z11 M h; omega) (by have := zmk_z11 M h; (exact zo_1665 this)) (by decide))
  have p13 : zPr 86 22 (zmk_7 M) (zmk_13 M) := p12.tr (zPr.al (t := 1) (n := 64) (by have := zmk_z12 M h; omega) (by have := zmk_z12 M h; (exact zo_1667 this)) (by decide))
  have p14 : zPr 86 22 (zmk_7 M) (zmk_14 M) := p13.tr (zPr.al (t := 1) (n := 4096) (by have := zmk_z13 M h; omega) (by have := zmk_z13 M h; (exact zo_1669 this)) (by decide))
  have p15 : zPr 86 22 (zmk_7 M) (zmk_15 M) := p14.tr (zPr.al (t := 1) (n := 1536) (by have := zmk_z14 M h; omega) (by have := zmk_z14 M h; (exact zo_1671 this)) (by decide))
  have p16 : zPr 86 22 (zmk_7 M) (zmk_16 M) := p15.tr (zPr.al (t := 2) (n := 2560) (by have := zmk_z15 M h; omega) (by have := zmk_z15 M h; (exact zo_1673 this)) (by decide))
  have p17 : zPr 86 22 (zmk_7 M) (zmk_17 M) := p16.tr (zPr.al (t := 2) (n := 64) (by have := zmk_z16 M h; omega) (by have := zmk_z16 M h; (exact zo_1675 this)) (by decide))
  have p18 : zPr 86 22 (zmk_7 M) (zmk_18 M) := p17.tr (zPr.al (t := 2) (n := 64) (by have := zmk_z17 M h; omega) (by have := zmk_z17 M h; (exact zo_1677 this)) (by decide))
  have p19 : zPr 86 22 (zmk_7 M) (zmk_19 M) := p18.tr (zPr.al (t := 2) (n := 64) (by have := zmk_z18 M h; omega) (by have := zmk_z18 M h; (exact zo_1679 this)) (by decide))
  have p20 : zPr 86 22 (zmk_7 M) (zmk_20 M) := p19.tr (zPr.al (t := 2) (n := 64) (by have := zmk_z19 M h; omega) (by have := zmk_z19 M h; (exact zo_1681 this)) (by decide))
  have p21 : zPr 86 22 (zmk_7 M) (zmk_21 M) := p20.tr (zPr.al (t := 1) (n := 80) (by have := zmk_z20 M h; omega) (by have := zmk_z20 M h; (exact zo_1683 this)) (by decide))
  have p22 : zPr 86 22 (zmk_7 M) (zmk_22 M) := p21.tr (zPr.al (t := 2) (n := 8) (by have := zmk_z21 M h; omega) (by have := zmk_z21 M h; (exact zo_1685 this)) (by decide))
  have p23 : zPr 86 22 (zmk_7 M) (zmk_23 M) := p22.tr (zPr.al (t := 2) (n := 512) (by have := zmk_z22 M h; omega) (by have := zmk_z22 M h; (exact zo_1687 this)) (by decide))
  have p24 : zPr 86 22 (zmk_7 M) (zmk_24 M) := p23.tr (zPr.al (t := 2) (n := 8) (by have := zmk_z23 M h; omega) (by have := zmk_z23 M h; (exact zo_1689 this)) (by decide))
  have p25 : zPr 86 22 (zmk_7 M) (zmk_25 M) := p24.tr (zPr.al (t := 2) (n := 512) (by have := zmk_z24 M h; omega) (by have := zmk_z24 M h; (exact zo_1691 this)) (by decide))
  have p26 : zPr 86 22 (zmk_7 M) (zmk_26 M) := p25.tr (zPr.al (t := 2) (n := 64) (by have := zmk_z25 M h; omega) (by have := zmk_z25 M h; (exact zo_1693 this)) (by decide))
  have p27 : zPr 86 22 (zmk_7 M) (zmk_27 M) := p26.tr (zPr.al (t := 1) (n := 128) (by have := zmk_z26 M h; omega) (by have := zmk_z26 M h; (exact zo_1695 this)) (by decide))
  have p28 : zPr 86 22 (zmk_7 M) (zmk_28 M) := p27.tr (zPr.al (t := 2) (n := 64) (by have := zmk_z27 M h; omega) (by have := zmk_z27 M h; (exact zo_1697 this)) (by decide))
  have p29 : zPr 86 22 (zmk_7 M) (zmk_29 M) := p28.tr (zPr.al (t := 2) (n := 64) (by have := zmk_z28 M h; omega) (by have := zmk_z28 M h; (exact zo_1699 this)) (by decide))
  have p30 : zPr 86 22 (zmk_7 M) (zmk_30 M) := p29.tr (zPr.al (t := 1) (n := 24) (by have := zmk_z29 M h; omega) (by have := zmk_z29 M h; (exact zo_1701 this)) (by decide))
  have p31 : zPr 86 22 (zmk_7 M) (zmk_31 M) := p30.tr (zPr.al (t := 1) (n := 65536) (by have := zmk_z30 M h; omega) (by have := zmk_z30 M h; (exact zo_1703 this)) (by decide))
  have p32 : zPr 86 22 (zmk_7 M) (zmk_32 M) := p31.tr (zPr.al (t := 2) (n := 768) (by have := zmk_z31 M h; omega) (by have := zmk_z31 M h; (exact zo_1705 this)) (by decide))
  have p33 : zPr 86 22 (zmk_7 M) (zmk_33 M) := p32.tr (zPr.al (t := 1) (n := 6) (by have := zmk_z32 M h; omega) (by have := zmk_z32 M h; (exact zo_1707 this)) (by decide))
  have p34 : zPr 86 22 (zmk_7 M) (zmk_34 M) := p33.tr (zPr.al (t := 1) (n := 7) (by have := zmk_z33 M h; omega) (by have := zmk_z33 M h; (exact zo_1709 this)) (by decide))
  have p35 : zPr 86 22 (zmk_7 M) (zmk_35 M) := p34.tr (zPr.i (by decide))
  exact ⟨p35.2.1.trans b1, p35.1.trans b2, p35.2.2.1.trans b3.1, p35.2.2.2.trans b3.2⟩
theorem zmk_a87 (M : zMem) (h : zn M = 82) : zf (zmk M) 81 23 = some 87 ∧ zsh (zmk M) 87 = (1, 576) ∧ zi (zmk M) 87 = (fun _ => 0) ∧ zj (zmk M) 87 = (fun _ => 0) := by
  have hz : zn (zmk_7 M) = 87 := (zmk_z7 M h)
  have b1 : zf (zmk_8 M) 81 23 = some (zn (zmk_7 M)) := zsF_s (zal (zmk_7 M) 1 576) 81 23 (some (zn (zmk_7 M)))
  have b2 : zsh (zmk_8 M) (zn (zmk_7 M)) = (1, 576) := zal_sh (M := (zmk_7 M)) (t := 1) (n := 576)
  have b3 : zi (zmk_8 M) (zn (zmk_7 M)) = (fun _ => 0) ∧ zj (zmk_8 M) (zn (zmk_7 M)) = (fun _ => 0) := zal_new (M := (zmk_7 M)) (t := 1) (n := 576)
  rw [hz] at b1 b2 b3
  have p9 : zPr 87 23 (zmk_8 M) (zmk_9 M) := zPr.al (t := 1) (n := 24) (by have := zmk_z8 M h; omega) (by have := zmk_z8 M h; (exact zo_1659 this)) (by decide)
  have p10 : zPr 87 23 (zmk_8 M) (zmk_10 M) := p9.tr (zPr.al (t := 1) (n := 128) (by have := zmk_z9 M h; omega) (by have := zmk_z9 M h; (exact zo_1661 this)) (by decide))
  have p11 : zPr 87 23 (zmk_8 M) (zmk_11 M) := p10.tr (zPr.al (t := 1) (n := 128) (by have := zmk_z10 M h; omega) (by have := zmk_z10 M h; (exact zo_1663 this)) (by decide))
  have p12 : zPr 87 23 (zmk_8 M) (zmk_12 M) := p11.tr (zPr.al (t := 1) (n := 64) (by have := zmk_z11 M h; omega) (by have := zmk_z11 M h; (exact zo_1665 this)) (by decide))
  have p13 : zPr 87 23 (zmk_8 M) (zmk_13 M) := p12.tr (zPr.al (t := 1) (n := 64) (by have := zmk_z12 M h; omega) (by have := zmk_z12 M h; (exact zo_1667 this)) (by decide))
  have p14 : zPr 87 23 (zmk_8 M) (zmk_14 M) := p13.tr (zPr.al (t := 1) (n := 4096) (by have := zmk_z13 M h; omega) (by have := zmk_z13 M h; (exact zo_1669 this)) (by decide))
  have p15 : zPr 87 23 (zmk_8 M) (zmk_15 M) := p14.tr (zPr.al (t := 1) (n := 1536) (by have := zmk_z14 M h; omega) (by have := zmk_z14 M h; (exact zo_1671 this)) (by decide))
  have p16 : zPr 87 23 (zmk_8 M) (zmk_16 M) := p15.tr (zPr.al (t := 2) (n := 2560) (by have := zmk_z15 M h; omega) (by have := zmk_z15 M h; (exact zo_1673 this)) (by decide))
  have p17 : zPr 87 23 (zmk_8 M) (zmk_17 M) := p16.tr (zPr.al (t := 2) (n := 64) (by have := zmk_z16 M h; omega) (by have := zmk_z16 M h; (exact zo_1675 this)) (by decide))
  have p18 : zPr 87 23 (zmk_8 M) (zmk_18 M) := p17.tr (zPr.al (t := 2) (n := 64) (by have := zmk_z17 M h; omega) (by have := zmk_z17 M h; (exact zo_1677 this)) (by decide))
  have p19 : zPr 87 23 (zmk_8 M) (zmk_19 M) := p18.tr (zPr.al (t := 2) (n := 64) (by have := zmk_z18 M h; omega) (by have := zmk_z18 M h; (exact zo_1679 this)) (by decide))
  have p20 : zPr 87 23 (zmk_8 M) (zmk_20 M) := p19.tr (zPr.al (t := 2) (n := 64) (by have := zmk_z19 M h; omega) (by have := zmk_z19 M h; (exact zo_1681 this)) (by decide))
  have p21 : zPr 87 23 (zmk_8 M) (zmk_21 M) := p20.tr (zPr.al (t := 1) (n := 80) (by have := zmk_z20 M h; omega) (by have := zmk_z20 M h; (exact zo_1683 this)) (by decide))
  have p22 : zPr 87 23 (zmk_8 M) (zmk_22 M) := p21.tr (zPr.al (t := 2) (n := 8) (by have := zmk_z21 M h; omega) (by have := zmk_z21 M h; (exact zo_1685 this)) (by decide))
  have p23 : zPr 87 23 (zmk_8 M) (zmk_23 M) := p22.tr (zPr.al (t := 2) (n := 512) (by have := zmk_z22 M h; omega) (by have := zmk_z22 M h; (exact zo_1687 this)) (by decide))
  have p24 : zPr 87 23 (zmk_8 M) (zmk_24 M) := p23.tr (zPr.al (t := 2) (n := 8) (by have := zmk_z23 M h; omega) (by have := zmk_z23 M h; (exact zo_1689 this)) (by decide))
  have p25 : zPr 87 23 (zmk_8 M) (zmk_25 M) := p24.tr (zPr.al (t := 2) (n := 512) (by have := zmk_z24 M h; omega) (by have := zmk_z24 M h; (exact zo_1691 this)) (by decide))
  have p26 : zPr 87 23 (zmk_8 M) (zmk_26 M) := p25.tr (zPr.al (t := 2) (n := 64) (by have := zmk_z25 M h; omega) (by have := zmk_z25 M h; (exact zo_1693 this)) (by decide))
  have p27 : zPr 87 23 (zmk_8 M) (zmk_27 M) := p26.tr (zPr.al (t := 1) (n := 128) (by have := zmk_z26 M h; omega) (by have := zmk_z26 M h; (exact zo_1695 this)) (by decide))
  have p28 : zPr 87 23 (zmk_8 M) (zmk_28 M) := p27.tr (zPr.al (t := 2) (n := 64) (by have := zmk_z27 M h; omega) (by have := zmk_z27 M h; (exact zo_1697 this)) (by decide))
  have p29 : zPr 87 23 (zmk_8 M) (zmk_29 M) := p28.tr (zPr.al (t := 2) (n := 64) (by have := zmk_z28 M h; omega) (by have := zmk_z28 M h; (exact zo_1699 this)) (by decide))
  have p30 : zPr 87 23 (zmk_8 M) (zmk_30 M) := p29.tr (zPr.al (t := 1) (n := 24) (by have := zmk_z29 M h; omega) (by have := zmk_z29 M h; (exact zo_1701 this)) (by decide))
  have p31 : zPr 87 23 (zmk_8 M) (zmk_31 M) := p30.tr (zPr.al (t := 1) (n := 65536) (by have := zmk_z30 M h; omega) (by have := zmk_z30 M h; (exact zo_1703 this)) (by decide))
  have p32 : zPr 87 23 (zmk_8 M) (zmk_32 M) := p31.tr (zPr.al (t := 2) (n := 768) (by have := zmk_z31 M h; omega) (by have := zmk_z31 M h; (exact zo_1705 this)) (by decide))
  have p33 : zPr 87 23 (zmk_8 M) (zmk_33 M) := p32.tr (zPr.al (t := 1) (n := 6) (by have := zmk_z32 M h; omega) (by have := zmk_z32 M h; (exact zo_1707 this)) (by decide))
  have p34 : zPr 87 23 (zmk_8 M) (zmk_34 M) := p33.tr (zPr.al (t := 1) (n := 7) (by have := zmk_z33 M h; omega) (by have := zmk_z33 M h; (exact zo_1709 this)) (by decide))
  have p35 : zPr 87 23 (zmk_8 M) (zmk_35 M) := p34.tr (zPr.i (by decide))
  exact ⟨p35.2.1.trans b1, p35.1.trans b2, p35.2.2.1.trans b3.1, p35.2.2.2.trans b3.2⟩
theorem zmk_a88 (M : zMem) (h : zn M = 82) : zf (zmk M) 81 24 = some 88 ∧ zsh (zmk M) 88 = (1, 24) ∧ zi (zmk M) 88 = (fun _ => 0) ∧ zj (zmk M) 88 = (fun _ => 0) := by
  have hz : zn (zmk_8 M) = 88 := (zmk_z8 M h)
  have b1 : zf (zmk_9 M) 81 24 = some (zn (zmk_8 M)) := zsF_s (zal (zmk_8 M) 1 24) 81 24 (some (zn (zmk_8 M)))
  have b2 : zsh (zmk_9 M) (zn (zmk_8 M)) = (1, 24) := zal_sh (M := (zmk_8 M)) (t := 1) (n := 24)
  have b3 : zi (zmk_9 M) (zn (zmk_8 M)) = (fun _ => 0) ∧ zj (zmk_9 M) (zn (zmk_8 M)) = (fun _ => 0) := zal_new (M := (zmk_8 M)) (t := 1) (n := 24)
  rw [hz] at b1 b2 b3
  have p10 : zPr 88 24 (zmk_9 M) (zmk_10 M) := zPr.al (t := 1) (n := 128) (by have := zmk_z9 M h; omega) (by have := zmk_z9 M h; (exact zo_1661 this)) (by decide)
  have p11 : zPr 88 24 (zmk_9 M) (zmk_11 M) := p10.tr (zPr.al (t := 1) (n := 128) (by have := zmk_z10 M h; omega) (by have := zmk_z10 M h; (exact zo_1663 this)) (by decide))
  have p12 : zPr 88 24 (zmk_9 M) (zmk_12 M) := p11.tr (zPr.al (t := 1) (n := 64) (by have := zmk_z11 M h; omega) (by have := zmk_z11 M h; (exact zo_1665 this)) (by decide))
  have p13 : zPr 88 24 (zmk_9 M) (zmk_13 M) := p12.tr (zPr.al (t := 1) (n := 64) (by have := zmk_z12 M h; omega) (by have := zmk_z12 M h; (exact zo_1667 this)) (by decide))
  have p14 : zPr 88 24 (zmk_9 M) (zmk_14 M) := p13.tr (zPr.al (t := 1) (n := 4096) (by have := zmk_z13 M h; omega) (by have := zmk_z13 M h; (exact zo_1669 this)) (by decide))
  have p15 : zPr 88 24 (zmk_9 M) (zmk_15 M) := p14.tr (zPr.al (t := 1) (n := 1536) (by have := zmk_z14 M h; omega) (by have := zmk_z14 M h; (exact zo_1671 this)) (by decide))
  have p16 : zPr 88 24 (zmk_9 M) (zmk_16 M) := p15.tr (zPr.al (t := 2) (n := 2560) (by have := zmk_z15 M h; omega) (by have := zmk_z15 M h; (exact zo_1673 this)) (by decide))
  have p17 : zPr 88 24 (zmk_9 M) (zmk_17 M) := p16.tr (zPr.al (t := 2) (n := 64) (by have := zmk_z16 M h; omega) (by have := zmk_z16 M h; (exact zo_1675 this)) (by decide))
  have p18 : zPr 88 24 (zmk_9 M) (zmk_18 M) := p17.tr (zPr.al (t := 2) (n := 64) (by have := zmk_z17 M h; omega) (by have := zmk_z17 M h; (exact zo_1677 this)) (by decide))
  have p19 : zPr 88 24 (zmk_9 M) (zmk_19 M) := p18.tr (zPr.al (t := 2) (n := 64) (by have := zmk_z18 M h; omega) (by have := zmk_z18 M h; (exact zo_1679 this)) (by decide))
  have p20 : zPr 88 24 (zmk_9 M) (zmk_20 M) := p19.tr (zPr.al (t := 2) (n := 64) (by have := zmk_z19 M h; omega) (by have := zmk_z19 M h; (exact zo_1681 this)) (by decide))
  have p21 : zPr 88 24 (zmk_9 M) (zmk_21 M) := p20.tr (zPr.al (t := 1) (n := 80) (by have := zmk_z20 M h; omega) (by have := zmk_z20 M h; (exact zo_1683 this)) (by decide))
  have p22 : zPr 88 24 (zmk_9 M) (zmk_22 M) := p21.tr (zPr.al (t := 2) (n := 8) (by have := zmk_z21 M h; omega) (by have := zmk_z21 M h; (exact zo_1685 this)) (by decide))
  have p23 : zPr 88 24 (zmk_9 M) (zmk_23 M) := p22.tr (zPr.al (t := 2) (n := 512) (by have := zmk_z22 M h; omega) (by have := zmk_z22 M h; (exact zo_1687 this)) (by decide))
  have p24 : zPr 88 24 (zmk_9 M) (zmk_24 M) := p23.tr (zPr.al (t := 2) (n := 8) (by have := zmk_z23 M h; omega) (by have := zmk_z23 M h; (exact zo_1689 this)) (by decide))
  have p25 : zPr 88 24 (zmk_9 M) (zmk_25 M) := p24.tr (zPr.al (t := 2) (n := 512) (by have := zmk_z24 M h; omega) (by have := zmk_z24 M h; (exact zo_1691 this)) (by decide))
  have p26 : zPr 88 24 (zmk_9 M) (zmk_26 M) := p25.tr (zPr.al (t := 2) (n := 64) (by have := zmk_z25 M h; omega) (by have := zmk_z25 M h; (exact zo_1693 this)) (by decide))
  have p27 : zPr 88 24 (zmk_9 M) (zmk_27 M) := p26.tr (zPr.al (t := 1) (n := 128) (by have := zmk_z26 M h; omega) (by have := zmk_z26 M h; (exact zo_1695 this)) (by decide))
  have p28 : zPr 88 24 (zmk_9 M) (zmk_28 M) := p27.tr (zPr.al (t := 2) (n := 64) (by have := zmk_z27 M h; omega) (by have := zmk_z27 M h; (exact zo_1697 this)) (by decide))
  have p29 : zPr 88 24 (zmk_9 M) (zmk_29 M) := p28.tr (zPr.al (t := 2) (n := 64) (by have := zmk_z28 M h; omega) (by have := zmk_z28 M h; (exact zo_1699 this)) (by decide))
  have p30 : zPr 88 24 (zmk_9 M) (zmk_30 M) := p29.tr (zPr.al (t := 1) (n := 24) (by have := zmk_z29 M h; omega) (by have := zmk_z29 M h; (exact zo_1701 this)) (by decide))
  have p31 : zPr 88 24 (zmk_9 M) (zmk_31 M) := p30.tr (zPr.al (t := 1) (n := 65536) (by have := zmk_z30 M h; omega) (by have := zmk_z30 M h; (exact zo_1703 this)) (by decide))
  have p32 : zPr 88 24 (zmk_9 M) (zmk_32 M) := p31.tr (zPr.al (t := 2) (n := 768) (by have := zmk_z31 M h; omega) (by have := zmk_z31 M h; (exact zo_1705 this)) (by decide))
  have p33 : zPr 88 24 (zmk_9 M) (zmk_33 M) := p32.tr (zPr.al (t := 1) (n := 6) (by have := zmk_z32 M h; omega) (by have := zmk_z32 M h; (exact zo_1707 this)) (by decide))
  have p34 : zPr 88 24 (zmk_9 M) (zmk_34 M) := p33.tr (zPr.al (t := 1) (n := 7) (by have := zmk_z33 M h; omega) (by have := zmk_z33 M h; (exact zo_1709 this)) (by decide))
  have p35 : zPr 88 24 (zmk_9 M) (zmk_35 M) := p34.tr (zPr.i (by decide))
  exact ⟨p35.2.1.trans b1, p35.1.trans b2, p35.2.2.1.trans b3.1, p35.2.2.2.trans b3.2⟩
theorem zmk_a89 (M : zMem) (h : zn M = 82) : zf (zmk M) 81 27 = some 89 ∧ zsh (zmk M) 89 = (1, 128) ∧ zi (zmk M) 89 = (fun _ => 0) ∧ zj (zmk M) 89 = (fun _ => 0) := by
  have hz : zn (zmk_9 M) = 89 := (zmk_z9 M h)
  have b1 : zf (zmk_10 M) 81 27 = some (zn (zmk_9 M)) := zsF_s (zal (zmk_9 M) 1 128) 81 27 (some (zn (zmk_9 M)))
  have b2 : zsh (zmk_10 M) (zn (zmk_9 M)) = (1, 128) := zal_sh (M := (zmk_9 M)) (t := 1) (n := 128)
  have b3 : zi (zmk_10 M) (zn (zmk_9 M)) = (fun _ => 0) ∧ zj (zmk_10 M) (zn (zmk_9 M)) = (fun _ => 0) := zal_new (M := (zmk_9 M)) (t := 1) (n := 128)
  rw [hz] at b1 b2 b3
  have p11 : zPr 89 27 (zmk_10 M) (zmk_11 M) := zPr.al (t := 1) (n := 128) (by have := zmk_z10 M h; omega) (by have := zmk_z10 M h; (exact zo_1663 this)) (by decide)
  have p12 : zPr 89 27 (zmk_10 M) (zmk_12 M) := p11.tr (zPr.al (t := 1) (n := 64) (by have := zmk_z11 M h; omega) (by have := zmk_z11 M h; (exact zo_1665 this)) (by decide))
  have p13 : zPr 89 27 (zmk_10 M) (zmk_13 M) := p12.tr (zPr.al (t := 1) (n := 64) (by have := zmk_z12 M h; omega) (by have := zmk_z12 M h; (exact zo_1667 this)) (by decide))
  have p14 : zPr 89 27 (zmk_10 M) (zmk_14 M) := p13.tr (zPr.al (t := 1) (n := 4096) (by have := zmk_z13 M h; omega) (by have := zmk_z13 M h; (exact zo_1669 this)) (by decide))
  have p15 : zPr 89 27 (zmk_10 M) (zmk_15 M) := p14.tr (zPr.al (t := 1) (n := 1536) (by have := zmk_z14 M h; omega) (by have := zmk_z14 M h; (exact zo_1671 this)) (by decide))
  have p16 : zPr 89 27 (zmk_10 M) (zmk_16 M) := p15.tr (zPr.al (t := 2) (n := 2560) (by have := zmk_z15 M h; omega) (by have := zmk_z15 M h; (exact zo_1673 this)) (by decide))
  have p17 : zPr 89 27 (zmk_10 M) (zmk_17 M) := p16.tr (zPr.al (t := 2) (n := 64) (by have := zmk_z16 M h; omega) (by have := zmk_z16 M h; (exact zo_1675 this)) (by decide))
  have p18 : zPr 89 27 (zmk_10 M) (zmk_18 M) := p17.tr (zPr.al (t := 2) (n := 64) (by have := zmk_z17 M h; omega) (by have := zmk_z17 M h; (exact zo_1677 this)) (by decide))
  have p19 : zPr 89 27 (zmk_10 M) (zmk_19 M) := p18.tr (zPr.al (t := 2) (n := 64) (by have := zmk_z18 M h; omega) (by have := zmk_z18 M h; (exact zo_1679 this)) (by decide))
  have p20 : zPr 89 27 (zmk_10 M) (zmk_20 M) := p19.tr (zPr.al (t := 2) (n := 64) (by have := zmk_z19 M h; omega) (by have := zmk_z19 M h; (exact zo_1681 this)) (by decide))
  have p21 : zPr 89 27 (zmk_10 M) (zmk_21 M) := p20.tr (zPr.al (t := 1) (n := 80) (by have := zmk_z20 M h; omega) (by have := zmk_z20 M h; (exact zo_1683 this)) (by decide))
  have p22 : zPr 89 27 (zmk_10 M) (zmk_22 M) := p21.tr (zPr.al (t := 2) (n := 8) (by have := zmk_z21 M h; omega) (by have := zmk_z21 M h; (exact zo_1685 this)) (by decide))
  have p23 : zPr 89 27 (zmk_10 M) (zmk_23 M) := p22.tr (zPr.al (t := 2) (n := 512) (by have := zmk_z22 M h; omega) (by have := zmk_z22 M h; (exact zo_1687 this)) (by decide))
  have p24 : zPr 89 27 (zmk_10 M) (zmk_24 M) := p23.tr (zPr.al (t := 2) (n := 8) (by have := zmk_z23 M h; omega) (by have := zmk_z23 M h; (exact zo_1689 this)) (by decide))
  have p25 : zPr 89 27 (zmk_10 M) (zmk_25 M) := p24.tr (zPr.al (t := 2) (n := 512) (by have := zmk_z24 M h; omega) (by have := zmk_z24 M h; (exact zo_1691 this)) (by decide))
  have p26 : zPr 89 27 (zmk_10 M) (zmk_26 M) := p25.tr (zPr.al (t := 2) (n := 64) (by have := zmk_z25 M h; omega) (by have := zmk_z25 M h; (exact zo_1693 this)) (by decide))
  have p27 : zPr 89 27 (zmk_10 M) (zmk_27 M) := p26.tr (zPr.al (t := 1) (n := 128) (by have := zmk_z26 M h; omega) (by have := zmk_z26 M h; (exact zo_1695 this)) (by decide))
  have p28 : zPr 89 27 (zmk_10 M) (zmk_28 M) := p27.tr (zPr.al (t := 2) (n := 64) (by have := zmk_z27 M h; omega) (by have := zmk_z27 M h; (exact zo_1697 this)) (by decide))
  have p29 : zPr 89 27 (zmk_10 M) (zmk_29 M) := p28.tr (zPr.al (t := 2) (n := 64) (by have := zmk_z28 M h; omega) (by have := zmk_z28 M h; (exact zo_1699 this)) (by decide))
  have p30 : zPr 89 27 (zmk_10 M) (zmk_30 M) := p29.tr (zPr.al (t := 1) (n := 24) (by have := zmk_z29 M h; omega) (by have := zmk_z29 M h; (exact zo_1701 this)) (by decide))
  have p31 : zPr 89 27 (zmk_10 M) (zmk_31 M) := p30.tr (zPr.al (t := 1) (n := 65536) (by have := zmk_z30 M h; omega) (by have := zmk_z30 M h; (exact zo_1703 this)) (by decide))
  have p32 : zPr 89 27 (zmk_10 M) (zmk_32 M) := p31.tr (zPr.al (t := 2) (n := 768) (by have := zmk_z31 M h; omega) (by have := zmk_z31 M h; (exact zo_1705 this)) (by decide))
  have p33 : zPr 89 27 (zmk_10 M) (zmk_33 M) := p32.tr (zPr.al (t := 1) (n := 6) (by have := zmk_z32 M h; omega) (by have := zmk_z32 M h; (exact zo_1707 this)) (by decide))
  have p34 : zPr 89 27 (zmk_10 M) (zmk_34 M) := p33.tr (zPr.al (t := 1) (n := 7) (by have := zmk_z33 M h; omega) (by have := zmk_z33 M h; (exact zo_1709 this)) (by decide))
  have p35 : zPr 89 27 (zmk_10 M) (zmk_35 M) := p34.tr (zPr.i (by decide))
  exact ⟨p35.2.1.trans b1, p35.1.trans b2, p35.2.2.1.trans b3.1, p35.2.2.2.trans b3.2⟩
theorem zmk_a90 (M : zMem) (h : zn M = 82) : zf (zmk M) 81 28 = some 90 ∧ zsh (zmk M) 90 = (1, 128) ∧ zi (zmk M) 90 = (fun _ => 0) ∧ zj (zmk M) 90 = (fun _ => 0) := by
  have hz : zn (zmk_10 M) = 90 := (zmk_z10 M h)
  have b1 : zf (zmk_11 M) 81 28 = some (zn (zmk_10 M)) := zsF_s (zal (zmk_10 M) 1 128) 81 28 (some (zn (zmk_10 M)))
  have b2 : zsh (zmk_11 M) (zn (zmk_10 M)) = (1, 128) := zal_sh (M := (zmk_10 M)) (t := 1) (n := 128)
  have b3 : zi (zmk_11 M) (zn (zmk_10 M)) = (fun _ => 0) ∧ zj (zmk_11 M) (zn (zmk_10 M)) = (fun _ => 0) := zal_new (M := (zmk_10 M)) (t := 1) (n := 128)
  rw [hz] at b1 b2 b3
  have p12 : zPr 90 28 (zmk_11 M) (zmk_12 M) := zPr.al (t := 1) (n := 64) (by have := zmk_z11 M h; omega) (by have := zmk_z11 M h; (exact zo_1665 this)) (by decide)
  have p13 : zPr 90 28 (zmk_11 M) (zmk_13 M) := p12.tr (zPr.al (t := 1) (n := 64) (by have := zmk_z12 M h; omega) (by have := zmk_z12 M h; (exact zo_1667 this)) (by decide))
  have p14 : zPr 90 28 (zmk_11 M) (zmk_14 M) := p13.tr (zPr.al (t := 1) (n := 4096) (by have := zmk_z13 M h; omega) (by have := zmk_z13 M h; (exact zo_1669 this)) (by decide))
  have p15 : zPr 90 28 (zmk_11 M) (zmk_15 M) := p14.tr (zPr.al (t := 1) (n := 1536) (by have := zmk_z14 M h; omega) (by have := zmk_z14 M h; (exact zo_1671 this)) (by decide))
  have p16 : zPr 90 28 (zmk_11 M) (zmk_16 M) := p15.tr (zPr.al (t := 2) (n := 2560) (by have := zmk_z15 M h; omega) (by have := zmk_z15 M h; (exact zo_1673 this)) (by decide))
  have p17 : zPr 90 28 (zmk_11 M) (zmk_17 M) := p16.tr (zPr.al (t := 2) (n := 64) (by have := zmk_z16 M h; omega) (by have := zmk_z16 M h; (exact zo_1675 this)) (by decide))
  have p18 : zPr 90 28 (zmk_11 M) (zmk_18 M) := p17.tr (zPr.al (t := 2) (n := 64) (by have := zmk_z17 M h; omega) (by have := zmk_z17 M h; (exact zo_1677 this)) (by decide))
  have p19 : zPr 90 28 (zmk_11 M) (zmk_19 M) := p18.tr (zPr.al (t := 2) (n := 64) (by have := zmk_z18 M h; omega) (by have := zmk_z18 M h; (exact zo_1679 this)) (by decide))
  have p20 : zPr 90 28 (zmk_11 M) (zmk_20 M) := p19.tr (zPr.al (t := 2) (n := 64) (by have := zmk_z19 M h; omega) (by have := zmk_z19 M h; (exact zo_1681 this)) (by decide))
  have p21 : zPr 90 28 (zmk_11 M) (zmk_21 M) := p20.tr (zPr.al (t := 1) (n := 80) (by have := zmk_z20 M h; omega) (by have := zmk_z20 M h; (exact zo_1683 this)) (by decide))
  have p22 : zPr 90 28 (zmk_11 M) (zmk_22 M) := p21.tr (zPr.al (t := 2) (n := 8) (by have := zmk_z21 M h; omega) (by have := zmk_z21 M h; (exact zo_1685 this)) (by decide))
  have p23 : zPr 90 28 (zmk_11 M) (zmk_23 M) := p22.tr (zPr.al (t := 2) (n := 512) (by have := zmk_z22 M h; omega) (by have := zmk_z22 M h; (exact zo_1687 this)) (by decide))
  have p24 : zPr 90 28 (zmk_11 M) (zmk_24 M) := p23.tr (zPr.al (t := 2) (n := 8) (by have := zmk_z23 M h; omega) (by have := zmk_z23 M h; (exact zo_1689 this)) (by decide))
  have p25 : zPr 90 28 (zmk_11 M) (zmk_25 M) := p24.tr (zPr.al (t := 2) (n := 512) (by have := zmk_z24 M h; omega) (by have := zmk_z24 M h; (exact zo_1691 this)) (by decide))
  have p26 : zPr 90 28 (zmk_11 M) (zmk_26 M) := p25.tr (zPr.al (t := 2) (n := 64) (by have := zmk_z25 M h; omega) (by have := zmk_z25 M h; (exact zo_1693 this)) (by decide))
  have p27 : zPr 90 28 (zmk_11 M) (zmk_27 M) := p26.tr (zPr.al (t := 1) (n := 128) (by have := zmk_z26 M h; omega) (by have := zmk_z26 M h; (exact zo_1695 this)) (by decide))
  have p28 : zPr 90 28 (zmk_11 M) (zmk_28 M) := p27.tr (zPr.al (t := 2) (n := 64) (by have := zmk_z27 M h; omega) (by have := zmk_z27 M h; (exact zo_1697 this)) (by decide))
  have p29 : zPr 90 28 (zmk_11 M) (zmk_29 M) := p28.tr (zPr.al (t := 2) (n := 64) (by have := zmk_z28 M h; omega) (by have := zmk_z28 M h; (exact zo_1699 this)) (by decide))
  have p30 : zPr 90 28 (zmk_11 M) (zmk_30 M) := p29.tr (zPr.al (t := 1) (n := 24) (by have := zmk_z29 M h; omega) (by have := zmk_z29 M h; (exact zo_1701 this)) (by decide))
  have p31 : zPr 90 28 (zmk_11 M) (zmk_31 M) := p30.tr (zPr.al (t := 1) (n := 65536) (by have := zmk_z30 M h; omega) (by have := zmk_z30 M h; (exact zo_1703 this)) (by decide))
  have p32 : zPr 90 28 (zmk_11 M) (zmk_32 M) := p31.tr (zPr.al (t := 2) (n := 768) (by have := zmk_z31 M h; omega) (by have := zmk_z31 M h; (exact zo_1705 this)) (by decide))
  have p33 : zPr 90 28 (zmk_11 M) (zmk_33 M) := p32.tr (zPr.al (t := 1) (n := 6) (by have := zmk_z32 M h; omega) (by have := zmk_z32 M h; (exact zo_1707 this)) (by decide))
  have p34 : zPr 90 28 (zmk_11 M) (zmk_34 M) := p33.tr (zPr.al (t := 1) (n := 7) (by have := zmk_z33 M h; omega) (by have := zmk_z33 M h; (exact zo_1709 this)) (by decide))
  have p35 : zPr 90 28 (zmk_11 M) (zmk_35 M) := p34.tr (zPr.i (by decide))
  exact ⟨p35.2.1.trans b1, p35.1.trans b2, p35.2.2.1.trans b3.1, p35.2.2.2.trans b3.2⟩
theorem zmk_a91 (M : zMem) (h : zn M = 82) : zf (zmk M) 81 29 = some 91 ∧ zsh (zmk M) 91 = (1, 64) ∧ zi (zmk M) 91 = (fun _ => 0) ∧ zj (zmk M) 91 = (fun _ => 0) := by
  have hz : zn (zmk_11 M) = 91 := (zmk_z11 M h)
  have b1 : zf (zmk_12 M) 81 29 = some (zn (zmk_11 M)) := zsF_s (zal (zmk_11 M) 1 64) 81 29 (some (zn (zmk_11 M)))
  have b2 : zsh (zmk_12 M) (zn (zmk_11 M)) = (1, 64) := zal_sh (M := (zmk_11 M)) (t := 1) (n := 64)
  have b3 : zi (zmk_12 M) (zn (zmk_11 M)) = (fun _ => 0) ∧ zj (zmk_12 M) (zn (zmk_11 M)) = (fun _ => 0) := zal_new (M := (zmk_11 M)) (t := 1) (n := 64)
  rw [hz] at b1 b2 b3
  have p13 : zPr 91 29 (zmk_12 M) (zmk_13 M) := zPr.al (t := 1) (n := 64) (by have := zmk_z12 M h; omega) (by have := zmk_z12 M h; (exact zo_1667 this)) (by decide)
  have p14 : zPr 91 29 (zmk_12 M) (zmk_14 M) := p13.tr (zPr.al (t := 1) (n := 4096) (by have := zmk_z13 M h; omega) (by have := zmk_z13 M h; (exact zo_1669 this)) (by decide))
  have p15 : zPr 91 29 (zmk_12 M) (zmk_15 M) := p14.tr (zPr.al (t := 1) (n := 1536) (by have := zmk_z14 M h; omega) (by have := zmk_z14 M h; (exact zo_1671 this)) (by decide))
  have p16 : zPr 91 29 (zmk_12 M) (zmk_16 M) := p15.tr (zPr.al (t := 2) (n := 2560) (by have := zmk_z15 M h; omega) (by have := zmk_z15 M h; (exact zo_1673 this)) (by decide))
  have p17 : zPr 91 29 (zmk_12 M) (zmk_17 M) := p16.tr (zPr.al (t := 2) (n := 64) (by have := zmk_z16 M h; omega) (by have := zmk_z16 M h; (exact zo_1675 this)) (by decide))
  have p18 : zPr 91 29 (zmk_12 M) (zmk_18 M) := p17.tr (zPr.al (t := 2) (n := 64) (by have := zmk_z17 M h; omega) (by have := zmk_z17 M h; (exact zo_1677 this)) (by decide))
  have p19 : zPr 91 29 (zmk_12 M) (zmk_19 M) := p18.tr (zPr.al (t := 2) (n := 64) (by have := zmk_z18 M h; omega) (by have := zmk_z18 M h; (exact zo_1679 this)) (by decide))
  have p20 : zPr 91 29 (zmk_12 M) (zmk_20 M) := p19.tr (zPr.al (t := 2) (n := 64) (by have := zmk_z19 M h; omega) (by have := zmk_z19 M h; (exact zo_1681 this)) (by decide))
  have p21 : zPr 91 29 (zmk_12 M) (zmk_21 M) := p20.tr (zPr.al (t := 1) (n := 80) (by have := zmk_z20 M h; omega) (by have := zmk_z20 M h; (exact zo_1683 this)) (by decide))
  have p22 : zPr 91 29 (zmk_12 M) (zmk_22 M) := p21.tr (zPr.al (t := 2) (n := 8) (by have := zmk_z21 M h; omega) (by have := zmk_z21 M h; (exact zo_1685 this)) (by decide))
  have p23 : zPr 91 29 (zmk_12 M) (zmk_23 M) := p22.tr (zPr.al (t := 2) (n := 512) (by have := zmk_z22 M h; omega) (by have := zmk_z22 M h; (exact zo_1687 this)) (by decide))
  have p24 : zPr 91 29 (zmk_12 M) (zmk_24 M) := p23.tr (zPr.al (t := 2) (n := 8) (by have := zmk_z23 M h; omega) (by have := zmk_z23 M h; (exact zo_1689 this)) (by decide))
  have p25 : zPr 91 29 (zmk_12 M) (zmk_25 M) := p24.tr (zPr.al (t := 2) (n := 512) (by have := zmk_z24 M h; omega) (by have := zmk_z24 M h; (exact zo_1691 this)) (by decide))
  have p26 : zPr 91 29 (zmk_12 M) (zmk_26 M) := p25.tr (zPr.al (t := 2) (n := 64) (by have := zmk_z25 M h; omega) (by have := zmk_z25 M h; (exact zo_1693 this)) (by decide))
  have p27 : zPr 91 29 (zmk_12 M) (zmk_27 M) := p26.tr (zPr.al (t := 1) (n := 128) (by have := zmk_z26 M h; omega) (by have := zmk_z26 M h; (exact zo_1695 this)) (by decide))
  have p28 : zPr 91 29 (zmk_12 M) (zmk_28 M) := p27.tr (zPr.al (t := 2) (n := 64) (by have := zmk_z27 M h; omega) (by have := zmk_z27 M h; (exact zo_1697 this)) (by decide))
  have p29 : zPr 91 29 (zmk_12 M) (zmk_29 M) := p28.tr (zPr.al (t := 2) (n := 64) (by have := zmk_z28 M h; omega) (by have := zmk_z28 M h; (exact zo_1699 this)) (by decide))
  have p30 : zPr 91 29 (zmk_12 M) (zmk_30 M) := p29.tr (zPr.al (t := 1) (n := 24) (by have := zmk_z29 M h; omega) (by have := zmk_z29 M h; (exact zo_1701 this)) (by decide))
  have p31 : zPr 91 29 (zmk_12 M) (zmk_31 M) := p30.tr (zPr.al (t := 1) (n := 65536) (by have := zmk_z30 M h; omega) (by have := zmk_z30 M h; (exact zo_1703 this)) (by decide))
  have p32 : zPr 91 29 (zmk_12 M) (zmk_32 M) := p31.tr (zPr.al (t := 2) (n := 768) (by have := zmk_z31 M h; omega) (by have := zmk_z31 M h; (exact zo_1705 this)) (by decide))
  have p33 : zPr 91 29 (zmk_12 M) (zmk_33 M) := p32.tr (zPr.al (t := 1) (n := 6) (by have := zmk_z32 M h; omega) (by have := zmk_z32 M h; (exact zo_1707 this)) (by decide))
  have p34 : zPr 91 29 (zmk_12 M) (zmk_34 M) := p33.tr (zPr.al (t := 1) (n := 7) (by have := zmk_z33 M h; omega) (by have := zmk_z33 M h; (exact zo_1709 this)) (by decide))
  have p35 : zPr 91 29 (zmk_12 M) (zmk_35 M) := p34.tr (zPr.i (by decide))
  exact ⟨p35.2.1.trans b1, p35.1.trans b2, p35.2.2.1.trans b3.1, p35.2.2.2.trans b3.2⟩
theorem zmk_a92 (M : zMem) (h : zn M = 82) : zf (zmk M) 81 30 = some 92 ∧ zsh (zmk M) 92 = (1, 64) ∧ zi (zmk M) 92 = (fun _ => 0) ∧ zj (zmk M) 92 = (fun _ => 0) := by
  have hz : zn (zmk_12 M) = 92 := (zmk_z12 M h)
  have b1 : zf (zmk_13 M) 81 30 = some (zn (zmk_12 M)) := zsF_s (zal (zmk_12 M) 1 64) 81 30 (some (zn (zmk_12 M)))
  have b2 : zsh (zmk_13 M) (zn (zmk_12 M)) = (1, 64) := zal_sh (M := (zmk_12 M)) (t := 1) (n := 64)
  have b3 : zi (zmk_13 M) (zn (zmk_12 M)) = (fun _ => 0) ∧ zj (zmk_13 M) (zn (zmk_12 M)) = (fun _ => 0) := zal_new (M := (zmk_12 M)) (t := 1) (n := 64)
  rw [hz] at b1 b2 b3
  have p14 : zPr 92 30 (zmk_13 M) (zmk_14 M) := zPr.al (t := 1) (n := 4096) (by have := zmk_z13 M h; omega) (by have := zmk_z13 M h; (exact zo_1669 this)) (by decide)
  have p15 : zPr 92 30 (zmk_13 M) (zmk_15 M) := p14.tr (zPr.al (t := 1) (n := 1536) (by have := zmk_z14 M h; omega) (by have := zmk_z14 M h; (exact zo_1671 this)) (by decide))
  have p16 : zPr 92 30 (zmk_13 M) (zmk_16 M) := p15.tr (zPr.al (t := 2) (n := 2560) (by have := zmk_z15 M h; omega) (by have := zmk_z15 M h; (exact zo_1673 this)) (by decide))
  have p17 : zPr 92 30 (zmk_13 M) (zmk_17 M) := p16.tr (zPr.al (t := 2) (n := 64) (by have := zmk_z16 M h; omega) (by have := zmk_z16 M h; (exact zo_1675 this)) (by decide))
  have p18 : zPr 92 30 (zmk_13 M) (zmk_18 M) := p17.tr (zPr.al (t := 2) (n := 64) (by have := zmk_z17 M h; omega) (by have := zmk_z17 M h; (exact zo_1677 this)) (by decide))
  have p19 : zPr 92 30 (zmk_13 M) (zmk_19 M) := p18.tr (zPr.al (t := 2) (n := 64) (by have := zmk_z18 M h; omega) (by have := zmk_z18 M h; (exact zo_1679 this)) (by decide))
  have p20 : zPr 92 30 (zmk_13 M) (zmk_20 M) := p19.tr (zPr.al (t := 2) (n := 64) (by have := zmk_z19 M h; omega) (by have := zmk_z19 M h; (exact zo_1681 this)) (by decide))
  have p21 : zPr 92 30 (zmk_13 M) (zmk_21 M) := p20.tr (zPr.al (t := 1) (n := 80) (by have := zmk_z20 M h; omega) (by have := zmk_z20 M h; (exact zo_1683 this)) (by decide))
  have p22 : zPr 92 30 (zmk_13 M) (zmk_22 M) := p21.tr (zPr.al (t := 2) (n := 8) (by have := zmk_z21 M h; omega) (by have := zmk_z21 M h; (exact zo_1685 this)) (by decide))
  have p23 : zPr 92 30 (zmk_13 M) (zmk_23 M) := p22.tr (zPr.al (t := 2) (n := 512) (by have := zmk_z22 M h; omega) (by have := zmk_z22 M h; (exact zo_1687 this)) (by decide))
  have p24 : zPr 92 30 (zmk_13 M) (zmk_24 M) := p23.tr (zPr.al (t := 2) (n := 8) (by have := zmk_z23 M h; omega) (by have := zmk_z23 M h; (exact zo_1689 this)) (by decide))
  have p25 : zPr 92 30 (zmk_13 M) (zmk_25 M) := p24.tr (zPr.al (t := 2) (n := 512) (by have := zmk_z24 M h; omega) (by have := zmk_z24 M h; (exact zo_1691 this)) (by decide))
  have p26 : zPr 92 30 (zmk_13 M) (zmk_26 M) := p25.tr (zPr.al (t := 2) (n := 64) (by have := zmk_z25 M h; omega) (by have := zmk_z25 M h; (exact zo_1693 this)) (by decide))
  have p27 : zPr 92 30 (zmk_13 M) (zmk_27 M) := p26.tr (zPr.al (t := 1) (n := 128) (by have := zmk_z26 M h; omega) (by have := zmk_z26 M h; (exact zo_1695 this)) (by decide))
  have p28 : zPr 92 30 (zmk_13 M) (zmk_28 M) := p27.tr (zPr.al (t := 2) (n := 64) (by have := zmk_z27 M h; omega) (by have := zmk_z27 M h; (exact zo_1697 this)) (by decide))
  have p29 : zPr 92 30 (zmk_13 M) (zmk_29 M) := p28.tr (zPr.al (t := 2) (n := 64) (by have := zmk_z28 M h; omega) (by have := zmk_z28 M h; (exact zo_1699 this)) (by decide))
  have p30 : zPr 92 30 (zmk_13 M) (zmk_30 M) := p29.tr (zPr.al (t := 1) (n := 24) (by have := zmk_z29 M h; omega) (by have := zmk_z29 M h; (exact zo_1701 this)) (by decide))
  have p31 : zPr 92 30 (zmk_13 M) (zmk_31 M) := p30.tr (zPr.al (t := 1) (n := 65536) (by have := zmk_z30 M h; omega) (by have := zmk_z30 M h; (exact zo_1703 this)) (by decide))
  have p32 : zPr 92 30 (zmk_13 M) (zmk_32 M) := p31.tr (zPr.al (t := 2) (n := 768) (by have := zmk_z31 M h; omega) (by have := zmk_z31 M h; (exact zo_1705 this)) (by decide))
  have p33 : zPr 92 30 (zmk_13 M) (zmk_33 M) := p32.tr (zPr.al (t := 1) (n := 6) (by have := zmk_z32 M h; omega) (by have := zmk_z32 M h; (exact zo_1707 this)) (by decide))
  have p34 : zPr 92 30 (zmk_13 M) (zmk_34 M) := p33.tr (zPr.al (t := 1) (n := 7) (by have := zmk_z33 M h; omega) (by have := zmk_z33 M h; (exact zo_1709 this)) (by decide))
  have p35 : zPr 92 30 (zmk_13 M) (zmk_35 M) := p34.tr (zPr.i (by decide))
  exact ⟨p35.2.1.trans b1, p35.1.trans b2, p35.2.2.1.trans b3.1, p35.2.2.2.trans b3.2⟩
theorem zmk_a93 (M : zMem) (h : zn M = 82) : zf (zmk M) 81 31 = some 93 ∧ zsh (zmk M) 93 = (1, 4096) ∧ zi (zmk M) 93 = (fun _ => 0) ∧ zj (zmk M) 93 = (fun _ => 0) := by
  have hz : zn (zmk_13 M) = 93 := (zmk_z13 M h)
  have b1 : zf (zmk_14 M) 81 31 = some (zn (zmk_13 M)) := zsF_s (zal (zmk_13 M) 1 4096) 81 31 (some (zn (zmk_13 M)))
  have b2 : zsh (zmk_14 M) (zn (zmk_13 M)) = (1, 4096) := zal_sh (M := (zmk_13 M)) (t := 1) (n := 4096)
  have b3 : zi (zmk_14 M) (zn (zmk_13 M)) = (fun _ => 0) ∧ zj (zmk_14 M) (zn (zmk_13 M)) = (fun _ => 0) := zal_new (M := (zmk_13 M)) (t := 1) (n := 4096)
  rw [hz] at b1 b2 b3
  have p15 : zPr 93 31 (zmk_14 M) (zmk_15 M) := zPr.al (t := 1) (n := 1536) (by have := zmk_z14 M h; omega) (by have := zmk_z14 M h; (exact zo_1671 this)) (by decide)
  have p16 : zPr 93 31 (zmk_14 M) (zmk_16 M) := p15.tr (zPr.al (t := 2) (n := 2560) (by have := zmk_z15 M h; omega) (by have := zmk_z15 M h; (exact zo_1673 this)) (by decide))
  have p17 : zPr 93 31 (zmk_14 M) (zmk_17 M) := p16.tr (zPr.al (t := 2) (n := 64) (by have := zmk_z16 M h; omega) (by have := zmk_z16 M h; (exact zo_1675 this)) (by decide))
  have p18 : zPr 93 31 (zmk_14 M) (zmk_18 M) := p17.tr (zPr.al (t := 2) (n := 64) (by have := zmk_z17 M h; omega) (by have := zmk_z17 M h; (exact zo_1677 this)) (by decide))
  have p19 : zPr 93 31 (zmk_14 M) (zmk_19 M) := p18.tr (zPr.al (t := 2) (n := 64) (by have := zmk_z18 M h; omega) (by have := zmk_z18 M h; (exact zo_1679 this)) (by decide))
  have p20 : zPr 93 31 (zmk_14 M) (zmk_20 M) := p19.tr (zPr.al (t := 2) (n := 64) (by have := zmk_z19 M h; omega) (by have := zmk_z19 M h; (exact zo_1681 this)) (by decide))
  have p21 : zPr 93 31 (zmk_14 M) (zmk_21 M) := p20.tr (zPr.al (t := 1) (n := 80) (by have := zmk_z20 M h; omega) (by have := zmk_z20 M h; (exact zo_1683 this)) (by decide))
  have p22 : zPr 93 31 (zmk_14 M) (zmk_22 M) := p21.tr (zPr.al (t := 2) (n := 8) (by have := zmk_z21 M h; omega) (by have := zmk_z21 M h; (exact zo_1685 this)) (by decide))
  have p23 : zPr 93 31 (zmk_14 M) (zmk_23 M) := p22.tr (zPr.al (t := 2) (n := 512) (by have := zmk_z22 M h; omega) (by have := zmk_z22 M h; (exact zo_1687 this)) (by decide))
  have p24 : zPr 93 31 (zmk_14 M) (zmk_24 M) := p23.tr (zPr.al (t := 2) (n := 8) (by have := zmk_z23 M h; omega) (by have := zmk_z23 M h; (exact zo_1689 this)) (by decide))
  have p25 : zPr 93 31 (zmk_14 M) (zmk_25 M) := p24.tr (zPr.al (t := 2) (n := 512) (by have := zmk_z24 M h; omega) (by have := zmk_z24 M h; (exact zo_1691 this)) (by decide))
  have p26 : zPr 93 31 (zmk_14 M) (zmk_26 M) := p25.tr (zPr.al (t := 2) (n := 64) (by have := zmk_z25 M h; omega) (by have := zmk_z25 M h; (exact zo_1693 this)) (by decide))
  have p27 : zPr 93 31 (zmk_14 M) (zmk_27 M) := p26.tr (zPr.al (t := 1) (n := 128) (by have := zmk_z26 M h; omega) (by have := zmk_z26 M h; (exact zo_1695 this)) (by decide))
  have p28 : zPr 93 31 (zmk_14 M) (zmk_28 M) := p27.tr (zPr.al (t := 2) (n := 64) (by have := zmk_z27 M h; omega) (by have := zmk_z27 M h; (exact zo_1697 this)) (by decide))
  have p29 : zPr 93 31 (zmk_14 M) (zmk_29 M) := p28.tr (zPr.al (t := 2) (n := 64) (by have := zmk_z28 M h; omega) (by have := zmk_z28 M h; (exact zo_1699 this)) (by decide))
  have p30 : zPr 93 31 (zmk_14 M) (zmk_30 M) := p29.tr (zPr.al (t := 1) (n := 24) (by have := zmk_z29 M h; omega) (by have := zmk_z29 M h; (exact zo_1701 this)) (by decide))
  have p31 : zPr 93 31 (zmk_14 M) (zmk_31 M) := p30.tr (zPr.al (t := 1) (n := 65536) (by have := zmk_z30 M h; omega) (by have := zmk_z30 M h; (exact zo_1703 this)) (by decide))
  have p32 : zPr 93 31 (zmk_14 M) (zmk_32 M) := p31.tr (zPr.al (t := 2) (n := 768) (by have := zmk_z31 M h; omega) (by have := zmk_z31 M h; (exact zo_1705 this)) (by decide))
  have p33 : zPr 93 31 (zmk_14 M) (zmk_33 M) := p32.tr (zPr.al (t := 1) (n := 6) (by have := zmk_z32 M h; omega) (by have := zmk_z32 M h; (exact zo_1707 this)) (by decide))
  have p34 : zPr 93 31 (zmk_14 M) (zmk_34 M) := p33.tr (zPr.al (t := 1) (n := 7) (by have := zmk_z33 M h; omega) (by have := zmk_z33 M h; (exact zo_1709 this)) (by decide))
  have p35 : zPr 93 31 (zmk_14 M) (zmk_35 M) := p34.tr (zPr.i (by decide))
  exact ⟨p35.2.1.trans b1, p35.1.trans b2, p35.2.2.1.trans b3.1, p35.2.2.2.trans b3.2⟩
theorem zmk_a94 (M : zMem) (h : zn M = 82) : zf (zmk M) 81 32 = some 94 ∧ zsh (zmk M) 94 = (1, 1536) ∧ zi (zmk M) 94 = (fun _ => 0) ∧ zj (zmk M) 94 = (fun _ => 0) := by
  have hz : zn (zmk_14 M) = 94 := (zmk_z14 M h)
  have b1 : zf (zmk_15 M) 81 32 = some (zn (zmk_14 M)) := zsF_s (zal (zmk_14 M) 1 1536) 81 32 (some (zn (zmk_14 M)))
  have b2 : zsh (zmk_15 M) (zn (zmk_14 M)) = (1, 1536) := zal_sh (M := (zmk_14 M)) (t := 1) (n := 1536)
  have b3 : zi (zmk_15 M) (zn (zmk_14 M)) = (fun _ => 0) ∧ zj (zmk_15 M) (zn (zmk_14 M)) = (fun _ => 0) := zal_new (M := (zmk_14 M)) (t := 1) (n := 1536)
  rw [hz] at b1 b2 b3
  have p16 : zPr 94 32 (zmk_15 M) (zmk_16 M) := zPr.al (t := 2) (n := 2560) (by have := zmk_z15 M h; omega) (by have := zmk_z15 M h; (exact zo_1673 this)) (by decide)
  have p17 : zPr 94 32 (zmk_15 M) (zmk_17 M) := p16.tr (zPr.al (t := 2) (n := 64) (by have := zmk_z16 M h; omega) (by have := zmk_z16 M h; (exact zo_1675 this)) (by decide))
  have p18 : zPr 94 32 (zmk_15 M) (zmk_18 M) := p17.tr (zPr.al (t := 2) (n := 64) (by have := zmk_z17 M h; omega) (by have := zmk_z17 M h; (exact zo_1677 this)) (by decide))
  have p19 : zPr 94 32 (zmk_15 M) (zmk_19 M) := p18.tr (zPr.al (t := 2) (n := 64) (by have := zmk_z18 M h; omega) (by have := zmk_z18 M h; (exact zo_1679 this)) (by decide))
  have p20 : zPr 94 32 (zmk_15 M) (zmk_20 M) := p19.tr (zPr.al (t := 2) (n := 64) (by have := zmk_z19 M h; omega) (by have := zmk_z19 M h; (exact zo_1681 this)) (by decide))
  have p21 : zPr 94 32 (zmk_15 M) (zmk_21 M) := p20.tr (zPr.al (t := 1) (n := 80) (by have := zmk_z20 M h; omega) (by have := zmk_z20 M h; (exact zo_1683 this)) (by decide))
  have p22 : zPr 94 32 (zmk_15 M) (zmk_22 M) := p21.tr (zPr.al (t := 2) (n := 8) (by have := zmk_z21 M h; omega) (by have := zmk_z21 M h; (exact zo_1685 this)) (by decide))
  have p23 : zPr 94 32 (zmk_15 M) (zmk_23 M) := p22.tr (zPr.al (t := 2) (n := 512) (by have := zmk_z22 M h; omega) (by have := zmk_z22 M h; (exact zo_1687 this)) (by decide))
  have p24 : zPr 94 32 (zmk_15 M) (zmk_24 M) := p23.tr (zPr.al (t := 2) (n := 8) (by have := zmk_z23 M h; omega) (by have := zmk_z23 M h; (exact zo_1689 this)) (by decide))
  have p25 : zPr 94 32 (zmk_15 M) (zmk_25 M) := p24.tr (zPr.al (t := 2) (n := 512) (by have := zmk_z24 M h; omega) (by have := zmk_z24 M h; (exact zo_1691 this)) (by decide))
  have p26 : zPr 94 32 (zmk_15 M) (zmk_26 M) := p25.tr (zPr.al (t := 2) (n := 64) (by have := zmk_z25 M h; omega) (by have := zmk_z25 M h; (exact zo_1693 this)) (by decide))
  have p27 : zPr 94 32 (zmk_15 M) (zmk_27 M) := p26.tr (zPr.al (t := 1) (n := 128) (by have := zmk_z26 M h; omega) (by have := zmk_z26 M h; (exact zo_1695 this)) (by decide))
  have p28 : zPr 94 32 (zmk_15 M) (zmk_28 M) := p27.tr (zPr.al (t := 2) (n := 64) (by have := zmk_z27 M h; omega) (by have := zmk_z27 M h; (exact zo_1697 this)) (by decide))
  have p29 : zPr 94 32 (zmk_15 M) (zmk_29 M) := p28.tr (zPr.al (t := 2) (n := 64) (by have := zmk_z28 M h; omega) (by have := zmk_z28 M h; (exact zo_1699 this)) (by decide))
  have p30 : zPr 94 32 (zmk_15 M) (zmk_30 M) := p29.tr (zPr.al (t := 1) (n := 24) (by have := zmk_z29 M h; omega) (by have := zmk_z29 M h; (exact zo_1701 this)) (by decide))
  have p31 : zPr 94 32 (zmk_15 M) (zmk_31 M) := p30.tr (zPr.al (t := 1) (n := 65536) (by have := zmk_z30 M h; omega) (by have := zmk_z30 M h; (exact zo_1703 this)) (by decide))
  have p32 : zPr 94 32 (zmk_15 M) (zmk_32 M) := p31.tr (zPr.al (t := 2) (n := 768) (by have := zmk_z31 M h; omega) (by have := zmk_z31 M h; (exact zo_1705 this)) (by decide))
  have p33 : zPr 94 32 (zmk_15 M) (zmk_33 M) := p32.tr (zPr.al (t := 1) (n := 6) (by have := zmk_z32 M h; omega) (by have := zmk_z32 M h; (exact zo_1707 this)) (by decide))
  have p34 : zPr 94 32 (zmk_15 M) (zmk_34 M) := p33.tr (zPr.al (t := 1) (n := 7) (by have := zmk_z33 M h; omega) (by have := zmk_z33 M h; (exact zo_1709 this)) (by decide))
  have p35 : zPr 94 32 (zmk_15 M) (zmk_35 M) := p34.tr (zPr.i (by decide))
  exact ⟨p35.2.1.trans b1, p35.1.trans b2, p35.2.2.1.trans b3.1, p35.2.2.2.trans b3.2⟩
theorem zmk_a95 (M : zMem) (h : zn M = 82) : zf (zmk M) 81 33 = some 95 ∧ zsh (zmk M) 95 = (2, 2560) ∧ zi (zmk M) 95 = (fun _ => 0) ∧ zj (zmk M) 95 = (fun _ => 0) := by
  have hz : zn (zmk_15 M) = 95 := (zmk_z15 M h)
  have b1 : zf (zmk_16 M) 81 33 = some (zn (zmk_15 M)) := zsF_s (zal (zmk_15 M) 2 2560) 81 33 (some (zn (zmk_15 M)))
  have b2 : zsh (zmk_16 M) (zn (zmk_15 M)) = (2, 2560) := zal_sh (M := (zmk_15 M)) (t := 2) (n := 2560)
  have b3 : zi (zmk_16 M) (zn (zmk_15 M)) = (fun _ => 0) ∧ zj (zmk_16 M) (zn (zmk_15 M)) = (fun _ => 0) := zal_new (M := (zmk_15 M)) (t := 2) (n := 2560)
  rw [hz] at b1 b2 b3
  have p17 : zPr 95 33 (zmk_16 M) (zmk_17 M) := zPr.al (t := 2) (n := 64) (by have := zmk_z16 M h; omega) (by have := zmk_z16 M h; (exact zo_1675 this)) (by decide)
  have p18 : zPr 95 33 (zmk_16 M) (zmk_18 M) := p17.tr (zPr.al (t := 2) (n := 64) (by have := zmk_z17 M h; omega) (by have := zmk_z17 M h; (exact zo_1677 this)) (by decide))
  have p19 : zPr 95 33 (zmk_16 M) (zmk_19 M) := p18.tr (zPr.al (t := 2) (n := 64) (by have := zmk_z18 M h; omega) (by have := zmk_z18 M h; (exact zo_1679 this)) (by decide))
  have p20 : zPr 95 33 (zmk_16 M) (zmk_20 M) := p19.tr (zPr.al (t := 2) (n := 64) (by have := zmk_z19 M h; omega) (by have := zmk_z19 M h; (exact zo_1681 this)) (by decide))
  have p21 : zPr 95 33 (zmk_16 M) (zmk_21 M) := p20.tr (zPr.al (t := 1) (n := 80) (by have := zmk_z20 M h; omega) (by have := zmk_z20 M h; (exact zo_1683 this)) (by decide))
  have p22 : zPr 95 33 (zmk_16 M) (zmk_22 M) := p21.tr (zPr.al (t := 2) (n := 8) (by have := zmk_z21 M h; omega) (by have := zmk_z21 M h; (exact zo_1685 this)) (by decide))
  have p23 : zPr 95 33 (zmk_16 M) (zmk_23 M) := p22.tr (zPr.al (t := 2) (n := 512) (by have := zmk_z22 M h; omega) (by have := zmk_z22 M h; (exact zo_1687 this)) (by decide))
  have p24 : zPr 95 33 (zmk_16 M) (zmk_24 M) := p23.tr (zPr.al (t := 2) (n := 8) (by have := zmk_z23 M h; omega) (by have := zmk_z23 M h; (exact zo_1689 this)) (by decide))
  have p25 : zPr 95 33 (zmk_16 M) (zmk_25 M) := p24.tr (zPr.al (t := 2) (n := 512) (by have := zmk_z24 M h; omega) (by have := zmk_z24 M h; (exact zo_1691 this)) (by decide))
  have p26 : zPr 95 33 (zmk_16 M) (zmk_26 M) := p25.tr (zPr.al (t := 2) (n := 64) (by have := zmk_z25 M h; omega) (by have := zmk_z25 M h; (exact zo_1693 this)) (by decide))
  have p27 : zPr 95 33 (zmk_16 M) (zmk_27 M) := p26.tr (zPr.al (t := 1) (n := 128) (by have := zmk_z26 M h; omega) (by have := zmk_z26 M h; (exact zo_1695 this)) (by decide))
  have p28 : zPr 95 33 (zmk_16 M) (zmk_28 M) := p27.tr (zPr.al (t := 2) (n := 64) (by have := zmk_z27 M h; omega) (by have := zmk_z27 M h; (exact zo_1697 this)) (by decide))
  have p29 : zPr 95 33 (zmk_16 M) (zmk_29 M) := p28.tr (zPr.al (t := 2) (n := 64) (by have := zmk_z28 M h; omega) (by have := zmk_z28 M h; (exact zo_1699 this)) (by decide))
  have p30 : zPr 95 33 (zmk_16 M) (zmk_30 M) := p29.tr (zPr.al (t := 1) (n := 24) (by have := zmk_z29 M h; omega) (by have := zmk_z29 M h; (exact zo_1701 this)) (by decide))
  have p31 : zPr 95 33 (zmk_16 M) (zmk_31 M) := p30.tr (zPr.al (t := 1) (n := 65536) (by have := zmk_z30 M h; omega) (by have := zmk_z30 M h; (exact zo_1703 this)) (by decide))
  have p32 : zPr 95 33 (zmk_16 M) (zmk_32 M) := p31.tr (zPr.al (t := 2) (n := 768) (by have := zmk_z31 M h; omega) (by have := zmk_z31 M h; (exact zo_1705 this)) (by decide))
  have p33 : zPr 95 33 (zmk_16 M) (zmk_33 M) := p32.tr (zPr.al (t := 1) (n := 6) (by have := zmk_z32 M h; omega) (by have := zmk_z32 M h; (exact zo_1707 this)) (by decide))
  have p34 : zPr 95 33 (zmk_16 M) (zmk_34 M) := p33.tr (zPr.al (t := 1) (n := 7) (by have := zmk_z33 M h; omega) (by have := zmk_z33 M h; (exact zo_1709 this)) (by decide))
  have p35 : zPr 95 33 (zmk_16 M) (zmk_35 M) := p34.tr (zPr.i (by decide))
  exact ⟨p35.2.1.trans b1, p35.1.trans b2, p35.2.2.1.trans b3.1, p35.2.2.2.trans b3.2⟩
theorem zmk_a96 (M : zMem) (h : zn M = 82) : zf (zmk M) 81 34 = some 96 ∧ zsh (zmk M) 96 = (2, 64) ∧ zi (zmk M) 96 = (fun _ => 0) ∧ zj (zmk M) 96 = (fun _ => 0) := by
  have hz : zn (zmk_16 M) = 96 := (zmk_z16 M h)
  have b1 : zf (zmk_17 M) 81 34 = some (zn (zmk_16 M)) := zsF_s (zal (zmk_16 M) 2 64) 81 34 (some (zn (zmk_16 M)))
  have b2 : zsh (zmk_17 M) (zn (zmk_16 M)) = (2, 64) := zal_sh (M := (zmk_16 M)) (t := 2) (n := 64)
  have b3 : zi (zmk_17 M) (zn (zmk_16 M)) = (fun _ => 0) ∧ zj (zmk_17 M) (zn (zmk_16 M)) = (fun _ => 0) := zal_new (M := (zmk_16 M)) (t := 2) (n := 64)
  rw [hz] at b1 b2 b3
  have p18 : zPr 96 34 (zmk_17 M) (zmk_18 M) := zPr.al (t := 2) (n := 64) (by have := zmk_z17 M h; omega) (by have := zmk_z17 M h; (exact zo_1677 this)) (by decide)
  have p19 : zPr 96 34 (zmk_17 M) (zmk_19 M) := p18.tr (zPr.al (t := 2) (n := 64) (by have := zmk_z18 M h; omega) (by have := zmk_z18 M h; (exact zo_1679 this)) (by decide))
  have p20 : zPr 96 34 (zmk_17 M) (zmk_20 M) := p19.tr (zPr.al (t := 2) (n := 64) (by have := zmk_z19 M h; omega) (by have := zmk_z19 M h; (exact zo_1681 this)) (by decide))
  have p21 : zPr 96 34 (zmk_17 M) (zmk_21 M) := p20.tr (zPr.al (t := 1) (n := 80) (by have := zmk_z20 M h; omega) (by have := zmk_z20 M h; (exact zo_1683 this)) (by decide))
  have p22 : zPr 96 34 (zmk_17 M) (zmk_22 M) := p21.tr (zPr.al (t := 2) (n := 8) (by have := zmk_z21 M h; omega) (by have := zmk_z21 M h; (exact zo_1685 this)) (by decide))
  have p23 : zPr 96 34 (zmk_17 M) (zmk_23 M) := p22.tr (zPr.al (t := 2) (n := 512) (by have := zmk_z22 M h; omega) (by have := zmk_z22 M h; (exact zo_1687 this)) (by decide))
  have p24 : zPr 96 34 (zmk_17 M) (zmk_24 M) := p23.tr (zPr.al (t := 2) (n := 8) (by have := zmk_z23 M h; omega) (by have := zmk_z23 M h; (exact zo_1689 this)) (by decide))
  have p25 : zPr 96 34 (zmk_17 M) (zmk_25 M) := p24.tr (zPr.al (t := 2) (n := 512) (by have := zmk_z24 M h; omega) (by have := zmk_z24 M h; (exact zo_1691 this)) (by decide))
  have p26 : zPr 96 34 (zmk_17 M) (zmk_26 M) := p25.tr (zPr.al (t := 2) (n := 64) (by have := zmk_z25 M h; omega) (by have := zmk_z25 M h; (exact zo_1693 this)) (by decide))
  have p27 : zPr 96 34 (zmk_17 M) (zmk_27 M) := p26.tr (zPr.al (t := 1) (n := 128) (by have := zmk_z26 M h; omega) (by have := zmk_z26 M h; (exact zo_1695 this)) (by decide))
  have p28 : zPr 96 34 (zmk_17 M) (zmk_28 M) := p27.tr (zPr.al (t := 2) (n := 64) (by have := zmk_z27 M h; omega) (by have := zmk_z27 M h; (exact zo_1697 this)) (by decide))
  have p29 : zPr 96 34 (zmk_17 M) (zmk_29 M) := p28.tr (zPr.al (t := 2) (n := 64) (by have := zmk_z28 M h; omega) (by have := zmk_z28 M h; (exact zo_1699 this)) (by decide))
  have p30 : zPr 96 34 (zmk_17 M) (zmk_30 M) := p29.tr (zPr.al (t := 1) (n := 24) (by have := zmk_z29 M h; omega) (by have := zmk_z29 M h; (exact zo_1701 this)) (by decide))
  have p31 : zPr 96 34 (zmk_17 M) (zmk_31 M) := p30.tr (zPr.al (t := 1) (n := 65536) (by have := zmk_z30 M h; omega) (by have := zmk_z30 M h; (exact zo_1703 this)) (by decide))
  have p32 : zPr 96 34 (zmk_17 M) (zmk_32 M) := p31.tr (zPr.al (t := 2) (n := 768) (by have := zmk_z31 M h; omega) (by have := zmk_z31 M h; (exact zo_1705 this)) (by decide))
  have p33 : zPr 96 34 (zmk_17 M) (zmk_33 M) := p32.tr (zPr.al (t := 1) (n := 6) (by have := zmk_z32 M h; omega) (by have := zmk_z32 M h; (exact zo_1707 this)) (by decide))
  have p34 : zPr 96 34 (zmk_17 M) (zmk_34 M) := p33.tr (zPr.al (t := 1) (n := 7) (by have := zmk_z33 M h; omega) (by have := zmk_z33 M h; (exact zo_1709 this)) (by decide))
  have p35 : zPr 96 34 (zmk_17 M) (zmk_35 M) := p34.tr (zPr.i (by decide))
  exact ⟨p35.2.1.trans b1, p35.1.trans b2, p35.2.2.1.trans b3.1, p35.2.2.2.trans b3.2⟩
theorem zmk_a97 (M : zMem) (h : zn M = 82) : zf (zmk M) 81 35 = some 97 ∧ zsh (zmk M) 97 = (2, 64) ∧ zi (zmk M) 97 = (fun _ => 0) ∧ zj (zmk M) 97 = (fun _ => 0) := by
  have hz : zn (zmk_17 M) = 97 := (zmk_z17 M h)
  have b1 : zf (zmk_18 M) 81 35 = some (zn (zmk_17 M)) := zsF_s (zal (zmk_17 M) 2 64) 81 35 (some (zn (zmk_17 M)))
  have b2 : zsh (zmk_18 M) (zn (zmk_17 M)) = (2, 64) := zal_sh (M := (zmk_17 M)) (t := 2) (n := 64)
  have b3 : zi (zmk_18 M) (zn (zmk_17 M)) = (fun _ => 0) ∧ zj (zmk_18 M) (zn (zmk_17 M)) = (fun _ => 0) := zal_new (M := (zmk_17 M)) (t := 2) (n := 64)
  rw [hz] at b1 b2 b3
  have p19 : zPr 97 35 (zmk_18 M) (zmk_19 M) := zPr.al (t := 2) (n := 64) (by have := zmk_z18 M h; omega) (by have := zmk_z18 M h; (exact zo_1679 this)) (by decide)
  have p20 : zPr 97 35 (zmk_18 M) (zmk_20 M) := p19.tr (zPr.al (t := 2) (n := 64) (by have := zmk_z19 M h; omega) (by have := zmk_z19 M h; (exact zo_1681 this)) (by decide))
  have p21 : zPr 97 35 (zmk_18 M) (zmk_21 M) := p20.tr (zPr.al (t := 1) (n := 80) (by have := zmk_z20 M h; omega) (by have := zmk_z20 M h; (exact zo_1683 this)) (by decide))
  have p22 : zPr 97 35 (zmk_18 M) (zmk_22 M) := p21.tr (zPr.al (t := 2) (n := 8) (by have := zmk_z21 M h; omega) (by have := zmk_z21 M h; (exact zo_1685 this)) (by decide))
  have p23 : zPr 97 35 (zmk_18 M) (zmk_23 M) := p22.tr (zPr.al (t := 2) (n := 512) (by have := zmk_z22 M h; omega) (by have := zmk_z22 M h; (exact zo_1687 this)) (by decide))
  have p24 : zPr 97 35 (zmk_18 M) (zmk_24 M) := p23.tr (zPr.al (t := 2) (n := 8) (by have := zmk_z23 M h; omega) (by have := zmk_z23 M h; (exact zo_1689 this)) (by decide))
  have p25 : zPr 97 35 (zmk_18 M) (zmk_25 M) := p24.tr (zPr.al (t := 2) (n := 512) (by have := zmk_z24 M h; omega) (by have := zmk_z24 M h; (exact zo_1691 this)) (by decide))
  have p26 : zPr 97 35 (zmk_18 M) (zmk_26 M) := p25.tr (zPr.al (t := 2) (n := 64) (by have := zmk_z25 M h; omega) (by have := zmk_z25 M h; (exact zo_1693 this)) (by decide))
  have p27 : zPr 97 35 (zmk_18 M) (zmk_27 M) := p26.tr (zPr.al (t := 1) (n := 128) (by have := zmk_z26 M h; omega) (by have := zmk_z26 M h; (exact zo_1695 this)) (by decide))
  have p28 : zPr 97 35 (zmk_18 M) (zmk_28 M) := p27.tr (zPr.al (t := 2) (n := 64) (by have := zmk_z27 M h; omega) (by have := zmk_z27 M h; (exact zo_1697 this)) (by decide))
  have p29 : zPr 97 35 (zmk_18 M) (zmk_29 M) := p28.tr (zPr.al (t := 2) (n := 64) (by have := zmk_z28 M h; omega) (by have := zmk_z28 M h; (exact zo_1699 this)) (by decide))
  have p30 : zPr 97 35 (zmk_18 M) (zmk_30 M) := p29.tr (zPr.al (t := 1) (n := 24) (by have := zmk_z29 M h; omega) (by have := zmk_z29 M h; (exact zo_1701 this)) (by decide))
  have p31 : zPr 97 35 (zmk_18 M) (zmk_31 M) := p30.tr (zPr.al (t := 1) (n := 65536) (by have := zmk_z30 M h; omega) (by have := zmk_z30 M h; (exact zo_1703 this)) (by decide))
  have p32 : zPr 97 35 (zmk_18 M) (zmk_32 M) := p31.tr (zPr.al (t := 2) (n := 768) (by have := zmk_z31 M h; omega) (by have := zmk_z31 M h; (exact zo_1705 this)) (by decide))
  have p33 : zPr 97 35 (zmk_18 M) (zmk_33 M) := p32.tr (zPr.al (t := 1) (n := 6) (by have := zmk_z32 M h; omega) (by have := zmk_z32 M h; (exact zo_1707 this)) (by decide))
  have p34 : zPr 97 35 (zmk_18 M) (zmk_34 M) := p33.tr (zPr.al (t := 1) (n := 7) (by have := zmk_z33 M h; omega) (by have := zmk_z33 M h; (exact zo_1709 this)) (by decide))
  have p35 : zPr 97 35 (zmk_18 M) (zmk_35 M) := p34.tr (zPr.i (by decide))
  exact ⟨p35.2.1.trans b1, p35.1.trans b2, p35.2.2.1.trans b3.1, p35.2.2.2.trans b3.2⟩
theorem zmk_a98 (M : zMem) (h : zn M = 82) : zf (zmk M) 81 36 = some 98 ∧ zsh (zmk M) 98 = (2, 64) ∧ zi (zmk M) 98 = (fun _ => 0) ∧ zj (zmk M) 98 = (fun _ => 0) := by
  have hz : zn (zmk_18 M) = 98 := (zmk_z18 M h)
  have b1 : zf (zmk_19 M) 81 36 = some (zn (zmk_18 M)) := zsF_s (zal (zmk_18 M) 2 64) 81 36 (some (zn (zmk_18 M)))
  have b2 : zsh (zmk_19 M) (zn (zmk_18 M)) = (2, 64) := zal_sh (M := (zmk_18 M)) (t := 2) (n := 64)
  have b3 : zi (zmk_19 M) (zn (zmk_18 M)) = (fun _ => 0) ∧ zj (zmk_19 M) (zn (zmk_18 M)) = (fun _ => 0) := zal_new (M := (zmk_18 M)) (t := 2) (n := 64)
  rw [hz] at b1 b2 b3
  have p20 : zPr 98 36 (zmk_19 M) (zmk_20 M) := zPr.al (t := 2) (n := 64) (by have := zmk_z19 M h; omega) (by have := zmk_z19 M h; (exact zo_1681 this)) (by decide)
  have p21 : zPr 98 36 (zmk_19 M) (zmk_21 M) := p20.tr (zPr.al (t := 1) (n := 80) (by have := zmk_z20 M h; omega) (by have := zmk_z20 M h; (exact zo_1683 this)) (by decide))
  have p22 : zPr 98 36 (zmk_19 M) (zmk_22 M) := p21.tr (zPr.al (t := 2) (n := 8) (by have := zmk_z21 M h; omega) (by have := zmk_z21 M h; (exact zo_1685 this)) (by decide))
  have p23 : zPr 98 36 (zmk_19 M) (zmk_23 M) := p22.tr (zPr.al (t := 2) (n := 512) (by have := zmk_z22 M h; omega) (by have := zmk_z22 M h; (exact zo_1687 this)) (by decide))
  have p24 : zPr 98 36 (zmk_19 M) (zmk_24 M) := p23.tr (zPr.al (t := 2) (n := 8) (by have := zmk_z23 M h; omega) (by have := zmk_z23 M h; (exact zo_1689 this)) (by decide))
  have p25 : zPr 98 36 (zmk_19 M) (zmk_25 M) := p24.tr (zPr.al (t := 2) (n := 512) (by have := zmk_z24 M h; omega) (by have := zmk_z24 M h; (exact zo_1691 this)) (by decide))
  have p26 : zPr 98 36 (zmk_19 M) (zmk_26 M) := p25.tr (zPr.al (t := 2) (n := 64) (by have := zmk_z25 M h; omega) (by have := zmk_z25 M h; (exact zo_1693 this)) (by decide))
  have p27 : zPr 98 36 (zmk_19 M) (zmk_27 M) := p26.tr (zPr.al (t := 1) (n := 128) (by have := zmk_z26 M h; omega) (by have := zmk_z26 M h; (exact zo_1695 this)) (by decide))
  have p28 : zPr 98 36 (zmk_19 M) (zmk_28 M) := p27.tr (zPr.al (t := 2) (n := 64) (by have := zmk_z27 M h; omega) (by have := zmk_z27 M h; (exact zo_1697 this)) (by decide))
  have p29 : zPr 98 36 (zmk_19 M) (zmk_29 M) := p28.tr (zPr.al (t := 2) (n := 64) (by have := zmk_z28 M h; omega) (by have := zmk_z28 M h; (exact zo_1699 this)) (by decide))
  have p30 : zPr 98 36 (zmk_19 M) (zmk_30 M) := p29.tr (zPr.al (t := 1) (n := 24) (by have := zmk_z29 M h; omega) (by have := zmk_z29 M h; (exact zo_1701 this)) (by decide))
  have p31 : zPr 98 36 (zmk_19 M) (zmk_31 M) := p30.tr (zPr.al (t := 1) (n := 65536) (by have := zmk_z30 M h; omega) (by have := zmk_z30 M h; (exact zo_1703 this)) (by decide))
  have p32 : zPr 98 36 (zmk_19 M) (zmk_32 M) := p31.tr (zPr.al (t := 2) (n := 768) (by have := zmk_z31 M h; omega) (by have := zmk_z31 M h; (exact zo_1705 this)) (by decide))
  have p33 : zPr 98 36 (zmk_19 M) (zmk_33 M) := p32.tr (zPr.al (t := 1) (n := 6) (by have := zmk_z32 M h; omega) (by have := zmk_z32 M h; (exact zo_1707 this)) (by decide))
  have p34 : zPr 98 36 (zmk_19 M) (zmk_34 M) := p33.tr (zPr.al (t := 1) (n := 7) (by have := zmk_z33 M h; omega) (by have := zmk_z33 M h; (exact zo_1709 this)) (by decide))
  have p35 : zPr 98 36 (zmk_19 M) (zmk_35 M) := p34.tr (zPr.i (by decide))
  exact ⟨p35.2.1.trans b1, p35.1.trans b2, p35.2.2.1.trans b3.1, p35.2.2.2.trans b3.2⟩
theorem zmk_a99 (M : zMem) (h : zn M = 82) : zf (zmk M) 81 37 = some 99 ∧ zsh (zmk M) 99 = (2, 64) ∧ zi (zmk M) 99 = (fun _ => 0) ∧ zj (zmk M) 99 = (fun _ => 0) := by
  have hz : zn (zmk_19 M) = 99 := (zmk_z19 M h)
  have b1 : zf (zmk_20 M) 81 37 = some (zn (zmk_19 M)) := zsF_s (zal (zmk_19 M) 2 64) 81 37 (some (zn (zmk_19 M)))
  have b2 : zsh (zmk_20 M) (zn (zmk_19 M)) = (2, 64) := zal_sh (M := (zmk_19 M)) (t := 2) (n := 64)
  have b3 : zi (zmk_20 M) (zn (zmk_19 M)) = (fun _ => 0) ∧ zj (zmk_20 M) (zn (zmk_19 M)) = (fun _ => 0) := zal_new (M := (zmk_19 M)) (t := 2) (n := 64)
  rw [hz] at b1 b2 b3
  have p21 : zPr 99 37 (zmk_20 M) (zmk_21 M) := zPr.al (t := 1) (n := 80) (by have := zmk_z20 M h; omega) (by have := zmk_z20 M h; (exact zo_1683 this)) (by decide)
  have p22 : zPr 99 37 (zmk_20 M) (zmk_22 M) := p21.tr (zPr.al (t := 2) (n := 8) (by have := zmk_z21 M h; omega) (by have := zmk_z21 M h; (exact zo_1685 this)) (by decide))
  have p23 : zPr 99 37 (zmk_20 M) (zmk_23 M) := p22.tr (zPr.al (t := 2) (n := 512) (by have := zmk_z22 M h; omega) (by have := zmk_z22 M h; (exact zo_1687 this)) (by decide))
  have p24 : zPr 99 37 (zmk_20 M) (zmk_24 M) := p23.tr (zPr.al (t := 2) (n := 8) (by have := zmk_z23 M h; omega) (by have := zmk_z23 M h; (exact zo_1689 this)) (by decide))
  have p25 : zPr 99 37 (zmk_20 M) (zmk_25 M) := p24.tr (zPr.al (t := 2) (n := 512) (by have := zmk_z24 M h; omega) (by have := zmk_z24 M h; (exact zo_1691 this)) (by decide))
  have p26 : zPr 99 37 (zmk_20 M) (zmk_26 M) := p25.tr (zPr.al (t := 2) (n := 64) (by have := zmk_z25 M h; omega) (by have := zmk_z25 M h; (exact zo_1693 this)) (by decide))
  have p27 : zPr 99 37 (zmk_20 M) (zmk_27 M) := p26.tr (zPr.al (t := 1) (n := 128) (by have := zmk_z26 M h; omega) (by have := zmk_z26 M h; (exact zo_1695 this)) (by decide))
  have p28 : zPr 99 37 (zmk_20 M) (zmk_28 M) := p27.tr (zPr.al (t := 2) (n := 64) (by have := zmk_z27 M h; omega) (by have := zmk_z27 M h; (exact zo_1697 this)) (by decide))
  have p29 : zPr 99 37 (zmk_20 M) (zmk_29 M) := p28.tr (zPr.al (t := 2) (n := 64) (by have := zmk_z28 M h; omega) (by have := zmk_z28 M h; (exact zo_1699 this)) (by decide))
  have p30 : zPr 99 37 (zmk_20 M) (zmk_30 M) := p29.tr (zPr.al (t := 1) (n := 24) (by have := zmk_z29 M h; omega) (by have := zmk_z29 M h; (exact zo_1701 this)) (by decide))
  have p31 : zPr 99 37 (zmk_20 M) (zmk_31 M) := p30.tr (zPr.al (t := 1) (n := 65536) (by have := zmk_z30 M h; omega) (by have := zmk_z30 M h; (exact zo_1703 this)) (by decide))
  have p32 : zPr 99 37 (zmk_20 M) (zmk_32 M) := p31.tr (zPr.al (t := 2) (n := 768) (by have := zmk_z31 M h; omega) (by have := zmk_z31 M h; (exact zo_1705 this)) (by decide))
  have p33 : zPr 99 37 (zmk_20 M) (zmk_33 M) := p32.tr (zPr.al (t := 1) (n := 6) (by have := zmk_z32 M h; omega) (by have := zmk_z32 M h; (exact zo_1707 this)) (by decide))
  have p34 : zPr 99 37 (zmk_20 M) (zmk_34 M) := p33.tr (zPr.al (t := 1) (n := 7) (by have := zmk_z33 M h; omega) (by have := zmk_z33 M h; (exact zo_1709 this)) (by decide))
  have p35 : zPr 99 37 (zmk_20 M) (zmk_35 M) := p34.tr (zPr.i (by decide))
  exact ⟨p35.2.1.trans b1, p35.1.trans b2, p35.2.2.1.trans b3.1, p35.2.2.2.trans b3.2⟩
theorem zmk_a100 (M : zMem) (h : zn M = 82) : zf (zmk M) 81 40 = some 100 ∧ zsh (zmk M) 100 = (1, 80) ∧ zi (zmk M) 100 = (fun _ => 0) ∧ zj (zmk M) 100 = (fun _ => 0) := by
  have hz : zn (zmk_20 M) = 100 := (zmk_z20 M h)
  have b1 : zf (zmk_21 M) 81 40 = some (zn (zmk_20 M)) := zsF_s (zal (zmk_20 M) 1 80) 81 40 (some (zn (zmk_20 M)))
  have b2 : zsh (zmk_21 M) (zn (zmk_20 M)) = (1, 80) := zal_sh (M := (zmk_20 M)) (t := 1) (n := 80)
  have b3 : zi (zmk_21 M) (zn (zmk_20 M)) = (fun _ => 0) ∧ zj (zmk_21 M) (zn (zmk_20 M)) = (fun _ => 0) := zal_new (M := (zmk_20 M)) (t := 1) (n := 80)
  rw [hz] at b1 b2 b3
  have p22 : zPr 100 40 (zmk_21 M) (zmk_22 M) := zPr.al (t := 2) (n := 8) (by have := zmk_z21 M h; omega) (by have := zmk_z21 M h; (exact zo_1685 this)) (by decide)
  have p23 : zPr 100 40 (zmk_21 M) (zmk_23 M) := p22.tr (zPr.al (t := 2) (n := 512) (by have := zmk_z22 M h; omega) (by have := zmk_z22 M h; (exact zo_1687 this)) (by decide))
  have p24 : zPr 100 40 (zmk_21 M) (zmk_24 M) := p23.tr (zPr.al (t := 2) (n := 8) (by have := zmk_z23 M h; omega) (by have := zmk_z23 M h; (exact zo_1689 this)) (by decide))
  have p25 : zPr 100 40 (zmk_21 M) (zmk_25 M) := p24.tr (zPr.al (t := 2) (n := 512) (by have := zmk_z24 M h; omega) (by have := zmk_z24 M h; (exact zo_1691 this)) (by decide))
  have p26 : zPr 100 40 (zmk_21 M) (zmk_26 M) := p25.tr (zPr.al (t := 2) (n := 64) (by have := zmk_z25 M h; omega) (by have := zmk_z25 M h; (exact zo_1693 this)) (by decide))
  have p27 : zPr 100 40 (zmk_21 M) (zmk_27 M) := p26.tr (zPr.al (t := 1) (n := 128) (by have := zmk_z26 M h; omega) (by have := zmk_z26 M h; (exact zo_1695 this)) (by decide))
  have p28 : zPr 100 40 (zmk_21 M) (zmk_28 M) := p27.tr (zPr.al (t := 2) (n := 64) (by have := zmk_z27 M h; omega) (by have := zmk_z27 M h; (exact zo_1697 this)) (by decide))
  have p29 : zPr 100 40 (zmk_21 M) (zmk_29 M) := p28.tr (zPr.al (t := 2) (n := 64) (by have := zmk_z28 M h; omega) (by have := zmk_z28 M h; (exact zo_1699 this)) (by decide))
  have p30 : zPr 100 40 (zmk_21 M) (zmk_30 M) := p29.tr (zPr.al (t := 1) (n := 24) (by have := zmk_z29 M h; omega) (by have := zmk_z29 M h; (exact zo_1701 this)) (by decide))
  have p31 : zPr 100 40 (zmk_21 M) (zmk_31 M) := p30.tr (zPr.al (t := 1) (n := 65536) (by have := zmk_z30 M h; omega) (by have := zmk_z30 M h; (exact zo_1703 this)) (by decide))
  have p32 : zPr 100 40 (zmk_21 M) (zmk_32 M) := p31.tr (zPr.al (t := 2) (n := 768) (by have := zmk_z31 M h; omega) (by have := zmk_z31 M h; (exact zo_1705 this)) (by decide))
  have p33 : zPr 100 40 (zmk_21 M) (zmk_33 M) := p32.tr (zPr.al (t := 1) (n := 6) (by have := zmk_z32 M h; omega) (by have := zmk_z32 M h; (exact zo_1707 this)) (by decide))
  have p34 : zPr 100 40 (zmk_21 M) (zmk_34 M) := p33.tr (zPr.al (t := 1) (n := 7) (by have := zmk_z33 M h; omega) (by have := zmk_z33 M h; (exact zo_1709 this)) (by decide))
  have p35 : zPr 100 40 (zmk_21 M) (zmk_35 M) := p34.tr (zPr.i (by decide))
  exact ⟨p35.2.1.trans b1, p35.1.trans b2, p35.2.2.1.trans b3.1, p35.2.2.2.trans b3.2⟩
theorem zmk_a101 (M : zMem) (h : zn M = 82) : zf (zmk M) 81 44 = some 101 ∧ zsh (zmk M) 101 = (2, 8) ∧ zi (zmk M) 101 = (fun _ => 0) ∧ zj (zmk M) 101 = (fun _ => 0) := by
  have hz : zn (zmk_21 M) = 101 := (zmk_z21 M h)
  have b1 : zf (zmk_22 M) 81 44 = some (zn (zmk_21 M)) := zsF_s (zal (zmk_21 M) 2 8) 81 44 (some (zn (zmk_21 M)))
  have b2 : zsh (zmk_22 M) (zn (zmk_21 M)) = (2, 8) := zal_sh (M := (zmk_21 M)) (t := 2) (n := 8)
  have b3 : zi (zmk_22 M) (zn (zmk_21 M)) = (fun _ => 0) ∧ zj (zmk_22 M) (zn (zmk_21 M)) = (fun _ => 0) := zal_new (M := (zmk_21 M)) (t := 2) (n := 8)
  rw [hz] at b1 b2 b3
  have p23 : zPr 101 44 (zmk_22 M) (zmk_23 M) := zPr.al (t := 2) (n := 512) (by have := zmk_z22 M h; omega) (by have := zmk_z22 M h; (exact zo_1687 this)) (by decide)
  have p24 : zPr 101 44 (zmk_22 M) (zmk_24 M) := p23.tr (zPr.al (t := 2) (n := 8) (by have := zmk_z23 M h; omega) (by have := zmk_z23 M h; (exact zo_1689 this)) (by decide))
  have p25 : zPr 101 44 (zmk_22 M) (zmk_25 M) := p24.tr (zPr.al (t := 2) (n := 512) (by have := zmk_z24 M h; omega) (by have := zmk_z24 M h; (exact zo_1691 this)) (by decide))
  have p26 : zPr 101 44 (zmk_22 M) (zmk_26 M) := p25.tr (zPr.al (t := 2) (n := 64) (by have := zmk_z25 M h; omega) (by have := zmk_z25 M h; (exact zo_1693 this)) (by decide))
  have p27 : zPr 101 44 (zmk_22 M) (zmk_27 M) := p26.tr (zPr.al (t := 1) (n := 128) (by have := zmk_z26 M h; omega) (by have := zmk_z26 M h; (exact zo_1695 this)) (by decide))
  have p28 : zPr 101 44 (zmk_22 M) (zmk_28 M) := p27.tr (zPr.al (t := 2) (n := 64) (by have := zmk_z27 M h; omega) (by have := zmk_z27 M h; (exact zo_1697 this)) (by decide))
  have p29 : zPr 101 44 (zmk_22 M) (zmk_29 M) := p28.tr (zPr.al (t := 2) (n := 64) (by have := zmk_z28 M h; omega) (by have := zmk_z28 M h; (exact zo_1699 this)) (by decide))
  have p30 : zPr 101 44 (zmk_22 M) (zmk_30 M) := p29.tr (zPr.al (t := 1) (n := 24) (by have := zmk_z29 M h; omega) (by have := zmk_z29 M h; (exact zo_1701 this)) (by decide))
  have p31 : zPr 101 44 (zmk_22 M) (zmk_31 M) := p30.tr (zPr.al (t := 1) (n := 65536) (by have := zmk_z30 M h; omega) (by have := zmk_z30 M h; (exact zo_1703 this)) (by decide))
  have p32 : zPr 101 44 (zmk_22 M) (zmk_32 M) := p31.tr (zPr.al (t := 2) (n := 768) (by have := zmk_z31 M h; omega) (by have := zmk_z31 M h; (exact zo_1705 this)) (by decide))
  have p33 : zPr 101 44 (zmk_22 M) (zmk_33 M) := p32.tr (zPr.al (t := 1) (n := 6) (by have := zmk_z32 M h; omega) (by have := zmk_z32 M h; (exact zo_1707 this)) (by decide))
  have p34 : zPr 101 44 (zmk_22 M) (zmk_34 M) := p33.tr (zPr.al (t := 1) (n := 7) (by have := zmk_z33 M h; omega) (by have := zmk_z33 M h; (exact zo_1709 this)) (by decide))
  have p35 : zPr 101 44 (zmk_22 M) (zmk_35 M) := p34.tr (zPr.i (by decide))
  exact ⟨p35.2.1.trans b1, p35.1.trans b2, p35.2.2.1.trans b3.1, p35.2.2.2.trans b3.2⟩
theorem zmk_a102 (M : zMem) (h : zn M = 82) : zf (zmk M) 81 45 = some 102 ∧ zsh (zmk M) 102 = (2, 512) ∧ zi (zmk M) 102 = (fun _ => 0) ∧ zj (zmk M) 102 = (fun _ => 0) := by
  have hz : zn (zmk_22 M) = 102 := (zmk_z22 M h)
  have b1 : zf (zmk_23 M) 81 45 = some (zn (zmk_22 M)) := zsF_s (zal (zmk_22 M) 2 512) 81 45 (some (zn (zmk_22 M)))
  have b2 : zsh (zmk_23 M) (zn (zmk_22 M)) = (2, 512) := zal_sh (M := (zmk_22 M)) (t := 2) (n := 512)
  have b3 : zi (zmk_23 M) (zn (zmk_22 M)) = (fun _ => 0) ∧ zj (zmk_23 M) (zn (zmk_22 M)) = (fun _ => 0) := zal_new (M := (zmk_22 M)) (t := 2) (n := 512)
  rw [hz] at b1 b2 b3
  have p24 : zPr 102 45 (zmk_23 M) (zmk_24 M) := zPr.al (t := 2) (n := 8) (by have := zmk_z23 M h; omega) (by have := zmk_z23 M h; (exact zo_1689 this)) (by decide)
  have p25 : zPr 102 45 (zmk_23 M) (zmk_25 M) := p24.tr (zPr.al (t := 2) (n := 512) (by have := zmk_z24 M h; omega) (by have := zmk_z24 M h; (exact zo_1691 this)) (by decide))
  have p26 : zPr 102 45 (zmk_23 M) (zmk_26 M) := p25.tr (zPr.al (t := 2) (n := 64) (by have := zmk_z25 M h; omega) (by have := zmk_z25 M h; (exact zo_1693 this)) (by decide))
  have p27 : zPr 102 45 (zmk_23 M) (zmk_27 M) := p26.tr (zPr.al (t := 1) (n := 128) (by have := zmk_z26 M h; omega) (by have := zmk_z26 M h; (exact zo_1695 this)) (by decide))
  have p28 : zPr 102 45 (zmk_23 M) (zmk_28 M) := p27.tr (zPr.al (t := 2) (n := 64) (by have := zmk_z27 M h; omega) (by have := zmk_z27 M h; (exact zo_1697 this)) (by decide))
  have p29 : zPr 102 45 (zmk_23 M) (zmk_29 M) := p28.tr (zPr.al (t := 2) (n := 64) (by have := zmk_z28 M h; omega) (by have := zmk_z28 M h; (exact zo_1699 this)) (by decide))
  have p30 : zPr 102 45 (zmk_23 M) (zmk_30 M) := p29.tr (zPr.al (t := 1) (n := 24) (by have := zmk_z29 M h; omega) (by have := zmk_z29 M h; (exact zo_1701 this)) (by decide))
  have p31 : zPr 102 45 (zmk_23 M) (zmk_31 M) := p30.tr (zPr.al (t := 1) (n := 65536) (by have := zmk_z30 M h; omega) (by have := zmk_z30 M h; (exact zo_1703 this)) (by decide))
  have p32 : zPr 102 45 (zmk_23 M) (zmk_32 M) := p31.tr (zPr.al (t := 2) (n := 768) (by have := zmk_z31 M h; omega) (by have := zmk_z31 M h; (exact zo_1705 this)) (by decide))
  have p33 : zPr 102 45 (zmk_23 M) (zmk_33 M) := p32.tr (zPr.al (t := 1) (n := 6) (by have := zmk_z32 M h; omega) (by have := zmk_z32 M h; (exact zo_1707 this)) (by decide))
  have p34 : zPr 102 45 (zmk_23 M) (zmk_34 M) := p33.tr (zPr.al (t := 1) (n := 7) (by have := zmk_z33 M h; omega) (by have := zmk_z33 M h; (exact zo_1709 this)) (by decide))
  have p35 : zPr 102 45 (zmk_23 M) (zmk_35 M) := p34.tr (zPr.i (by decide))
  exact ⟨p35.2.1.trans b1, p35.1.trans b2, p35.2.2.1.trans b3.1, p35.2.2.2.trans b3.2⟩
theorem zmk_a103 (M : zMem) (h : zn M = 82) : zf (zmk M) 81 46 = some 103 ∧ zsh (zmk M) 103 = (2, 8) ∧ zi (zmk M) 103 = (fun _ => 0) ∧ zj (zmk M) 103 = (fun _ => 0) := by
  have hz : zn (zmk_23 M) = 103 := (zmk_z23 M h)
  have b1 : zf (zmk_24 M) 81 46 = some (zn (zmk_23 M)) := zsF_s (zal (zmk_23 M) 2 8) 81 46 (some (zn (zmk_23 M)))
  have b2 : zsh (zmk_24 M) (zn (zmk_23 M)) = (2, 8) := zal_sh (M := (zmk_23 M)) (t := 2) (n := 8)
  have b3 : zi (zmk_24 M) (zn (zmk_23 M)) = (fun _ => 0) ∧ zj (zmk_24 M) (zn (zmk_23 M)) = (fun _ => 0) := zal_new (M := (zmk_23 M)) (t := 2) (n := 8)
  rw [hz] at b1 b2 b3
  have p25 : zPr 103 46 (zmk_24 M) (zmk_25 M) := zPr.al (t := 2) (n := 512) (by have := zmk_z24 M h; omega) (by have := zmk_z24 M h; (exact zo_1691 this)) (by decide)
  have p26 : zPr 103 46 (zmk_24 M) (zmk_26 M) := p25.tr (zPr.al (t := 2) (n := 64) (by have := zmk_z25 M h; omega) (by have := zmk_z25 M h; (exact zo_1693 this)) (by decide))
  have p27 : zPr 103 46 (zmk_24 M) (zmk_27 M) := p26.tr (zPr.al (t := 1) (n := 128) (by have := zmk_z26 M h; omega) (by have := zmk_z26 M h; (exact zo_1695 this)) (by decide))
  have p28 : zPr 103 46 (zmk_24 M) (zmk_28 M) := p27.tr (zPr.al (t := 2) (n := 64) (by have := zmk_z27 M h; omega) (by have := zmk_z27 M h; (exact zo_1697 this)) (by decide))
  have p29 : zPr 103 46 (zmk_24 M) (zmk_29 M) := p28.tr (zPr.al (t := 2) (n := 64) (by have := zmk_z28 M h; omega) (by have := zmk_z28 M h; (exact zo_1699 this)) (by decide))
  have p30 : zPr 103 46 (zmk_24 M) (zmk_30 M) := p29.tr (zPr.al (t := 1) (n := 24) (by have := zmk_z29 M h; omega) (by have := zmk_z29 M h; (exact zo_1701 this)) (by decide))
  have p31 : zPr 103 46 (zmk_24 M) (zmk_31 M) := p30.tr (zPr.al (t := 1) (n := 65536) (by have := zmk_z30 M h; omega) (by have := zmk_z30 M h; (exact zo_1703 this)) (by decide))
  have p32 : zPr 103 46 (zmk_24 M) (zmk_32 M) := p31.tr (zPr.al (t := 2) (n := 768) (by have := zmk_z31 M h; omega) (by have := zmk_z31 M h; (exact zo_1705 this)) (by decide))
  have p33 : zPr 103 46 (zmk_24 M) (zmk_33 M) := p32.tr (zPr.al (t := 1) (n := 6) (by have := zmk_z32 M h; omega) (by have := zmk_z32 M h; (exact zo_1707 this)) (by decide))
  have p34 : zPr 103 46 (zmk_24 M) (zmk_34 M) := p33.tr (zPr.al (t := 1) (n := 7) (by have := zmk_z33 M h; omega) (by have := zmk_z33 M h; (exact zo_1709 this)) (by decide))
  have p35 : zPr 103 46 (zmk_24 M) (zmk_35 M) := p34.tr (zPr.i (by decide))
  exact ⟨p35.2.1.trans b1, p35.1.trans b2, p35.2.2.1.trans b3.1, p35.2.2.2.trans b3.2⟩
theorem zmk_a104 (M : zMem) (h : zn M = 82) : zf (zmk M) 81 47 = some 104 ∧ zsh (zmk M) 104 = (2, 512) ∧ zi (zmk M) 104 = (fun _ => 0) ∧ zj (zmk M) 104 = (fun _ => 0) := by
  have hz : zn (zmk_24 M) = 104 := (zmk_z24 M h)
  have b1 : zf (zmk_25 M) 81 47 = some (zn (zmk_24 M)) := zsF_s (zal (zmk_24 M) 2 512) 81 47 (some (zn (zmk_24 M)))
  have b2 : zsh (zmk_25 M) (zn (zmk_24 M)) = (2, 512) := zal_sh (M := (zmk_24 M)) (t := 2) (n := 512)
  have b3 : zi (zmk_25 M) (zn (zmk_24 M)) = (fun _ => 0) ∧ zj (zmk_25 M) (zn (zmk_24 M)) = (fun _ => 0) := zal_new (M := (zmk_24 M)) (t := 2) (n := 512)
  rw [hz] at b1 b2 b3
  have p26 : zPr 104 47 (zmk_25 M) (zmk_26 M) := zPr.al (t := 2) (n := 64) (by have := zmk_z25 M h; omega) (by have := zmk_z25 M h; (exact zo_1693 this)) (by decide)
  have p27 : zPr 104 47 (zmk_25 M) (zmk_27 M) := p26.tr (zPr.al (t := 1) (n := 128) (by have := zmk_z26 M h; omega) (by have := zmk_z26 M h; (exact zo_1695 this)) (by decide))
  have p28 : zPr 104 47 (zmk_25 M) (zmk_28 M) := p27.tr (zPr.al (t := 2) (n := 64) (by have := zmk_z27 M h; omega) (by have := zmk_z27 M h; (exact zo_1697 this)) (by decide))
  have p29 : zPr 104 47 (zmk_25 M) (zmk_29 M) := p28.tr (zPr.al (t := 2) (n := 64) (by have := zmk_z28 M h; omega) (by have := zmk_z28 M h; (exact zo_1699 this)) (by decide))
  have p30 : zPr 104 47 (zmk_25 M) (zmk_30 M) := p29.tr (zPr.al (t := 1) (n := 24) (by have := zmk_z29 M h; omega) (by have := zmk_z29 M h; (exact zo_1701 this)) (by decide))
  have p31 : zPr 104 47 (zmk_25 M) (zmk_31 M) := p30.tr (zPr.al (t := 1) (n := 65536) (by have := zmk_z30 M h; omega) (by have := zmk_z30 M h; (exact zo_1703 this)) (by decide))
  have p32 : zPr 104 47 (zmk_25 M) (zmk_32 M) := p31.tr (zPr.al (t := 2) (n := 768) (by have := zmk_z31 M h; omega) (by have := zmk_z31 M h; (exact zo_1705 this)) (by decide))
  have p33 : zPr 104 47 (zmk_25 M) (zmk_33 M) := p32.tr (zPr.al (t := 1) (n := 6) (by have := zmk_z32 M h; omega) (by have := zmk_z32 M h; (exact zo_1707 this)) (by decide))
  have p34 : zPr 104 47 (zmk_25 M) (zmk_34 M) := p33.tr (zPr.al (t := 1) (n := 7) (by have := zmk_z33 M h; omega) (by have := zmk_z33 M h; (exact zo_1709 this)) (by decide))
  have p35 : zPr 104 47 (zmk_25 M) (zmk_35 M) := p34.tr (zPr.i (by decide))
  exact ⟨p35.2.1.trans b1, p35.1.trans b2, p35.2.2.1.trans b3.1, p35.2.2.2.trans b3.2⟩
theorem zmk_a105 (M : zMem) (h : zn M = 82) : zf (zmk M) 81 48 = some 105 ∧ zsh (zmk M) 105 = (2, 64) ∧ zi (zmk M) 105 = (fun _ => 0) ∧ zj (zmk M) 105 = (fun _ => 0) := by
  have hz : zn (zmk_25 M) = 105 := (zmk_z25 M h)
  have b1 : zf (zmk_26 M) 81 48 = some (zn (zmk_25 M)) := zsF_s (zal (zmk_25 M) 2 64) 81 48 (some (zn (zmk_25 M)))
  have b2 : zsh (zmk_26 M) (zn (zmk_25 M)) = (2, 64) := zal_sh (M := (zmk_25 M)) (t := 2) (n := 64)
  have b3 : zi (zmk_26 M) (zn (zmk_25 M)) = (fun _ => 0) ∧ zj (zmk_26 M) (zn (zmk_25 M)) = (fun _ => 0) := zal_new (M := (zmk_25 M)) (t := 2) (n := 64)
  rw [hz] at b1 b2 b3
  have p27 : zPr 105 48 (zmk_26 M) (zmk_27 M) := zPr.al (t := 1) (n := 128) (by have := zmk_z26 M h; omega) (by have := zmk_z26 M h; (exact zo_1695 this)) (by decide)
  have p28 : zPr 105 48 (zmk_26 M) (zmk_28 M) := p27.tr (zPr.al (t := 2) (n := 64) (by have := zmk_z27 M h; omega) (by have := zmk_z27 M h; (exact zo_1697 this)) (by decide))
  have p29 : zPr 105 48 (zmk_26 M) (zmk_29 M) := p28.tr (zPr.al (t := 2) (n := 64) (by have := zmk_z28 M h; omega) (by have := zmk_z28 M h; (exact zo_1699 this)) (by decide))
  have p30 : zPr 105 48 (zmk_26 M) (zmk_30 M) := p29.tr (zPr.al (t := 1) (n := 24) (by have := zmk_z29 M h; omega) (by have := zmk_z29 M h; (exact zo_1701 this)) (by decide))
  have p31 : zPr 105 48 (zmk_26 M) (zmk_31 M) := p30.tr (zPr.al (t := 1) (n := 65536) (by have := zmk_z30 M h; omega) (by have := zmk_z30 M h; (exact zo_1703 this)) (by decide))
  have p32 : zPr 105 48 (zmk_26 M) (zmk_32 M) := p31.tr (zPr.al (t := 2) (n := 768) (by have := zmk_z31 M h; omega) (by have := zmk_z31 M h; (exact zo_1705 this)) (by decide))
  have p33 : zPr 105 48 (zmk_26 M) (zmk_33 M) := p32.tr (zPr.al (t := 1) (n := 6) (by have := zmk_z32 M h; omega) (by have := zmk_z32 M h; (exact zo_1707 this)) (by decide))
  have p34 : zPr 105 48 (zmk_26 M) (zmk_34 M) := p33.tr (zPr.al (t := 1) (n := 7) (by have := zmk_z33 M h; omega) (by have := zmk_z33 M h; (exact zo_1709 this)) (by decide))
  have p35 : zPr 105 48 (zmk_26 M) (zmk_35 M) := p34.tr (zPr.i (by decide))
  exact ⟨p35.2.1.trans b1, p35.1.trans b2, p35.2.2.1.trans b3.1, p35.2.2.2.trans b3.2⟩
theorem zmk_a106 (M : zMem) (h : zn M = 82) : zf (zmk M) 81 49 = some 106 ∧ zsh (zmk M) 106 = (1, 128) ∧ zi (zmk M) 106 = (fun _ => 0) ∧ zj (zmk M) 106 = (fun _ => 0) := by
  have hz : zn (zmk_26 M) = 106 := (zmk_z26 M h)
  have b1 : zf (zmk_27 M) 81 49 = some (zn (zmk_26 M)) := zsF_s (zal (zmk_26 M) 1 128) 81 49 (some (zn (zmk_26 M)))
  have b2 : zsh (zmk_27 M) (zn (zmk_26 M)) = (1, 128) := zal_sh (M := (zmk_26 M)) (t := 1) (n := 128)
  have b3 : zi (zmk_27 M) (zn (zmk_26 M)) = (fun _ => 0) ∧ zj (zmk_27 M) (zn (zmk_26 M)) = (fun _ => 0) := zal_new (M := (zmk_26 M)) (t := 1) (n := 128)
  rw [hz] at b1 b2 b3
  have p28 : zPr 106 49 (zmk_27 M) (zmk_28 M) := zPr.al (t := 2) (n := 64) (by have := zmk_z27 M h; omega) (by have := zmk_z27 M h; (exact zo_1697 this)) (by decide)
  have p29 : zPr 106 49 (zmk_27 M) (zmk_29 M) := p28.tr (zPr.al (t := 2) (n := 64) (by have := zmk_z28 M h; omega) (by have := zmk_z28 M h; (exact zo_1699 this)) (by decide))
  have p30 : zPr 106 49 (zmk_27 M) (zmk_30 M) := p29.tr (zPr.al (t := 1) (n := 24) (by have := zmk_z29 M h; omega) (by have := zmk_z29 M h; (exact zo_1701 this)) (by decide))
  have p31 : zPr 106 49 (zmk_27 M) (zmk_31 M) := p30.tr (zPr.al (t := 1) (n := 65536) (by have := zmk_z30 M h; omega) (by have := zmk_z30 M h; (exact zo_1703 this)) (by decide))
  have p32 : zPr 106 49 (zmk_27 M) (zmk_32 M) := p31.tr (zPr.al (t := 2) (n := 768) (by have := zmk_z31 M h; omega) (by have := zmk_z31 M h; (exact zo_1705 this)) (by decide))
  have p33 : zPr 106 49 (zmk_27 M) (zmk_33 M) := p32.tr (zPr.al (t := 1) (n := 6) (by have := zmk_z32 M h; omega) (by have := zmk_z32 M h; (exact zo_1707 this)) (by decide))
  have p34 : zPr 106 49 (zmk_27 M) (zmk_34 M) := p33.tr (zPr.al (t := 1) (n := 7) (by have := zmk_z33 M h; omega) (by have := zmk_z33 M h; (exact zo_1709 this)) (by decide))
  have p35 : zPr 106 49 (zmk_27 M) (zmk_35 M) := p34.tr (zPr.i (by decide))
  exact ⟨p35.2.1.trans b1, p35.1.trans b2, p35.2.2.1.trans b3.1, p35.2.2.2.trans b3.2⟩
theorem zmk_a107 (M : zMem) (h : zn M = 82) : zf (zmk M) 81 50 = some 107 ∧ zsh (zmk M) 107 = (2, 64) ∧ zi (zmk M) 107 = (fun _ => 0) ∧ zj (zmk M) 107 = (fun _ => 0) := by
  have hz : zn (zmk_27 M) = 107 := (zmk_z27 M h)
  have b1 : zf (zmk_28 M) 81 50 = some (zn (zmk_27 M)) := zsF_s (zal (zmk_27 M) 2 64) 81 50 (some (zn (zmk_27 M)))
  have b2 : zsh (zmk_28 M) (zn (zmk_27 M)) = (2, 64) := zal_sh (M := (zmk_27 M)) (t := 2) (n := 64)
  have b3 : zi (zmk_28 M) (zn (zmk_27 M)) = (fun _ => 0) ∧ zj (zmk_28 M) (zn (zmk_27 M)) = (fun _ => 0) := zal_new (M := (zmk_27 M)) (t := 2) (n := 64)
  rw [hz] at b1 b2 b3
  have p29 : zPr 107 50 (zmk_28 M) (zmk_29 M) := zPr.al (t := 2) (n := 64) (by have := zmk_z28 M h; omega) (by have := zmk_z28 M h; (exact zo_1699 this)) (by decide)
  have p30 : zPr 107 50 (zmk_28 M) (zmk_30 M) := p29.tr (zPr.al (t := 1) (n := 24) (by have := zmk_z29 M h; omega) (by have := zmk_z29 M h; (exact zo_1701 this)) (by decide))
  have p31 : zPr 107 50 (zmk_28 M) (zmk_31 M) := p30.tr (zPr.al (t := 1) (n := 65536) (by have := zmk_z30 M h; omega) (by have := zmk_z30 M h; (exact zo_1703 this)) (by decide))
  have p32 : zPr 107 50 (zmk_28 M) (zmk_32 M) := p31.tr (zPr.al (t := 2) (n := 768) (by have := zmk_z31 M h; omega) (by have := zmk_z31 M h; (exact zo_1705 this)) (by decide))
  have p33 : zPr 107 50 (zmk_28 M) (zmk_33 M) := p32.tr (zPr.al (t := 1) (n := 6) (by have := zmk_z32 M h; omega) (by have := zmk_z32 M h; (exact zo_1707 this)) (by decide))
  have p34 : zPr 107 50 (zmk_28 M) (zmk_34 M) := p33.tr (zPr.al (t := 1) (n := 7) (by have := zmk_z33 M h; omega) (by have := zmk_z33 M h; (exact zo_1709 this)) (by decide))
  have p35 : zPr 107 50 (zmk_28 M) (zmk_35 M) := p34.tr (zPr.i (by decide))
  exact ⟨p35.2.1.trans b1, p35.1.trans b2, p35.2.2.1.trans b3.1, p35.2.2.2.trans b3.2⟩
theorem zmk_a108 (M : zMem) (h : zn M = 82) : zf (zmk M) 81 51 = some 108 ∧ zsh (zmk M) 108 = (2, 64) ∧ zi (zmk M) 108 = (fun _ => 0) ∧ zj (zmk M) 108 = (fun _ => 0) := by
  have hz : zn (zmk_28 M) = 108 := (zmk_z28 M h)
  have b1 : zf (zmk_29 M) 81 51 = some (zn (zmk_28 M)) := zsF_s (zal (zmk_28 M) 2 64) 81 51 (some (zn (zmk_28 M)))
  have b2 : zsh (zmk_29 M) (zn (zmk_28 M)) = (2, 64) := zal_sh (M := (zmk_28 M)) (t := 2) (n := 64)
  have b3 : zi (zmk_29 M) (zn (zmk_28 M)) = (fun _ => 0) ∧ zj (zmk_29 M) (zn (zmk_28 M)) = (fun _ => 0) := zal_new (M := (zmk_28 M)) (t := 2) (n := 64)
  rw [hz] at b1 b2 b3
  have p30 : zPr 108 51 (zmk_29 M) (zmk_30 M) := zPr.al (t := 1) (n := 24) (by have := zmk_z29 M h; omega) (by have := zmk_z29 M h; (exact zo_1701 this)) (by decide)
  have p31 : zPr 108 51 (zmk_29 M) (zmk_31 M) := p30.tr (zPr.al (t := 1) (n := 65536) (by have := zmk_z30 M h; omega) (by have := zmk_z30 M h; (exact zo_1703 this)) (by decide))
  have p32 : zPr 108 51 (zmk_29 M) (zmk_32 M) := p31.tr (zPr.al (t := 2) (n := 768) (by have := zmk_z31 M h; omega) (by have := zmk_z31 M h; (exact zo_1705 this)) (by decide))
  have p33 : zPr 108 51 (zmk_29 M) (zmk_33 M) := p32.tr (zPr.al (t := 1) (n := 6) (by have := zmk_z32 M h; omega) (by have := zmk_z32 M h; (exact zo_1707 this)) (by decide))
  have p34 : zPr 108 51 (zmk_29 M) (zmk_34 M) := p33.tr (zPr.al (t := 1) (n := 7) (by have := zmk_z33 M h; omega) (by have := zmk_z33 M h; (exact zo_1709 this)) (by decide))
  have p35 : zPr 108 51 (zmk_29 M) (zmk_35 M) := p34.tr (zPr.i (by decide))
  exact ⟨p35.2.1.trans b1, p35.1.trans b2, p35.2.2.1.trans b3.1, p35.2.2.2.trans b3.2⟩
theorem zmk_a109 (M : zMem) (h : zn M = 82) : zf (zmk M) 81 54 = some 109 ∧ zsh (zmk M) 109 = (1, 24) ∧ zi (zmk M) 109 = (fun _ => 0) ∧ zj (zmk M) 109 = (fun _ => 0) := by
  have hz : zn (zmk_29 M) = 109 := (zmk_z29 M h)
  have b1 : zf (zmk_30 M) 81 54 = some (zn (zmk_29 M)) := zsF_s (zal (zmk_29 M) 1 24) 81 54 (some (zn (zmk_29 M)))
  have b2 : zsh (zmk_30 M) (zn (zmk_29 M)) = (1, 24) := zal_sh (M := (zmk_29 M)) (t := 1) (n := 24)
  have b3 : zi (zmk_30 M) (zn (zmk_29 M)) = (fun _ => 0) ∧ zj (zmk_30 M) (zn (zmk_29 M)) = (fun _ => 0) := zal_new (M := (zmk_29 M)) (t := 1) (n := 24)
  rw [hz] at b1 b2 b3
  have p31 : zPr 109 54 (zmk_30 M) (zmk_31 M) := zPr.al (t := 1) (n := 65536) (by have := zmk_z30 M h; omega) (by have := zmk_z30 M h; (exact zo_1703 this)) (by decide)
  have p32 : zPr 109 54 (zmk_30 M) (zmk_32 M) := p31.tr (zPr.al (t := 2) (n := 768) (by have := zmk_z31 M h; omega) (by have := zmk_z31 M h; (exact zo_1705 this)) (by decide))
  have p33 : zPr 109 54 (zmk_30 M) (zmk_33 M) := p32.tr (zPr.al (t := 1) (n := 6) (by have := zmk_z32 M h; omega) (by have := zmk_z32 M h; (exact zo_1707 this)) (by decide))
  have p34 : zPr 109 54 (zmk_30 M) (zmk_34 M) := p33.tr (zPr.al (t := 1) (n := 7) (by have := zmk_z33 M h; omega) (by have := zmk_z33 M h; (exact zo_1709 this)) (by decide))
  have p35 : zPr 109 54 (zmk_30 M) (zmk_35 M) := p34.tr (zPr.i (by decide))
  exact ⟨p35.2.1.trans b1, p35.1.trans b2, p35.2.2.1.trans b3.1, p35.2.2.2.trans b3.2⟩
theorem zmk_a110 (M : zMem) (h : zn M = 82) : zf (zmk M) 81 56 = some 110 ∧ zsh (zmk M) 110 = (1, 65536) ∧ zi (zmk M) 110 = (fun _ => 0) ∧ zj (zmk M) 110 = (fun _ => 0) := by
  have hz : zn (zmk_30 M) = 110 := (zmk_z30 M h)
  have b1 : zf (zmk_31 M) 81 56 = some (zn (zmk_30 M)) := zsF_s (zal (zmk_30 M) 1 65536) 81 56 (some (zn (zmk_30 M)))
  have b2 : zsh (zmk_31 M) (zn (zmk_30 M)) = (1, 65536) := zal_sh (M := (zmk_30 M)) (t := 1) (n := 65536)
  have b3 : zi (zmk_31 M) (zn (zmk_30 M)) = (fun _ => 0) ∧ zj (zmk_31 M) (zn (zmk_30 M)) = (fun _ => 0) := zal_new (M := (zmk_30 M)) (t := 1) (n := 65536)
  rw [hz] at b1 b2 b3
  have p32 : zPr 110 56 (zmk_31 M) (zmk_32 M) := zPr.al (t := 2) (n := 768) (by have := zmk_z31 M h; omega) (by have := zmk_z31 M h; (exact zo_1705 this)) (by decide)
  have p33 : zPr 110 56 (zmk_31 M) (zmk_33 M) := p32.tr (zPr.al (t := 1) (n := 6) (by have := zmk_z32 M h; omega) (by have := zmk_z32 M h; (exact zo_1707 this)) (by decide))
  have p34 : zPr 110 56 (zmk_31 M) (zmk_34 M) := p33.tr (zPr.al (t := 1) (n := 7) (by have := zmk_z33 M h; omega) (by have := zmk_z33 M h; (exact zo_1709 this)) (by decide))
  have p35 : zPr 110 56 (zmk_31 M) (zmk_35 M) := p34.tr (zPr.i (by decide))
  exact ⟨p35.2.1.trans b1, p35.1.trans b2, p35.2.2.1.trans b3.1, p35.2.2.2.trans b3.2⟩
theorem zmk_a111 (M : zMem) (h : zn M = 82) : zf (zmk M) 81 59 = some 111 ∧ zsh (zmk M) 111 = (2, 768) ∧ zi (zmk M) 111 = (fun _ => 0) ∧ zj (zmk M) 111 = (fun _ => 0) := by
  have hz : zn (zmk_31 M) = 111 := (zmk_z31 M h)
  have b1 : zf (zmk_32 M) 81 59 = some (zn (zmk_31 M)) := zsF_s (zal (zmk_31 M) 2 768) 81 59 (some (zn (zmk_31 M)))
  have b2 : zsh (zmk_32 M) (zn (zmk_31 M)) = (2, 768) := zal_sh (M := (zmk_31 M)) (t := 2) (n := 768)
  have b3 : zi (zmk_32 M) (zn (zmk_31 M)) = (fun _ => 0) ∧ zj (zmk_32 M) (zn (zmk_31 M)) = (fun _ => 0) := zal_new (M := (zmk_31 M)) (t := 2) (n := 768)
  rw [hz] at b1 b2 b3
  have p33 : zPr 111 59 (zmk_32 M) (zmk_33 M) := zPr.al (t := 1) (n := 6) (by have := zmk_z32 M h; omega) (by have := zmk_z32 M h; (exact zo_1707 this)) (by decide)
  have p34 : zPr 111 59 (zmk_32 M) (zmk_34 M) := p33.tr (zPr.al (t := 1) (n := 7) (by have := zmk_z33 M h; omega) (by have := zmk_z33 M h; (exact zo_1709 this)) (by decide))
  have p35 : zPr 111 59 (zmk_32 M) (zmk_35 M) := p34.tr (zPr.i (by decide))
  exact ⟨p35.2.1.trans b1, p35.1.trans b2, p35.2.2.1.trans b3.1, p35.2.2.2.trans b3.2⟩
theorem zmk_a112 (M : zMem) (h : zn M = 82) : zf (zmk M) 81 61 = some 112 ∧ zsh (zmk M) 112 = (1, 6) ∧ zi (zmk M) 112 = (fun _ => 0) ∧ zj (zmk M) 112 = (fun _ => 0) := by
  have hz : zn (zmk_32 M) = 112 := (zmk_z32 M h)
  have b1 : zf (zmk_33 M) 81 61 = some (zn (zmk_32 M)) := zsF_s (zal (zmk_32 M) 1 6) 81 61 (some (zn (zmk_32 M)))
  have b2 : zsh (zmk_33 M) (zn (zmk_32 M)) = (1, 6) := zal_sh (M := (zmk_32 M)) (t := 1) (n := 6)
  have b3 : zi (zmk_33 M) (zn (zmk_32 M)) = (fun _ => 0) ∧ zj (zmk_33 M) (zn (zmk_32 M)) = (fun _ => 0) := zal_new (M := (zmk_32 M)) (t := 1) (n := 6)
  rw [hz] at b1 b2 b3
  have p34 : zPr 112 61 (zmk_33 M) (zmk_34 M) := zPr.al (t := 1) (n := 7) (by have := zmk_z33 M h; omega) (by have := zmk_z33 M h; (exact zo_1709 this)) (by decide)
  have p35 : zPr 112 61 (zmk_33 M) (zmk_35 M) := p34.tr (zPr.i (by decide))
  exact ⟨p35.2.1.trans b1, p35.1.trans b2, p35.2.2.1.trans b3.1, p35.2.2.2.trans b3.2⟩
theorem zmk_a113 (M : zMem) (h : zn M = 82) : zf (zmk M) 81 62 = some 113 ∧ zsh (zmk M) 113 = (1, 7) ∧ zi (zmk M) 113 = (fun _ => 0) ∧ zj (zmk M) 113 = (fun _ => 0) := by
  have hz : zn (zmk_33 M) = 113 := (zmk_z33 M h)
  have b1 : zf (zmk_34 M) 81 62 = some (zn (zmk_33 M)) := zsF_s (zal (zmk_33 M) 1 7) 81 62 (some (zn (zmk_33 M)))
  have b2 : zsh (zmk_34 M) (zn (zmk_33 M)) = (1, 7) := zal_sh (M := (zmk_33 M)) (t := 1) (n := 7)
  have b3 : zi (zmk_34 M) (zn (zmk_33 M)) = (fun _ => 0) ∧ zj (zmk_34 M) (zn (zmk_33 M)) = (fun _ => 0) := zal_new (M := (zmk_33 M)) (t := 1) (n := 7)
  rw [hz] at b1 b2 b3
  have p35 : zPr 113 62 (zmk_34 M) (zmk_35 M) := zPr.i (by decide)
  exact ⟨p35.2.1.trans b1, p35.1.trans b2, p35.2.2.1.trans b3.1, p35.2.2.2.trans b3.2⟩
theorem zmk_o (M : zMem) (h : zn M = 82) : zsh (zmk M) 81 = zsh M 81 ∧ zj (zmk M) 81 = zj M 81 ∧ ∀ j, zi (zmk M) 81 j = if j = 12 then 1 else if j = 10 then -1 else if j = 8 then -1 else zi M 81 j := by
  have s1 : zsh (zmk_1 M) 81 = zsh M 81 ∧ zj (zmk_1 M) 81 = zj M 81 ∧ zi (zmk_1 M) 81 = zi M 81 := ⟨(zal_old (t := 1) (n := 700) (by have := h; (exact zo_329 h))).1, (zal_io (t := 1) (n := 700) (by have := h; (exact zo_329 h))).2, (zal_io (t := 1) (n := 700) (by have := h; (exact zo_329 h))).1⟩
  have s2 : zsh (zmk_2 M) 81 = zsh (zmk_1 M) 81 ∧ zj (zmk_2 M) 81 = zj (zmk_1 M) 81 ∧ ∀ j, zi (zmk_2 M) 81 j = if j = 8 then (-1) else zi (zmk_1 M) 81 j := ⟨rfl, rfl, fun j => by show (if 81 = 81 ∧ j = 8 then _ else _) = _; simp only [true_and]; rfl⟩
  have s3 : zsh (zmk_3 M) 81 = zsh (zmk_2 M) 81 ∧ zj (zmk_3 M) 81 = zj (zmk_2 M) 81 ∧ ∀ j, zi (zmk_3 M) 81 j = if j = 10 then (-1) else zi (zmk_2 M) 81 j := ⟨rfl, rfl, fun j => by show (if 81 = 81 ∧ j = 10 then _ else _) = _; simp only [true_and]; rfl⟩
  have s4 : zsh (zmk_4 M) 81 = zsh (zmk_3 M) 81 ∧ zj (zmk_4 M) 81 = zj (zmk_3 M) 81 ∧ zi (zmk_4 M) 81 = zi (zmk_3 M) 81 := ⟨(zal_old (t := 1) (n := 24) (by have := (zmk_z3 M h); (exact zo_1649 this))).1, (zal_io (t := 1) (n := 24) (by have := (zmk_z3 M h); (exact zo_1649 this))).2, (zal_io (t := 1) (n := 24) (by have := (zmk_z3 M h); (exact zo_1649 this))).1⟩
  have s5 : zsh (zmk_5 M) 81 = zsh (zmk_4 M) 81 ∧ zj (zmk_5 M) 81 = zj (zmk_4 M) 81 ∧ zi (zmk_5 M) 81 = zi (zmk_4 M) 81 := ⟨(zal_old (t := 1) (n := 24) (by have := (zmk_z4 M h); (exact zo_1651 this))).1, (zal_io (t := 1) (n := 24) (by have := (zmk_z4 M h); (exact zo_1651 this))).2, (zal_io (t := 1) (n := 24) (by have := (zmk_z4 M h); (exact zo_1651 this))).1⟩
  have s6 : zsh (zmk_6 M) 81 = zsh (zmk_5 M) 81 ∧ zj (zmk_6 M) 81 = zj (zmk_5 M) 81 ∧ zi (zmk_6 M) 81 = zi (zmk_5 M) 81 := ⟨(zal_old (t := 1) (n := 144) (by have := (zmk_z5 M h); (exact zo_1653 this))).1, (zal_io (t := 1) (n := 144) (by have := (zmk_z5 M h); (exact zo_1653 this))).2, (zal_io (t := 1) (n := 144) (by have := (zmk_z5 M h); (exact zo_1653 this))).1⟩
  have s7 : zsh (zmk_7 M) 81 = zsh (zmk_6 M) 81 ∧ zj (zmk_7 M) 81 = zj (zmk_6 M) 81 ∧ zi (zmk_7 M) 81 = zi (zmk_6 M) 81 := ⟨(zal_old (t := 1) (n := 6) (by have := (zmk_z6 M h); (exact zo_1655 this))).1, (zal_io (t := 1) (n := 6) (by have := (zmk_z6 M h); (exact zo_1655 this))).2, (zal_io (t := 1) (n := 6) (by have := (zmk_z6 M h); (exact zo_1655 this))).1⟩
  have s8 : zsh (zmk_8 M) 81 = zsh (zmk_7 M) 81 ∧ zj (zmk_8 M) 81 = zj (zmk_7 M) 81 ∧ zi (zmk_8 M) 81 = zi (zmk_7 M) 81 := ⟨(zal_old (t := 1) (n := 576) (by have := (zmk_z7 M h); (exact zo_1657 this))).1, (zal_io (t := 1) (n := 576) (by have := (zmk_z7 M h); (exact zo_1657 this))).2, (zal_io (t := 1) (n := 576) (by have := (zmk_z7 M h); (exact zo_1657 this))).1⟩
  have s9 : zsh (zmk_9 M) 81 = zsh (zmk_8 M) 81 ∧ zj (zmk_9 M) 81 = zj (zmk_8 M) 81 ∧ zi (zmk_9 M) 81 = zi (zmk_8 M) 81 := ⟨(zal_old (t := 1) (n := 24) (by have := (zmk_z8 M h); (exact zo_1659 this))).1, (zal_io (t := 1) (n := 24) (by have := (zmk_z8 M h); (exact zo_1659 this))).2, (zal_io (t := 1) (n := 24) (by have := (zmk_z8 M h); (exact zo_1659 this))).1⟩
  have s10 : zsh (zmk_10 M) 81 = zsh (zmk_9 M) 81 ∧ zj (zmk_10 M) 81 = zj (zmk_9 M) 81 ∧ zi (zmk_10 M) 81 = zi (zmk_9 M) 81 := ⟨(zal_old (t := 1) (n := 128) (by have := (zmk_z9 M h); (exact zo_1661 this))).1, (zal_io (t := 1) (n := 128) (by have := (zmk_z9 M h); (exact zo_1661 this))).2, (zal_io (t := 1) (n := 128) (by have := (zmk_z9 M h); (exact zo_1661 this))).1⟩
  have s11 : zsh (zmk_11 M) 81 = zsh (zmk_10 M) 81 ∧ zj (zmk_11 M) 81 = zj (zmk_10 M) 81 ∧ zi (zmk_11 M) 81 = zi (zmk_10 M) 81 := ⟨(zal_old (t := 1) (n := 128) (by have := (zmk_z10 M h); (exact zo_1663 this))).1, (zal_io (t := 1) (n := 128) (by have := (zmk_z10 M h); (exact zo_1663 this))).2, (zal_io (t := 1) (n := 128) (by have := (zmk_z10 M h); (exact zo_1663 this))).1⟩
  have s12 : zsh (zmk_12 M) 81 = zsh (zmk_11 M) 81 ∧ zj (zmk_12 M) 81 = zj (zmk_11 M) 81 ∧ zi (zmk_12 M) 81 = zi (zmk_11 M) 81 := ⟨(zal_old (t := 1) (n := 64) (by have := (zmk_z11 M h); (exact zo_1665 this))).1, (zal_io (t := 1) (n := 64) (by have := (zmk_z11 M h); (exact zo_1665 this))).2, (zal_io (t := 1) (n := 64) (by have := (zmk_z11 M h); (exact zo_1665 this))).1⟩
  have s13 : zsh (zmk_13 M) 81 = zsh (zmk_12 M) 81 ∧ zj (zmk_13 M) 81 = zj (zmk_12 M) 81 ∧ zi (zmk_13 M) 81 = zi (zmk_12 M) 81 := ⟨(zal_old (t := 1) (n := 64) (by have := (zmk_z12 M h); (exact zo_1667 this))).1, (zal_io (t := 1) (n := 64) (by have := (zmk_z12 M h); (exact zo_1667 this))).2, (zal_io (t := 1) (n := 64) (by have := (zmk_z12 M h); (exact zo_1667 this))).1⟩
  have s14 : zsh (zmk_14 M) 81 = zsh (zmk_13 M) 81 ∧ zj (zmk_14 M) 81 = zj (zmk_13 M) 81 ∧ zi (zmk_14 M) 81 = zi (zmk_13 M) 81 := ⟨(zal_old (t := 1) (n := 4096) (by have := (zmk_z13 M h); (exact zo_1669 this))).1, (zal_io (t := 1) (n := 4096) (by have := (zmk_z13 M h); (exact zo_1669 this))).2, (zal_io (t := 1) (n := 4096) (by have := (zmk_z13 M h); (exact zo_1669 this))).1⟩
  have s15 : zsh (zmk_15 M) 81 = zsh (zmk_14 M) 81 ∧ zj (zmk_15 M) 81 = zj (zmk_14 M) 81 ∧ zi (zmk_15 M) 81 = zi (zmk_14 M) 81 := ⟨(zal_old (t := 1) (n := 1536) (by have := (zmk_z14 M h); (exact zo_1671 this))).1, (zal_io (t := 1) (n := 1536) (by have := (zmk_z14 M h); (exact zo_1671 this))).2, (zal_io (t := 1) (n := 1536) (by have := (zmk_z14 M h); (exact zo_1671 this))).1⟩
  have s16 : zsh (zmk_16 M) 81 = zsh (zmk_15 M) 81 ∧ zj (zmk_16 M) 81 = zj (zmk_15 M) 81 ∧ zi (zmk_16 M) 81 = zi (zmk_15 M) 81 := ⟨(zal_old (t := 2) (n := 2560) (by have := (zmk_z15 M h); (exact zo_1673 this))).1, (zal_io (t := 2) (n := 2560) (by have := (zmk_z15 M h); (exact zo_1673 this))).2, (zal_io (t := 2) (n := 2560) (by have := (zmk_z15 M h); (exact zo_1673 this))).1⟩
  have s17 : zsh (zmk_17 M) 81 = zsh (zmk_16 M) 81 ∧ zj (zmk_17 M) 81 = zj (zmk_16 M) 81 ∧ zi (zmk_17 M) 81 = zi (zmk_16 M) 81 := ⟨(zal_old (t := 2) (n := 64) (by have := (zmk_z16 M h); (exact zo_1675 this))).1, (zal_io (t := 2) (n := 64) (by have := (zmk_z16 M h); (exact zo_1675 this))).2, (zal_io (t := 2) (n := 64) (by have := (zmk_z16 M h); (exact zo_1675 this))).1⟩
  have s18 : zsh (zmk_18 M) 81 = zsh (zmk_17 M) 81 ∧ zj (zmk_18 M) 81 = zj (zmk_17 M) 81 ∧ zi (zmk_18 M) 81 = zi (zmk_17 M) 81 := ⟨(zal_old (t := 2) (n := 64) (by have := (zmk_z17 M h); (exact zo_1677 this))).1, (zal_io (t := 2) (n := 64) (by have := (zmk_z17 M h); (exact zo_1677 this))).2, (zal_io (t := 2) (n := 64) (by have := (zmk_z17 M h); (exact zo_1677 this))).1⟩
  have s19 : zsh (zmk_19 M) 81 = zsh (zmk_18 M) 81 ∧ zj (zmk_19 M) 81 = zj (zmk_18 M) 81 ∧ zi (zmk_19 M) 81 = zi (zmk_18 M) 81 := ⟨(zal_old (t := 2) (n := 64) (by have := (zmk_z18 M h); (exact zo_1679 this))).1, (zal_io (t := 2) (n := 64) (by have := (zmk_z18 M h); (exact zo_1679 this))).2, (zal_io (t := 2) (n := 64) (by have := (zmk_z18 M h); (exact zo_1679 this))).1⟩
  have s20 : zsh (zmk_20 M) 81 = zsh (zmk_19 M) 81 ∧ zj (zmk_20 M) 81 = zj (zmk_19 M) 81 ∧ zi (zmk_20 M) 81 = zi (zmk_19 M) 81 := ⟨(zal_old (t := 2) (n := 64) (by have := (zmk_z19 M h); (exact zo_1681 this))).1, (zal_io (t := 2) (n := 64) (by have := (zmk_z19 M h); (exact zo_1681 this))).2, (zal_io (t := 2) (n := 64) (by have := (zmk_z19 M h); (exact zo_1681 this))).1⟩
  have s21 : zsh (zmk_21 M) 81 = zsh (zmk_20 M) 81 ∧ zj (zmk_21 M) 81 = zj (zmk_20 M) 81 ∧ zi (zmk_21 M) 81 = zi (zmk_20 M) 81 := ⟨(zal_old (t := 1) (n := 80) (by have := (zmk_z20 M h); (exact zo_1683 this))).1, (zal_io (t := 1) (n := 80) (by have := (zmk_z20 M h); (exact zo_1683 this))).2, (zal_io (t := 1) (n := 80) (by have := (zmk_z20 M h); (exact zo_1683 this))).1⟩
  have s22 : zsh (zmk_22 M) 81 = zsh (zmk_21 M) 81 ∧ zj (zmk_22 M) 81 = zj (zmk_21 M) 81 ∧ zi (zmk_22 M) 81 = zi (zmk_21 M) 81 := ⟨(zal_old (t := 2) (n := 8) (by have := (zmk_z21 M h); (exact zo_1685 this))).1, (zal_io (t := 2) (n := 8) (by have := (zmk_z21 M h); (exact zo_1685 this))).2, (zal_io (t := 2) (n := 8) (by have := (zmk_z21 M h); (exact zo_1685 this))).1⟩
  have s23 : zsh (zmk_23 M) 81 = zsh (zmk_22 M) 81 ∧ zj (zmk_23 M) 81 = zj (zmk_22 M) 81 ∧ zi (zmk_23 M) 81 = zi (zmk_22 M) 81 := ⟨(zal_old (t := 2) (n := 512) (by have := (zmk_z22 M h); (exact zo_1687 this))).1, (zal_io (t := 2) (n := 512) (by have := (zmk_z22 M h); (exact zo_1687 this))).2, (zal_io (t := 2) (n := 512) (by have := (zmk_z22 M h); (exact zo_1687 this))).1⟩
  have s24 : zsh (zmk_24 M) 81 = zsh (zmk_23 M) 81 ∧ zj (zmk_24 M) 81 = zj (zmk_23 M) 81 ∧ zi (zmk_24 M) 81 = zi (zmk_23 M) 81 := ⟨(zal_old (t := 2) (n := 8) (by have := (zmk_z23 M h); (exact zo_1689 this))).1, (zal_io (t := 2) (n := 8) (by have := (zmk_z23 M h); (exact zo_1689 this))).2, (zal_io (t := 2) (n := 8) (by have := (zmk_z23 M h); (exact zo_1689 this))).1⟩
  have s25 : zsh (zmk_25 M) 81 = zsh (zmk_24 M) 81 ∧ zj (zmk_25 M) 81 = zj (zmk_24 M) 81 ∧ zi (zmk_25 M) 81 = zi (zmk_24 M) 81 := ⟨(zal_old (t := 2) (n := 512) (by have := (zmk_z24 M h); (exact zo_1691 this))).1, (zal_io (t := 2) (n := 512) (by have := (zmk_z24 M h); (exact zo_1691 this))).2, (zal_io (t := 2) (n := 512) (by have := (zmk_z24 M h); (exact zo_1691 this))).1⟩
  have s26 : zsh (zmk_26 M) 81 = zsh (zmk_25 M) 81 ∧ zj (zmk_26 M) 81 = zj (zmk_25 M) 81 ∧ zi (zmk_26 M) 81 = zi (zmk_25 M) 81 := ⟨(zal_old (t := 2) (n := 64) (by have := (zmk_z25 M h); (exact zo_1693 this))).1, (zal_io (t := 2) (n := 64) (by have := (zmk_z25 M h); (exact zo_1693 this))).2, (zal_io (t := 2) (n := 64) (by have := (zmk_z25 M h); (exact zo_1693 this))).1⟩
  have s27 : zsh (zmk_27 M) 81 = zsh (zmk_26 M) 81 ∧ zj (zmk_27 M) 81 = zj (zmk_26 M) 81 ∧ zi (zmk_27 M) 81 = zi (zmk_26 M) 81 := ⟨(zal_old (t := 1) (n := 128) (by have := (zmk_z26 M h); (exact zo_1695 this))).1, (zal_io (t := 1) (n := 128) (by have := (zmk_z26 M h); (exact zo_1695 this))).2, (zal_io (t := 1) (n := 128) (by have := (zmk_z26 M h); (exact zo_1695 this))).1⟩
  have s28 : zsh (zmk_28 M) 81 = zsh (zmk_27 M) 81 ∧ zj (zmk_28 M) 81 = zj (zmk_27 M) 81 ∧ zi (zmk_28 M) 81 = zi (zmk_27 M) 81 := ⟨(zal_old (t := 2) (n := 64) (by have := (zmk_z27 M h); (exact zo_1697 this))).1, (zal_io (t := 2) (n := 64) (by have := (zmk_z27 M h); (exact zo_1697 this))).2, (zal_io (t := 2) (n := 64) (by have := (zmk_z27 M h); (exact zo_1697 this))).1⟩
  have s29 : zsh (zmk_29 M) 81 = zsh (zmk_28 M) 81 ∧ zj (zmk_29 M) 81 = zj (zmk_28 M) 81 ∧ zi (zmk_29 M) 81 = zi (zmk_28 M) 81 := ⟨(zal_old (t := 2) (n := 64) (by have := (zmk_z28 M h); (exact zo_1699 this))).1, (zal_io (t := 2) (n := 64) (by have := (zmk_z28 M h); (exact zo_1699 this))).2, (zal_io (t := 2) (n := 64) (by have := (zmk_z28 M h); (exact zo_1699 this))).1⟩
  have s30 : zsh (zmk_30 M) 81 = zsh (zmk_29 M) 81 ∧ zj (zmk_30 M) 81 = zj (zmk_29 M) 81 ∧ zi (zmk_30 M) 81 = zi (zmk_29 M) 81 := ⟨(zal_old (t := 1) (n := 24) (by have := (zmk_z29 M h); (exact zo_1701 this))).1, (zal_io (t := 1) (n := 24) (by have := (zmk_z29 M h); (exact zo_1701 this))).2, (zal_io (t := 1) (n := 24) (by have := (zmk_z29 M h); (exact zo_1701 this))).1⟩
  have s31 : zsh (zmk_31 M) 81 = zsh (zmk_30 M) 81 ∧ zj (zmk_31 M) 81 = zj (zmk_30 M) 81 ∧ zi (zmk_31 M) 81 = zi (zmk_30 M) 81 := ⟨(zal_old (t := 1) (n := 65536) (by have := (zmk_z30 M h); (exact zo_1703 this))).1, (zal_io (t := 1) (n := 65536) (by have := (zmk_z30 M h); (exact zo_1703 this))).2, (zal_io (t := 1) (n := 65536) (by have := (zmk_z30 M h); (exact zo_1703 this))).1⟩
  have s32 : zsh (zmk_32 M) 81 = zsh (zmk_31 M) 81 ∧ zj (zmk_32 M) 81 = zj (zmk_31 M) 81 ∧ zi (zmk_32 M) 81 = zi (zmk_31 M) 81 := ⟨(zal_old (t := 2) (n := 768) (by have := (zmk_z31 M h); (exact zo_1705 this))).1, (zal_io (t := 2) (n := 768) (by have := (zmk_z31 M h); (exact zo_1705 this))).2, (zal_io (t := 2) (n := 768) (by have := (zmk_z31 M h); (exact zo_1705 this))).1⟩
  have s33 : zsh (zmk_33 M) 81 = zsh (zmk_32 M) 81 ∧ zj (zmk_33 M) 81 = zj (zmk_32 M) 81 ∧ zi (zmk_33 M) 81 = zi (zmk_32 M) 81 := ⟨(zal_old (t := 1) (n := 6) (by have := (zmk_z32 M h); (exact zo_1707 this))).1, (zal_io (t := 1) (n := 6) (by have := (zmk_z32 M h); (exact zo_1707 this))).2, (zal_io (t := 1) (n := 6) (by have := (zmk_z32 M h); (exact zo_1707 this))).1⟩
  have s34 : zsh (zmk_34 M) 81 = zsh (zmk_33 M) 81 ∧ zj (zmk_34 M) 81 = zj (zmk_33 M) 81 ∧ zi (zmk_34 M) 81 = zi (zmk_33 M) 81 := ⟨(zal_old (t := 1) (n := 7) (by have := (zmk_z33 M h); (exact zo_1709 this))).1, (zal_io (t := 1) (n := 7) (by have := (zmk_z33 M h); (exact zo_1709 this))).2, (zal_io (t := 1) (n := 7) (by have := (zmk_z33 M h); (exact zo_1709 this))).1⟩
  have s35 : zsh (zmk_35 M) 81 = zsh (zmk_34 M) 81 ∧ zj (zmk_35 M) 81 = zj (zmk_34 M) 81 ∧ ∀ j, zi (zmk_35 M) 81 j = if j = 12 then 1 else zi (zmk_34 M) 81 j := ⟨rfl, rfl, fun j => by show (if 81 = 81 ∧ j = 12 then _ else _) = _; simp only [true_and]; rfl⟩
  refine ⟨((((((((((((((((((((((((((((((((((s35.1).trans s34.1).trans s33.1).trans s32.1).trans s31.1).trans s30.1).trans s29.1).trans s28.1).trans s27.1).trans s26.1).trans s25.1).trans s24.1).trans s23.1).trans s22.1).trans s21.1).trans s20.1).trans s19.1).trans s18.1).trans s17.1).trans s16.1).trans s15.1).trans s14.1).trans s13.1).trans s12.1).trans s11.1).trans s10.1).trans s9.1).trans s8.1).trans s7.1).trans s6.1).trans s5.1).trans s4.1).trans s3.1).trans s2.1).trans s1.1, ((((((((((((((((((((((((((((((((((s35.2.1).trans s34.2.1).trans s33.2.1).trans s32.2.1).trans s31.2.1).trans s30.2.1).trans s29.2.1).trans s28.2.1).trans s27.2.1).trans s26.2.1).trans s25.2.1).trans s24.2.1).trans s23.2.1).trans s22.2.1).trans s21.2.1).trans s20.2.1).trans s19.2.1).trans s18.2.1).trans s17.2.1).trans s16.2.1).trans s15.2.1).trans s14.2.1).trans s13.2.1).trans s12.2.1).trans s11.2.1).trans s10.2.1).trans s9.2.1).trans s8.2.1).trans s7.2.1).trans s6.2.1).trans s5.2.1).trans s4.2.1).trans s3.2.1).trans s2.2.1).trans s1.2.1, fun j => ?_⟩
  show zi (zmk_35 M) 81 j = _
  rw [s35.2.2 j]
  rw [s34.2.2]
  rw [s33.2.2]
  rw [s32.2.2]
  rw [s31.2.2]
  rw [s30.2.2]
  rw [s29.2.2]
  rw [s28.2.2]
  rw [s27.2.2]
  rw [s26.2.2]
  rw [s25.2.2]
  rw [s24.2.2]
  rw [s23.2.2]
  rw [s22.2.2]
  rw [s21.2.2]
  rw [s20.2.2]
  rw [s19.2.2]
  rw [s18.2.2]
  rw [s17.2.2]
  rw [s16.2.2]
  rw [s15.2.2]
  rw [s14.2.2]
  rw [s13.2.2]
  rw [s12.2.2]
  rw [s11.2.2]
  rw [s10.2.2]
  rw [s9.2.2]
  rw [s8.2.2]
  rw [s7.2.2]
  rw [s6.2.2]
  rw [s5.2.2]
  rw [s4.2.2]
  rw [s3.2.2 j]
  rw [s2.2.2 j]
  rw [s1.2.2]
theorem zmk_t (M : zMem) (h : zn M = 82) (h2 : (zsh M 81).1 = 14) : zMt (zmk M) := by
  refine ⟨by have := (zmk_nw M).1; omega, by rw [(zmk_o M h).1]; exact h2, ?_⟩
  unfold zMtab
  refine List.forall_mem_cons.mpr ⟨⟨(zmk_a82 M h).1, (zmk_a82 M h).2.1⟩, List.forall_mem_cons.mpr ⟨⟨(zmk_a83 M h).1, (zmk_a83 M h).2.1⟩, List.forall_mem_cons.mpr ⟨⟨(zmk_a84 M h).1, (zmk_a84 M h).2.1⟩, List.forall_mem_cons.mpr ⟨⟨(zmk_a85 M h).1, (zmk_a85 M h).2.1⟩, List.forall_mem_cons.mpr ⟨⟨(zmk_a86 M h).1, (zmk_a86 M h).2.1⟩, List.forall_mem_cons.mpr ⟨⟨(zmk_a87 M h).1, (zmk_a87 M h).2.1⟩, List.forall_mem_cons.mpr ⟨⟨(zmk_a88 M h).1, (zmk_a88 M h).2.1⟩, List.forall_mem_cons.mpr ⟨⟨(zmk_a89 M h).1, (zmk_a89 M h).2.1⟩, List.forall_mem_cons.mpr ⟨⟨(zmk_a90 M h).1, (zmk_a90 M h).2.1⟩, List.forall_mem_cons.mpr ⟨⟨(zmk_a91 M h).1, (zmk_a91 M h).2.1⟩, List.forall_mem_cons.mpr ⟨⟨(zmk_a92 M h).1, (zmk_a92 M h).2.1⟩, List.forall_mem_cons.mpr ⟨⟨(zmk_a93 M h).1, (zmk_a93 M h).2.1⟩, List.forall_mem_cons.mpr ⟨⟨(zmk_a94 M h).1, (zmk_a94 M h).2.1⟩, List.forall_mem_cons.mpr ⟨⟨(zmk_a95 M h).1, (zmk_a95 M h).2.1⟩, List.forall_mem_cons.mpr ⟨⟨(zmk_a96 M h).1, (zmk_a96 M h).2.1⟩, List.forall_mem_cons.mpr ⟨⟨(zmk_a97 M h).1, (zmk_a97 M h).2.1⟩, List.forall_mem_cons.mpr ⟨⟨(zmk_a98 M h).1, (zmk_a98 M h).2.1⟩, List.forall_mem_cons.mpr ⟨⟨(zmk_a99 M h).1, (zmk_a99 M h).2.1⟩, List.forall_mem_cons.mpr ⟨⟨(zmk_a100 M h).1, (zmk_a100 M h).2.1⟩, List.forall_mem_cons.mpr ⟨⟨(zmk_a101 M h).1, (zmk_a101 M h).2.1⟩, List.forall_mem_cons.mpr ⟨⟨(zmk_a102 M h).1, (zmk_a102 M h).2.1⟩, List.forall_mem_cons.mpr ⟨⟨(zmk_a103 M h).1, (zmk_a103 M h).2.1⟩, List.forall_mem_cons.mpr ⟨⟨(zmk_a104 M h).1, (zmk_a104 M h).2.1⟩, List.forall_mem_cons.mpr ⟨⟨(zmk_a105 M h).1, (zmk_a105 M h).2.1⟩, List.forall_mem_cons.mpr ⟨⟨(zmk_a106 M h).1, (zmk_a106 M h).2.1⟩, List.forall_mem_cons.mpr ⟨⟨(zmk_a107 M h).1, (zmk_a107 M h).2.1⟩, List.forall_mem_cons.mpr ⟨⟨(zmk_a108 M h).1, (zmk_a108 M h).2.1⟩, List.forall_mem_cons.mpr ⟨⟨(zmk_a109 M h).1, (zmk_a109 M h).2.1⟩, List.forall_mem_cons.mpr ⟨⟨(zmk_a110 M h).1, (zmk_a110 M h).2.1⟩, List.forall_mem_cons.mpr ⟨⟨(zmk_a111 M h).1, (zmk_a111 M h).2.1⟩, List.forall_mem_cons.mpr ⟨⟨(zmk_a112 M h).1, (zmk_a112 M h).2.1⟩, List.forall_mem_cons.mpr ⟨⟨(zmk_a113 M h).1, (zmk_a113 M h).2.1⟩, fun _ h => absurd h List.not_mem_nil⟩⟩⟩⟩⟩⟩⟩⟩⟩⟩⟩⟩⟩⟩⟩⟩⟩⟩⟩⟩⟩⟩⟩⟩⟩⟩⟩⟩⟩⟩⟩⟩
def ze (M : zMem) (q k : Nat) : Int := (zi M q k).toInt
def zg (M : zMem) (q k : Nat) : Int := (zj M q k).toInt
theorem ze_of (M : zMem) (q k : Nat) : zi M q k = Int32.ofInt (ze M q k) := (Int32.ofInt_toInt _).symm
theorem zg_of (M : zMem) (q k : Nat) : zj M q k = Int64.ofInt (zg M q k) := (Int64.ofInt_toInt _).symm
theorem z32r (x : Int32) : -2147483648 ≤ x.toInt ∧ x.toInt < 2147483648 := by
  have h1 := x.toInt_lt
  have h2 := x.le_toInt
  omega
theorem z64r (x : Int64) : -9223372036854775808 ≤ x.toInt ∧ x.toInt < 9223372036854775808 := by
  have h1 := x.toInt_lt
  have h2 := x.le_toInt
  omega
theorem ze_r (M : zMem) (q k : Nat) : -2147483648 ≤ ze M q k ∧ ze M q k < 2147483648 := z32r _
theorem zg_r (M : zMem) (q k : Nat) : -9223372036854775808 ≤ zg M q k ∧ zg M q k < 9223372036854775808 := z64r _
def zn32 (a : Int) : Prop := -2147483648 ≤ a ∧ a < 2147483648
def zn64 (a : Int) : Prop := -9223372036854775808 ≤ a ∧ a < 9223372036854775808
theorem z32 {a : Int} (h : zn32 a) : (Int32.ofInt a).toInt = a := Int32.toInt_ofInt_of_le (by have := h.1; omega) (by have := h.2; omega)
theorem z64 {a : Int} (h : zn64 a) : (Int64.ofInt a).toInt = a := Int64.toInt_ofInt_of_le (by have := h.1; omega) (by have := h.2; omega)
theorem z32i {a b : Int} (ha : zn32 a) (hb : zn32 b) : Int32.ofInt a = Int32.ofInt b ↔ a = b := by
  constructor
  · intro h
    have := congrArg Int32.toInt h
    rwa [z32 ha, z32 hb] at this
  · rintro rfl; rfl
theorem z32l {a b : Int} (ha : zn32 a) (hb : zn32 b) : Int32.ofInt a < Int32.ofInt b ↔ a < b := by
  rw [Int32.lt_iff_toInt_lt, z32 ha, z32 hb]
theorem z32e {a b : Int} (ha : zn32 a) (hb : zn32 b) : Int32.ofInt a ≤ Int32.ofInt b ↔ a ≤ b := by
  rw [Int32.le_iff_toInt_le, z32 ha, z32 hb]
theorem z32z : zn32 0 := ⟨by decide, by decide⟩
theorem z_zero : (0 : Int32) = Int32.ofInt 0 := by decide
def zcmp (a b : Int) : Int := if a > b then 1 else if a = b then 0 else -1
theorem zcmp_s (a b : Int) : (zcmp a b = 1 ∧ b < a) ∨ (zcmp a b = 0 ∧ a = b) ∨ (zcmp a b = -1 ∧ a < b) := by
  unfold zcmp
  split
  · exact Or.inl ⟨rfl, by omega⟩
  · split
    · exact Or.inr (Or.inl ⟨rfl, by omega⟩)
    · exact Or.inr (Or.inr ⟨rfl, by omega⟩)
theorem z_lcmp {a b : Int} (ha : zn64 a) (hb : zn64 b) : lg_cmp (Int64.ofInt a) (Int64.ofInt b) = Int32.ofInt (zcmp a b) := by
  unfold lg_cmp zcmp
  have h1 : Int64.ofInt a > Int64.ofInt b ↔ a > b := by
    show Int64.ofInt b < Int64.ofInt a ↔ _
    rw [Int64.lt_iff_toInt_lt, z64 ha, z64 hb]
  have h2 : Int64.ofInt a = Int64.ofInt b ↔ a = b := by
    constructor
    · intro h
      have := congrArg Int64.toInt h
      rwa [z64 ha, z64 hb] at this
    · rintro rfl; rfl
  by_cases h : a > b
  · rw [if_pos (h1.mpr h), if_pos h]; rfl
  · rw [if_neg (fun x => h (h1.mp x)), if_neg h]
    by_cases h' : a = b
    · rw [if_pos (h2.mpr h'), if_pos h']; rfl
    · rw [if_neg (fun x => h' (h2.mp x)), if_neg h']; rfl
def zor (a b : Int) : Int := (Int32.ofInt a ||| Int32.ofInt b).toInt
def zand (a b : Int) : Int := (Int32.ofInt a &&& Int32.ofInt b).toInt
def zxor (a b : Int) : Int := (Int32.ofInt a ^^^ Int32.ofInt b).toInt
def zshl (a b : Int) : Int := (Int32.ofInt a <<< (Int32.ofInt b &&& 31)).toInt
def zshr (a b : Int) : Int := (Int32.ofInt a >>> (Int32.ofInt b &&& 31)).toInt
def zquo (a b : Int) : Int := (Int32.ofInt a / Int32.ofInt b).toInt
def zrem (a b : Int) : Int := (Int32.ofInt a - Int32.ofInt a / Int32.ofInt b * Int32.ofInt b).toInt
theorem zor_r (a b : Int) : -2147483648 ≤ zor a b ∧ zor a b < 2147483648 := z32r _
theorem zand_r (a b : Int) : -2147483648 ≤ zand a b ∧ zand a b < 2147483648 := z32r _
theorem zxor_r (a b : Int) : -2147483648 ≤ zxor a b ∧ zxor a b < 2147483648 := z32r _
theorem zshl_r (a b : Int) : -2147483648 ≤ zshl a b ∧ zshl a b < 2147483648 := z32r _
theorem zshr_r (a b : Int) : -2147483648 ≤ zshr a b ∧ zshr a b < 2147483648 := z32r _
theorem zquo_r (a b : Int) : -2147483648 ≤ zquo a b ∧ zquo a b < 2147483648 := z32r _
theorem zrem_r (a b : Int) : -2147483648 ≤ zrem a b ∧ zrem a b < 2147483648 := z32r _
def zlquo (a b : Int) : Int := (Int64.ofInt a / Int64.ofInt b).toInt
def zlrem (a b : Int) : Int := (Int64.ofInt a - Int64.ofInt a / Int64.ofInt b * Int64.ofInt b).toInt
def zlor (a b : Int) : Int := (Int64.ofInt a ||| Int64.ofInt b).toInt
def zlshl (a b : Int) : Int := (Int64.ofInt a <<< ((Int32.ofInt b).toInt64 &&& 63)).toInt
theorem zlquo_r (a b : Int) : -9223372036854775808 ≤ zlquo a b ∧ zlquo a b < 9223372036854775808 := z64r _
theorem zlrem_r (a b : Int) : -9223372036854775808 ≤ zlrem a b ∧ zlrem a b < 9223372036854775808 := z64r _
theorem zlor_r (a b : Int) : -9223372036854775808 ≤ zlor a b ∧ zlor a b < 9223372036854775808 := z64r _
theorem zlshl_r (a b : Int) : -9223372036854775808 ≤ zlshl a b ∧ zlshl a b < 9223372036854775808 := z64r _
theorem z32ne {b : Int} (hb : zn32 b) (h : b ≠ 0) : ¬ Int32.ofInt b = 0 := fun e => h ((z32i hb z32z).mp (e.trans z_zero))
theorem z64ne {b : Int} (hb : zn64 b) (h : b ≠ 0) : ¬ Int64.ofInt b = 0 := fun e => h (by
  have := congrArg Int64.toInt e
  rw [z64 hb] at this
  exact this)
def zFr (S C : List Nat) (M N : zMem) : Prop := N.1 = M.1 ∧ zsh N = zsh M ∧ zf N = zf M ∧ (∀ q, q ≠ 81 → q ∉ C → zi N q = zi M q ∧ zj N q = zj M q) ∧ ∀ j, j ∉ S → zi N 81 j = zi M 81 j ∧ zj N 81 j = zj M 81 j
theorem zFr.rf {S C : List Nat} {M : zMem} : zFr S C M M := ⟨rfl, rfl, rfl, fun _ _ _ => ⟨rfl, rfl⟩, fun _ _ => ⟨rfl, rfl⟩⟩
theorem zFr.tr {S C S' C' : List Nat} {M N P : zMem} (h : zFr S C M N) (h2 : zFr S' C' N P) (hs : ∀ x ∈ S', x ∈ S) (hc : ∀ x ∈ C', x ∈ C) : zFr S C M P := by
  obtain ⟨a1, a2, a3, a4, a5⟩ := h
  obtain ⟨b1, b2, b3, b4, b5⟩ := h2
  exact ⟨b1.trans a1, b2.trans a2, b3.trans a3, fun q h1 h2 => ⟨(b4 q h1 (fun x => h2 (hc _ x))).1.trans (a4 q h1 h2).1, (b4 q h1 (fun x => h2 (hc _ x))).2.trans (a4 q h1 h2).2⟩, fun j h1 => ⟨(b5 j (fun x => h1 (hs _ x))).1.trans (a5 j h1).1, (b5 j (fun x => h1 (hs _ x))).2.trans (a5 j h1).2⟩⟩
theorem zFr.up {S C S' C' : List Nat} {M N : zMem} (h : zFr S' C' M N) (hs : ∀ x ∈ S', x ∈ S) (hc : ∀ x ∈ C', x ∈ C) : zFr S C M N := zFr.rf.tr h hs hc
theorem zFr.w {S C : List Nat} {M N : zMem} (h : zFr S C M N) (hW : zMt M) : zMt N := by
  obtain ⟨a1, a2, a3, -, -⟩ := h
  obtain ⟨b1, b2, b3⟩ := hW
  refine ⟨?_, ?_, ?_⟩
  · unfold zn at b1 ⊢
    rw [a1]; exact b1
  · rw [a2]; exact b2
  · rw [a2, a3]; exact b3
theorem zFr.e {S C : List Nat} {M N : zMem} (h : zFr S C M N) {j : Nat} (hj : j ∉ S) : ze N 81 j = ze M 81 j := by
  unfold ze
  rw [(h.2.2.2.2 j hj).1]
theorem zFr.g {S C : List Nat} {M N : zMem} (h : zFr S C M N) {j : Nat} (hj : j ∉ S) : zg N 81 j = zg M 81 j := by
  unfold zg
  rw [(h.2.2.2.2 j hj).2]
theorem zFr.i {S C : List Nat} {M N : zMem} (h : zFr S C M N) {q : Nat} (h1 : q ≠ 81) (hq : q ∉ C) : zi N q = zi M q := (h.2.2.2.1 q h1 hq).1
theorem zFr.j {S C : List Nat} {M N : zMem} (h : zFr S C M N) {q : Nat} (h1 : q ≠ 81) (hq : q ∉ C) : zj N q = zj M q := (h.2.2.2.1 q h1 hq).2
theorem zFr.ie {S C : List Nat} {M N : zMem} (h : zFr S C M N) {q : Nat} (h1 : q ≠ 81) (hq : q ∉ C) (n : Nat) : ze N q n = ze M q n := by
  unfold ze
  rw [h.i h1 hq]
theorem zFr.jg {S C : List Nat} {M N : zMem} (h : zFr S C M N) {q : Nat} (h1 : q ≠ 81) (hq : q ∉ C) (n : Nat) : zg N q n = zg M q n := by
  unfold zg
  rw [h.j h1 hq]
theorem zFr.eq {M N : zMem} (h : zFr [] [] M N) : N = M := by
  obtain ⟨a1, a2, a3, a4, a5⟩ := h
  obtain ⟨m1, m2, m3, m4, m5⟩ := M
  obtain ⟨n1, n2, n3, n4, n5⟩ := N
  have e3 : n3 = m3 := by
    funext q j
    by_cases h : q = 81
    · subst h
      exact (a5 j List.not_mem_nil).1
    · exact congrFun (a4 q h List.not_mem_nil).1 j
  have e4 : n4 = m4 := by
    funext q j
    by_cases h : q = 81
    · subst h
      exact (a5 j List.not_mem_nil).2
    · exact congrFun (a4 q h List.not_mem_nil).2 j
  have e1 : n1 = m1 := a1
  have e2 : n2 = m2 := a2
  have e5 : n5 = m5 := a3
  rw [e1, e2, e3, e4, e5]
theorem zFr.sA {M : zMem} {q i : Nat} {v : Int32} (hq : q ≠ 81) : zFr [] [q] M (zsI M q i v) := by
  refine ⟨rfl, rfl, rfl, fun r _ h2 => ⟨zup2_q (fun e => h2 (by rw [e]; exact List.mem_singleton.mpr rfl)), rfl⟩, fun j _ => ⟨?_, rfl⟩⟩
  exact congrFun (zup2_q (Ne.symm hq)) j
theorem zFr.sB {M : zMem} {q i : Nat} {v : Int64} (hq : q ≠ 81) : zFr [] [q] M (zsJ M q i v) := by
  refine ⟨rfl, rfl, rfl, fun r _ h2 => ⟨rfl, zup2_q (fun e => h2 (by rw [e]; exact List.mem_singleton.mpr rfl))⟩, fun j _ => ⟨rfl, ?_⟩⟩
  exact congrFun (zup2_q (Ne.symm hq)) j
theorem zFr.pI {M : zMem} {j : Nat} {v : Int32} : zFr [j] [] M (zsI M 81 j v) := ⟨rfl, rfl, rfl, fun r h _ => ⟨zup2_q h, rfl⟩, fun i h => ⟨zup2_n (fun z => h (by rw [z.2]; exact List.mem_singleton.mpr rfl)), rfl⟩⟩
theorem zFr.pJ {M : zMem} {j : Nat} {v : Int64} : zFr [j] [] M (zsJ M 81 j v) := ⟨rfl, rfl, rfl, fun r h _ => ⟨rfl, zup2_q h⟩, fun i h => ⟨rfl, zup2_n (fun z => h (by rw [z.2]; exact List.mem_singleton.mpr rfl))⟩⟩
theorem zs_get {M N : zMem} {q i : Nat} {v : Int} (h : N = zsI M q i (Int32.ofInt v)) (hv : zn32 v) : ze N q i = v := by
  rw [h]
  show (zup2 (zi M) q i _ q i).toInt = v
  rw [zup2_s, z32 hv]
theorem zs_oth {M N : zMem} {q i : Nat} {v : Int32} (h : N = zsI M q i v) {j : Nat} (hj : j ≠ i) : ze N q j = ze M q j := by
  rw [h]
  show (zup2 (zi M) q i _ q j).toInt = _
  rw [zup2_n (fun z => hj z.2)]
  rfl
theorem zs_getJ {M N : zMem} {q i : Nat} {v : Int} (h : N = zsJ M q i (Int64.ofInt v)) (hv : zn64 v) : zg N q i = v := by
  rw [h]
  show (zup2 (zj M) q i _ q i).toInt = v
  rw [zup2_s, z64 hv]
theorem zs_othJ {M N : zMem} {q i : Nat} {v : Int64} (h : N = zsJ M q i v) {j : Nat} (hj : j ≠ i) : zg N q j = zg M q j := by
  rw [h]
  show (zup2 (zj M) q i _ q j).toInt = _
  rw [zup2_n (fun z => hj z.2)]
  rfl
def zB (q n : Nat) (lo hi : Int) (M : zMem) : Prop := ∀ k, k < n → lo ≤ ze M q k ∧ ze M q k ≤ hi
theorem zB.g {M : zMem} {q n : Nat} {lo hi : Int} (h : zB q n lo hi M) {e : Int} (h0 : 0 ≤ e) (h1 : e < n) : lo ≤ ze M q e.toNat ∧ ze M q e.toNat ≤ hi := h _ (by omega)
theorem zB.s {M N : zMem} {q n i : Nat} {lo hi v : Int} (h : zB q n lo hi M) (hN : N = zsI M q i (Int32.ofInt v)) (h0 : lo ≤ v) (h1 : v ≤ hi) (hl : -2147483648 ≤ lo) (hh : hi < 2147483648) : zB q n lo hi N := by
  intro j hj
  by_cases e : j = i
  · subst e
    rw [zs_get hN ⟨by omega, by omega⟩]
    exact ⟨h0, h1⟩
  · rw [zs_oth hN e]
    exact h j hj
theorem zB.fr {S C : List Nat} {M N : zMem} {q n : Nat} {lo hi : Int} (hf : zFr S C M N) (h : zB q n lo hi M) (h1 : q ≠ 81) (hq : q ∉ C) : zB q n lo hi N := by
  intro j hj
  rw [hf.ie h1 hq]
  exact h j hj
theorem zB.of {q n : Nat} {lo hi lo' hi' : Int} {M : zMem} (h : zB q n lo hi M) (h0 : lo' ≤ lo) (h1 : hi ≤ hi') : zB q n lo' hi' M := fun j hj => ⟨by have := (h j hj).1; omega, by have := (h j hj).2; omega⟩
def zpI (S C : List Nat) (M : zMem) (P : Int → zMem → Prop) : Option Value → zMem → Prop := fun r N => ∃ v : Int, r = some (.int (Int32.ofInt v)) ∧ zn32 v ∧ zFr S C M N ∧ P v N
def zpJ (S C : List Nat) (M : zMem) (P : Int → zMem → Prop) : Option Value → zMem → Prop := fun r N => ∃ v : Int, r = some (.long (Int64.ofInt v)) ∧ zn64 v ∧ zFr S C M N ∧ P v N
def zpV (S C : List Nat) (M : zMem) (P : zMem → Prop) : Option Value → zMem → Prop := fun r N => r = none ∧ zFr S C M N ∧ P N
section ZR
variable {l : Launch} {k : zMeth} {X : Nat × Nat} {M : zMem} {pc : Nat} {L : List (Option Value)} {S : List Value} {Q : Option Value → zMem → Prop} {a b : Int}
theorem zr_iadd  (hd : decode (zb k) pc = .ok (.iadd, 1)) (kk : zW l k X M (pc + 1) L (.int (Int32.ofInt (a + b)) :: S) Q) : zW l k X M pc L (.int (Int32.ofInt b) :: .int (Int32.ofInt a) :: S) Q := zw_iadd hd (by rw [← Int32.ofInt_add]; exact kk)
theorem zr_isub  (hd : decode (zb k) pc = .ok (.isub, 1)) (kk : zW l k X M (pc + 1) L (.int (Int32.ofInt (a - b)) :: S) Q) : zW l k X M pc L (.int (Int32.ofInt b) :: .int (Int32.ofInt a) :: S) Q := zw_isub hd (by rw [← Int32.ofInt_sub]; exact kk)
theorem zr_imul  (hd : decode (zb k) pc = .ok (.imul, 1)) (kk : zW l k X M (pc + 1) L (.int (Int32.ofInt (a * b)) :: S) Q) : zW l k X M pc L (.int (Int32.ofInt b) :: .int (Int32.ofInt a) :: S) Q := zw_imul hd (by rw [← Int32.ofInt_mul]; exact kk)
theorem zr_ladd  (hd : decode (zb k) pc = .ok (.ladd, 1)) (kk : zW l k X M (pc + 1) L (.long (Int64.ofInt (a + b)) :: S) Q) : zW l k X M pc L (.long (Int64.ofInt b) :: .long (Int64.ofInt a) :: S) Q := zw_ladd hd (by rw [← Int64.ofInt_add]; exact kk)
theorem zr_lsub  (hd : decode (zb k) pc = .ok (.lsub, 1)) (kk : zW l k X M (pc + 1) L (.long (Int64.ofInt (a - b)) :: S) Q) : zW l k X M pc L (.long (Int64.ofInt b) :: .long (Int64.ofInt a) :: S) Q := zw_lsub hd (by rw [← Int64.ofInt_sub]; exact kk)
theorem zr_lmul  (hd : decode (zb k) pc = .ok (.lmul, 1)) (kk : zW l k X M (pc + 1) L (.long (Int64.ofInt (a * b)) :: S) Q) : zW l k X M pc L (.long (Int64.ofInt b) :: .long (Int64.ofInt a) :: S) Q := zw_lmul hd (by rw [← Int64.ofInt_mul]; exact kk)
theorem zr_ior  (hd : decode (zb k) pc = .ok (.ior, 1)) (kk : zW l k X M (pc + 1) L (.int (Int32.ofInt (zor a b)) :: S) Q) : zW l k X M pc L (.int (Int32.ofInt b) :: .int (Int32.ofInt a) :: S) Q := zw_ior hd (by rw [show Int32.ofInt a ||| Int32.ofInt b = Int32.ofInt (zor a b) from (Int32.ofInt_toInt _).symm]; exact kk)
theorem zr_iand  (hd : decode (zb k) pc = .ok (.iand, 1)) (kk : zW l k X M (pc + 1) L (.int (Int32.ofInt (zand a b)) :: S) Q) : zW l k X M pc L (.int (Int32.ofInt b) :: .int (Int32.ofInt a) :: S) Q := zw_iand hd (by rw [show Int32.ofInt a &&& Int32.ofInt b = Int32.ofInt (zand a b) from (Int32.ofInt_toInt _).symm]; exact kk)
theorem zr_ixor  (hd : decode (zb k) pc = .ok (.ixor, 1)) (kk : zW l k X M (pc + 1) L (.int (Int32.ofInt (zxor a b)) :: S) Q) : zW l k X M pc L (.int (Int32.ofInt b) :: .int (Int32.ofInt a) :: S) Q := zw_ixor hd (by rw [show Int32.ofInt a ^^^ Int32.ofInt b = Int32.ofInt (zxor a b) from (Int32.ofInt_toInt _).symm]; exact kk)
theorem zr_ishl  (hd : decode (zb k) pc = .ok (.ishl, 1)) (kk : zW l k X M (pc + 1) L (.int (Int32.ofInt (zshl a b)) :: S) Q) : zW l k X M pc L (.int (Int32.ofInt b) :: .int (Int32.ofInt a) :: S) Q := zw_ishl hd (by rw [show Int32.ofInt a <<< (Int32.ofInt b &&& 31) = Int32.ofInt (zshl a b) from (Int32.ofInt_toInt _).symm]; exact kk)
theorem zr_ishr  (hd : decode (zb k) pc = .ok (.ishr, 1)) (kk : zW l k X M (pc + 1) L (.int (Int32.ofInt (zshr a b)) :: S) Q) : zW l k X M pc L (.int (Int32.ofInt b) :: .int (Int32.ofInt a) :: S) Q := zw_ishr hd (by rw [show Int32.ofInt a >>> (Int32.ofInt b &&& 31) = Int32.ofInt (zshr a b) from (Int32.ofInt_toInt _).symm]; exact kk)
theorem zr_idiv (hb : zn32 b) (h0 : b ≠ 0) (hd : decode (zb k) pc = .ok (.idiv, 1)) (kk : zW l k X M (pc + 1) L (.int (Int32.ofInt (zquo a b)) :: S) Q) : zW l k X M pc L (.int (Int32.ofInt b) :: .int (Int32.ofInt a) :: S) Q := zw_idiv (z32ne hb h0) hd (by rw [show Int32.ofInt a / Int32.ofInt b = Int32.ofInt (zquo a b) from (Int32.ofInt_toInt _).symm]; exact kk)
theorem zr_irem (hb : zn32 b) (h0 : b ≠ 0) (hd : decode (zb k) pc = .ok (.irem, 1)) (kk : zW l k X M (pc + 1) L (.int (Int32.ofInt (zrem a b)) :: S) Q) : zW l k X M pc L (.int (Int32.ofInt b) :: .int (Int32.ofInt a) :: S) Q := zw_irem (z32ne hb h0) hd (by rw [show Int32.ofInt a - Int32.ofInt a / Int32.ofInt b * Int32.ofInt b = Int32.ofInt (zrem a b) from (Int32.ofInt_toInt _).symm]; exact kk)
theorem zr_ldiv (hb : zn64 b) (h0 : b ≠ 0) (hd : decode (zb k) pc = .ok (.ldiv, 1)) (kk : zW l k X M (pc + 1) L (.long (Int64.ofInt (zlquo a b)) :: S) Q) : zW l k X M pc L (.long (Int64.ofInt b) :: .long (Int64.ofInt a) :: S) Q := zw_ldiv (z64ne hb h0) hd (by rw [show Int64.ofInt a / Int64.ofInt b = Int64.ofInt (zlquo a b) from (Int64.ofInt_toInt _).symm]; exact kk)
theorem zr_lrem (hb : zn64 b) (h0 : b ≠ 0) (hd : decode (zb k) pc = .ok (.lrem, 1)) (kk : zW l k X M (pc + 1) L (.long (Int64.ofInt (zlrem a b)) :: S) Q) : zW l k X M pc L (.long (Int64.ofInt b) :: .long (Int64.ofInt a) :: S) Q := zw_lrem (z64ne hb h0) hd (by rw [show Int64.ofInt a - Int64.ofInt a / Int64.ofInt b * Int64.ofInt b = Int64.ofInt (zlrem a b) from (Int64.ofInt_toInt _).symm]; exact kk)
theorem zr_ineg  (hd : decode (zb k) pc = .ok (.ineg, 1)) (kk : zW l k X M (pc + 1) L (.int (Int32.ofInt (-a)) :: S) Q) : zW l k X M pc L (.int (Int32.ofInt a) :: S) Q := zw_ineg hd (by rw [← Int32.ofInt_neg]; exact kk)
theorem zr_lneg  (hd : decode (zb k) pc = .ok (.lneg, 1)) (kk : zW l k X M (pc + 1) L (.long (Int64.ofInt (-a)) :: S) Q) : zW l k X M pc L (.long (Int64.ofInt a) :: S) Q := zw_lneg hd (by rw [← Int64.ofInt_neg]; exact kk)
theorem zr_i2l (ha : zn32 a) (hd : decode (zb k) pc = .ok (.i2l, 1)) (kk : zW l k X M (pc + 1) L (.long (Int64.ofInt a) :: S) Q) : zW l k X M pc L (.int (Int32.ofInt a) :: S) Q := zw_i2l hd (by rw [Int32.toInt64_ofInt (by have := ha.1; show -2147483648 ≤ a; exact this) (by have := ha.2; show a ≤ 2147483647; omega)]; exact kk)
theorem zr_l2i  (hd : decode (zb k) pc = .ok (.l2i, 1)) (kk : zW l k X M (pc + 1) L (.int (Int32.ofInt a) :: S) Q) : zW l k X M pc L (.long (Int64.ofInt a) :: S) Q := zw_l2i hd (by rw [Int64.toInt32_ofInt]; exact kk)
theorem zr_lcmp (ha : zn64 a) (hb : zn64 b) (hd : decode (zb k) pc = .ok (.lcmp, 1)) (kk : zW l k X M (pc + 1) L (.int (Int32.ofInt (zcmp a b)) :: S) Q) : zW l k X M pc L (.long (Int64.ofInt b) :: .long (Int64.ofInt a) :: S) Q := zw_lcmp hd (by rw [z_lcmp ha hb]; exact kk)
theorem zr_lor  (hd : decode (zb k) pc = .ok (.lor, 1)) (kk : zW l k X M (pc + 1) L (.long (Int64.ofInt (zlor a b)) :: S) Q) : zW l k X M pc L (.long (Int64.ofInt b) :: .long (Int64.ofInt a) :: S) Q := zw_lor hd (by rw [show Int64.ofInt a ||| Int64.ofInt b = Int64.ofInt (zlor a b) from (Int64.ofInt_toInt _).symm]; exact kk)
theorem zr_lshl  (hd : decode (zb k) pc = .ok (.lshl, 1)) (kk : zW l k X M (pc + 1) L (.long (Int64.ofInt (zlshl a b)) :: S) Q) : zW l k X M pc L (.int (Int32.ofInt b) :: .long (Int64.ofInt a) :: S) Q := zw_lshl hd (by rw [show Int64.ofInt a <<< ((Int32.ofInt b).toInt64 &&& 63) = Int64.ofInt (zlshl a b) from (Int64.ofInt_toInt _).symm]; exact kk)
theorem zr_nmI (kk : ∀ v : Int, zn32 v → zW l k X M pc L (.int (Int32.ofInt v) :: S) Q) : zW l k X M pc L (.int (Int32.ofInt a) :: S) Q := by
  have h := kk (Int32.ofInt a).toInt (z32r _)
  rwa [Int32.ofInt_toInt] at h
theorem zr_nmJ (kk : ∀ v : Int, zn64 v → zW l k X M pc L (.long (Int64.ofInt v) :: S) Q) : zW l k X M pc L (.long (Int64.ofInt a) :: S) Q := by
  have h := kk (Int64.ofInt a).toInt (z64r _)
  rwa [Int64.ofInt_toInt] at h
theorem zr_toI {a' : Int} (e : a = a') (kk : zW l k X M pc L (.int (Int32.ofInt a') :: S) Q) : zW l k X M pc L (.int (Int32.ofInt a) :: S) Q := by rw [e]; exact kk
theorem zr_toJ {a' : Int} (e : a = a') (kk : zW l k X M pc L (.long (Int64.ofInt a') :: S) Q) : zW l k X M pc L (.long (Int64.ofInt a) :: S) Q := by rw [e]; exact kk
theorem zr_iinc {i : Nat} {n : Int} {L2 : List (Option Value)} (hL : L[i]? = some (some (.int (Int32.ofInt a)))) (hn : i < zl k) (h2 : zst1 L i (.int (Int32.ofInt (a + n))) = L2) (hd : decode (zb k) pc = .ok (.iinc i n, 3)) (kk : zW l k X M (pc + 3) L2 S Q) : zW l k X M pc L S Q := zw_iinc hL (Int32.ofInt_add a n).symm hn h2 hd kk
theorem zr_if_eq (ha : zn32 a) {off : Int} {tgt : Nat} (ht : (pc : Int) + off = (tgt : Int)) (hd : decode (zb k) pc = .ok (.ifCond .eq off, 3)) (kt : a = 0 → zW l k X M tgt L S Q) (kk : a ≠ 0 → zW l k X M (pc + 3) L S Q) : zW l k X M pc L (.int (Int32.ofInt a) :: S) Q := zw_if_eq ht hd (fun h => kt ((z32i ha z32z).mp h)) (fun h => kk (fun e => h ((z32i ha z32z).mpr e)))
theorem zr_icmp_eq (ha : zn32 a) (hb : zn32 b) {off : Int} {tgt : Nat} (ht : (pc : Int) + off = (tgt : Int)) (hd : decode (zb k) pc = .ok (.if_icmp .eq off, 3)) (kt : a = b → zW l k X M tgt L S Q) (kk : a ≠ b → zW l k X M (pc + 3) L S Q) : zW l k X M pc L (.int (Int32.ofInt b) :: .int (Int32.ofInt a) :: S) Q := zw_icmp_eq ht hd (fun h => kt ((z32i ha hb).mp h)) (fun h => kk (fun e => h ((z32i ha hb).mpr e)))
theorem zr_if_ne (ha : zn32 a) {off : Int} {tgt : Nat} (ht : (pc : Int) + off = (tgt : Int)) (hd : decode (zb k) pc = .ok (.ifCond .ne off, 3)) (kt : a ≠ 0 → zW l k X M tgt L S Q) (kk : a = 0 → zW l k X M (pc + 3) L S Q) : zW l k X M pc L (.int (Int32.ofInt a) :: S) Q := zw_if_ne ht hd (fun h => kt (fun e => h ((z32i ha z32z).mpr e))) (fun h => kk ((z32i ha z32z).mp h))
theorem zr_icmp_ne (ha : zn32 a) (hb : zn32 b) {off : Int} {tgt : Nat} (ht : (pc : Int) + off = (tgt : Int)) (hd : decode (zb k) pc = .ok (.if_icmp .ne off, 3)) (kt : a ≠ b → zW l k X M tgt L S Q) (kk : a = b → zW l k X M (pc + 3) L S Q) : zW l k X M pc L (.int (Int32.ofInt b) :: .int (Int32.ofInt a) :: S) Q := zw_icmp_ne ht hd (fun h => kt (fun e => h ((z32i ha hb).mpr e))) (fun h => kk ((z32i ha hb).mp h))
theorem zr_if_lt (ha : zn32 a) {off : Int} {tgt : Nat} (ht : (pc : Int) + off = (tgt : Int)) (hd : decode (zb k) pc = .ok (.ifCond .lt off, 3)) (kt : a < 0 → zW l k X M tgt L S Q) (kk : 0 ≤ a → zW l k X M (pc + 3) L S Q) : zW l k X M pc L (.int (Int32.ofInt a) :: S) Q := zw_if_lt ht hd (fun h => kt ((z32l ha z32z).mp h)) (fun h => kk (Int.not_lt.mp (fun e => h ((z32l ha z32z).mpr e))))
theorem zr_icmp_lt (ha : zn32 a) (hb : zn32 b) {off : Int} {tgt : Nat} (ht : (pc : Int) + off = (tgt : Int)) (hd : decode (zb k) pc = .ok (.if_icmp .lt off, 3)) (kt : a < b → zW l k X M tgt L S Q) (kk : b ≤ a → zW l k X M (pc + 3) L S Q) : zW l k X M pc L (.int (Int32.ofInt b) :: .int (Int32.ofInt a) :: S) Q := zw_icmp_lt ht hd (fun h => kt ((z32l ha hb).mp h)) (fun h => kk (Int.not_lt.mp (fun e => h ((z32l ha hb).mpr e))))
theorem zr_if_ge (ha : zn32 a) {off : Int} {tgt : Nat} (ht : (pc : Int) + off = (tgt : Int)) (hd : decode (zb k) pc = .ok (.ifCond .ge off, 3)) (kt : 0 ≤ a → zW l k X M tgt L S Q) (kk : a < 0 → zW l k X M (pc + 3) L S Q) : zW l k X M pc L (.int (Int32.ofInt a) :: S) Q := zw_if_ge ht hd (fun h => kt ((z32e z32z ha).mp h)) (fun h => kk (Int.not_le.mp (fun e => h ((z32e z32z ha).mpr e))))
theorem zr_icmp_ge (ha : zn32 a) (hb : zn32 b) {off : Int} {tgt : Nat} (ht : (pc : Int) + off = (tgt : Int)) (hd : decode (zb k) pc = .ok (.if_icmp .ge off, 3)) (kt : b ≤ a → zW l k X M tgt L S Q) (kk : a < b → zW l k X M (pc + 3) L S Q) : zW l k X M pc L (.int (Int32.ofInt b) :: .int (Int32.ofInt a) :: S) Q := zw_icmp_ge ht hd (fun h => kt ((z32e hb ha).mp h)) (fun h => kk (Int.not_le.mp (fun e => h ((z32e hb ha).mpr e))))
theorem zr_if_gt (ha : zn32 a) {off : Int} {tgt : Nat} (ht : (pc : Int) + off = (tgt : Int)) (hd : decode (zb k) pc = .ok (.ifCond .gt off, 3)) (kt : 0 < a → zW l k X M tgt L S Q) (kk : a ≤ 0 → zW l k X M (pc + 3) L S Q) : zW l k X M pc L (.int (Int32.ofInt a) :: S) Q := zw_if_gt ht hd (fun h => kt ((z32l z32z ha).mp h)) (fun h => kk (Int.not_lt.mp (fun e => h ((z32l z32z ha).mpr e))))
theorem zr_icmp_gt (ha : zn32 a) (hb : zn32 b) {off : Int} {tgt : Nat} (ht : (pc : Int) + off = (tgt : Int)) (hd : decode (zb k) pc = .ok (.if_icmp .gt off, 3)) (kt : b < a → zW l k X M tgt L S Q) (kk : a ≤ b → zW l k X M (pc + 3) L S Q) : zW l k X M pc L (.int (Int32.ofInt b) :: .int (Int32.ofInt a) :: S) Q := zw_icmp_gt ht hd (fun h => kt ((z32l hb ha).mp h)) (fun h => kk (Int.not_lt.mp (fun e => h ((z32l hb ha).mpr e))))
theorem zr_if_le (ha : zn32 a) {off : Int} {tgt : Nat} (ht : (pc : Int) + off = (tgt : Int)) (hd : decode (zb k) pc = .ok (.ifCond .le off, 3)) (kt : a ≤ 0 → zW l k X M tgt L S Q) (kk : 0 < a → zW l k X M (pc + 3) L S Q) : zW l k X M pc L (.int (Int32.ofInt a) :: S) Q := zw_if_le ht hd (fun h => kt ((z32e ha z32z).mp h)) (fun h => kk (Int.not_le.mp (fun e => h ((z32e ha z32z).mpr e))))
theorem zr_icmp_le (ha : zn32 a) (hb : zn32 b) {off : Int} {tgt : Nat} (ht : (pc : Int) + off = (tgt : Int)) (hd : decode (zb k) pc = .ok (.if_icmp .le off, 3)) (kt : a ≤ b → zW l k X M tgt L S Q) (kk : b < a → zW l k X M (pc + 3) L S Q) : zW l k X M pc L (.int (Int32.ofInt b) :: .int (Int32.ofInt a) :: S) Q := zw_icmp_le ht hd (fun h => kt ((z32e ha hb).mp h)) (fun h => kk (Int.not_le.mp (fun e => h ((z32e ha hb).mpr e))))
theorem zr_tabOut (ha : zn32 a) {dflt lo hi : Int} {offs : Array Int} {len : Nat} {tgt : Nat} (h : a < lo ∨ hi < a) (ht : (pc : Int) + dflt = (tgt : Int)) (hd : decode (zb k) pc = .ok (.tableswitch dflt lo hi offs, len)) (kk : zW l k X M tgt L S Q) : zW l k X M pc L (.int (Int32.ofInt a) :: S) Q := zw_tabOut (by rw [z32 ha]; exact h) ht hd kk
theorem zr_tabIn {c : Int} (hc : zn32 c) (e : a = c) {dflt lo hi : Int} {offs : Array Int} {len : Nat} {off : Int} {tgt : Nat} (h1 : ¬ c < lo) (h2 : ¬ hi < c) (ho : offs[(c - lo).toNat]? = some off) (ht : (pc : Int) + off = (tgt : Int)) (hd : decode (zb k) pc = .ok (.tableswitch dflt lo hi offs, len)) (kk : zW l k X M tgt L S Q) : zW l k X M pc L (.int (Int32.ofInt a) :: S) Q := by
  rw [e]
  exact zw_tabIn (by rw [z32 hc]; exact h1) (by rw [z32 hc]; exact h2) (by rw [z32 hc]; exact ho) ht hd kk
theorem z_rin {e : Int} {n : Nat} (h0 : 0 ≤ e) (h1 : e < n) (hn : n ≤ 65536) : vp_in (Int32.ofInt e) n ∧ (Int32.ofInt e).toNatClampNeg = e.toNat := by
  have hr : zn32 e := ⟨by omega, by omega⟩
  exact ⟨vp_in_iff.mpr (by rw [z32 hr]; exact ⟨h0, h1⟩), Int32.toNatClampNeg_ofInt_of_le (by omega) (by omega)⟩
theorem zr_iald {q n : Nat} {e : Int} (hs : zsh M q = (1, n)) (hn : n ≤ 65536) (h0 : 0 ≤ e) (h1 : e < n) (hd : decode (zb k) pc = .ok (.iaload, 1)) (kk : zW l k X M (pc + 1) L (.int (Int32.ofInt (ze M q e.toNat)) :: S) Q) : zW l k X M pc L (.int (Int32.ofInt e) :: .ref q :: S) Q := by
  obtain ⟨g1, g2⟩ := z_rin h0 h1 hn
  refine zw_iald hs g1 hd ?_
  rw [g2, ze_of]
  exact kk
theorem zr_lald {q n : Nat} {e : Int} (hs : zsh M q = (2, n)) (hn : n ≤ 65536) (h0 : 0 ≤ e) (h1 : e < n) (hd : decode (zb k) pc = .ok (.laload, 1)) (kk : zW l k X M (pc + 1) L (.long (Int64.ofInt (zg M q e.toNat)) :: S) Q) : zW l k X M pc L (.int (Int32.ofInt e) :: .ref q :: S) Q := by
  obtain ⟨g1, g2⟩ := z_rin h0 h1 hn
  refine zw_lald hs g1 hd ?_
  rw [g2, zg_of]
  exact kk
theorem zr_iast {q n : Nat} {e v : Int} (hs : zsh M q = (1, n)) (hn : n ≤ 65536) (hq : q ≠ 81) (h0 : 0 ≤ e) (h1 : e < n) (hd : decode (zb k) pc = .ok (.iastore, 1)) (kk : ∀ N : zMem, N = zsI M q e.toNat (Int32.ofInt v) → zFr [] [q] M N → zW l k X N (pc + 1) L S Q) : zW l k X M pc L (.int (Int32.ofInt v) :: .int (Int32.ofInt e) :: .ref q :: S) Q := by
  obtain ⟨g1, g2⟩ := z_rin h0 h1 hn
  refine zw_iast hs g1 hd ?_
  rw [g2]
  exact kk _ rfl (zFr.sA hq)
theorem zr_last {q n : Nat} {e v : Int} (hs : zsh M q = (2, n)) (hn : n ≤ 65536) (hq : q ≠ 81) (h0 : 0 ≤ e) (h1 : e < n) (hd : decode (zb k) pc = .ok (.lastore, 1)) (kk : ∀ N : zMem, N = zsJ M q e.toNat (Int64.ofInt v) → zFr [] [q] M N → zW l k X N (pc + 1) L S Q) : zW l k X M pc L (.long (Int64.ofInt v) :: .int (Int32.ofInt e) :: .ref q :: S) Q := by
  obtain ⟨g1, g2⟩ := z_rin h0 h1 hn
  refine zw_last hs g1 hd ?_
  rw [g2]
  exact kk _ rfl (zFr.sB hq)
theorem zr_getI (hW : zMt M) {ix j : Nat} (hF : zFL (zo k) ix 11 j) (hg : zG 11 j = 0) (hd : decode (zb k) pc = .ok (.getfield ix, 3)) (kk : zW l k X M (pc + 3) L (.int (Int32.ofInt (ze M 81 j)) :: S) Q) : zW l k X M pc L (.ref 81 :: S) Q :=
  zw_getI hF hg hW.2.1 hd (by rw [ze_of]; exact kk)
theorem zr_getJ (hW : zMt M) {ix j : Nat} (hF : zFL (zo k) ix 11 j) (hg : zG 11 j = 1) (hd : decode (zb k) pc = .ok (.getfield ix, 3)) (kk : zW l k X M (pc + 3) L (.long (Int64.ofInt (zg M 81 j)) :: S) Q) : zW l k X M pc L (.ref 81 :: S) Q :=
  zw_getJ hF hg hW.2.1 hd (by rw [zg_of]; exact kk)
theorem zr_getF (hW : zMt M) {ix j r : Nat} (hF : zFL (zo k) ix 11 j) (hg : zG 11 j = 2) (hr : zf M 81 j = some r) (hd : decode (zb k) pc = .ok (.getfield ix, 3)) (kk : zW l k X M (pc + 3) L (.ref r :: S) Q) : zW l k X M pc L (.ref 81 :: S) Q :=
  zw_getF hF hg hW.2.1 hr hd kk
theorem zr_putI (hW : zMt M) {ix j : Nat} {v : Int} (hF : zFL (zo k) ix 11 j) (hfin : (zT 11 j).2.2.2 = false) (hg : zG 11 j = 0) (hv : zn32 v) (hn : narrow (zY 11 j) (.int (Int32.ofInt v)) = .int (Int32.ofInt v)) (hft : fits (zY 11 j) (.int (Int32.ofInt v)) = true) (hd : decode (zb k) pc = .ok (.putfield ix, 3)) (kk : ∀ N : zMem, zFr [j] [] M N → ze N 81 j = v → zW l k X N (pc + 3) L S Q) : zW l k X M pc L (.int (Int32.ofInt v) :: .ref 81 :: S) Q :=
  zw_putI hF hfin hg hW.2.1 hn hft hd (kk _ zFr.pI (zs_get rfl hv))
theorem zr_putJ (hW : zMt M) {ix j : Nat} {v : Int} (hF : zFL (zo k) ix 11 j) (hfin : (zT 11 j).2.2.2 = false) (hg : zG 11 j = 1) (hn : narrow (zY 11 j) (.long (Int64.ofInt v)) = .long (Int64.ofInt v)) (hft : fits (zY 11 j) (.long (Int64.ofInt v)) = true) (hd : decode (zb k) pc = .ok (.putfield ix, 3)) (kk : ∀ N : zMem, zFr [j] [] M N → (zn64 v → zg N 81 j = v) → zW l k X N (pc + 3) L S Q) : zW l k X M pc L (.long (Int64.ofInt v) :: .ref 81 :: S) Q :=
  zw_putJ hF hfin hg hW.2.1 hn hft hd (kk _ zFr.pJ (fun hv => zs_getJ rfl hv))
theorem zr_callV (hW : zMt M) (hX : zn M ≤ X.1 ∧ zw M ≤ X.2) {k' : zMeth} {Q' : Option Value → zMem → Prop} {ix : Nat} (vs rest : List Value) (hl' : zMLV (zo k) ix k') (hC : zC l k' 0 0 (.ref 81 :: vs) M Q') (hS : S = vs.reverse ++ .ref 81 :: rest) (hn : vs.length = zna k') (ho : zo k' = 11) (hR : zF k' + 1 ≤ zF k ∧ 8 + (zl k' + 11) + zLo k' ≤ zLo k) (hc8 : (rest.map fun v => v.category).sum ≤ 8) (hd : decode (zb k) pc = .ok (.invokevirtual ix, 3))
    (kk : ∀ (r : Option Value) (M' : zMem), Q' r M' → zW l k X M' (pc + 3) L (r.toList ++ rest) Q) : zW l k X M pc L S Q :=
  zw_callV vs rest hl' hC hS hn (by rw [ho]; exact hW.2.1) (by rw [ho]; decide) hR hX hc8 hd (fun r M' h _ _ => kk r M' h)
theorem zr_callS (hX : zn M ≤ X.1 ∧ zw M ≤ X.2) {k' : zMeth} {Q' : Option Value → zMem → Prop} {ix : Nat} (vs rest : List Value) (hl' : zMLS (zo k) ix k') (hC : zC l k' 0 0 vs M Q') (hS : S = vs.reverse ++ rest) (hn : vs.length = zna k') (hR : zF k' + 1 ≤ zF k ∧ 8 + (zl k' + 11) + zLo k' ≤ zLo k) (hc8 : (rest.map fun v => v.category).sum ≤ 8) (hd : decode (zb k) pc = .ok (.invokestatic ix, 3))
    (kk : ∀ (r : Option Value) (M' : zMem), Q' r M' → zW l k X M' (pc + 3) L (r.toList ++ rest) Q) : zW l k X M pc L S Q :=
  zw_callS vs rest hl' hC hS hn hR hX hc8 hd (fun r M' h _ _ => kk r M' h)
theorem zr_ldc2 {ix : Nat} {c : Int64} {n : Int} (hv : c = Int64.ofInt n) (hw : Cond.constantLong (zR (zo k)) ix c ∈ z_tbl) (hd : decode (zb k) pc = .ok (.ldc2_w ix, 3)) (kk : zW l k X M (pc + 3) L (.long (Int64.ofInt n) :: S) Q) : zW l k X M pc L S Q := zw_ldc2 hw hd (by rw [hv]; exact kk)
theorem zr_ialdn {q n : Nat} {e : Int} (hs : zsh M q = (1, n)) (hn : n ≤ 65536) (h0 : 0 ≤ e) (h1 : e < n) (hd : decode (zb k) pc = .ok (.iaload, 1)) (kk : ∀ v : Int, v = ze M q e.toNat → -2147483648 ≤ v → v < 2147483648 → zW l k X M (pc + 1) L (.int (Int32.ofInt v) :: S) Q) : zW l k X M pc L (.int (Int32.ofInt e) :: .ref q :: S) Q := zr_iald hs hn h0 h1 hd (kk _ rfl (ze_r M q _).1 (ze_r M q _).2)
theorem zr_laldn {q n : Nat} {e : Int} (hs : zsh M q = (2, n)) (hn : n ≤ 65536) (h0 : 0 ≤ e) (h1 : e < n) (hd : decode (zb k) pc = .ok (.laload, 1)) (kk : ∀ v : Int, v = zg M q e.toNat → -9223372036854775808 ≤ v → v < 9223372036854775808 → zW l k X M (pc + 1) L (.long (Int64.ofInt v) :: S) Q) : zW l k X M pc L (.int (Int32.ofInt e) :: .ref q :: S) Q := zr_lald hs hn h0 h1 hd (kk _ rfl (zg_r M q _).1 (zg_r M q _).2)
theorem zr_getI0 {Sf C : List Nat} {M0 : zMem} (hf : zFr Sf C M0 M) (hW : zMt M0) {ix j : Nat} (hj : j ∉ Sf) (hF : zFL (zo k) ix 11 j) (hg : zG 11 j = 0) (hd : decode (zb k) pc = .ok (.getfield ix, 3)) (kk : zW l k X M (pc + 3) L (.int (Int32.ofInt (ze M0 81 j)) :: S) Q) : zW l k X M pc L (.ref 81 :: S) Q :=
  zr_getI (hf.w hW) hF hg hd (by rw [hf.e hj]; exact kk)
theorem zr_iret {Sf C : List Nat} {M0 : zMem} {P : Int → zMem → Prop} {ty : FieldType} (hr : zr k = some ty) (hn : narrow ty (.int (Int32.ofInt a)) = .int (Int32.ofInt a)) (ha : zn32 a) (hf : zFr Sf C M0 M) (hP : P a M) (hd : decode (zb k) pc = .ok (.ireturn, 1)) : zW l k X M pc L [.int (Int32.ofInt a)] (zpI Sf C M0 P) := zw_iret (S := []) hr hn hd ⟨a, rfl, ha, hf, hP⟩
theorem zr_lret {Sf C : List Nat} {M0 : zMem} {P : Int → zMem → Prop} (hr : zr k = some .long) (ha : zn64 a) (hf : zFr Sf C M0 M) (hP : P a M) (hd : decode (zb k) pc = .ok (.lreturn, 1)) : zW l k X M pc L [.long (Int64.ofInt a)] (zpJ Sf C M0 P) := zw_lret (S := []) hr hd ⟨a, rfl, ha, hf, hP⟩
theorem zr_vret {Sf C : List Nat} {M0 : zMem} {P : zMem → Prop} (hr : zr k = none) (hf : zFr Sf C M0 M) (hP : P M) (hd : decode (zb k) pc = .ok (.return_, 1)) : zW l k X M pc L [] (zpV Sf C M0 P) := zw_vret (S := []) hr hd ⟨rfl, hf, hP⟩
theorem zFr.x {Sf C : List Nat} {M0 N : zMem} (h : zFr Sf C M0 N) : zn N ≤ ((zn M0 + 0, zw M0 + 0) : Nat × Nat).1 ∧ zw N ≤ ((zn M0 + 0, zw M0 + 0) : Nat × Nat).2 := by
  unfold zn zw
  rw [h.1]
  exact ⟨Nat.le_refl _, Nat.le_refl _⟩
theorem z_narB {v : Int} (h : v = 0 ∨ v = 1) : narrow .boolean (.int (Int32.ofInt v)) = .int (Int32.ofInt v) := by rcases h with rfl | rfl <;> rfl
theorem z_fitB {v : Int} (h : v = 0 ∨ v = 1) : fits .boolean (.int (Int32.ofInt v)) = true := by rcases h with rfl | rfl <;> rfl
end ZR
theorem zh_82 {M : zMem} (h : zMt M) : zf M 81 0 = some 82 ∧ zsh M 82 = (1, 700) := h.2.2 (0, 82, 1, 700) (List.mem_of_getElem? (i := 0) rfl)
theorem zh_83 {M : zMem} (h : zMt M) : zf M 81 15 = some 83 ∧ zsh M 83 = (1, 24) := h.2.2 (15, 83, 1, 24) (List.mem_of_getElem? (i := 1) rfl)
theorem zh_84 {M : zMem} (h : zMt M) : zf M 81 19 = some 84 ∧ zsh M 84 = (1, 24) := h.2.2 (19, 84, 1, 24) (List.mem_of_getElem? (i := 2) rfl)
theorem zh_85 {M : zMem} (h : zMt M) : zf M 81 21 = some 85 ∧ zsh M 85 = (1, 144) := h.2.2 (21, 85, 1, 144) (List.mem_of_getElem? (i := 3) rfl)
theorem zh_86 {M : zMem} (h : zMt M) : zf M 81 22 = some 86 ∧ zsh M 86 = (1, 6) := h.2.2 (22, 86, 1, 6) (List.mem_of_getElem? (i := 4) rfl)
theorem zh_87 {M : zMem} (h : zMt M) : zf M 81 23 = some 87 ∧ zsh M 87 = (1, 576) := h.2.2 (23, 87, 1, 576) (List.mem_of_getElem? (i := 5) rfl)
theorem zh_88 {M : zMem} (h : zMt M) : zf M 81 24 = some 88 ∧ zsh M 88 = (1, 24) := h.2.2 (24, 88, 1, 24) (List.mem_of_getElem? (i := 6) rfl)
theorem zh_89 {M : zMem} (h : zMt M) : zf M 81 27 = some 89 ∧ zsh M 89 = (1, 128) := h.2.2 (27, 89, 1, 128) (List.mem_of_getElem? (i := 7) rfl)
theorem zh_90 {M : zMem} (h : zMt M) : zf M 81 28 = some 90 ∧ zsh M 90 = (1, 128) := h.2.2 (28, 90, 1, 128) (List.mem_of_getElem? (i := 8) rfl)
theorem zh_91 {M : zMem} (h : zMt M) : zf M 81 29 = some 91 ∧ zsh M 91 = (1, 64) := h.2.2 (29, 91, 1, 64) (List.mem_of_getElem? (i := 9) rfl)
theorem zh_92 {M : zMem} (h : zMt M) : zf M 81 30 = some 92 ∧ zsh M 92 = (1, 64) := h.2.2 (30, 92, 1, 64) (List.mem_of_getElem? (i := 10) rfl)
theorem zh_93 {M : zMem} (h : zMt M) : zf M 81 31 = some 93 ∧ zsh M 93 = (1, 4096) := h.2.2 (31, 93, 1, 4096) (List.mem_of_getElem? (i := 11) rfl)
theorem zh_94 {M : zMem} (h : zMt M) : zf M 81 32 = some 94 ∧ zsh M 94 = (1, 1536) := h.2.2 (32, 94, 1, 1536) (List.mem_of_getElem? (i := 12) rfl)
theorem zh_95 {M : zMem} (h : zMt M) : zf M 81 33 = some 95 ∧ zsh M 95 = (2, 2560) := h.2.2 (33, 95, 2, 2560) (List.mem_of_getElem? (i := 13) rfl)
theorem zh_96 {M : zMem} (h : zMt M) : zf M 81 34 = some 96 ∧ zsh M 96 = (2, 64) := h.2.2 (34, 96, 2, 64) (List.mem_of_getElem? (i := 14) rfl)
theorem zh_97 {M : zMem} (h : zMt M) : zf M 81 35 = some 97 ∧ zsh M 97 = (2, 64) := h.2.2 (35, 97, 2, 64) (List.mem_of_getElem? (i := 15) rfl)
theorem zh_98 {M : zMem} (h : zMt M) : zf M 81 36 = some 98 ∧ zsh M 98 = (2, 64) := h.2.2 (36, 98, 2, 64) (List.mem_of_getElem? (i := 16) rfl)
theorem zh_99 {M : zMem} (h : zMt M) : zf M 81 37 = some 99 ∧ zsh M 99 = (2, 64) := h.2.2 (37, 99, 2, 64) (List.mem_of_getElem? (i := 17) rfl)
theorem zh_100 {M : zMem} (h : zMt M) : zf M 81 40 = some 100 ∧ zsh M 100 = (1, 80) := h.2.2 (40, 100, 1, 80) (List.mem_of_getElem? (i := 18) rfl)
theorem zh_101 {M : zMem} (h : zMt M) : zf M 81 44 = some 101 ∧ zsh M 101 = (2, 8) := h.2.2 (44, 101, 2, 8) (List.mem_of_getElem? (i := 19) rfl)
theorem zh_102 {M : zMem} (h : zMt M) : zf M 81 45 = some 102 ∧ zsh M 102 = (2, 512) := h.2.2 (45, 102, 2, 512) (List.mem_of_getElem? (i := 20) rfl)
theorem zh_103 {M : zMem} (h : zMt M) : zf M 81 46 = some 103 ∧ zsh M 103 = (2, 8) := h.2.2 (46, 103, 2, 8) (List.mem_of_getElem? (i := 21) rfl)
theorem zh_104 {M : zMem} (h : zMt M) : zf M 81 47 = some 104 ∧ zsh M 104 = (2, 512) := h.2.2 (47, 104, 2, 512) (List.mem_of_getElem? (i := 22) rfl)
theorem zh_105 {M : zMem} (h : zMt M) : zf M 81 48 = some 105 ∧ zsh M 105 = (2, 64) := h.2.2 (48, 105, 2, 64) (List.mem_of_getElem? (i := 23) rfl)
theorem zh_106 {M : zMem} (h : zMt M) : zf M 81 49 = some 106 ∧ zsh M 106 = (1, 128) := h.2.2 (49, 106, 1, 128) (List.mem_of_getElem? (i := 24) rfl)
theorem zh_107 {M : zMem} (h : zMt M) : zf M 81 50 = some 107 ∧ zsh M 107 = (2, 64) := h.2.2 (50, 107, 2, 64) (List.mem_of_getElem? (i := 25) rfl)
theorem zh_108 {M : zMem} (h : zMt M) : zf M 81 51 = some 108 ∧ zsh M 108 = (2, 64) := h.2.2 (51, 108, 2, 64) (List.mem_of_getElem? (i := 26) rfl)
theorem zh_109 {M : zMem} (h : zMt M) : zf M 81 54 = some 109 ∧ zsh M 109 = (1, 24) := h.2.2 (54, 109, 1, 24) (List.mem_of_getElem? (i := 27) rfl)
theorem zh_110 {M : zMem} (h : zMt M) : zf M 81 56 = some 110 ∧ zsh M 110 = (1, 65536) := h.2.2 (56, 110, 1, 65536) (List.mem_of_getElem? (i := 28) rfl)
theorem zh_111 {M : zMem} (h : zMt M) : zf M 81 59 = some 111 ∧ zsh M 111 = (2, 768) := h.2.2 (59, 111, 2, 768) (List.mem_of_getElem? (i := 29) rfl)
theorem zh_112 {M : zMem} (h : zMt M) : zf M 81 61 = some 112 ∧ zsh M 112 = (1, 6) := h.2.2 (61, 112, 1, 6) (List.mem_of_getElem? (i := 30) rfl)
theorem zh_113 {M : zMem} (h : zMt M) : zf M 81 62 = some 113 ∧ zsh M 113 = (1, 7) := h.2.2 (62, 113, 1, 7) (List.mem_of_getElem? (i := 31) rfl)
def zKt0 : List (Nat × Nat × Nat) := [(0, 0, 1), (0, 1, 4), (1, 0, 2), (2, 0, 3), (4, 0, 1)]
def zKo0 : List (Nat × Nat) := [(0, 3), (1, 4), (2, 5), (4, 6)]
def zKr0 : List (Nat × Nat × Nat) := [(3, 1, 700)]
def zKt : List (Nat × Nat × Nat) := [(0, 0, 1), (0, 1, 12), (0, 2, 23), (0, 3, 28), (0, 4, 33), (0, 5, 36), (1, 0, 2), (1, 1, 4), (1, 2, 6), (1, 3, 8), (1, 4, 10), (2, 0, 3), (4, 0, 5), (6, 0, 7), (8, 0, 9), (10, 0, 11), (12, 0, 1), (12, 1, 13), (12, 2, 15), (12, 3, 17), (12, 4, 19), (12, 5, 21), (13, 0, 14), (15, 0, 16), (17, 0, 18), (19, 0, 20), (21, 0, 22), (23, 0, 12), (23, 1, 24), (23, 2, 26), (24, 0, 25), (26, 0, 27), (28, 0, 12), (28, 1, 29), (28, 2, 31), (29, 0, 30), (31, 0, 32), (33, 0, 23), (33, 1, 34), (34, 0, 35), (36, 0, 37)]
def zKo : List (Nat × Nat) := [(0, 7), (1, 8), (2, 5), (4, 5), (6, 5), (8, 5), (10, 5), (12, 9), (13, 5), (15, 5), (17, 5), (19, 5), (21, 5), (23, 10), (24, 11), (26, 11), (28, 12), (29, 5), (31, 5), (33, 13), (34, 5), (36, 5)]
def zKr : List (Nat × Nat × Nat) := [(3, 1, 4), (5, 1, 24), (7, 1, 576), (9, 1, 24), (11, 1, 24), (14, 1, 35), (16, 1, 35), (18, 1, 35), (20, 1, 27), (22, 1, 729), (25, 2, 1080), (27, 2, 27), (30, 1, 27), (32, 1, 24), (35, 1, 24), (37, 1, 8)]
def zKB (b : Nat) (t : List (Nat × Nat × Nat)) (o : List (Nat × Nat)) (r : List (Nat × Nat × Nat)) (M : zMem) : Prop := (∀ e ∈ t, zf M (b + e.1) e.2.1 = some (b + e.2.2)) ∧ (∀ e ∈ o, (zsh M (b + e.1)).1 = e.2) ∧ ∀ e ∈ r, zsh M (b + e.1) = (e.2.1, e.2.2)
def zKW (d : Nat) (M : zMem) : Prop := 81 ≤ zn M ∧ (d = 5 ∨ d = 43) ∧ zKB 0 zKt0 zKo0 zKr0 M ∧ zKB d zKt zKo zKr M
theorem zKW.lr {d : Nat} {M : zMem} (h : zKW d M) {o s r : Nat} (hm : (o, s, r) ∈ zKt) : zf M (d + o) s = some (d + r) := h.2.2.2.1 _ hm
theorem zKW.kr {d : Nat} {M : zMem} (h : zKW d M) {o t : Nat} (hm : (o, t) ∈ zKo) : (zsh M (d + o)).1 = t := h.2.2.2.2.1 _ hm
theorem zKW.rr {d : Nat} {M : zMem} (h : zKW d M) {o t n : Nat} (hm : (o, t, n) ∈ zKr) : zsh M (d + o) = (t, n) := h.2.2.2.2.2 _ hm
theorem zKW.la {d : Nat} {M : zMem} (h : zKW d M) {o s r : Nat} (hm : (o, s, r) ∈ zKt0) : zf M o s = some r := by
  have := h.2.2.1.1 _ hm
  simpa using this
theorem zKW.ka {d : Nat} {M : zMem} (h : zKW d M) {o t : Nat} (hm : (o, t) ∈ zKo0) : (zsh M o).1 = t := by
  have := h.2.2.1.2.1 _ hm
  simpa using this
theorem zKW.ra {d : Nat} {M : zMem} (h : zKW d M) {o t n : Nat} (hm : (o, t, n) ∈ zKr0) : zsh M o = (t, n) := by
  have := h.2.2.1.2.2 _ hm
  simpa using this
def zFc (d : Nat) (FA : List (Nat × Nat)) (CA : List Nat) (FR : List (Nat × Nat)) (CR : List Nat) (M N : zMem) : Prop := N.1 = M.1 ∧ zsh N = zsh M ∧ zf N = zf M ∧ (∀ q, (q < d ∨ d + 38 ≤ q) → q ∉ CA → ∀ j, (q, j) ∉ FA → zi N q j = zi M q j ∧ zj N q j = zj M q j) ∧ ∀ o, o < 38 → o ∉ CR → ∀ j, (o, j) ∉ FR → zi N (d + o) j = zi M (d + o) j ∧ zj N (d + o) j = zj M (d + o) j
section ZFC
variable {d : Nat} {FA FA' : List (Nat × Nat)} {CA CA' : List Nat} {FR FR' : List (Nat × Nat)} {CR CR' : List Nat} {M N P : zMem}
theorem zFc.rf : zFc d FA CA FR CR M M := ⟨rfl, rfl, rfl, fun _ _ _ _ _ => ⟨rfl, rfl⟩, fun _ _ _ _ _ => ⟨rfl, rfl⟩⟩
theorem zFc.tr (h : zFc d FA CA FR CR M N) (h2 : zFc d FA' CA' FR' CR' N P) (s1 : ∀ x ∈ FA', x ∈ FA) (s2 : ∀ x ∈ CA', x ∈ CA) (s3 : ∀ x ∈ FR', x ∈ FR) (s4 : ∀ x ∈ CR', x ∈ CR) : zFc d FA CA FR CR M P := by
  obtain ⟨a1, a2, a3, a4, a5⟩ := h
  obtain ⟨b1, b2, b3, b4, b5⟩ := h2
  refine ⟨b1.trans a1, b2.trans a2, b3.trans a3, fun q hq hc j hj => ?_, fun o ho hc j hj => ?_⟩
  · have x := b4 q hq (fun z => hc (s2 _ z)) j (fun z => hj (s1 _ z))
    have y := a4 q hq hc j hj
    exact ⟨x.1.trans y.1, x.2.trans y.2⟩
  · have x := b5 o ho (fun z => hc (s4 _ z)) j (fun z => hj (s3 _ z))
    have y := a5 o ho hc j hj
    exact ⟨x.1.trans y.1, x.2.trans y.2⟩
theorem zFc.w (h : zFc d FA CA FR CR M N) (hW : zKW d M) : zKW d N := by
  obtain ⟨a1, a2, a3, -, -⟩ := h
  obtain ⟨b1, b2, b3, b4⟩ := hW
  refine ⟨?_, b2, ?_, ?_⟩
  · unfold zn at b1 ⊢
    rw [a1]; exact b1
  · unfold zKB at b3 ⊢
    rw [a2, a3]; exact b3
  · unfold zKB at b4 ⊢
    rw [a2, a3]; exact b4
theorem zFc.x (h : zFc d FA CA FR CR M N) : zn N ≤ ((zn M + 0, zw M + 0) : Nat × Nat).1 ∧ zw N ≤ ((zn M + 0, zw M + 0) : Nat × Nat).2 := by
  unfold zn zw
  rw [h.1]
  exact ⟨Nat.le_refl _, Nat.le_refl _⟩
theorem zFc.e (h : zFc d FA CA FR CR M N) {o j : Nat} (ho : o < 38 ∧ o ∉ CR ∧ (o, j) ∉ FR) : ze N (d + o) j = ze M (d + o) j := by
  unfold ze
  rw [(h.2.2.2.2 o ho.1 ho.2.1 j ho.2.2).1]
theorem zFc.ea (h : zFc d FA CA FR CR M N) (hW : zKW d M) {q j : Nat} (ho : q < 5 ∧ q ∉ CA ∧ (q, j) ∉ FA) : ze N q j = ze M q j := by
  have hd := hW.2.1
  unfold ze
  rw [(h.2.2.2.1 q (Or.inl (by omega)) ho.2.1 j ho.2.2).1]
theorem zFc.r (h : zFc d FA CA FR CR M N) {o : Nat} (ho : o < 38 ∧ o ∉ CR ∧ ∀ x ∈ FR, x.1 ≠ o) (n : Nat) : ze N (d + o) n = ze M (d + o) n := by
  unfold ze
  rw [(h.2.2.2.2 o ho.1 ho.2.1 n (fun z => ho.2.2 _ z rfl)).1]
theorem zFc.rg (h : zFc d FA CA FR CR M N) {o : Nat} (ho : o < 38 ∧ o ∉ CR ∧ ∀ x ∈ FR, x.1 ≠ o) (n : Nat) : zg N (d + o) n = zg M (d + o) n := by
  unfold zg
  rw [(h.2.2.2.2 o ho.1 ho.2.1 n (fun z => ho.2.2 _ z rfl)).2]
theorem zFc.ra (h : zFc d FA CA FR CR M N) (hW : zKW d M) {q : Nat} (ho : q < 5 ∧ q ∉ CA ∧ ∀ x ∈ FA, x.1 ≠ q) (n : Nat) : ze N q n = ze M q n := by
  have hd := hW.2.1
  unfold ze
  rw [(h.2.2.2.1 q (Or.inl (by omega)) ho.2.1 n (fun z => ho.2.2 _ z rfl)).1]
theorem zFc.o (h : zFc d FA CA FR CR M N) {q : Nat} (hq : q < d ∨ d + 38 ≤ q) (ho : q ∉ CA ∧ ∀ x ∈ FA, x.1 ≠ q) : zi N q = zi M q ∧ zj N q = zj M q :=
  ⟨funext fun n => (h.2.2.2.1 q hq ho.1 n (fun z => ho.2 _ z rfl)).1, funext fun n => (h.2.2.2.1 q hq ho.1 n (fun z => ho.2 _ z rfl)).2⟩
theorem zFc.eq (h : zFc d [] [] [] [] M N) : N = M := by
  obtain ⟨a1, a2, a3, a4, a5⟩ := h
  obtain ⟨m1, m2, m3, m4, m5⟩ := M
  obtain ⟨n1, n2, n3, n4, n5⟩ := N
  have key : ∀ q j, n3 q j = m3 q j ∧ n4 q j = m4 q j := by
    intro q j
    by_cases h : q < d ∨ d + 38 ≤ q
    · exact a4 q h List.not_mem_nil j List.not_mem_nil
    · have := a5 (q - d) (by omega) List.not_mem_nil j List.not_mem_nil
      rw [show d + (q - d) = q by omega] at this
      exact this
  have e3 : n3 = m3 := funext fun q => funext fun j => (key q j).1
  have e4 : n4 = m4 := funext fun q => funext fun j => (key q j).2
  have e1 : n1 = m1 := a1
  have e2 : n2 = m2 := a2
  have e5 : n5 = m5 := a3
  rw [e1, e2, e3, e4, e5]
theorem zFc.sR {o i : Nat} {v : Int32} (ho : o < 38) : zFc d [] [] [] [o] M (zsI M (d + o) i v) := by
  refine ⟨rfl, rfl, rfl, fun q hq _ j _ => ⟨?_, rfl⟩, fun p hp hc j _ => ⟨?_, rfl⟩⟩
  · exact congrFun (zup2_q (by omega)) j
  · exact congrFun (zup2_q (fun e => hc (by have : p = o := by omega
                                            rw [this]; exact List.mem_singleton.mpr rfl))) j
theorem zFc.sRJ {o i : Nat} {v : Int64} (ho : o < 38) : zFc d [] [] [] [o] M (zsJ M (d + o) i v) := by
  refine ⟨rfl, rfl, rfl, fun q hq _ j _ => ⟨rfl, ?_⟩, fun p hp hc j _ => ⟨rfl, ?_⟩⟩
  · exact congrFun (zup2_q (by omega)) j
  · exact congrFun (zup2_q (fun e => hc (by have : p = o := by omega
                                            rw [this]; exact List.mem_singleton.mpr rfl))) j
theorem zFc.sA {q i : Nat} {v : Int32} (hW : zKW d M) (hq : q < 5) : zFc d [] [q] [] [] M (zsI M q i v) := by
  have hd := hW.2.1
  refine ⟨rfl, rfl, rfl, fun p hp hc j _ => ⟨?_, rfl⟩, fun p hp hc j _ => ⟨?_, rfl⟩⟩
  · exact congrFun (zup2_q (fun e => hc (by rw [e]; exact List.mem_singleton.mpr rfl))) j
  · exact congrFun (zup2_q (by omega)) j
theorem zFc.pR {o j : Nat} {v : Int32} (ho : o < 38) : zFc d [] [] [(o, j)] [] M (zsI M (d + o) j v) := by
  refine ⟨rfl, rfl, rfl, fun q hq _ i _ => ⟨?_, rfl⟩, fun p hp hc i hi => ⟨?_, rfl⟩⟩
  · exact congrFun (zup2_q (by omega)) i
  · refine zup2_n (fun z => hi ?_)
    have : p = o := by omega
    rw [this, z.2]
    exact List.mem_singleton.mpr rfl
theorem zFc.pA {q j : Nat} {v : Int32} (hW : zKW d M) (hq : q < 5) : zFc d [(q, j)] [] [] [] M (zsI M q j v) := by
  have hd := hW.2.1
  refine ⟨rfl, rfl, rfl, fun p hp hc i hi => ⟨?_, rfl⟩, fun p hp hc i _ => ⟨?_, rfl⟩⟩
  · refine zup2_n (fun z => hi ?_)
    rw [z.1, z.2]
    exact List.mem_singleton.mpr rfl
  · exact congrFun (zup2_q (by omega)) i
end ZFC
def zqcI (d : Nat) (FA : List (Nat × Nat)) (CA : List Nat) (FR : List (Nat × Nat)) (CR : List Nat) (M : zMem) (P : Int → zMem → Prop) : Option Value → zMem → Prop := fun r N => ∃ v : Int, r = some (.int (Int32.ofInt v)) ∧ zn32 v ∧ zFc d FA CA FR CR M N ∧ P v N
def zqcJ (d : Nat) (FA : List (Nat × Nat)) (CA : List Nat) (FR : List (Nat × Nat)) (CR : List Nat) (M : zMem) (P : Int → zMem → Prop) : Option Value → zMem → Prop := fun r N => ∃ v : Int, r = some (.long (Int64.ofInt v)) ∧ zn64 v ∧ zFc d FA CA FR CR M N ∧ P v N
def zqcV (d : Nat) (FA : List (Nat × Nat)) (CA : List Nat) (FR : List (Nat × Nat)) (CR : List Nat) (M : zMem) (P : zMem → Prop) : Option Value → zMem → Prop := fun r N => r = none ∧ zFc d FA CA FR CR M N ∧ P N
section ZKR
variable {l : Launch} {k : zMeth} {X : Nat × Nat} {M : zMem} {pc : Nat} {L : List (Option Value)} {S : List Value} {Q : Option Value → zMem → Prop} {a b : Int} {d : Nat}
theorem zk_getI {ix ci j q : Nat} (hF : zFL (zo k) ix ci j) (hg : zG ci j = 0) (hk : (zsh M q).1 = ci + 3) (hd : decode (zb k) pc = .ok (.getfield ix, 3)) (kk : zW l k X M (pc + 3) L (.int (Int32.ofInt (ze M q j)) :: S) Q) : zW l k X M pc L (.ref q :: S) Q :=
  zw_getI hF hg hk hd (by rw [ze_of]; exact kk)
theorem zk_putR {ix ci j o : Nat} {v : Int} (ho : o < 38) (hF : zFL (zo k) ix ci j) (hfin : (zT ci j).2.2.2 = false) (hg : zG ci j = 0) (hk : (zsh M (d + o)).1 = ci + 3) (hv : zn32 v) (hn : narrow (zY ci j) (.int (Int32.ofInt v)) = .int (Int32.ofInt v)) (hft : fits (zY ci j) (.int (Int32.ofInt v)) = true) (hd : decode (zb k) pc = .ok (.putfield ix, 3)) (kk : ∀ N : zMem, zFc d [] [] [(o, j)] [] M N → ze N (d + o) j = v → zW l k X N (pc + 3) L S Q) : zW l k X M pc L (.int (Int32.ofInt v) :: .ref (d + o) :: S) Q :=
  zw_putI hF hfin hg hk hn hft hd (kk _ (zFc.pR ho) (zs_get rfl hv))
theorem zk_putA {ix ci j q : Nat} {v : Int} (hW : zKW d M) (ho : q < 5) (hF : zFL (zo k) ix ci j) (hfin : (zT ci j).2.2.2 = false) (hg : zG ci j = 0) (hk : (zsh M q).1 = ci + 3) (hv : zn32 v) (hn : narrow (zY ci j) (.int (Int32.ofInt v)) = .int (Int32.ofInt v)) (hft : fits (zY ci j) (.int (Int32.ofInt v)) = true) (hd : decode (zb k) pc = .ok (.putfield ix, 3)) (kk : ∀ N : zMem, zFc d [(q, j)] [] [] [] M N → ze N q j = v → zW l k X N (pc + 3) L S Q) : zW l k X M pc L (.int (Int32.ofInt v) :: .ref q :: S) Q :=
  zw_putI hF hfin hg hk hn hft hd (kk _ (zFc.pA hW ho) (zs_get rfl hv))
end ZKR
theorem zk_nmI {l : Launch} {k : zMeth} {X : Nat × Nat} {M : zMem} {pc : Nat} {L : List (Option Value)} {S : List Value} {Q : Option Value → zMem → Prop} {a : Int} (kk : ∀ v : Int, zn32 v → (zn32 a → v = a) → zW l k X M pc L (.int (Int32.ofInt v) :: S) Q) : zW l k X M pc L (.int (Int32.ofInt a) :: S) Q := by
  have h := kk (Int32.ofInt a).toInt (z32r _) (fun ha => z32 ha)
  rwa [Int32.ofInt_toInt] at h
theorem zk_nmJ {l : Launch} {k : zMeth} {X : Nat × Nat} {M : zMem} {pc : Nat} {L : List (Option Value)} {S : List Value} {Q : Option Value → zMem → Prop} {a : Int} (kk : ∀ v : Int, zn64 v → Int64.ofInt v = Int64.ofInt a → zW l k X M pc L (.long (Int64.ofInt v) :: S) Q) : zW l k X M pc L (.long (Int64.ofInt a) :: S) Q := by
  have h := kk (Int64.ofInt a).toInt (z64r _) (Int64.ofInt_toInt _)
  rwa [Int64.ofInt_toInt] at h
def zat (M : zMem) (r n : Nat) (x : Int) : Int := if 0 ≤ x ∧ x < n then ze M r x.toNat else 0
def zatJ (M : zMem) (r n : Nat) (x : Int) : Int := if 0 ≤ x ∧ x < n then zg M r x.toNat else 0
def zpt (M : zMem) (r n : Nat) (x v : Int) : zMem := if 0 ≤ x ∧ x < n then zsI M r x.toNat (Int32.ofInt v) else M
def zptJ (M : zMem) (r n : Nat) (x v : Int) : zMem := if 0 ≤ x ∧ x < n then zsJ M r x.toNat (Int64.ofInt v) else M
theorem zk_nI {n : Nat} (hn : n ≤ 65536) : nI n = Int32.ofInt (n : Int) := by
  unfold nI
  exact (Int32.ofInt_eq_ofNat).symm
theorem k_IntRow_at (l : Launch) (M : zMem) (q r n : Nat) (hk : (zsh M q).1 = 2 + 3) (hl : zf M q 0 = some r) (hr : zsh M r = (1, n)) (hn : n ≤ 65536) (x : Int) (hx : zn32 x) : zC l m_IntRow_at 0 0 [.ref q, .int (Int32.ofInt x)] M (fun v N => v = some (.int (Int32.ofInt (zat M r n x))) ∧ N = M) := by
  have hn32 : zn32 (n : Int) := ⟨by omega, by omega⟩
  refine zC_of (L0 := [some (.ref q), some (.int (Int32.ofInt x))]) md_IntRow_at (Nat.le_of_ble_eq_true rfl) rfl ?_ zQ0
  refine zw_iload_n (pc := 0) (n := 1) (x := Int32.ofInt x) rfl (zdal_p dlA_IntRow_at_23 (i := 0) rfl) ?_
  refine zr_if_lt (pc := 1) (tgt := 22) hx (by decide) (zdal_p dlA_IntRow_at_23 (i := 1) rfl) (fun hc_1 => ?_) (fun hc_1 => ?_)
  · refine zw_iconst (pc := 22) (v := Int32.ofInt 0) (by decide) (zdal_p dlA_IntRow_at_23 (i := 12) rfl) ?_
    refine zw_iret (S := []) (pc := 23) (ty := .int) rfl rfl (zdal_p dlA_IntRow_at_23 (i := 13) rfl) ⟨?_, rfl⟩
    unfold zat
    rw [if_neg (by omega)]
  · refine zw_iload_n (pc := 4) (n := 1) (x := Int32.ofInt x) rfl (zdal_p dlA_IntRow_at_23 (i := 2) rfl) ?_
    refine zw_aload_n (pc := 5) (n := 0) (x := q) rfl (zdal_p dlA_IntRow_at_23 (i := 3) rfl) ?_
    refine zw_getF (pc := 6) f_IntRow_13 rfl hk hl (zdal_p dlA_IntRow_at_23 (i := 4) rfl) ?_
    refine zw_alen (pc := 9) (Or.inl hr) (zdal_p dlA_IntRow_at_23 (i := 5) rfl) ?_
    rw [zk_nI hn]
    refine zr_icmp_ge (pc := 10) (tgt := 22) hx hn32 (by decide) (zdal_p dlA_IntRow_at_23 (i := 6) rfl) (fun hc_10 => ?_) (fun hc_10 => ?_)
    · refine zw_iconst (pc := 22) (v := Int32.ofInt 0) (by decide) (zdal_p dlA_IntRow_at_23 (i := 12) rfl) ?_
      refine zw_iret (S := []) (pc := 23) (ty := .int) rfl rfl (zdal_p dlA_IntRow_at_23 (i := 13) rfl) ⟨?_, rfl⟩
      unfold zat
      rw [if_neg (by omega)]
    · refine zw_aload_n (pc := 13) (n := 0) (x := q) rfl (zdal_p dlA_IntRow_at_23 (i := 7) rfl) ?_
      refine zw_getF (pc := 14) f_IntRow_13 rfl hk hl (zdal_p dlA_IntRow_at_23 (i := 8) rfl) ?_
      refine zw_iload_n (pc := 17) (n := 1) (x := Int32.ofInt x) rfl (zdal_p dlA_IntRow_at_23 (i := 9) rfl) ?_
      refine zr_iald (pc := 18) hr hn hc_1 hc_10 (zdal_p dlA_IntRow_at_23 (i := 10) rfl) ?_
      refine zw_goto (pc := 19) (tgt := 23) (by decide) (zdal_p dlA_IntRow_at_23 (i := 11) rfl) ?_
      refine zw_iret (S := []) (pc := 23) (ty := .int) rfl rfl (zdal_p dlA_IntRow_at_23 (i := 13) rfl) ⟨?_, rfl⟩
      unfold zat
      rw [if_pos ⟨hc_1, hc_10⟩]
theorem k_LongRow_at (l : Launch) (M : zMem) (q r n : Nat) (hk : (zsh M q).1 = 8 + 3) (hl : zf M q 0 = some r) (hr : zsh M r = (2, n)) (hn : n ≤ 65536) (x : Int) (hx : zn32 x) : zC l m_LongRow_at 0 0 [.ref q, .int (Int32.ofInt x)] M (fun v N => v = some (.long (Int64.ofInt (zatJ M r n x))) ∧ N = M) := by
  have hn32 : zn32 (n : Int) := ⟨by omega, by omega⟩
  refine zC_of (L0 := [some (.ref q), some (.int (Int32.ofInt x))]) md_LongRow_at (Nat.le_of_ble_eq_true rfl) rfl ?_ zQ0
  refine zw_iload_n (pc := 0) (n := 1) (x := Int32.ofInt x) rfl (zdal_p dlA_LongRow_at_129 (i := 0) rfl) ?_
  refine zr_if_lt (pc := 1) (tgt := 22) hx (by decide) (zdal_p dlA_LongRow_at_129 (i := 1) rfl) (fun hc_1 => ?_) (fun hc_1 => ?_)
  · refine zw_lconst (pc := 22) (v := Int64.ofInt 0) (by decide) (zdal_p dlA_LongRow_at_129 (i := 12) rfl) ?_
    refine zw_lret (S := []) (pc := 23) rfl (zdal_p dlA_LongRow_at_129 (i := 13) rfl) ⟨?_, rfl⟩
    unfold zatJ
    rw [if_neg (by omega)]
  · refine zw_iload_n (pc := 4) (n := 1) (x := Int32.ofInt x) rfl (zdal_p dlA_LongRow_at_129 (i := 2) rfl) ?_
    refine zw_aload_n (pc := 5) (n := 0) (x := q) rfl (zdal_p dlA_LongRow_at_129 (i := 3) rfl) ?_
    refine zw_getF (pc := 6) f_LongRow_13 rfl hk hl (zdal_p dlA_LongRow_at_129 (i := 4) rfl) ?_
    refine zw_alen (pc := 9) (Or.inr hr) (zdal_p dlA_LongRow_at_129 (i := 5) rfl) ?_
    rw [zk_nI hn]
    refine zr_icmp_ge (pc := 10) (tgt := 22) hx hn32 (by decide) (zdal_p dlA_LongRow_at_129 (i := 6) rfl) (fun hc_10 => ?_) (fun hc_10 => ?_)
    · refine zw_lconst (pc := 22) (v := Int64.ofInt 0) (by decide) (zdal_p dlA_LongRow_at_129 (i := 12) rfl) ?_
      refine zw_lret (S := []) (pc := 23) rfl (zdal_p dlA_LongRow_at_129 (i := 13) rfl) ⟨?_, rfl⟩
      unfold zatJ
      rw [if_neg (by omega)]
    · refine zw_aload_n (pc := 13) (n := 0) (x := q) rfl (zdal_p dlA_LongRow_at_129 (i := 7) rfl) ?_
      refine zw_getF (pc := 14) f_LongRow_13 rfl hk hl (zdal_p dlA_LongRow_at_129 (i := 8) rfl) ?_
      refine zw_iload_n (pc := 17) (n := 1) (x := Int32.ofInt x) rfl (zdal_p dlA_LongRow_at_129 (i := 9) rfl) ?_
      refine zr_lald (pc := 18) hr hn hc_1 hc_10 (zdal_p dlA_LongRow_at_129 (i := 10) rfl) ?_
      refine zw_goto (pc := 19) (tgt := 23) (by decide) (zdal_p dlA_LongRow_at_129 (i := 11) rfl) ?_
      refine zw_lret (S := []) (pc := 23) rfl (zdal_p dlA_LongRow_at_129 (i := 13) rfl) ⟨?_, rfl⟩
      unfold zatJ
      rw [if_pos ⟨hc_1, hc_10⟩]
theorem k_IntRow_put (l : Launch) (M : zMem) (q r n : Nat) (hk : (zsh M q).1 = 2 + 3) (hl : zf M q 0 = some r) (hr : zsh M r = (1, n)) (hn : n ≤ 65536) (x : Int) (hx : zn32 x) (v : Int) : zC l m_IntRow_put 0 0 [.ref q, .int (Int32.ofInt x), .int (Int32.ofInt v)] M (fun w N => w = none ∧ N = zpt M r n x v) := by
  have hn32 : zn32 (n : Int) := ⟨by omega, by omega⟩
  refine zC_of (L0 := [some (.ref q), some (.int (Int32.ofInt x)), some (.int (Int32.ofInt v))]) md_IntRow_put (Nat.le_of_ble_eq_true rfl) rfl ?_ zQ0
  refine zw_iload_n (pc := 0) (n := 1) (x := Int32.ofInt x) rfl (zdal_p dlA_IntRow_put_22 (i := 0) rfl) ?_
  refine zr_if_lt (pc := 1) (tgt := 20) hx (by decide) (zdal_p dlA_IntRow_put_22 (i := 1) rfl) (fun hc_1 => ?_) (fun hc_1 => ?_)
  · refine zw_vret (S := []) (pc := 20) rfl (zdal_p dlA_IntRow_put_22 (i := 12) rfl) ⟨rfl, ?_⟩
    unfold zpt
    rw [if_neg (by omega)]
  · refine zw_iload_n (pc := 4) (n := 1) (x := Int32.ofInt x) rfl (zdal_p dlA_IntRow_put_22 (i := 2) rfl) ?_
    refine zw_aload_n (pc := 5) (n := 0) (x := q) rfl (zdal_p dlA_IntRow_put_22 (i := 3) rfl) ?_
    refine zw_getF (pc := 6) f_IntRow_13 rfl hk hl (zdal_p dlA_IntRow_put_22 (i := 4) rfl) ?_
    refine zw_alen (pc := 9) (Or.inl hr) (zdal_p dlA_IntRow_put_22 (i := 5) rfl) ?_
    rw [zk_nI hn]
    refine zr_icmp_ge (pc := 10) (tgt := 20) hx hn32 (by decide) (zdal_p dlA_IntRow_put_22 (i := 6) rfl) (fun hc_10 => ?_) (fun hc_10 => ?_)
    · refine zw_vret (S := []) (pc := 20) rfl (zdal_p dlA_IntRow_put_22 (i := 12) rfl) ⟨rfl, ?_⟩
      unfold zpt
      rw [if_neg (by omega)]
    · obtain ⟨g1, g2⟩ := z_rin hc_1 hc_10 hn
      refine zw_aload_n (pc := 13) (n := 0) (x := q) rfl (zdal_p dlA_IntRow_put_22 (i := 7) rfl) ?_
      refine zw_getF (pc := 14) f_IntRow_13 rfl hk hl (zdal_p dlA_IntRow_put_22 (i := 8) rfl) ?_
      refine zw_iload_n (pc := 17) (n := 1) (x := Int32.ofInt x) rfl (zdal_p dlA_IntRow_put_22 (i := 9) rfl) ?_
      refine zw_iload_n (pc := 18) (n := 2) (x := Int32.ofInt v) rfl (zdal_p dlA_IntRow_put_22 (i := 10) rfl) ?_
      refine zw_iast (pc := 19) hr g1 (zdal_p dlA_IntRow_put_22 (i := 11) rfl) ?_
      rw [g2]
      refine zw_vret (S := []) (pc := 20) rfl (zdal_p dlA_IntRow_put_22 (i := 12) rfl) ⟨rfl, ?_⟩
      unfold zpt
      rw [if_pos ⟨hc_1, hc_10⟩]
theorem k_LongRow_put (l : Launch) (M : zMem) (q r n : Nat) (hk : (zsh M q).1 = 8 + 3) (hl : zf M q 0 = some r) (hr : zsh M r = (2, n)) (hn : n ≤ 65536) (x : Int) (hx : zn32 x) (v : Int) : zC l m_LongRow_put 0 0 [.ref q, .int (Int32.ofInt x), .long (Int64.ofInt v)] M (fun w N => w = none ∧ N = zptJ M r n x v) := by
  have hn32 : zn32 (n : Int) := ⟨by omega, by omega⟩
  refine zC_of (L0 := [some (.ref q), some (.int (Int32.ofInt x)), some (.long (Int64.ofInt v)), none]) md_LongRow_put (Nat.le_of_ble_eq_true rfl) rfl ?_ zQ0
  refine zw_iload_n (pc := 0) (n := 1) (x := Int32.ofInt x) rfl (zdal_p dlA_LongRow_put_62 (i := 0) rfl) ?_
  refine zr_if_lt (pc := 1) (tgt := 20) hx (by decide) (zdal_p dlA_LongRow_put_62 (i := 1) rfl) (fun hc_1 => ?_) (fun hc_1 => ?_)
  · refine zw_vret (S := []) (pc := 20) rfl (zdal_p dlA_LongRow_put_62 (i := 12) rfl) ⟨rfl, ?_⟩
    unfold zptJ
    rw [if_neg (by omega)]
  · refine zw_iload_n (pc := 4) (n := 1) (x := Int32.ofInt x) rfl (zdal_p dlA_LongRow_put_62 (i := 2) rfl) ?_
    refine zw_aload_n (pc := 5) (n := 0) (x := q) rfl (zdal_p dlA_LongRow_put_62 (i := 3) rfl) ?_
    refine zw_getF (pc := 6) f_LongRow_13 rfl hk hl (zdal_p dlA_LongRow_put_62 (i := 4) rfl) ?_
    refine zw_alen (pc := 9) (Or.inr hr) (zdal_p dlA_LongRow_put_62 (i := 5) rfl) ?_
    rw [zk_nI hn]
    refine zr_icmp_ge (pc := 10) (tgt := 20) hx hn32 (by decide) (zdal_p dlA_LongRow_put_62 (i := 6) rfl) (fun hc_10 => ?_) (fun hc_10 => ?_)
    · refine zw_vret (S := []) (pc := 20) rfl (zdal_p dlA_LongRow_put_62 (i := 12) rfl) ⟨rfl, ?_⟩
      unfold zptJ
      rw [if_neg (by omega)]
    · obtain ⟨g1, g2⟩ := z_rin hc_1 hc_10 hn
      refine zw_aload_n (pc := 13) (n := 0) (x := q) rfl (zdal_p dlA_LongRow_put_62 (i := 7) rfl) ?_
      refine zw_getF (pc := 14) f_LongRow_13 rfl hk hl (zdal_p dlA_LongRow_put_62 (i := 8) rfl) ?_
      refine zw_iload_n (pc := 17) (n := 1) (x := Int32.ofInt x) rfl (zdal_p dlA_LongRow_put_62 (i := 9) rfl) ?_
      refine zw_lload_n (pc := 18) (n := 2) (x := Int64.ofInt v) rfl (zdal_p dlA_LongRow_put_62 (i := 10) rfl) ?_
      refine zw_last (pc := 19) hr g1 (zdal_p dlA_LongRow_put_62 (i := 11) rfl) ?_
      rw [g2]
      refine zw_vret (S := []) (pc := 20) rfl (zdal_p dlA_LongRow_put_62 (i := 12) rfl) ⟨rfl, ?_⟩
      unfold zptJ
      rw [if_pos ⟨hc_1, hc_10⟩]
section ZKC
variable {l : Launch} {k : zMeth} {X : Nat × Nat} {M : zMem} {pc : Nat} {L : List (Option Value)} {S : List Value} {Q : Option Value → zMem → Prop} {a b : Int} {d : Nat}
theorem zk_callV (hX : zn M ≤ X.1 ∧ zw M ≤ X.2) {k' : zMeth} {Q' : Option Value → zMem → Prop} {ix q : Nat} (vs rest : List Value) (hl' : zMLV (zo k) ix k') (hC : zC l k' 0 0 (.ref q :: vs) M Q') (hS : S = vs.reverse ++ .ref q :: rest) (hn : vs.length = zna k') (hb : (zsh M q).1 = zo k' + 3) (h12 : zo k' < 12) (hR : zF k' + 1 ≤ zF k ∧ 8 + (zl k' + 11) + zLo k' ≤ zLo k) (hc8 : (rest.map fun v => v.category).sum ≤ 8) (hd : decode (zb k) pc = .ok (.invokevirtual ix, 3))
    (kk : ∀ (r : Option Value) (M' : zMem), Q' r M' → zW l k X M' (pc + 3) L (r.toList ++ rest) Q) : zW l k X M pc L S Q :=
  zw_callV vs rest hl' hC hS hn hb h12 hR hX hc8 hd (fun r M' h _ _ => kk r M' h)
theorem zk_at (hX : zn M ≤ X.1 ∧ zw M ≤ X.2) {ix q r n : Nat} {x : Int} (hl' : zMLV (zo k) ix m_IntRow_at) (hk : (zsh M q).1 = 2 + 3) (hl : zf M q 0 = some r) (hr : zsh M r = (1, n)) (hn : n ≤ 65536) (h0 : 0 ≤ x) (h1 : x < n) (hR : zF m_IntRow_at + 1 ≤ zF k ∧ 8 + (zl m_IntRow_at + 11) + zLo m_IntRow_at ≤ zLo k) (hc8 : (S.map fun v => v.category).sum ≤ 8) (hd : decode (zb k) pc = .ok (.invokevirtual ix, 3))
    (kk : ∀ v : Int, v = ze M r x.toNat → -2147483648 ≤ v → v < 2147483648 → zW l k X M (pc + 3) L (.int (Int32.ofInt v) :: S) Q) : zW l k X M pc L (.int (Int32.ofInt x) :: .ref q :: S) Q := by
  refine zk_callV hX [.int (Int32.ofInt x)] S hl' (k_IntRow_at l M q r n hk hl hr hn x ⟨by omega, by omega⟩) rfl rfl hk (by decide) hR hc8 hd ?_
  rintro _ N1_ ⟨rfl, e1_⟩
  rw [e1_]
  have e : zat M r n x = ze M r x.toNat := by
    unfold zat
    rw [if_pos ⟨h0, h1⟩]
  rw [e]
  exact kk _ rfl (ze_r M r _).1 (ze_r M r _).2
theorem zk_atG (hX : zn M ≤ X.1 ∧ zw M ≤ X.2) {ix q r n : Nat} {x : Int} (hl' : zMLV (zo k) ix m_IntRow_at) (hk : (zsh M q).1 = 2 + 3) (hl : zf M q 0 = some r) (hr : zsh M r = (1, n)) (hn : n ≤ 65536) (hx : zn32 x) (hR : zF m_IntRow_at + 1 ≤ zF k ∧ 8 + (zl m_IntRow_at + 11) + zLo m_IntRow_at ≤ zLo k) (hc8 : (S.map fun v => v.category).sum ≤ 8) (hd : decode (zb k) pc = .ok (.invokevirtual ix, 3))
    (kk : ∀ v : Int, v = zat M r n x → -2147483648 ≤ v → v < 2147483648 → zW l k X M (pc + 3) L (.int (Int32.ofInt v) :: S) Q) : zW l k X M pc L (.int (Int32.ofInt x) :: .ref q :: S) Q := by
  refine zk_callV hX [.int (Int32.ofInt x)] S hl' (k_IntRow_at l M q r n hk hl hr hn x hx) rfl rfl hk (by decide) hR hc8 hd ?_
  rintro _ N1_ ⟨rfl, e1_⟩
  rw [e1_]
  have e : -2147483648 ≤ zat M r n x ∧ zat M r n x < 2147483648 := by
    unfold zat
    split
    · exact ze_r M r _
    · omega
  exact kk _ rfl e.1 e.2
theorem zk_atJ (hX : zn M ≤ X.1 ∧ zw M ≤ X.2) {ix q r n : Nat} {x : Int} (hl' : zMLV (zo k) ix m_LongRow_at) (hk : (zsh M q).1 = 8 + 3) (hl : zf M q 0 = some r) (hr : zsh M r = (2, n)) (hn : n ≤ 65536) (h0 : 0 ≤ x) (h1 : x < n) (hR : zF m_LongRow_at + 1 ≤ zF k ∧ 8 + (zl m_LongRow_at + 11) + zLo m_LongRow_at ≤ zLo k) (hc8 : (S.map fun v => v.category).sum ≤ 8) (hd : decode (zb k) pc = .ok (.invokevirtual ix, 3))
    (kk : ∀ v : Int, v = zg M r x.toNat → -9223372036854775808 ≤ v → v < 9223372036854775808 → zW l k X M (pc + 3) L (.long (Int64.ofInt v) :: S) Q) : zW l k X M pc L (.int (Int32.ofInt x) :: .ref q :: S) Q := by
  refine zk_callV hX [.int (Int32.ofInt x)] S hl' (k_LongRow_at l M q r n hk hl hr hn x ⟨by omega, by omega⟩) rfl rfl hk (by decide) hR hc8 hd ?_
  rintro _ N1_ ⟨rfl, e1_⟩
  rw [e1_]
  have e : zatJ M r n x = zg M r x.toNat := by
    unfold zatJ
    rw [if_pos ⟨h0, h1⟩]
  rw [e]
  exact kk _ rfl (zg_r M r _).1 (zg_r M r _).2
theorem zk_st (hX : zn M ≤ X.1 ∧ zw M ≤ X.2) {ix q o n : Nat} {x v : Int} (ho : o < 38) (hl' : zMLV (zo k) ix m_IntRow_put) (hk : (zsh M q).1 = 2 + 3) (hl : zf M q 0 = some (d + o)) (hr : zsh M (d + o) = (1, n)) (hn : n ≤ 65536) (h0 : 0 ≤ x) (h1 : x < n) (hR : zF m_IntRow_put + 1 ≤ zF k ∧ 8 + (zl m_IntRow_put + 11) + zLo m_IntRow_put ≤ zLo k) (hc8 : (S.map fun v => v.category).sum ≤ 8) (hd : decode (zb k) pc = .ok (.invokevirtual ix, 3))
    (kk : ∀ N : zMem, N = zsI M (d + o) x.toNat (Int32.ofInt v) → zFc d [] [] [] [o] M N → zW l k X N (pc + 3) L S Q) : zW l k X M pc L (.int (Int32.ofInt v) :: .int (Int32.ofInt x) :: .ref q :: S) Q := by
  refine zk_callV hX [.int (Int32.ofInt x), .int (Int32.ofInt v)] S hl' (k_IntRow_put l M q (d + o) n hk hl hr hn x ⟨by omega, by omega⟩ v) rfl rfl hk (by decide) hR hc8 hd ?_
  rintro _ _ ⟨rfl, rfl⟩
  have e : zpt M (d + o) n x v = zsI M (d + o) x.toNat (Int32.ofInt v) := by
    unfold zpt
    rw [if_pos ⟨h0, h1⟩]
  rw [e]
  exact kk _ rfl (zFc.sR ho)
theorem zk_stA (hX : zn M ≤ X.1 ∧ zw M ≤ X.2) (hW : zKW d M) {ix q r n : Nat} {x v : Int} (ho : r < 5) (hl' : zMLV (zo k) ix m_IntRow_put) (hk : (zsh M q).1 = 2 + 3) (hl : zf M q 0 = some r) (hr : zsh M r = (1, n)) (hn : n ≤ 65536) (h0 : 0 ≤ x) (h1 : x < n) (hR : zF m_IntRow_put + 1 ≤ zF k ∧ 8 + (zl m_IntRow_put + 11) + zLo m_IntRow_put ≤ zLo k) (hc8 : (S.map fun v => v.category).sum ≤ 8) (hd : decode (zb k) pc = .ok (.invokevirtual ix, 3))
    (kk : ∀ N : zMem, N = zsI M r x.toNat (Int32.ofInt v) → zFc d [] [r] [] [] M N → zW l k X N (pc + 3) L S Q) : zW l k X M pc L (.int (Int32.ofInt v) :: .int (Int32.ofInt x) :: .ref q :: S) Q := by
  refine zk_callV hX [.int (Int32.ofInt x), .int (Int32.ofInt v)] S hl' (k_IntRow_put l M q r n hk hl hr hn x ⟨by omega, by omega⟩ v) rfl rfl hk (by decide) hR hc8 hd ?_
  rintro _ _ ⟨rfl, rfl⟩
  have e : zpt M r n x v = zsI M r x.toNat (Int32.ofInt v) := by
    unfold zpt
    rw [if_pos ⟨h0, h1⟩]
  rw [e]
  exact kk _ rfl (zFc.sA hW ho)
theorem zk_stJ (hX : zn M ≤ X.1 ∧ zw M ≤ X.2) {ix q o n : Nat} {x v : Int} (ho : o < 38) (hl' : zMLV (zo k) ix m_LongRow_put) (hk : (zsh M q).1 = 8 + 3) (hl : zf M q 0 = some (d + o)) (hr : zsh M (d + o) = (2, n)) (hn : n ≤ 65536) (h0 : 0 ≤ x) (h1 : x < n) (hR : zF m_LongRow_put + 1 ≤ zF k ∧ 8 + (zl m_LongRow_put + 11) + zLo m_LongRow_put ≤ zLo k) (hc8 : (S.map fun v => v.category).sum ≤ 8) (hd : decode (zb k) pc = .ok (.invokevirtual ix, 3))
    (kk : ∀ N : zMem, N = zsJ M (d + o) x.toNat (Int64.ofInt v) → zFc d [] [] [] [o] M N → zW l k X N (pc + 3) L S Q) : zW l k X M pc L (.long (Int64.ofInt v) :: .int (Int32.ofInt x) :: .ref q :: S) Q := by
  refine zk_callV hX [.int (Int32.ofInt x), .long (Int64.ofInt v)] S hl' (k_LongRow_put l M q (d + o) n hk hl hr hn x ⟨by omega, by omega⟩ v) rfl rfl hk (by decide) hR hc8 hd ?_
  rintro _ _ ⟨rfl, rfl⟩
  have e : zptJ M (d + o) n x v = zsJ M (d + o) x.toNat (Int64.ofInt v) := by
    unfold zptJ
    rw [if_pos ⟨h0, h1⟩]
  rw [e]
  exact kk _ rfl (zFc.sRJ ho)
theorem zk_iret {FA : List (Nat × Nat)} {CA : List Nat} {FR : List (Nat × Nat)} {CR : List Nat} {M0 : zMem} {P : Int → zMem → Prop} {ty : FieldType} (hr : zr k = some ty) (hn : narrow ty (.int (Int32.ofInt a)) = .int (Int32.ofInt a)) (ha : zn32 a) (hf : zFc d FA CA FR CR M0 M) (hP : P a M) (hd : decode (zb k) pc = .ok (.ireturn, 1)) : zW l k X M pc L [.int (Int32.ofInt a)] (zqcI d FA CA FR CR M0 P) := zw_iret (S := []) hr hn hd ⟨a, rfl, ha, hf, hP⟩
theorem zk_lret {FA : List (Nat × Nat)} {CA : List Nat} {FR : List (Nat × Nat)} {CR : List Nat} {M0 : zMem} {P : Int → zMem → Prop} (hr : zr k = some .long) (ha : zn64 a) (hf : zFc d FA CA FR CR M0 M) (hP : P a M) (hd : decode (zb k) pc = .ok (.lreturn, 1)) : zW l k X M pc L [.long (Int64.ofInt a)] (zqcJ d FA CA FR CR M0 P) := zw_lret (S := []) hr hd ⟨a, rfl, ha, hf, hP⟩
theorem zk_vret {FA : List (Nat × Nat)} {CA : List Nat} {FR : List (Nat × Nat)} {CR : List Nat} {M0 : zMem} {P : zMem → Prop} (hr : zr k = none) (hf : zFc d FA CA FR CR M0 M) (hP : P M) (hd : decode (zb k) pc = .ok (.return_, 1)) : zW l k X M pc L [] (zqcV d FA CA FR CR M0 P) := zw_vret (S := []) hr hd ⟨rfl, hf, hP⟩
end ZKC
