theorem zw_al (M : zMem) (t n : Nat) : zw (zal M t n) = zw M + n := rfl
theorem zn_al (M : zMem) (t n : Nat) : zn (zal M t n) = zn M + 1 := rfl
theorem zw_sF (M : zMem) (q j : Nat) (v : Option Nat) : zw (zsF M q j v) = zw M := rfl
theorem zn_sF (M : zMem) (q j : Nat) (v : Option Nat) : zn (zsF M q j v) = zn M := rfl
def zMtab : List (Nat × Nat × Nat × Nat) := [(0, 82, 1, 700), (15, 83, 1, 24), (19, 84, 1, 24), (21, 85, 1, 144), (22, 86, 1, 6), (23, 87, 1, 576), (24, 88, 1, 24), (27, 89, 1, 128), (28, 90, 1, 128), (29, 91, 1, 64), (30, 92, 1, 64), (31, 93, 1, 4096), (32, 94, 1, 1536), (33, 95, 2, 2560), (34, 96, 2, 64), (35, 97, 2, 64), (36, 98, 2, 64), (37, 99, 2, 64), (40, 100, 1, 80), (44, 101, 2, 8), (45, 102, 2, 512), (46, 103, 2, 8), (47, 104, 2, 512), (48, 105, 2, 64), (49, 106, 1, 128), (50, 107, 2, 64), (51, 108, 2, 64), (54, 109, 1, 24), (56, 110, 1, 65536), (59, 111, 2, 768), (61, 112, 1, 6), (62, 113, 1, 7)]
def zMt (M : zMem) : Prop := zn M = 114 ∧ (zsh M 81).1 = 14 ∧ ∀ e ∈ zMtab, zf M 81 e.1 = some e.2.1 ∧ zsh M e.2.1 = (e.2.2.1, e.2.2.2)
def zmk_1 (M : zMem) : zMem := zsF (zal M 1 700) 81 0 (some (zn M))
def zmk_2 (M : zMem) : zMem := zsI (zmk_1 M) 81 8 (-1)
def zmk_3 (M : zMem) : zMem := zsI (zmk_2 M) 81 10 (-1)
def zmk_4 (M : zMem) : zMem := zsF (zal (zmk_3 M) 1 24) 81 15 (some (zn (zmk_3 M)))
def zmk_5 (M : zMem) : zMem := zsF (zal (zmk_4 M) 1 24) 81 19 (some (zn (zmk_4 M)))
def zmk_6 (M : zMem) : zMem := zsF (zal (zmk_5 M) 1 144) 81 21 (some (zn (zmk_5 M)))
def zmk_7 (M : zMem) : zMem := zsF (zal (zmk_6 M) 1 6) 81 22 (some (zn (zmk_6 M)))
def zmk_8 (M : zMem) : zMem := zsF (zal (zmk_7 M) 1 576) 81 23 (some (zn (zmk_7 M)))
def zmk_9 (M : zMem) : zMem := zsF (zal (zmk_8 M) 1 24) 81 24 (some (zn (zmk_8 M)))
def zmk_10 (M : zMem) : zMem := zsF (zal (zmk_9 M) 1 128) 81 27 (some (zn (zmk_9 M)))
def zmk_11 (M : zMem) : zMem := zsF (zal (zmk_10 M) 1 128) 81 28 (some (zn (zmk_10 M)))
def zmk_12 (M : zMem) : zMem := zsF (zal (zmk_11 M) 1 64) 81 29 (some (zn (zmk_11 M)))
def zmk_13 (M : zMem) : zMem := zsF (zal (zmk_12 M) 1 64) 81 30 (some (zn (zmk_12 M)))
def zmk_14 (M : zMem) : zMem := zsF (zal (zmk_13 M) 1 4096) 81 31 (some (zn (zmk_13 M)))
def zmk_15 (M : zMem) : zMem := zsF (zal (zmk_14 M) 1 1536) 81 32 (some (zn (zmk_14 M)))
def zmk_16 (M : zMem) : zMem := zsF (zal (zmk_15 M) 2 2560) 81 33 (some (zn (zmk_15 M)))
def zmk_17 (M : zMem) : zMem := zsF (zal (zmk_16 M) 2 64) 81 34 (some (zn (zmk_16 M)))
def zmk_18 (M : zMem) : zMem := zsF (zal (zmk_17 M) 2 64) 81 35 (some (zn (zmk_17 M)))
def zmk_19 (M : zMem) : zMem := zsF (zal (zmk_18 M) 2 64) 81 36 (some (zn (zmk_18 M)))
def zmk_20 (M : zMem) : zMem := zsF (zal (zmk_19 M) 2 64) 81 37 (some (zn (zmk_19 M)))
def zmk_21 (M : zMem) : zMem := zsF (zal (zmk_20 M) 1 80) 81 40 (some (zn (zmk_20 M)))
def zmk_22 (M : zMem) : zMem := zsF (zal (zmk_21 M) 2 8) 81 44 (some (zn (zmk_21 M)))
def zmk_23 (M : zMem) : zMem := zsF (zal (zmk_22 M) 2 512) 81 45 (some (zn (zmk_22 M)))
def zmk_24 (M : zMem) : zMem := zsF (zal (zmk_23 M) 2 8) 81 46 (some (zn (zmk_23 M)))
def zmk_25 (M : zMem) : zMem := zsF (zal (zmk_24 M) 2 512) 81 47 (some (zn (zmk_24 M)))
def zmk_26 (M : zMem) : zMem := zsF (zal (zmk_25 M) 2 64) 81 48 (some (zn (zmk_25 M)))
def zmk_27 (M : zMem) : zMem := zsF (zal (zmk_26 M) 1 128) 81 49 (some (zn (zmk_26 M)))
def zmk_28 (M : zMem) : zMem := zsF (zal (zmk_27 M) 2 64) 81 50 (some (zn (zmk_27 M)))
def zmk_29 (M : zMem) : zMem := zsF (zal (zmk_28 M) 2 64) 81 51 (some (zn (zmk_28 M)))
def zmk_30 (M : zMem) : zMem := zsF (zal (zmk_29 M) 1 24) 81 54 (some (zn (zmk_29 M)))
def zmk_31 (M : zMem) : zMem := zsF (zal (zmk_30 M) 1 65536) 81 56 (some (zn (zmk_30 M)))
def zmk_32 (M : zMem) : zMem := zsF (zal (zmk_31 M) 2 768) 81 59 (some (zn (zmk_31 M)))
def zmk_33 (M : zMem) : zMem := zsF (zal (zmk_32 M) 1 6) 81 61 (some (zn (zmk_32 M)))
def zmk_34 (M : zMem) : zMem := zsF (zal (zmk_33 M) 1 7) 81 62 (some (zn (zmk_33 M)))
def zmk_35 (M : zMem) : zMem := zsI (zmk_34 M) 81 12 1
def zmk (M : zMem) : zMem := zmk_35 M
theorem zmk_nw (M : zMem) : zn (zmk M) = zn M + 32 ∧ zw (zmk M) = zw M + 78111 := by
  have a1 : zn (zmk_1 M) = zn M + 1 := (zn_sF (zal M 1 700) 81 0 _).trans (zn_al M 1 700)
  have b1 : zw (zmk_1 M) = zw M + 700 := (zw_sF (zal M 1 700) 81 0 _).trans (zw_al M 1 700)
  have a2 : zn (zmk_2 M) = zn (zmk_1 M) := rfl
  have b2 : zw (zmk_2 M) = zw (zmk_1 M) := rfl
  have a3 : zn (zmk_3 M) = zn (zmk_2 M) := rfl
  have b3 : zw (zmk_3 M) = zw (zmk_2 M) := rfl
  have a4 : zn (zmk_4 M) = zn (zmk_3 M) + 1 := (zn_sF (zal (zmk_3 M) 1 24) 81 15 _).trans (zn_al (zmk_3 M) 1 24)
  have b4 : zw (zmk_4 M) = zw (zmk_3 M) + 24 := (zw_sF (zal (zmk_3 M) 1 24) 81 15 _).trans (zw_al (zmk_3 M) 1 24)
  have a5 : zn (zmk_5 M) = zn (zmk_4 M) + 1 := (zn_sF (zal (zmk_4 M) 1 24) 81 19 _).trans (zn_al (zmk_4 M) 1 24)
  have b5 : zw (zmk_5 M) = zw (zmk_4 M) + 24 := (zw_sF (zal (zmk_4 M) 1 24) 81 19 _).trans (zw_al (zmk_4 M) 1 24)
  have a6 : zn (zmk_6 M) = zn (zmk_5 M) + 1 := (zn_sF (zal (zmk_5 M) 1 144) 81 21 _).trans (zn_al (zmk_5 M) 1 144)
  have b6 : zw (zmk_6 M) = zw (zmk_5 M) + 144 := (zw_sF (zal (zmk_5 M) 1 144) 81 21 _).trans (zw_al (zmk_5 M) 1 144)
  have a7 : zn (zmk_7 M) = zn (zmk_6 M) + 1 := (zn_sF (zal (zmk_6 M) 1 6) 81 22 _).trans (zn_al (zmk_6 M) 1 6)
  have b7 : zw (zmk_7 M) = zw (zmk_6 M) + 6 := (zw_sF (zal (zmk_6 M) 1 6) 81 22 _).trans (zw_al (zmk_6 M) 1 6)
  have a8 : zn (zmk_8 M) = zn (zmk_7 M) + 1 := (zn_sF (zal (zmk_7 M) 1 576) 81 23 _).trans (zn_al (zmk_7 M) 1 576)
  have b8 : zw (zmk_8 M) = zw (zmk_7 M) + 576 := (zw_sF (zal (zmk_7 M) 1 576) 81 23 _).trans (zw_al (zmk_7 M) 1 576)
  have a9 : zn (zmk_9 M) = zn (zmk_8 M) + 1 := (zn_sF (zal (zmk_8 M) 1 24) 81 24 _).trans (zn_al (zmk_8 M) 1 24)
  have b9 : zw (zmk_9 M) = zw (zmk_8 M) + 24 := (zw_sF (zal (zmk_8 M) 1 24) 81 24 _).trans (zw_al (zmk_8 M) 1 24)
  have a10 : zn (zmk_10 M) = zn (zmk_9 M) + 1 := (zn_sF (zal (zmk_9 M) 1 128) 81 27 _).trans (zn_al (zmk_9 M) 1 128)
  have b10 : zw (zmk_10 M) = zw (zmk_9 M) + 128 := (zw_sF (zal (zmk_9 M) 1 128) 81 27 _).trans (zw_al (zmk_9 M) 1 128)
  have a11 : zn (zmk_11 M) = zn (zmk_10 M) + 1 := (zn_sF (zal (zmk_10 M) 1 128) 81 28 _).trans (zn_al (zmk_10 M) 1 128)
  have b11 : zw (zmk_11 M) = zw (zmk_10 M) + 128 := (zw_sF (zal (zmk_10 M) 1 128) 81 28 _).trans (zw_al (zmk_10 M) 1 128)
  have a12 : zn (zmk_12 M) = zn (zmk_11 M) + 1 := (zn_sF (zal (zmk_11 M) 1 64) 81 29 _).trans (zn_al (zmk_11 M) 1 64)
  have b12 : zw (zmk_12 M) = zw (zmk_11 M) + 64 := (zw_sF (zal (zmk_11 M) 1 64) 81 29 _).trans (zw_al (zmk_11 M) 1 64)
  have a13 : zn (zmk_13 M) = zn (zmk_12 M) + 1 := (zn_sF (zal (zmk_12 M) 1 64) 81 30 _).trans (zn_al (zmk_12 M) 1 64)
  have b13 : zw (zmk_13 M) = zw (zmk_12 M) + 64 := (zw_sF (zal (zmk_12 M) 1 64) 81 30 _).trans (zw_al (zmk_12 M) 1 64)
  have a14 : zn (zmk_14 M) = zn (zmk_13 M) + 1 := (zn_sF (zal (zmk_13 M) 1 4096) 81 31 _).trans (zn_al (zmk_13 M) 1 4096)
  have b14 : zw (zmk_14 M) = zw (zmk_13 M) + 4096 := (zw_sF (zal (zmk_13 M) 1 4096) 81 31 _).trans (zw_al (zmk_13 M) 1 4096)
  have a15 : zn (zmk_15 M) = zn (zmk_14 M) + 1 := (zn_sF (zal (zmk_14 M) 1 1536) 81 32 _).trans (zn_al (zmk_14 M) 1 1536)
  have b15 : zw (zmk_15 M) = zw (zmk_14 M) + 1536 := (zw_sF (zal (zmk_14 M) 1 1536) 81 32 _).trans (zw_al (zmk_14 M) 1 1536)
  have a16 : zn (zmk_16 M) = zn (zmk_15 M) + 1 := (zn_sF (zal (zmk_15 M) 2 2560) 81 33 _).trans (zn_al (zmk_15 M) 2 2560)
  have b16 : zw (zmk_16 M) = zw (zmk_15 M) + 2560 := (zw_sF (zal (zmk_15 M) 2 2560) 81 33 _).trans (zw_al (zmk_15 M) 2 2560)
  have a17 : zn (zmk_17 M) = zn (zmk_16 M) + 1 := (zn_sF (zal (zmk_16 M) 2 64) 81 34 _).trans (zn_al (zmk_16 M) 2 64)
  have b17 : zw (zmk_17 M) = zw (zmk_16 M) + 64 := (zw_sF (zal (zmk_16 M) 2 64) 81 34 _).trans (zw_al (zmk_16 M) 2 64)
  have a18 : zn (zmk_18 M) = zn (zmk_17 M) + 1 := (zn_sF (zal (zmk_17 M) 2 64) 81 35 _).trans (zn_al (zmk_17 M) 2 64)
  have b18 : zw (zmk_18 M) = zw (zmk_17 M) + 64 := (zw_sF (zal (zmk_17 M) 2 64) 81 35 _).trans (zw_al (zmk_17 M) 2 64)
  have a19 : zn (zmk_19 M) = zn (zmk_18 M) + 1 := (zn_sF (zal (zmk_18 M) 2 64) 81 36 _).trans (zn_al (zmk_18 M) 2 64)
  have b19 : zw (zmk_19 M) = zw (zmk_18 M) + 64 := (zw_sF (zal (zmk_18 M) 2 64) 81 36 _).trans (zw_al (zmk_18 M) 2 64)
  have a20 : zn (zmk_20 M) = zn (zmk_19 M) + 1 := (zn_sF (zal (zmk_19 M) 2 64) 81 37 _).trans (zn_al (zmk_19 M) 2 64)
  have b20 : zw (zmk_20 M) = zw (zmk_19 M) + 64 := (zw_sF (zal (zmk_19 M) 2 64) 81 37 _).trans (zw_al (zmk_19 M) 2 64)
  have a21 : zn (zmk_21 M) = zn (zmk_20 M) + 1 := (zn_sF (zal (zmk_20 M) 1 80) 81 40 _).trans (zn_al (zmk_20 M) 1 80)
  have b21 : zw (zmk_21 M) = zw (zmk_20 M) + 80 := (zw_sF (zal (zmk_20 M) 1 80) 81 40 _).trans (zw_al (zmk_20 M) 1 80)
  have a22 : zn (zmk_22 M) = zn (zmk_21 M) + 1 := (zn_sF (zal (zmk_21 M) 2 8) 81 44 _).trans (zn_al (zmk_21 M) 2 8)
  have b22 : zw (zmk_22 M) = zw (zmk_21 M) + 8 := (zw_sF (zal (zmk_21 M) 2 8) 81 44 _).trans (zw_al (zmk_21 M) 2 8)
  have a23 : zn (zmk_23 M) = zn (zmk_22 M) + 1 := (zn_sF (zal (zmk_22 M) 2 512) 81 45 _).trans (zn_al (zmk_22 M) 2 512)
  have b23 : zw (zmk_23 M) = zw (zmk_22 M) + 512 := (zw_sF (zal (zmk_22 M) 2 512) 81 45 _).trans (zw_al (zmk_22 M) 2 512)
  have a24 : zn (zmk_24 M) = zn (zmk_23 M) + 1 := (zn_sF (zal (zmk_23 M) 2 8) 81 46 _).trans (zn_al (zmk_23 M) 2 8)
  have b24 : zw (zmk_24 M) = zw (zmk_23 M) + 8 := (zw_sF (zal (zmk_23 M) 2 8) 81 46 _).trans (zw_al (zmk_23 M) 2 8)
  have a25 : zn (zmk_25 M) = zn (zmk_24 M) + 1 := (zn_sF (zal (zmk_24 M) 2 512) 81 47 _).trans (zn_al (zmk_24 M) 2 512)
  have b25 : zw (zmk_25 M) = zw (zmk_24 M) + 512 := (zw_sF (zal (zmk_24 M) 2 512) 81 47 _).trans (zw_al (zmk_24 M) 2 512)
  have a26 : zn (zmk_26 M) = zn (zmk_25 M) + 1 := (zn_sF (zal (zmk_25 M) 2 64) 81 48 _).trans (zn_al (zmk_25 M) 2 64)
  have b26 : zw (zmk_26 M) = zw (zmk_25 M) + 64 := (zw_sF (zal (zmk_25 M) 2 64) 81 48 _).trans (zw_al (zmk_25 M) 2 64)
  have a27 : zn (zmk_27 M) = zn (zmk_26 M) + 1 := (zn_sF (zal (zmk_26 M) 1 128) 81 49 _).trans (zn_al (zmk_26 M) 1 128)
  have b27 : zw (zmk_27 M) = zw (zmk_26 M) + 128 := (zw_sF (zal (zmk_26 M) 1 128) 81 49 _).trans (zw_al (zmk_26 M) 1 128)
  have a28 : zn (zmk_28 M) = zn (zmk_27 M) + 1 := (zn_sF (zal (zmk_27 M) 2 64) 81 50 _).trans (zn_al (zmk_27 M) 2 64)
  have b28 : zw (zmk_28 M) = zw (zmk_27 M) + 64 := (zw_sF (zal (zmk_27 M) 2 64) 81 50 _).trans (zw_al (zmk_27 M) 2 64)
  have a29 : zn (zmk_29 M) = zn (zmk_28 M) + 1 := (zn_sF (zal (zmk_28 M) 2 64) 81 51 _).trans (zn_al (zmk_28 M) 2 64)
  have b29 : zw (zmk_29 M) = zw (zmk_28 M) + 64 := (zw_sF (zal (zmk_28 M) 2 64) 81 51 _).trans (zw_al (zmk_28 M) 2 64)
  have a30 : zn (zmk_30 M) = zn (zmk_29 M) + 1 := (zn_sF (zal (zmk_29 M) 1 24) 81 54 _).trans (zn_al (zmk_29 M) 1 24)
  have b30 : zw (zmk_30 M) = zw (zmk_29 M) + 24 := (zw_sF (zal (zmk_29 M) 1 24) 81 54 _).trans (zw_al (zmk_29 M) 1 24)
  have a31 : zn (zmk_31 M) = zn (zmk_30 M) + 1 := (zn_sF (zal (zmk_30 M) 1 65536) 81 56 _).trans (zn_al (zmk_30 M) 1 65536)
  have b31 : zw (zmk_31 M) = zw (zmk_30 M) + 65536 := (zw_sF (zal (zmk_30 M) 1 65536) 81 56 _).trans (zw_al (zmk_30 M) 1 65536)
  have a32 : zn (zmk_32 M) = zn (zmk_31 M) + 1 := (zn_sF (zal (zmk_31 M) 2 768) 81 59 _).trans (zn_al (zmk_31 M) 2 768)
  have b32 : zw (zmk_32 M) = zw (zmk_31 M) + 768 := (zw_sF (zal (zmk_31 M) 2 768) 81 59 _).trans (zw_al (zmk_31 M) 2 768)
  have a33 : zn (zmk_33 M) = zn (zmk_32 M) + 1 := (zn_sF (zal (zmk_32 M) 1 6) 81 61 _).trans (zn_al (zmk_32 M) 1 6)
  have b33 : zw (zmk_33 M) = zw (zmk_32 M) + 6 := (zw_sF (zal (zmk_32 M) 1 6) 81 61 _).trans (zw_al (zmk_32 M) 1 6)
  have a34 : zn (zmk_34 M) = zn (zmk_33 M) + 1 := (zn_sF (zal (zmk_33 M) 1 7) 81 62 _).trans (zn_al (zmk_33 M) 1 7)
  have b34 : zw (zmk_34 M) = zw (zmk_33 M) + 7 := (zw_sF (zal (zmk_33 M) 1 7) 81 62 _).trans (zw_al (zmk_33 M) 1 7)
  have a35 : zn (zmk_35 M) = zn (zmk_34 M) := rfl
  have b35 : zw (zmk_35 M) = zw (zmk_34 M) := rfl
  show zn (zmk_35 M) = _ ∧ zw (zmk_35 M) = _
  omega
theorem zmk_s {M : zMem} {q t n j : Nat} {v : Option Nat} (h : 82 ≤ zn M) (hq : q < 81) : zsh (zsF (zal M t n) 81 j v) q = zsh M q ∧ zf (zsF (zal M t n) 81 j v) q = zf M q ∧ zi (zsF (zal M t n) 81 j v) q = zi M q ∧ zj (zsF (zal M t n) 81 j v) q = zj M q := by
  have hne : ¬ q = M.1.1 := by
    have : zn M = M.1.1 := rfl
    omega
  refine ⟨?_, ?_, ?_, ?_⟩
  · show (zal M t n).2.1 q = _
    simp [zal, zsh, hne]
  · show zup2 (zf (zal M t n)) 81 j v q = _
    rw [zup2_q (by omega)]
    simp [zal, zf, hne]
  · show (zal M t n).2.2.1 q = _
    simp [zal, zi, hne]
  · show (zal M t n).2.2.2.1 q = _
    simp [zal, zj, hne]
theorem zmk_i {M : zMem} {q j : Nat} {v : Int32} (hq : q < 81) : zsh (zsI M 81 j v) q = zsh M q ∧ zf (zsI M 81 j v) q = zf M q ∧ zi (zsI M 81 j v) q = zi M q ∧ zj (zsI M 81 j v) q = zj M q := ⟨rfl, rfl, zup2_q (by omega), rfl⟩
theorem zmk_tr {M N P : zMem} {q : Nat} (a : zsh N q = zsh M q ∧ zf N q = zf M q ∧ zi N q = zi M q ∧ zj N q = zj M q) (b : zsh P q = zsh N q ∧ zf P q = zf N q ∧ zi P q = zi N q ∧ zj P q = zj N q) : zsh P q = zsh M q ∧ zf P q = zf M q ∧ zi P q = zi M q ∧ zj P q = zj M q := ⟨b.1.trans a.1, b.2.1.trans a.2.1, b.2.2.1.trans a.2.2.1, b.2.2.2.trans a.2.2.2⟩
set_option maxRecDepth 100000 in
theorem zmk_old (M : zMem) (h : zn M = 82) (q : Nat) (hq : q < 81) : zsh (zmk M) q = zsh M q ∧ zf (zmk M) q = zf M q ∧ zi (zmk M) q = zi M q ∧ zj (zmk M) q = zj M q := by
  have e1 : zsh (zmk_1 M) q = zsh M q ∧ zf (zmk_1 M) q = zf M q ∧ zi (zmk_1 M) q = zi M q ∧ zj (zmk_1 M) q = zj M q := (zmk_s (M := M) (by show 82 ≤ zn M + 0; omega) hq)
  have e2 : zsh (zmk_2 M) q = zsh M q ∧ zf (zmk_2 M) q = zf M q ∧ zi (zmk_2 M) q = zi M q ∧ zj (zmk_2 M) q = zj M q := zmk_tr e1 (zmk_i hq)
  have e3 : zsh (zmk_3 M) q = zsh M q ∧ zf (zmk_3 M) q = zf M q ∧ zi (zmk_3 M) q = zi M q ∧ zj (zmk_3 M) q = zj M q := zmk_tr e2 (zmk_i hq)
  have e4 : zsh (zmk_4 M) q = zsh M q ∧ zf (zmk_4 M) q = zf M q ∧ zi (zmk_4 M) q = zi M q ∧ zj (zmk_4 M) q = zj M q := zmk_tr e3 (zmk_s (M := (zmk_3 M)) (by show 82 ≤ zn M + 1; omega) hq)
  have e5 : zsh (zmk_5 M) q = zsh M q ∧ zf (zmk_5 M) q = zf M q ∧ zi (zmk_5 M) q = zi M q ∧ zj (zmk_5 M) q = zj M q := zmk_tr e4 (zmk_s (M := (zmk_4 M)) (by show 82 ≤ zn M + 2; omega) hq)
  have e6 : zsh (zmk_6 M) q = zsh M q ∧ zf (zmk_6 M) q = zf M q ∧ zi (zmk_6 M) q = zi M q ∧ zj (zmk_6 M) q = zj M q := zmk_tr e5 (zmk_s (M := (zmk_5 M)) (by show 82 ≤ zn M + 3; omega) hq)
  have e7 : zsh (zmk_7 M) q = zsh M q ∧ zf (zmk_7 M) q = zf M q ∧ zi (zmk_7 M) q = zi M q ∧ zj (zmk_7 M) q = zj M q := zmk_tr e6 (zmk_s (M := (zmk_6 M)) (by show 82 ≤ zn M + 4; omega) hq)
  have e8 : zsh (zmk_8 M) q = zsh M q ∧ zf (zmk_8 M) q = zf M q ∧ zi (zmk_8 M) q = zi M q ∧ zj (zmk_8 M) q = zj M q := zmk_tr e7 (zmk_s (M := (zmk_7 M)) (by show 82 ≤ zn M + 5; omega) hq)
  have e9 : zsh (zmk_9 M) q = zsh M q ∧ zf (zmk_9 M) q = zf M q ∧ zi (zmk_9 M) q = zi M q ∧ zj (zmk_9 M) q = zj M q := zmk_tr e8 (zmk_s (M := (zmk_8 M)) (by show 82 ≤ zn M + 6; omega) hq)
  have e10 : zsh (zmk_10 M) q = zsh M q ∧ zf (zmk_10 M) q = zf M q ∧ zi (zmk_10 M) q = zi M q ∧ zj (zmk_10 M) q = zj M q := zmk_tr e9 (zmk_s (M := (zmk_9 M)) (by show 82 ≤ zn M + 7; omega) hq)
  have e11 : zsh (zmk_11 M) q = zsh M q ∧ zf (zmk_11 M) q = zf M q ∧ zi (zmk_11 M) q = zi M q ∧ zj (zmk_11 M) q = zj M q := zmk_tr e10 (zmk_s (M := (zmk_10 M)) (by show 82 ≤ zn M + 8; omega) hq)
  have e12 : zsh (zmk_12 M) q = zsh M q ∧ zf (zmk_12 M) q = zf M q ∧ zi (zmk_12 M) q = zi M q ∧ zj (zmk_12 M) q = zj M q := zmk_tr e11 (zmk_s (M := (zmk_11 M)) (by show 82 ≤ zn M + 9; omega) hq)
  have e13 : zsh (zmk_13 M) q = zsh M q ∧ zf (zmk_13 M) q = zf M q ∧ zi (zmk_13 M) q = zi M q ∧ zj (zmk_13 M) q = zj M q := zmk_tr e12 (zmk_s (M := (zmk_12 M)) (by show 82 ≤ zn M + 10; omega) hq)
  have e14 : zsh (zmk_14 M) q = zsh M q ∧ zf (zmk_14 M) q = zf M q ∧ zi (zmk_14 M) q = zi M q ∧ zj (zmk_14 M) q = zj M q := zmk_tr e13 (zmk_s (M := (zmk_13 M)) (by show 82 ≤ zn M + 11; omega) hq)
  have e15 : zsh (zmk_15 M) q = zsh M q ∧ zf (zmk_15 M) q = zf M q ∧ zi (zmk_15 M) q = zi M q ∧ zj (zmk_15 M) q = zj M q := zmk_tr e14 (zmk_s (M := (zmk_14 M)) (by show 82 ≤ zn M + 12; omega) hq)
  have e16 : zsh (zmk_16 M) q = zsh M q ∧ zf (zmk_16 M) q = zf M q ∧ zi (zmk_16 M) q = zi M q ∧ zj (zmk_16 M) q = zj M q := zmk_tr e15 (zmk_s (M := (zmk_15 M)) (by show 82 ≤ zn M + 13; omega) hq)
  have e17 : zsh (zmk_17 M) q = zsh M q ∧ zf (zmk_17 M) q = zf M q ∧ zi (zmk_17 M) q = zi M q ∧ zj (zmk_17 M) q = zj M q := zmk_tr e16 (zmk_s (M := (zmk_16 M)) (by show 82 ≤ zn M + 14; omega) hq)
  have e18 : zsh (zmk_18 M) q = zsh M q ∧ zf (zmk_18 M) q = zf M q ∧ zi (zmk_18 M) q = zi M q ∧ zj (zmk_18 M) q = zj M q := zmk_tr e17 (zmk_s (M := (zmk_17 M)) (by show 82 ≤ zn M + 15; omega) hq)
  have e19 : zsh (zmk_19 M) q = zsh M q ∧ zf (zmk_19 M) q = zf M q ∧ zi (zmk_19 M) q = zi M q ∧ zj (zmk_19 M) q = zj M q := zmk_tr e18 (zmk_s (M := (zmk_18 M)) (by show 82 ≤ zn M + 16; omega) hq)
  have e20 : zsh (zmk_20 M) q = zsh M q ∧ zf (zmk_20 M) q = zf M q ∧ zi (zmk_20 M) q = zi M q ∧ zj (zmk_20 M) q = zj M q := zmk_tr e19 (zmk_s (M := (zmk_19 M)) (by show 82 ≤ zn M + 17; omega) hq)
  have e21 : zsh (zmk_21 M) q = zsh M q ∧ zf (zmk_21 M) q = zf M q ∧ zi (zmk_21 M) q = zi M q ∧ zj (zmk_21 M) q = zj M q := zmk_tr e20 (zmk_s (M := (zmk_20 M)) (by show 82 ≤ zn M + 18; omega) hq)
  have e22 : zsh (zmk_22 M) q = zsh M q ∧ zf (zmk_22 M) q = zf M q ∧ zi (zmk_22 M) q = zi M q ∧ zj (zmk_22 M) q = zj M q := zmk_tr e21 (zmk_s (M := (zmk_21 M)) (by show 82 ≤ zn M + 19; omega) hq)
  have e23 : zsh (zmk_23 M) q = zsh M q ∧ zf (zmk_23 M) q = zf M q ∧ zi (zmk_23 M) q = zi M q ∧ zj (zmk_23 M) q = zj M q := zmk_tr e22 (zmk_s (M := (zmk_22 M)) (by show 82 ≤ zn M + 20; omega) hq)
  have e24 : zsh (zmk_24 M) q = zsh M q ∧ zf (zmk_24 M) q = zf M q ∧ zi (zmk_24 M) q = zi M q ∧ zj (zmk_24 M) q = zj M q := zmk_tr e23 (zmk_s (M := (zmk_23 M)) (by show 82 ≤ zn M + 21; omega) hq)
  have e25 : zsh (zmk_25 M) q = zsh M q ∧ zf (zmk_25 M) q = zf M q ∧ zi (zmk_25 M) q = zi M q ∧ zj (zmk_25 M) q = zj M q := zmk_tr e24 (zmk_s (M := (zmk_24 M)) (by show 82 ≤ zn M + 22; omega) hq)
  have e26 : zsh (zmk_26 M) q = zsh M q ∧ zf (zmk_26 M) q = zf M q ∧ zi (zmk_26 M) q = zi M q ∧ zj (zmk_26 M) q = zj M q := zmk_tr e25 (zmk_s (M := (zmk_25 M)) (by show 82 ≤ zn M + 23; omega) hq)
  have e27 : zsh (zmk_27 M) q = zsh M q ∧ zf (zmk_27 M) q = zf M q ∧ zi (zmk_27 M) q = zi M q ∧ zj (zmk_27 M) q = zj M q := zmk_tr e26 (zmk_s (M := (zmk_26 M)) (by show 82 ≤ zn M + 24; omega) hq)
  have e28 : zsh (zmk_28 M) q = zsh M q ∧ zf (zmk_28 M) q = zf M q ∧ zi (zmk_28 M) q = zi M q ∧ zj (zmk_28 M) q = zj M q := zmk_tr e27 (zmk_s (M := (zmk_27 M)) (by show 82 ≤ zn M + 25; omega) hq)
  have e29 : zsh (zmk_29 M) q = zsh M q ∧ zf (zmk_29 M) q = zf M q ∧ zi (zmk_29 M) q = zi M q ∧ zj (zmk_29 M) q = zj M q := zmk_tr e28 (zmk_s (M := (zmk_28 M)) (by show 82 ≤ zn M + 26; omega) hq)
  have e30 : zsh (zmk_30 M) q = zsh M q ∧ zf (zmk_30 M) q = zf M q ∧ zi (zmk_30 M) q = zi M q ∧ zj (zmk_30 M) q = zj M q := zmk_tr e29 (zmk_s (M := (zmk_29 M)) (by show 82 ≤ zn M + 27; omega) hq)
  have e31 : zsh (zmk_31 M) q = zsh M q ∧ zf (zmk_31 M) q = zf M q ∧ zi (zmk_31 M) q = zi M q ∧ zj (zmk_31 M) q = zj M q := zmk_tr e30 (zmk_s (M := (zmk_30 M)) (by show 82 ≤ zn M + 28; omega) hq)
  have e32 : zsh (zmk_32 M) q = zsh M q ∧ zf (zmk_32 M) q = zf M q ∧ zi (zmk_32 M) q = zi M q ∧ zj (zmk_32 M) q = zj M q := zmk_tr e31 (zmk_s (M := (zmk_31 M)) (by show 82 ≤ zn M + 29; omega) hq)
  have e33 : zsh (zmk_33 M) q = zsh M q ∧ zf (zmk_33 M) q = zf M q ∧ zi (zmk_33 M) q = zi M q ∧ zj (zmk_33 M) q = zj M q := zmk_tr e32 (zmk_s (M := (zmk_32 M)) (by show 82 ≤ zn M + 30; omega) hq)
  have e34 : zsh (zmk_34 M) q = zsh M q ∧ zf (zmk_34 M) q = zf M q ∧ zi (zmk_34 M) q = zi M q ∧ zj (zmk_34 M) q = zj M q := zmk_tr e33 (zmk_s (M := (zmk_33 M)) (by show 82 ≤ zn M + 31; omega) hq)
  have e35 : zsh (zmk_35 M) q = zsh M q ∧ zf (zmk_35 M) q = zf M q ∧ zi (zmk_35 M) q = zi M q ∧ zj (zmk_35 M) q = zj M q := zmk_tr e34 (zmk_i hq)
  exact e35
set_option maxRecDepth 100000 in
set_option maxHeartbeats 8000000 in
theorem k_Mpre (l : Launch) (X : Nat × Nat) (Q : Option Value → zMem → Prop) (M : zMem) (h : zn M = 82) (h2 : (zsh M 81).1 = 11 + 3) (hX1 : 114 ≤ X.1) (hX2 : zw M + 78111 ≤ X.2) (kk : zW l m_M_init X (zmk M) 287 [some (.ref 81)] [] Q) : zW l m_M_init X M 0 [some (.ref 81)] [] Q := by
  refine zw_aload_n (pc := 0) (n := 0) (x := 81) rfl d_M_init_0 ?_
  refine zw_objInit (pc := 1) o_M_1 o_in o_co (by decide) (Nat.le_of_ble_eq_true rfl) d_M_init_1 ?_
  have h0 : zn M = 82 := h
  refine zw_aload_n (pc := 4) (n := 0) (x := 81) rfl d_M_init_4 ?_
  refine zw_sipush (pc := 5) (v := nI 700) (by decide) d_M_init_5 ?_
  have hz : zn M = 82 + 0 := h0
  have hw : zw M = zw M + 0 := rfl
  refine zw_newa (pc := 8) (t := 1) (N := 700) (Or.inl ⟨rfl, rfl⟩) (by decide) (by decide) (by decide) (by omega) (by omega) (by omega) d_M_init_8 ?_
  have ha : (zsh (zal M 1 700) 81).1 = 11 + 3 := by rw [(zal_old (by omega)).1]; exact (h2)
  refine zw_putR (pc := 10) (x := zn M) (Or.inr ⟨g_M_7, rfl, rfl, rfl⟩) rfl ha (fun _ => rfl) (fun _ => rfl) d_M_init_10 ?_
  have hk_1 : (zsh (zmk_1 M) 81).1 = 11 + 3 := ha
  show zW l m_M_init X (zmk_1 M) 13 [some (.ref 81)] [] Q
  have a1 : zn (zmk_1 M) = zn M + 1 := (zn_sF (zal M 1 700) 81 0 _).trans (zn_al M 1 700)
  have b1 : zw (zmk_1 M) = zw M + 700 := (zw_sF (zal M 1 700) 81 0 _).trans (zw_al M 1 700)
  refine zw_aload_n (pc := 13) (n := 0) (x := 81) rfl d_M_init_13 ?_
  refine zw_iconst (pc := 14) (v := (-1)) (by decide) d_M_init_14 ?_
  refine zw_putI (pc := 15) f_M_13 rfl rfl (hk_1) rfl rfl d_M_init_15 ?_
  have hk_2 : (zsh (zmk_2 M) 81).1 = 11 + 3 := (hk_1)
  show zW l m_M_init X (zmk_2 M) 18 [some (.ref 81)] [] Q
  have a2 : zn (zmk_2 M) = zn (zmk_1 M) := rfl
  have b2 : zw (zmk_2 M) = zw (zmk_1 M) := rfl
  refine zw_aload_n (pc := 18) (n := 0) (x := 81) rfl d_M_init_18 ?_
  refine zw_iconst (pc := 19) (v := (-1)) (by decide) d_M_init_19 ?_
  refine zw_putI (pc := 20) f_M_17 rfl rfl (hk_2) rfl rfl d_M_init_20 ?_
  have hk_3 : (zsh (zmk_3 M) 81).1 = 11 + 3 := (hk_2)
  show zW l m_M_init X (zmk_3 M) 23 [some (.ref 81)] [] Q
  have a3 : zn (zmk_3 M) = zn (zmk_2 M) := rfl
  have b3 : zw (zmk_3 M) = zw (zmk_2 M) := rfl
  refine zw_aload_n (pc := 23) (n := 0) (x := 81) rfl d_M_init_23 ?_
  refine zw_bipush (pc := 24) (v := nI 24) (by decide) d_M_init_24 ?_
  have hz : zn (zmk_3 M) = 82 + 1 := by omega
  have hw : zw (zmk_3 M) = zw M + 700 := by omega
  refine zw_newa (pc := 26) (t := 1) (N := 24) (Or.inl ⟨rfl, rfl⟩) (by decide) (by decide) (by decide) (by omega) (by omega) (by omega) d_M_init_26 ?_
  have ha : (zsh (zal (zmk_3 M) 1 24) 81).1 = 11 + 3 := by rw [(zal_old (by omega)).1]; exact (hk_3)
  refine zw_putR (pc := 28) (x := zn (zmk_3 M)) (Or.inr ⟨g_M_20, rfl, rfl, rfl⟩) rfl ha (fun _ => rfl) (fun _ => rfl) d_M_init_28 ?_
  have hk_4 : (zsh (zmk_4 M) 81).1 = 11 + 3 := ha
  show zW l m_M_init X (zmk_4 M) 31 [some (.ref 81)] [] Q
  have a4 : zn (zmk_4 M) = zn (zmk_3 M) + 1 := (zn_sF (zal (zmk_3 M) 1 24) 81 15 _).trans (zn_al (zmk_3 M) 1 24)
  have b4 : zw (zmk_4 M) = zw (zmk_3 M) + 24 := (zw_sF (zal (zmk_3 M) 1 24) 81 15 _).trans (zw_al (zmk_3 M) 1 24)
  refine zw_aload_n (pc := 31) (n := 0) (x := 81) rfl d_M_init_31 ?_
  refine zw_bipush (pc := 32) (v := nI 24) (by decide) d_M_init_32 ?_
  have hz : zn (zmk_4 M) = 82 + 2 := by omega
  have hw : zw (zmk_4 M) = zw M + 724 := by omega
  refine zw_newa (pc := 34) (t := 1) (N := 24) (Or.inl ⟨rfl, rfl⟩) (by decide) (by decide) (by decide) (by omega) (by omega) (by omega) d_M_init_34 ?_
  have ha : (zsh (zal (zmk_4 M) 1 24) 81).1 = 11 + 3 := by rw [(zal_old (by omega)).1]; exact (hk_4)
  refine zw_putR (pc := 36) (x := zn (zmk_4 M)) (Or.inr ⟨g_M_23, rfl, rfl, rfl⟩) rfl ha (fun _ => rfl) (fun _ => rfl) d_M_init_36 ?_
  have hk_5 : (zsh (zmk_5 M) 81).1 = 11 + 3 := ha
  show zW l m_M_init X (zmk_5 M) 39 [some (.ref 81)] [] Q
  have a5 : zn (zmk_5 M) = zn (zmk_4 M) + 1 := (zn_sF (zal (zmk_4 M) 1 24) 81 19 _).trans (zn_al (zmk_4 M) 1 24)
  have b5 : zw (zmk_5 M) = zw (zmk_4 M) + 24 := (zw_sF (zal (zmk_4 M) 1 24) 81 19 _).trans (zw_al (zmk_4 M) 1 24)
  refine zw_aload_n (pc := 39) (n := 0) (x := 81) rfl d_M_init_39 ?_
  refine zw_sipush (pc := 40) (v := nI 144) (by decide) d_M_init_40 ?_
  have hz : zn (zmk_5 M) = 82 + 3 := by omega
  have hw : zw (zmk_5 M) = zw M + 748 := by omega
  refine zw_newa (pc := 43) (t := 1) (N := 144) (Or.inl ⟨rfl, rfl⟩) (by decide) (by decide) (by decide) (by omega) (by omega) (by omega) d_M_init_43 ?_
  have ha : (zsh (zal (zmk_5 M) 1 144) 81).1 = 11 + 3 := by rw [(zal_old (by omega)).1]; exact (hk_5)
  refine zw_putR (pc := 45) (x := zn (zmk_5 M)) (Or.inr ⟨g_M_26, rfl, rfl, rfl⟩) rfl ha (fun _ => rfl) (fun _ => rfl) d_M_init_45 ?_
  have hk_6 : (zsh (zmk_6 M) 81).1 = 11 + 3 := ha
  show zW l m_M_init X (zmk_6 M) 48 [some (.ref 81)] [] Q
  have a6 : zn (zmk_6 M) = zn (zmk_5 M) + 1 := (zn_sF (zal (zmk_5 M) 1 144) 81 21 _).trans (zn_al (zmk_5 M) 1 144)
  have b6 : zw (zmk_6 M) = zw (zmk_5 M) + 144 := (zw_sF (zal (zmk_5 M) 1 144) 81 21 _).trans (zw_al (zmk_5 M) 1 144)
  refine zw_aload_n (pc := 48) (n := 0) (x := 81) rfl d_M_init_48 ?_
  refine zw_bipush (pc := 49) (v := nI 6) (by decide) d_M_init_49 ?_
  have hz : zn (zmk_6 M) = 82 + 4 := by omega
  have hw : zw (zmk_6 M) = zw M + 892 := by omega
  refine zw_newa (pc := 51) (t := 1) (N := 6) (Or.inl ⟨rfl, rfl⟩) (by decide) (by decide) (by decide) (by omega) (by omega) (by omega) d_M_init_51 ?_
  have ha : (zsh (zal (zmk_6 M) 1 6) 81).1 = 11 + 3 := by rw [(zal_old (by omega)).1]; exact (hk_6)
  refine zw_putR (pc := 53) (x := zn (zmk_6 M)) (Or.inr ⟨g_M_29, rfl, rfl, rfl⟩) rfl ha (fun _ => rfl) (fun _ => rfl) d_M_init_53 ?_
  have hk_7 : (zsh (zmk_7 M) 81).1 = 11 + 3 := ha
  show zW l m_M_init X (zmk_7 M) 56 [some (.ref 81)] [] Q
  have a7 : zn (zmk_7 M) = zn (zmk_6 M) + 1 := (zn_sF (zal (zmk_6 M) 1 6) 81 22 _).trans (zn_al (zmk_6 M) 1 6)
  have b7 : zw (zmk_7 M) = zw (zmk_6 M) + 6 := (zw_sF (zal (zmk_6 M) 1 6) 81 22 _).trans (zw_al (zmk_6 M) 1 6)
  refine zw_aload_n (pc := 56) (n := 0) (x := 81) rfl d_M_init_56 ?_
  refine zw_sipush (pc := 57) (v := nI 576) (by decide) d_M_init_57 ?_
  have hz : zn (zmk_7 M) = 82 + 5 := by omega
  have hw : zw (zmk_7 M) = zw M + 898 := by omega
  refine zw_newa (pc := 60) (t := 1) (N := 576) (Or.inl ⟨rfl, rfl⟩) (by decide) (by decide) (by decide) (by omega) (by omega) (by omega) d_M_init_60 ?_
  have ha : (zsh (zal (zmk_7 M) 1 576) 81).1 = 11 + 3 := by rw [(zal_old (by omega)).1]; exact (hk_7)
  refine zw_putR (pc := 62) (x := zn (zmk_7 M)) (Or.inr ⟨g_M_32, rfl, rfl, rfl⟩) rfl ha (fun _ => rfl) (fun _ => rfl) d_M_init_62 ?_
  have hk_8 : (zsh (zmk_8 M) 81).1 = 11 + 3 := ha
  show zW l m_M_init X (zmk_8 M) 65 [some (.ref 81)] [] Q
  have a8 : zn (zmk_8 M) = zn (zmk_7 M) + 1 := (zn_sF (zal (zmk_7 M) 1 576) 81 23 _).trans (zn_al (zmk_7 M) 1 576)
  have b8 : zw (zmk_8 M) = zw (zmk_7 M) + 576 := (zw_sF (zal (zmk_7 M) 1 576) 81 23 _).trans (zw_al (zmk_7 M) 1 576)
  refine zw_aload_n (pc := 65) (n := 0) (x := 81) rfl d_M_init_65 ?_
  refine zw_bipush (pc := 66) (v := nI 24) (by decide) d_M_init_66 ?_
  have hz : zn (zmk_8 M) = 82 + 6 := by omega
  have hw : zw (zmk_8 M) = zw M + 1474 := by omega
  refine zw_newa (pc := 68) (t := 1) (N := 24) (Or.inl ⟨rfl, rfl⟩) (by decide) (by decide) (by decide) (by omega) (by omega) (by omega) d_M_init_68 ?_
  have ha : (zsh (zal (zmk_8 M) 1 24) 81).1 = 11 + 3 := by rw [(zal_old (by omega)).1]; exact (hk_8)
  refine zw_putR (pc := 70) (x := zn (zmk_8 M)) (Or.inr ⟨g_M_35, rfl, rfl, rfl⟩) rfl ha (fun _ => rfl) (fun _ => rfl) d_M_init_70 ?_
  have hk_9 : (zsh (zmk_9 M) 81).1 = 11 + 3 := ha
  show zW l m_M_init X (zmk_9 M) 73 [some (.ref 81)] [] Q
  have a9 : zn (zmk_9 M) = zn (zmk_8 M) + 1 := (zn_sF (zal (zmk_8 M) 1 24) 81 24 _).trans (zn_al (zmk_8 M) 1 24)
  have b9 : zw (zmk_9 M) = zw (zmk_8 M) + 24 := (zw_sF (zal (zmk_8 M) 1 24) 81 24 _).trans (zw_al (zmk_8 M) 1 24)
  refine zw_aload_n (pc := 73) (n := 0) (x := 81) rfl d_M_init_73 ?_
  refine zw_sipush (pc := 74) (v := nI 128) (by decide) d_M_init_74 ?_
  have hz : zn (zmk_9 M) = 82 + 7 := by omega
  have hw : zw (zmk_9 M) = zw M + 1498 := by omega
  refine zw_newa (pc := 77) (t := 1) (N := 128) (Or.inl ⟨rfl, rfl⟩) (by decide) (by decide) (by decide) (by omega) (by omega) (by omega) d_M_init_77 ?_
  have ha : (zsh (zal (zmk_9 M) 1 128) 81).1 = 11 + 3 := by rw [(zal_old (by omega)).1]; exact (hk_9)
  refine zw_putR (pc := 79) (x := zn (zmk_9 M)) (Or.inr ⟨g_M_38, rfl, rfl, rfl⟩) rfl ha (fun _ => rfl) (fun _ => rfl) d_M_init_79 ?_
  have hk_10 : (zsh (zmk_10 M) 81).1 = 11 + 3 := ha
  show zW l m_M_init X (zmk_10 M) 82 [some (.ref 81)] [] Q
  have a10 : zn (zmk_10 M) = zn (zmk_9 M) + 1 := (zn_sF (zal (zmk_9 M) 1 128) 81 27 _).trans (zn_al (zmk_9 M) 1 128)
  have b10 : zw (zmk_10 M) = zw (zmk_9 M) + 128 := (zw_sF (zal (zmk_9 M) 1 128) 81 27 _).trans (zw_al (zmk_9 M) 1 128)
  refine zw_aload_n (pc := 82) (n := 0) (x := 81) rfl d_M_init_82 ?_
  refine zw_sipush (pc := 83) (v := nI 128) (by decide) d_M_init_83 ?_
  have hz : zn (zmk_10 M) = 82 + 8 := by omega
  have hw : zw (zmk_10 M) = zw M + 1626 := by omega
  refine zw_newa (pc := 86) (t := 1) (N := 128) (Or.inl ⟨rfl, rfl⟩) (by decide) (by decide) (by decide) (by omega) (by omega) (by omega) d_M_init_86 ?_
  have ha : (zsh (zal (zmk_10 M) 1 128) 81).1 = 11 + 3 := by rw [(zal_old (by omega)).1]; exact (hk_10)
  refine zw_putR (pc := 88) (x := zn (zmk_10 M)) (Or.inr ⟨g_M_41, rfl, rfl, rfl⟩) rfl ha (fun _ => rfl) (fun _ => rfl) d_M_init_88 ?_
  have hk_11 : (zsh (zmk_11 M) 81).1 = 11 + 3 := ha
  show zW l m_M_init X (zmk_11 M) 91 [some (.ref 81)] [] Q
  have a11 : zn (zmk_11 M) = zn (zmk_10 M) + 1 := (zn_sF (zal (zmk_10 M) 1 128) 81 28 _).trans (zn_al (zmk_10 M) 1 128)
  have b11 : zw (zmk_11 M) = zw (zmk_10 M) + 128 := (zw_sF (zal (zmk_10 M) 1 128) 81 28 _).trans (zw_al (zmk_10 M) 1 128)
  refine zw_aload_n (pc := 91) (n := 0) (x := 81) rfl d_M_init_91 ?_
  refine zw_bipush (pc := 92) (v := nI 64) (by decide) d_M_init_92 ?_
  have hz : zn (zmk_11 M) = 82 + 9 := by omega
  have hw : zw (zmk_11 M) = zw M + 1754 := by omega
  refine zw_newa (pc := 94) (t := 1) (N := 64) (Or.inl ⟨rfl, rfl⟩) (by decide) (by decide) (by decide) (by omega) (by omega) (by omega) d_M_init_94 ?_
  have ha : (zsh (zal (zmk_11 M) 1 64) 81).1 = 11 + 3 := by rw [(zal_old (by omega)).1]; exact (hk_11)
  refine zw_putR (pc := 96) (x := zn (zmk_11 M)) (Or.inr ⟨g_M_44, rfl, rfl, rfl⟩) rfl ha (fun _ => rfl) (fun _ => rfl) d_M_init_96 ?_
  have hk_12 : (zsh (zmk_12 M) 81).1 = 11 + 3 := ha
  show zW l m_M_init X (zmk_12 M) 99 [some (.ref 81)] [] Q
  have a12 : zn (zmk_12 M) = zn (zmk_11 M) + 1 := (zn_sF (zal (zmk_11 M) 1 64) 81 29 _).trans (zn_al (zmk_11 M) 1 64)
  have b12 : zw (zmk_12 M) = zw (zmk_11 M) + 64 := (zw_sF (zal (zmk_11 M) 1 64) 81 29 _).trans (zw_al (zmk_11 M) 1 64)
  refine zw_aload_n (pc := 99) (n := 0) (x := 81) rfl d_M_init_99 ?_
  refine zw_bipush (pc := 100) (v := nI 64) (by decide) d_M_init_100 ?_
  have hz : zn (zmk_12 M) = 82 + 10 := by omega
  have hw : zw (zmk_12 M) = zw M + 1818 := by omega
  refine zw_newa (pc := 102) (t := 1) (N := 64) (Or.inl ⟨rfl, rfl⟩) (by decide) (by decide) (by decide) (by omega) (by omega) (by omega) d_M_init_102 ?_
  have ha : (zsh (zal (zmk_12 M) 1 64) 81).1 = 11 + 3 := by rw [(zal_old (by omega)).1]; exact (hk_12)
  refine zw_putR (pc := 104) (x := zn (zmk_12 M)) (Or.inr ⟨g_M_47, rfl, rfl, rfl⟩) rfl ha (fun _ => rfl) (fun _ => rfl) d_M_init_104 ?_
  have hk_13 : (zsh (zmk_13 M) 81).1 = 11 + 3 := ha
  show zW l m_M_init X (zmk_13 M) 107 [some (.ref 81)] [] Q
  have a13 : zn (zmk_13 M) = zn (zmk_12 M) + 1 := (zn_sF (zal (zmk_12 M) 1 64) 81 30 _).trans (zn_al (zmk_12 M) 1 64)
  have b13 : zw (zmk_13 M) = zw (zmk_12 M) + 64 := (zw_sF (zal (zmk_12 M) 1 64) 81 30 _).trans (zw_al (zmk_12 M) 1 64)
  refine zw_aload_n (pc := 107) (n := 0) (x := 81) rfl d_M_init_107 ?_
  refine zw_sipush (pc := 108) (v := nI 4096) (by decide) d_M_init_108 ?_
  have hz : zn (zmk_13 M) = 82 + 11 := by omega
  have hw : zw (zmk_13 M) = zw M + 1882 := by omega
  refine zw_newa (pc := 111) (t := 1) (N := 4096) (Or.inl ⟨rfl, rfl⟩) (by decide) (by decide) (by decide) (by omega) (by omega) (by omega) d_M_init_111 ?_
  have ha : (zsh (zal (zmk_13 M) 1 4096) 81).1 = 11 + 3 := by rw [(zal_old (by omega)).1]; exact (hk_13)
  refine zw_putR (pc := 113) (x := zn (zmk_13 M)) (Or.inr ⟨g_M_50, rfl, rfl, rfl⟩) rfl ha (fun _ => rfl) (fun _ => rfl) d_M_init_113 ?_
  have hk_14 : (zsh (zmk_14 M) 81).1 = 11 + 3 := ha
  show zW l m_M_init X (zmk_14 M) 116 [some (.ref 81)] [] Q
  have a14 : zn (zmk_14 M) = zn (zmk_13 M) + 1 := (zn_sF (zal (zmk_13 M) 1 4096) 81 31 _).trans (zn_al (zmk_13 M) 1 4096)
  have b14 : zw (zmk_14 M) = zw (zmk_13 M) + 4096 := (zw_sF (zal (zmk_13 M) 1 4096) 81 31 _).trans (zw_al (zmk_13 M) 1 4096)
  refine zw_aload_n (pc := 116) (n := 0) (x := 81) rfl d_M_init_116 ?_
  refine zw_sipush (pc := 117) (v := nI 1536) (by decide) d_M_init_117 ?_
  have hz : zn (zmk_14 M) = 82 + 12 := by omega
  have hw : zw (zmk_14 M) = zw M + 5978 := by omega
  refine zw_newa (pc := 120) (t := 1) (N := 1536) (Or.inl ⟨rfl, rfl⟩) (by decide) (by decide) (by decide) (by omega) (by omega) (by omega) d_M_init_120 ?_
  have ha : (zsh (zal (zmk_14 M) 1 1536) 81).1 = 11 + 3 := by rw [(zal_old (by omega)).1]; exact (hk_14)
  refine zw_putR (pc := 122) (x := zn (zmk_14 M)) (Or.inr ⟨g_M_53, rfl, rfl, rfl⟩) rfl ha (fun _ => rfl) (fun _ => rfl) d_M_init_122 ?_
  have hk_15 : (zsh (zmk_15 M) 81).1 = 11 + 3 := ha
  show zW l m_M_init X (zmk_15 M) 125 [some (.ref 81)] [] Q
  have a15 : zn (zmk_15 M) = zn (zmk_14 M) + 1 := (zn_sF (zal (zmk_14 M) 1 1536) 81 32 _).trans (zn_al (zmk_14 M) 1 1536)
  have b15 : zw (zmk_15 M) = zw (zmk_14 M) + 1536 := (zw_sF (zal (zmk_14 M) 1 1536) 81 32 _).trans (zw_al (zmk_14 M) 1 1536)
  refine zw_aload_n (pc := 125) (n := 0) (x := 81) rfl d_M_init_125 ?_
  refine zw_sipush (pc := 126) (v := nI 2560) (by decide) d_M_init_126 ?_
  have hz : zn (zmk_15 M) = 82 + 13 := by omega
  have hw : zw (zmk_15 M) = zw M + 7514 := by omega
  refine zw_newa (pc := 129) (t := 2) (N := 2560) (Or.inr ⟨rfl, rfl⟩) (by decide) (by decide) (by decide) (by omega) (by omega) (by omega) d_M_init_129 ?_
  have ha : (zsh (zal (zmk_15 M) 2 2560) 81).1 = 11 + 3 := by rw [(zal_old (by omega)).1]; exact (hk_15)
  refine zw_putR (pc := 131) (x := zn (zmk_15 M)) (Or.inr ⟨g_M_56, rfl, rfl, rfl⟩) rfl ha (fun _ => rfl) (fun _ => rfl) d_M_init_131 ?_
  have hk_16 : (zsh (zmk_16 M) 81).1 = 11 + 3 := ha
  show zW l m_M_init X (zmk_16 M) 134 [some (.ref 81)] [] Q
  have a16 : zn (zmk_16 M) = zn (zmk_15 M) + 1 := (zn_sF (zal (zmk_15 M) 2 2560) 81 33 _).trans (zn_al (zmk_15 M) 2 2560)
  have b16 : zw (zmk_16 M) = zw (zmk_15 M) + 2560 := (zw_sF (zal (zmk_15 M) 2 2560) 81 33 _).trans (zw_al (zmk_15 M) 2 2560)
  refine zw_aload_n (pc := 134) (n := 0) (x := 81) rfl d_M_init_134 ?_
  refine zw_bipush (pc := 135) (v := nI 64) (by decide) d_M_init_135 ?_
  have hz : zn (zmk_16 M) = 82 + 14 := by omega
  have hw : zw (zmk_16 M) = zw M + 10074 := by omega
  refine zw_newa (pc := 137) (t := 2) (N := 64) (Or.inr ⟨rfl, rfl⟩) (by decide) (by decide) (by decide) (by omega) (by omega) (by omega) d_M_init_137 ?_
  have ha : (zsh (zal (zmk_16 M) 2 64) 81).1 = 11 + 3 := by rw [(zal_old (by omega)).1]; exact (hk_16)
  refine zw_putR (pc := 139) (x := zn (zmk_16 M)) (Or.inr ⟨g_M_60, rfl, rfl, rfl⟩) rfl ha (fun _ => rfl) (fun _ => rfl) d_M_init_139 ?_
  have hk_17 : (zsh (zmk_17 M) 81).1 = 11 + 3 := ha
  show zW l m_M_init X (zmk_17 M) 142 [some (.ref 81)] [] Q
  have a17 : zn (zmk_17 M) = zn (zmk_16 M) + 1 := (zn_sF (zal (zmk_16 M) 2 64) 81 34 _).trans (zn_al (zmk_16 M) 2 64)
  have b17 : zw (zmk_17 M) = zw (zmk_16 M) + 64 := (zw_sF (zal (zmk_16 M) 2 64) 81 34 _).trans (zw_al (zmk_16 M) 2 64)
  refine zw_aload_n (pc := 142) (n := 0) (x := 81) rfl d_M_init_142 ?_
  refine zw_bipush (pc := 143) (v := nI 64) (by decide) d_M_init_143 ?_
  have hz : zn (zmk_17 M) = 82 + 15 := by omega
  have hw : zw (zmk_17 M) = zw M + 10138 := by omega
  refine zw_newa (pc := 145) (t := 2) (N := 64) (Or.inr ⟨rfl, rfl⟩) (by decide) (by decide) (by decide) (by omega) (by omega) (by omega) d_M_init_145 ?_
  have ha : (zsh (zal (zmk_17 M) 2 64) 81).1 = 11 + 3 := by rw [(zal_old (by omega)).1]; exact (hk_17)
  refine zw_putR (pc := 147) (x := zn (zmk_17 M)) (Or.inr ⟨g_M_63, rfl, rfl, rfl⟩) rfl ha (fun _ => rfl) (fun _ => rfl) d_M_init_147 ?_
  have hk_18 : (zsh (zmk_18 M) 81).1 = 11 + 3 := ha
  show zW l m_M_init X (zmk_18 M) 150 [some (.ref 81)] [] Q
  have a18 : zn (zmk_18 M) = zn (zmk_17 M) + 1 := (zn_sF (zal (zmk_17 M) 2 64) 81 35 _).trans (zn_al (zmk_17 M) 2 64)
  have b18 : zw (zmk_18 M) = zw (zmk_17 M) + 64 := (zw_sF (zal (zmk_17 M) 2 64) 81 35 _).trans (zw_al (zmk_17 M) 2 64)
  refine zw_aload_n (pc := 150) (n := 0) (x := 81) rfl d_M_init_150 ?_
  refine zw_bipush (pc := 151) (v := nI 64) (by decide) d_M_init_151 ?_
  have hz : zn (zmk_18 M) = 82 + 16 := by omega
  have hw : zw (zmk_18 M) = zw M + 10202 := by omega
  refine zw_newa (pc := 153) (t := 2) (N := 64) (Or.inr ⟨rfl, rfl⟩) (by decide) (by decide) (by decide) (by omega) (by omega) (by omega) d_M_init_153 ?_
  have ha : (zsh (zal (zmk_18 M) 2 64) 81).1 = 11 + 3 := by rw [(zal_old (by omega)).1]; exact (hk_18)
  refine zw_putR (pc := 155) (x := zn (zmk_18 M)) (Or.inr ⟨g_M_66, rfl, rfl, rfl⟩) rfl ha (fun _ => rfl) (fun _ => rfl) d_M_init_155 ?_
  have hk_19 : (zsh (zmk_19 M) 81).1 = 11 + 3 := ha
  show zW l m_M_init X (zmk_19 M) 158 [some (.ref 81)] [] Q
  have a19 : zn (zmk_19 M) = zn (zmk_18 M) + 1 := (zn_sF (zal (zmk_18 M) 2 64) 81 36 _).trans (zn_al (zmk_18 M) 2 64)
  have b19 : zw (zmk_19 M) = zw (zmk_18 M) + 64 := (zw_sF (zal (zmk_18 M) 2 64) 81 36 _).trans (zw_al (zmk_18 M) 2 64)
  refine zw_aload_n (pc := 158) (n := 0) (x := 81) rfl d_M_init_158 ?_
  refine zw_bipush (pc := 159) (v := nI 64) (by decide) d_M_init_159 ?_
  have hz : zn (zmk_19 M) = 82 + 17 := by omega
  have hw : zw (zmk_19 M) = zw M + 10266 := by omega
  refine zw_newa (pc := 161) (t := 2) (N := 64) (Or.inr ⟨rfl, rfl⟩) (by decide) (by decide) (by decide) (by omega) (by omega) (by omega) d_M_init_161 ?_
  have ha : (zsh (zal (zmk_19 M) 2 64) 81).1 = 11 + 3 := by rw [(zal_old (by omega)).1]; exact (hk_19)
  refine zw_putR (pc := 163) (x := zn (zmk_19 M)) (Or.inr ⟨g_M_69, rfl, rfl, rfl⟩) rfl ha (fun _ => rfl) (fun _ => rfl) d_M_init_163 ?_
  have hk_20 : (zsh (zmk_20 M) 81).1 = 11 + 3 := ha
  show zW l m_M_init X (zmk_20 M) 166 [some (.ref 81)] [] Q
  have a20 : zn (zmk_20 M) = zn (zmk_19 M) + 1 := (zn_sF (zal (zmk_19 M) 2 64) 81 37 _).trans (zn_al (zmk_19 M) 2 64)
  have b20 : zw (zmk_20 M) = zw (zmk_19 M) + 64 := (zw_sF (zal (zmk_19 M) 2 64) 81 37 _).trans (zw_al (zmk_19 M) 2 64)
  refine zw_aload_n (pc := 166) (n := 0) (x := 81) rfl d_M_init_166 ?_
  refine zw_bipush (pc := 167) (v := nI 80) (by decide) d_M_init_167 ?_
  have hz : zn (zmk_20 M) = 82 + 18 := by omega
  have hw : zw (zmk_20 M) = zw M + 10330 := by omega
  refine zw_newa (pc := 169) (t := 1) (N := 80) (Or.inl ⟨rfl, rfl⟩) (by decide) (by decide) (by decide) (by omega) (by omega) (by omega) d_M_init_169 ?_
  have ha : (zsh (zal (zmk_20 M) 1 80) 81).1 = 11 + 3 := by rw [(zal_old (by omega)).1]; exact (hk_20)
  refine zw_putR (pc := 171) (x := zn (zmk_20 M)) (Or.inr ⟨g_M_72, rfl, rfl, rfl⟩) rfl ha (fun _ => rfl) (fun _ => rfl) d_M_init_171 ?_
  have hk_21 : (zsh (zmk_21 M) 81).1 = 11 + 3 := ha
  show zW l m_M_init X (zmk_21 M) 174 [some (.ref 81)] [] Q
  have a21 : zn (zmk_21 M) = zn (zmk_20 M) + 1 := (zn_sF (zal (zmk_20 M) 1 80) 81 40 _).trans (zn_al (zmk_20 M) 1 80)
  have b21 : zw (zmk_21 M) = zw (zmk_20 M) + 80 := (zw_sF (zal (zmk_20 M) 1 80) 81 40 _).trans (zw_al (zmk_20 M) 1 80)
  refine zw_aload_n (pc := 174) (n := 0) (x := 81) rfl d_M_init_174 ?_
  refine zw_bipush (pc := 175) (v := nI 8) (by decide) d_M_init_175 ?_
  have hz : zn (zmk_21 M) = 82 + 19 := by omega
  have hw : zw (zmk_21 M) = zw M + 10410 := by omega
  refine zw_newa (pc := 177) (t := 2) (N := 8) (Or.inr ⟨rfl, rfl⟩) (by decide) (by decide) (by decide) (by omega) (by omega) (by omega) d_M_init_177 ?_
  have ha : (zsh (zal (zmk_21 M) 2 8) 81).1 = 11 + 3 := by rw [(zal_old (by omega)).1]; exact (hk_21)
  refine zw_putR (pc := 179) (x := zn (zmk_21 M)) (Or.inr ⟨g_M_75, rfl, rfl, rfl⟩) rfl ha (fun _ => rfl) (fun _ => rfl) d_M_init_179 ?_
  have hk_22 : (zsh (zmk_22 M) 81).1 = 11 + 3 := ha
  show zW l m_M_init X (zmk_22 M) 182 [some (.ref 81)] [] Q
  have a22 : zn (zmk_22 M) = zn (zmk_21 M) + 1 := (zn_sF (zal (zmk_21 M) 2 8) 81 44 _).trans (zn_al (zmk_21 M) 2 8)
  have b22 : zw (zmk_22 M) = zw (zmk_21 M) + 8 := (zw_sF (zal (zmk_21 M) 2 8) 81 44 _).trans (zw_al (zmk_21 M) 2 8)
  refine zw_aload_n (pc := 182) (n := 0) (x := 81) rfl d_M_init_182 ?_
  refine zw_sipush (pc := 183) (v := nI 512) (by decide) d_M_init_183 ?_
  have hz : zn (zmk_22 M) = 82 + 20 := by omega
  have hw : zw (zmk_22 M) = zw M + 10418 := by omega
  refine zw_newa (pc := 186) (t := 2) (N := 512) (Or.inr ⟨rfl, rfl⟩) (by decide) (by decide) (by decide) (by omega) (by omega) (by omega) d_M_init_186 ?_
  have ha : (zsh (zal (zmk_22 M) 2 512) 81).1 = 11 + 3 := by rw [(zal_old (by omega)).1]; exact (hk_22)
  refine zw_putR (pc := 188) (x := zn (zmk_22 M)) (Or.inr ⟨g_M_78, rfl, rfl, rfl⟩) rfl ha (fun _ => rfl) (fun _ => rfl) d_M_init_188 ?_
  have hk_23 : (zsh (zmk_23 M) 81).1 = 11 + 3 := ha
  show zW l m_M_init X (zmk_23 M) 191 [some (.ref 81)] [] Q
  have a23 : zn (zmk_23 M) = zn (zmk_22 M) + 1 := (zn_sF (zal (zmk_22 M) 2 512) 81 45 _).trans (zn_al (zmk_22 M) 2 512)
  have b23 : zw (zmk_23 M) = zw (zmk_22 M) + 512 := (zw_sF (zal (zmk_22 M) 2 512) 81 45 _).trans (zw_al (zmk_22 M) 2 512)
  refine zw_aload_n (pc := 191) (n := 0) (x := 81) rfl d_M_init_191 ?_
  refine zw_bipush (pc := 192) (v := nI 8) (by decide) d_M_init_192 ?_
  have hz : zn (zmk_23 M) = 82 + 21 := by omega
  have hw : zw (zmk_23 M) = zw M + 10930 := by omega
  refine zw_newa (pc := 194) (t := 2) (N := 8) (Or.inr ⟨rfl, rfl⟩) (by decide) (by decide) (by decide) (by omega) (by omega) (by omega) d_M_init_194 ?_
  have ha : (zsh (zal (zmk_23 M) 2 8) 81).1 = 11 + 3 := by rw [(zal_old (by omega)).1]; exact (hk_23)
  refine zw_putR (pc := 196) (x := zn (zmk_23 M)) (Or.inr ⟨g_M_81, rfl, rfl, rfl⟩) rfl ha (fun _ => rfl) (fun _ => rfl) d_M_init_196 ?_
  have hk_24 : (zsh (zmk_24 M) 81).1 = 11 + 3 := ha
  show zW l m_M_init X (zmk_24 M) 199 [some (.ref 81)] [] Q
  have a24 : zn (zmk_24 M) = zn (zmk_23 M) + 1 := (zn_sF (zal (zmk_23 M) 2 8) 81 46 _).trans (zn_al (zmk_23 M) 2 8)
  have b24 : zw (zmk_24 M) = zw (zmk_23 M) + 8 := (zw_sF (zal (zmk_23 M) 2 8) 81 46 _).trans (zw_al (zmk_23 M) 2 8)
  refine zw_aload_n (pc := 199) (n := 0) (x := 81) rfl d_M_init_199 ?_
  refine zw_sipush (pc := 200) (v := nI 512) (by decide) d_M_init_200 ?_
  have hz : zn (zmk_24 M) = 82 + 22 := by omega
  have hw : zw (zmk_24 M) = zw M + 10938 := by omega
  refine zw_newa (pc := 203) (t := 2) (N := 512) (Or.inr ⟨rfl, rfl⟩) (by decide) (by decide) (by decide) (by omega) (by omega) (by omega) d_M_init_203 ?_
  have ha : (zsh (zal (zmk_24 M) 2 512) 81).1 = 11 + 3 := by rw [(zal_old (by omega)).1]; exact (hk_24)
  refine zw_putR (pc := 205) (x := zn (zmk_24 M)) (Or.inr ⟨g_M_84, rfl, rfl, rfl⟩) rfl ha (fun _ => rfl) (fun _ => rfl) d_M_init_205 ?_
  have hk_25 : (zsh (zmk_25 M) 81).1 = 11 + 3 := ha
  show zW l m_M_init X (zmk_25 M) 208 [some (.ref 81)] [] Q
  have a25 : zn (zmk_25 M) = zn (zmk_24 M) + 1 := (zn_sF (zal (zmk_24 M) 2 512) 81 47 _).trans (zn_al (zmk_24 M) 2 512)
  have b25 : zw (zmk_25 M) = zw (zmk_24 M) + 512 := (zw_sF (zal (zmk_24 M) 2 512) 81 47 _).trans (zw_al (zmk_24 M) 2 512)
  refine zw_aload_n (pc := 208) (n := 0) (x := 81) rfl d_M_init_208 ?_
  refine zw_bipush (pc := 209) (v := nI 64) (by decide) d_M_init_209 ?_
  have hz : zn (zmk_25 M) = 82 + 23 := by omega
  have hw : zw (zmk_25 M) = zw M + 11450 := by omega
  refine zw_newa (pc := 211) (t := 2) (N := 64) (Or.inr ⟨rfl, rfl⟩) (by decide) (by decide) (by decide) (by omega) (by omega) (by omega) d_M_init_211 ?_
  have ha : (zsh (zal (zmk_25 M) 2 64) 81).1 = 11 + 3 := by rw [(zal_old (by omega)).1]; exact (hk_25)
  refine zw_putR (pc := 213) (x := zn (zmk_25 M)) (Or.inr ⟨g_M_87, rfl, rfl, rfl⟩) rfl ha (fun _ => rfl) (fun _ => rfl) d_M_init_213 ?_
  have hk_26 : (zsh (zmk_26 M) 81).1 = 11 + 3 := ha
  show zW l m_M_init X (zmk_26 M) 216 [some (.ref 81)] [] Q
  have a26 : zn (zmk_26 M) = zn (zmk_25 M) + 1 := (zn_sF (zal (zmk_25 M) 2 64) 81 48 _).trans (zn_al (zmk_25 M) 2 64)
  have b26 : zw (zmk_26 M) = zw (zmk_25 M) + 64 := (zw_sF (zal (zmk_25 M) 2 64) 81 48 _).trans (zw_al (zmk_25 M) 2 64)
  refine zw_aload_n (pc := 216) (n := 0) (x := 81) rfl d_M_init_216 ?_
  refine zw_sipush (pc := 217) (v := nI 128) (by decide) d_M_init_217 ?_
  have hz : zn (zmk_26 M) = 82 + 24 := by omega
  have hw : zw (zmk_26 M) = zw M + 11514 := by omega
  refine zw_newa (pc := 220) (t := 1) (N := 128) (Or.inl ⟨rfl, rfl⟩) (by decide) (by decide) (by decide) (by omega) (by omega) (by omega) d_M_init_220 ?_
  have ha : (zsh (zal (zmk_26 M) 1 128) 81).1 = 11 + 3 := by rw [(zal_old (by omega)).1]; exact (hk_26)
  refine zw_putR (pc := 222) (x := zn (zmk_26 M)) (Or.inr ⟨g_M_90, rfl, rfl, rfl⟩) rfl ha (fun _ => rfl) (fun _ => rfl) d_M_init_222 ?_
  have hk_27 : (zsh (zmk_27 M) 81).1 = 11 + 3 := ha
  show zW l m_M_init X (zmk_27 M) 225 [some (.ref 81)] [] Q
  have a27 : zn (zmk_27 M) = zn (zmk_26 M) + 1 := (zn_sF (zal (zmk_26 M) 1 128) 81 49 _).trans (zn_al (zmk_26 M) 1 128)
  have b27 : zw (zmk_27 M) = zw (zmk_26 M) + 128 := (zw_sF (zal (zmk_26 M) 1 128) 81 49 _).trans (zw_al (zmk_26 M) 1 128)
  refine zw_aload_n (pc := 225) (n := 0) (x := 81) rfl d_M_init_225 ?_
  refine zw_bipush (pc := 226) (v := nI 64) (by decide) d_M_init_226 ?_
  have hz : zn (zmk_27 M) = 82 + 25 := by omega
  have hw : zw (zmk_27 M) = zw M + 11642 := by omega
  refine zw_newa (pc := 228) (t := 2) (N := 64) (Or.inr ⟨rfl, rfl⟩) (by decide) (by decide) (by decide) (by omega) (by omega) (by omega) d_M_init_228 ?_
  have ha : (zsh (zal (zmk_27 M) 2 64) 81).1 = 11 + 3 := by rw [(zal_old (by omega)).1]; exact (hk_27)
  refine zw_putR (pc := 230) (x := zn (zmk_27 M)) (Or.inr ⟨g_M_93, rfl, rfl, rfl⟩) rfl ha (fun _ => rfl) (fun _ => rfl) d_M_init_230 ?_
  have hk_28 : (zsh (zmk_28 M) 81).1 = 11 + 3 := ha
  show zW l m_M_init X (zmk_28 M) 233 [some (.ref 81)] [] Q
  have a28 : zn (zmk_28 M) = zn (zmk_27 M) + 1 := (zn_sF (zal (zmk_27 M) 2 64) 81 50 _).trans (zn_al (zmk_27 M) 2 64)
  have b28 : zw (zmk_28 M) = zw (zmk_27 M) + 64 := (zw_sF (zal (zmk_27 M) 2 64) 81 50 _).trans (zw_al (zmk_27 M) 2 64)
  refine zw_aload_n (pc := 233) (n := 0) (x := 81) rfl d_M_init_233 ?_
  refine zw_bipush (pc := 234) (v := nI 64) (by decide) d_M_init_234 ?_
  have hz : zn (zmk_28 M) = 82 + 26 := by omega
  have hw : zw (zmk_28 M) = zw M + 11706 := by omega
  refine zw_newa (pc := 236) (t := 2) (N := 64) (Or.inr ⟨rfl, rfl⟩) (by decide) (by decide) (by decide) (by omega) (by omega) (by omega) d_M_init_236 ?_
  have ha : (zsh (zal (zmk_28 M) 2 64) 81).1 = 11 + 3 := by rw [(zal_old (by omega)).1]; exact (hk_28)
  refine zw_putR (pc := 238) (x := zn (zmk_28 M)) (Or.inr ⟨g_M_96, rfl, rfl, rfl⟩) rfl ha (fun _ => rfl) (fun _ => rfl) d_M_init_238 ?_
  have hk_29 : (zsh (zmk_29 M) 81).1 = 11 + 3 := ha
  show zW l m_M_init X (zmk_29 M) 241 [some (.ref 81)] [] Q
  have a29 : zn (zmk_29 M) = zn (zmk_28 M) + 1 := (zn_sF (zal (zmk_28 M) 2 64) 81 51 _).trans (zn_al (zmk_28 M) 2 64)
  have b29 : zw (zmk_29 M) = zw (zmk_28 M) + 64 := (zw_sF (zal (zmk_28 M) 2 64) 81 51 _).trans (zw_al (zmk_28 M) 2 64)
  refine zw_aload_n (pc := 241) (n := 0) (x := 81) rfl d_M_init_241 ?_
  refine zw_bipush (pc := 242) (v := nI 24) (by decide) d_M_init_242 ?_
  have hz : zn (zmk_29 M) = 82 + 27 := by omega
  have hw : zw (zmk_29 M) = zw M + 11770 := by omega
  refine zw_newa (pc := 244) (t := 1) (N := 24) (Or.inl ⟨rfl, rfl⟩) (by decide) (by decide) (by decide) (by omega) (by omega) (by omega) d_M_init_244 ?_
  have ha : (zsh (zal (zmk_29 M) 1 24) 81).1 = 11 + 3 := by rw [(zal_old (by omega)).1]; exact (hk_29)
  refine zw_putR (pc := 246) (x := zn (zmk_29 M)) (Or.inr ⟨g_M_99, rfl, rfl, rfl⟩) rfl ha (fun _ => rfl) (fun _ => rfl) d_M_init_246 ?_
  have hk_30 : (zsh (zmk_30 M) 81).1 = 11 + 3 := ha
  show zW l m_M_init X (zmk_30 M) 249 [some (.ref 81)] [] Q
  have a30 : zn (zmk_30 M) = zn (zmk_29 M) + 1 := (zn_sF (zal (zmk_29 M) 1 24) 81 54 _).trans (zn_al (zmk_29 M) 1 24)
  have b30 : zw (zmk_30 M) = zw (zmk_29 M) + 24 := (zw_sF (zal (zmk_29 M) 1 24) 81 54 _).trans (zw_al (zmk_29 M) 1 24)
  refine zw_aload_n (pc := 249) (n := 0) (x := 81) rfl d_M_init_249 ?_
  refine zw_ldc (pc := 250) (v := nI 65536) k_M_102 d_M_init_250 ?_
  have hz : zn (zmk_30 M) = 82 + 28 := by omega
  have hw : zw (zmk_30 M) = zw M + 11794 := by omega
  refine zw_newa (pc := 252) (t := 1) (N := 65536) (Or.inl ⟨rfl, rfl⟩) (by decide) (by decide) (by decide) (by omega) (by omega) (by omega) d_M_init_252 ?_
  have ha : (zsh (zal (zmk_30 M) 1 65536) 81).1 = 11 + 3 := by rw [(zal_old (by omega)).1]; exact (hk_30)
  refine zw_putR (pc := 254) (x := zn (zmk_30 M)) (Or.inr ⟨g_M_103, rfl, rfl, rfl⟩) rfl ha (fun _ => rfl) (fun _ => rfl) d_M_init_254 ?_
  have hk_31 : (zsh (zmk_31 M) 81).1 = 11 + 3 := ha
  show zW l m_M_init X (zmk_31 M) 257 [some (.ref 81)] [] Q
  have a31 : zn (zmk_31 M) = zn (zmk_30 M) + 1 := (zn_sF (zal (zmk_30 M) 1 65536) 81 56 _).trans (zn_al (zmk_30 M) 1 65536)
  have b31 : zw (zmk_31 M) = zw (zmk_30 M) + 65536 := (zw_sF (zal (zmk_30 M) 1 65536) 81 56 _).trans (zw_al (zmk_30 M) 1 65536)
  refine zw_aload_n (pc := 257) (n := 0) (x := 81) rfl d_M_init_257 ?_
  refine zw_sipush (pc := 258) (v := nI 768) (by decide) d_M_init_258 ?_
  have hz : zn (zmk_31 M) = 82 + 29 := by omega
  have hw : zw (zmk_31 M) = zw M + 77330 := by omega
  refine zw_newa (pc := 261) (t := 2) (N := 768) (Or.inr ⟨rfl, rfl⟩) (by decide) (by decide) (by decide) (by omega) (by omega) (by omega) d_M_init_261 ?_
  have ha : (zsh (zal (zmk_31 M) 2 768) 81).1 = 11 + 3 := by rw [(zal_old (by omega)).1]; exact (hk_31)
  refine zw_putR (pc := 263) (x := zn (zmk_31 M)) (Or.inr ⟨g_M_106, rfl, rfl, rfl⟩) rfl ha (fun _ => rfl) (fun _ => rfl) d_M_init_263 ?_
  have hk_32 : (zsh (zmk_32 M) 81).1 = 11 + 3 := ha
  show zW l m_M_init X (zmk_32 M) 266 [some (.ref 81)] [] Q
  have a32 : zn (zmk_32 M) = zn (zmk_31 M) + 1 := (zn_sF (zal (zmk_31 M) 2 768) 81 59 _).trans (zn_al (zmk_31 M) 2 768)
  have b32 : zw (zmk_32 M) = zw (zmk_31 M) + 768 := (zw_sF (zal (zmk_31 M) 2 768) 81 59 _).trans (zw_al (zmk_31 M) 2 768)
  refine zw_aload_n (pc := 266) (n := 0) (x := 81) rfl d_M_init_266 ?_
  refine zw_bipush (pc := 267) (v := nI 6) (by decide) d_M_init_267 ?_
  have hz : zn (zmk_32 M) = 82 + 30 := by omega
  have hw : zw (zmk_32 M) = zw M + 78098 := by omega
  refine zw_newa (pc := 269) (t := 1) (N := 6) (Or.inl ⟨rfl, rfl⟩) (by decide) (by decide) (by decide) (by omega) (by omega) (by omega) d_M_init_269 ?_
  have ha : (zsh (zal (zmk_32 M) 1 6) 81).1 = 11 + 3 := by rw [(zal_old (by omega)).1]; exact (hk_32)
  refine zw_putR (pc := 271) (x := zn (zmk_32 M)) (Or.inr ⟨g_M_109, rfl, rfl, rfl⟩) rfl ha (fun _ => rfl) (fun _ => rfl) d_M_init_271 ?_
  have hk_33 : (zsh (zmk_33 M) 81).1 = 11 + 3 := ha
  show zW l m_M_init X (zmk_33 M) 274 [some (.ref 81)] [] Q
  have a33 : zn (zmk_33 M) = zn (zmk_32 M) + 1 := (zn_sF (zal (zmk_32 M) 1 6) 81 61 _).trans (zn_al (zmk_32 M) 1 6)
  have b33 : zw (zmk_33 M) = zw (zmk_32 M) + 6 := (zw_sF (zal (zmk_32 M) 1 6) 81 61 _).trans (zw_al (zmk_32 M) 1 6)
  refine zw_aload_n (pc := 274) (n := 0) (x := 81) rfl d_M_init_274 ?_
  refine zw_bipush (pc := 275) (v := nI 7) (by decide) d_M_init_275 ?_
  have hz : zn (zmk_33 M) = 82 + 31 := by omega
  have hw : zw (zmk_33 M) = zw M + 78104 := by omega
  refine zw_newa (pc := 277) (t := 1) (N := 7) (Or.inl ⟨rfl, rfl⟩) (by decide) (by decide) (by decide) (by omega) (by omega) (by omega) d_M_init_277 ?_
  have ha : (zsh (zal (zmk_33 M) 1 7) 81).1 = 11 + 3 := by rw [(zal_old (by omega)).1]; exact (hk_33)
  refine zw_putR (pc := 279) (x := zn (zmk_33 M)) (Or.inr ⟨g_M_112, rfl, rfl, rfl⟩) rfl ha (fun _ => rfl) (fun _ => rfl) d_M_init_279 ?_
  have hk_34 : (zsh (zmk_34 M) 81).1 = 11 + 3 := ha
  show zW l m_M_init X (zmk_34 M) 282 [some (.ref 81)] [] Q
  have a34 : zn (zmk_34 M) = zn (zmk_33 M) + 1 := (zn_sF (zal (zmk_33 M) 1 7) 81 62 _).trans (zn_al (zmk_33 M) 1 7)
  have b34 : zw (zmk_34 M) = zw (zmk_33 M) + 7 := (zw_sF (zal (zmk_33 M) 1 7) 81 62 _).trans (zw_al (zmk_33 M) 1 7)
  refine zw_aload_n (pc := 282) (n := 0) (x := 81) rfl d_M_init_282 ?_
  refine zw_iconst (pc := 283) (v := 1) (by decide) d_M_init_283 ?_
  refine zw_putI (pc := 284) f_M_115 rfl rfl (hk_34) rfl rfl d_M_init_284 ?_
  have hk_35 : (zsh (zmk_35 M) 81).1 = 11 + 3 := (hk_34)
  show zW l m_M_init X (zmk_35 M) 287 [some (.ref 81)] [] Q
  have a35 : zn (zmk_35 M) = zn (zmk_34 M) := rfl
  have b35 : zw (zmk_35 M) = zw (zmk_34 M) := rfl
  exact kk
