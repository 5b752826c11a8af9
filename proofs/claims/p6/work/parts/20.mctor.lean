theorem zw_al (M : zMem) (t n : Nat) : zw (zal M t n) = zw M + n := rfl
theorem zn_al (M : zMem) (t n : Nat) : zn (zal M t n) = zn M + 1 := rfl
theorem zw_sF (M : zMem) (q j : Nat) (v : Option Nat) : zw (zsF M q j v) = zw M := rfl
theorem zn_sF (M : zMem) (q j : Nat) (v : Option Nat) : zn (zsF M q j v) = zn M := rfl
def zMtab : List (Nat × Nat × Nat × Nat) := [(0, 82, 1, 700), (15, 83, 1, 24), (19, 84, 1, 24), (21, 85, 1, 144), (22, 86, 1, 6), (23, 87, 1, 576), (24, 88, 1, 24), (27, 89, 1, 128), (28, 90, 1, 128), (29, 91, 1, 64), (30, 92, 1, 64), (31, 93, 1, 4096), (32, 94, 1, 1536), (33, 95, 2, 2560), (34, 96, 2, 64), (35, 97, 2, 64), (36, 98, 2, 64), (37, 99, 2, 64), (40, 100, 1, 80), (44, 101, 2, 8), (45, 102, 2, 512), (46, 103, 2, 8), (47, 104, 2, 512), (48, 105, 2, 64), (49, 106, 1, 128), (50, 107, 2, 64), (51, 108, 2, 64), (54, 109, 1, 24), (56, 110, 1, 65536), (59, 111, 2, 768), (61, 112, 1, 6), (62, 113, 1, 7)]
def zMt (M : zMem) : Prop := zn M = 114 ∧ (zsh M 81).1 = 14 ∧ ∀ e ∈ zMtab, zf M 81 e.1 = some e.2.1 ∧ zsh M e.2.1 = (e.2.2.1, e.2.2.2)
def zmk_1 (M : zMem) : zMem := zsF (zal M 1 700) 81 0 (some (zn M))
def zmk_2 (M : zMem) : zMem := zsI (zmk_1 M) 81 8 (-1)
def zmk_3 (M : zMem) : zMem := zsI (zmk_2 M) 81 10 (-1)
def zmk_4 (M : zMem) : zMem := zsF (zal (zmk_3 M) 1 24) 81 15 (some (zn (zmk_3 M)))
def zmk_5 (M : zMem) : zMem := zsF (zal (zmk_4 M) 1 24) 81 19 (some (zn (zmk_4 M)))
def zmk_6 (M : zMem) : zMem := zsF (zal (zmk_5 M) 1 144) 81 21 (some (zn (zmk_5 M)))
def zmk_7 (M : zMem) : zMem := zsF (zal (zmk_6 M) 1 6) 81 22 (some (zn (zmk_6 M)))
def zmk_8 (M : zMem) : zMem := zsF (zal (zmk_7 M) 1 576) 81 23 (some (zn (zmk_7 M)))
def zmk_9 (M : zMem) : zMem := zsF (zal (zmk_8 M) 1 24) 81 24 (some (zn (zmk_8 M)))
def zmk_10 (M : zMem) : zMem := zsF (zal (zmk_9 M) 1 128) 81 27 (some (zn (zmk_9 M)))
def zmk_11 (M : zMem) : zMem := zsF (zal (zmk_10 M) 1 128) 81 28 (some (zn (zmk_10 M)))
def zmk_12 (M : zMem) : zMem := zsF (zal (zmk_11 M) 1 64) 81 29 (some (zn (zmk_11 M)))
def zmk_13 (M : zMem) : zMem := zsF (zal (zmk_12 M) 1 64) 81 30 (some (zn (zmk_12 M)))
def zmk_14 (M : zMem) : zMem := zsF (zal (zmk_13 M) 1 4096) 81 31 (some (zn (zmk_13 M)))
def zmk_15 (M : zMem) : zMem := zsF (zal (zmk_14 M) 1 1536) 81 32 (some (zn (zmk_14 M)))
def zmk_16 (M : zMem) : zMem := zsF (zal (zmk_15 M) 2 2560) 81 33 (some (zn (zmk_15 M)))
def zmk_17 (M : zMem) : zMem := zsF (zal (zmk_16 M) 2 64) 81 34 (some (zn (zmk_16 M)))
def zmk_18 (M : zMem) : zMem := zsF (zal (zmk_17 M) 2 64) 81 35 (some (zn (zmk_17 M)))
def zmk_19 (M : zMem) : zMem := zsF (zal (zmk_18 M) 2 64) 81 36 (some (zn (zmk_18 M)))
def zmk_20 (M : zMem) : zMem := zsF (zal (zmk_19 M) 2 64) 81 37 (some (zn (zmk_19 M)))
def zmk_21 (M : zMem) : zMem := zsF (zal (zmk_20 M) 1 80) 81 40 (some (zn (zmk_20 M)))
def zmk_22 (M : zMem) : zMem := zsF (zal (zmk_21 M) 2 8) 81 44 (some (zn (zmk_21 M)))
def zmk_23 (M : zMem) : zMem := zsF (zal (zmk_22 M) 2 512) 81 45 (some (zn (zmk_22 M)))
def zmk_24 (M : zMem) : zMem := zsF (zal (zmk_23 M) 2 8) 81 46 (some (zn (zmk_23 M)))
def zmk_25 (M : zMem) : zMem := zsF (zal (zmk_24 M) 2 512) 81 47 (some (zn (zmk_24 M)))
def zmk_26 (M : zMem) : zMem := zsF (zal (zmk_25 M) 2 64) 81 48 (some (zn (zmk_25 M)))
def zmk_27 (M : zMem) : zMem := zsF (zal (zmk_26 M) 1 128) 81 49 (some (zn (zmk_26 M)))
def zmk_28 (M : zMem) : zMem := zsF (zal (zmk_27 M) 2 64) 81 50 (some (zn (zmk_27 M)))
def zmk_29 (M : zMem) : zMem := zsF (zal (zmk_28 M) 2 64) 81 51 (some (zn (zmk_28 M)))
def zmk_30 (M : zMem) : zMem := zsF (zal (zmk_29 M) 1 24) 81 54 (some (zn (zmk_29 M)))
def zmk_31 (M : zMem) : zMem := zsF (zal (zmk_30 M) 1 65536) 81 56 (some (zn (zmk_30 M)))
def zmk_32 (M : zMem) : zMem := zsF (zal (zmk_31 M) 2 768) 81 59 (some (zn (zmk_31 M)))
def zmk_33 (M : zMem) : zMem := zsF (zal (zmk_32 M) 1 6) 81 61 (some (zn (zmk_32 M)))
def zmk_34 (M : zMem) : zMem := zsF (zal (zmk_33 M) 1 7) 81 62 (some (zn (zmk_33 M)))
def zmk_35 (M : zMem) : zMem := zsI (zmk_34 M) 81 12 1
def zmk (M : zMem) : zMem := zmk_35 M
theorem zmk_nw (M : zMem) : zn (zmk M) = zn M + 32 ∧ zw (zmk M) = zw M + 78111 := by
  have a1 : zn (zmk_1 M) = zn M + 1 := (zn_sF (zal M 1 700) 81 0 _).trans (zn_al M 1 700)
  have b1 : zw (zmk_1 M) = zw M + 700 := (zw_sF (zal M 1 700) 81 0 _).trans (zw_al M 1 700)
  have a2 : zn (zmk_2 M) = zn (zmk_1 M) := rfl
  have b2 : zw (zmk_2 M) = zw (zmk_1 M) := rfl
  have a3 : zn (zmk_3 M) = zn (zmk_2 M) := rfl
  have b3 : zw (zmk_3 M) = zw (zmk_2 M) := rfl
  have a4 : zn (zmk_4 M) = zn (zmk_3 M) + 1 := (zn_sF (zal (zmk_3 M) 1 24) 81 15 _).trans (zn_al (zmk_3 M) 1 24)
  have b4 : zw (zmk_4 M) = zw (zmk_3 M) + 24 := (zw_sF (zal (zmk_3 M) 1 24) 81 15 _).trans (zw_al (zmk_3 M) 1 24)
  have a5 : zn (zmk_5 M) = zn (zmk_4 M) + 1 := (zn_sF (zal (zmk_4 M) 1 24) 81 19 _).trans (zn_al (zmk_4 M) 1 24)
  have b5 : zw (zmk_5 M) = zw (zmk_4 M) + 24 := (zw_sF (zal (zmk_4 M) 1 24) 81 19 _).trans (zw_al (zmk_4 M) 1 24)
  have a6 : zn (zmk_6 M) = zn (zmk_5 M) + 1 := (zn_sF (zal (zmk_5 M) 1 144) 81 21 _).trans (zn_al (zmk_5 M) 1 144)
  have b6 : zw (zmk_6 M) = zw (zmk_5 M) + 144 := (zw_sF (zal (zmk_5 M) 1 144) 81 21 _).trans (zw_al (zmk_5 M) 1 144)
  have a7 : zn (zmk_7 M) = zn (zmk_6 M) + 1 := (zn_sF (zal (zmk_6 M) 1 6) 81 22 _).trans (zn_al (zmk_6 M) 1 6)
  have b7 : zw (zmk_7 M) = zw (zmk_6 M) + 6 := (zw_sF (zal (zmk_6 M) 1 6) 81 22 _).trans (zw_al (zmk_6 M) 1 6)
  have a8 : zn (zmk_8 M) = zn (zmk_7 M) + 1 := (zn_sF (zal (zmk_7 M) 1 576) 81 23 _).trans (zn_al (zmk_7 M) 1 576)
  have b8 : zw (zmk_8 M) = zw (zmk_7 M) + 576 := (zw_sF (zal (zmk_7 M) 1 576) 81 23 _).trans (zw_al (zmk_7 M) 1 576)
  have a9 : zn (zmk_9 M) = zn (zmk_8 M) + 1 := (zn_sF (zal (zmk_8 M) 1 24) 81 24 _).trans (zn_al (zmk_8 M) 1 24)
  have b9 : zw (zmk_9 M) = zw (zmk_8 M) + 24 := (zw_sF (zal (zmk_8 M) 1 24) 81 24 _).trans (zw_al (zmk_8 M) 1 24)
  have a10 : zn (zmk_10 M) = zn (zmk_9 M) + 1 := (zn_sF (zal (zmk_9 M) 1 128) 81 27 _).trans (zn_al (zmk_9 M) 1 128)
  have b10 : zw (zmk_10 M) = zw (zmk_9 M) + 128 := (zw_sF (zal (zmk_9 M) 1 128) 81 27 _).trans (zw_al (zmk_9 M) 1 128)
  have a11 : zn (zmk_11 M) = zn (zmk_10 M) + 1 := (zn_sF (zal (zmk_10 M) 1 128) 81 28 _).trans (zn_al (zmk_10 M) 1 128)
  have b11 : zw (zmk_11 M) = zw (zmk_10 M) + 128 := (zw_sF (zal (zmk_10 M) 1 128) 81 28 _).trans (zw_al (zmk_10 M) 1 128)
  have a12 : zn (zmk_12 M) = zn (zmk_11 M) + 1 := (zn_sF (zal (zmk_11 M) 1 64) 81 29 _).trans (zn_al (zmk_11 M) 1 64)
  have b12 : zw (zmk_12 M) = zw (zmk_11 M) + 64 := (zw_sF (zal (zmk_11 M) 1 64) 81 29 _).trans (zw_al (zmk_11 M) 1 64)
  have a13 : zn (zmk_13 M) = zn (zmk_12 M) + 1 := (zn_sF (zal (zmk_12 M) 1 64) 81 30 _).trans (zn_al (zmk_12 M) 1 64)
  have b13 : zw (zmk_13 M) = zw (zmk_12 M) + 64 := (zw_sF (zal (zmk_12 M) 1 64) 81 30 _).trans (zw_al (zmk_12 M) 1 64)
  have a14 : zn (zmk_14 M) = zn (zmk_13 M) + 1 := (zn_sF (zal (zmk_13 M) 1 4096) 81 31 _).trans (zn_al (zmk_13 M) 1 4096)
  have b14 : zw (zmk_14 M) = zw (zmk_13 M) + 4096 := (zw_sF (zal (zmk_13 M) 1 4096) 81 31 _).trans (zw_al (zmk_13 M) 1 4096)
  have a15 : zn (zmk_15 M) = zn (zmk_14 M) + 1 := (zn_sF (zal (zmk_14 M) 1 1536) 81 32 _).trans (zn_al (zmk_14 M) 1 1536)
  have b15 : zw (zmk_15 M) = zw (zmk_14 M) + 1536 := (zw_sF (zal (zmk_14 M) 1 1536) 81 32 _).trans (zw_al (zmk_14 M) 1 1536)
  have a16 : zn (zmk_16 M) = zn (zmk_15 M) + 1 := (zn_sF (zal (zmk_15 M) 2 2560) 81 33 _).trans (zn_al (zmk_15 M) 2 2560)
  have b16 : zw (zmk_16 M) = zw (zmk_15 M) + 2560 := (zw_sF (zal (zmk_15 M) 2 2560) 81 33 _).trans (zw_al (zmk_15 M) 2 2560)
  have a17 : zn (zmk_17 M) = zn (zmk_16 M) + 1 := (zn_sF (zal (zmk_16 M) 2 64) 81 34 _).trans (zn_al (zmk_16 M) 2 64)
  have b17 : zw (zmk_17 M) = zw (zmk_16 M) + 64 := (zw_sF (zal (zmk_16 M) 2 64) 81 34 _).trans (zw_al (zmk_16 M) 2 64)
  have a18 : zn (zmk_18 M) = zn (zmk_17 M) + 1 := (zn_sF (zal (zmk_17 M) 2 64) 81 35 _).trans (zn_al (zmk_17 M) 2 64)
  have b18 : zw (zmk_18 M) = zw (zmk_17 M) + 64 := (zw_sF (zal (zmk_17 M) 2 64) 81 35 _).trans (zw_al (zmk_17 M) 2 64)
  have a19 : zn (zmk_19 M) = zn (zmk_18 M) + 1 := (zn_sF (zal (zmk_18 M) 2 64) 81 36 _).trans (zn_al (zmk_18 M) 2 64)
  have b19 : zw (zmk_19 M) = zw (zmk_18 M) + 64 := (zw_sF (zal (zmk_18 M) 2 64) 81 36 _).trans (zw_al (zmk_18 M) 2 64)
  have a20 : zn (zmk_20 M) = zn (zmk_19 M) + 1 := (zn_sF (zal (zmk_19 M) 2 64) 81 37 _).trans (zn_al (zmk_19 M) 2 64)
  have b20 : zw (zmk_20 M) = zw (zmk_19 M) + 64 := (zw_sF (zal (zmk_19 M) 2 64) 81 37 _).trans (zw_al (zmk_19 M) 2 64)
  have a21 : zn (zmk_21 M) = zn (zmk_20 M) + 1 := (zn_sF (zal (zmk_20 M) 1 80) 81 40 _).trans (zn_al (zmk_20 M) 1 80)
  have b21 : zw (zmk_21 M) = zw (zmk_20 M) + 80 := (zw_sF (zal (zmk_20 M) 1 80) 81 40 _).trans (zw_al (zmk_20 M) 1 80)
  have a22 : zn (zmk_22 M) = zn (zmk_21 M) + 1 := (zn_sF (zal (zmk_21 M) 2 8) 81 44 _).trans (zn_al (zmk_21 M) 2 8)
  have b22 : zw (zmk_22 M) = zw (zmk_21 M) + 8 := (zw_sF (zal (zmk_21 M) 2 8) 81 44 _).trans (zw_al (zmk_21 M) 2 8)
  have a23 : zn (zmk_23 M) = zn (zmk_22 M) + 1 := (zn_sF (zal (zmk_22 M) 2 512) 81 45 _).trans (zn_al (zmk_22 M) 2 512)
  have b23 : zw (zmk_23 M) = zw (zmk_22 M) + 512 := (zw_sF (zal (zmk_22 M) 2 512) 81 45 _).trans (zw_al (zmk_22 M) 2 512)
  have a24 : zn (zmk_24 M) = zn (zmk_23 M) + 1 := (zn_sF (zal (zmk_23 M) 2 8) 81 46 _).trans (zn_al (zmk_23 M) 2 8)
  have b24 : zw (zmk_24 M) = zw (zmk_23 M) + 8 := (zw_sF (zal (zmk_23 M) 2 8) 81 46 _).trans (zw_al (zmk_23 M) 2 8)
  have a25 : zn (zmk_25 M) = zn (zmk_24 M) + 1 := (zn_sF (zal (zmk_24 M) 2 512) 81 47 _).trans (zn_al (zmk_24 M) 2 512)
  have b25 : zw (zmk_25 M) = zw (zmk_24 M) + 512 := (zw_sF (zal (zmk_24 M) 2 512) 81 47 _).trans (zw_al (zmk_24 M) 2 512)
  have a26 : zn (zmk_26 M) = zn (zmk_25 M) + 1 := (zn_sF (zal (zmk_25 M) 2 64) 81 48 _).trans (zn_al (zmk_25 M) 2 64)
  have b26 : zw (zmk_26 M) = zw (zmk_25 M) + 64 := (zw_sF (zal (zmk_25 M) 2 64) 81 48 _).trans (zw_al (zmk_25 M) 2 64)
  have a27 : zn (zmk_27 M) = zn (zmk_26 M) + 1 := (zn_sF (zal (zmk_26 M) 1 128) 81 49 _).trans (zn_al (zmk_26 M) 1 128)
  have b27 : zw (zmk_27 M) = zw (zmk_26 M) + 128 := (zw_sF (zal (zmk_26 M) 1 128) 81 49 _).trans (zw_al (zmk_26 M) 1 128)
  have a28 : zn (zmk_28 M) = zn (zmk_27 M) + 1 := (zn_sF (zal (zmk_27 M) 2 64) 81 50 _).trans (zn_al (zmk_27 M) 2 64)
  have b28 : zw (zmk_28 M) = zw (zmk_27 M) + 64 := (zw_sF (zal (zmk_27 M) 2 64) 81 50 _).trans (zw_al (zmk_27 M) 2 64)
  have a29 : zn (zmk_29 M) = zn (zmk_28 M) + 1 := (zn_sF (zal (zmk_28 M) 2 64) 81 51 _).trans (zn_al (zmk_28 M) 2 64)
  have b29 : zw (zmk_29 M) = zw (zmk_28 M) + 64 := (zw_sF (zal (zmk_28 M) 2 64) 81 51 _).trans (zw_al (zmk_28 M) 2 64)
  have a30 : zn (zmk_30 M) = zn (zmk_29 M) + 1 := (zn_sF (zal (zmk_29 M) 1 24) 81 54 _).trans (zn_al (zmk_29 M) 1 24)
  have b30 : zw (zmk_30 M) = zw (zmk_29 M) + 24 := (zw_sF (zal (zmk_29 M) 1 24) 81 54 _).trans (zw_al (zmk_29 M) 1 24)
  have a31 : zn (zmk_31 M) = zn (zmk_30 M) + 1 := (zn_sF (zal (zmk_30 M) 1 65536) 81 56 _).trans (zn_al (zmk_30 M) 1 65536)
  have b31 : zw (zmk_31 M) = zw (zmk_30 M) + 65536 := (zw_sF (zal (zmk_30 M) 1 65536) 81 56 _).trans (zw_al (zmk_30 M) 1 65536)
  have a32 : zn (zmk_32 M) = zn (zmk_31 M) + 1 := (zn_sF (zal (zmk_31 M) 2 768) 81 59 _).trans (zn_al (zmk_31 M) 2 768)
  have b32 : zw (zmk_32 M) = zw (zmk_31 M) + 768 := (zw_sF (zal (zmk_31 M) 2 768) 81 59 _).trans (zw_al (zmk_31 M) 2 768)
  have a33 : zn (zmk_33 M) = zn (zmk_32 M) + 1 := (zn_sF (zal (zmk_32 M) 1 6) 81 61 _).trans (zn_al (zmk_32 M) 1 6)
  have b33 : zw (zmk_33 M) = zw (zmk_32 M) + 6 := (zw_sF (zal (zmk_32 M) 1 6) 81 61 _).trans (zw_al (zmk_32 M) 1 6)
  have a34 : zn (zmk_34 M) = zn (zmk_33 M) + 1 := (zn_sF (zal (zmk_33 M) 1 7) 81 62 _).trans (zn_al (zmk_33 M) 1 7)
  have b34 : zw (zmk_34 M) = zw (zmk_33 M) + 7 := (zw_sF (zal (zmk_33 M) 1 7) 81 62 _).trans (zw_al (zmk_33 M) 1 7)
  have a35 : zn (zmk_35 M) = zn (zmk_34 M) := rfl
  have b35 : zw (zmk_35 M) = zw (zmk_34 M) := rfl
  show zn (zmk_35 M) = _ ∧ zw (zmk_35 M) = _
  (exact zo_291 a1 a10 a11 a12 a13 a14 a15 a16 a17 a18 a19 a2 a20 a21 a22 a23 a24 a25 a26 a27 a28 a29 a3 a30 a31 a32 a33 a34 a35 a4 a5 a6 a7 a8 a9 b1 b10 b11 b12 b13 b14 b15 b16 b17 b18 b19 b2 b20 b21 b22 b23 b24 b25 b26 b27 b28 b29 b3 b30 b31 b32 b33 b34 b35 b4 b5 b6 b7 b8 b9)
theorem zmk_s {M : zMem} {q t n j : Nat} {v : Option Nat} (h : 82 ≤ zn M) (hq : q < 81) : zsh (zsF (zal M t n) 81 j v) q = zsh M q ∧ zf (zsF (zal M t n) 81 j v) q = zf M q ∧ zi (zsF (zal M t n) 81 j v) q = zi M q ∧ zj (zsF (zal M t n) 81 j v) q = zj M q := by
  have hne : ¬ q = M.1.1 := by
    have : zn M = M.1.1 := rfl
    (exact zo_292 h hq this)
  refine ⟨?_, ?_, ?_, ?_⟩
  · show (zal M t n).2.1 q = _
    simp [zal, zsh, hne]
  · show zup2 (zf (zal M t n)) 81 j v q = _
    rw [zup2_q (by (exact zo_293 hq))]
    simp [zal, zf, hne]
  · show (zal M t n).2.2.1 q = _
    simp [zal, zi, hne]
  · show (zal M t n).2.2.2.1 q = _
    simp [zal, zj, hne]
theorem zmk_i {M : zMem} {q j : Nat} {v : Int32} (hq : q < 81) : zsh (zsI M 81 j v) q = zsh M q ∧ zf (zsI M 81 j v) q = zf M q ∧ zi (zsI M 81 j v) q = zi M q ∧ zj (zsI M 81 j v) q = zj M q := ⟨rfl, rfl, zup2_q (by (exact zo_293 hq)), rfl⟩
theorem zmk_tr {M N P : zMem} {q : Nat} (a : zsh N q = zsh M q ∧ zf N q = zf M q ∧ zi N q = zi M q ∧ zj N q = zj M q) (b : zsh P q = zsh N q ∧ zf P q = zf N q ∧ zi P q = zi N q ∧ zj P q = zj N q) : zsh P q = zsh M q ∧ zf P q = zf M q ∧ zi P q = zi M q ∧ zj P q = zj M q := ⟨b.1.trans a.1, b.2.1.trans a.2.1, b.2.2.1.trans a.2.2.1, b.2.2.2.trans a.2.2.2⟩
set_option maxRecDepth 100000 in
theorem zmk_old (M : zMem) (h : zn M = 82) (q : Nat) (hq : q < 81) : zsh (zmk M) q = zsh M q ∧ zf (zmk M) q = zf M q ∧ zi (zmk M) q = zi M q ∧ zj (zmk M) q = zj M q := by
  have e1 : zsh (zmk_1 M) q = zsh M q ∧ zf (zmk_1 M) q = zf M q ∧ zi (zmk_1 M) q = zi M q ∧ zj (zmk_1 M) q = zj M q := (zmk_s (M := M) (by show 82 ≤ zn M + 0; (exact zo_294 h)) hq)
  have e2 : zsh (zmk_2 M) q = zsh M q ∧ zf (zmk_2 M) q = zf M q ∧ zi (zmk_2 M) q = zi M q ∧ zj (zmk_2 M) q = zj M q := zmk_tr e1 (zmk_i hq)
  have e3 : zsh (zmk_3 M) q = zsh M q ∧ zf (zmk_3 M) q = zf M q ∧ zi (zmk_3 M) q = zi M q ∧ zj (zmk_3 M) q = zj M q := zmk_tr e2 (zmk_i hq)
  have e4 : zsh (zmk_4 M) q = zsh M q ∧ zf (zmk_4 M) q = zf M q ∧ zi (zmk_4 M) q = zi M q ∧ zj (zmk_4 M) q = zj M q := zmk_tr e3 (zmk_s (M := (zmk_3 M)) (by show 82 ≤ zn M + 1; (exact zo_295 h)) hq)
  have e5 : zsh (zmk_5 M) q = zsh M q ∧ zf (zmk_5 M) q = zf M q ∧ zi (zmk_5 M) q = zi M q ∧ zj (zmk_5 M) q = zj M q := zmk_tr e4 (zmk_s (M := (zmk_4 M)) (by show 82 ≤ zn M + 2; (exact zo_296 h)) hq)
  have e6 : zsh (zmk_6 M) q = zsh M q ∧ zf (zmk_6 M) q = zf M q ∧ zi (zmk_6 M) q = zi M q ∧ zj (zmk_6 M) q = zj M q := zmk_tr e5 (zmk_s (M := (zmk_5 M)) (by show 82 ≤ zn M + 3; (exact zo_297 h)) hq)
  have e7 : zsh (zmk_7 M) q = zsh M q ∧ zf (zmk_7 M) q = zf M q ∧ zi (zmk_7 M) q = zi M q ∧ zj (zmk_7 M) q = zj M q := zmk_tr e6 (zmk_s (M := (zmk_6 M)) (by show 82 ≤ zn M + 4; (exact zo_298 h)) hq)
  have e8 : zsh (zmk_8 M) q = zsh M q ∧ zf (zmk_8 M) q = zf M q ∧ zi (zmk_8 M) q = zi M q ∧ zj (zmk_8 M) q = zj M q := zmk_tr e7 (zmk_s (M := (zmk_7 M)) (by show 82 ≤ zn M + 5; (exact zo_299 h)) hq)
  have e9 : zsh (zmk_9 M) q = zsh M q ∧ zf (zmk_9 M) q = zf M q ∧ zi (zmk_9 M) q = zi M q ∧ zj (zmk_9 M) q = zj M q := zmk_tr e8 (zmk_s (M := (zmk_8 M)) (by show 82 ≤ zn M + 6; (exact zo_300 h)) hq)
  have e10 : zsh (zmk_10 M) q = zsh M q ∧ zf (zmk_10 M) q = zf M q ∧ zi (zmk_10 M) q = zi M q ∧ zj (zmk_10 M) q = zj M q := zmk_tr e9 (zmk_s (M := (zmk_9 M)) (by show 82 ≤ zn M + 7; (exact zo_301 h)) hq)
  have e11 : zsh (zmk_11 M) q = zsh M q ∧ zf (zmk_11 M) q = zf M q ∧ zi (zmk_11 M) q = zi M q ∧ zj (zmk_11 M) q = zj M q := zmk_tr e10 (zmk_s (M := (zmk_10 M)) (by show 82 ≤ zn M + 8; (exact zo_302 h)) hq)
  have e12 : zsh (zmk_12 M) q = zsh M q ∧ zf (zmk_12 M) q = zf M q ∧ zi (zmk_12 M) q = zi M q ∧ zj (zmk_12 M) q = zj M q := zmk_tr e11 (zmk_s (M := (zmk_11 M)) (by show 82 ≤ zn M + 9; (exact zo_303 h)) hq)
  have e13 : zsh (zmk_13 M) q = zsh M q ∧ zf (zmk_13 M) q = zf M q ∧ zi (zmk_13 M) q = zi M q ∧ zj (zmk_13 M) q = zj M q := zmk_tr e12 (zmk_s (M := (zmk_12 M)) (by show 82 ≤ zn M + 10; (exact zo_304 h)) hq)
  have e14 : zsh (zmk_14 M) q = zsh M q ∧ zf (zmk_14 M) q = zf M q ∧ zi (zmk_14 M) q = zi M q ∧ zj (zmk_14 M) q = zj M q := zmk_tr e13 (zmk_s (M := (zmk_13 M)) (by show 82 ≤ zn M + 11; (exact zo_305 h)) hq)
  have e15 : zsh (zmk_15 M) q = zsh M q ∧ zf (zmk_15 M) q = zf M q ∧ zi (zmk_15 M) q = zi M q ∧ zj (zmk_15 M) q = zj M q := zmk_tr e14 (zmk_s (M := (zmk_14 M)) (by show 82 ≤ zn M + 12; (exact zo_306 h)) hq)
  have e16 : zsh (zmk_16 M) q = zsh M q ∧ zf (zmk_16 M) q = zf M q ∧ zi (zmk_16 M) q = zi M q ∧ zj (zmk_16 M) q = zj M q := zmk_tr e15 (zmk_s (M := (zmk_15 M)) (by show 82 ≤ zn M + 13; (exact zo_307 h)) hq)
  have e17 : zsh (zmk_17 M) q = zsh M q ∧ zf (zmk_17 M) q = zf M q ∧ zi (zmk_17 M) q = zi M q ∧ zj (zmk_17 M) q = zj M q := zmk_tr e16 (zmk_s (M := (zmk_16 M)) (by show 82 ≤ zn M + 14; (exact zo_308 h)) hq)
  have e18 : zsh (zmk_18 M) q = zsh M q ∧ zf (zmk_18 M) q = zf M q ∧ zi (zmk_18 M) q = zi M q ∧ zj (zmk_18 M) q = zj M q := zmk_tr e17 (zmk_s (M := (zmk_17 M)) (by show 82 ≤ zn M + 15; (exact zo_309 h)) hq)
  have e19 : zsh (zmk_19 M) q = zsh M q ∧ zf (zmk_19 M) q = zf M q ∧ zi (zmk_19 M) q = zi M q ∧ zj (zmk_19 M) q = zj M q := zmk_tr e18 (zmk_s (M := (zmk_18 M)) (by show 82 ≤ zn M + 16; (exact zo_310 h)) hq)
  have e20 : zsh (zmk_20 M) q = zsh M q ∧ zf (zmk_20 M) q = zf M q ∧ zi (zmk_20 M) q = zi M q ∧ zj (zmk_20 M) q = zj M q := zmk_tr e19 (zmk_s (M := (zmk_19 M)) (by show 82 ≤ zn M + 17; (exact zo_311 h)) hq)
  have e21 : zsh (zmk_21 M) q = zsh M q ∧ zf (zmk_21 M) q = zf M q ∧ zi (zmk_21 M) q = zi M q ∧ zj (zmk_21 M) q = zj M q := zmk_tr e20 (zmk_s (M := (zmk_20 M)) (by show 82 ≤ zn M + 18; (exact zo_312 h)) hq)
  have e22 : zsh (zmk_22 M) q = zsh M q ∧ zf (zmk_22 M) q = zf M q ∧ zi (zmk_22 M) q = zi M q ∧ zj (zmk_22 M) q = zj M q := zmk_tr e21 (zmk_s (M := (zmk_21 M)) (by show 82 ≤ zn M + 19; (exact zo_313 h)) hq)
  have e23 : zsh (zmk_23 M) q = zsh M q ∧ zf (zmk_23 M) q = zf M q ∧ zi (zmk_23 M) q = zi M q ∧ zj (zmk_23 M) q = zj M q := zmk_tr e22 (zmk_s (M := (zmk_22 M)) (by show 82 ≤ zn M + 20; (exact zo_314 h)) hq)
  have e24 : zsh (zmk_24 M) q = zsh M q ∧ zf (zmk_24 M) q = zf M q ∧ zi (zmk_24 M) q = zi M q ∧ zj (zmk_24 M) q = zj M q := zmk_tr e23 (zmk_s (M := (zmk_23 M)) (by show 82 ≤ zn M + 21; (exact zo_315 h)) hq)
  have e25 : zsh (zmk_25 M) q = zsh M q ∧ zf (zmk_25 M) q = zf M q ∧ zi (zmk_25 M) q = zi M q ∧ zj (zmk_25 M) q = zj M q := zmk_tr e24 (zmk_s (M := (zmk_24 M)) (by show 82 ≤ zn M + 22; (exact zo_316 h)) hq)
  have e26 : zsh (zmk_26 M) q = zsh M q ∧ zf (zmk_26 M) q = zf M q ∧ zi (zmk_26 M) q = zi M q ∧ zj (zmk_26 M) q = zj M q := zmk_tr e25 (zmk_s (M := (zmk_25 M)) (by show 82 ≤ zn M + 23; (exact zo_317 h)) hq)
  have e27 : zsh (zmk_27 M) q = zsh M q ∧ zf (zmk_27 M) q = zf M q ∧ zi (zmk_27 M) q = zi M q ∧ zj (zmk_27 M) q = zj M q := zmk_tr e26 (zmk_s (M := (zmk_26 M)) (by show 82 ≤ zn M + 24; (exact zo_318 h)) hq)
  have e28 : zsh (zmk_28 M) q = zsh M q ∧ zf (zmk_28 M) q = zf M q ∧ zi (zmk_28 M) q = zi M q ∧ zj (zmk_28 M) q = zj M q := zmk_tr e27 (zmk_s (M := (zmk_27 M)) (by show 82 ≤ zn M + 25; (exact zo_319 h)) hq)
  have e29 : zsh (zmk_29 M) q = zsh M q ∧ zf (zmk_29 M) q = zf M q ∧ zi (zmk_29 M) q = zi M q ∧ zj (zmk_29 M) q = zj M q := zmk_tr e28 (zmk_s (M := (zmk_28 M)) (by show 82 ≤ zn M + 26; (exact zo_320 h)) hq)
  have e30 : zsh (zmk_30 M) q = zsh M q ∧ zf (zmk_30 M) q = zf M q ∧ zi (zmk_30 M) q = zi M q ∧ zj (zmk_30 M) q = zj M q := zmk_tr e29 (zmk_s (M := (zmk_29 M)) (by show 82 ≤ zn M + 27; (exact zo_321 h)) hq)
  have e31 : zsh (zmk_31 M) q = zsh M q ∧ zf (zmk_31 M) q = zf M q ∧ zi (zmk_31 M) q = zi M q ∧ zj (zmk_31 M) q = zj M q := zmk_tr e30 (zmk_s (M := (zmk_30 M)) (by show 82 ≤ zn M + 28; (exact zo_322 h)) hq)
  have e32 : zsh (zmk_32 M) q = zsh M q ∧ zf (zmk_32 M) q = zf M q ∧ zi (zmk_32 M) q = zi M q ∧ zj (zmk_32 M) q = zj M q := zmk_tr e31 (zmk_s (M := (zmk_31 M)) (by show 82 ≤ zn M + 29; (exact zo_323 h)) hq)
  have e33 : zsh (zmk_33 M) q = zsh M q ∧ zf (zmk_33 M) q = zf M q ∧ zi (zmk_33 M) q = zi M q ∧ zj (zmk_33 M) q = zj M q := zmk_tr e32 (zmk_s (M := (zmk_32 M)) (by show 82 ≤ zn M + 30; (exact zo_324 h)) hq)
  have e34 : zsh (zmk_34 M) q = zsh M q ∧ zf (zmk_34 M) q = zf M q ∧ zi (zmk_34 M) q = zi M q ∧ zj (zmk_34 M) q = zj M q := zmk_tr e33 (zmk_s (M := (zmk_33 M)) (by show 82 ≤ zn M + 31; (exact zo_325 h)) hq)
  have e35 : zsh (zmk_35 M) q = zsh M q ∧ zf (zmk_35 M) q = zf M q ∧ zi (zmk_35 M) q = zi M q ∧ zj (zmk_35 M) q = zj M q := zmk_tr e34 (zmk_i hq)
  exact e35
set_option maxRecDepth 100000 in
set_option maxHeartbeats 8000000 in
theorem k_Mpre (l : Launch) (X : Nat × Nat) (Q : Option Value → zMem → Prop) (M : zMem) (h : zn M = 82) (h2 : (zsh M 81).1 = 11 + 3) (hX1 : 114 ≤ X.1) (hX2 : zw M + 78111 ≤ X.2) (kk : zW l m_M_init X (zmk M) 287 [some (.ref 81)] [] Q) : zW l m_M_init X M 0 [some (.ref 81)] [] Q := by
  refine zw_aload_n (pc := 0) (n := 0) (x := 81) rfl (zdal_p dlC_M_init_0 (i := 0) rfl) ?_
  refine zw_objInit (pc := 1) o_M_1 o_in o_co (by decide) (Nat.le_of_ble_eq_true rfl) (zdal_p dlC_M_init_0 (i := 1) rfl) ?_
  have h0 : zn M = 82 := h
  refine zw_aload_n (pc := 4) (n := 0) (x := 81) rfl (zdal_p dlC_M_init_0 (i := 2) rfl) ?_
  refine zw_sipush (pc := 5) (v := nI 700) (by decide) (zdal_p dlC_M_init_0 (i := 3) rfl) ?_
  have hz : zn M = 82 + 0 := h0
  have hw : zw M = zw M + 0 := rfl
  refine zw_newa (pc := 8) (t := 1) (N := 700) (Or.inl ⟨rfl, rfl⟩) (by decide) (by decide) (by decide) (by (exact zo_326 h)) (by (exact zo_327 h hX1)) (by (exact zo_328 hX2)) (zdal_p dlC_M_init_0 (i := 4) rfl) ?_
  have ha : (zsh (zal M 1 700) 81).1 = 11 + 3 := by rw [(zal_old (by (exact zo_329 h))).1]; exact (h2)
  refine zw_putR (pc := 10) (x := zn M) (Or.inr ⟨g_M_7, rfl, rfl, rfl⟩) rfl ha (fun _ => rfl) (fun _ => rfl) (zdal_p dlC_M_init_0 (i := 5) rfl) ?_
  have hk_1 : (zsh (zmk_1 M) 81).1 = 11 + 3 := ha
  show zW l m_M_init X (zmk_1 M) 13 [some (.ref 81)] [] Q
  have a1 : zn (zmk_1 M) = zn M + 1 := (zn_sF (zal M 1 700) 81 0 _).trans (zn_al M 1 700)
  have b1 : zw (zmk_1 M) = zw M + 700 := (zw_sF (zal M 1 700) 81 0 _).trans (zw_al M 1 700)
  refine zw_aload_n (pc := 13) (n := 0) (x := 81) rfl (zdal_p dlC_M_init_0 (i := 6) rfl) ?_
  refine zw_iconst (pc := 14) (v := (-1)) (by decide) (zdal_p dlC_M_init_0 (i := 7) rfl) ?_
  refine zw_putI (pc := 15) f_M_13 rfl rfl (hk_1) rfl rfl (zdal_p dlC_M_init_0 (i := 8) rfl) ?_
  have hk_2 : (zsh (zmk_2 M) 81).1 = 11 + 3 := (hk_1)
  show zW l m_M_init X (zmk_2 M) 18 [some (.ref 81)] [] Q
  have a2 : zn (zmk_2 M) = zn (zmk_1 M) := rfl
  have b2 : zw (zmk_2 M) = zw (zmk_1 M) := rfl
  refine zw_aload_n (pc := 18) (n := 0) (x := 81) rfl (zdal_p dlC_M_init_0 (i := 9) rfl) ?_
  refine zw_iconst (pc := 19) (v := (-1)) (by decide) (zdal_p dlC_M_init_0 (i := 10) rfl) ?_
  refine zw_putI (pc := 20) f_M_17 rfl rfl (hk_2) rfl rfl (zdal_p dlC_M_init_0 (i := 11) rfl) ?_
  have hk_3 : (zsh (zmk_3 M) 81).1 = 11 + 3 := (hk_2)
  show zW l m_M_init X (zmk_3 M) 23 [some (.ref 81)] [] Q
  have a3 : zn (zmk_3 M) = zn (zmk_2 M) := rfl
  have b3 : zw (zmk_3 M) = zw (zmk_2 M) := rfl
  refine zw_aload_n (pc := 23) (n := 0) (x := 81) rfl (zdal_p dlC_M_init_0 (i := 12) rfl) ?_
  refine zw_bipush (pc := 24) (v := nI 24) (by decide) (zdal_p dlC_M_init_0 (i := 13) rfl) ?_
  have hz : zn (zmk_3 M) = 82 + 1 := by (exact zo_330 a1 a2 a3 h)
  have hw : zw (zmk_3 M) = zw M + 700 := by (exact zo_331 b1 b2 b3)
  refine zw_newa (pc := 26) (t := 1) (N := 24) (Or.inl ⟨rfl, rfl⟩) (by decide) (by decide) (by decide) (by (exact zo_332 hz)) (by (exact zo_333 hX1 hz)) (by (exact zo_334 hX2 hw)) (zdal_p dlC_M_init_0 (i := 14) rfl) ?_
  have ha : (zsh (zal (zmk_3 M) 1 24) 81).1 = 11 + 3 := by rw [(zal_old (by (exact zo_335 hz))).1]; exact (hk_3)
  refine zw_putR (pc := 28) (x := zn (zmk_3 M)) (Or.inr ⟨g_M_20, rfl, rfl, rfl⟩) rfl ha (fun _ => rfl) (fun _ => rfl) (zdal_p dlC_M_init_0 (i := 15) rfl) ?_
  have hk_4 : (zsh (zmk_4 M) 81).1 = 11 + 3 := ha
  show zW l m_M_init X (zmk_4 M) 31 [some (.ref 81)] [] Q
  have a4 : zn (zmk_4 M) = zn (zmk_3 M) + 1 := (zn_sF (zal (zmk_3 M) 1 24) 81 15 _).trans (zn_al (zmk_3 M) 1 24)
  have b4 : zw (zmk_4 M) = zw (zmk_3 M) + 24 := (zw_sF (zal (zmk_3 M) 1 24) 81 15 _).trans (zw_al (zmk_3 M) 1 24)
  refine zw_aload_n (pc := 31) (n := 0) (x := 81) rfl (zdal_p dlC_M_init_0 (i := 16) rfl) ?_
  refine zw_bipush (pc := 32) (v := nI 24) (by decide) (zdal_p dlC_M_init_0 (i := 17) rfl) ?_
  have hz : zn (zmk_4 M) = 82 + 2 := by (exact zo_336 a4 hz)
  have hw : zw (zmk_4 M) = zw M + 724 := by (exact zo_337 b4 hw)
  refine zw_newa (pc := 34) (t := 1) (N := 24) (Or.inl ⟨rfl, rfl⟩) (by decide) (by decide) (by decide) (by (exact zo_338 hz)) (by (exact zo_339 hX1 hz)) (by (exact zo_340 hX2 hw)) (zdal_p dlC_M_init_0 (i := 18) rfl) ?_
  have ha : (zsh (zal (zmk_4 M) 1 24) 81).1 = 11 + 3 := by rw [(zal_old (by (exact zo_341 hz))).1]; exact (hk_4)
  refine zw_putR (pc := 36) (x := zn (zmk_4 M)) (Or.inr ⟨g_M_23, rfl, rfl, rfl⟩) rfl ha (fun _ => rfl) (fun _ => rfl) (zdal_p dlC_M_init_0 (i := 19) rfl) ?_
  have hk_5 : (zsh (zmk_5 M) 81).1 = 11 + 3 := ha
  show zW l m_M_init X (zmk_5 M) 39 [some (.ref 81)] [] Q
  have a5 : zn (zmk_5 M) = zn (zmk_4 M) + 1 := (zn_sF (zal (zmk_4 M) 1 24) 81 19 _).trans (zn_al (zmk_4 M) 1 24)
  have b5 : zw (zmk_5 M) = zw (zmk_4 M) + 24 := (zw_sF (zal (zmk_4 M) 1 24) 81 19 _).trans (zw_al (zmk_4 M) 1 24)
  refine zw_aload_n (pc := 39) (n := 0) (x := 81) rfl (zdal_p dlC_M_init_0 (i := 20) rfl) ?_
  refine zw_sipush (pc := 40) (v := nI 144) (by decide) (zdal_p dlC_M_init_0 (i := 21) rfl) ?_
  have hz : zn (zmk_5 M) = 82 + 3 := by (exact zo_342 a5 hz)
  have hw : zw (zmk_5 M) = zw M + 748 := by (exact zo_343 b5 hw)
  refine zw_newa (pc := 43) (t := 1) (N := 144) (Or.inl ⟨rfl, rfl⟩) (by decide) (by decide) (by decide) (by (exact zo_344 hz)) (by (exact zo_345 hX1 hz)) (by (exact zo_346 hX2 hw)) (zdal_p dlC_M_init_0 (i := 22) rfl) ?_
  have ha : (zsh (zal (zmk_5 M) 1 144) 81).1 = 11 + 3 := by rw [(zal_old (by (exact zo_347 hz))).1]; exact (hk_5)
  refine zw_putR (pc := 45) (x := zn (zmk_5 M)) (Or.inr ⟨g_M_26, rfl, rfl, rfl⟩) rfl ha (fun _ => rfl) (fun _ => rfl) (zdal_p dlC_M_init_0 (i := 23) rfl) ?_
  have hk_6 : (zsh (zmk_6 M) 81).1 = 11 + 3 := ha
  show zW l m_M_init X (zmk_6 M) 48 [some (.ref 81)] [] Q
  have a6 : zn (zmk_6 M) = zn (zmk_5 M) + 1 := (zn_sF (zal (zmk_5 M) 1 144) 81 21 _).trans (zn_al (zmk_5 M) 1 144)
  have b6 : zw (zmk_6 M) = zw (zmk_5 M) + 144 := (zw_sF (zal (zmk_5 M) 1 144) 81 21 _).trans (zw_al (zmk_5 M) 1 144)
  refine zw_aload_n (pc := 48) (n := 0) (x := 81) rfl (zdal_p dlC_M_init_1 (i := 0) rfl) ?_
  refine zw_bipush (pc := 49) (v := nI 6) (by decide) (zdal_p dlC_M_init_1 (i := 1) rfl) ?_
  have hz : zn (zmk_6 M) = 82 + 4 := by (exact zo_348 a6 hz)
  have hw : zw (zmk_6 M) = zw M + 892 := by (exact zo_349 b6 hw)
  refine zw_newa (pc := 51) (t := 1) (N := 6) (Or.inl ⟨rfl, rfl⟩) (by decide) (by decide) (by decide) (by (exact zo_350 hz)) (by (exact zo_351 hX1 hz)) (by (exact zo_352 hX2 hw)) (zdal_p dlC_M_init_1 (i := 2) rfl) ?_
  have ha : (zsh (zal (zmk_6 M) 1 6) 81).1 = 11 + 3 := by rw [(zal_old (by (exact zo_353 hz))).1]; exact (hk_6)
  refine zw_putR (pc := 53) (x := zn (zmk_6 M)) (Or.inr ⟨g_M_29, rfl, rfl, rfl⟩) rfl ha (fun _ => rfl) (fun _ => rfl) (zdal_p dlC_M_init_1 (i := 3) rfl) ?_
  have hk_7 : (zsh (zmk_7 M) 81).1 = 11 + 3 := ha
  show zW l m_M_init X (zmk_7 M) 56 [some (.ref 81)] [] Q
  have a7 : zn (zmk_7 M) = zn (zmk_6 M) + 1 := (zn_sF (zal (zmk_6 M) 1 6) 81 22 _).trans (zn_al (zmk_6 M) 1 6)
  have b7 : zw (zmk_7 M) = zw (zmk_6 M) + 6 := (zw_sF (zal (zmk_6 M) 1 6) 81 22 _).trans (zw_al (zmk_6 M) 1 6)
  refine zw_aload_n (pc := 56) (n := 0) (x := 81) rfl (zdal_p dlC_M_init_1 (i := 4) rfl) ?_
  refine zw_sipush (pc := 57) (v := nI 576) (by decide) (zdal_p dlC_M_init_1 (i := 5) rfl) ?_
  have hz : zn (zmk_7 M) = 82 + 5 := by (exact zo_354 a7 hz)
  have hw : zw (zmk_7 M) = zw M + 898 := by (exact zo_355 b7 hw)
  refine zw_newa (pc := 60) (t := 1) (N := 576) (Or.inl ⟨rfl, rfl⟩) (by decide) (by decide) (by decide) (by (exact zo_356 hz)) (by (exact zo_357 hX1 hz)) (by (exact zo_358 hX2 hw)) (zdal_p dlC_M_init_1 (i := 6) rfl) ?_
  have ha : (zsh (zal (zmk_7 M) 1 576) 81).1 = 11 + 3 := by rw [(zal_old (by (exact zo_359 hz))).1]; exact (hk_7)
  refine zw_putR (pc := 62) (x := zn (zmk_7 M)) (Or.inr ⟨g_M_32, rfl, rfl, rfl⟩) rfl ha (fun _ => rfl) (fun _ => rfl) (zdal_p dlC_M_init_1 (i := 7) rfl) ?_
  have hk_8 : (zsh (zmk_8 M) 81).1 = 11 + 3 := ha
  show zW l m_M_init X (zmk_8 M) 65 [some (.ref 81)] [] Q
  have a8 : zn (zmk_8 M) = zn (zmk_7 M) + 1 := (zn_sF (zal (zmk_7 M) 1 576) 81 23 _).trans (zn_al (zmk_7 M) 1 576)
  have b8 : zw (zmk_8 M) = zw (zmk_7 M) + 576 := (zw_sF (zal (zmk_7 M) 1 576) 81 23 _).trans (zw_al (zmk_7 M) 1 576)
  refine zw_aload_n (pc := 65) (n := 0) (x := 81) rfl (zdal_p dlC_M_init_1 (i := 8) rfl) ?_
  refine zw_bipush (pc := 66) (v := nI 24) (by decide) (zdal_p dlC_M_init_1 (i := 9) rfl) ?_
  have hz : zn (zmk_8 M) = 82 + 6 := by (exact zo_360 a8 hz)
  have hw : zw (zmk_8 M) = zw M + 1474 := by (exact zo_361 b8 hw)
  refine zw_newa (pc := 68) (t := 1) (N := 24) (Or.inl ⟨rfl, rfl⟩) (by decide) (by decide) (by decide) (by (exact zo_362 hz)) (by (exact zo_363 hX1 hz)) (by (exact zo_364 hX2 hw)) (zdal_p dlC_M_init_1 (i := 10) rfl) ?_
  have ha : (zsh (zal (zmk_8 M) 1 24) 81).1 = 11 + 3 := by rw [(zal_old (by (exact zo_365 hz))).1]; exact (hk_8)
  refine zw_putR (pc := 70) (x := zn (zmk_8 M)) (Or.inr ⟨g_M_35, rfl, rfl, rfl⟩) rfl ha (fun _ => rfl) (fun _ => rfl) (zdal_p dlC_M_init_1 (i := 11) rfl) ?_
  have hk_9 : (zsh (zmk_9 M) 81).1 = 11 + 3 := ha
  show zW l m_M_init X (zmk_9 M) 73 [some (.ref 81)] [] Q
  have a9 : zn (zmk_9 M) = zn (zmk_8 M) + 1 := (zn_sF (zal (zmk_8 M) 1 24) 81 24 _).trans (zn_al (zmk_8 M) 1 24)
  have b9 : zw (zmk_9 M) = zw (zmk_8 M) + 24 := (zw_sF (zal (zmk_8 M) 1 24) 81 24 _).trans (zw_al (zmk_8 M) 1 24)
  refine zw_aload_n (pc := 73) (n := 0) (x := 81) rfl (zdal_p dlC_M_init_1 (i := 12) rfl) ?_
  refine zw_sipush (pc := 74) (v := nI 128) (by decide) (zdal_p dlC_M_init_1 (i := 13) rfl) ?_
  have hz : zn (zmk_9 M) = 82 + 7 := by (exact zo_366 a9 hz)
  have hw : zw (zmk_9 M) = zw M + 1498 := by (exact zo_367 b9 hw)
  refine zw_newa (pc := 77) (t := 1) (N := 128) (Or.inl ⟨rfl, rfl⟩) (by decide) (by decide) (by decide) (by (exact zo_368 hz)) (by (exact zo_369 hX1 hz)) (by (exact zo_370 hX2 hw)) (zdal_p dlC_M_init_1 (i := 14) rfl) ?_
  have ha : (zsh (zal (zmk_9 M) 1 128) 81).1 = 11 + 3 := by rw [(zal_old (by (exact zo_371 hz))).1]; exact (hk_9)
  refine zw_putR (pc := 79) (x := zn (zmk_9 M)) (Or.inr ⟨g_M_38, rfl, rfl, rfl⟩) rfl ha (fun _ => rfl) (fun _ => rfl) (zdal_p dlC_M_init_1 (i := 15) rfl) ?_
  have hk_10 : (zsh (zmk_10 M) 81).1 = 11 + 3 := ha
  show zW l m_M_init X (zmk_10 M) 82 [some (.ref 81)] [] Q
  have a10 : zn (zmk_10 M) = zn (zmk_9 M) + 1 := (zn_sF (zal (zmk_9 M) 1 128) 81 27 _).trans (zn_al (zmk_9 M) 1 128)
  have b10 : zw (zmk_10 M) = zw (zmk_9 M) + 128 := (zw_sF (zal (zmk_9 M) 1 128) 81 27 _).trans (zw_al (zmk_9 M) 1 128)
  refine zw_aload_n (pc := 82) (n := 0) (x := 81) rfl (zdal_p dlC_M_init_1 (i := 16) rfl) ?_
  refine zw_sipush (pc := 83) (v := nI 128) (by decide) (zdal_p dlC_M_init_1 (i := 17) rfl) ?_
  have hz : zn (zmk_10 M) = 82 + 8 := by (exact zo_372 a10 hz)
  have hw : zw (zmk_10 M) = zw M + 1626 := by (exact zo_373 b10 hw)
  refine zw_newa (pc := 86) (t := 1) (N := 128) (Or.inl ⟨rfl, rfl⟩) (by decide) (by decide) (by decide) (by (exact zo_374 hz)) (by (exact zo_375 hX1 hz)) (by (exact zo_376 hX2 hw)) (zdal_p dlC_M_init_1 (i := 18) rfl) ?_
  have ha : (zsh (zal (zmk_10 M) 1 128) 81).1 = 11 + 3 := by rw [(zal_old (by (exact zo_377 hz))).1]; exact (hk_10)
  refine zw_putR (pc := 88) (x := zn (zmk_10 M)) (Or.inr ⟨g_M_41, rfl, rfl, rfl⟩) rfl ha (fun _ => rfl) (fun _ => rfl) (zdal_p dlC_M_init_1 (i := 19) rfl) ?_
  have hk_11 : (zsh (zmk_11 M) 81).1 = 11 + 3 := ha
  show zW l m_M_init X (zmk_11 M) 91 [some (.ref 81)] [] Q
  have a11 : zn (zmk_11 M) = zn (zmk_10 M) + 1 := (zn_sF (zal (zmk_10 M) 1 128) 81 28 _).trans (zn_al (zmk_10 M) 1 128)
  have b11 : zw (zmk_11 M) = zw (zmk_10 M) + 128 := (zw_sF (zal (zmk_10 M) 1 128) 81 28 _).trans (zw_al (zmk_10 M) 1 128)
  refine zw_aload_n (pc := 91) (n := 0) (x := 81) rfl (zdal_p dlC_M_init_1 (i := 20) rfl) ?_
  refine zw_bipush (pc := 92) (v := nI 64) (by decide) (zdal_p dlC_M_init_1 (i := 21) rfl) ?_
  have hz : zn (zmk_11 M) = 82 + 9 := by (exact zo_378 a11 hz)
  have hw : zw (zmk_11 M) = zw M + 1754 := by (exact zo_379 b11 hw)
  refine zw_newa (pc := 94) (t := 1) (N := 64) (Or.inl ⟨rfl, rfl⟩) (by decide) (by decide) (by decide) (by (exact zo_380 hz)) (by (exact zo_381 hX1 hz)) (by (exact zo_382 hX2 hw)) (zdal_p dlC_M_init_1 (i := 22) rfl) ?_
  have ha : (zsh (zal (zmk_11 M) 1 64) 81).1 = 11 + 3 := by rw [(zal_old (by (exact zo_383 hz))).1]; exact (hk_11)
  refine zw_putR (pc := 96) (x := zn (zmk_11 M)) (Or.inr ⟨g_M_44, rfl, rfl, rfl⟩) rfl ha (fun _ => rfl) (fun _ => rfl) (zdal_p dlC_M_init_1 (i := 23) rfl) ?_
  have hk_12 : (zsh (zmk_12 M) 81).1 = 11 + 3 := ha
  show zW l m_M_init X (zmk_12 M) 99 [some (.ref 81)] [] Q
  have a12 : zn (zmk_12 M) = zn (zmk_11 M) + 1 := (zn_sF (zal (zmk_11 M) 1 64) 81 29 _).trans (zn_al (zmk_11 M) 1 64)
  have b12 : zw (zmk_12 M) = zw (zmk_11 M) + 64 := (zw_sF (zal (zmk_11 M) 1 64) 81 29 _).trans (zw_al (zmk_11 M) 1 64)
  refine zw_aload_n (pc := 99) (n := 0) (x := 81) rfl (zdal_p dlC_M_init_2 (i := 0) rfl) ?_
  refine zw_bipush (pc := 100) (v := nI 64) (by decide) (zdal_p dlC_M_init_2 (i := 1) rfl) ?_
  have hz : zn (zmk_12 M) = 82 + 10 := by (exact zo_384 a12 hz)
  have hw : zw (zmk_12 M) = zw M + 1818 := by (exact zo_385 b12 hw)
  refine zw_newa (pc := 102) (t := 1) (N := 64) (Or.inl ⟨rfl, rfl⟩) (by decide) (by decide) (by decide) (by (exact zo_386 hz)) (by (exact zo_387 hX1 hz)) (by (exact zo_388 hX2 hw)) (zdal_p dlC_M_init_2 (i := 2) rfl) ?_
  have ha : (zsh (zal (zmk_12 M) 1 64) 81).1 = 11 + 3 := by rw [(zal_old (by (exact zo_389 hz))).1]; exact (hk_12)
  refine zw_putR (pc := 104) (x := zn (zmk_12 M)) (Or.inr ⟨g_M_47, rfl, rfl, rfl⟩) rfl ha (fun _ => rfl) (fun _ => rfl) (zdal_p dlC_M_init_2 (i := 3) rfl) ?_
  have hk_13 : (zsh (zmk_13 M) 81).1 = 11 + 3 := ha
  show zW l m_M_init X (zmk_13 M) 107 [some (.ref 81)] [] Q
  have a13 : zn (zmk_13 M) = zn (zmk_12 M) + 1 := (zn_sF (zal (zmk_12 M) 1 64) 81 30 _).trans (zn_al (zmk_12 M) 1 64)
  have b13 : zw (zmk_13 M) = zw (zmk_12 M) + 64 := (zw_sF (zal (zmk_12 M) 1 64) 81 30 _).trans (zw_al (zmk_12 M) 1 64)
  refine zw_aload_n (pc := 107) (n := 0) (x := 81) rfl (zdal_p dlC_M_init_2 (i := 4) rfl) ?_
  refine zw_sipush (pc := 108) (v := nI 4096) (by decide) (zdal_p dlC_M_init_2 (i := 5) rfl) ?_
  have hz : zn (zmk_13 M) = 82 + 11 := by (exact zo_390 a13 hz)
  have hw : zw (zmk_13 M) = zw M + 1882 := by (exact zo_391 b13 hw)
  refine zw_newa (pc := 111) (t := 1) (N := 4096) (Or.inl ⟨rfl, rfl⟩) (by decide) (by decide) (by decide) (by (exact zo_392 hz)) (by (exact zo_393 hX1 hz)) (by (exact zo_394 hX2 hw)) (zdal_p dlC_M_init_2 (i := 6) rfl) ?_
  have ha : (zsh (zal (zmk_13 M) 1 4096) 81).1 = 11 + 3 := by rw [(zal_old (by (exact zo_395 hz))).1]; exact (hk_13)
  refine zw_putR (pc := 113) (x := zn (zmk_13 M)) (Or.inr ⟨g_M_50, rfl, rfl, rfl⟩) rfl ha (fun _ => rfl) (fun _ => rfl) (zdal_p dlC_M_init_2 (i := 7) rfl) ?_
  have hk_14 : (zsh (zmk_14 M) 81).1 = 11 + 3 := ha
  show zW l m_M_init X (zmk_14 M) 116 [some (.ref 81)] [] Q
  have a14 : zn (zmk_14 M) = zn (zmk_13 M) + 1 := (zn_sF (zal (zmk_13 M) 1 4096) 81 31 _).trans (zn_al (zmk_13 M) 1 4096)
  have b14 : zw (zmk_14 M) = zw (zmk_13 M) + 4096 := (zw_sF (zal (zmk_13 M) 1 4096) 81 31 _).trans (zw_al (zmk_13 M) 1 4096)
  refine zw_aload_n (pc := 116) (n := 0) (x := 81) rfl (zdal_p dlC_M_init_2 (i := 8) rfl) ?_
  refine zw_sipush (pc := 117) (v := nI 1536) (by decide) (zdal_p dlC_M_init_2 (i := 9) rfl) ?_
  have hz : zn (zmk_14 M) = 82 + 12 := by (exact zo_396 a14 hz)
  have hw : zw (zmk_14 M) = zw M + 5978 := by (exact zo_397 b14 hw)
  refine zw_newa (pc := 120) (t := 1) (N := 1536) (Or.inl ⟨rfl, rfl⟩) (by decide) (by decide) (by decide) (by (exact zo_398 hz)) (by (exact zo_399 hX1 hz)) (by (exact zo_400 hX2 hw)) (zdal_p dlC_M_init_2 (i := 10) rfl) ?_
  have ha : (zsh (zal (zmk_14 M) 1 1536) 81).1 = 11 + 3 := by rw [(zal_old (by (exact zo_401 hz))).1]; exact (hk_14)
  refine zw_putR (pc := 122) (x := zn (zmk_14 M)) (Or.inr ⟨g_M_53, rfl, rfl, rfl⟩) rfl ha (fun _ => rfl) (fun _ => rfl) (zdal_p dlC_M_init_2 (i := 11) rfl) ?_
  have hk_15 : (zsh (zmk_15 M) 81).1 = 11 + 3 := ha
  show zW l m_M_init X (zmk_15 M) 125 [some (.ref 81)] [] Q
  have a15 : zn (zmk_15 M) = zn (zmk_14 M) + 1 := (zn_sF (zal (zmk_14 M) 1 1536) 81 32 _).trans (zn_al (zmk_14 M) 1 1536)
  have b15 : zw (zmk_15 M) = zw (zmk_14 M) + 1536 := (zw_sF (zal (zmk_14 M) 1 1536) 81 32 _).trans (zw_al (zmk_14 M) 1 1536)
  refine zw_aload_n (pc := 125) (n := 0) (x := 81) rfl (zdal_p dlC_M_init_2 (i := 12) rfl) ?_
  refine zw_sipush (pc := 126) (v := nI 2560) (by decide) (zdal_p dlC_M_init_2 (i := 13) rfl) ?_
  have hz : zn (zmk_15 M) = 82 + 13 := by (exact zo_402 a15 hz)
  have hw : zw (zmk_15 M) = zw M + 7514 := by (exact zo_403 b15 hw)
  refine zw_newa (pc := 129) (t := 2) (N := 2560) (Or.inr ⟨rfl, rfl⟩) (by decide) (by decide) (by decide) (by (exact zo_404 hz)) (by (exact zo_405 hX1 hz)) (by (exact zo_406 hX2 hw)) (zdal_p dlC_M_init_2 (i := 14) rfl) ?_
  have ha : (zsh (zal (zmk_15 M) 2 2560) 81).1 = 11 + 3 := by rw [(zal_old (by (exact zo_407 hz))).1]; exact (hk_15)
  refine zw_putR (pc := 131) (x := zn (zmk_15 M)) (Or.inr ⟨g_M_56, rfl, rfl, rfl⟩) rfl ha (fun _ => rfl) (fun _ => rfl) (zdal_p dlC_M_init_2 (i := 15) rfl) ?_
  have hk_16 : (zsh (zmk_16 M) 81).1 = 11 + 3 := ha
  show zW l m_M_init X (zmk_16 M) 134 [some (.ref 81)] [] Q
  have a16 : zn (zmk_16 M) = zn (zmk_15 M) + 1 := (zn_sF (zal (zmk_15 M) 2 2560) 81 33 _).trans (zn_al (zmk_15 M) 2 2560)
  have b16 : zw (zmk_16 M) = zw (zmk_15 M) + 2560 := (zw_sF (zal (zmk_15 M) 2 2560) 81 33 _).trans (zw_al (zmk_15 M) 2 2560)
  refine zw_aload_n (pc := 134) (n := 0) (x := 81) rfl (zdal_p dlC_M_init_2 (i := 16) rfl) ?_
  refine zw_bipush (pc := 135) (v := nI 64) (by decide) (zdal_p dlC_M_init_2 (i := 17) rfl) ?_
  have hz : zn (zmk_16 M) = 82 + 14 := by (exact zo_408 a16 hz)
  have hw : zw (zmk_16 M) = zw M + 10074 := by (exact zo_409 b16 hw)
  refine zw_newa (pc := 137) (t := 2) (N := 64) (Or.inr ⟨rfl, rfl⟩) (by decide) (by decide) (by decide) (by (exact zo_410 hz)) (by (exact zo_411 hX1 hz)) (by (exact zo_412 hX2 hw)) (zdal_p dlC_M_init_2 (i := 18) rfl) ?_
  have ha : (zsh (zal (zmk_16 M) 2 64) 81).1 = 11 + 3 := by rw [(zal_old (by (exact zo_413 hz))).1]; exact (hk_16)
  refine zw_putR (pc := 139) (x := zn (zmk_16 M)) (Or.inr ⟨g_M_60, rfl, rfl, rfl⟩) rfl ha (fun _ => rfl) (fun _ => rfl) (zdal_p dlC_M_init_2 (i := 19) rfl) ?_
  have hk_17 : (zsh (zmk_17 M) 81).1 = 11 + 3 := ha
  show zW l m_M_init X (zmk_17 M) 142 [some (.ref 81)] [] Q
  have a17 : zn (zmk_17 M) = zn (zmk_16 M) + 1 := (zn_sF (zal (zmk_16 M) 2 64) 81 34 _).trans (zn_al (zmk_16 M) 2 64)
  have b17 : zw (zmk_17 M) = zw (zmk_16 M) + 64 := (zw_sF (zal (zmk_16 M) 2 64) 81 34 _).trans (zw_al (zmk_16 M) 2 64)
  refine zw_aload_n (pc := 142) (n := 0) (x := 81) rfl (zdal_p dlC_M_init_2 (i := 20) rfl) ?_
  refine zw_bipush (pc := 143) (v := nI 64) (by decide) (zdal_p dlC_M_init_2 (i := 21) rfl) ?_
  have hz : zn (zmk_17 M) = 82 + 15 := by (exact zo_414 a17 hz)
  have hw : zw (zmk_17 M) = zw M + 10138 := by (exact zo_415 b17 hw)
  refine zw_newa (pc := 145) (t := 2) (N := 64) (Or.inr ⟨rfl, rfl⟩) (by decide) (by decide) (by decide) (by (exact zo_416 hz)) (by (exact zo_417 hX1 hz)) (by (exact zo_418 hX2 hw)) (zdal_p dlC_M_init_2 (i := 22) rfl) ?_
  have ha : (zsh (zal (zmk_17 M) 2 64) 81).1 = 11 + 3 := by rw [(zal_old (by (exact zo_419 hz))).1]; exact (hk_17)
  refine zw_putR (pc := 147) (x := zn (zmk_17 M)) (Or.inr ⟨g_M_63, rfl, rfl, rfl⟩) rfl ha (fun _ => rfl) (fun _ => rfl) (zdal_p dlC_M_init_2 (i := 23) rfl) ?_
  have hk_18 : (zsh (zmk_18 M) 81).1 = 11 + 3 := ha
  show zW l m_M_init X (zmk_18 M) 150 [some (.ref 81)] [] Q
  have a18 : zn (zmk_18 M) = zn (zmk_17 M) + 1 := (zn_sF (zal (zmk_17 M) 2 64) 81 35 _).trans (zn_al (zmk_17 M) 2 64)
  have b18 : zw (zmk_18 M) = zw (zmk_17 M) + 64 := (zw_sF (zal (zmk_17 M) 2 64) 81 35 _).trans (zw_al (zmk_17 M) 2 64)
  refine zw_aload_n (pc := 150) (n := 0) (x := 81) rfl (zdal_p dlC_M_init_3 (i := 0) rfl) ?_
  refine zw_bipush (pc := 151) (v := nI 64) (by decide) (zdal_p dlC_M_init_3 (i := 1) rfl) ?_
  have hz : zn (zmk_18 M) = 82 + 16 := by (exact zo_420 a18 hz)
  have hw : zw (zmk_18 M) = zw M + 10202 := by (exact zo_421 b18 hw)
  refine zw_newa (pc := 153) (t := 2) (N := 64) (Or.inr ⟨rfl, rfl⟩) (by decide) (by decide) (by decide) (by (exact zo_422 hz)) (by (exact zo_423 hX1 hz)) (by (exact zo_424 hX2 hw)) (zdal_p dlC_M_init_3 (i := 2) rfl) ?_
  have ha : (zsh (zal (zmk_18 M) 2 64) 81).1 = 11 + 3 := by rw [(zal_old (by (exact zo_425 hz))).1]; exact (hk_18)
  refine zw_putR (pc := 155) (x := zn (zmk_18 M)) (Or.inr ⟨g_M_66, rfl, rfl, rfl⟩) rfl ha (fun _ => rfl) (fun _ => rfl) (zdal_p dlC_M_init_3 (i := 3) rfl) ?_
  have hk_19 : (zsh (zmk_19 M) 81).1 = 11 + 3 := ha
  show zW l m_M_init X (zmk_19 M) 158 [some (.ref 81)] [] Q
  have a19 : zn (zmk_19 M) = zn (zmk_18 M) + 1 := (zn_sF (zal (zmk_18 M) 2 64) 81 36 _).trans (zn_al (zmk_18 M) 2 64)
  have b19 : zw (zmk_19 M) = zw (zmk_18 M) + 64 := (zw_sF (zal (zmk_18 M) 2 64) 81 36 _).trans (zw_al (zmk_18 M) 2 64)
  refine zw_aload_n (pc := 158) (n := 0) (x := 81) rfl (zdal_p dlC_M_init_3 (i := 4) rfl) ?_
  refine zw_bipush (pc := 159) (v := nI 64) (by decide) (zdal_p dlC_M_init_3 (i := 5) rfl) ?_
  have hz : zn (zmk_19 M) = 82 + 17 := by (exact zo_426 a19 hz)
  have hw : zw (zmk_19 M) = zw M + 10266 := by (exact zo_427 b19 hw)
  refine zw_newa (pc := 161) (t := 2) (N := 64) (Or.inr ⟨rfl, rfl⟩) (by decide) (by decide) (by decide) (by (exact zo_428 hz)) (by (exact zo_429 hX1 hz)) (by (exact zo_430 hX2 hw)) (zdal_p dlC_M_init_3 (i := 6) rfl) ?_
  have ha : (zsh (zal (zmk_19 M) 2 64) 81).1 = 11 + 3 := by rw [(zal_old (by (exact zo_431 hz))).1]; exact (hk_19)
  refine zw_putR (pc := 163) (x := zn (zmk_19 M)) (Or.inr ⟨g_M_69, rfl, rfl, rfl⟩) rfl ha (fun _ => rfl) (fun _ => rfl) (zdal_p dlC_M_init_3 (i := 7) rfl) ?_
  have hk_20 : (zsh (zmk_20 M) 81).1 = 11 + 3 := ha
  show zW l m_M_init X (zmk_20 M) 166 [some (.ref 81)] [] Q
  have a20 : zn (zmk_20 M) = zn (zmk_19 M) + 1 := (zn_sF (zal (zmk_19 M) 2 64) 81 37 _).trans (zn_al (zmk_19 M) 2 64)
  have b20 : zw (zmk_20 M) = zw (zmk_19 M) + 64 := (zw_sF (zal (zmk_19 M) 2 64) 81 37 _).trans (zw_al (zmk_19 M) 2 64)
  refine zw_aload_n (pc := 166) (n := 0) (x := 81) rfl (zdal_p dlC_M_init_3 (i := 8) rfl) ?_
  refine zw_bipush (pc := 167) (v := nI 80) (by decide) (zdal_p dlC_M_init_3 (i := 9) rfl) ?_
  have hz : zn (zmk_20 M) = 82 + 18 := by (exact zo_432 a20 hz)
  have hw : zw (zmk_20 M) = zw M + 10330 := by (exact zo_433 b20 hw)
  refine zw_newa (pc := 169) (t := 1) (N := 80) (Or.inl ⟨rfl, rfl⟩) (by decide) (by decide) (by decide) (by (exact zo_434 hz)) (by (exact zo_435 hX1 hz)) (by (exact zo_436 hX2 hw)) (zdal_p dlC_M_init_3 (i := 10) rfl) ?_
  have ha : (zsh (zal (zmk_20 M) 1 80) 81).1 = 11 + 3 := by rw [(zal_old (by (exact zo_437 hz))).1]; exact (hk_20)
  refine zw_putR (pc := 171) (x := zn (zmk_20 M)) (Or.inr ⟨g_M_72, rfl, rfl, rfl⟩) rfl ha (fun _ => rfl) (fun _ => rfl) (zdal_p dlC_M_init_3 (i := 11) rfl) ?_
  have hk_21 : (zsh (zmk_21 M) 81).1 = 11 + 3 := ha
  show zW l m_M_init X (zmk_21 M) 174 [some (.ref 81)] [] Q
  have a21 : zn (zmk_21 M) = zn (zmk_20 M) + 1 := (zn_sF (zal (zmk_20 M) 1 80) 81 40 _).trans (zn_al (zmk_20 M) 1 80)
  have b21 : zw (zmk_21 M) = zw (zmk_20 M) + 80 := (zw_sF (zal (zmk_20 M) 1 80) 81 40 _).trans (zw_al (zmk_20 M) 1 80)
  refine zw_aload_n (pc := 174) (n := 0) (x := 81) rfl (zdal_p dlC_M_init_3 (i := 12) rfl) ?_
  refine zw_bipush (pc := 175) (v := nI 8) (by decide) (zdal_p dlC_M_init_3 (i := 13) rfl) ?_
  have hz : zn (zmk_21 M) = 82 + 19 := by (exact zo_438 a21 hz)
  have hw : zw (zmk_21 M) = zw M + 10410 := by (exact zo_439 b21 hw)
  refine zw_newa (pc := 177) (t := 2) (N := 8) (Or.inr ⟨rfl, rfl⟩) (by decide) (by decide) (by decide) (by (exact zo_440 hz)) (by (exact zo_441 hX1 hz)) (by (exact zo_442 hX2 hw)) (zdal_p dlC_M_init_3 (i := 14) rfl) ?_
  have ha : (zsh (zal (zmk_21 M) 2 8) 81).1 = 11 + 3 := by rw [(zal_old (by (exact zo_443 hz))).1]; exact (hk_21)
  refine zw_putR (pc := 179) (x := zn (zmk_21 M)) (Or.inr ⟨g_M_75, rfl, rfl, rfl⟩) rfl ha (fun _ => rfl) (fun _ => rfl) (zdal_p dlC_M_init_3 (i := 15) rfl) ?_
  have hk_22 : (zsh (zmk_22 M) 81).1 = 11 + 3 := ha
  show zW l m_M_init X (zmk_22 M) 182 [some (.ref 81)] [] Q
  have a22 : zn (zmk_22 M) = zn (zmk_21 M) + 1 := (zn_sF (zal (zmk_21 M) 2 8) 81 44 _).trans (zn_al (zmk_21 M) 2 8)
  have b22 : zw (zmk_22 M) = zw (zmk_21 M) + 8 := (zw_sF (zal (zmk_21 M) 2 8) 81 44 _).trans (zw_al (zmk_21 M) 2 8)
  refine zw_aload_n (pc := 182) (n := 0) (x := 81) rfl (zdal_p dlC_M_init_3 (i := 16) rfl) ?_
  refine zw_sipush (pc := 183) (v := nI 512) (by decide) (zdal_p dlC_M_init_3 (i := 17) rfl) ?_
  have hz : zn (zmk_22 M) = 82 + 20 := by (exact zo_444 a22 hz)
  have hw : zw (zmk_22 M) = zw M + 10418 := by (exact zo_445 b22 hw)
  refine zw_newa (pc := 186) (t := 2) (N := 512) (Or.inr ⟨rfl, rfl⟩) (by decide) (by decide) (by decide) (by (exact zo_446 hz)) (by (exact zo_447 hX1 hz)) (by (exact zo_448 hX2 hw)) (zdal_p dlC_M_init_3 (i := 18) rfl) ?_
  have ha : (zsh (zal (zmk_22 M) 2 512) 81).1 = 11 + 3 := by rw [(zal_old (by (exact zo_449 hz))).1]; exact (hk_22)
  refine zw_putR (pc := 188) (x := zn (zmk_22 M)) (Or.inr ⟨g_M_78, rfl, rfl, rfl⟩) rfl ha (fun _ => rfl) (fun _ => rfl) (zdal_p dlC_M_init_3 (i := 19) rfl) ?_
  have hk_23 : (zsh (zmk_23 M) 81).1 = 11 + 3 := ha
  show zW l m_M_init X (zmk_23 M) 191 [some (.ref 81)] [] Q
  have a23 : zn (zmk_23 M) = zn (zmk_22 M) + 1 := (zn_sF (zal (zmk_22 M) 2 512) 81 45 _).trans (zn_al (zmk_22 M) 2 512)
  have b23 : zw (zmk_23 M) = zw (zmk_22 M) + 512 := (zw_sF (zal (zmk_22 M) 2 512) 81 45 _).trans (zw_al (zmk_22 M) 2 512)
  refine zw_aload_n (pc := 191) (n := 0) (x := 81) rfl (zdal_p dlC_M_init_3 (i := 20) rfl) ?_
  refine zw_bipush (pc := 192) (v := nI 8) (by decide) (zdal_p dlC_M_init_3 (i := 21) rfl) ?_
  have hz : zn (zmk_23 M) = 82 + 21 := by (exact zo_450 a23 hz)
  have hw : zw (zmk_23 M) = zw M + 10930 := by (exact zo_451 b23 hw)
  refine zw_newa (pc := 194) (t := 2) (N := 8) (Or.inr ⟨rfl, rfl⟩) (by decide) (by decide) (by decide) (by (exact zo_452 hz)) (by (exact zo_453 hX1 hz)) (by (exact zo_454 hX2 hw)) (zdal_p dlC_M_init_3 (i := 22) rfl) ?_
  have ha : (zsh (zal (zmk_23 M) 2 8) 81).1 = 11 + 3 := by rw [(zal_old (by (exact zo_455 hz))).1]; exact (hk_23)
  refine zw_putR (pc := 196) (x := zn (zmk_23 M)) (Or.inr ⟨g_M_81, rfl, rfl, rfl⟩) rfl ha (fun _ => rfl) (fun _ => rfl) (zdal_p dlC_M_init_3 (i := 23) rfl) ?_
  have hk_24 : (zsh (zmk_24 M) 81).1 = 11 + 3 := ha
  show zW l m_M_init X (zmk_24 M) 199 [some (.ref 81)] [] Q
  have a24 : zn (zmk_24 M) = zn (zmk_23 M) + 1 := (zn_sF (zal (zmk_23 M) 2 8) 81 46 _).trans (zn_al (zmk_23 M) 2 8)
  have b24 : zw (zmk_24 M) = zw (zmk_23 M) + 8 := (zw_sF (zal (zmk_23 M) 2 8) 81 46 _).trans (zw_al (zmk_23 M) 2 8)
  refine zw_aload_n (pc := 199) (n := 0) (x := 81) rfl (zdal_p dlC_M_init_4 (i := 0) rfl) ?_
  refine zw_sipush (pc := 200) (v := nI 512) (by decide) (zdal_p dlC_M_init_4 (i := 1) rfl) ?_
  have hz : zn (zmk_24 M) = 82 + 22 := by (exact zo_456 a24 hz)
  have hw : zw (zmk_24 M) = zw M + 10938 := by (exact zo_457 b24 hw)
  refine zw_newa (pc := 203) (t := 2) (N := 512) (Or.inr ⟨rfl, rfl⟩) (by decide) (by decide) (by decide) (by (exact zo_458 hz)) (by (exact zo_459 hX1 hz)) (by (exact zo_460 hX2 hw)) (zdal_p dlC_M_init_4 (i := 2) rfl) ?_
  have ha : (zsh (zal (zmk_24 M) 2 512) 81).1 = 11 + 3 := by rw [(zal_old (by (exact zo_461 hz))).1]; exact (hk_24)
  refine zw_putR (pc := 205) (x := zn (zmk_24 M)) (Or.inr ⟨g_M_84, rfl, rfl, rfl⟩) rfl ha (fun _ => rfl) (fun _ => rfl) (zdal_p dlC_M_init_4 (i := 3) rfl) ?_
  have hk_25 : (zsh (zmk_25 M) 81).1 = 11 + 3 := ha
  show zW l m_M_init X (zmk_25 M) 208 [some (.ref 81)] [] Q
  have a25 : zn (zmk_25 M) = zn (zmk_24 M) + 1 := (zn_sF (zal (zmk_24 M) 2 512) 81 47 _).trans (zn_al (zmk_24 M) 2 512)
  have b25 : zw (zmk_25 M) = zw (zmk_24 M) + 512 := (zw_sF (zal (zmk_24 M) 2 512) 81 47 _).trans (zw_al (zmk_24 M) 2 512)
  refine zw_aload_n (pc := 208) (n := 0) (x := 81) rfl (zdal_p dlC_M_init_4 (i := 4) rfl) ?_
  refine zw_bipush (pc := 209) (v := nI 64) (by decide) (zdal_p dlC_M_init_4 (i := 5) rfl) ?_
  have hz : zn (zmk_25 M) = 82 + 23 := by (exact zo_462 a25 hz)
  have hw : zw (zmk_25 M) = zw M + 11450 := by (exact zo_463 b25 hw)
  refine zw_newa (pc := 211) (t := 2) (N := 64) (Or.inr ⟨rfl, rfl⟩) (by decide) (by decide) (by decide) (by (exact zo_464 hz)) (by (exact zo_465 hX1 hz)) (by (exact zo_466 hX2 hw)) (zdal_p dlC_M_init_4 (i := 6) rfl) ?_
  have ha : (zsh (zal (zmk_25 M) 2 64) 81).1 = 11 + 3 := by rw [(zal_old (by (exact zo_467 hz))).1]; exact (hk_25)
  refine zw_putR (pc := 213) (x := zn (zmk_25 M)) (Or.inr ⟨g_M_87, rfl, rfl, rfl⟩) rfl ha (fun _ => rfl) (fun _ => rfl) (zdal_p dlC_M_init_4 (i := 7) rfl) ?_
  have hk_26 : (zsh (zmk_26 M) 81).1 = 11 + 3 := ha
  show zW l m_M_init X (zmk_26 M) 216 [some (.ref 81)] [] Q
  have a26 : zn (zmk_26 M) = zn (zmk_25 M) + 1 := (zn_sF (zal (zmk_25 M) 2 64) 81 48 _).trans (zn_al (zmk_25 M) 2 64)
  have b26 : zw (zmk_26 M) = zw (zmk_25 M) + 64 := (zw_sF (zal (zmk_25 M) 2 64) 81 48 _).trans (zw_al (zmk_25 M) 2 64)
  refine zw_aload_n (pc := 216) (n := 0) (x := 81) rfl (zdal_p dlC_M_init_4 (i := 8) rfl) ?_
  refine zw_sipush (pc := 217) (v := nI 128) (by decide) (zdal_p dlC_M_init_4 (i := 9) rfl) ?_
  have hz : zn (zmk_26 M) = 82 + 24 := by (exact zo_468 a26 hz)
  have hw : zw (zmk_26 M) = zw M + 11514 := by (exact zo_469 b26 hw)
  refine zw_newa (pc := 220) (t := 1) (N := 128) (Or.inl ⟨rfl, rfl⟩) (by decide) (by decide) (by decide) (by (exact zo_470 hz)) (by (exact zo_471 hX1 hz)) (by (exact zo_472 hX2 hw)) (zdal_p dlC_M_init_4 (i := 10) rfl) ?_
  have ha : (zsh (zal (zmk_26 M) 1 128) 81).1 = 11 + 3 := by rw [(zal_old (by (exact zo_473 hz))).1]; exact (hk_26)
  refine zw_putR (pc := 222) (x := zn (zmk_26 M)) (Or.inr ⟨g_M_90, rfl, rfl, rfl⟩) rfl ha (fun _ => rfl) (fun _ => rfl) (zdal_p dlC_M_init_4 (i := 11) rfl) ?_
  have hk_27 : (zsh (zmk_27 M) 81).1 = 11 + 3 := ha
  show zW l m_M_init X (zmk_27 M) 225 [some (.ref 81)] [] Q
  have a27 : zn (zmk_27 M) = zn (zmk_26 M) + 1 := (zn_sF (zal (zmk_26 M) 1 128) 81 49 _).trans (zn_al (zmk_26 M) 1 128)
  have b27 : zw (zmk_27 M) = zw (zmk_26 M) + 128 := (zw_sF (zal (zmk_26 M) 1 128) 81 49 _).trans (zw_al (zmk_26 M) 1 128)
  refine zw_aload_n (pc := 225) (n := 0) (x := 81) rfl (zdal_p dlC_M_init_4 (i := 12) rfl) ?_
  refine zw_bipush (pc := 226) (v := nI 64) (by decide) (zdal_p dlC_M_init_4 (i := 13) rfl) ?_
  have hz : zn (zmk_27 M) = 82 + 25 := by (exact zo_474 a27 hz)
  have hw : zw (zmk_27 M) = zw M + 11642 := by (exact zo_475 b27 hw)
  refine zw_newa (pc := 228) (t := 2) (N := 64) (Or.inr ⟨rfl, rfl⟩) (by decide) (by decide) (by decide) (by (exact zo_476 hz)) (by (exact zo_477 hX1 hz)) (by (exact zo_478 hX2 hw)) (zdal_p dlC_M_init_4 (i := 14) rfl) ?_
  have ha : (zsh (zal (zmk_27 M) 2 64) 81).1 = 11 + 3 := by rw [(zal_old (by (exact zo_479 hz))).1]; exact (hk_27)
  refine zw_putR (pc := 230) (x := zn (zmk_27 M)) (Or.inr ⟨g_M_93, rfl, rfl, rfl⟩) rfl ha (fun _ => rfl) (fun _ => rfl) (zdal_p dlC_M_init_4 (i := 15) rfl) ?_
  have hk_28 : (zsh (zmk_28 M) 81).1 = 11 + 3 := ha
  show zW l m_M_init X (zmk_28 M) 233 [some (.ref 81)] [] Q
  have a28 : zn (zmk_28 M) = zn (zmk_27 M) + 1 := (zn_sF (zal (zmk_27 M) 2 64) 81 50 _).trans (zn_al (zmk_27 M) 2 64)
  have b28 : zw (zmk_28 M) = zw (zmk_27 M) + 64 := (zw_sF (zal (zmk_27 M) 2 64) 81 50 _).trans (zw_al (zmk_27 M) 2 64)
  refine zw_aload_n (pc := 233) (n := 0) (x := 81) rfl (zdal_p dlC_M_init_4 (i := 16) rfl) ?_
  refine zw_bipush (pc := 234) (v := nI 64) (by decide) (zdal_p dlC_M_init_4 (i := 17) rfl) ?_
  have hz : zn (zmk_28 M) = 82 + 26 := by (exact zo_480 a28 hz)
  have hw : zw (zmk_28 M) = zw M + 11706 := by (exact zo_481 b28 hw)
  refine zw_newa (pc := 236) (t := 2) (N := 64) (Or.inr ⟨rfl, rfl⟩) (by decide) (by decide) (by decide) (by (exact zo_482 hz)) (by (exact zo_483 hX1 hz)) (by (exact zo_484 hX2 hw)) (zdal_p dlC_M_init_4 (i := 18) rfl) ?_
  have ha : (zsh (zal (zmk_28 M) 2 64) 81).1 = 11 + 3 := by rw [(zal_old (by (exact zo_485 hz))).1]; exact (hk_28)
  refine zw_putR (pc := 238) (x := zn (zmk_28 M)) (Or.inr ⟨g_M_96, rfl, rfl, rfl⟩) rfl ha (fun _ => rfl) (fun _ => rfl) (zdal_p dlC_M_init_4 (i := 19) rfl) ?_
  have hk_29 : (zsh (zmk_29 M) 81).1 = 11 + 3 := ha
  show zW l m_M_init X (zmk_29 M) 241 [some (.ref 81)] [] Q
  have a29 : zn (zmk_29 M) = zn (zmk_28 M) + 1 := (zn_sF (zal (zmk_28 M) 2 64) 81 51 _).trans (zn_al (zmk_28 M) 2 64)
  have b29 : zw (zmk_29 M) = zw (zmk_28 M) + 64 := (zw_sF (zal (zmk_28 M) 2 64) 81 51 _).trans (zw_al (zmk_28 M) 2 64)
  refine zw_aload_n (pc := 241) (n := 0) (x := 81) rfl (zdal_p dlC_M_init_4 (i := 20) rfl) ?_
  refine zw_bipush (pc := 242) (v := nI 24) (by decide) (zdal_p dlC_M_init_4 (i := 21) rfl) ?_
  have hz : zn (zmk_29 M) = 82 + 27 := by (exact zo_486 a29 hz)
  have hw : zw (zmk_29 M) = zw M + 11770 := by (exact zo_487 b29 hw)
  refine zw_newa (pc := 244) (t := 1) (N := 24) (Or.inl ⟨rfl, rfl⟩) (by decide) (by decide) (by decide) (by (exact zo_488 hz)) (by (exact zo_489 hX1 hz)) (by (exact zo_490 hX2 hw)) (zdal_p dlC_M_init_4 (i := 22) rfl) ?_
  have ha : (zsh (zal (zmk_29 M) 1 24) 81).1 = 11 + 3 := by rw [(zal_old (by (exact zo_491 hz))).1]; exact (hk_29)
  refine zw_putR (pc := 246) (x := zn (zmk_29 M)) (Or.inr ⟨g_M_99, rfl, rfl, rfl⟩) rfl ha (fun _ => rfl) (fun _ => rfl) (zdal_p dlC_M_init_4 (i := 23) rfl) ?_
  have hk_30 : (zsh (zmk_30 M) 81).1 = 11 + 3 := ha
  show zW l m_M_init X (zmk_30 M) 249 [some (.ref 81)] [] Q
  have a30 : zn (zmk_30 M) = zn (zmk_29 M) + 1 := (zn_sF (zal (zmk_29 M) 1 24) 81 54 _).trans (zn_al (zmk_29 M) 1 24)
  have b30 : zw (zmk_30 M) = zw (zmk_29 M) + 24 := (zw_sF (zal (zmk_29 M) 1 24) 81 54 _).trans (zw_al (zmk_29 M) 1 24)
  refine zw_aload_n (pc := 249) (n := 0) (x := 81) rfl (zdal_p dlC_M_init_5 (i := 0) rfl) ?_
  refine zw_ldc (pc := 250) (v := nI 65536) k_M_102 (zdal_p dlC_M_init_5 (i := 1) rfl) ?_
  have hz : zn (zmk_30 M) = 82 + 28 := by (exact zo_492 a30 hz)
  have hw : zw (zmk_30 M) = zw M + 11794 := by (exact zo_493 b30 hw)
  refine zw_newa (pc := 252) (t := 1) (N := 65536) (Or.inl ⟨rfl, rfl⟩) (by decide) (by decide) (by decide) (by (exact zo_494 hz)) (by (exact zo_495 hX1 hz)) (by (exact zo_496 hX2 hw)) (zdal_p dlC_M_init_5 (i := 2) rfl) ?_
  have ha : (zsh (zal (zmk_30 M) 1 65536) 81).1 = 11 + 3 := by rw [(zal_old (by (exact zo_497 hz))).1]; exact (hk_30)
  refine zw_putR (pc := 254) (x := zn (zmk_30 M)) (Or.inr ⟨g_M_103, rfl, rfl, rfl⟩) rfl ha (fun _ => rfl) (fun _ => rfl) (zdal_p dlC_M_init_5 (i := 3) rfl) ?_
  have hk_31 : (zsh (zmk_31 M) 81).1 = 11 + 3 := ha
  show zW l m_M_init X (zmk_31 M) 257 [some (.ref 81)] [] Q
  have a31 : zn (zmk_31 M) = zn (zmk_30 M) + 1 := (zn_sF (zal (zmk_30 M) 1 65536) 81 56 _).trans (zn_al (zmk_30 M) 1 65536)
  have b31 : zw (zmk_31 M) = zw (zmk_30 M) + 65536 := (zw_sF (zal (zmk_30 M) 1 65536) 81 56 _).trans (zw_al (zmk_30 M) 1 65536)
  refine zw_aload_n (pc := 257) (n := 0) (x := 81) rfl (zdal_p dlC_M_init_5 (i := 4) rfl) ?_
  refine zw_sipush (pc := 258) (v := nI 768) (by decide) (zdal_p dlC_M_init_5 (i := 5) rfl) ?_
  have hz : zn (zmk_31 M) = 82 + 29 := by (exact zo_498 a31 hz)
  have hw : zw (zmk_31 M) = zw M + 77330 := by (exact zo_499 b31 hw)
  refine zw_newa (pc := 261) (t := 2) (N := 768) (Or.inr ⟨rfl, rfl⟩) (by decide) (by decide) (by decide) (by (exact zo_500 hz)) (by (exact zo_501 hX1 hz)) (by (exact zo_502 hX2 hw)) (zdal_p dlC_M_init_5 (i := 6) rfl) ?_
  have ha : (zsh (zal (zmk_31 M) 2 768) 81).1 = 11 + 3 := by rw [(zal_old (by (exact zo_503 hz))).1]; exact (hk_31)
  refine zw_putR (pc := 263) (x := zn (zmk_31 M)) (Or.inr ⟨g_M_106, rfl, rfl, rfl⟩) rfl ha (fun _ => rfl) (fun _ => rfl) (zdal_p dlC_M_init_5 (i := 7) rfl) ?_
  have hk_32 : (zsh (zmk_32 M) 81).1 = 11 + 3 := ha
  show zW l m_M_init X (zmk_32 M) 266 [some (.ref 81)] [] Q
  have a32 : zn (zmk_32 M) = zn (zmk_31 M) + 1 := (zn_sF (zal (zmk_31 M) 2 768) 81 59 _).trans (zn_al (zmk_31 M) 2 768)
  have b32 : zw (zmk_32 M) = zw (zmk_31 M) + 768 := (zw_sF (zal (zmk_31 M) 2 768) 81 59 _).trans (zw_al (zmk_31 M) 2 768)
  refine zw_aload_n (pc := 266) (n := 0) (x := 81) rfl (zdal_p dlC_M_init_5 (i := 8) rfl) ?_
  refine zw_bipush (pc := 267) (v := nI 6) (by decide) (zdal_p dlC_M_init_5 (i := 9) rfl) ?_
  have hz : zn (zmk_32 M) = 82 + 30 := by (exact zo_504 a32 hz)
  have hw : zw (zmk_32 M) = zw M + 78098 := by (exact zo_505 b32 hw)
  refine zw_newa (pc := 269) (t := 1) (N := 6) (Or.inl ⟨rfl, rfl⟩) (by decide) (by decide) (by decide) (by (exact zo_506 hz)) (by (exact zo_507 hX1 hz)) (by (exact zo_508 hX2 hw)) (zdal_p dlC_M_init_5 (i := 10) rfl) ?_
  have ha : (zsh (zal (zmk_32 M) 1 6) 81).1 = 11 + 3 := by rw [(zal_old (by (exact zo_509 hz))).1]; exact (hk_32)
  refine zw_putR (pc := 271) (x := zn (zmk_32 M)) (Or.inr ⟨g_M_109, rfl, rfl, rfl⟩) rfl ha (fun _ => rfl) (fun _ => rfl) (zdal_p dlC_M_init_5 (i := 11) rfl) ?_
  have hk_33 : (zsh (zmk_33 M) 81).1 = 11 + 3 := ha
  show zW l m_M_init X (zmk_33 M) 274 [some (.ref 81)] [] Q
  have a33 : zn (zmk_33 M) = zn (zmk_32 M) + 1 := (zn_sF (zal (zmk_32 M) 1 6) 81 61 _).trans (zn_al (zmk_32 M) 1 6)
  have b33 : zw (zmk_33 M) = zw (zmk_32 M) + 6 := (zw_sF (zal (zmk_32 M) 1 6) 81 61 _).trans (zw_al (zmk_32 M) 1 6)
  refine zw_aload_n (pc := 274) (n := 0) (x := 81) rfl (zdal_p dlC_M_init_5 (i := 12) rfl) ?_
  refine zw_bipush (pc := 275) (v := nI 7) (by decide) (zdal_p dlC_M_init_5 (i := 13) rfl) ?_
  have hz : zn (zmk_33 M) = 82 + 31 := by (exact zo_510 a33 hz)
  have hw : zw (zmk_33 M) = zw M + 78104 := by (exact zo_511 b33 hw)
  refine zw_newa (pc := 277) (t := 1) (N := 7) (Or.inl ⟨rfl, rfl⟩) (by decide) (by decide) (by decide) (by (exact zo_512 hz)) (by (exact zo_513 hX1 hz)) (by (exact zo_514 hX2 hw)) (zdal_p dlC_M_init_5 (i := 14) rfl) ?_
  have ha : (zsh (zal (zmk_33 M) 1 7) 81).1 = 11 + 3 := by rw [(zal_old (by (exact zo_515 hz))).1]; exact (hk_33)
  refine zw_putR (pc := 279) (x := zn (zmk_33 M)) (Or.inr ⟨g_M_112, rfl, rfl, rfl⟩) rfl ha (fun _ => rfl) (fun _ => rfl) (zdal_p dlC_M_init_5 (i := 15) rfl) ?_
  have hk_34 : (zsh (zmk_34 M) 81).1 = 11 + 3 := ha
  show zW l m_M_init X (zmk_34 M) 282 [some (.ref 81)] [] Q
  have a34 : zn (zmk_34 M) = zn (zmk_33 M) + 1 := (zn_sF (zal (zmk_33 M) 1 7) 81 62 _).trans (zn_al (zmk_33 M) 1 7)
  have b34 : zw (zmk_34 M) = zw (zmk_33 M) + 7 := (zw_sF (zal (zmk_33 M) 1 7) 81 62 _).trans (zw_al (zmk_33 M) 1 7)
  refine zw_aload_n (pc := 282) (n := 0) (x := 81) rfl (zdal_p dlC_M_init_5 (i := 16) rfl) ?_
  refine zw_iconst (pc := 283) (v := 1) (by decide) (zdal_p dlC_M_init_5 (i := 17) rfl) ?_
  refine zw_putI (pc := 284) f_M_115 rfl rfl (hk_34) rfl rfl (zdal_p dlC_M_init_5 (i := 18) rfl) ?_
  have hk_35 : (zsh (zmk_35 M) 81).1 = 11 + 3 := (hk_34)
  show zW l m_M_init X (zmk_35 M) 287 [some (.ref 81)] [] Q
  have a35 : zn (zmk_35 M) = zn (zmk_34 M) := rfl
  have b35 : zw (zmk_35 M) = zw (zmk_34 M) := rfl
  exact kk
def zPr (a jj : Nat) (M N : zMem) : Prop := zsh N a = zsh M a ∧ zf N 81 jj = zf M 81 jj ∧ zi N a = zi M a ∧ zj N a = zj M a
theorem zPr.tr {a jj : Nat} {M N P : zMem} (x : zPr a jj M N) (y : zPr a jj N P) : zPr a jj M P := ⟨y.1.trans x.1, y.2.1.trans x.2.1, y.2.2.1.trans x.2.2.1, y.2.2.2.trans x.2.2.2⟩
theorem zal_io {M : zMem} {t n r : Nat} (h : r < zn M) : zi (zal M t n) r = zi M r ∧ zj (zal M t n) r = zj M r := by
  have hne : ¬ r = M.1.1 := by
    have : zn M = M.1.1 := rfl
    omega
  simp [zi, zj, zal, hne]
theorem zPr.al {a jj j t n : Nat} {v : Option Nat} {M : zMem} (ha : a < zn M) (h81 : 81 < zn M) (hj : jj ≠ j) : zPr a jj M (zsF (zal M t n) 81 j v) :=
  ⟨(zal_old (t := t) (n := n) ha).1, (zup2_n (fun z => hj z.2)).trans (congrFun (zal_old (t := t) (n := n) h81).2 jj), (zal_io (t := t) (n := n) ha).1, (zal_io (t := t) (n := n) ha).2⟩
theorem zPr.i {a jj j : Nat} {v : Int32} {M : zMem} (ha : a ≠ 81) : zPr a jj M (zsI M 81 j v) := ⟨rfl, rfl, zup2_q ha, rfl⟩
theorem zsF_s (M : zMem) (r j : Nat) (v : Option Nat) : zf (zsF M r j v) r j = v := zup2_s
theorem zal_new {M : zMem} {t n : Nat} : zi (zal M t n) (zn M) = (fun _ => 0) ∧ zj (zal M t n) (zn M) = (fun _ => 0) := by simp [zi, zj, zal, zn]
theorem zmk_z1 (M : zMem) (h : zn M = 82) : zn (zmk_1 M) = 83 := by
  have a1 : zn (zmk_1 M) = zn M + 1 := (zn_sF (zal M 1 700) 81 0 _).trans (zn_al M 1 700)
  have := h
  omega
theorem zmk_z2 (M : zMem) (h : zn M = 82) : zn (zmk_2 M) = 83 := by
  have a2 : zn (zmk_2 M) = zn (zmk_1 M) := rfl
  have := (zmk_z1 M h)
  omega
theorem zmk_z3 (M : zMem) (h : zn M = 82) : zn (zmk_3 M) = 83 := by
  have a3 : zn (zmk_3 M) = zn (zmk_2 M) := rfl
  have := (zmk_z2 M h)
  omega
theorem zmk_z4 (M : zMem) (h : zn M = 82) : zn (zmk_4 M) = 84 := by
  have a4 : zn (zmk_4 M) = zn (zmk_3 M) + 1 := (zn_sF (zal (zmk_3 M) 1 24) 81 15 _).trans (zn_al (zmk_3 M) 1 24)
  have := (zmk_z3 M h)
  omega
theorem zmk_z5 (M : zMem) (h : zn M = 82) : zn (zmk_5 M) = 85 := by
  have a5 : zn (zmk_5 M) = zn (zmk_4 M) + 1 := (zn_sF (zal (zmk_4 M) 1 24) 81 19 _).trans (zn_al (zmk_4 M) 1 24)
  have := (zmk_z4 M h)
  omega
theorem zmk_z6 (M : zMem) (h : zn M = 82) : zn (zmk_6 M) = 86 := by
  have a6 : zn (zmk_6 M) = zn (zmk_5 M) + 1 := (zn_sF (zal (zmk_5 M) 1 144) 81 21 _).trans (zn_al (zmk_5 M) 1 144)
  have := (zmk_z5 M h)
  omega
theorem zmk_z7 (M : zMem) (h : zn M = 82) : zn (zmk_7 M) = 87 := by
  have a7 : zn (zmk_7 M) = zn (zmk_6 M) + 1 := (zn_sF (zal (zmk_6 M) 1 6) 81 22 _).trans (zn_al (zmk_6 M) 1 6)
  have := (zmk_z6 M h)
  omega
theorem zmk_z8 (M : zMem) (h : zn M = 82) : zn (zmk_8 M) = 88 := by
  have a8 : zn (zmk_8 M) = zn (zmk_7 M) + 1 := (zn_sF (zal (zmk_7 M) 1 576) 81 23 _).trans (zn_al (zmk_7 M) 1 576)
  have := (zmk_z7 M h)
  omega
theorem zmk_z9 (M : zMem) (h : zn M = 82) : zn (zmk_9 M) = 89 := by
  have a9 : zn (zmk_9 M) = zn (zmk_8 M) + 1 := (zn_sF (zal (zmk_8 M) 1 24) 81 24 _).trans (zn_al (zmk_8 M) 1 24)
  have := (zmk_z8 M h)
  omega
theorem zmk_z10 (M : zMem) (h : zn M = 82) : zn (zmk_10 M) = 90 := by
  have a10 : zn (zmk_10 M) = zn (zmk_9 M) + 1 := (zn_sF (zal (zmk_9 M) 1 128) 81 27 _).trans (zn_al (zmk_9 M) 1 128)
  have := (zmk_z9 M h)
  omega
theorem zmk_z11 (M : zMem) (h : zn M = 82) : zn (zmk_11 M) = 91 := by
  have a11 : zn (zmk_11 M) = zn (zmk_10 M) + 1 := (zn_sF (zal (zmk_10 M) 1 128) 81 28 _).trans (zn_al (zmk_10 M) 1 128)
  have := (zmk_z10 M h)
  omega
theorem zmk_z12 (M : zMem) (h : zn M = 82) : zn (zmk_12 M) = 92 := by
  have a12 : zn (zmk_12 M) = zn (zmk_11 M) + 1 := (zn_sF (zal (zmk_11 M) 1 64) 81 29 _).trans (zn_al (zmk_11 M) 1 64)
  have := (zmk_z11 M h)
  omega
theorem zmk_z13 (M : zMem) (h : zn M = 82) : zn (zmk_13 M) = 93 := by
  have a13 : zn (zmk_13 M) = zn (zmk_12 M) + 1 := (zn_sF (zal (zmk_12 M) 1 64) 81 30 _).trans (zn_al (zmk_12 M) 1 64)
  have := (zmk_z12 M h)
  omega
theorem zmk_z14 (M : zMem) (h : zn M = 82) : zn (zmk_14 M) = 94 := by
  have a14 : zn (zmk_14 M) = zn (zmk_13 M) + 1 := (zn_sF (zal (zmk_13 M) 1 4096) 81 31 _).trans (zn_al (zmk_13 M) 1 4096)
  have := (zmk_z13 M h)
  omega
theorem zmk_z15 (M : zMem) (h : zn M = 82) : zn (zmk_15 M) = 95 := by
  have a15 : zn (zmk_15 M) = zn (zmk_14 M) + 1 := (zn_sF (zal (zmk_14 M) 1 1536) 81 32 _).trans (zn_al (zmk_14 M) 1 1536)
  have := (zmk_z14 M h)
  omega
theorem zmk_z16 (M : zMem) (h : zn M = 82) : zn (zmk_16 M) = 96 := by
  have a16 : zn (zmk_16 M) = zn (zmk_15 M) + 1 := (zn_sF (zal (zmk_15 M) 2 2560) 81 33 _).trans (zn_al (zmk_15 M) 2 2560)
  have := (zmk_z15 M h)
  omega
theorem zmk_z17 (M : zMem) (h : zn M = 82) : zn (zmk_17 M) = 97 := by
  have a17 : zn (zmk_17 M) = zn (zmk_16 M) + 1 := (zn_sF (zal (zmk_16 M) 2 64) 81 34 _).trans (zn_al (zmk_16 M) 2 64)
  have := (zmk_z16 M h)
  omega
theorem zmk_z18 (M : zMem) (h : zn M = 82) : zn (zmk_18 M) = 98 := by
  have a18 : zn (zmk_18 M) = zn (zmk_17 M) + 1 := (zn_sF (zal (zmk_17 M) 2 64) 81 35 _).trans (zn_al (zmk_17 M) 2 64)
  have := (zmk_z17 M h)
  omega
theorem zmk_z19 (M : zMem) (h : zn M = 82) : zn (zmk_19 M) = 99 := by
  have a19 : zn (zmk_19 M) = zn (zmk_18 M) + 1 := (zn_sF (zal (zmk_18 M) 2 64) 81 36 _).trans (zn_al (zmk_18 M) 2 64)
  have := (zmk_z18 M h)
  omega
theorem zmk_z20 (M : zMem) (h : zn M = 82) : zn (zmk_20 M) = 100 := by
  have a20 : zn (zmk_20 M) = zn (zmk_19 M) + 1 := (zn_sF (zal (zmk_19 M) 2 64) 81 37 _).trans (zn_al (zmk_19 M) 2 64)
  have := (zmk_z19 M h)
  omega
theorem zmk_z21 (M : zMem) (h : zn M = 82) : zn (zmk_21 M) = 101 := by
  have a21 : zn (zmk_21 M) = zn (zmk_20 M) + 1 := (zn_sF (zal (zmk_20 M) 1 80) 81 40 _).trans (zn_al (zmk_20 M) 1 80)
  have := (zmk_z20 M h)
  omega
theorem zmk_z22 (M : zMem) (h : zn M = 82) : zn (zmk_22 M) = 102 := by
  have a22 : zn (zmk_22 M) = zn (zmk_21 M) + 1 := (zn_sF (zal (zmk_21 M) 2 8) 81 44 _).trans (zn_al (zmk_21 M) 2 8)
  have := (zmk_z21 M h)
  omega
theorem zmk_z23 (M : zMem) (h : zn M = 82) : zn (zmk_23 M) = 103 := by
  have a23 : zn (zmk_23 M) = zn (zmk_22 M) + 1 := (zn_sF (zal (zmk_22 M) 2 512) 81 45 _).trans (zn_al (zmk_22 M) 2 512)
  have := (zmk_z22 M h)
  omega
theorem zmk_z24 (M : zMem) (h : zn M = 82) : zn (zmk_24 M) = 104 := by
  have a24 : zn (zmk_24 M) = zn (zmk_23 M) + 1 := (zn_sF (zal (zmk_23 M) 2 8) 81 46 _).trans (zn_al (zmk_23 M) 2 8)
  have := (zmk_z23 M h)
  omega
theorem zmk_z25 (M : zMem) (h : zn M = 82) : zn (zmk_25 M) = 105 := by
  have a25 : zn (zmk_25 M) = zn (zmk_24 M) + 1 := (zn_sF (zal (zmk_24 M) 2 512) 81 47 _).trans (zn_al (zmk_24 M) 2 512)
  have := (zmk_z24 M h)
  omega
theorem zmk_z26 (M : zMem) (h : zn M = 82) : zn (zmk_26 M) = 106 := by
  have a26 : zn (zmk_26 M) = zn (zmk_25 M) + 1 := (zn_sF (zal (zmk_25 M) 2 64) 81 48 _).trans (zn_al (zmk_25 M) 2 64)
  have := (zmk_z25 M h)
  omega
theorem zmk_z27 (M : zMem) (h : zn M = 82) : zn (zmk_27 M) = 107 := by
  have a27 : zn (zmk_27 M) = zn (zmk_26 M) + 1 := (zn_sF (zal (zmk_26 M) 1 128) 81 49 _).trans (zn_al (zmk_26 M) 1 128)
  have := (zmk_z26 M h)
  omega
theorem zmk_z28 (M : zMem) (h : zn M = 82) : zn (zmk_28 M) = 108 := by
  have a28 : zn (zmk_28 M) = zn (zmk_27 M) + 1 := (zn_sF (zal (zmk_27 M) 2 64) 81 50 _).trans (zn_al (zmk_27 M) 2 64)
  have := (zmk_z27 M h)
  omega
theorem zmk_z29 (M : zMem) (h : zn M = 82) : zn (zmk_29 M) = 109 := by
  have a29 : zn (zmk_29 M) = zn (zmk_28 M) + 1 := (zn_sF (zal (zmk_28 M) 2 64) 81 51 _).trans (zn_al (zmk_28 M) 2 64)
  have := (zmk_z28 M h)
  omega
theorem zmk_z30 (M : zMem) (h : zn M = 82) : zn (zmk_30 M) = 110 := by
  have a30 : zn (zmk_30 M) = zn (zmk_29 M) + 1 := (zn_sF (zal (zmk_29 M) 1 24) 81 54 _).trans (zn_al (zmk_29 M) 1 24)
  have := (zmk_z29 M h)
  omega
theorem zmk_z31 (M : zMem) (h : zn M = 82) : zn (zmk_31 M) = 111 := by
  have a31 : zn (zmk_31 M) = zn (zmk_30 M) + 1 := (zn_sF (zal (zmk_30 M) 1 65536) 81 56 _).trans (zn_al (zmk_30 M) 1 65536)
  have := (zmk_z30 M h)
  omega
theorem zmk_z32 (M : zMem) (h : zn M = 82) : zn (zmk_32 M) = 112 := by
  have a32 : zn (zmk_32 M) = zn (zmk_31 M) + 1 := (zn_sF (zal (zmk_31 M) 2 768) 81 59 _).trans (zn_al (zmk_31 M) 2 768)
  have := (zmk_z31 M h)
  omega
theorem zmk_z33 (M : zMem) (h : zn M = 82) : zn (zmk_33 M) = 113 := by
  have a33 : zn (zmk_33 M) = zn (zmk_32 M) + 1 := (zn_sF (zal (zmk_32 M) 1 6) 81 61 _).trans (zn_al (zmk_32 M) 1 6)
  have := (zmk_z32 M h)
  omega
theorem zmk_a82 (M : zMem) (h : zn M = 82) : zf (zmk M) 81 0 = some 82 ∧ zsh (zmk M) 82 = (1, 700) ∧ zi (zmk M) 82 = (fun _ => 0) ∧ zj (zmk M) 82 = (fun _ => 0) := by
  have hz : zn M = 82 := h
  have b1 : zf (zmk_1 M) 81 0 = some (zn M) := zsF_s (zal M 1 700) 81 0 (some (zn M))
  have b2 : zsh (zmk_1 M) (zn M) = (1, 700) := zal_sh (M := M) (t := 1) (n := 700)
  have b3 : zi (zmk_1 M) (zn M) = (fun _ => 0) ∧ zj (zmk_1 M) (zn M) = (fun _ => 0) := zal_new (M := M) (t := 1) (n := 700)
  rw [hz] at b1 b2 b3
  have p2 : zPr 82 0 (zmk_1 M) (zmk_2 M) := zPr.i (by decide)
  have p3 : zPr 82 0 (zmk_1 M) (zmk_3 M) := p2.tr (zPr.i (by decide))
  have p4 : zPr 82 0 (zmk_1 M) (zmk_4 M) := p3.tr (zPr.al (t := 1) (n := 24) (by have := zmk_z3 M h; omega) (by have := zmk_z3 M h; (exact zo_1649 this)) (by decide))
  have p5 : zPr 82 0 (zmk_1 M) (zmk_5 M) := p4.tr (zPr.al (t := 1) (n := 24) (by have := zmk_z4 M h; omega) (by have := zmk_z4 M h; (exact zo_1651 this)) (by decide))
  have p6 : zPr 82 0 (zmk_1 M) (zmk_6 M) := p5.tr (zPr.al (t := 1) (n := 144) (by have := zmk_z5 M h; omega) (by have := zmk_z5 M h; (exact zo_1653 this)) (by decide))
  have p7 : zPr 82 0 (zmk_1 M) (zmk_7 M) := p6.tr (zPr.al (t := 1) (n := 6) (by have := zmk_z6 M h; omega) (by have := zmk_z6 M h; (exact zo_1655 this)) (by decide))
  have p8 : zPr 82 0 (zmk_1 M) (zmk_8 M) := p7.tr (zPr.al (t := 1) (n := 576) (by have := zmk_z7 M h; omega) (by have := zmk_z7 M h; (exact zo_1657 this)) (by decide))
  have p9 : zPr 82 0 (zmk_1 M) (zmk_9 M) := p8.tr (zPr.al (t := 1) (n := 24) (by have := zmk_z8 M h; omega) (by have := zmk_z8 M h; (exact zo_1659 this)) (by decide))
  have p10 : zPr 82 0 (zmk_1 M) (zmk_10 M) := p9.tr (zPr.al (t := 1) (n := 128) (by have := zmk_z9 M h; omega) (by have := zmk_z9 M h; (exact zo_1661 this)) (by decide))
  have p11 : zPr 82 0 (zmk_1 M) (zmk_11 M) := p10.tr (zPr.al (t := 1) (n := 128) (by have := zmk_z10 M h; omega) (by have := zmk_z10 M h; (exact zo_1663 this)) (by decide))
  have p12 : zPr 82 0 (zmk_1 M) (zmk_12 M) := p11.tr (zPr.al (t := 1) (n := 64) (by have := zmk_z11 M h; omega) (by have := zmk_z11 M h; (exact zo_1665 this)) (by decide))
  have p13 : zPr 82 0 (zmk_1 M) (zmk_13 M) := p12.tr (zPr.al (t := 1) (n := 64) (by have := zmk_z12 M h; omega) (by have := zmk_z12 M h; (exact zo_1667 this)) (by decide))
  have p14 : zPr 82 0 (zmk_1 M) (zmk_14 M) := p13.tr (zPr.al (t := 1) (n := 4096) (by have := zmk_z13 M h; omega) (by have := zmk_z13 M h; (exact zo_1669 this)) (by decide))
  have p15 : zPr 82 0 (zmk_1 M) (zmk_15 M) := p14.tr (zPr.al (t := 1) (n := 1536) (by have := zmk_z14 M h; omega) (by have := zmk_z14 M h; (exact zo_1671 this)) (by decide))
  have p16 : zPr 82 0 (zmk_1 M) (zmk_16 M) := p15.tr (zPr.al (t := 2) (n := 2560) (by have := zmk_z15 M h; omega) (by have := zmk_z15 M h; (exact zo_1673 this)) (by decide))
  have p17 : zPr 82 0 (zmk_1 M) (zmk_17 M) := p16.tr (zPr.al (t := 2) (n := 64) (by have := zmk_z16 M h; omega) (by have := zmk_z16 M h; (exact zo_1675 this)) (by decide))
  have p18 : zPr 82 0 (zmk_1 M) (zmk_18 M) := p17.tr (zPr.al (t := 2) (n := 64) (by have := zmk_z17 M h; omega) (by have := zmk_z17 M h; (exact zo_1677 this)) (by decide))
  have p19 : zPr 82 0 (zmk_1 M) (zmk_19 M) := p18.tr (zPr.al (t := 2) (n := 64) (by have := zmk_z18 M h; omega) (by have := zmk_z18 M h; (exact zo_1679 this)) (by decide))
  have p20 : zPr 82 0 (zmk_1 M) (zmk_20 M) := p19.tr (zPr.al (t := 2) (n := 64) (by have := zmk_z19 M h; omega) (by have := zmk_z19 M h; (exact zo_1681 this)) (by decide))
  have p21 : zPr 82 0 (zmk_1 M) (zmk_21 M) := p20.tr (zPr.al (t := 1) (n := 80) (by have := zmk_z20 M h; omega) (by have := zmk_z20 M h; (exact zo_1683 this)) (by decide))
  have p22 : zPr 82 0 (zmk_1 M) (zmk_22 M) := p21.tr (zPr.al (t := 2) (n := 8) (by have := zmk_z21 M h; omega) (by have := zmk_z21 M h; (exact zo_1685 this)) (by decide))
  have p23 : zPr 82 0 (zmk_1 M) (zmk_23 M) := p22.tr (zPr.al (t := 2) (n := 512) (by have := zmk_z22 M h; omega) (by have := zmk_z22 M h; (exact zo_1687 this)) (by decide))
  have p24 : zPr 82 0 (zmk_1 M) (zmk_24 M) := p23.tr (zPr.al (t := 2) (n := 8) (by have := zmk_z23 M h; omega) (by have := zmk_z23 M h; (exact zo_1689 this)) (by decide))
  have p25 : zPr 82 0 (zmk_1 M) (zmk_25 M) := p24.tr (zPr.al (t := 2) (n := 512) (by have := zmk_z24 M h; omega) (by have := zmk_z24 M h; (exact zo_1691 this)) (by decide))
  have p26 : zPr 82 0 (zmk_1 M) (zmk_26 M) := p25.tr (zPr.al (t := 2) (n := 64) (by have := zmk_z25 M h; omega) (by have := zmk_z25 M h; (exact zo_1693 this)) (by decide))
  have p27 : zPr 82 0 (zmk_1 M) (zmk_27 M) := p26.tr (zPr.al (t := 1) (n := 128) (by have := zmk_z26 M h; omega) (by have := zmk_z26 M h; (exact zo_1695 this)) (by decide))
  have p28 : zPr 82 0 (zmk_1 M) (zmk_28 M) := p27.tr (zPr.al (t := 2) (n := 64) (by have := zmk_z27 M h; omega) (by have := zmk_z27 M h; (exact zo_1697 this)) (by decide))
  have p29 : zPr 82 0 (zmk_1 M) (zmk_29 M) := p28.tr (zPr.al (t := 2) (n := 64) (by have := zmk_z28 M h; omega) (by have := zmk_z28 M h; (exact zo_1699 this)) (by decide))
  have p30 : zPr 82 0 (zmk_1 M) (zmk_30 M) := p29.tr (zPr.al (t := 1) (n := 24) (by have := zmk_z29 M h; omega) (by have := zmk_z29 M h; (exact zo_1701 this)) (by decide))
  have p31 : zPr 82 0 (zmk_1 M) (zmk_31 M) := p30.tr (zPr.al (t := 1) (n := 65536) (by have := zmk_z30 M h; omega) (by have := zmk_z30 M h; (exact zo_1703 this)) (by decide))
  have p32 : zPr 82 0 (zmk_1 M) (zmk_32 M) := p31.tr (zPr.al (t := 2) (n := 768) (by have := zmk_z31 M h; omega) (by have := zmk_z31 M h; (exact zo_1705 this)) (by decide))
  have p33 : zPr 82 0 (zmk_1 M) (zmk_33 M) := p32.tr (zPr.al (t := 1) (n := 6) (by have := zmk_z32 M h; omega) (by have := zmk_z32 M h; (exact zo_1707 this)) (by decide))
  have p34 : zPr 82 0 (zmk_1 M) (zmk_34 M) := p33.tr (zPr.al (t := 1) (n := 7) (by have := zmk_z33 M h; omega) (by have := zmk_z33 M h; (exact zo_1709 this)) (by decide))
  have p35 : zPr 82 0 (zmk_1 M) (zmk_35 M) := p34.tr (zPr.i (by decide))
  exact ⟨p35.2.1.trans b1, p35.1.trans b2, p35.2.2.1.trans b3.1, p35.2.2.2.trans b3.2⟩
theorem zmk_a83 (M : zMem) (h : zn M = 82) : zf (zmk M) 81 15 = some 83 ∧ zsh (zmk M) 83 = (1, 24) ∧ zi (zmk M) 83 = (fun _ => 0) ∧ zj (zmk M) 83 = (fun _ => 0) := by
  have hz : zn (zmk_3 M) = 83 := (zmk_z3 M h)
  have b1 : zf (zmk_4 M) 81 15 = some (zn (zmk_3 M)) := zsF_s (zal (zmk_3 M) 1 24) 81 15 (some (zn (zmk_3 M)))
  have b2 : zsh (zmk_4 M) (zn (zmk_3 M)) = (1, 24) := zal_sh (M := (zmk_3 M)) (t := 1) (n := 24)
  have b3 : zi (zmk_4 M) (zn (zmk_3 M)) = (fun _ => 0) ∧ zj (zmk_4 M) (zn (zmk_3 M)) = (fun _ => 0) := zal_new (M := (zmk_3 M)) (t := 1) (n := 24)
  rw [hz] at b1 b2 b3
  have p5 : zPr 83 15 (zmk_4 M) (zmk_5 M) := zPr.al (t := 1) (n := 24) (by have := zmk_z4 M h; omega) (by have := zmk_z4 M h; (exact zo_1651 this)) (by decide)
  have p6 : zPr 83 15 (zmk_4 M) (zmk_6 M) := p5.tr (zPr.al (t := 1) (n := 144) (by have := zmk_z5 M h; omega) (by have := zmk_z5 M h; (exact zo_1653 this)) (by decide))
  have p7 : zPr 83 15 (zmk_4 M) (zmk_7 M) := p6.tr (zPr.al (t := 1) (n := 6) (by have := zmk_z6 M h; omega) (by have := zmk_z6 M h; (exact zo_1655 this)) (by decide))
  have p8 : zPr 83 15 (zmk_4 M) (zmk_8 M) := p7.tr (zPr.al (t := 1) (n := 576) (by have := zmk_z7 M h; omega) (by have := zmk_z7 M h; (exact zo_1657 this)) (by decide))
  have p9 : zPr 83 15 (zmk_4 M) (zmk_9 M) := p8.tr (zPr.al (t := 1) (n := 24) (by have := zmk_z8 M h; omega) (by have := zmk_z8 M h; (exact zo_1659 this)) (by decide))
  have p10 : zPr 83 15 (zmk_4 M) (zmk_10 M) := p9.tr (zPr.al (t := 1) (n := 128) (by have := zmk_z9 M h; omega) (by have := zmk_z9 M h; (exact zo_1661 this)) (by decide))
  have p11 : zPr 83 15 (zmk_4 M) (zmk_11 M) := p10.tr (zPr.al (t := 1) (n := 128) (by have := zmk_z10 M h; omega) (by have := zmk_z10 M h; (exact zo_1663 this)) (by decide))
  have p12 : zPr 83 15 (zmk_4 M) (zmk_12 M) := p11.tr (zPr.al (t := 1) (n := 64) (by have := zmk_z11 M h; omega) (by have := zmk_z11 M h; (exact zo_1665 this)) (by decide))
  have p13 : zPr 83 15 (zmk_4 M) (zmk_13 M) := p12.tr (zPr.al (t := 1) (n := 64) (by have := zmk_z12 M h; omega) (by have := zmk_z12 M h; (exact zo_1667 this)) (by decide))
  have p14 : zPr 83 15 (zmk_4 M) (zmk_14 M) := p13.tr (zPr.al (t := 1) (n := 4096) (by have := zmk_z13 M h; omega) (by have := zmk_z13 M h; (exact zo_1669 this)) (by decide))
  have p15 : zPr 83 15 (zmk_4 M) (zmk_15 M) := p14.tr (zPr.al (t := 1) (n := 1536) (by have := zmk_z14 M h; omega) (by have := zmk_z14 M h; (exact zo_1671 this)) (by decide))
  have p16 : zPr 83 15 (zmk_4 M) (zmk_16 M) := p15.tr (zPr.al (t := 2) (n := 2560) (by have := zmk_z15 M h; omega) (by have := zmk_z15 M h; (exact zo_1673 this)) (by decide))
  have p17 : zPr 83 15 (zmk_4 M) (zmk_17 M) := p16.tr (zPr.al (t := 2) (n := 64) (by have := zmk_z16 M h; omega) (by have := zmk_z16 M h; (exact zo_1675 this)) (by decide))
  have p18 : zPr 83 15 (zmk_4 M) (zmk_18 M) := p17.tr (zPr.al (t := 2) (n := 64) (by have := zmk_z17 M h; omega) (by have := zmk_z17 M h; (exact zo_1677 this)) (by decide))
  have p19 : zPr 83 15 (zmk_4 M) (zmk_19 M) := p18.tr (zPr.al (t := 2) (n := 64) (by have := zmk_z18 M h; omega) (by have := zmk_z18 M h; (exact zo_1679 this)) (by decide))
  have p20 : zPr 83 15 (zmk_4 M) (zmk_20 M) := p19.tr (zPr.al (t := 2) (n := 64) (by have := zmk_z19 M h; omega) (by have := zmk_z19 M h; (exact zo_1681 this)) (by decide))
  have p21 : zPr 83 15 (zmk_4 M) (zmk_21 M) := p20.tr (zPr.al (t := 1) (n := 80) (by have := zmk_z20 M h; omega) (by have := zmk_z20 M h; (exact zo_1683 this)) (by decide))
  have p22 : zPr 83 15 (zmk_4 M) (zmk_22 M) := p21.tr (zPr.al (t := 2) (n := 8) (by have := zmk_z21 M h; omega) (by have := zmk_z21 M h; (exact zo_1685 this)) (by decide))
  have p23 : zPr 83 15 (zmk_4 M) (zmk_23 M) := p22.tr (zPr.al (t := 2) (n := 512) (by have := zmk_z22 M h; omega) (by have := zmk_z22 M h; (exact zo_1687 this)) (by decide))
  have p24 : zPr 83 15 (zmk_4 M) (zmk_24 M) := p23.tr (zPr.al (t := 2) (n := 8) (by have := zmk_z23 M h; omega) (by have := zmk_z23 M h; (exact zo_1689 this)) (by decide))
  have p25 : zPr 83 15 (zmk_4 M) (zmk_25 M) := p24.tr (zPr.al (t := 2) (n := 512) (by have := zmk_z24 M h; omega) (by have := zmk_z24 M h; (exact zo_1691 this)) (by decide))
  have p26 : zPr 83 15 (zmk_4 M) (zmk_26 M) := p25.tr (zPr.al (t := 2) (n := 64) (by have := zmk_z25 M h; omega) (by have := zmk_z25 M h; (exact zo_1693 this)) (by decide))
  have p27 : zPr 83 15 (zmk_4 M) (zmk_27 M) := p26.tr (zPr.al (t := 1) (n := 128) (by have := zmk_z26 M h; omega) (by have := zmk_z26 M h; (exact zo_1695 this)) (by decide))
  have p28 : zPr 83 15 (zmk_4 M) (zmk_28 M) := p27.tr (zPr.al (t := 2) (n := 64) (by have := zmk_z27 M h; omega) (by have := zmk_z27 M h; (exact zo_1697 this)) (by decide))
  have p29 : zPr 83 15 (zmk_4 M) (zmk_29 M) := p28.tr (zPr.al (t := 2) (n := 64) (by have := zmk_z28 M h; omega) (by have := zmk_z28 M h; (exact zo_1699 this)) (by decide))
  have p30 : zPr 83 15 (zmk_4 M) (zmk_30 M) := p29.tr (zPr.al (t := 1) (n := 24) (by have := zmk_z29 M h; omega) (by have := zmk_z29 M h; (exact zo_1701 this)) (by decide))
  have p31 : zPr 83 15 (zmk_4 M) (zmk_31 M) := p30.tr (zPr.al (t := 1) (n := 65536) (by have := zmk_z30 M h; omega) (by have := zmk_z30 M h; (exact zo_1703 this)) (by decide))
  have p32 : zPr 83 15 (zmk_4 M) (zmk_32 M) := p31.tr (zPr.al (t := 2) (n := 768) (by have := zmk_z31 M h; omega) (by have := zmk_z31 M h; (exact zo_1705 this)) (by decide))
  have p33 : zPr 83 15 (zmk_4 M) (zmk_33 M) := p32.tr (zPr.al (t := 1) (n := 6) (by have := zmk_z32 M h; omega) (by have := zmk_z32 M h; (exact zo_1707 this)) (by decide))
  have p34 : zPr 83 15 (zmk_4 M) (zmk_34 M) := p33.tr (zPr.al (t := 1) (n := 7) (by have := zmk_z33 M h; omega) (by have := zmk_z33 M h; (exact zo_1709 this)) (by decide))
  have p35 : zPr 83 15 (zmk_4 M) (zmk_35 M) := p34.tr (zPr.i (by decide))
  exact ⟨p35.2.1.trans b1, p35.1.trans b2, p35.2.2.1.trans b3.1, p35.2.2.2.trans b3.2⟩
theorem zmk_a84 (M : zMem) (h : zn M = 82) : zf (zmk M) 81 19 = some 84 ∧ zsh (zmk M) 84 = (1, 24) ∧ zi (zmk M) 84 = (fun _ => 0) ∧ zj (zmk M) 84 = (fun _ => 0) := by
  have hz : zn (zmk_4 M) = 84 := (zmk_z4 M h)
  have b1 : zf (zmk_5 M) 81 19 = some (zn (zmk_4 M)) := zsF_s (zal (zmk_4 M) 1 24) 81 19 (some (zn (zmk_4 M)))
  have b2 : zsh (zmk_5 M) (zn (zmk_4 M)) = (1, 24) := zal_sh (M := (zmk_4 M)) (t := 1) (n := 24)
  have b3 : zi (zmk_5 M) (zn (zmk_4 M)) = (fun _ => 0) ∧ zj (zmk_5 M) (zn (zmk_4 M)) = (fun _ => 0) := zal_new (M := (zmk_4 M)) (t := 1) (n := 24)
  rw [hz] at b1 b2 b3
  have p6 : zPr 84 19 (zmk_5 M) (zmk_6 M) := zPr.al (t := 1) (n := 144) (by have := zmk_z5 M h; omega) (by have := zmk_z5 M h; (exact zo_1653 this)) (by decide)
  have p7 : zPr 84 19 (zmk_5 M) (zmk_7 M) := p6.tr (zPr.al (t := 1) (n := 6) (by have := zmk_z6 M h; omega) (by have := zmk_z6 M h; (exact zo_1655 this)) (by decide))
  have p8 : zPr 84 19 (zmk_5 M) (zmk_8 M) := p7.tr (zPr.al (t := 1) (n := 576) (by have := zmk_z7 M h; omega) (by have := zmk_z7 M h; (exact zo_1657 this)) (by decide))
  have p9 : zPr 84 19 (zmk_5 M) (zmk_9 M) := p8.tr (zPr.al (t := 1) (n := 24) (by have := zmk_z8 M h; omega) (by have := zmk_z8 M h; (exact zo_1659 this)) (by decide))
  have p10 : zPr 84 19 (zmk_5 M) (zmk_10 M) := p9.tr (zPr.al (t := 1) (n := 128) (by have := zmk_z9 M h; omega) (by have := zmk_z9 M h; (exact zo_1661 this)) (by decide))
  have p11 : zPr 84 19 (zmk_5 M) (zmk_11 M) := p10.tr (zPr.al (t := 1) (n := 128) (by have := zmk_z10 M h; omega) (by have := zmk_z10 M h; (exact zo_1663 this)) (by decide))
  have p12 : zPr 84 19 (zmk_5 M) (zmk_12 M) := p11.tr (zPr.al (t := 1) (n := 64) (by have := zmk_z11 M h; omega) (by have := zmk_z11 M h; (exact zo_1665 this)) (by decide))
  have p13 : zPr 84 19 (zmk_5 M) (zmk_13 M) := p12.tr (zPr.al (t := 1) (n := 64) (by have := zmk_z12 M h; omega) (by have := zmk_z12 M h; (exact zo_1667 this)) (by decide))
  have p14 : zPr 84 19 (zmk_5 M) (zmk_14 M) := p13.tr (zPr.al (t := 1) (n := 4096) (by have := zmk_z13 M h; omega) (by have := zmk_z13 M h; (exact zo_1669 this)) (by decide))
  have p15 : zPr 84 19 (zmk_5 M) (zmk_15 M) := p14.tr (zPr.al (t := 1) (n := 1536) (by have := zmk_z14 M h; omega) (by have := zmk_z14 M h; (exact zo_1671 this)) (by decide))
  have p16 : zPr 84 19 (zmk_5 M) (zmk_16 M) := p15.tr (zPr.al (t := 2) (n := 2560) (by have := zmk_z15 M h; omega) (by have := zmk_z15 M h; (exact zo_1673 this)) (by decide))
  have p17 : zPr 84 19 (zmk_5 M) (zmk_17 M) := p16.tr (zPr.al (t := 2) (n := 64) (by have := zmk_z16 M h; omega) (by have := zmk_z16 M h; (exact zo_1675 this)) (by decide))
  have p18 : zPr 84 19 (zmk_5 M) (zmk_18 M) := p17.tr (zPr.al (t := 2) (n := 64) (by have := zmk_z17 M h; omega) (by have := zmk_z17 M h; (exact zo_1677 this)) (by decide))
  have p19 : zPr 84 19 (zmk_5 M) (zmk_19 M) := p18.tr (zPr.al (t := 2) (n := 64) (by have := zmk_z18 M h; omega) (by have := zmk_z18 M h; (exact zo_1679 this)) (by decide))
  have p20 : zPr 84 19 (zmk_5 M) (zmk_20 M) := p19.tr (zPr.al (t := 2) (n := 64) (by have := zmk_z19 M h; omega) (by have := zmk_z19 M h; (exact zo_1681 this)) (by decide))
  have p21 : zPr 84 19 (zmk_5 M) (zmk_21 M) := p20.tr (zPr.al (t := 1) (n := 80) (by have := zmk_z20 M h; omega) (by have := zmk_z20 M h; (exact zo_1683 this)) (by decide))
  have p22 : zPr 84 19 (zmk_5 M) (zmk_22 M) := p21.tr (zPr.al (t := 2) (n := 8) (by have := zmk_z21 M h; omega) (by have := zmk_z21 M h; (exact zo_1685 this)) (by decide))
  have p23 : zPr 84 19 (zmk_5 M) (zmk_23 M) := p22.tr (zPr.al (t := 2) (n := 512) (by have := zmk_z22 M h; omega) (by have := zmk_z22 M h; (exact zo_1687 this)) (by decide))
  have p24 : zPr 84 19 (zmk_5 M) (zmk_24 M) := p23.tr (zPr.al (t := 2) (n := 8) (by have := zmk_z23 M h; omega) (by have := zmk_z23 M h; (exact zo_1689 this)) (by decide))
  have p25 : zPr 84 19 (zmk_5 M) (zmk_25 M) := p24.tr (zPr.al (t := 2) (n := 512) (by have := zmk_z24 M h; omega) (by have := zmk_z24 M h; (exact zo_1691 this)) (by decide))
  have p26 : zPr 84 19 (zmk_5 M) (zmk_26 M) := p25.tr (zPr.al (t := 2) (n := 64) (by have := zmk_z25 M h; omega) (by have := zmk_z25 M h; (exact zo_1693 this)) (by decide))
  have p27 : zPr 84 19 (zmk_5 M) (zmk_27 M) := p26.tr (zPr.al (t := 1) (n := 128) (by have := zmk_z26 M h; omega) (by have := zmk_z26 M h; (exact zo_1695 this)) (by decide))
  have p28 : zPr 84 19 (zmk_5 M) (zmk_28 M) := p27.tr (zPr.al (t := 2) (n := 64) (by have := zmk_z27 M h; omega) (by have := zmk_z27 M h; (exact zo_1697 this)) (by decide))
  have p29 : zPr 84 19 (zmk_5 M) (zmk_29 M) := p28.tr (zPr.al (t := 2) (n := 64) (by have := zmk_z28 M h; omega) (by have := zmk_z28 M h; (exact zo_1699 this)) (by decide))
  have p30 : zPr 84 19 (zmk_5 M) (zmk_30 M) := p29.tr (zPr.al (t := 1) (n := 24) (by have := zmk_z29 M h; omega) (by have := zmk_z29 M h; (exact zo_1701 this)) (by decide))
  have p31 : zPr 84 19 (zmk_5 M) (zmk_31 M) := p30.tr (zPr.al (t := 1) (n := 65536) (by have := zmk_z30 M h; omega) (by have := zmk_z30 M h; (exact zo_1703 this)) (by decide))
  have p32 : zPr 84 19 (zmk_5 M) (zmk_32 M) := p31.tr (zPr.al (t := 2) (n := 768) (by have := zmk_z31 M h; omega) (by have := zmk_z31 M h; (exact zo_1705 this)) (by decide))
  have p33 : zPr 84 19 (zmk_5 M) (zmk_33 M) := p32.tr (zPr.al (t := 1) (n := 6) (by have := zmk_z32 M h; omega) (by have := zmk_z32 M h; (exact zo_1707 this)) (by decide))
  have p34 : zPr 84 19 (zmk_5 M) (zmk_34 M) := p33.tr (zPr.al (t := 1) (n := 7) (by have := zmk_z33 M h; omega) (by have := zmk_z33 M h; (exact zo_1709 this)) (by decide))
  have p35 : zPr 84 19 (zmk_5 M) (zmk_35 M) := p34.tr (zPr.i (by decide))
  exact ⟨p35.2.1.trans b1, p35.1.trans b2, p35.2.2.1.trans b3.1, p35.2.2.2.trans b3.2⟩
theorem zmk_a85 (M : zMem) (h : zn M = 82) : zf (zmk M) 81 21 = some 85 ∧ zsh (zmk M) 85 = (1, 144) ∧ zi (zmk M) 85 = (fun _ => 0) ∧ zj (zmk M) 85 = (fun _ => 0) := by
  have hz : zn (zmk_5 M) = 85 := (zmk_z5 M h)
  have b1 : zf (zmk_6 M) 81 21 = some (zn (zmk_5 M)) := zsF_s (zal (zmk_5 M) 1 144) 81 21 (some (zn (zmk_5 M)))
  have b2 : zsh (zmk_6 M) (zn (zmk_5 M)) = (1, 144) := zal_sh (M := (zmk_5 M)) (t := 1) (n := 144)
  have b3 : zi (zmk_6 M) (zn (zmk_5 M)) = (fun _ => 0) ∧ zj (zmk_6 M) (zn (zmk_5 M)) = (fun _ => 0) := zal_new (M := (zmk_5 M)) (t := 1) (n := 144)
  rw [hz] at b1 b2 b3
  have p7 : zPr 85 21 (zmk_6 M) (zmk_7 M) := zPr.al (t := 1) (n := 6) (by have := zmk_z6 M h; omega) (by have := zmk_z6 M h; (exact zo_1655 this)) (by decide)
  have p8 : zPr 85 21 (zmk_6 M) (zmk_8 M) := p7.tr (zPr.al (t := 1) (n := 576) (by have := zmk_z7 M h; omega) (by have := zmk_z7 M h; (exact zo_1657 this)) (by decide))
  have p9 : zPr 85 21 (zmk_6 M) (zmk_9 M) := p8.tr (zPr.al (t := 1) (n := 24) (by have := zmk_z8 M h; omega) (by have := zmk_z8 M h; (exact zo_1659 this)) (by decide))
  have p10 : zPr 85 21 (zmk_6 M) (zmk_10 M) := p9.tr (zPr.al (t := 1) (n := 128) (by have := zmk_z9 M h; omega) (by have := zmk_z9 M h; (exact zo_1661 this)) (by decide))
  have p11 : zPr 85 21 (zmk_6 M) (zmk_11 M) := p10.tr (zPr.al (t := 1) (n := 128) (by have := zmk_z10 M h; omega) (by have := zmk_z10 M h; (exact zo_1663 this)) (by decide))
  have p12 : zPr 85 21 (zmk_6 M) (zmk_12 M) := p11.tr (zPr.al (t := 1) (n := 64) (by have := zmk_z11 M h; omega) (by have := zmk_z11 M h; (exact zo_1665 this)) (by decide))
  have p13 : zPr 85 21 (zmk_6 M) (zmk_13 M) := p12.tr (zPr.al (t := 1) (n := 64) (by have := zmk_z12 M h; omega) (by have := zmk_z12 M h; (exact zo_1667 this)) (by decide))
  have p14 : zPr 85 21 (zmk_6 M) (zmk_14 M) := p13.tr (zPr.al (t := 1) (n := 4096) (by have := zmk_z13 M h; omega) (by have := zmk_z13 M h; (exact zo_1669 this)) (by decide))
  have p15 : zPr 85 21 (zmk_6 M) (zmk_15 M) := p14.tr (zPr.al (t := 1) (n := 1536) (by have := zmk_z14 M h; omega) (by have := zmk_z14 M h; (exact zo_1671 this)) (by decide))
  have p16 : zPr 85 21 (zmk_6 M) (zmk_16 M) := p15.tr (zPr.al (t := 2) (n := 2560) (by have := zmk_z15 M h; omega) (by have := zmk_z15 M h; (exact zo_1673 this)) (by decide))
  have p17 : zPr 85 21 (zmk_6 M) (zmk_17 M) := p16.tr (zPr.al (t := 2) (n := 64) (by have := zmk_z16 M h; omega) (by have := zmk_z16 M h; (exact zo_1675 this)) (by decide))
  have p18 : zPr 85 21 (zmk_6 M) (zmk_18 M) := p17.tr (zPr.al (t := 2) (n := 64) (by have := zmk_z17 M h; omega) (by have := zmk_z17 M h; (exact zo_1677 this)) (by decide))
  have p19 : zPr 85 21 (zmk_6 M) (zmk_19 M) := p18.tr (zPr.al (t := 2) (n := 64) (by have := zmk_z18 M h; omega) (by have := zmk_z18 M h; (exact zo_1679 this)) (by decide))
  have p20 : zPr 85 21 (zmk_6 M) (zmk_20 M) := p19.tr (zPr.al (t := 2) (n := 64) (by have := zmk_z19 M h; omega) (by have := zmk_z19 M h; (exact zo_1681 this)) (by decide))
  have p21 : zPr 85 21 (zmk_6 M) (zmk_21 M) := p20.tr (zPr.al (t := 1) (n := 80) (by have := zmk_z20 M h; omega) (by have := zmk_z20 M h; (exact zo_1683 this)) (by decide))
  have p22 : zPr 85 21 (zmk_6 M) (zmk_22 M) := p21.tr (zPr.al (t := 2) (n := 8) (by have := zmk_z21 M h; omega) (by have := zmk_z21 M h; (exact zo_1685 this)) (by decide))
  have p23 : zPr 85 21 (zmk_6 M) (zmk_23 M) := p22.tr (zPr.al (t := 2) (n := 512) (by have := zmk_z22 M h; omega) (by have := zmk_z22 M h; (exact zo_1687 this)) (by decide))
  have p24 : zPr 85 21 (zmk_6 M) (zmk_24 M) := p23.tr (zPr.al (t := 2) (n := 8) (by have := zmk_z23 M h; omega) (by have := zmk_z23 M h; (exact zo_1689 this)) (by decide))
  have p25 : zPr 85 21 (zmk_6 M) (zmk_25 M) := p24.tr (zPr.al (t := 2) (n := 512) (by have := zmk_z24 M h; omega) (by have := zmk_z24 M h; (exact zo_1691 this)) (by decide))
  have p26 : zPr 85 21 (zmk_6 M) (zmk_26 M) := p25.tr (zPr.al (t := 2) (n := 64) (by have := zmk_z25 M h; omega) (by have := zmk_z25 M h; (exact zo_1693 this)) (by decide))
  have p27 : zPr 85 21 (zmk_6 M) (zmk_27 M) := p26.tr (zPr.al (t := 1) (n := 128) (by have := zmk_z26 M h; omega) (by have := zmk_z26 M h; (exact zo_1695 this)) (by decide))
  have p28 : zPr 85 21 (zmk_6 M) (zmk_28 M) := p27.tr (zPr.al (t := 2) (n := 64) (by have := zmk_z27 M h; omega) (by have := zmk_z27 M h; (exact zo_1697 this)) (by decide))
  have p29 : zPr 85 21 (zmk_6 M) (zmk_29 M) := p28.tr (zPr.al (t := 2) (n := 64) (by have := zmk_z28 M h; omega) (by have := zmk_z28 M h; (exact zo_1699 this)) (by decide))
  have p30 : zPr 85 21 (zmk_6 M) (zmk_30 M) := p29.tr (zPr.al (t := 1) (n := 24) (by have := zmk_z29 M h; omega) (by have := zmk_z29 M h; (exact zo_1701 this)) (by decide))
  have p31 : zPr 85 21 (zmk_6 M) (zmk_31 M) := p30.tr (zPr.al (t := 1) (n := 65536) (by have := zmk_z30 M h; omega) (by have := zmk_z30 M h; (exact zo_1703 this)) (by decide))
  have p32 : zPr 85 21 (zmk_6 M) (zmk_32 M) := p31.tr (zPr.al (t := 2) (n := 768) (by have := zmk_z31 M h; omega) (by have := zmk_z31 M h; (exact zo_1705 this)) (by decide))
  have p33 : zPr 85 21 (zmk_6 M) (zmk_33 M) := p32.tr (zPr.al (t := 1) (n := 6) (by have := zmk_z32 M h; omega) (by have := zmk_z32 M h; (exact zo_1707 this)) (by decide))
  have p34 : zPr 85 21 (zmk_6 M) (zmk_34 M) := p33.tr (zPr.al (t := 1) (n := 7) (by have := zmk_z33 M h; omega) (by have := zmk_z33 M h; (exact zo_1709 this)) (by decide))
  have p35 : zPr 85 21 (zmk_6 M) (zmk_35 M) := p34.tr (zPr.i (by decide))
  exact ⟨p35.2.1.trans b1, p35.1.trans b2, p35.2.2.1.trans b3.1, p35.2.2.2.trans b3.2⟩
theorem zmk_a86 (M : zMem) (h : zn M = 82) : zf (zmk M) 81 22 = some 86 ∧ zsh (zmk M) 86 = (1, 6) ∧ zi (zmk M) 86 = (fun _ => 0) ∧ zj (zmk M) 86 = (fun _ => 0) := by
  have hz : zn (zmk_6 M) = 86 := (zmk_z6 M h)
  have b1 : zf (zmk_7 M) 81 22 = some (zn (zmk_6 M)) := zsF_s (zal (zmk_6 M) 1 6) 81 22 (some (zn (zmk_6 M)))
  have b2 : zsh (zmk_7 M) (zn (zmk_6 M)) = (1, 6) := zal_sh (M := (zmk_6 M)) (t := 1) (n := 6)
  have b3 : zi (zmk_7 M) (zn (zmk_6 M)) = (fun _ => 0) ∧ zj (zmk_7 M) (zn (zmk_6 M)) = (fun _ => 0) := zal_new (M := (zmk_6 M)) (t := 1) (n := 6)
  rw [hz] at b1 b2 b3
  have p8 : zPr 86 22 (zmk_7 M) (zmk_8 M) := zPr.al (t := 1) (n := 576) (by have := zmk_z7 M h; omega) (by have := zmk_z7 M h; (exact zo_1657 this)) (by decide)
  have p9 : zPr 86 22 (zmk_7 M) (zmk_9 M) := p8.tr (zPr.al (t := 1) (n := 24) (by have := zmk_z8 M h; omega) (by have := zmk_z8 M h; (exact zo_1659 this)) (by decide))
  have p10 : zPr 86 22 (zmk_7 M) (zmk_10 M) := p9.tr (zPr.al (t := 1) (n := 128) (by have := zmk_z9 M h; omega) (by have := zmk_z9 M h; (exact zo_1661 this)) (by decide))
  have p11 : zPr 86 22 (zmk_7 M) (zmk_11 M) := p10.tr (zPr.al (t := 1) (n := 128) (by have := zmk_z10 M h; omega) (by have := zmk_z10 M h; (exact zo_1663 this)) (by decide))
  have p12 : zPr 86 22 (zmk_7 M) (zmk_12 M) := p11.tr (zPr.al (t := 1) (n := 64) (by have := zmk_z11 M h; omega) (by have := zmk_z11 M h; (exact zo_1665 this)) (by decide))
  have p13 : zPr 86 22 (zmk_7 M) (zmk_13 M) := p12.tr (zPr.al (t := 1) (n := 64) (by have := zmk_z12 M h; omega) (by have := zmk_z12 M h; (exact zo_1667 this)) (by decide))
  have p14 : zPr 86 22 (zmk_7 M) (zmk_14 M) := p13.tr (zPr.al (t := 1) (n := 4096) (by have := zmk_z13 M h; omega) (by have := zmk_z13 M h; (exact zo_1669 this)) (by decide))
  have p15 : zPr 86 22 (zmk_7 M) (zmk_15 M) := p14.tr (zPr.al (t := 1) (n := 1536) (by have := zmk_z14 M h; omega) (by have := zmk_z14 M h; (exact zo_1671 this)) (by decide))
  have p16 : zPr 86 22 (zmk_7 M) (zmk_16 M) := p15.tr (zPr.al (t := 2) (n := 2560) (by have := zmk_z15 M h; omega) (by have := zmk_z15 M h; (exact zo_1673 this)) (by decide))
  have p17 : zPr 86 22 (zmk_7 M) (zmk_17 M) := p16.tr (zPr.al (t := 2) (n := 64) (by have := zmk_z16 M h; omega) (by have := zmk_z16 M h; (exact zo_1675 this)) (by decide))
  have p18 : zPr 86 22 (zmk_7 M) (zmk_18 M) := p17.tr (zPr.al (t := 2) (n := 64) (by have := zmk_z17 M h; omega) (by have := zmk_z17 M h; (exact zo_1677 this)) (by decide))
  have p19 : zPr 86 22 (zmk_7 M) (zmk_19 M) := p18.tr (zPr.al (t := 2) (n := 64) (by have := zmk_z18 M h; omega) (by have := zmk_z18 M h; (exact zo_1679 this)) (by decide))
  have p20 : zPr 86 22 (zmk_7 M) (zmk_20 M) := p19.tr (zPr.al (t := 2) (n := 64) (by have := zmk_z19 M h; omega) (by have := zmk_z19 M h; (exact zo_1681 this)) (by decide))
  have p21 : zPr 86 22 (zmk_7 M) (zmk_21 M) := p20.tr (zPr.al (t := 1) (n := 80) (by have := zmk_z20 M h; omega) (by have := zmk_z20 M h; (exact zo_1683 this)) (by decide))
  have p22 : zPr 86 22 (zmk_7 M) (zmk_22 M) := p21.tr (zPr.al (t := 2) (n := 8) (by have := zmk_z21 M h; omega) (by have := zmk_z21 M h; (exact zo_1685 this)) (by decide))
  have p23 : zPr 86 22 (zmk_7 M) (zmk_23 M) := p22.tr (zPr.al (t := 2) (n := 512) (by have := zmk_z22 M h; omega) (by have := zmk_z22 M h; (exact zo_1687 this)) (by decide))
  have p24 : zPr 86 22 (zmk_7 M) (zmk_24 M) := p23.tr (zPr.al (t := 2) (n := 8) (by have := zmk_z23 M h; omega) (by have := zmk_z23 M h; (exact zo_1689 this)) (by decide))
  have p25 : zPr 86 22 (zmk_7 M) (zmk_25 M) := p24.tr (zPr.al (t := 2) (n := 512) (by have := zmk_z24 M h; omega) (by have := zmk_z24 M h; (exact zo_1691 this)) (by decide))
  have p26 : zPr 86 22 (zmk_7 M) (zmk_26 M) := p25.tr (zPr.al (t := 2) (n := 64) (by have := zmk_z25 M h; omega) (by have := zmk_z25 M h; (exact zo_1693 this)) (by decide))
  have p27 : zPr 86 22 (zmk_7 M) (zmk_27 M) := p26.tr (zPr.al (t := 1) (n := 128) (by have := zmk_z26 M h; omega) (by have := zmk_z26 M h; (exact zo_1695 this)) (by decide))
  have p28 : zPr 86 22 (zmk_7 M) (zmk_28 M) := p27.tr (zPr.al (t := 2) (n := 64) (by have := zmk_z27 M h; omega) (by have := zmk_z27 M h; (exact zo_1697 this)) (by decide))
  have p29 : zPr 86 22 (zmk_7 M) (zmk_29 M) := p28.tr (zPr.al (t := 2) (n := 64) (by have := zmk_z28 M h; omega) (by have := zmk_z28 M h; (exact zo_1699 this)) (by decide))
  have p30 : zPr 86 22 (zmk_7 M) (zmk_30 M) := p29.tr (zPr.al (t := 1) (n := 24) (by have := zmk_z29 M h; omega) (by have := zmk_z29 M h; (exact zo_1701 this)) (by decide))
  have p31 : zPr 86 22 (zmk_7 M) (zmk_31 M) := p30.tr (zPr.al (t := 1) (n := 65536) (by have := zmk_z30 M h; omega) (by have := zmk_z30 M h; (exact zo_1703 this)) (by decide))
  have p32 : zPr 86 22 (zmk_7 M) (zmk_32 M) := p31.tr (zPr.al (t := 2) (n := 768) (by have := zmk_z31 M h; omega) (by have := zmk_z31 M h; (exact zo_1705 this)) (by decide))
  have p33 : zPr 86 22 (zmk_7 M) (zmk_33 M) := p32.tr (zPr.al (t := 1) (n := 6) (by have := zmk_z32 M h; omega) (by have := zmk_z32 M h; (exact zo_1707 this)) (by decide))
  have p34 : zPr 86 22 (zmk_7 M) (zmk_34 M) := p33.tr (zPr.al (t := 1) (n := 7) (by have := zmk_z33 M h; omega) (by have := zmk_z33 M h; (exact zo_1709 this)) (by decide))
  have p35 : zPr 86 22 (zmk_7 M) (zmk_35 M) := p34.tr (zPr.i (by decide))
  exact ⟨p35.2.1.trans b1, p35.1.trans b2, p35.2.2.1.trans b3.1, p35.2.2.2.trans b3.2⟩
theorem zmk_a87 (M : zMem) (h : zn M = 82) : zf (zmk M) 81 23 = some 87 ∧ zsh (zmk M) 87 = (1, 576) ∧ zi (zmk M) 87 = (fun _ => 0) ∧ zj (zmk M) 87 = (fun _ => 0) := by
  have hz : zn (zmk_7 M) = 87 := (zmk_z7 M h)
  have b1 : zf (zmk_8 M) 81 23 = some (zn (zmk_7 M)) := zsF_s (zal (zmk_7 M) 1 576) 81 23 (some (zn (zmk_7 M)))
  have b2 : zsh (zmk_8 M) (zn (zmk_7 M)) = (1, 576) := zal_sh (M := (zmk_7 M)) (t := 1) (n := 576)
  have b3 : zi (zmk_8 M) (zn (zmk_7 M)) = (fun _ => 0) ∧ zj (zmk_8 M) (zn (zmk_7 M)) = (fun _ => 0) := zal_new (M := (zmk_7 M)) (t := 1) (n := 576)
  rw [hz] at b1 b2 b3
  have p9 : zPr 87 23 (zmk_8 M) (zmk_9 M) := zPr.al (t := 1) (n := 24) (by have := zmk_z8 M h; omega) (by have := zmk_z8 M h; (exact zo_1659 this)) (by decide)
  have p10 : zPr 87 23 (zmk_8 M) (zmk_10 M) := p9.tr (zPr.al (t := 1) (n := 128) (by have := zmk_z9 M h; omega) (by have := zmk_z9 M h; (exact zo_1661 this)) (by decide))
  have p11 : zPr 87 23 (zmk_8 M) (zmk_11 M) := p10.tr (zPr.al (t := 1) (n := 128) (by have := zmk_z10 M h; omega) (by have := zmk_z10 M h; (exact zo_1663 this)) (by decide))
  have p12 : zPr 87 23 (zmk_8 M) (zmk_12 M) := p11.tr (zPr.al (t := 1) (n := 64) (by have := zmk_z11 M h; omega) (by have := zmk_z11 M h; (exact zo_1665 this)) (by decide))
  have p13 : zPr 87 23 (zmk_8 M) (zmk_13 M) := p12.tr (zPr.al (t := 1) (n := 64) (by have := zmk_z12 M h; omega) (by have := zmk_z12 M h; (exact zo_1667 this)) (by decide))
  have p14 : zPr 87 23 (zmk_8 M) (zmk_14 M) := p13.tr (zPr.al (t := 1) (n := 4096) (by have := zmk_z13 M h; omega) (by have := zmk_z13 M h; (exact zo_1669 this)) (by decide))
  have p15 : zPr 87 23 (zmk_8 M) (zmk_15 M) := p14.tr (zPr.al (t := 1) (n := 1536) (by have := zmk_z14 M h; omega) (by have := zmk_z14 M h; (exact zo_1671 this)) (by decide))
  have p16 : zPr 87 23 (zmk_8 M) (zmk_16 M) := p15.tr (zPr.al (t := 2) (n := 2560) (by have := zmk_z15 M h; omega) (by have := zmk_z15 M h; (exact zo_1673 this)) (by decide))
  have p17 : zPr 87 23 (zmk_8 M) (zmk_17 M) := p16.tr (zPr.al (t := 2) (n := 64) (by have := zmk_z16 M h; omega) (by have := zmk_z16 M h; (exact zo_1675 this)) (by decide))
  have p18 : zPr 87 23 (zmk_8 M) (zmk_18 M) := p17.tr (zPr.al (t := 2) (n := 64) (by have := zmk_z17 M h; omega) (by have := zmk_z17 M h; (exact zo_1677 this)) (by decide))
  have p19 : zPr 87 23 (zmk_8 M) (zmk_19 M) := p18.tr (zPr.al (t := 2) (n := 64) (by have := zmk_z18 M h; omega) (by have := zmk_z18 M h; (exact zo_1679 this)) (by decide))
  have p20 : zPr 87 23 (zmk_8 M) (zmk_20 M) := p19.tr (zPr.al (t := 2) (n := 64) (by have := zmk_z19 M h; omega) (by have := zmk_z19 M h; (exact zo_1681 this)) (by decide))
  have p21 : zPr 87 23 (zmk_8 M) (zmk_21 M) := p20.tr (zPr.al (t := 1) (n := 80) (by have := zmk_z20 M h; omega) (by have := zmk_z20 M h; (exact zo_1683 this)) (by decide))
  have p22 : zPr 87 23 (zmk_8 M) (zmk_22 M) := p21.tr (zPr.al (t := 2) (n := 8) (by have := zmk_z21 M h; omega) (by have := zmk_z21 M h; (exact zo_1685 this)) (by decide))
  have p23 : zPr 87 23 (zmk_8 M) (zmk_23 M) := p22.tr (zPr.al (t := 2) (n := 512) (by have := zmk_z22 M h; omega) (by have := zmk_z22 M h; (exact zo_1687 this)) (by decide))
  have p24 : zPr 87 23 (zmk_8 M) (zmk_24 M) := p23.tr (zPr.al (t := 2) (n := 8) (by have := zmk_z23 M h; omega) (by have := zmk_z23 M h; (exact zo_1689 this)) (by decide))
  have p25 : zPr 87 23 (zmk_8 M) (zmk_25 M) := p24.tr (zPr.al (t := 2) (n := 512) (by have := zmk_z24 M h; omega) (by have := zmk_z24 M h; (exact zo_1691 this)) (by decide))
  have p26 : zPr 87 23 (zmk_8 M) (zmk_26 M) := p25.tr (zPr.al (t := 2) (n := 64) (by have := zmk_z25 M h; omega) (by have := zmk_z25 M h; (exact zo_1693 this)) (by decide))
  have p27 : zPr 87 23 (zmk_8 M) (zmk_27 M) := p26.tr (zPr.al (t := 1) (n := 128) (by have := zmk_z26 M h; omega) (by have := zmk_z26 M h; (exact zo_1695 this)) (by decide))
  have p28 : zPr 87 23 (zmk_8 M) (zmk_28 M) := p27.tr (zPr.al (t := 2) (n := 64) (by have := zmk_z27 M h; omega) (by have := zmk_z27 M h; (exact zo_1697 this)) (by decide))
  have p29 : zPr 87 23 (zmk_8 M) (zmk_29 M) := p28.tr (zPr.al (t := 2) (n := 64) (by have := zmk_z28 M h; omega) (by have := zmk_z28 M h; (exact zo_1699 this)) (by decide))
  have p30 : zPr 87 23 (zmk_8 M) (zmk_30 M) := p29.tr (zPr.al (t := 1) (n := 24) (by have := zmk_z29 M h; omega) (by have := zmk_z29 M h; (exact zo_1701 this)) (by decide))
  have p31 : zPr 87 23 (zmk_8 M) (zmk_31 M) := p30.tr (zPr.al (t := 1) (n := 65536) (by have := zmk_z30 M h; omega) (by have := zmk_z30 M h; (exact zo_1703 this)) (by decide))
  have p32 : zPr 87 23 (zmk_8 M) (zmk_32 M) := p31.tr (zPr.al (t := 2) (n := 768) (by have := zmk_z31 M h; omega) (by have := zmk_z31 M h; (exact zo_1705 this)) (by decide))
  have p33 : zPr 87 23 (zmk_8 M) (zmk_33 M) := p32.tr (zPr.al (t := 1) (n := 6) (by have := zmk_z32 M h; omega) (by have := zmk_z32 M h; (exact zo_1707 this)) (by decide))
  have p34 : zPr 87 23 (zmk_8 M) (zmk_34 M) := p33.tr (zPr.al (t := 1) (n := 7) (by have := zmk_z33 M h; omega) (by have := zmk_z33 M h; (exact zo_1709 this)) (by decide))
  have p35 : zPr 87 23 (zmk_8 M) (zmk_35 M) := p34.tr (zPr.i (by decide))
  exact ⟨p35.2.1.trans b1, p35.1.trans b2, p35.2.2.1.trans b3.1, p35.2.2.2.trans b3.2⟩
theorem zmk_a88 (M : zMem) (h : zn M = 82) : zf (zmk M) 81 24 = some 88 ∧ zsh (zmk M) 88 = (1, 24) ∧ zi (zmk M) 88 = (fun _ => 0) ∧ zj (zmk M) 88 = (fun _ => 0) := by
  have hz : zn (zmk_8 M) = 88 := (zmk_z8 M h)
  have b1 : zf (zmk_9 M) 81 24 = some (zn (zmk_8 M)) := zsF_s (zal (zmk_8 M) 1 24) 81 24 (some (zn (zmk_8 M)))
  have b2 : zsh (zmk_9 M) (zn (zmk_8 M)) = (1, 24) := zal_sh (M := (zmk_8 M)) (t := 1) (n := 24)
  have b3 : zi (zmk_9 M) (zn (zmk_8 M)) = (fun _ => 0) ∧ zj (zmk_9 M) (zn (zmk_8 M)) = (fun _ => 0) := zal_new (M := (zmk_8 M)) (t := 1) (n := 24)
  rw [hz] at b1 b2 b3
  have p10 : zPr 88 24 (zmk_9 M) (zmk_10 M) := zPr.al (t := 1) (n := 128) (by have := zmk_z9 M h; omega) (by have := zmk_z9 M h; (exact zo_1661 this)) (by decide)
  have p11 : zPr 88 24 (zmk_9 M) (zmk_11 M) := p10.tr (zPr.al (t := 1) (n := 128) (by have := zmk_z10 M h; omega) (by have := zmk_z10 M h; (exact zo_1663 this)) (by decide))
  have p12 : zPr 88 24 (zmk_9 M) (zmk_12 M) := p11.tr (zPr.al (t := 1) (n := 64) (by have := zmk_z11 M h; omega) (by have := zmk_z11 M h; (exact zo_1665 this)) (by decide))
  have p13 : zPr 88 24 (zmk_9 M) (zmk_13 M) := p12.tr (zPr.al (t := 1) (n := 64) (by have := zmk_z12 M h; omega) (by have := zmk_z12 M h; (exact zo_1667 this)) (by decide))
  have p14 : zPr 88 24 (zmk_9 M) (zmk_14 M) := p13.tr (zPr.al (t := 1) (n := 4096) (by have := zmk_z13 M h; omega) (by have := zmk_z13 M h; (exact zo_1669 this)) (by decide))
  have p15 : zPr 88 24 (zmk_9 M) (zmk_15 M) := p14.tr (zPr.al (t := 1) (n := 1536) (by have := zmk_z14 M h; omega) (by have := zmk_z14 M h; (exact zo_1671 this)) (by decide))
  have p16 : zPr 88 24 (zmk_9 M) (zmk_16 M) := p15.tr (zPr.al (t := 2) (n := 2560) (by have := zmk_z15 M h; omega) (by have := zmk_z15 M h; (exact zo_1673 this)) (by decide))
  have p17 : zPr 88 24 (zmk_9 M) (zmk_17 M) := p16.tr (zPr.al (t := 2) (n := 64) (by have := zmk_z16 M h; omega) (by have := zmk_z16 M h; (exact zo_1675 this)) (by decide))
  have p18 : zPr 88 24 (zmk_9 M) (zmk_18 M) := p17.tr (zPr.al (t := 2) (n := 64) (by have := zmk_z17 M h; omega) (by have := zmk_z17 M h; (exact zo_1677 this)) (by decide))
  have p19 : zPr 88 24 (zmk_9 M) (zmk_19 M) := p18.tr (zPr.al (t := 2) (n := 64) (by have := zmk_z18 M h; omega) (by have := zmk_z18 M h; (exact zo_1679 this)) (by decide))
  have p20 : zPr 88 24 (zmk_9 M) (zmk_20 M) := p19.tr (zPr.al (t := 2) (n := 64) (by have := zmk_z19 M h; omega) (by have := zmk_z19 M h; (exact zo_1681 this)) (by decide))
  have p21 : zPr 88 24 (zmk_9 M) (zmk_21 M) := p20.tr (zPr.al (t := 1) (n := 80) (by have := zmk_z20 M h; omega) (by have := zmk_z20 M h; (exact zo_1683 this)) (by decide))
  have p22 : zPr 88 24 (zmk_9 M) (zmk_22 M) := p21.tr (zPr.al (t := 2) (n := 8) (by have := zmk_z21 M h; omega) (by have := zmk_z21 M h; (exact zo_1685 this)) (by decide))
  have p23 : zPr 88 24 (zmk_9 M) (zmk_23 M) := p22.tr (zPr.al (t := 2) (n := 512) (by have := zmk_z22 M h; omega) (by have := zmk_z22 M h; (exact zo_1687 this)) (by decide))
  have p24 : zPr 88 24 (zmk_9 M) (zmk_24 M) := p23.tr (zPr.al (t := 2) (n := 8) (by have := zmk_z23 M h; omega) (by have := zmk_z23 M h; (exact zo_1689 this)) (by decide))
  have p25 : zPr 88 24 (zmk_9 M) (zmk_25 M) := p24.tr (zPr.al (t := 2) (n := 512) (by have := zmk_z24 M h; omega) (by have := zmk_z24 M h; (exact zo_1691 this)) (by decide))
  have p26 : zPr 88 24 (zmk_9 M) (zmk_26 M) := p25.tr (zPr.al (t := 2) (n := 64) (by have := zmk_z25 M h; omega) (by have := zmk_z25 M h; (exact zo_1693 this)) (by decide))
  have p27 : zPr 88 24 (zmk_9 M) (zmk_27 M) := p26.tr (zPr.al (t := 1) (n := 128) (by have := zmk_z26 M h; omega) (by have := zmk_z26 M h; (exact zo_1695 this)) (by decide))
  have p28 : zPr 88 24 (zmk_9 M) (zmk_28 M) := p27.tr (zPr.al (t := 2) (n := 64) (by have := zmk_z27 M h; omega) (by have := zmk_z27 M h; (exact zo_1697 this)) (by decide))
  have p29 : zPr 88 24 (zmk_9 M) (zmk_29 M) := p28.tr (zPr.al (t := 2) (n := 64) (by have := zmk_z28 M h; omega) (by have := zmk_z28 M h; (exact zo_1699 this)) (by decide))
  have p30 : zPr 88 24 (zmk_9 M) (zmk_30 M) := p29.tr (zPr.al (t := 1) (n := 24) (by have := zmk_z29 M h; omega) (by have := zmk_z29 M h; (exact zo_1701 this)) (by decide))
  have p31 : zPr 88 24 (zmk_9 M) (zmk_31 M) := p30.tr (zPr.al (t := 1) (n := 65536) (by have := zmk_z30 M h; omega) (by have := zmk_z30 M h; (exact zo_1703 this)) (by decide))
  have p32 : zPr 88 24 (zmk_9 M) (zmk_32 M) := p31.tr (zPr.al (t := 2) (n := 768) (by have := zmk_z31 M h; omega) (by have := zmk_z31 M h; (exact zo_1705 this)) (by decide))
  have p33 : zPr 88 24 (zmk_9 M) (zmk_33 M) := p32.tr (zPr.al (t := 1) (n := 6) (by have := zmk_z32 M h; omega) (by have := zmk_z32 M h; (exact zo_1707 this)) (by decide))
  have p34 : zPr 88 24 (zmk_9 M) (zmk_34 M) := p33.tr (zPr.al (t := 1) (n := 7) (by have := zmk_z33 M h; omega) (by have := zmk_z33 M h; (exact zo_1709 this)) (by decide))
  have p35 : zPr 88 24 (zmk_9 M) (zmk_35 M) := p34.tr (zPr.i (by decide))
  exact ⟨p35.2.1.trans b1, p35.1.trans b2, p35.2.2.1.trans b3.1, p35.2.2.2.trans b3.2⟩
theorem zmk_a89 (M : zMem) (h : zn M = 82) : zf (zmk M) 81 27 = some 89 ∧ zsh (zmk M) 89 = (1, 128) ∧ zi (zmk M) 89 = (fun _ => 0) ∧ zj (zmk M) 89 = (fun _ => 0) := by
  have hz : zn (zmk_9 M) = 89 := (zmk_z9 M h)
  have b1 : zf (zmk_10 M) 81 27 = some (zn (zmk_9 M)) := zsF_s (zal (zmk_9 M) 1 128) 81 27 (some (zn (zmk_9 M)))
  have b2 : zsh (zmk_10 M) (zn (zmk_9 M)) = (1, 128) := zal_sh (M := (zmk_9 M)) (t := 1) (n := 128)
  have b3 : zi (zmk_10 M) (zn (zmk_9 M)) = (fun _ => 0) ∧ zj (zmk_10 M) (zn (zmk_9 M)) = (fun _ => 0) := zal_new (M := (zmk_9 M)) (t := 1) (n := 128)
  rw [hz] at b1 b2 b3
  have p11 : zPr 89 27 (zmk_10 M) (zmk_11 M) := zPr.al (t := 1) (n := 128) (by have := zmk_z10 M h; omega) (by have := zmk_z10 M h; (exact zo_1663 this)) (by decide)
  have p12 : zPr 89 27 (zmk_10 M) (zmk_12 M) := p11.tr (zPr.al (t := 1) (n := 64) (by have := zmk_z11 M h; omega) (by have := zmk_z11 M h; (exact zo_1665 this)) (by decide))
  have p13 : zPr 89 27 (zmk_10 M) (zmk_13 M) := p12.tr (zPr.al (t := 1) (n := 64) (by have := zmk_z12 M h; omega) (by have := zmk_z12 M h; (exact zo_1667 this)) (by decide))
  have p14 : zPr 89 27 (zmk_10 M) (zmk_14 M) := p13.tr (zPr.al (t := 1) (n := 4096) (by have := zmk_z13 M h; omega) (by have := zmk_z13 M h; (exact zo_1669 this)) (by decide))
  have p15 : zPr 89 27 (zmk_10 M) (zmk_15 M) := p14.tr (zPr.al (t := 1) (n := 1536) (by have := zmk_z14 M h; omega) (by have := zmk_z14 M h; (exact zo_1671 this)) (by decide))
  have p16 : zPr 89 27 (zmk_10 M) (zmk_16 M) := p15.tr (zPr.al (t := 2) (n := 2560) (by have := zmk_z15 M h; omega) (by have := zmk_z15 M h; (exact zo_1673 this)) (by decide))
  have p17 : zPr 89 27 (zmk_10 M) (zmk_17 M) := p16.tr (zPr.al (t := 2) (n := 64) (by have := zmk_z16 M h; omega) (by have := zmk_z16 M h; (exact zo_1675 this)) (by decide))
  have p18 : zPr 89 27 (zmk_10 M) (zmk_18 M) := p17.tr (zPr.al (t := 2) (n := 64) (by have := zmk_z17 M h; omega) (by have := zmk_z17 M h; (exact zo_1677 this)) (by decide))
  have p19 : zPr 89 27 (zmk_10 M) (zmk_19 M) := p18.tr (zPr.al (t := 2) (n := 64) (by have := zmk_z18 M h; omega) (by have := zmk_z18 M h; (exact zo_1679 this)) (by decide))
  have p20 : zPr 89 27 (zmk_10 M) (zmk_20 M) := p19.tr (zPr.al (t := 2) (n := 64) (by have := zmk_z19 M h; omega) (by have := zmk_z19 M h; (exact zo_1681 this)) (by decide))
  have p21 : zPr 89 27 (zmk_10 M) (zmk_21 M) := p20.tr (zPr.al (t := 1) (n := 80) (by have := zmk_z20 M h; omega) (by have := zmk_z20 M h; (exact zo_1683 this)) (by decide))
  have p22 : zPr 89 27 (zmk_10 M) (zmk_22 M) := p21.tr (zPr.al (t := 2) (n := 8) (by have := zmk_z21 M h; omega) (by have := zmk_z21 M h; (exact zo_1685 this)) (by decide))
  have p23 : zPr 89 27 (zmk_10 M) (zmk_23 M) := p22.tr (zPr.al (t := 2) (n := 512) (by have := zmk_z22 M h; omega) (by have := zmk_z22 M h; (exact zo_1687 this)) (by decide))
  have p24 : zPr 89 27 (zmk_10 M) (zmk_24 M) := p23.tr (zPr.al (t := 2) (n := 8) (by have := zmk_z23 M h; omega) (by have := zmk_z23 M h; (exact zo_1689 this)) (by decide))
  have p25 : zPr 89 27 (zmk_10 M) (zmk_25 M) := p24.tr (zPr.al (t := 2) (n := 512) (by have := zmk_z24 M h; omega) (by have := zmk_z24 M h; (exact zo_1691 this)) (by decide))
  have p26 : zPr 89 27 (zmk_10 M) (zmk_26 M) := p25.tr (zPr.al (t := 2) (n := 64) (by have := zmk_z25 M h; omega) (by have := zmk_z25 M h; (exact zo_1693 this)) (by decide))
  have p27 : zPr 89 27 (zmk_10 M) (zmk_27 M) := p26.tr (zPr.al (t := 1) (n := 128) (by have := zmk_z26 M h; omega) (by have := zmk_z26 M h; (exact zo_1695 this)) (by decide))
  have p28 : zPr 89 27 (zmk_10 M) (zmk_28 M) := p27.tr (zPr.al (t := 2) (n := 64) (by have := zmk_z27 M h; omega) (by have := zmk_z27 M h; (exact zo_1697 this)) (by decide))
  have p29 : zPr 89 27 (zmk_10 M) (zmk_29 M) := p28.tr (zPr.al (t := 2) (n := 64) (by have := zmk_z28 M h; omega) (by have := zmk_z28 M h; (exact zo_1699 this)) (by decide))
  have p30 : zPr 89 27 (zmk_10 M) (zmk_30 M) := p29.tr (zPr.al (t := 1) (n := 24) (by have := zmk_z29 M h; omega) (by have := zmk_z29 M h; (exact zo_1701 this)) (by decide))
  have p31 : zPr 89 27 (zmk_10 M) (zmk_31 M) := p30.tr (zPr.al (t := 1) (n := 65536) (by have := zmk_z30 M h; omega) (by have := zmk_z30 M h; (exact zo_1703 this)) (by decide))
  have p32 : zPr 89 27 (zmk_10 M) (zmk_32 M) := p31.tr (zPr.al (t := 2) (n := 768) (by have := zmk_z31 M h; omega) (by have := zmk_z31 M h; (exact zo_1705 this)) (by decide))
  have p33 : zPr 89 27 (zmk_10 M) (zmk_33 M) := p32.tr (zPr.al (t := 1) (n := 6) (by have := zmk_z32 M h; omega) (by have := zmk_z32 M h; (exact zo_1707 this)) (by decide))
  have p34 : zPr 89 27 (zmk_10 M) (zmk_34 M) := p33.tr (zPr.al (t := 1) (n := 7) (by have := zmk_z33 M h; omega) (by have := zmk_z33 M h; (exact zo_1709 this)) (by decide))
  have p35 : zPr 89 27 (zmk_10 M) (zmk_35 M) := p34.tr (zPr.i (by decide))
  exact ⟨p35.2.1.trans b1, p35.1.trans b2, p35.2.2.1.trans b3.1, p35.2.2.2.trans b3.2⟩
theorem zmk_a90 (M : zMem) (h : zn M = 82) : zf (zmk M) 81 28 = some 90 ∧ zsh (zmk M) 90 = (1, 128) ∧ zi (zmk M) 90 = (fun _ => 0) ∧ zj (zmk M) 90 = (fun _ => 0) := by
  have hz : zn (zmk_10 M) = 90 := (zmk_z10 M h)
  have b1 : zf (zmk_11 M) 81 28 = some (zn (zmk_10 M)) := zsF_s (zal (zmk_10 M) 1 128) 81 28 (some (zn (zmk_10 M)))
  have b2 : zsh (zmk_11 M) (zn (zmk_10 M)) = (1, 128) := zal_sh (M := (zmk_10 M)) (t := 1) (n := 128)
  have b3 : zi (zmk_11 M) (zn (zmk_10 M)) = (fun _ => 0) ∧ zj (zmk_11 M) (zn (zmk_10 M)) = (fun _ => 0) := zal_new (M := (zmk_10 M)) (t := 1) (n := 128)
  rw [hz] at b1 b2 b3
  have p12 : zPr 90 28 (zmk_11 M) (zmk_12 M) := zPr.al (t := 1) (n := 64) (by have := zmk_z11 M h; omega) (by have := zmk_z11 M h; (exact zo_1665 this)) (by decide)
  have p13 : zPr 90 28 (zmk_11 M) (zmk_13 M) := p12.tr (zPr.al (t := 1) (n := 64) (by have := zmk_z12 M h; omega) (by have := zmk_z12 M h; (exact zo_1667 this)) (by decide))
  have p14 : zPr 90 28 (zmk_11 M) (zmk_14 M) := p13.tr (zPr.al (t := 1) (n := 4096) (by have := zmk_z13 M h; omega) (by have := zmk_z13 M h; (exact zo_1669 this)) (by decide))
  have p15 : zPr 90 28 (zmk_11 M) (zmk_15 M) := p14.tr (zPr.al (t := 1) (n := 1536) (by have := zmk_z14 M h; omega) (by have := zmk_z14 M h; (exact zo_1671 this)) (by decide))
  have p16 : zPr 90 28 (zmk_11 M) (zmk_16 M) := p15.tr (zPr.al (t := 2) (n := 2560) (by have := zmk_z15 M h; omega) (by have := zmk_z15 M h; (exact zo_1673 this)) (by decide))
  have p17 : zPr 90 28 (zmk_11 M) (zmk_17 M) := p16.tr (zPr.al (t := 2) (n := 64) (by have := zmk_z16 M h; omega) (by have := zmk_z16 M h; (exact zo_1675 this)) (by decide))
  have p18 : zPr 90 28 (zmk_11 M) (zmk_18 M) := p17.tr (zPr.al (t := 2) (n := 64) (by have := zmk_z17 M h; omega) (by have := zmk_z17 M h; (exact zo_1677 this)) (by decide))
  have p19 : zPr 90 28 (zmk_11 M) (zmk_19 M) := p18.tr (zPr.al (t := 2) (n := 64) (by have := zmk_z18 M h; omega) (by have := zmk_z18 M h; (exact zo_1679 this)) (by decide))
  have p20 : zPr 90 28 (zmk_11 M) (zmk_20 M) := p19.tr (zPr.al (t := 2) (n := 64) (by have := zmk_z19 M h; omega) (by have := zmk_z19 M h; (exact zo_1681 this)) (by decide))
  have p21 : zPr 90 28 (zmk_11 M) (zmk_21 M) := p20.tr (zPr.al (t := 1) (n := 80) (by have := zmk_z20 M h; omega) (by have := zmk_z20 M h; (exact zo_1683 this)) (by decide))
  have p22 : zPr 90 28 (zmk_11 M) (zmk_22 M) := p21.tr (zPr.al (t := 2) (n := 8) (by have := zmk_z21 M h; omega) (by have := zmk_z21 M h; (exact zo_1685 this)) (by decide))
  have p23 : zPr 90 28 (zmk_11 M) (zmk_23 M) := p22.tr (zPr.al (t := 2) (n := 512) (by have := zmk_z22 M h; omega) (by have := zmk_z22 M h; (exact zo_1687 this)) (by decide))
  have p24 : zPr 90 28 (zmk_11 M) (zmk_24 M) := p23.tr (zPr.al (t := 2) (n := 8) (by have := zmk_z23 M h; omega) (by have := zmk_z23 M h; (exact zo_1689 this)) (by decide))
  have p25 : zPr 90 28 (zmk_11 M) (zmk_25 M) := p24.tr (zPr.al (t := 2) (n := 512) (by have := zmk_z24 M h; omega) (by have := zmk_z24 M h; (exact zo_1691 this)) (by decide))
  have p26 : zPr 90 28 (zmk_11 M) (zmk_26 M) := p25.tr (zPr.al (t := 2) (n := 64) (by have := zmk_z25 M h; omega) (by have := zmk_z25 M h; (exact zo_1693 this)) (by decide))
  have p27 : zPr 90 28 (zmk_11 M) (zmk_27 M) := p26.tr (zPr.al (t := 1) (n := 128) (by have := zmk_z26 M h; omega) (by have := zmk_z26 M h; (exact zo_1695 this)) (by decide))
  have p28 : zPr 90 28 (zmk_11 M) (zmk_28 M) := p27.tr (zPr.al (t := 2) (n := 64) (by have := zmk_z27 M h; omega) (by have := zmk_z27 M h; (exact zo_1697 this)) (by decide))
  have p29 : zPr 90 28 (zmk_11 M) (zmk_29 M) := p28.tr (zPr.al (t := 2) (n := 64) (by have := zmk_z28 M h; omega) (by have := zmk_z28 M h; (exact zo_1699 this)) (by decide))
  have p30 : zPr 90 28 (zmk_11 M) (zmk_30 M) := p29.tr (zPr.al (t := 1) (n := 24) (by have := zmk_z29 M h; omega) (by have := zmk_z29 M h; (exact zo_1701 this)) (by decide))
  have p31 : zPr 90 28 (zmk_11 M) (zmk_31 M) := p30.tr (zPr.al (t := 1) (n := 65536) (by have := zmk_z30 M h; omega) (by have := zmk_z30 M h; (exact zo_1703 this)) (by decide))
  have p32 : zPr 90 28 (zmk_11 M) (zmk_32 M) := p31.tr (zPr.al (t := 2) (n := 768) (by have := zmk_z31 M h; omega) (by have := zmk_z31 M h; (exact zo_1705 this)) (by decide))
  have p33 : zPr 90 28 (zmk_11 M) (zmk_33 M) := p32.tr (zPr.al (t := 1) (n := 6) (by have := zmk_z32 M h; omega) (by have := zmk_z32 M h; (exact zo_1707 this)) (by decide))
  have p34 : zPr 90 28 (zmk_11 M) (zmk_34 M) := p33.tr (zPr.al (t := 1) (n := 7) (by have := zmk_z33 M h; omega) (by have := zmk_z33 M h; (exact zo_1709 this)) (by decide))
  have p35 : zPr 90 28 (zmk_11 M) (zmk_35 M) := p34.tr (zPr.i (by decide))
  exact ⟨p35.2.1.trans b1, p35.1.trans b2, p35.2.2.1.trans b3.1, p35.2.2.2.trans b3.2⟩
theorem zmk_a91 (M : zMem) (h : zn M = 82) : zf (zmk M) 81 29 = some 91 ∧ zsh (zmk M) 91 = (1, 64) ∧ zi (zmk M) 91 = (fun _ => 0) ∧ zj (zmk M) 91 = (fun _ => 0) := by
  have hz : zn (zmk_11 M) = 91 := (zmk_z11 M h)
  have b1 : zf (zmk_12 M) 81 29 = some (zn (zmk_11 M)) := zsF_s (zal (zmk_11 M) 1 64) 81 29 (some (zn (zmk_11 M)))
  have b2 : zsh (zmk_12 M) (zn (zmk_11 M)) = (1, 64) := zal_sh (M := (zmk_11 M)) (t := 1) (n := 64)
  have b3 : zi (zmk_12 M) (zn (zmk_11 M)) = (fun _ => 0) ∧ zj (zmk_12 M) (zn (zmk_11 M)) = (fun _ => 0) := zal_new (M := (zmk_11 M)) (t := 1) (n := 64)
  rw [hz] at b1 b2 b3
  have p13 : zPr 91 29 (zmk_12 M) (zmk_13 M) := zPr.al (t := 1) (n := 64) (by have := zmk_z12 M h; omega) (by have := zmk_z12 M h; (exact zo_1667 this)) (by decide)
  have p14 : zPr 91 29 (zmk_12 M) (zmk_14 M) := p13.tr (zPr.al (t := 1) (n := 4096) (by have := zmk_z13 M h; omega) (by have := zmk_z13 M h; (exact zo_1669 this)) (by decide))
  have p15 : zPr 91 29 (zmk_12 M) (zmk_15 M) := p14.tr (zPr.al (t := 1) (n := 1536) (by have := zmk_z14 M h; omega) (by have := zmk_z14 M h; (exact zo_1671 this)) (by decide))
  have p16 : zPr 91 29 (zmk_12 M) (zmk_16 M) := p15.tr (zPr.al (t := 2) (n := 2560) (by have := zmk_z15 M h; omega) (by have := zmk_z15 M h; (exact zo_1673 this)) (by decide))
  have p17 : zPr 91 29 (zmk_12 M) (zmk_17 M) := p16.tr (zPr.al (t := 2) (n := 64) (by have := zmk_z16 M h; omega) (by have := zmk_z16 M h; (exact zo_1675 this)) (by decide))
  have p18 : zPr 91 29 (zmk_12 M) (zmk_18 M) := p17.tr (zPr.al (t := 2) (n := 64) (by have := zmk_z17 M h; omega) (by have := zmk_z17 M h; (exact zo_1677 this)) (by decide))
  have p19 : zPr 91 29 (zmk_12 M) (zmk_19 M) := p18.tr (zPr.al (t := 2) (n := 64) (by have := zmk_z18 M h; omega) (by have := zmk_z18 M h; (exact zo_1679 this)) (by decide))
  have p20 : zPr 91 29 (zmk_12 M) (zmk_20 M) := p19.tr (zPr.al (t := 2) (n := 64) (by have := zmk_z19 M h; omega) (by have := zmk_z19 M h; (exact zo_1681 this)) (by decide))
  have p21 : zPr 91 29 (zmk_12 M) (zmk_21 M) := p20.tr (zPr.al (t := 1) (n := 80) (by have := zmk_z20 M h; omega) (by have := zmk_z20 M h; (exact zo_1683 this)) (by decide))
  have p22 : zPr 91 29 (zmk_12 M) (zmk_22 M) := p21.tr (zPr.al (t := 2) (n := 8) (by have := zmk_z21 M h; omega) (by have := zmk_z21 M h; (exact zo_1685 this)) (by decide))
  have p23 : zPr 91 29 (zmk_12 M) (zmk_23 M) := p22.tr (zPr.al (t := 2) (n := 512) (by have := zmk_z22 M h; omega) (by have := zmk_z22 M h; (exact zo_1687 this)) (by decide))
  have p24 : zPr 91 29 (zmk_12 M) (zmk_24 M) := p23.tr (zPr.al (t := 2) (n := 8) (by have := zmk_z23 M h; omega) (by have := zmk_z23 M h; (exact zo_1689 this)) (by decide))
  have p25 : zPr 91 29 (zmk_12 M) (zmk_25 M) := p24.tr (zPr.al (t := 2) (n := 512) (by have := zmk_z24 M h; omega) (by have := zmk_z24 M h; (exact zo_1691 this)) (by decide))
  have p26 : zPr 91 29 (zmk_12 M) (zmk_26 M) := p25.tr (zPr.al (t := 2) (n := 64) (by have := zmk_z25 M h; omega) (by have := zmk_z25 M h; (exact zo_1693 this)) (by decide))
  have p27 : zPr 91 29 (zmk_12 M) (zmk_27 M) := p26.tr (zPr.al (t := 1) (n := 128) (by have := zmk_z26 M h; omega) (by have := zmk_z26 M h; (exact zo_1695 this)) (by decide))
  have p28 : zPr 91 29 (zmk_12 M) (zmk_28 M) := p27.tr (zPr.al (t := 2) (n := 64) (by have := zmk_z27 M h; omega) (by have := zmk_z27 M h; (exact zo_1697 this)) (by decide))
  have p29 : zPr 91 29 (zmk_12 M) (zmk_29 M) := p28.tr (zPr.al (t := 2) (n := 64) (by have := zmk_z28 M h; omega) (by have := zmk_z28 M h; (exact zo_1699 this)) (by decide))
  have p30 : zPr 91 29 (zmk_12 M) (zmk_30 M) := p29.tr (zPr.al (t := 1) (n := 24) (by have := zmk_z29 M h; omega) (by have := zmk_z29 M h; (exact zo_1701 this)) (by decide))
  have p31 : zPr 91 29 (zmk_12 M) (zmk_31 M) := p30.tr (zPr.al (t := 1) (n := 65536) (by have := zmk_z30 M h; omega) (by have := zmk_z30 M h; (exact zo_1703 this)) (by decide))
  have p32 : zPr 91 29 (zmk_12 M) (zmk_32 M) := p31.tr (zPr.al (t := 2) (n := 768) (by have := zmk_z31 M h; omega) (by have := zmk_z31 M h; (exact zo_1705 this)) (by decide))
  have p33 : zPr 91 29 (zmk_12 M) (zmk_33 M) := p32.tr (zPr.al (t := 1) (n := 6) (by have := zmk_z32 M h; omega) (by have := zmk_z32 M h; (exact zo_1707 this)) (by decide))
  have p34 : zPr 91 29 (zmk_12 M) (zmk_34 M) := p33.tr (zPr.al (t := 1) (n := 7) (by have := zmk_z33 M h; omega) (by have := zmk_z33 M h; (exact zo_1709 this)) (by decide))
  have p35 : zPr 91 29 (zmk_12 M) (zmk_35 M) := p34.tr (zPr.i (by decide))
  exact ⟨p35.2.1.trans b1, p35.1.trans b2, p35.2.2.1.trans b3.1, p35.2.2.2.trans b3.2⟩
theorem zmk_a92 (M : zMem) (h : zn M = 82) : zf (zmk M) 81 30 = some 92 ∧ zsh (zmk M) 92 = (1, 64) ∧ zi (zmk M) 92 = (fun _ => 0) ∧ zj (zmk M) 92 = (fun _ => 0) := by
  have hz : zn (zmk_12 M) = 92 := (zmk_z12 M h)
  have b1 : zf (zmk_13 M) 81 30 = some (zn (zmk_12 M)) := zsF_s (zal (zmk_12 M) 1 64) 81 30 (some (zn (zmk_12 M)))
  have b2 : zsh (zmk_13 M) (zn (zmk_12 M)) = (1, 64) := zal_sh (M := (zmk_12 M)) (t := 1) (n := 64)
  have b3 : zi (zmk_13 M) (zn (zmk_12 M)) = (fun _ => 0) ∧ zj (zmk_13 M) (zn (zmk_12 M)) = (fun _ => 0) := zal_new (M := (zmk_12 M)) (t := 1) (n := 64)
  rw [hz] at b1 b2 b3
  have p14 : zPr 92 30 (zmk_13 M) (zmk_14 M) := zPr.al (t := 1) (n := 4096) (by have := zmk_z13 M h; omega) (by have := zmk_z13 M h; (exact zo_1669 this)) (by decide)
  have p15 : zPr 92 30 (zmk_13 M) (zmk_15 M) := p14.tr (zPr.al (t := 1) (n := 1536) (by have := zmk_z14 M h; omega) (by have := zmk_z14 M h; (exact zo_1671 this)) (by decide))
  have p16 : zPr 92 30 (zmk_13 M) (zmk_16 M) := p15.tr (zPr.al (t := 2) (n := 2560) (by have := zmk_z15 M h; omega) (by have := zmk_z15 M h; (exact zo_1673 this)) (by decide))
  have p17 : zPr 92 30 (zmk_13 M) (zmk_17 M) := p16.tr (zPr.al (t := 2) (n := 64) (by have := zmk_z16 M h; omega) (by have := zmk_z16 M h; (exact zo_1675 this)) (by decide))
  have p18 : zPr 92 30 (zmk_13 M) (zmk_18 M) := p17.tr (zPr.al (t := 2) (n := 64) (by have := zmk_z17 M h; omega) (by have := zmk_z17 M h; (exact zo_1677 this)) (by decide))
  have p19 : zPr 92 30 (zmk_13 M) (zmk_19 M) := p18.tr (zPr.al (t := 2) (n := 64) (by have := zmk_z18 M h; omega) (by have := zmk_z18 M h; (exact zo_1679 this)) (by decide))
  have p20 : zPr 92 30 (zmk_13 M) (zmk_20 M) := p19.tr (zPr.al (t := 2) (n := 64) (by have := zmk_z19 M h; omega) (by have := zmk_z19 M h; (exact zo_1681 this)) (by decide))
  have p21 : zPr 92 30 (zmk_13 M) (zmk_21 M) := p20.tr (zPr.al (t := 1) (n := 80) (by have := zmk_z20 M h; omega) (by have := zmk_z20 M h; (exact zo_1683 this)) (by decide))
  have p22 : zPr 92 30 (zmk_13 M) (zmk_22 M) := p21.tr (zPr.al (t := 2) (n := 8) (by have := zmk_z21 M h; omega) (by have := zmk_z21 M h; (exact zo_1685 this)) (by decide))
  have p23 : zPr 92 30 (zmk_13 M) (zmk_23 M) := p22.tr (zPr.al (t := 2) (n := 512) (by have := zmk_z22 M h; omega) (by have := zmk_z22 M h; (exact zo_1687 this)) (by decide))
  have p24 : zPr 92 30 (zmk_13 M) (zmk_24 M) := p23.tr (zPr.al (t := 2) (n := 8) (by have := zmk_z23 M h; omega) (by have := zmk_z23 M h; (exact zo_1689 this)) (by decide))
  have p25 : zPr 92 30 (zmk_13 M) (zmk_25 M) := p24.tr (zPr.al (t := 2) (n := 512) (by have := zmk_z24 M h; omega) (by have := zmk_z24 M h; (exact zo_1691 this)) (by decide))
  have p26 : zPr 92 30 (zmk_13 M) (zmk_26 M) := p25.tr (zPr.al (t := 2) (n := 64) (by have := zmk_z25 M h; omega) (by have := zmk_z25 M h; (exact zo_1693 this)) (by decide))
  have p27 : zPr 92 30 (zmk_13 M) (zmk_27 M) := p26.tr (zPr.al (t := 1) (n := 128) (by have := zmk_z26 M h; omega) (by have := zmk_z26 M h; (exact zo_1695 this)) (by decide))
  have p28 : zPr 92 30 (zmk_13 M) (zmk_28 M) := p27.tr (zPr.al (t := 2) (n := 64) (by have := zmk_z27 M h; omega) (by have := zmk_z27 M h; (exact zo_1697 this)) (by decide))
  have p29 : zPr 92 30 (zmk_13 M) (zmk_29 M) := p28.tr (zPr.al (t := 2) (n := 64) (by have := zmk_z28 M h; omega) (by have := zmk_z28 M h; (exact zo_1699 this)) (by decide))
  have p30 : zPr 92 30 (zmk_13 M) (zmk_30 M) := p29.tr (zPr.al (t := 1) (n := 24) (by have := zmk_z29 M h; omega) (by have := zmk_z29 M h; (exact zo_1701 this)) (by decide))
  have p31 : zPr 92 30 (zmk_13 M) (zmk_31 M) := p30.tr (zPr.al (t := 1) (n := 65536) (by have := zmk_z30 M h; omega) (by have := zmk_z30 M h; (exact zo_1703 this)) (by decide))
  have p32 : zPr 92 30 (zmk_13 M) (zmk_32 M) := p31.tr (zPr.al (t := 2) (n := 768) (by have := zmk_z31 M h; omega) (by have := zmk_z31 M h; (exact zo_1705 this)) (by decide))
  have p33 : zPr 92 30 (zmk_13 M) (zmk_33 M) := p32.tr (zPr.al (t := 1) (n := 6) (by have := zmk_z32 M h; omega) (by have := zmk_z32 M h; (exact zo_1707 this)) (by decide))
  have p34 : zPr 92 30 (zmk_13 M) (zmk_34 M) := p33.tr (zPr.al (t := 1) (n := 7) (by have := zmk_z33 M h; omega) (by have := zmk_z33 M h; (exact zo_1709 this)) (by decide))
  have p35 : zPr 92 30 (zmk_13 M) (zmk_35 M) := p34.tr (zPr.i (by decide))
  exact ⟨p35.2.1.trans b1, p35.1.trans b2, p35.2.2.1.trans b3.1, p35.2.2.2.trans b3.2⟩
theorem zmk_a93 (M : zMem) (h : zn M = 82) : zf (zmk M) 81 31 = some 93 ∧ zsh (zmk M) 93 = (1, 4096) ∧ zi (zmk M) 93 = (fun _ => 0) ∧ zj (zmk M) 93 = (fun _ => 0) := by
  have hz : zn (zmk_13 M) = 93 := (zmk_z13 M h)
  have b1 : zf (zmk_14 M) 81 31 = some (zn (zmk_13 M)) := zsF_s (zal (zmk_13 M) 1 4096) 81 31 (some (zn (zmk_13 M)))
  have b2 : zsh (zmk_14 M) (zn (zmk_13 M)) = (1, 4096) := zal_sh (M := (zmk_13 M)) (t := 1) (n := 4096)
  have b3 : zi (zmk_14 M) (zn (zmk_13 M)) = (fun _ => 0) ∧ zj (zmk_14 M) (zn (zmk_13 M)) = (fun _ => 0) := zal_new (M := (zmk_13 M)) (t := 1) (n := 4096)
  rw [hz] at b1 b2 b3
  have p15 : zPr 93 31 (zmk_14 M) (zmk_15 M) := zPr.al (t := 1) (n := 1536) (by have := zmk_z14 M h; omega) (by have := zmk_z14 M h; (exact zo_1671 this)) (by decide)
  have p16 : zPr 93 31 (zmk_14 M) (zmk_16 M) := p15.tr (zPr.al (t := 2) (n := 2560) (by have := zmk_z15 M h; omega) (by have := zmk_z15 M h; (exact zo_1673 this)) (by decide))
  have p17 : zPr 93 31 (zmk_14 M) (zmk_17 M) := p16.tr (zPr.al (t := 2) (n := 64) (by have := zmk_z16 M h; omega) (by have := zmk_z16 M h; (exact zo_1675 this)) (by decide))
  have p18 : zPr 93 31 (zmk_14 M) (zmk_18 M) := p17.tr (zPr.al (t := 2) (n := 64) (by have := zmk_z17 M h; omega) (by have := zmk_z17 M h; (exact zo_1677 this)) (by decide))
  have p19 : zPr 93 31 (zmk_14 M) (zmk_19 M) := p18.tr (zPr.al (t := 2) (n := 64) (by have := zmk_z18 M h; omega) (by have := zmk_z18 M h; (exact zo_1679 this)) (by decide))
  have p20 : zPr 93 31 (zmk_14 M) (zmk_20 M) := p19.tr (zPr.al (t := 2) (n := 64) (by have := zmk_z19 M h; omega) (by have := zmk_z19 M h; (exact zo_1681 this)) (by decide))
  have p21 : zPr 93 31 (zmk_14 M) (zmk_21 M) := p20.tr (zPr.al (t := 1) (n := 80) (by have := zmk_z20 M h; omega) (by have := zmk_z20 M h; (exact zo_1683 this)) (by decide))
  have p22 : zPr 93 31 (zmk_14 M) (zmk_22 M) := p21.tr (zPr.al (t := 2) (n := 8) (by have := zmk_z21 M h; omega) (by have := zmk_z21 M h; (exact zo_1685 this)) (by decide))
  have p23 : zPr 93 31 (zmk_14 M) (zmk_23 M) := p22.tr (zPr.al (t := 2) (n := 512) (by have := zmk_z22 M h; omega) (by have := zmk_z22 M h; (exact zo_1687 this)) (by decide))
  have p24 : zPr 93 31 (zmk_14 M) (zmk_24 M) := p23.tr (zPr.al (t := 2) (n := 8) (by have := zmk_z23 M h; omega) (by have := zmk_z23 M h; (exact zo_1689 this)) (by decide))
  have p25 : zPr 93 31 (zmk_14 M) (zmk_25 M) := p24.tr (zPr.al (t := 2) (n := 512) (by have := zmk_z24 M h; omega) (by have := zmk_z24 M h; (exact zo_1691 this)) (by decide))
  have p26 : zPr 93 31 (zmk_14 M) (zmk_26 M) := p25.tr (zPr.al (t := 2) (n := 64) (by have := zmk_z25 M h; omega) (by have := zmk_z25 M h; (exact zo_1693 this)) (by decide))
  have p27 : zPr 93 31 (zmk_14 M) (zmk_27 M) := p26.tr (zPr.al (t := 1) (n := 128) (by have := zmk_z26 M h; omega) (by have := zmk_z26 M h; (exact zo_1695 this)) (by decide))
  have p28 : zPr 93 31 (zmk_14 M) (zmk_28 M) := p27.tr (zPr.al (t := 2) (n := 64) (by have := zmk_z27 M h; omega) (by have := zmk_z27 M h; (exact zo_1697 this)) (by decide))
  have p29 : zPr 93 31 (zmk_14 M) (zmk_29 M) := p28.tr (zPr.al (t := 2) (n := 64) (by have := zmk_z28 M h; omega) (by have := zmk_z28 M h; (exact zo_1699 this)) (by decide))
  have p30 : zPr 93 31 (zmk_14 M) (zmk_30 M) := p29.tr (zPr.al (t := 1) (n := 24) (by have := zmk_z29 M h; omega) (by have := zmk_z29 M h; (exact zo_1701 this)) (by decide))
  have p31 : zPr 93 31 (zmk_14 M) (zmk_31 M) := p30.tr (zPr.al (t := 1) (n := 65536) (by have := zmk_z30 M h; omega) (by have := zmk_z30 M h; (exact zo_1703 this)) (by decide))
  have p32 : zPr 93 31 (zmk_14 M) (zmk_32 M) := p31.tr (zPr.al (t := 2) (n := 768) (by have := zmk_z31 M h; omega) (by have := zmk_z31 M h; (exact zo_1705 this)) (by decide))
  have p33 : zPr 93 31 (zmk_14 M) (zmk_33 M) := p32.tr (zPr.al (t := 1) (n := 6) (by have := zmk_z32 M h; omega) (by have := zmk_z32 M h; (exact zo_1707 this)) (by decide))
  have p34 : zPr 93 31 (zmk_14 M) (zmk_34 M) := p33.tr (zPr.al (t := 1) (n := 7) (by have := zmk_z33 M h; omega) (by have := zmk_z33 M h; (exact zo_1709 this)) (by decide))
  have p35 : zPr 93 31 (zmk_14 M) (zmk_35 M) := p34.tr (zPr.i (by decide))
  exact ⟨p35.2.1.trans b1, p35.1.trans b2, p35.2.2.1.trans b3.1, p35.2.2.2.trans b3.2⟩
theorem zmk_a94 (M : zMem) (h : zn M = 82) : zf (zmk M) 81 32 = some 94 ∧ zsh (zmk M) 94 = (1, 1536) ∧ zi (zmk M) 94 = (fun _ => 0) ∧ zj (zmk M) 94 = (fun _ => 0) := by
  have hz : zn (zmk_14 M) = 94 := (zmk_z14 M h)
  have b1 : zf (zmk_15 M) 81 32 = some (zn (zmk_14 M)) := zsF_s (zal (zmk_14 M) 1 1536) 81 32 (some (zn (zmk_14 M)))
  have b2 : zsh (zmk_15 M) (zn (zmk_14 M)) = (1, 1536) := zal_sh (M := (zmk_14 M)) (t := 1) (n := 1536)
  have b3 : zi (zmk_15 M) (zn (zmk_14 M)) = (fun _ => 0) ∧ zj (zmk_15 M) (zn (zmk_14 M)) = (fun _ => 0) := zal_new (M := (zmk_14 M)) (t := 1) (n := 1536)
  rw [hz] at b1 b2 b3
  have p16 : zPr 94 32 (zmk_15 M) (zmk_16 M) := zPr.al (t := 2) (n := 2560) (by have := zmk_z15 M h; omega) (by have := zmk_z15 M h; (exact zo_1673 this)) (by decide)
  have p17 : zPr 94 32 (zmk_15 M) (zmk_17 M) := p16.tr (zPr.al (t := 2) (n := 64) (by have := zmk_z16 M h; omega) (by have := zmk_z16 M h; (exact zo_1675 this)) (by decide))
  have p18 : zPr 94 32 (zmk_15 M) (zmk_18 M) := p17.tr (zPr.al (t := 2) (n := 64) (by have := zmk_z17 M h; omega) (by have := zmk_z17 M h; (exact zo_1677 this)) (by decide))
  have p19 : zPr 94 32 (zmk_15 M) (zmk_19 M) := p18.tr (zPr.al (t := 2) (n := 64) (by have := zmk_z18 M h; omega) (by have := zmk_z18 M h; (exact zo_1679 this)) (by decide))
  have p20 : zPr 94 32 (zmk_15 M) (zmk_20 M) := p19.tr (zPr.al (t := 2) (n := 64) (by have := zmk_z19 M h; omega) (by have := zmk_z19 M h; (exact zo_1681 this)) (by decide))
  have p21 : zPr 94 32 (zmk_15 M) (zmk_21 M) := p20.tr (zPr.al (t := 1) (n := 80) (by have := zmk_z20 M h; omega) (by have := zmk_z20 M h; (exact zo_1683 this)) (by decide))
  have p22 : zPr 94 32 (zmk_15 M) (zmk_22 M) := p21.tr (zPr.al (t := 2) (n := 8) (by have := zmk_z21 M h; omega) (by have := zmk_z21 M h; (exact zo_1685 this)) (by decide))
  have p23 : zPr 94 32 (zmk_15 M) (zmk_23 M) := p22.tr (zPr.al (t := 2) (n := 512) (by have := zmk_z22 M h; omega) (by have := zmk_z22 M h; (exact zo_1687 this)) (by decide))
  have p24 : zPr 94 32 (zmk_15 M) (zmk_24 M) := p23.tr (zPr.al (t := 2) (n := 8) (by have := zmk_z23 M h; omega) (by have := zmk_z23 M h; (exact zo_1689 this)) (by decide))
  have p25 : zPr 94 32 (zmk_15 M) (zmk_25 M) := p24.tr (zPr.al (t := 2) (n := 512) (by have := zmk_z24 M h; omega) (by have := zmk_z24 M h; (exact zo_1691 this)) (by decide))
  have p26 : zPr 94 32 (zmk_15 M) (zmk_26 M) := p25.tr (zPr.al (t := 2) (n := 64) (by have := zmk_z25 M h; omega) (by have := zmk_z25 M h; (exact zo_1693 this)) (by decide))
  have p27 : zPr 94 32 (zmk_15 M) (zmk_27 M) := p26.tr (zPr.al (t := 1) (n := 128) (by have := zmk_z26 M h; omega) (by have := zmk_z26 M h; (exact zo_1695 this)) (by decide))
  have p28 : zPr 94 32 (zmk_15 M) (zmk_28 M) := p27.tr (zPr.al (t := 2) (n := 64) (by have := zmk_z27 M h; omega) (by have := zmk_z27 M h; (exact zo_1697 this)) (by decide))
  have p29 : zPr 94 32 (zmk_15 M) (zmk_29 M) := p28.tr (zPr.al (t := 2) (n := 64) (by have := zmk_z28 M h; omega) (by have := zmk_z28 M h; (exact zo_1699 this)) (by decide))
  have p30 : zPr 94 32 (zmk_15 M) (zmk_30 M) := p29.tr (zPr.al (t := 1) (n := 24) (by have := zmk_z29 M h; omega) (by have := zmk_z29 M h; (exact zo_1701 this)) (by decide))
  have p31 : zPr 94 32 (zmk_15 M) (zmk_31 M) := p30.tr (zPr.al (t := 1) (n := 65536) (by have := zmk_z30 M h; omega) (by have := zmk_z30 M h; (exact zo_1703 this)) (by decide))
  have p32 : zPr 94 32 (zmk_15 M) (zmk_32 M) := p31.tr (zPr.al (t := 2) (n := 768) (by have := zmk_z31 M h; omega) (by have := zmk_z31 M h; (exact zo_1705 this)) (by decide))
  have p33 : zPr 94 32 (zmk_15 M) (zmk_33 M) := p32.tr (zPr.al (t := 1) (n := 6) (by have := zmk_z32 M h; omega) (by have := zmk_z32 M h; (exact zo_1707 this)) (by decide))
  have p34 : zPr 94 32 (zmk_15 M) (zmk_34 M) := p33.tr (zPr.al (t := 1) (n := 7) (by have := zmk_z33 M h; omega) (by have := zmk_z33 M h; (exact zo_1709 this)) (by decide))
  have p35 : zPr 94 32 (zmk_15 M) (zmk_35 M) := p34.tr (zPr.i (by decide))
  exact ⟨p35.2.1.trans b1, p35.1.trans b2, p35.2.2.1.trans b3.1, p35.2.2.2.trans b3.2⟩
theorem zmk_a95 (M : zMem) (h : zn M = 82) : zf (zmk M) 81 33 = some 95 ∧ zsh (zmk M) 95 = (2, 2560) ∧ zi (zmk M) 95 = (fun _ => 0) ∧ zj (zmk M) 95 = (fun _ => 0) := by
  have hz : zn (zmk_15 M) = 95 := (zmk_z15 M h)
  have b1 : zf (zmk_16 M) 81 33 = some (zn (zmk_15 M)) := zsF_s (zal (zmk_15 M) 2 2560) 81 33 (some (zn (zmk_15 M)))
  have b2 : zsh (zmk_16 M) (zn (zmk_15 M)) = (2, 2560) := zal_sh (M := (zmk_15 M)) (t := 2) (n := 2560)
  have b3 : zi (zmk_16 M) (zn (zmk_15 M)) = (fun _ => 0) ∧ zj (zmk_16 M) (zn (zmk_15 M)) = (fun _ => 0) := zal_new (M := (zmk_15 M)) (t := 2) (n := 2560)
  rw [hz] at b1 b2 b3
  have p17 : zPr 95 33 (zmk_16 M) (zmk_17 M) := zPr.al (t := 2) (n := 64) (by have := zmk_z16 M h; omega) (by have := zmk_z16 M h; (exact zo_1675 this)) (by decide)
  have p18 : zPr 95 33 (zmk_16 M) (zmk_18 M) := p17.tr (zPr.al (t := 2) (n := 64) (by have := zmk_z17 M h; omega) (by have := zmk_z17 M h; (exact zo_1677 this)) (by decide))
  have p19 : zPr 95 33 (zmk_16 M) (zmk_19 M) := p18.tr (zPr.al (t := 2) (n := 64) (by have := zmk_z18 M h; omega) (by have := zmk_z18 M h; (exact zo_1679 this)) (by decide))
  have p20 : zPr 95 33 (zmk_16 M) (zmk_20 M) := p19.tr (zPr.al (t := 2) (n := 64) (by have := zmk_z19 M h; omega) (by have := zmk_z19 M h; (exact zo_1681 this)) (by decide))
  have p21 : zPr 95 33 (zmk_16 M) (zmk_21 M) := p20.tr (zPr.al (t := 1) (n := 80) (by have := zmk_z20 M h; omega) (by have := zmk_z20 M h; (exact zo_1683 this)) (by decide))
  have p22 : zPr 95 33 (zmk_16 M) (zmk_22 M) := p21.tr (zPr.al (t := 2) (n := 8) (by have := zmk_z21 M h; omega) (by have := zmk_z21 M h; (exact zo_1685 this)) (by decide))
  have p23 : zPr 95 33 (zmk_16 M) (zmk_23 M) := p22.tr (zPr.al (t := 2) (n := 512) (by have := zmk_z22 M h; omega) (by have := zmk_z22 M h; (exact zo_1687 this)) (by decide))
  have p24 : zPr 95 33 (zmk_16 M) (zmk_24 M) := p23.tr (zPr.al (t := 2) (n := 8) (by have := zmk_z23 M h; omega) (by have := zmk_z23 M h; (exact zo_1689 this)) (by decide))
  have p25 : zPr 95 33 (zmk_16 M) (zmk_25 M) := p24.tr (zPr.al (t := 2) (n := 512) (by have := zmk_z24 M h; omega) (by have := zmk_z24 M h; (exact zo_1691 this)) (by decide))
  have p26 : zPr 95 33 (zmk_16 M) (zmk_26 M) := p25.tr (zPr.al (t := 2) (n := 64) (by have := zmk_z25 M h; omega) (by have := zmk_z25 M h; (exact zo_1693 this)) (by decide))
  have p27 : zPr 95 33 (zmk_16 M) (zmk_27 M) := p26.tr (zPr.al (t := 1) (n := 128) (by have := zmk_z26 M h; omega) (by have := zmk_z26 M h; (exact zo_1695 this)) (by decide))
  have p28 : zPr 95 33 (zmk_16 M) (zmk_28 M) := p27.tr (zPr.al (t := 2) (n := 64) (by have := zmk_z27 M h; omega) (by have := zmk_z27 M h; (exact zo_1697 this)) (by decide))
  have p29 : zPr 95 33 (zmk_16 M) (zmk_29 M) := p28.tr (zPr.al (t := 2) (n := 64) (by have := zmk_z28 M h; omega) (by have := zmk_z28 M h; (exact zo_1699 this)) (by decide))
  have p30 : zPr 95 33 (zmk_16 M) (zmk_30 M) := p29.tr (zPr.al (t := 1) (n := 24) (by have := zmk_z29 M h; omega) (by have := zmk_z29 M h; (exact zo_1701 this)) (by decide))
  have p31 : zPr 95 33 (zmk_16 M) (zmk_31 M) := p30.tr (zPr.al (t := 1) (n := 65536) (by have := zmk_z30 M h; omega) (by have := zmk_z30 M h; (exact zo_1703 this)) (by decide))
  have p32 : zPr 95 33 (zmk_16 M) (zmk_32 M) := p31.tr (zPr.al (t := 2) (n := 768) (by have := zmk_z31 M h; omega) (by have := zmk_z31 M h; (exact zo_1705 this)) (by decide))
  have p33 : zPr 95 33 (zmk_16 M) (zmk_33 M) := p32.tr (zPr.al (t := 1) (n := 6) (by have := zmk_z32 M h; omega) (by have := zmk_z32 M h; (exact zo_1707 this)) (by decide))
  have p34 : zPr 95 33 (zmk_16 M) (zmk_34 M) := p33.tr (zPr.al (t := 1) (n := 7) (by have := zmk_z33 M h; omega) (by have := zmk_z33 M h; (exact zo_1709 this)) (by decide))
  have p35 : zPr 95 33 (zmk_16 M) (zmk_35 M) := p34.tr (zPr.i (by decide))
  exact ⟨p35.2.1.trans b1, p35.1.trans b2, p35.2.2.1.trans b3.1, p35.2.2.2.trans b3.2⟩
theorem zmk_a96 (M : zMem) (h : zn M = 82) : zf (zmk M) 81 34 = some 96 ∧ zsh (zmk M) 96 = (2, 64) ∧ zi (zmk M) 96 = (fun _ => 0) ∧ zj (zmk M) 96 = (fun _ => 0) := by
  have hz : zn (zmk_16 M) = 96 := (zmk_z16 M h)
  have b1 : zf (zmk_17 M) 81 34 = some (zn (zmk_16 M)) := zsF_s (zal (zmk_16 M) 2 64) 81 34 (some (zn (zmk_16 M)))
  have b2 : zsh (zmk_17 M) (zn (zmk_16 M)) = (2, 64) := zal_sh (M := (zmk_16 M)) (t := 2) (n := 64)
  have b3 : zi (zmk_17 M) (zn (zmk_16 M)) = (fun _ => 0) ∧ zj (zmk_17 M) (zn (zmk_16 M)) = (fun _ => 0) := zal_new (M := (zmk_16 M)) (t := 2) (n := 64)
  rw [hz] at b1 b2 b3
  have p18 : zPr 96 34 (zmk_17 M) (zmk_18 M) := zPr.al (t := 2) (n := 64) (by have := zmk_z17 M h; omega) (by have := zmk_z17 M h; (exact zo_1677 this)) (by decide)
  have p19 : zPr 96 34 (zmk_17 M) (zmk_19 M) := p18.tr (zPr.al (t := 2) (n := 64) (by have := zmk_z18 M h; omega) (by have := zmk_z18 M h; (exact zo_1679 this)) (by decide))
  have p20 : zPr 96 34 (zmk_17 M) (zmk_20 M) := p19.tr (zPr.al (t := 2) (n := 64) (by have := zmk_z19 M h; omega) (by have := zmk_z19 M h; (exact zo_1681 this)) (by decide))
  have p21 : zPr 96 34 (zmk_17 M) (zmk_21 M) := p20.tr (zPr.al (t := 1) (n := 80) (by have := zmk_z20 M h; omega) (by have := zmk_z20 M h; (exact zo_1683 this)) (by decide))
  have p22 : zPr 96 34 (zmk_17 M) (zmk_22 M) := p21.tr (zPr.al (t := 2) (n := 8) (by have := zmk_z21 M h; omega) (by have := zmk_z21 M h; (exact zo_1685 this)) (by decide))
  have p23 : zPr 96 34 (zmk_17 M) (zmk_23 M) := p22.tr (zPr.al (t := 2) (n := 512) (by have := zmk_z22 M h; omega) (by have := zmk_z22 M h; (exact zo_1687 this)) (by decide))
  have p24 : zPr 96 34 (zmk_17 M) (zmk_24 M) := p23.tr (zPr.al (t := 2) (n := 8) (by have := zmk_z23 M h; omega) (by have := zmk_z23 M h; (exact zo_1689 this)) (by decide))
  have p25 : zPr 96 34 (zmk_17 M) (zmk_25 M) := p24.tr (zPr.al (t := 2) (n := 512) (by have := zmk_z24 M h; omega) (by have := zmk_z24 M h; (exact zo_1691 this)) (by decide))
  have p26 : zPr 96 34 (zmk_17 M) (zmk_26 M) := p25.tr (zPr.al (t := 2) (n := 64) (by have := zmk_z25 M h; omega) (by have := zmk_z25 M h; (exact zo_1693 this)) (by decide))
  have p27 : zPr 96 34 (zmk_17 M) (zmk_27 M) := p26.tr (zPr.al (t := 1) (n := 128) (by have := zmk_z26 M h; omega) (by have := zmk_z26 M h; (exact zo_1695 this)) (by decide))
  have p28 : zPr 96 34 (zmk_17 M) (zmk_28 M) := p27.tr (zPr.al (t := 2) (n := 64) (by have := zmk_z27 M h; omega) (by have := zmk_z27 M h; (exact zo_1697 this)) (by decide))
  have p29 : zPr 96 34 (zmk_17 M) (zmk_29 M) := p28.tr (zPr.al (t := 2) (n := 64) (by have := zmk_z28 M h; omega) (by have := zmk_z28 M h; (exact zo_1699 this)) (by decide))
  have p30 : zPr 96 34 (zmk_17 M) (zmk_30 M) := p29.tr (zPr.al (t := 1) (n := 24) (by have := zmk_z29 M h; omega) (by have := zmk_z29 M h; (exact zo_1701 this)) (by decide))
  have p31 : zPr 96 34 (zmk_17 M) (zmk_31 M) := p30.tr (zPr.al (t := 1) (n := 65536) (by have := zmk_z30 M h; omega) (by have := zmk_z30 M h; (exact zo_1703 this)) (by decide))
  have p32 : zPr 96 34 (zmk_17 M) (zmk_32 M) := p31.tr (zPr.al (t := 2) (n := 768) (by have := zmk_z31 M h; omega) (by have := zmk_z31 M h; (exact zo_1705 this)) (by decide))
  have p33 : zPr 96 34 (zmk_17 M) (zmk_33 M) := p32.tr (zPr.al (t := 1) (n := 6) (by have := zmk_z32 M h; omega) (by have := zmk_z32 M h; (exact zo_1707 this)) (by decide))
  have p34 : zPr 96 34 (zmk_17 M) (zmk_34 M) := p33.tr (zPr.al (t := 1) (n := 7) (by have := zmk_z33 M h; omega) (by have := zmk_z33 M h; (exact zo_1709 this)) (by decide))
  have p35 : zPr 96 34 (zmk_17 M) (zmk_35 M) := p34.tr (zPr.i (by decide))
  exact ⟨p35.2.1.trans b1, p35.1.trans b2, p35.2.2.1.trans b3.1, p35.2.2.2.trans b3.2⟩
theorem zmk_a97 (M : zMem) (h : zn M = 82) : zf (zmk M) 81 35 = some 97 ∧ zsh (zmk M) 97 = (2, 64) ∧ zi (zmk M) 97 = (fun _ => 0) ∧ zj (zmk M) 97 = (fun _ => 0) := by
  have hz : zn (zmk_17 M) = 97 := (zmk_z17 M h)
  have b1 : zf (zmk_18 M) 81 35 = some (zn (zmk_17 M)) := zsF_s (zal (zmk_17 M) 2 64) 81 35 (some (zn (zmk_17 M)))
  have b2 : zsh (zmk_18 M) (zn (zmk_17 M)) = (2, 64) := zal_sh (M := (zmk_17 M)) (t := 2) (n := 64)
  have b3 : zi (zmk_18 M) (zn (zmk_17 M)) = (fun _ => 0) ∧ zj (zmk_18 M) (zn (zmk_17 M)) = (fun _ => 0) := zal_new (M := (zmk_17 M)) (t := 2) (n := 64)
  rw [hz] at b1 b2 b3
  have p19 : zPr 97 35 (zmk_18 M) (zmk_19 M) := zPr.al (t := 2) (n := 64) (by have := zmk_z18 M h; omega) (by have := zmk_z18 M h; (exact zo_1679 this)) (by decide)
  have p20 : zPr 97 35 (zmk_18 M) (zmk_20 M) := p19.tr (zPr.al (t := 2) (n := 64) (by have := zmk_z19 M h; omega) (by have := zmk_z19 M h; (exact zo_1681 this)) (by decide))
  have p21 : zPr 97 35 (zmk_18 M) (zmk_21 M) := p20.tr (zPr.al (t := 1) (n := 80) (by have := zmk_z20 M h; omega) (by have := zmk_z20 M h; (exact zo_1683 this)) (by decide))
  have p22 : zPr 97 35 (zmk_18 M) (zmk_22 M) := p21.tr (zPr.al (t := 2) (n := 8) (by have := zmk_z21 M h; omega) (by have := zmk_z21 M h; (exact zo_1685 this)) (by decide))
  have p23 : zPr 97 35 (zmk_18 M) (zmk_23 M) := p22.tr (zPr.al (t := 2) (n := 512) (by have := zmk_z22 M h; omega) (by have := zmk_z22 M h; (exact zo_1687 this)) (by decide))
  have p24 : zPr 97 35 (zmk_18 M) (zmk_24 M) := p23.tr (zPr.al (t := 2) (n := 8) (by have := zmk_z23 M h; omega) (by have := zmk_z23 M h; (exact zo_1689 this)) (by decide))
  have p25 : zPr 97 35 (zmk_18 M) (zmk_25 M) := p24.tr (zPr.al (t := 2) (n := 512) (by have := zmk_z24 M h; omega) (by have := zmk_z24 M h; (exact zo_1691 this)) (by decide))
  have p26 : zPr 97 35 (zmk_18 M) (zmk_26 M) := p25.tr (zPr.al (t := 2) (n := 64) (by have := zmk_z25 M h; omega) (by have := zmk_z25 M h; (exact zo_1693 this)) (by decide))
  have p27 : zPr 97 35 (zmk_18 M) (zmk_27 M) := p26.tr (zPr.al (t := 1) (n := 128) (by have := zmk_z26 M h; omega) (by have := zmk_z26 M h; (exact zo_1695 this)) (by decide))
  have p28 : zPr 97 35 (zmk_18 M) (zmk_28 M) := p27.tr (zPr.al (t := 2) (n := 64) (by have := zmk_z27 M h; omega) (by have := zmk_z27 M h; (exact zo_1697 this)) (by decide))
  have p29 : zPr 97 35 (zmk_18 M) (zmk_29 M) := p28.tr (zPr.al (t := 2) (n := 64) (by have := zmk_z28 M h; omega) (by have := zmk_z28 M h; (exact zo_1699 this)) (by decide))
  have p30 : zPr 97 35 (zmk_18 M) (zmk_30 M) := p29.tr (zPr.al (t := 1) (n := 24) (by have := zmk_z29 M h; omega) (by have := zmk_z29 M h; (exact zo_1701 this)) (by decide))
  have p31 : zPr 97 35 (zmk_18 M) (zmk_31 M) := p30.tr (zPr.al (t := 1) (n := 65536) (by have := zmk_z30 M h; omega) (by have := zmk_z30 M h; (exact zo_1703 this)) (by decide))
  have p32 : zPr 97 35 (zmk_18 M) (zmk_32 M) := p31.tr (zPr.al (t := 2) (n := 768) (by have := zmk_z31 M h; omega) (by have := zmk_z31 M h; (exact zo_1705 this)) (by decide))
  have p33 : zPr 97 35 (zmk_18 M) (zmk_33 M) := p32.tr (zPr.al (t := 1) (n := 6) (by have := zmk_z32 M h; omega) (by have := zmk_z32 M h; (exact zo_1707 this)) (by decide))
  have p34 : zPr 97 35 (zmk_18 M) (zmk_34 M) := p33.tr (zPr.al (t := 1) (n := 7) (by have := zmk_z33 M h; omega) (by have := zmk_z33 M h; (exact zo_1709 this)) (by decide))
  have p35 : zPr 97 35 (zmk_18 M) (zmk_35 M) := p34.tr (zPr.i (by decide))
  exact ⟨p35.2.1.trans b1, p35.1.trans b2, p35.2.2.1.trans b3.1, p35.2.2.2.trans b3.2⟩
theorem zmk_a98 (M : zMem) (h : zn M = 82) : zf (zmk M) 81 36 = some 98 ∧ zsh (zmk M) 98 = (2, 64) ∧ zi (zmk M) 98 = (fun _ => 0) ∧ zj (zmk M) 98 = (fun _ => 0) := by
  have hz : zn (zmk_18 M) = 98 := (zmk_z18 M h)
  have b1 : zf (zmk_19 M) 81 36 = some (zn (zmk_18 M)) := zsF_s (zal (zmk_18 M) 2 64) 81 36 (some (zn (zmk_18 M)))
  have b2 : zsh (zmk_19 M) (zn (zmk_18 M)) = (2, 64) := zal_sh (M := (zmk_18 M)) (t := 2) (n := 64)
  have b3 : zi (zmk_19 M) (zn (zmk_18 M)) = (fun _ => 0) ∧ zj (zmk_19 M) (zn (zmk_18 M)) = (fun _ => 0) := zal_new (M := (zmk_18 M)) (t := 2) (n := 64)
  rw [hz] at b1 b2 b3
  have p20 : zPr 98 36 (zmk_19 M) (zmk_20 M) := zPr.al (t := 2) (n := 64) (by have := zmk_z19 M h; omega) (by have := zmk_z19 M h; (exact zo_1681 this)) (by decide)
  have p21 : zPr 98 36 (zmk_19 M) (zmk_21 M) := p20.tr (zPr.al (t := 1) (n := 80) (by have := zmk_z20 M h; omega) (by have := zmk_z20 M h; (exact zo_1683 this)) (by decide))
  have p22 : zPr 98 36 (zmk_19 M) (zmk_22 M) := p21.tr (zPr.al (t := 2) (n := 8) (by have := zmk_z21 M h; omega) (by have := zmk_z21 M h; (exact zo_1685 this)) (by decide))
  have p23 : zPr 98 36 (zmk_19 M) (zmk_23 M) := p22.tr (zPr.al (t := 2) (n := 512) (by have := zmk_z22 M h; omega) (by have := zmk_z22 M h; (exact zo_1687 this)) (by decide))
  have p24 : zPr 98 36 (zmk_19 M) (zmk_24 M) := p23.tr (zPr.al (t := 2) (n := 8) (by have := zmk_z23 M h; omega) (by have := zmk_z23 M h; (exact zo_1689 this)) (by decide))
  have p25 : zPr 98 36 (zmk_19 M) (zmk_25 M) := p24.tr (zPr.al (t := 2) (n := 512) (by have := zmk_z24 M h; omega) (by have := zmk_z24 M h; (exact zo_1691 this)) (by decide))
  have p26 : zPr 98 36 (zmk_19 M) (zmk_26 M) := p25.tr (zPr.al (t := 2) (n := 64) (by have := zmk_z25 M h; omega) (by have := zmk_z25 M h; (exact zo_1693 this)) (by decide))
  have p27 : zPr 98 36 (zmk_19 M) (zmk_27 M) := p26.tr (zPr.al (t := 1) (n := 128) (by have := zmk_z26 M h; omega) (by have := zmk_z26 M h; (exact zo_1695 this)) (by decide))
  have p28 : zPr 98 36 (zmk_19 M) (zmk_28 M) := p27.tr (zPr.al (t := 2) (n := 64) (by have := zmk_z27 M h; omega) (by have := zmk_z27 M h; (exact zo_1697 this)) (by decide))
  have p29 : zPr 98 36 (zmk_19 M) (zmk_29 M) := p28.tr (zPr.al (t := 2) (n := 64) (by have := zmk_z28 M h; omega) (by have := zmk_z28 M h; (exact zo_1699 this)) (by decide))
  have p30 : zPr 98 36 (zmk_19 M) (zmk_30 M) := p29.tr (zPr.al (t := 1) (n := 24) (by have := zmk_z29 M h; omega) (by have := zmk_z29 M h; (exact zo_1701 this)) (by decide))
  have p31 : zPr 98 36 (zmk_19 M) (zmk_31 M) := p30.tr (zPr.al (t := 1) (n := 65536) (by have := zmk_z30 M h; omega) (by have := zmk_z30 M h; (exact zo_1703 this)) (by decide))
  have p32 : zPr 98 36 (zmk_19 M) (zmk_32 M) := p31.tr (zPr.al (t := 2) (n := 768) (by have := zmk_z31 M h; omega) (by have := zmk_z31 M h; (exact zo_1705 this)) (by decide))
  have p33 : zPr 98 36 (zmk_19 M) (zmk_33 M) := p32.tr (zPr.al (t := 1) (n := 6) (by have := zmk_z32 M h; omega) (by have := zmk_z32 M h; (exact zo_1707 this)) (by decide))
  have p34 : zPr 98 36 (zmk_19 M) (zmk_34 M) := p33.tr (zPr.al (t := 1) (n := 7) (by have := zmk_z33 M h; omega) (by have := zmk_z33 M h; (exact zo_1709 this)) (by decide))
  have p35 : zPr 98 36 (zmk_19 M) (zmk_35 M) := p34.tr (zPr.i (by decide))
  exact ⟨p35.2.1.trans b1, p35.1.trans b2, p35.2.2.1.trans b3.1, p35.2.2.2.trans b3.2⟩
theorem zmk_a99 (M : zMem) (h : zn M = 82) : zf (zmk M) 81 37 = some 99 ∧ zsh (zmk M) 99 = (2, 64) ∧ zi (zmk M) 99 = (fun _ => 0) ∧ zj (zmk M) 99 = (fun _ => 0) := by
  have hz : zn (zmk_19 M) = 99 := (zmk_z19 M h)
  have b1 : zf (zmk_20 M) 81 37 = some (zn (zmk_19 M)) := zsF_s (zal (zmk_19 M) 2 64) 81 37 (some (zn (zmk_19 M)))
  have b2 : zsh (zmk_20 M) (zn (zmk_19 M)) = (2, 64) := zal_sh (M := (zmk_19 M)) (t := 2) (n := 64)
  have b3 : zi (zmk_20 M) (zn (zmk_19 M)) = (fun _ => 0) ∧ zj (zmk_20 M) (zn (zmk_19 M)) = (fun _ => 0) := zal_new (M := (zmk_19 M)) (t := 2) (n := 64)
  rw [hz] at b1 b2 b3
  have p21 : zPr 99 37 (zmk_20 M) (zmk_21 M) := zPr.al (t := 1) (n := 80) (by have := zmk_z20 M h; omega) (by have := zmk_z20 M h; (exact zo_1683 this)) (by decide)
  have p22 : zPr 99 37 (zmk_20 M) (zmk_22 M) := p21.tr (zPr.al (t := 2) (n := 8) (by have := zmk_z21 M h; omega) (by have := zmk_z21 M h; (exact zo_1685 this)) (by decide))
  have p23 : zPr 99 37 (zmk_20 M) (zmk_23 M) := p22.tr (zPr.al (t := 2) (n := 512) (by have := zmk_z22 M h; omega) (by have := zmk_z22 M h; (exact zo_1687 this)) (by decide))
  have p24 : zPr 99 37 (zmk_20 M) (zmk_24 M) := p23.tr (zPr.al (t := 2) (n := 8) (by have := zmk_z23 M h; omega) (by have := zmk_z23 M h; (exact zo_1689 this)) (by decide))
  have p25 : zPr 99 37 (zmk_20 M) (zmk_25 M) := p24.tr (zPr.al (t := 2) (n := 512) (by have := zmk_z24 M h; omega) (by have := zmk_z24 M h; (exact zo_1691 this)) (by decide))
  have p26 : zPr 99 37 (zmk_20 M) (zmk_26 M) := p25.tr (zPr.al (t := 2) (n := 64) (by have := zmk_z25 M h; omega) (by have := zmk_z25 M h; (exact zo_1693 this)) (by decide))
  have p27 : zPr 99 37 (zmk_20 M) (zmk_27 M) := p26.tr (zPr.al (t := 1) (n := 128) (by have := zmk_z26 M h; omega) (by have := zmk_z26 M h; (exact zo_1695 this)) (by decide))
  have p28 : zPr 99 37 (zmk_20 M) (zmk_28 M) := p27.tr (zPr.al (t := 2) (n := 64) (by have := zmk_z27 M h; omega) (by have := zmk_z27 M h; (exact zo_1697 this)) (by decide))
  have p29 : zPr 99 37 (zmk_20 M) (zmk_29 M) := p28.tr (zPr.al (t := 2) (n := 64) (by have := zmk_z28 M h; omega) (by have := zmk_z28 M h; (exact zo_1699 this)) (by decide))
  have p30 : zPr 99 37 (zmk_20 M) (zmk_30 M) := p29.tr (zPr.al (t := 1) (n := 24) (by have := zmk_z29 M h; omega) (by have := zmk_z29 M h; (exact zo_1701 this)) (by decide))
  have p31 : zPr 99 37 (zmk_20 M) (zmk_31 M) := p30.tr (zPr.al (t := 1) (n := 65536) (by have := zmk_z30 M h; omega) (by have := zmk_z30 M h; (exact zo_1703 this)) (by decide))
  have p32 : zPr 99 37 (zmk_20 M) (zmk_32 M) := p31.tr (zPr.al (t := 2) (n := 768) (by have := zmk_z31 M h; omega) (by have := zmk_z31 M h; (exact zo_1705 this)) (by decide))
  have p33 : zPr 99 37 (zmk_20 M) (zmk_33 M) := p32.tr (zPr.al (t := 1) (n := 6) (by have := zmk_z32 M h; omega) (by have := zmk_z32 M h; (exact zo_1707 this)) (by decide))
  have p34 : zPr 99 37 (zmk_20 M) (zmk_34 M) := p33.tr (zPr.al (t := 1) (n := 7) (by have := zmk_z33 M h; omega) (by have := zmk_z33 M h; (exact zo_1709 this)) (by decide))
  have p35 : zPr 99 37 (zmk_20 M) (zmk_35 M) := p34.tr (zPr.i (by decide))
  exact ⟨p35.2.1.trans b1, p35.1.trans b2, p35.2.2.1.trans b3.1, p35.2.2.2.trans b3.2⟩
theorem zmk_a100 (M : zMem) (h : zn M = 82) : zf (zmk M) 81 40 = some 100 ∧ zsh (zmk M) 100 = (1, 80) ∧ zi (zmk M) 100 = (fun _ => 0) ∧ zj (zmk M) 100 = (fun _ => 0) := by
  have hz : zn (zmk_20 M) = 100 := (zmk_z20 M h)
  have b1 : zf (zmk_21 M) 81 40 = some (zn (zmk_20 M)) := zsF_s (zal (zmk_20 M) 1 80) 81 40 (some (zn (zmk_20 M)))
  have b2 : zsh (zmk_21 M) (zn (zmk_20 M)) = (1, 80) := zal_sh (M := (zmk_20 M)) (t := 1) (n := 80)
  have b3 : zi (zmk_21 M) (zn (zmk_20 M)) = (fun _ => 0) ∧ zj (zmk_21 M) (zn (zmk_20 M)) = (fun _ => 0) := zal_new (M := (zmk_20 M)) (t := 1) (n := 80)
  rw [hz] at b1 b2 b3
  have p22 : zPr 100 40 (zmk_21 M) (zmk_22 M) := zPr.al (t := 2) (n := 8) (by have := zmk_z21 M h; omega) (by have := zmk_z21 M h; (exact zo_1685 this)) (by decide)
  have p23 : zPr 100 40 (zmk_21 M) (zmk_23 M) := p22.tr (zPr.al (t := 2) (n := 512) (by have := zmk_z22 M h; omega) (by have := zmk_z22 M h; (exact zo_1687 this)) (by decide))
  have p24 : zPr 100 40 (zmk_21 M) (zmk_24 M) := p23.tr (zPr.al (t := 2) (n := 8) (by have := zmk_z23 M h; omega) (by have := zmk_z23 M h; (exact zo_1689 this)) (by decide))
  have p25 : zPr 100 40 (zmk_21 M) (zmk_25 M) := p24.tr (zPr.al (t := 2) (n := 512) (by have := zmk_z24 M h; omega) (by have := zmk_z24 M h; (exact zo_1691 this)) (by decide))
  have p26 : zPr 100 40 (zmk_21 M) (zmk_26 M) := p25.tr (zPr.al (t := 2) (n := 64) (by have := zmk_z25 M h; omega) (by have := zmk_z25 M h; (exact zo_1693 this)) (by decide))
  have p27 : zPr 100 40 (zmk_21 M) (zmk_27 M) := p26.tr (zPr.al (t := 1) (n := 128) (by have := zmk_z26 M h; omega) (by have := zmk_z26 M h; (exact zo_1695 this)) (by decide))
  have p28 : zPr 100 40 (zmk_21 M) (zmk_28 M) := p27.tr (zPr.al (t := 2) (n := 64) (by have := zmk_z27 M h; omega) (by have := zmk_z27 M h; (exact zo_1697 this)) (by decide))
  have p29 : zPr 100 40 (zmk_21 M) (zmk_29 M) := p28.tr (zPr.al (t := 2) (n := 64) (by have := zmk_z28 M h; omega) (by have := zmk_z28 M h; (exact zo_1699 this)) (by decide))
  have p30 : zPr 100 40 (zmk_21 M) (zmk_30 M) := p29.tr (zPr.al (t := 1) (n := 24) (by have := zmk_z29 M h; omega) (by have := zmk_z29 M h; (exact zo_1701 this)) (by decide))
  have p31 : zPr 100 40 (zmk_21 M) (zmk_31 M) := p30.tr (zPr.al (t := 1) (n := 65536) (by have := zmk_z30 M h; omega) (by have := zmk_z30 M h; (exact zo_1703 this)) (by decide))
  have p32 : zPr 100 40 (zmk_21 M) (zmk_32 M) := p31.tr (zPr.al (t := 2) (n := 768) (by have := zmk_z31 M h; omega) (by have := zmk_z31 M h; (exact zo_1705 this)) (by decide))
  have p33 : zPr 100 40 (zmk_21 M) (zmk_33 M) := p32.tr (zPr.al (t := 1) (n := 6) (by have := zmk_z32 M h; omega) (by have := zmk_z32 M h; (exact zo_1707 this)) (by decide))
  have p34 : zPr 100 40 (zmk_21 M) (zmk_34 M) := p33.tr (zPr.al (t := 1) (n := 7) (by have := zmk_z33 M h; omega) (by have := zmk_z33 M h; (exact zo_1709 this)) (by decide))
  have p35 : zPr 100 40 (zmk_21 M) (zmk_35 M) := p34.tr (zPr.i (by decide))
  exact ⟨p35.2.1.trans b1, p35.1.trans b2, p35.2.2.1.trans b3.1, p35.2.2.2.trans b3.2⟩
theorem zmk_a101 (M : zMem) (h : zn M = 82) : zf (zmk M) 81 44 = some 101 ∧ zsh (zmk M) 101 = (2, 8) ∧ zi (zmk M) 101 = (fun _ => 0) ∧ zj (zmk M) 101 = (fun _ => 0) := by
  have hz : zn (zmk_21 M) = 101 := (zmk_z21 M h)
  have b1 : zf (zmk_22 M) 81 44 = some (zn (zmk_21 M)) := zsF_s (zal (zmk_21 M) 2 8) 81 44 (some (zn (zmk_21 M)))
  have b2 : zsh (zmk_22 M) (zn (zmk_21 M)) = (2, 8) := zal_sh (M := (zmk_21 M)) (t := 2) (n := 8)
  have b3 : zi (zmk_22 M) (zn (zmk_21 M)) = (fun _ => 0) ∧ zj (zmk_22 M) (zn (zmk_21 M)) = (fun _ => 0) := zal_new (M := (zmk_21 M)) (t := 2) (n := 8)
  rw [hz] at b1 b2 b3
  have p23 : zPr 101 44 (zmk_22 M) (zmk_23 M) := zPr.al (t := 2) (n := 512) (by have := zmk_z22 M h; omega) (by have := zmk_z22 M h; (exact zo_1687 this)) (by decide)
  have p24 : zPr 101 44 (zmk_22 M) (zmk_24 M) := p23.tr (zPr.al (t := 2) (n := 8) (by have := zmk_z23 M h; omega) (by have := zmk_z23 M h; (exact zo_1689 this)) (by decide))
  have p25 : zPr 101 44 (zmk_22 M) (zmk_25 M) := p24.tr (zPr.al (t := 2) (n := 512) (by have := zmk_z24 M h; omega) (by have := zmk_z24 M h; (exact zo_1691 this)) (by decide))
  have p26 : zPr 101 44 (zmk_22 M) (zmk_26 M) := p25.tr (zPr.al (t := 2) (n := 64) (by have := zmk_z25 M h; omega) (by have := zmk_z25 M h; (exact zo_1693 this)) (by decide))
  have p27 : zPr 101 44 (zmk_22 M) (zmk_27 M) := p26.tr (zPr.al (t := 1) (n := 128) (by have := zmk_z26 M h; omega) (by have := zmk_z26 M h; (exact zo_1695 this)) (by decide))
  have p28 : zPr 101 44 (zmk_22 M) (zmk_28 M) := p27.tr (zPr.al (t := 2) (n := 64) (by have := zmk_z27 M h; omega) (by have := zmk_z27 M h; (exact zo_1697 this)) (by decide))
  have p29 : zPr 101 44 (zmk_22 M) (zmk_29 M) := p28.tr (zPr.al (t := 2) (n := 64) (by have := zmk_z28 M h; omega) (by have := zmk_z28 M h; (exact zo_1699 this)) (by decide))
  have p30 : zPr 101 44 (zmk_22 M) (zmk_30 M) := p29.tr (zPr.al (t := 1) (n := 24) (by have := zmk_z29 M h; omega) (by have := zmk_z29 M h; (exact zo_1701 this)) (by decide))
  have p31 : zPr 101 44 (zmk_22 M) (zmk_31 M) := p30.tr (zPr.al (t := 1) (n := 65536) (by have := zmk_z30 M h; omega) (by have := zmk_z30 M h; (exact zo_1703 this)) (by decide))
  have p32 : zPr 101 44 (zmk_22 M) (zmk_32 M) := p31.tr (zPr.al (t := 2) (n := 768) (by have := zmk_z31 M h; omega) (by have := zmk_z31 M h; (exact zo_1705 this)) (by decide))
  have p33 : zPr 101 44 (zmk_22 M) (zmk_33 M) := p32.tr (zPr.al (t := 1) (n := 6) (by have := zmk_z32 M h; omega) (by have := zmk_z32 M h; (exact zo_1707 this)) (by decide))
  have p34 : zPr 101 44 (zmk_22 M) (zmk_34 M) := p33.tr (zPr.al (t := 1) (n := 7) (by have := zmk_z33 M h; omega) (by have := zmk_z33 M h; (exact zo_1709 this)) (by decide))
  have p35 : zPr 101 44 (zmk_22 M) (zmk_35 M) := p34.tr (zPr.i (by decide))
  exact ⟨p35.2.1.trans b1, p35.1.trans b2, p35.2.2.1.trans b3.1, p35.2.2.2.trans b3.2⟩
theorem zmk_a102 (M : zMem) (h : zn M = 82) : zf (zmk M) 81 45 = some 102 ∧ zsh (zmk M) 102 = (2, 512) ∧ zi (zmk M) 102 = (fun _ => 0) ∧ zj (zmk M) 102 = (fun _ => 0) := by
  have hz : zn (zmk_22 M) = 102 := (zmk_z22 M h)
  have b1 : zf (zmk_23 M) 81 45 = some (zn (zmk_22 M)) := zsF_s (zal (zmk_22 M) 2 512) 81 45 (some (zn (zmk_22 M)))
  have b2 : zsh (zmk_23 M) (zn (zmk_22 M)) = (2, 512) := zal_sh (M := (zmk_22 M)) (t := 2) (n := 512)
  have b3 : zi (zmk_23 M) (zn (zmk_22 M)) = (fun _ => 0) ∧ zj (zmk_23 M) (zn (zmk_22 M)) = (fun _ => 0) := zal_new (M := (zmk_22 M)) (t := 2) (n := 512)
  rw [hz] at b1 b2 b3
  have p24 : zPr 102 45 (zmk_23 M) (zmk_24 M) := zPr.al (t := 2) (n := 8) (by have := zmk_z23 M h; omega) (by have := zmk_z23 M h; (exact zo_1689 this)) (by decide)
  have p25 : zPr 102 45 (zmk_23 M) (zmk_25 M) := p24.tr (zPr.al (t := 2) (n := 512) (by have := zmk_z24 M h; omega) (by have := zmk_z24 M h; (exact zo_1691 this)) (by decide))
  have p26 : zPr 102 45 (zmk_23 M) (zmk_26 M) := p25.tr (zPr.al (t := 2) (n := 64) (by have := zmk_z25 M h; omega) (by have := zmk_z25 M h; (exact zo_1693 this)) (by decide))
  have p27 : zPr 102 45 (zmk_23 M) (zmk_27 M) := p26.tr (zPr.al (t := 1) (n := 128) (by have := zmk_z26 M h; omega) (by have := zmk_z26 M h; (exact zo_1695 this)) (by decide))
  have p28 : zPr 102 45 (zmk_23 M) (zmk_28 M) := p27.tr (zPr.al (t := 2) (n := 64) (by have := zmk_z27 M h; omega) (by have := zmk_z27 M h; (exact zo_1697 this)) (by decide))
  have p29 : zPr 102 45 (zmk_23 M) (zmk_29 M) := p28.tr (zPr.al (t := 2) (n := 64) (by have := zmk_z28 M h; omega) (by have := zmk_z28 M h; (exact zo_1699 this)) (by decide))
  have p30 : zPr 102 45 (zmk_23 M) (zmk_30 M) := p29.tr (zPr.al (t := 1) (n := 24) (by have := zmk_z29 M h; omega) (by have := zmk_z29 M h; (exact zo_1701 this)) (by decide))
  have p31 : zPr 102 45 (zmk_23 M) (zmk_31 M) := p30.tr (zPr.al (t := 1) (n := 65536) (by have := zmk_z30 M h; omega) (by have := zmk_z30 M h; (exact zo_1703 this)) (by decide))
  have p32 : zPr 102 45 (zmk_23 M) (zmk_32 M) := p31.tr (zPr.al (t := 2) (n := 768) (by have := zmk_z31 M h; omega) (by have := zmk_z31 M h; (exact zo_1705 this)) (by decide))
  have p33 : zPr 102 45 (zmk_23 M) (zmk_33 M) := p32.tr (zPr.al (t := 1) (n := 6) (by have := zmk_z32 M h; omega) (by have := zmk_z32 M h; (exact zo_1707 this)) (by decide))
  have p34 : zPr 102 45 (zmk_23 M) (zmk_34 M) := p33.tr (zPr.al (t := 1) (n := 7) (by have := zmk_z33 M h; omega) (by have := zmk_z33 M h; (exact zo_1709 this)) (by decide))
  have p35 : zPr 102 45 (zmk_23 M) (zmk_35 M) := p34.tr (zPr.i (by decide))
  exact ⟨p35.2.1.trans b1, p35.1.trans b2, p35.2.2.1.trans b3.1, p35.2.2.2.trans b3.2⟩
theorem zmk_a103 (M : zMem) (h : zn M = 82) : zf (zmk M) 81 46 = some 103 ∧ zsh (zmk M) 103 = (2, 8) ∧ zi (zmk M) 103 = (fun _ => 0) ∧ zj (zmk M) 103 = (fun _ => 0) := by
  have hz : zn (zmk_23 M) = 103 := (zmk_z23 M h)
  have b1 : zf (zmk_24 M) 81 46 = some (zn (zmk_23 M)) := zsF_s (zal (zmk_23 M) 2 8) 81 46 (some (zn (zmk_23 M)))
  have b2 : zsh (zmk_24 M) (zn (zmk_23 M)) = (2, 8) := zal_sh (M := (zmk_23 M)) (t := 2) (n := 8)
  have b3 : zi (zmk_24 M) (zn (zmk_23 M)) = (fun _ => 0) ∧ zj (zmk_24 M) (zn (zmk_23 M)) = (fun _ => 0) := zal_new (M := (zmk_23 M)) (t := 2) (n := 8)
  rw [hz] at b1 b2 b3
  have p25 : zPr 103 46 (zmk_24 M) (zmk_25 M) := zPr.al (t := 2) (n := 512) (by have := zmk_z24 M h; omega) (by have := zmk_z24 M h; (exact zo_1691 this)) (by decide)
  have p26 : zPr 103 46 (zmk_24 M) (zmk_26 M) := p25.tr (zPr.al (t := 2) (n := 64) (by have := zmk_z25 M h; omega) (by have := zmk_z25 M h; (exact zo_1693 this)) (by decide))
  have p27 : zPr 103 46 (zmk_24 M) (zmk_27 M) := p26.tr (zPr.al (t := 1) (n := 128) (by have := zmk_z26 M h; omega) (by have := zmk_z26 M h; (exact zo_1695 this)) (by decide))
  have p28 : zPr 103 46 (zmk_24 M) (zmk_28 M) := p27.tr (zPr.al (t := 2) (n := 64) (by have := zmk_z27 M h; omega) (by have := zmk_z27 M h; (exact zo_1697 this)) (by decide))
  have p29 : zPr 103 46 (zmk_24 M) (zmk_29 M) := p28.tr (zPr.al (t := 2) (n := 64) (by have := zmk_z28 M h; omega) (by have := zmk_z28 M h; (exact zo_1699 this)) (by decide))
  have p30 : zPr 103 46 (zmk_24 M) (zmk_30 M) := p29.tr (zPr.al (t := 1) (n := 24) (by have := zmk_z29 M h; omega) (by have := zmk_z29 M h; (exact zo_1701 this)) (by decide))
  have p31 : zPr 103 46 (zmk_24 M) (zmk_31 M) := p30.tr (zPr.al (t := 1) (n := 65536) (by have := zmk_z30 M h; omega) (by have := zmk_z30 M h; (exact zo_1703 this)) (by decide))
  have p32 : zPr 103 46 (zmk_24 M) (zmk_32 M) := p31.tr (zPr.al (t := 2) (n := 768) (by have := zmk_z31 M h; omega) (by have := zmk_z31 M h; (exact zo_1705 this)) (by decide))
  have p33 : zPr 103 46 (zmk_24 M) (zmk_33 M) := p32.tr (zPr.al (t := 1) (n := 6) (by have := zmk_z32 M h; omega) (by have := zmk_z32 M h; (exact zo_1707 this)) (by decide))
  have p34 : zPr 103 46 (zmk_24 M) (zmk_34 M) := p33.tr (zPr.al (t := 1) (n := 7) (by have := zmk_z33 M h; omega) (by have := zmk_z33 M h; (exact zo_1709 this)) (by decide))
  have p35 : zPr 103 46 (zmk_24 M) (zmk_35 M) := p34.tr (zPr.i (by decide))
  exact ⟨p35.2.1.trans b1, p35.1.trans b2, p35.2.2.1.trans b3.1, p35.2.2.2.trans b3.2⟩
theorem zmk_a104 (M : zMem) (h : zn M = 82) : zf (zmk M) 81 47 = some 104 ∧ zsh (zmk M) 104 = (2, 512) ∧ zi (zmk M) 104 = (fun _ => 0) ∧ zj (zmk M) 104 = (fun _ => 0) := by
  have hz : zn (zmk_24 M) = 104 := (zmk_z24 M h)
  have b1 : zf (zmk_25 M) 81 47 = some (zn (zmk_24 M)) := zsF_s (zal (zmk_24 M) 2 512) 81 47 (some (zn (zmk_24 M)))
  have b2 : zsh (zmk_25 M) (zn (zmk_24 M)) = (2, 512) := zal_sh (M := (zmk_24 M)) (t := 2) (n := 512)
  have b3 : zi (zmk_25 M) (zn (zmk_24 M)) = (fun _ => 0) ∧ zj (zmk_25 M) (zn (zmk_24 M)) = (fun _ => 0) := zal_new (M := (zmk_24 M)) (t := 2) (n := 512)
  rw [hz] at b1 b2 b3
  have p26 : zPr 104 47 (zmk_25 M) (zmk_26 M) := zPr.al (t := 2) (n := 64) (by have := zmk_z25 M h; omega) (by have := zmk_z25 M h; (exact zo_1693 this)) (by decide)
  have p27 : zPr 104 47 (zmk_25 M) (zmk_27 M) := p26.tr (zPr.al (t := 1) (n := 128) (by have := zmk_z26 M h; omega) (by have := zmk_z26 M h; (exact zo_1695 this)) (by decide))
  have p28 : zPr 104 47 (zmk_25 M) (zmk_28 M) := p27.tr (zPr.al (t := 2) (n := 64) (by have := zmk_z27 M h; omega) (by have := zmk_z27 M h; (exact zo_1697 this)) (by decide))
  have p29 : zPr 104 47 (zmk_25 M) (zmk_29 M) := p28.tr (zPr.al (t := 2) (n := 64) (by have := zmk_z28 M h; omega) (by have := zmk_z28 M h; (exact zo_1699 this)) (by decide))
  have p30 : zPr 104 47 (zmk_25 M) (zmk_30 M) := p29.tr (zPr.al (t := 1) (n := 24) (by have := zmk_z29 M h; omega) (by have := zmk_z29 M h; (exact zo_1701 this)) (by decide))
  have p31 : zPr 104 47 (zmk_25 M) (zmk_31 M) := p30.tr (zPr.al (t := 1) (n := 65536) (by have := zmk_z30 M h; omega) (by have := zmk_z30 M h; (exact zo_1703 this)) (by decide))
  have p32 : zPr 104 47 (zmk_25 M) (zmk_32 M) := p31.tr (zPr.al (t := 2) (n := 768) (by have := zmk_z31 M h; omega) (by have := zmk_z31 M h; (exact zo_1705 this)) (by decide))
  have p33 : zPr 104 47 (zmk_25 M) (zmk_33 M) := p32.tr (zPr.al (t := 1) (n := 6) (by have := zmk_z32 M h; omega) (by have := zmk_z32 M h; (exact zo_1707 this)) (by decide))
  have p34 : zPr 104 47 (zmk_25 M) (zmk_34 M) := p33.tr (zPr.al (t := 1) (n := 7) (by have := zmk_z33 M h; omega) (by have := zmk_z33 M h; (exact zo_1709 this)) (by decide))
  have p35 : zPr 104 47 (zmk_25 M) (zmk_35 M) := p34.tr (zPr.i (by decide))
  exact ⟨p35.2.1.trans b1, p35.1.trans b2, p35.2.2.1.trans b3.1, p35.2.2.2.trans b3.2⟩
theorem zmk_a105 (M : zMem) (h : zn M = 82) : zf (zmk M) 81 48 = some 105 ∧ zsh (zmk M) 105 = (2, 64) ∧ zi (zmk M) 105 = (fun _ => 0) ∧ zj (zmk M) 105 = (fun _ => 0) := by
  have hz : zn (zmk_25 M) = 105 := (zmk_z25 M h)
  have b1 : zf (zmk_26 M) 81 48 = some (zn (zmk_25 M)) := zsF_s (zal (zmk_25 M) 2 64) 81 48 (some (zn (zmk_25 M)))
  have b2 : zsh (zmk_26 M) (zn (zmk_25 M)) = (2, 64) := zal_sh (M := (zmk_25 M)) (t := 2) (n := 64)
  have b3 : zi (zmk_26 M) (zn (zmk_25 M)) = (fun _ => 0) ∧ zj (zmk_26 M) (zn (zmk_25 M)) = (fun _ => 0) := zal_new (M := (zmk_25 M)) (t := 2) (n := 64)
  rw [hz] at b1 b2 b3
  have p27 : zPr 105 48 (zmk_26 M) (zmk_27 M) := zPr.al (t := 1) (n := 128) (by have := zmk_z26 M h; omega) (by have := zmk_z26 M h; (exact zo_1695 this)) (by decide)
  have p28 : zPr 105 48 (zmk_26 M) (zmk_28 M) := p27.tr (zPr.al (t := 2) (n := 64) (by have := zmk_z27 M h; omega) (by have := zmk_z27 M h; (exact zo_1697 this)) (by decide))
  have p29 : zPr 105 48 (zmk_26 M) (zmk_29 M) := p28.tr (zPr.al (t := 2) (n := 64) (by have := zmk_z28 M h; omega) (by have := zmk_z28 M h; (exact zo_1699 this)) (by decide))
  have p30 : zPr 105 48 (zmk_26 M) (zmk_30 M) := p29.tr (zPr.al (t := 1) (n := 24) (by have := zmk_z29 M h; omega) (by have := zmk_z29 M h; (exact zo_1701 this)) (by decide))
  have p31 : zPr 105 48 (zmk_26 M) (zmk_31 M) := p30.tr (zPr.al (t := 1) (n := 65536) (by have := zmk_z30 M h; omega) (by have := zmk_z30 M h; (exact zo_1703 this)) (by decide))
  have p32 : zPr 105 48 (zmk_26 M) (zmk_32 M) := p31.tr (zPr.al (t := 2) (n := 768) (by have := zmk_z31 M h; omega) (by have := zmk_z31 M h; (exact zo_1705 this)) (by decide))
  have p33 : zPr 105 48 (zmk_26 M) (zmk_33 M) := p32.tr (zPr.al (t := 1) (n := 6) (by have := zmk_z32 M h; omega) (by have := zmk_z32 M h; (exact zo_1707 this)) (by decide))
  have p34 : zPr 105 48 (zmk_26 M) (zmk_34 M) := p33.tr (zPr.al (t := 1) (n := 7) (by have := zmk_z33 M h; omega) (by have := zmk_z33 M h; (exact zo_1709 this)) (by decide))
  have p35 : zPr 105 48 (zmk_26 M) (zmk_35 M) := p34.tr (zPr.i (by decide))
  exact ⟨p35.2.1.trans b1, p35.1.trans b2, p35.2.2.1.trans b3.1, p35.2.2.2.trans b3.2⟩
theorem zmk_a106 (M : zMem) (h : zn M = 82) : zf (zmk M) 81 49 = some 106 ∧ zsh (zmk M) 106 = (1, 128) ∧ zi (zmk M) 106 = (fun _ => 0) ∧ zj (zmk M) 106 = (fun _ => 0) := by
  have hz : zn (zmk_26 M) = 106 := (zmk_z26 M h)
  have b1 : zf (zmk_27 M) 81 49 = some (zn (zmk_26 M)) := zsF_s (zal (zmk_26 M) 1 128) 81 49 (some (zn (zmk_26 M)))
  have b2 : zsh (zmk_27 M) (zn (zmk_26 M)) = (1, 128) := zal_sh (M := (zmk_26 M)) (t := 1) (n := 128)
  have b3 : zi (zmk_27 M) (zn (zmk_26 M)) = (fun _ => 0) ∧ zj (zmk_27 M) (zn (zmk_26 M)) = (fun _ => 0) := zal_new (M := (zmk_26 M)) (t := 1) (n := 128)
  rw [hz] at b1 b2 b3
  have p28 : zPr 106 49 (zmk_27 M) (zmk_28 M) := zPr.al (t := 2) (n := 64) (by have := zmk_z27 M h; omega) (by have := zmk_z27 M h; (exact zo_1697 this)) (by decide)
  have p29 : zPr 106 49 (zmk_27 M) (zmk_29 M) := p28.tr (zPr.al (t := 2) (n := 64) (by have := zmk_z28 M h; omega) (by have := zmk_z28 M h; (exact zo_1699 this)) (by decide))
  have p30 : zPr 106 49 (zmk_27 M) (zmk_30 M) := p29.tr (zPr.al (t := 1) (n := 24) (by have := zmk_z29 M h; omega) (by have := zmk_z29 M h; (exact zo_1701 this)) (by decide))
  have p31 : zPr 106 49 (zmk_27 M) (zmk_31 M) := p30.tr (zPr.al (t := 1) (n := 65536) (by have := zmk_z30 M h; omega) (by have := zmk_z30 M h; (exact zo_1703 this)) (by decide))
  have p32 : zPr 106 49 (zmk_27 M) (zmk_32 M) := p31.tr (zPr.al (t := 2) (n := 768) (by have := zmk_z31 M h; omega) (by have := zmk_z31 M h; (exact zo_1705 this)) (by decide))
  have p33 : zPr 106 49 (zmk_27 M) (zmk_33 M) := p32.tr (zPr.al (t := 1) (n := 6) (by have := zmk_z32 M h; omega) (by have := zmk_z32 M h; (exact zo_1707 this)) (by decide))
  have p34 : zPr 106 49 (zmk_27 M) (zmk_34 M) := p33.tr (zPr.al (t := 1) (n := 7) (by have := zmk_z33 M h; omega) (by have := zmk_z33 M h; (exact zo_1709 this)) (by decide))
  have p35 : zPr 106 49 (zmk_27 M) (zmk_35 M) := p34.tr (zPr.i (by decide))
  exact ⟨p35.2.1.trans b1, p35.1.trans b2, p35.2.2.1.trans b3.1, p35.2.2.2.trans b3.2⟩
theorem zmk_a107 (M : zMem) (h : zn M = 82) : zf (zmk M) 81 50 = some 107 ∧ zsh (zmk M) 107 = (2, 64) ∧ zi (zmk M) 107 = (fun _ => 0) ∧ zj (zmk M) 107 = (fun _ => 0) := by
  have hz : zn (zmk_27 M) = 107 := (zmk_z27 M h)
  have b1 : zf (zmk_28 M) 81 50 = some (zn (zmk_27 M)) := zsF_s (zal (zmk_27 M) 2 64) 81 50 (some (zn (zmk_27 M)))
  have b2 : zsh (zmk_28 M) (zn (zmk_27 M)) = (2, 64) := zal_sh (M := (zmk_27 M)) (t := 2) (n := 64)
  have b3 : zi (zmk_28 M) (zn (zmk_27 M)) = (fun _ => 0) ∧ zj (zmk_28 M) (zn (zmk_27 M)) = (fun _ => 0) := zal_new (M := (zmk_27 M)) (t := 2) (n := 64)
  rw [hz] at b1 b2 b3
  have p29 : zPr 107 50 (zmk_28 M) (zmk_29 M) := zPr.al (t := 2) (n := 64) (by have := zmk_z28 M h; omega) (by have := zmk_z28 M h; (exact zo_1699 this)) (by decide)
  have p30 : zPr 107 50 (zmk_28 M) (zmk_30 M) := p29.tr (zPr.al (t := 1) (n := 24) (by have := zmk_z29 M h; omega) (by have := zmk_z29 M h; (exact zo_1701 this)) (by decide))
  have p31 : zPr 107 50 (zmk_28 M) (zmk_31 M) := p30.tr (zPr.al (t := 1) (n := 65536) (by have := zmk_z30 M h; omega) (by have := zmk_z30 M h; (exact zo_1703 this)) (by decide))
  have p32 : zPr 107 50 (zmk_28 M) (zmk_32 M) := p31.tr (zPr.al (t := 2) (n := 768) (by have := zmk_z31 M h; omega) (by have := zmk_z31 M h; (exact zo_1705 this)) (by decide))
  have p33 : zPr 107 50 (zmk_28 M) (zmk_33 M) := p32.tr (zPr.al (t := 1) (n := 6) (by have := zmk_z32 M h; omega) (by have := zmk_z32 M h; (exact zo_1707 this)) (by decide))
  have p34 : zPr 107 50 (zmk_28 M) (zmk_34 M) := p33.tr (zPr.al (t := 1) (n := 7) (by have := zmk_z33 M h; omega) (by have := zmk_z33 M h; (exact zo_1709 this)) (by decide))
  have p35 : zPr 107 50 (zmk_28 M) (zmk_35 M) := p34.tr (zPr.i (by decide))
  exact ⟨p35.2.1.trans b1, p35.1.trans b2, p35.2.2.1.trans b3.1, p35.2.2.2.trans b3.2⟩
theorem zmk_a108 (M : zMem) (h : zn M = 82) : zf (zmk M) 81 51 = some 108 ∧ zsh (zmk M) 108 = (2, 64) ∧ zi (zmk M) 108 = (fun _ => 0) ∧ zj (zmk M) 108 = (fun _ => 0) := by
  have hz : zn (zmk_28 M) = 108 := (zmk_z28 M h)
  have b1 : zf (zmk_29 M) 81 51 = some (zn (zmk_28 M)) := zsF_s (zal (zmk_28 M) 2 64) 81 51 (some (zn (zmk_28 M)))
  have b2 : zsh (zmk_29 M) (zn (zmk_28 M)) = (2, 64) := zal_sh (M := (zmk_28 M)) (t := 2) (n := 64)
  have b3 : zi (zmk_29 M) (zn (zmk_28 M)) = (fun _ => 0) ∧ zj (zmk_29 M) (zn (zmk_28 M)) = (fun _ => 0) := zal_new (M := (zmk_28 M)) (t := 2) (n := 64)
  rw [hz] at b1 b2 b3
  have p30 : zPr 108 51 (zmk_29 M) (zmk_30 M) := zPr.al (t := 1) (n := 24) (by have := zmk_z29 M h; omega) (by have := zmk_z29 M h; (exact zo_1701 this)) (by decide)
  have p31 : zPr 108 51 (zmk_29 M) (zmk_31 M) := p30.tr (zPr.al (t := 1) (n := 65536) (by have := zmk_z30 M h; omega) (by have := zmk_z30 M h; (exact zo_1703 this)) (by decide))
  have p32 : zPr 108 51 (zmk_29 M) (zmk_32 M) := p31.tr (zPr.al (t := 2) (n := 768) (by have := zmk_z31 M h; omega) (by have := zmk_z31 M h; (exact zo_1705 this)) (by decide))
  have p33 : zPr 108 51 (zmk_29 M) (zmk_33 M) := p32.tr (zPr.al (t := 1) (n := 6) (by have := zmk_z32 M h; omega) (by have := zmk_z32 M h; (exact zo_1707 this)) (by decide))
  have p34 : zPr 108 51 (zmk_29 M) (zmk_34 M) := p33.tr (zPr.al (t := 1) (n := 7) (by have := zmk_z33 M h; omega) (by have := zmk_z33 M h; (exact zo_1709 this)) (by decide))
  have p35 : zPr 108 51 (zmk_29 M) (zmk_35 M) := p34.tr (zPr.i (by decide))
  exact ⟨p35.2.1.trans b1, p35.1.trans b2, p35.2.2.1.trans b3.1, p35.2.2.2.trans b3.2⟩
theorem zmk_a109 (M : zMem) (h : zn M = 82) : zf (zmk M) 81 54 = some 109 ∧ zsh (zmk M) 109 = (1, 24) ∧ zi (zmk M) 109 = (fun _ => 0) ∧ zj (zmk M) 109 = (fun _ => 0) := by
  have hz : zn (zmk_29 M) = 109 := (zmk_z29 M h)
  have b1 : zf (zmk_30 M) 81 54 = some (zn (zmk_29 M)) := zsF_s (zal (zmk_29 M) 1 24) 81 54 (some (zn (zmk_29 M)))
  have b2 : zsh (zmk_30 M) (zn (zmk_29 M)) = (1, 24) := zal_sh (M := (zmk_29 M)) (t := 1) (n := 24)
  have b3 : zi (zmk_30 M) (zn (zmk_29 M)) = (fun _ => 0) ∧ zj (zmk_30 M) (zn (zmk_29 M)) = (fun _ => 0) := zal_new (M := (zmk_29 M)) (t := 1) (n := 24)
  rw [hz] at b1 b2 b3
  have p31 : zPr 109 54 (zmk_30 M) (zmk_31 M) := zPr.al (t := 1) (n := 65536) (by have := zmk_z30 M h; omega) (by have := zmk_z30 M h; (exact zo_1703 this)) (by decide)
  have p32 : zPr 109 54 (zmk_30 M) (zmk_32 M) := p31.tr (zPr.al (t := 2) (n := 768) (by have := zmk_z31 M h; omega) (by have := zmk_z31 M h; (exact zo_1705 this)) (by decide))
  have p33 : zPr 109 54 (zmk_30 M) (zmk_33 M) := p32.tr (zPr.al (t := 1) (n := 6) (by have := zmk_z32 M h; omega) (by have := zmk_z32 M h; (exact zo_1707 this)) (by decide))
  have p34 : zPr 109 54 (zmk_30 M) (zmk_34 M) := p33.tr (zPr.al (t := 1) (n := 7) (by have := zmk_z33 M h; omega) (by have := zmk_z33 M h; (exact zo_1709 this)) (by decide))
  have p35 : zPr 109 54 (zmk_30 M) (zmk_35 M) := p34.tr (zPr.i (by decide))
  exact ⟨p35.2.1.trans b1, p35.1.trans b2, p35.2.2.1.trans b3.1, p35.2.2.2.trans b3.2⟩
theorem zmk_a110 (M : zMem) (h : zn M = 82) : zf (zmk M) 81 56 = some 110 ∧ zsh (zmk M) 110 = (1, 65536) ∧ zi (zmk M) 110 = (fun _ => 0) ∧ zj (zmk M) 110 = (fun _ => 0) := by
  have hz : zn (zmk_30 M) = 110 := (zmk_z30 M h)
  have b1 : zf (zmk_31 M) 81 56 = some (zn (zmk_30 M)) := zsF_s (zal (zmk_30 M) 1 65536) 81 56 (some (zn (zmk_30 M)))
  have b2 : zsh (zmk_31 M) (zn (zmk_30 M)) = (1, 65536) := zal_sh (M := (zmk_30 M)) (t := 1) (n := 65536)
  have b3 : zi (zmk_31 M) (zn (zmk_30 M)) = (fun _ => 0) ∧ zj (zmk_31 M) (zn (zmk_30 M)) = (fun _ => 0) := zal_new (M := (zmk_30 M)) (t := 1) (n := 65536)
  rw [hz] at b1 b2 b3
  have p32 : zPr 110 56 (zmk_31 M) (zmk_32 M) := zPr.al (t := 2) (n := 768) (by have := zmk_z31 M h; omega) (by have := zmk_z31 M h; (exact zo_1705 this)) (by decide)
  have p33 : zPr 110 56 (zmk_31 M) (zmk_33 M) := p32.tr (zPr.al (t := 1) (n := 6) (by have := zmk_z32 M h; omega) (by have := zmk_z32 M h; (exact zo_1707 this)) (by decide))
  have p34 : zPr 110 56 (zmk_31 M) (zmk_34 M) := p33.tr (zPr.al (t := 1) (n := 7) (by have := zmk_z33 M h; omega) (by have := zmk_z33 M h; (exact zo_1709 this)) (by decide))
  have p35 : zPr 110 56 (zmk_31 M) (zmk_35 M) := p34.tr (zPr.i (by decide))
  exact ⟨p35.2.1.trans b1, p35.1.trans b2, p35.2.2.1.trans b3.1, p35.2.2.2.trans b3.2⟩
theorem zmk_a111 (M : zMem) (h : zn M = 82) : zf (zmk M) 81 59 = some 111 ∧ zsh (zmk M) 111 = (2, 768) ∧ zi (zmk M) 111 = (fun _ => 0) ∧ zj (zmk M) 111 = (fun _ => 0) := by
  have hz : zn (zmk_31 M) = 111 := (zmk_z31 M h)
  have b1 : zf (zmk_32 M) 81 59 = some (zn (zmk_31 M)) := zsF_s (zal (zmk_31 M) 2 768) 81 59 (some (zn (zmk_31 M)))
  have b2 : zsh (zmk_32 M) (zn (zmk_31 M)) = (2, 768) := zal_sh (M := (zmk_31 M)) (t := 2) (n := 768)
  have b3 : zi (zmk_32 M) (zn (zmk_31 M)) = (fun _ => 0) ∧ zj (zmk_32 M) (zn (zmk_31 M)) = (fun _ => 0) := zal_new (M := (zmk_31 M)) (t := 2) (n := 768)
  rw [hz] at b1 b2 b3
  have p33 : zPr 111 59 (zmk_32 M) (zmk_33 M) := zPr.al (t := 1) (n := 6) (by have := zmk_z32 M h; omega) (by have := zmk_z32 M h; (exact zo_1707 this)) (by decide)
  have p34 : zPr 111 59 (zmk_32 M) (zmk_34 M) := p33.tr (zPr.al (t := 1) (n := 7) (by have := zmk_z33 M h; omega) (by have := zmk_z33 M h; (exact zo_1709 this)) (by decide))
  have p35 : zPr 111 59 (zmk_32 M) (zmk_35 M) := p34.tr (zPr.i (by decide))
  exact ⟨p35.2.1.trans b1, p35.1.trans b2, p35.2.2.1.trans b3.1, p35.2.2.2.trans b3.2⟩
theorem zmk_a112 (M : zMem) (h : zn M = 82) : zf (zmk M) 81 61 = some 112 ∧ zsh (zmk M) 112 = (1, 6) ∧ zi (zmk M) 112 = (fun _ => 0) ∧ zj (zmk M) 112 = (fun _ => 0) := by
  have hz : zn (zmk_32 M) = 112 := (zmk_z32 M h)
  have b1 : zf (zmk_33 M) 81 61 = some (zn (zmk_32 M)) := zsF_s (zal (zmk_32 M) 1 6) 81 61 (some (zn (zmk_32 M)))
  have b2 : zsh (zmk_33 M) (zn (zmk_32 M)) = (1, 6) := zal_sh (M := (zmk_32 M)) (t := 1) (n := 6)
  have b3 : zi (zmk_33 M) (zn (zmk_32 M)) = (fun _ => 0) ∧ zj (zmk_33 M) (zn (zmk_32 M)) = (fun _ => 0) := zal_new (M := (zmk_32 M)) (t := 1) (n := 6)
  rw [hz] at b1 b2 b3
  have p34 : zPr 112 61 (zmk_33 M) (zmk_34 M) := zPr.al (t := 1) (n := 7) (by have := zmk_z33 M h; omega) (by have := zmk_z33 M h; (exact zo_1709 this)) (by decide)
  have p35 : zPr 112 61 (zmk_33 M) (zmk_35 M) := p34.tr (zPr.i (by decide))
  exact ⟨p35.2.1.trans b1, p35.1.trans b2, p35.2.2.1.trans b3.1, p35.2.2.2.trans b3.2⟩
theorem zmk_a113 (M : zMem) (h : zn M = 82) : zf (zmk M) 81 62 = some 113 ∧ zsh (zmk M) 113 = (1, 7) ∧ zi (zmk M) 113 = (fun _ => 0) ∧ zj (zmk M) 113 = (fun _ => 0) := by
  have hz : zn (zmk_33 M) = 113 := (zmk_z33 M h)
  have b1 : zf (zmk_34 M) 81 62 = some (zn (zmk_33 M)) := zsF_s (zal (zmk_33 M) 1 7) 81 62 (some (zn (zmk_33 M)))
  have b2 : zsh (zmk_34 M) (zn (zmk_33 M)) = (1, 7) := zal_sh (M := (zmk_33 M)) (t := 1) (n := 7)
  have b3 : zi (zmk_34 M) (zn (zmk_33 M)) = (fun _ => 0) ∧ zj (zmk_34 M) (zn (zmk_33 M)) = (fun _ => 0) := zal_new (M := (zmk_33 M)) (t := 1) (n := 7)
  rw [hz] at b1 b2 b3
  have p35 : zPr 113 62 (zmk_34 M) (zmk_35 M) := zPr.i (by decide)
  exact ⟨p35.2.1.trans b1, p35.1.trans b2, p35.2.2.1.trans b3.1, p35.2.2.2.trans b3.2⟩
theorem zmk_o (M : zMem) (h : zn M = 82) : zsh (zmk M) 81 = zsh M 81 ∧ zj (zmk M) 81 = zj M 81 ∧ ∀ j, zi (zmk M) 81 j = if j = 12 then 1 else if j = 10 then -1 else if j = 8 then -1 else zi M 81 j := by
  have s1 : zsh (zmk_1 M) 81 = zsh M 81 ∧ zj (zmk_1 M) 81 = zj M 81 ∧ zi (zmk_1 M) 81 = zi M 81 := ⟨(zal_old (t := 1) (n := 700) (by have := h; (exact zo_329 h))).1, (zal_io (t := 1) (n := 700) (by have := h; (exact zo_329 h))).2, (zal_io (t := 1) (n := 700) (by have := h; (exact zo_329 h))).1⟩
  have s2 : zsh (zmk_2 M) 81 = zsh (zmk_1 M) 81 ∧ zj (zmk_2 M) 81 = zj (zmk_1 M) 81 ∧ ∀ j, zi (zmk_2 M) 81 j = if j = 8 then (-1) else zi (zmk_1 M) 81 j := ⟨rfl, rfl, fun j => by show (if 81 = 81 ∧ j = 8 then _ else _) = _; simp only [true_and]; rfl⟩
  have s3 : zsh (zmk_3 M) 81 = zsh (zmk_2 M) 81 ∧ zj (zmk_3 M) 81 = zj (zmk_2 M) 81 ∧ ∀ j, zi (zmk_3 M) 81 j = if j = 10 then (-1) else zi (zmk_2 M) 81 j := ⟨rfl, rfl, fun j => by show (if 81 = 81 ∧ j = 10 then _ else _) = _; simp only [true_and]; rfl⟩
  have s4 : zsh (zmk_4 M) 81 = zsh (zmk_3 M) 81 ∧ zj (zmk_4 M) 81 = zj (zmk_3 M) 81 ∧ zi (zmk_4 M) 81 = zi (zmk_3 M) 81 := ⟨(zal_old (t := 1) (n := 24) (by have := (zmk_z3 M h); (exact zo_1649 this))).1, (zal_io (t := 1) (n := 24) (by have := (zmk_z3 M h); (exact zo_1649 this))).2, (zal_io (t := 1) (n := 24) (by have := (zmk_z3 M h); (exact zo_1649 this))).1⟩
  have s5 : zsh (zmk_5 M) 81 = zsh (zmk_4 M) 81 ∧ zj (zmk_5 M) 81 = zj (zmk_4 M) 81 ∧ zi (zmk_5 M) 81 = zi (zmk_4 M) 81 := ⟨(zal_old (t := 1) (n := 24) (by have := (zmk_z4 M h); (exact zo_1651 this))).1, (zal_io (t := 1) (n := 24) (by have := (zmk_z4 M h); (exact zo_1651 this))).2, (zal_io (t := 1) (n := 24) (by have := (zmk_z4 M h); (exact zo_1651 this))).1⟩
  have s6 : zsh (zmk_6 M) 81 = zsh (zmk_5 M) 81 ∧ zj (zmk_6 M) 81 = zj (zmk_5 M) 81 ∧ zi (zmk_6 M) 81 = zi (zmk_5 M) 81 := ⟨(zal_old (t := 1) (n := 144) (by have := (zmk_z5 M h); (exact zo_1653 this))).1, (zal_io (t := 1) (n := 144) (by have := (zmk_z5 M h); (exact zo_1653 this))).2, (zal_io (t := 1) (n := 144) (by have := (zmk_z5 M h); (exact zo_1653 this))).1⟩
  have s7 : zsh (zmk_7 M) 81 = zsh (zmk_6 M) 81 ∧ zj (zmk_7 M) 81 = zj (zmk_6 M) 81 ∧ zi (zmk_7 M) 81 = zi (zmk_6 M) 81 := ⟨(zal_old (t := 1) (n := 6) (by have := (zmk_z6 M h); (exact zo_1655 this))).1, (zal_io (t := 1) (n := 6) (by have := (zmk_z6 M h); (exact zo_1655 this))).2, (zal_io (t := 1) (n := 6) (by have := (zmk_z6 M h); (exact zo_1655 this))).1⟩
  have s8 : zsh (zmk_8 M) 81 = zsh (zmk_7 M) 81 ∧ zj (zmk_8 M) 81 = zj (zmk_7 M) 81 ∧ zi (zmk_8 M) 81 = zi (zmk_7 M) 81 := ⟨(zal_old (t := 1) (n := 576) (by have := (zmk_z7 M h); (exact zo_1657 this))).1, (zal_io (t := 1) (n := 576) (by have := (zmk_z7 M h); (exact zo_1657 this))).2, (zal_io (t := 1) (n := 576) (by have := (zmk_z7 M h); (exact zo_1657 this))).1⟩
  have s9 : zsh (zmk_9 M) 81 = zsh (zmk_8 M) 81 ∧ zj (zmk_9 M) 81 = zj (zmk_8 M) 81 ∧ zi (zmk_9 M) 81 = zi (zmk_8 M) 81 := ⟨(zal_old (t := 1) (n := 24) (by have := (zmk_z8 M h); (exact zo_1659 this))).1, (zal_io (t := 1) (n := 24) (by have := (zmk_z8 M h); (exact zo_1659 this))).2, (zal_io (t := 1) (n := 24) (by have := (zmk_z8 M h); (exact zo_1659 this))).1⟩
  have s10 : zsh (zmk_10 M) 81 = zsh (zmk_9 M) 81 ∧ zj (zmk_10 M) 81 = zj (zmk_9 M) 81 ∧ zi (zmk_10 M) 81 = zi (zmk_9 M) 81 := ⟨(zal_old (t := 1) (n := 128) (by have := (zmk_z9 M h); (exact zo_1661 this))).1, (zal_io (t := 1) (n := 128) (by have := (zmk_z9 M h); (exact zo_1661 this))).2, (zal_io (t := 1) (n := 128) (by have := (zmk_z9 M h); (exact zo_1661 this))).1⟩
  have s11 : zsh (zmk_11 M) 81 = zsh (zmk_10 M) 81 ∧ zj (zmk_11 M) 81 = zj (zmk_10 M) 81 ∧ zi (zmk_11 M) 81 = zi (zmk_10 M) 81 := ⟨(zal_old (t := 1) (n := 128) (by have := (zmk_z10 M h); (exact zo_1663 this))).1, (zal_io (t := 1) (n := 128) (by have := (zmk_z10 M h); (exact zo_1663 this))).2, (zal_io (t := 1) (n := 128) (by have := (zmk_z10 M h); (exact zo_1663 this))).1⟩
  have s12 : zsh (zmk_12 M) 81 = zsh (zmk_11 M) 81 ∧ zj (zmk_12 M) 81 = zj (zmk_11 M) 81 ∧ zi (zmk_12 M) 81 = zi (zmk_11 M) 81 := ⟨(zal_old (t := 1) (n := 64) (by have := (zmk_z11 M h); (exact zo_1665 this))).1, (zal_io (t := 1) (n := 64) (by have := (zmk_z11 M h); (exact zo_1665 this))).2, (zal_io (t := 1) (n := 64) (by have := (zmk_z11 M h); (exact zo_1665 this))).1⟩
  have s13 : zsh (zmk_13 M) 81 = zsh (zmk_12 M) 81 ∧ zj (zmk_13 M) 81 = zj (zmk_12 M) 81 ∧ zi (zmk_13 M) 81 = zi (zmk_12 M) 81 := ⟨(zal_old (t := 1) (n := 64) (by have := (zmk_z12 M h); (exact zo_1667 this))).1, (zal_io (t := 1) (n := 64) (by have := (zmk_z12 M h); (exact zo_1667 this))).2, (zal_io (t := 1) (n := 64) (by have := (zmk_z12 M h); (exact zo_1667 this))).1⟩
  have s14 : zsh (zmk_14 M) 81 = zsh (zmk_13 M) 81 ∧ zj (zmk_14 M) 81 = zj (zmk_13 M) 81 ∧ zi (zmk_14 M) 81 = zi (zmk_13 M) 81 := ⟨(zal_old (t := 1) (n := 4096) (by have := (zmk_z13 M h); (exact zo_1669 this))).1, (zal_io (t := 1) (n := 4096) (by have := (zmk_z13 M h); (exact zo_1669 this))).2, (zal_io (t := 1) (n := 4096) (by have := (zmk_z13 M h); (exact zo_1669 this))).1⟩
  have s15 : zsh (zmk_15 M) 81 = zsh (zmk_14 M) 81 ∧ zj (zmk_15 M) 81 = zj (zmk_14 M) 81 ∧ zi (zmk_15 M) 81 = zi (zmk_14 M) 81 := ⟨(zal_old (t := 1) (n := 1536) (by have := (zmk_z14 M h); (exact zo_1671 this))).1, (zal_io (t := 1) (n := 1536) (by have := (zmk_z14 M h); (exact zo_1671 this))).2, (zal_io (t := 1) (n := 1536) (by have := (zmk_z14 M h); (exact zo_1671 this))).1⟩
  have s16 : zsh (zmk_16 M) 81 = zsh (zmk_15 M) 81 ∧ zj (zmk_16 M) 81 = zj (zmk_15 M) 81 ∧ zi (zmk_16 M) 81 = zi (zmk_15 M) 81 := ⟨(zal_old (t := 2) (n := 2560) (by have := (zmk_z15 M h); (exact zo_1673 this))).1, (zal_io (t := 2) (n := 2560) (by have := (zmk_z15 M h); (exact zo_1673 this))).2, (zal_io (t := 2) (n := 2560) (by have := (zmk_z15 M h); (exact zo_1673 this))).1⟩
  have s17 : zsh (zmk_17 M) 81 = zsh (zmk_16 M) 81 ∧ zj (zmk_17 M) 81 = zj (zmk_16 M) 81 ∧ zi (zmk_17 M) 81 = zi (zmk_16 M) 81 := ⟨(zal_old (t := 2) (n := 64) (by have := (zmk_z16 M h); (exact zo_1675 this))).1, (zal_io (t := 2) (n := 64) (by have := (zmk_z16 M h); (exact zo_1675 this))).2, (zal_io (t := 2) (n := 64) (by have := (zmk_z16 M h); (exact zo_1675 this))).1⟩
  have s18 : zsh (zmk_18 M) 81 = zsh (zmk_17 M) 81 ∧ zj (zmk_18 M) 81 = zj (zmk_17 M) 81 ∧ zi (zmk_18 M) 81 = zi (zmk_17 M) 81 := ⟨(zal_old (t := 2) (n := 64) (by have := (zmk_z17 M h); (exact zo_1677 this))).1, (zal_io (t := 2) (n := 64) (by have := (zmk_z17 M h); (exact zo_1677 this))).2, (zal_io (t := 2) (n := 64) (by have := (zmk_z17 M h); (exact zo_1677 this))).1⟩
  have s19 : zsh (zmk_19 M) 81 = zsh (zmk_18 M) 81 ∧ zj (zmk_19 M) 81 = zj (zmk_18 M) 81 ∧ zi (zmk_19 M) 81 = zi (zmk_18 M) 81 := ⟨(zal_old (t := 2) (n := 64) (by have := (zmk_z18 M h); (exact zo_1679 this))).1, (zal_io (t := 2) (n := 64) (by have := (zmk_z18 M h); (exact zo_1679 this))).2, (zal_io (t := 2) (n := 64) (by have := (zmk_z18 M h); (exact zo_1679 this))).1⟩
  have s20 : zsh (zmk_20 M) 81 = zsh (zmk_19 M) 81 ∧ zj (zmk_20 M) 81 = zj (zmk_19 M) 81 ∧ zi (zmk_20 M) 81 = zi (zmk_19 M) 81 := ⟨(zal_old (t := 2) (n := 64) (by have := (zmk_z19 M h); (exact zo_1681 this))).1, (zal_io (t := 2) (n := 64) (by have := (zmk_z19 M h); (exact zo_1681 this))).2, (zal_io (t := 2) (n := 64) (by have := (zmk_z19 M h); (exact zo_1681 this))).1⟩
  have s21 : zsh (zmk_21 M) 81 = zsh (zmk_20 M) 81 ∧ zj (zmk_21 M) 81 = zj (zmk_20 M) 81 ∧ zi (zmk_21 M) 81 = zi (zmk_20 M) 81 := ⟨(zal_old (t := 1) (n := 80) (by have := (zmk_z20 M h); (exact zo_1683 this))).1, (zal_io (t := 1) (n := 80) (by have := (zmk_z20 M h); (exact zo_1683 this))).2, (zal_io (t := 1) (n := 80) (by have := (zmk_z20 M h); (exact zo_1683 this))).1⟩
  have s22 : zsh (zmk_22 M) 81 = zsh (zmk_21 M) 81 ∧ zj (zmk_22 M) 81 = zj (zmk_21 M) 81 ∧ zi (zmk_22 M) 81 = zi (zmk_21 M) 81 := ⟨(zal_old (t := 2) (n := 8) (by have := (zmk_z21 M h); (exact zo_1685 this))).1, (zal_io (t := 2) (n := 8) (by have := (zmk_z21 M h); (exact zo_1685 this))).2, (zal_io (t := 2) (n := 8) (by have := (zmk_z21 M h); (exact zo_1685 this))).1⟩
  have s23 : zsh (zmk_23 M) 81 = zsh (zmk_22 M) 81 ∧ zj (zmk_23 M) 81 = zj (zmk_22 M) 81 ∧ zi (zmk_23 M) 81 = zi (zmk_22 M) 81 := ⟨(zal_old (t := 2) (n := 512) (by have := (zmk_z22 M h); (exact zo_1687 this))).1, (zal_io (t := 2) (n := 512) (by have := (zmk_z22 M h); (exact zo_1687 this))).2, (zal_io (t := 2) (n := 512) (by have := (zmk_z22 M h); (exact zo_1687 this))).1⟩
  have s24 : zsh (zmk_24 M) 81 = zsh (zmk_23 M) 81 ∧ zj (zmk_24 M) 81 = zj (zmk_23 M) 81 ∧ zi (zmk_24 M) 81 = zi (zmk_23 M) 81 := ⟨(zal_old (t := 2) (n := 8) (by have := (zmk_z23 M h); (exact zo_1689 this))).1, (zal_io (t := 2) (n := 8) (by have := (zmk_z23 M h); (exact zo_1689 this))).2, (zal_io (t := 2) (n := 8) (by have := (zmk_z23 M h); (exact zo_1689 this))).1⟩
  have s25 : zsh (zmk_25 M) 81 = zsh (zmk_24 M) 81 ∧ zj (zmk_25 M) 81 = zj (zmk_24 M) 81 ∧ zi (zmk_25 M) 81 = zi (zmk_24 M) 81 := ⟨(zal_old (t := 2) (n := 512) (by have := (zmk_z24 M h); (exact zo_1691 this))).1, (zal_io (t := 2) (n := 512) (by have := (zmk_z24 M h); (exact zo_1691 this))).2, (zal_io (t := 2) (n := 512) (by have := (zmk_z24 M h); (exact zo_1691 this))).1⟩
  have s26 : zsh (zmk_26 M) 81 = zsh (zmk_25 M) 81 ∧ zj (zmk_26 M) 81 = zj (zmk_25 M) 81 ∧ zi (zmk_26 M) 81 = zi (zmk_25 M) 81 := ⟨(zal_old (t := 2) (n := 64) (by have := (zmk_z25 M h); (exact zo_1693 this))).1, (zal_io (t := 2) (n := 64) (by have := (zmk_z25 M h); (exact zo_1693 this))).2, (zal_io (t := 2) (n := 64) (by have := (zmk_z25 M h); (exact zo_1693 this))).1⟩
  have s27 : zsh (zmk_27 M) 81 = zsh (zmk_26 M) 81 ∧ zj (zmk_27 M) 81 = zj (zmk_26 M) 81 ∧ zi (zmk_27 M) 81 = zi (zmk_26 M) 81 := ⟨(zal_old (t := 1) (n := 128) (by have := (zmk_z26 M h); (exact zo_1695 this))).1, (zal_io (t := 1) (n := 128) (by have := (zmk_z26 M h); (exact zo_1695 this))).2, (zal_io (t := 1) (n := 128) (by have := (zmk_z26 M h); (exact zo_1695 this))).1⟩
  have s28 : zsh (zmk_28 M) 81 = zsh (zmk_27 M) 81 ∧ zj (zmk_28 M) 81 = zj (zmk_27 M) 81 ∧ zi (zmk_28 M) 81 = zi (zmk_27 M) 81 := ⟨(zal_old (t := 2) (n := 64) (by have := (zmk_z27 M h); (exact zo_1697 this))).1, (zal_io (t := 2) (n := 64) (by have := (zmk_z27 M h); (exact zo_1697 this))).2, (zal_io (t := 2) (n := 64) (by have := (zmk_z27 M h); (exact zo_1697 this))).1⟩
  have s29 : zsh (zmk_29 M) 81 = zsh (zmk_28 M) 81 ∧ zj (zmk_29 M) 81 = zj (zmk_28 M) 81 ∧ zi (zmk_29 M) 81 = zi (zmk_28 M) 81 := ⟨(zal_old (t := 2) (n := 64) (by have := (zmk_z28 M h); (exact zo_1699 this))).1, (zal_io (t := 2) (n := 64) (by have := (zmk_z28 M h); (exact zo_1699 this))).2, (zal_io (t := 2) (n := 64) (by have := (zmk_z28 M h); (exact zo_1699 this))).1⟩
  have s30 : zsh (zmk_30 M) 81 = zsh (zmk_29 M) 81 ∧ zj (zmk_30 M) 81 = zj (zmk_29 M) 81 ∧ zi (zmk_30 M) 81 = zi (zmk_29 M) 81 := ⟨(zal_old (t := 1) (n := 24) (by have := (zmk_z29 M h); (exact zo_1701 this))).1, (zal_io (t := 1) (n := 24) (by have := (zmk_z29 M h); (exact zo_1701 this))).2, (zal_io (t := 1) (n := 24) (by have := (zmk_z29 M h); (exact zo_1701 this))).1⟩
  have s31 : zsh (zmk_31 M) 81 = zsh (zmk_30 M) 81 ∧ zj (zmk_31 M) 81 = zj (zmk_30 M) 81 ∧ zi (zmk_31 M) 81 = zi (zmk_30 M) 81 := ⟨(zal_old (t := 1) (n := 65536) (by have := (zmk_z30 M h); (exact zo_1703 this))).1, (zal_io (t := 1) (n := 65536) (by have := (zmk_z30 M h); (exact zo_1703 this))).2, (zal_io (t := 1) (n := 65536) (by have := (zmk_z30 M h); (exact zo_1703 this))).1⟩
  have s32 : zsh (zmk_32 M) 81 = zsh (zmk_31 M) 81 ∧ zj (zmk_32 M) 81 = zj (zmk_31 M) 81 ∧ zi (zmk_32 M) 81 = zi (zmk_31 M) 81 := ⟨(zal_old (t := 2) (n := 768) (by have := (zmk_z31 M h); (exact zo_1705 this))).1, (zal_io (t := 2) (n := 768) (by have := (zmk_z31 M h); (exact zo_1705 this))).2, (zal_io (t := 2) (n := 768) (by have := (zmk_z31 M h); (exact zo_1705 this))).1⟩
  have s33 : zsh (zmk_33 M) 81 = zsh (zmk_32 M) 81 ∧ zj (zmk_33 M) 81 = zj (zmk_32 M) 81 ∧ zi (zmk_33 M) 81 = zi (zmk_32 M) 81 := ⟨(zal_old (t := 1) (n := 6) (by have := (zmk_z32 M h); (exact zo_1707 this))).1, (zal_io (t := 1) (n := 6) (by have := (zmk_z32 M h); (exact zo_1707 this))).2, (zal_io (t := 1) (n := 6) (by have := (zmk_z32 M h); (exact zo_1707 this))).1⟩
  have s34 : zsh (zmk_34 M) 81 = zsh (zmk_33 M) 81 ∧ zj (zmk_34 M) 81 = zj (zmk_33 M) 81 ∧ zi (zmk_34 M) 81 = zi (zmk_33 M) 81 := ⟨(zal_old (t := 1) (n := 7) (by have := (zmk_z33 M h); (exact zo_1709 this))).1, (zal_io (t := 1) (n := 7) (by have := (zmk_z33 M h); (exact zo_1709 this))).2, (zal_io (t := 1) (n := 7) (by have := (zmk_z33 M h); (exact zo_1709 this))).1⟩
  have s35 : zsh (zmk_35 M) 81 = zsh (zmk_34 M) 81 ∧ zj (zmk_35 M) 81 = zj (zmk_34 M) 81 ∧ ∀ j, zi (zmk_35 M) 81 j = if j = 12 then 1 else zi (zmk_34 M) 81 j := ⟨rfl, rfl, fun j => by show (if 81 = 81 ∧ j = 12 then _ else _) = _; simp only [true_and]; rfl⟩
  refine ⟨((((((((((((((((((((((((((((((((((s35.1).trans s34.1).trans s33.1).trans s32.1).trans s31.1).trans s30.1).trans s29.1).trans s28.1).trans s27.1).trans s26.1).trans s25.1).trans s24.1).trans s23.1).trans s22.1).trans s21.1).trans s20.1).trans s19.1).trans s18.1).trans s17.1).trans s16.1).trans s15.1).trans s14.1).trans s13.1).trans s12.1).trans s11.1).trans s10.1).trans s9.1).trans s8.1).trans s7.1).trans s6.1).trans s5.1).trans s4.1).trans s3.1).trans s2.1).trans s1.1, ((((((((((((((((((((((((((((((((((s35.2.1).trans s34.2.1).trans s33.2.1).trans s32.2.1).trans s31.2.1).trans s30.2.1).trans s29.2.1).trans s28.2.1).trans s27.2.1).trans s26.2.1).trans s25.2.1).trans s24.2.1).trans s23.2.1).trans s22.2.1).trans s21.2.1).trans s20.2.1).trans s19.2.1).trans s18.2.1).trans s17.2.1).trans s16.2.1).trans s15.2.1).trans s14.2.1).trans s13.2.1).trans s12.2.1).trans s11.2.1).trans s10.2.1).trans s9.2.1).trans s8.2.1).trans s7.2.1).trans s6.2.1).trans s5.2.1).trans s4.2.1).trans s3.2.1).trans s2.2.1).trans s1.2.1, fun j => ?_⟩
  show zi (zmk_35 M) 81 j = _
  rw [s35.2.2 j]
  rw [s34.2.2]
  rw [s33.2.2]
  rw [s32.2.2]
  rw [s31.2.2]
  rw [s30.2.2]
  rw [s29.2.2]
  rw [s28.2.2]
  rw [s27.2.2]
  rw [s26.2.2]
  rw [s25.2.2]
  rw [s24.2.2]
  rw [s23.2.2]
  rw [s22.2.2]
  rw [s21.2.2]
  rw [s20.2.2]
  rw [s19.2.2]
  rw [s18.2.2]
  rw [s17.2.2]
  rw [s16.2.2]
  rw [s15.2.2]
  rw [s14.2.2]
  rw [s13.2.2]
  rw [s12.2.2]
  rw [s11.2.2]
  rw [s10.2.2]
  rw [s9.2.2]
  rw [s8.2.2]
  rw [s7.2.2]
  rw [s6.2.2]
  rw [s5.2.2]
  rw [s4.2.2]
  rw [s3.2.2 j]
  rw [s2.2.2 j]
  rw [s1.2.2]
theorem zmk_t (M : zMem) (h : zn M = 82) (h2 : (zsh M 81).1 = 14) : zMt (zmk M) := by
  refine ⟨by have := (zmk_nw M).1; omega, by rw [(zmk_o M h).1]; exact h2, ?_⟩
  unfold zMtab
  refine List.forall_mem_cons.mpr ⟨⟨(zmk_a82 M h).1, (zmk_a82 M h).2.1⟩, List.forall_mem_cons.mpr ⟨⟨(zmk_a83 M h).1, (zmk_a83 M h).2.1⟩, List.forall_mem_cons.mpr ⟨⟨(zmk_a84 M h).1, (zmk_a84 M h).2.1⟩, List.forall_mem_cons.mpr ⟨⟨(zmk_a85 M h).1, (zmk_a85 M h).2.1⟩, List.forall_mem_cons.mpr ⟨⟨(zmk_a86 M h).1, (zmk_a86 M h).2.1⟩, List.forall_mem_cons.mpr ⟨⟨(zmk_a87 M h).1, (zmk_a87 M h).2.1⟩, List.forall_mem_cons.mpr ⟨⟨(zmk_a88 M h).1, (zmk_a88 M h).2.1⟩, List.forall_mem_cons.mpr ⟨⟨(zmk_a89 M h).1, (zmk_a89 M h).2.1⟩, List.forall_mem_cons.mpr ⟨⟨(zmk_a90 M h).1, (zmk_a90 M h).2.1⟩, List.forall_mem_cons.mpr ⟨⟨(zmk_a91 M h).1, (zmk_a91 M h).2.1⟩, List.forall_mem_cons.mpr ⟨⟨(zmk_a92 M h).1, (zmk_a92 M h).2.1⟩, List.forall_mem_cons.mpr ⟨⟨(zmk_a93 M h).1, (zmk_a93 M h).2.1⟩, List.forall_mem_cons.mpr ⟨⟨(zmk_a94 M h).1, (zmk_a94 M h).2.1⟩, List.forall_mem_cons.mpr ⟨⟨(zmk_a95 M h).1, (zmk_a95 M h).2.1⟩, List.forall_mem_cons.mpr ⟨⟨(zmk_a96 M h).1, (zmk_a96 M h).2.1⟩, List.forall_mem_cons.mpr ⟨⟨(zmk_a97 M h).1, (zmk_a97 M h).2.1⟩, List.forall_mem_cons.mpr ⟨⟨(zmk_a98 M h).1, (zmk_a98 M h).2.1⟩, List.forall_mem_cons.mpr ⟨⟨(zmk_a99 M h).1, (zmk_a99 M h).2.1⟩, List.forall_mem_cons.mpr ⟨⟨(zmk_a100 M h).1, (zmk_a100 M h).2.1⟩, List.forall_mem_cons.mpr ⟨⟨(zmk_a101 M h).1, (zmk_a101 M h).2.1⟩, List.forall_mem_cons.mpr ⟨⟨(zmk_a102 M h).1, (zmk_a102 M h).2.1⟩, List.forall_mem_cons.mpr ⟨⟨(zmk_a103 M h).1, (zmk_a103 M h).2.1⟩, List.forall_mem_cons.mpr ⟨⟨(zmk_a104 M h).1, (zmk_a104 M h).2.1⟩, List.forall_mem_cons.mpr ⟨⟨(zmk_a105 M h).1, (zmk_a105 M h).2.1⟩, List.forall_mem_cons.mpr ⟨⟨(zmk_a106 M h).1, (zmk_a106 M h).2.1⟩, List.forall_mem_cons.mpr ⟨⟨(zmk_a107 M h).1, (zmk_a107 M h).2.1⟩, List.forall_mem_cons.mpr ⟨⟨(zmk_a108 M h).1, (zmk_a108 M h).2.1⟩, List.forall_mem_cons.mpr ⟨⟨(zmk_a109 M h).1, (zmk_a109 M h).2.1⟩, List.forall_mem_cons.mpr ⟨⟨(zmk_a110 M h).1, (zmk_a110 M h).2.1⟩, List.forall_mem_cons.mpr ⟨⟨(zmk_a111 M h).1, (zmk_a111 M h).2.1⟩, List.forall_mem_cons.mpr ⟨⟨(zmk_a112 M h).1, (zmk_a112 M h).2.1⟩, List.forall_mem_cons.mpr ⟨⟨(zmk_a113 M h).1, (zmk_a113 M h).2.1⟩, fun _ h => absurd h List.not_mem_nil⟩⟩⟩⟩⟩⟩⟩⟩⟩⟩⟩⟩⟩⟩⟩⟩⟩⟩⟩⟩⟩⟩⟩⟩⟩⟩⟩⟩⟩⟩⟩⟩
def ze (M : zMem) (q k : Nat) : Int := (zi M q k).toInt
def zg (M : zMem) (q k : Nat) : Int := (zj M q k).toInt
theorem ze_of (M : zMem) (q k : Nat) : zi M q k = Int32.ofInt (ze M q k) := (Int32.ofInt_toInt _).symm
theorem zg_of (M : zMem) (q k : Nat) : zj M q k = Int64.ofInt (zg M q k) := (Int64.ofInt_toInt _).symm
theorem z32r (x : Int32) : -2147483648 ≤ x.toInt ∧ x.toInt < 2147483648 := by
  have h1 := x.toInt_lt
  have h2 := x.le_toInt
  omega
theorem z64r (x : Int64) : -9223372036854775808 ≤ x.toInt ∧ x.toInt < 9223372036854775808 := by
  have h1 := x.toInt_lt
  have h2 := x.le_toInt
  omega
theorem ze_r (M : zMem) (q k : Nat) : -2147483648 ≤ ze M q k ∧ ze M q k < 2147483648 := z32r _
theorem zg_r (M : zMem) (q k : Nat) : -9223372036854775808 ≤ zg M q k ∧ zg M q k < 9223372036854775808 := z64r _
def zn32 (a : Int) : Prop := -2147483648 ≤ a ∧ a < 2147483648
def zn64 (a : Int) : Prop := -9223372036854775808 ≤ a ∧ a < 9223372036854775808
theorem z32 {a : Int} (h : zn32 a) : (Int32.ofInt a).toInt = a := Int32.toInt_ofInt_of_le (by have := h.1; omega) (by have := h.2; omega)
theorem z64 {a : Int} (h : zn64 a) : (Int64.ofInt a).toInt = a := Int64.toInt_ofInt_of_le (by have := h.1; omega) (by have := h.2; omega)
theorem z32i {a b : Int} (ha : zn32 a) (hb : zn32 b) : Int32.ofInt a = Int32.ofInt b ↔ a = b := by
  constructor
  · intro h
    have := congrArg Int32.toInt h
    rwa [z32 ha, z32 hb] at this
  · rintro rfl; rfl
theorem z32l {a b : Int} (ha : zn32 a) (hb : zn32 b) : Int32.ofInt a < Int32.ofInt b ↔ a < b := by
  rw [Int32.lt_iff_toInt_lt, z32 ha, z32 hb]
theorem z32e {a b : Int} (ha : zn32 a) (hb : zn32 b) : Int32.ofInt a ≤ Int32.ofInt b ↔ a ≤ b := by
  rw [Int32.le_iff_toInt_le, z32 ha, z32 hb]
theorem z32z : zn32 0 := ⟨by decide, by decide⟩
theorem z_zero : (0 : Int32) = Int32.ofInt 0 := by decide
def zcmp (a b : Int) : Int := if a > b then 1 else if a = b then 0 else -1
theorem zcmp_s (a b : Int) : (zcmp a b = 1 ∧ b < a) ∨ (zcmp a b = 0 ∧ a = b) ∨ (zcmp a b = -1 ∧ a < b) := by
  unfold zcmp
  split
  · exact Or.inl ⟨rfl, by omega⟩
  · split
    · exact Or.inr (Or.inl ⟨rfl, by omega⟩)
    · exact Or.inr (Or.inr ⟨rfl, by omega⟩)
theorem z_lcmp {a b : Int} (ha : zn64 a) (hb : zn64 b) : lg_cmp (Int64.ofInt a) (Int64.ofInt b) = Int32.ofInt (zcmp a b) := by
  unfold lg_cmp zcmp
  have h1 : Int64.ofInt a > Int64.ofInt b ↔ a > b := by
    show Int64.ofInt b < Int64.ofInt a ↔ _
    rw [Int64.lt_iff_toInt_lt, z64 ha, z64 hb]
  have h2 : Int64.ofInt a = Int64.ofInt b ↔ a = b := by
    constructor
    · intro h
      have := congrArg Int64.toInt h
      rwa [z64 ha, z64 hb] at this
    · rintro rfl; rfl
  by_cases h : a > b
  · rw [if_pos (h1.mpr h), if_pos h]; rfl
  · rw [if_neg (fun x => h (h1.mp x)), if_neg h]
    by_cases h' : a = b
    · rw [if_pos (h2.mpr h'), if_pos h']; rfl
    · rw [if_neg (fun x => h' (h2.mp x)), if_neg h']; rfl
def zor (a b : Int) : Int := (Int32.ofInt a ||| Int32.ofInt b).toInt
def zand (a b : Int) : Int := (Int32.ofInt a &&& Int32.ofInt b).toInt
def zxor (a b : Int) : Int := (Int32.ofInt a ^^^ Int32.ofInt b).toInt
def zshl (a b : Int) : Int := (Int32.ofInt a <<< (Int32.ofInt b &&& 31)).toInt
def zshr (a b : Int) : Int := (Int32.ofInt a >>> (Int32.ofInt b &&& 31)).toInt
def zquo (a b : Int) : Int := (Int32.ofInt a / Int32.ofInt b).toInt
def zrem (a b : Int) : Int := (Int32.ofInt a - Int32.ofInt a / Int32.ofInt b * Int32.ofInt b).toInt
theorem zor_r (a b : Int) : -2147483648 ≤ zor a b ∧ zor a b < 2147483648 := z32r _
theorem zand_r (a b : Int) : -2147483648 ≤ zand a b ∧ zand a b < 2147483648 := z32r _
theorem zxor_r (a b : Int) : -2147483648 ≤ zxor a b ∧ zxor a b < 2147483648 := z32r _
theorem zshl_r (a b : Int) : -2147483648 ≤ zshl a b ∧ zshl a b < 2147483648 := z32r _
theorem zshr_r (a b : Int) : -2147483648 ≤ zshr a b ∧ zshr a b < 2147483648 := z32r _
theorem zquo_r (a b : Int) : -2147483648 ≤ zquo a b ∧ zquo a b < 2147483648 := z32r _
theorem zrem_r (a b : Int) : -2147483648 ≤ zrem a b ∧ zrem a b < 2147483648 := z32r _
def zlquo (a b : Int) : Int := (Int64.ofInt a / Int64.ofInt b).toInt
def zlrem (a b : Int) : Int := (Int64.ofInt a - Int64.ofInt a / Int64.ofInt b * Int64.ofInt b).toInt
def zlor (a b : Int) : Int := (Int64.ofInt a ||| Int64.ofInt b).toInt
def zlshl (a b : Int) : Int := (Int64.ofInt a <<< ((Int32.ofInt b).toInt64 &&& 63)).toInt
theorem zlquo_r (a b : Int) : -9223372036854775808 ≤ zlquo a b ∧ zlquo a b < 9223372036854775808 := z64r _
theorem zlrem_r (a b : Int) : -9223372036854775808 ≤ zlrem a b ∧ zlrem a b < 9223372036854775808 := z64r _
theorem zlor_r (a b : Int) : -9223372036854775808 ≤ zlor a b ∧ zlor a b < 9223372036854775808 := z64r _
theorem zlshl_r (a b : Int) : -9223372036854775808 ≤ zlshl a b ∧ zlshl a b < 9223372036854775808 := z64r _
theorem z32ne {b : Int} (hb : zn32 b) (h : b ≠ 0) : ¬ Int32.ofInt b = 0 := fun e => h ((z32i hb z32z).mp (e.trans z_zero))
theorem z64ne {b : Int} (hb : zn64 b) (h : b ≠ 0) : ¬ Int64.ofInt b = 0 := fun e => h (by
  have := congrArg Int64.toInt e
  rw [z64 hb] at this
  exact this)
def zFr (S C : List Nat) (M N : zMem) : Prop := N.1 = M.1 ∧ zsh N = zsh M ∧ zf N = zf M ∧ (∀ q, q ≠ 81 → q ∉ C → zi N q = zi M q ∧ zj N q = zj M q) ∧ ∀ j, j ∉ S → zi N 81 j = zi M 81 j ∧ zj N 81 j = zj M 81 j
theorem zFr.rf {S C : List Nat} {M : zMem} : zFr S C M M := ⟨rfl, rfl, rfl, fun _ _ _ => ⟨rfl, rfl⟩, fun _ _ => ⟨rfl, rfl⟩⟩
theorem zFr.tr {S C S' C' : List Nat} {M N P : zMem} (h : zFr S C M N) (h2 : zFr S' C' N P) (hs : ∀ x ∈ S', x ∈ S) (hc : ∀ x ∈ C', x ∈ C) : zFr S C M P := by
  obtain ⟨a1, a2, a3, a4, a5⟩ := h
  obtain ⟨b1, b2, b3, b4, b5⟩ := h2
  exact ⟨b1.trans a1, b2.trans a2, b3.trans a3, fun q h1 h2 => ⟨(b4 q h1 (fun x => h2 (hc _ x))).1.trans (a4 q h1 h2).1, (b4 q h1 (fun x => h2 (hc _ x))).2.trans (a4 q h1 h2).2⟩, fun j h1 => ⟨(b5 j (fun x => h1 (hs _ x))).1.trans (a5 j h1).1, (b5 j (fun x => h1 (hs _ x))).2.trans (a5 j h1).2⟩⟩
theorem zFr.up {S C S' C' : List Nat} {M N : zMem} (h : zFr S' C' M N) (hs : ∀ x ∈ S', x ∈ S) (hc : ∀ x ∈ C', x ∈ C) : zFr S C M N := zFr.rf.tr h hs hc
theorem zFr.w {S C : List Nat} {M N : zMem} (h : zFr S C M N) (hW : zMt M) : zMt N := by
  obtain ⟨a1, a2, a3, -, -⟩ := h
  obtain ⟨b1, b2, b3⟩ := hW
  refine ⟨?_, ?_, ?_⟩
  · unfold zn at b1 ⊢
    rw [a1]; exact b1
  · rw [a2]; exact b2
  · rw [a2, a3]; exact b3
theorem zFr.e {S C : List Nat} {M N : zMem} (h : zFr S C M N) {j : Nat} (hj : j ∉ S) : ze N 81 j = ze M 81 j := by
  unfold ze
  rw [(h.2.2.2.2 j hj).1]
theorem zFr.g {S C : List Nat} {M N : zMem} (h : zFr S C M N) {j : Nat} (hj : j ∉ S) : zg N 81 j = zg M 81 j := by
  unfold zg
  rw [(h.2.2.2.2 j hj).2]
theorem zFr.i {S C : List Nat} {M N : zMem} (h : zFr S C M N) {q : Nat} (h1 : q ≠ 81) (hq : q ∉ C) : zi N q = zi M q := (h.2.2.2.1 q h1 hq).1
theorem zFr.j {S C : List Nat} {M N : zMem} (h : zFr S C M N) {q : Nat} (h1 : q ≠ 81) (hq : q ∉ C) : zj N q = zj M q := (h.2.2.2.1 q h1 hq).2
theorem zFr.ie {S C : List Nat} {M N : zMem} (h : zFr S C M N) {q : Nat} (h1 : q ≠ 81) (hq : q ∉ C) (n : Nat) : ze N q n = ze M q n := by
  unfold ze
  rw [h.i h1 hq]
theorem zFr.jg {S C : List Nat} {M N : zMem} (h : zFr S C M N) {q : Nat} (h1 : q ≠ 81) (hq : q ∉ C) (n : Nat) : zg N q n = zg M q n := by
  unfold zg
  rw [h.j h1 hq]
theorem zFr.eq {M N : zMem} (h : zFr [] [] M N) : N = M := by
  obtain ⟨a1, a2, a3, a4, a5⟩ := h
  obtain ⟨m1, m2, m3, m4, m5⟩ := M
  obtain ⟨n1, n2, n3, n4, n5⟩ := N
  have e3 : n3 = m3 := by
    funext q j
    by_cases h : q = 81
    · subst h
      exact (a5 j List.not_mem_nil).1
    · exact congrFun (a4 q h List.not_mem_nil).1 j
  have e4 : n4 = m4 := by
    funext q j
    by_cases h : q = 81
    · subst h
      exact (a5 j List.not_mem_nil).2
    · exact congrFun (a4 q h List.not_mem_nil).2 j
  have e1 : n1 = m1 := a1
  have e2 : n2 = m2 := a2
  have e5 : n5 = m5 := a3
  rw [e1, e2, e3, e4, e5]
theorem zFr.sA {M : zMem} {q i : Nat} {v : Int32} (hq : q ≠ 81) : zFr [] [q] M (zsI M q i v) := by
  refine ⟨rfl, rfl, rfl, fun r _ h2 => ⟨zup2_q (fun e => h2 (by rw [e]; exact List.mem_singleton.mpr rfl)), rfl⟩, fun j _ => ⟨?_, rfl⟩⟩
  exact congrFun (zup2_q (Ne.symm hq)) j
theorem zFr.sB {M : zMem} {q i : Nat} {v : Int64} (hq : q ≠ 81) : zFr [] [q] M (zsJ M q i v) := by
  refine ⟨rfl, rfl, rfl, fun r _ h2 => ⟨rfl, zup2_q (fun e => h2 (by rw [e]; exact List.mem_singleton.mpr rfl))⟩, fun j _ => ⟨rfl, ?_⟩⟩
  exact congrFun (zup2_q (Ne.symm hq)) j
theorem zFr.pI {M : zMem} {j : Nat} {v : Int32} : zFr [j] [] M (zsI M 81 j v) := ⟨rfl, rfl, rfl, fun r h _ => ⟨zup2_q h, rfl⟩, fun i h => ⟨zup2_n (fun z => h (by rw [z.2]; exact List.mem_singleton.mpr rfl)), rfl⟩⟩
theorem zFr.pJ {M : zMem} {j : Nat} {v : Int64} : zFr [j] [] M (zsJ M 81 j v) := ⟨rfl, rfl, rfl, fun r h _ => ⟨rfl, zup2_q h⟩, fun i h => ⟨rfl, zup2_n (fun z => h (by rw [z.2]; exact List.mem_singleton.mpr rfl))⟩⟩
theorem zs_get {M N : zMem} {q i : Nat} {v : Int} (h : N = zsI M q i (Int32.ofInt v)) (hv : zn32 v) : ze N q i = v := by
  rw [h]
  show (zup2 (zi M) q i _ q i).toInt = v
  rw [zup2_s, z32 hv]
theorem zs_oth {M N : zMem} {q i : Nat} {v : Int32} (h : N = zsI M q i v) {j : Nat} (hj : j ≠ i) : ze N q j = ze M q j := by
  rw [h]
  show (zup2 (zi M) q i _ q j).toInt = _
  rw [zup2_n (fun z => hj z.2)]
  rfl
theorem zs_getJ {M N : zMem} {q i : Nat} {v : Int} (h : N = zsJ M q i (Int64.ofInt v)) (hv : zn64 v) : zg N q i = v := by
  rw [h]
  show (zup2 (zj M) q i _ q i).toInt = v
  rw [zup2_s, z64 hv]
theorem zs_othJ {M N : zMem} {q i : Nat} {v : Int64} (h : N = zsJ M q i v) {j : Nat} (hj : j ≠ i) : zg N q j = zg M q j := by
  rw [h]
  show (zup2 (zj M) q i _ q j).toInt = _
  rw [zup2_n (fun z => hj z.2)]
  rfl
def zB (q n : Nat) (lo hi : Int) (M : zMem) : Prop := ∀ k, k < n → lo ≤ ze M q k ∧ ze M q k ≤ hi
theorem zB.g {M : zMem} {q n : Nat} {lo hi : Int} (h : zB q n lo hi M) {e : Int} (h0 : 0 ≤ e) (h1 : e < n) : lo ≤ ze M q e.toNat ∧ ze M q e.toNat ≤ hi := h _ (by omega)
theorem zB.s {M N : zMem} {q n i : Nat} {lo hi v : Int} (h : zB q n lo hi M) (hN : N = zsI M q i (Int32.ofInt v)) (h0 : lo ≤ v) (h1 : v ≤ hi) (hl : -2147483648 ≤ lo) (hh : hi < 2147483648) : zB q n lo hi N := by
  intro j hj
  by_cases e : j = i
  · subst e
    rw [zs_get hN ⟨by omega, by omega⟩]
    exact ⟨h0, h1⟩
  · rw [zs_oth hN e]
    exact h j hj
theorem zB.fr {S C : List Nat} {M N : zMem} {q n : Nat} {lo hi : Int} (hf : zFr S C M N) (h : zB q n lo hi M) (h1 : q ≠ 81) (hq : q ∉ C) : zB q n lo hi N := by
  intro j hj
  rw [hf.ie h1 hq]
  exact h j hj
theorem zB.of {q n : Nat} {lo hi lo' hi' : Int} {M : zMem} (h : zB q n lo hi M) (h0 : lo' ≤ lo) (h1 : hi ≤ hi') : zB q n lo' hi' M := fun j hj => ⟨by have := (h j hj).1; omega, by have := (h j hj).2; omega⟩
def zpI (S C : List Nat) (M : zMem) (P : Int → zMem → Prop) : Option Value → zMem → Prop := fun r N => ∃ v : Int, r = some (.int (Int32.ofInt v)) ∧ zn32 v ∧ zFr S C M N ∧ P v N
def zpJ (S C : List Nat) (M : zMem) (P : Int → zMem → Prop) : Option Value → zMem → Prop := fun r N => ∃ v : Int, r = some (.long (Int64.ofInt v)) ∧ zn64 v ∧ zFr S C M N ∧ P v N
def zpV (S C : List Nat) (M : zMem) (P : zMem → Prop) : Option Value → zMem → Prop := fun r N => r = none ∧ zFr S C M N ∧ P N
section ZR
variable {l : Launch} {k : zMeth} {X : Nat × Nat} {M : zMem} {pc : Nat} {L : List (Option Value)} {S : List Value} {Q : Option Value → zMem → Prop} {a b : Int}
theorem zr_iadd  (hd : decode (zb k) pc = .ok (.iadd, 1)) (kk : zW l k X M (pc + 1) L (.int (Int32.ofInt (a + b)) :: S) Q) : zW l k X M pc L (.int (Int32.ofInt b) :: .int (Int32.ofInt a) :: S) Q := zw_iadd hd (by rw [← Int32.ofInt_add]; exact kk)
theorem zr_isub  (hd : decode (zb k) pc = .ok (.isub, 1)) (kk : zW l k X M (pc + 1) L (.int (Int32.ofInt (a - b)) :: S) Q) : zW l k X M pc L (.int (Int32.ofInt b) :: .int (Int32.ofInt a) :: S) Q := zw_isub hd (by rw [← Int32.ofInt_sub]; exact kk)
theorem zr_imul  (hd : decode (zb k) pc = .ok (.imul, 1)) (kk : zW l k X M (pc + 1) L (.int (Int32.ofInt (a * b)) :: S) Q) : zW l k X M pc L (.int (Int32.ofInt b) :: .int (Int32.ofInt a) :: S) Q := zw_imul hd (by rw [← Int32.ofInt_mul]; exact kk)
theorem zr_ladd  (hd : decode (zb k) pc = .ok (.ladd, 1)) (kk : zW l k X M (pc + 1) L (.long (Int64.ofInt (a + b)) :: S) Q) : zW l k X M pc L (.long (Int64.ofInt b) :: .long (Int64.ofInt a) :: S) Q := zw_ladd hd (by rw [← Int64.ofInt_add]; exact kk)
theorem zr_lsub  (hd : decode (zb k) pc = .ok (.lsub, 1)) (kk : zW l k X M (pc + 1) L (.long (Int64.ofInt (a - b)) :: S) Q) : zW l k X M pc L (.long (Int64.ofInt b) :: .long (Int64.ofInt a) :: S) Q := zw_lsub hd (by rw [← Int64.ofInt_sub]; exact kk)
theorem zr_lmul  (hd : decode (zb k) pc = .ok (.lmul, 1)) (kk : zW l k X M (pc + 1) L (.long (Int64.ofInt (a * b)) :: S) Q) : zW l k X M pc L (.long (Int64.ofInt b) :: .long (Int64.ofInt a) :: S) Q := zw_lmul hd (by rw [← Int64.ofInt_mul]; exact kk)
theorem zr_ior  (hd : decode (zb k) pc = .ok (.ior, 1)) (kk : zW l k X M (pc + 1) L (.int (Int32.ofInt (zor a b)) :: S) Q) : zW l k X M pc L (.int (Int32.ofInt b) :: .int (Int32.ofInt a) :: S) Q := zw_ior hd (by rw [show Int32.ofInt a ||| Int32.ofInt b = Int32.ofInt (zor a b) from (Int32.ofInt_toInt _).symm]; exact kk)
theorem zr_iand  (hd : decode (zb k) pc = .ok (.iand, 1)) (kk : zW l k X M (pc + 1) L (.int (Int32.ofInt (zand a b)) :: S) Q) : zW l k X M pc L (.int (Int32.ofInt b) :: .int (Int32.ofInt a) :: S) Q := zw_iand hd (by rw [show Int32.ofInt a &&& Int32.ofInt b = Int32.ofInt (zand a b) from (Int32.ofInt_toInt _).symm]; exact kk)
theorem zr_ixor  (hd : decode (zb k) pc = .ok (.ixor, 1)) (kk : zW l k X M (pc + 1) L (.int (Int32.ofInt (zxor a b)) :: S) Q) : zW l k X M pc L (.int (Int32.ofInt b) :: .int (Int32.ofInt a) :: S) Q := zw_ixor hd (by rw [show Int32.ofInt a ^^^ Int32.ofInt b = Int32.ofInt (zxor a b) from (Int32.ofInt_toInt _).symm]; exact kk)
theorem zr_ishl  (hd : decode (zb k) pc = .ok (.ishl, 1)) (kk : zW l k X M (pc + 1) L (.int (Int32.ofInt (zshl a b)) :: S) Q) : zW l k X M pc L (.int (Int32.ofInt b) :: .int (Int32.ofInt a) :: S) Q := zw_ishl hd (by rw [show Int32.ofInt a <<< (Int32.ofInt b &&& 31) = Int32.ofInt (zshl a b) from (Int32.ofInt_toInt _).symm]; exact kk)
theorem zr_ishr  (hd : decode (zb k) pc = .ok (.ishr, 1)) (kk : zW l k X M (pc + 1) L (.int (Int32.ofInt (zshr a b)) :: S) Q) : zW l k X M pc L (.int (Int32.ofInt b) :: .int (Int32.ofInt a) :: S) Q := zw_ishr hd (by rw [show Int32.ofInt a >>> (Int32.ofInt b &&& 31) = Int32.ofInt (zshr a b) from (Int32.ofInt_toInt _).symm]; exact kk)
theorem zr_idiv (hb : zn32 b) (h0 : b ≠ 0) (hd : decode (zb k) pc = .ok (.idiv, 1)) (kk : zW l k X M (pc + 1) L (.int (Int32.ofInt (zquo a b)) :: S) Q) : zW l k X M pc L (.int (Int32.ofInt b) :: .int (Int32.ofInt a) :: S) Q := zw_idiv (z32ne hb h0) hd (by rw [show Int32.ofInt a / Int32.ofInt b = Int32.ofInt (zquo a b) from (Int32.ofInt_toInt _).symm]; exact kk)
theorem zr_irem (hb : zn32 b) (h0 : b ≠ 0) (hd : decode (zb k) pc = .ok (.irem, 1)) (kk : zW l k X M (pc + 1) L (.int (Int32.ofInt (zrem a b)) :: S) Q) : zW l k X M pc L (.int (Int32.ofInt b) :: .int (Int32.ofInt a) :: S) Q := zw_irem (z32ne hb h0) hd (by rw [show Int32.ofInt a - Int32.ofInt a / Int32.ofInt b * Int32.ofInt b = Int32.ofInt (zrem a b) from (Int32.ofInt_toInt _).symm]; exact kk)
theorem zr_ldiv (hb : zn64 b) (h0 : b ≠ 0) (hd : decode (zb k) pc = .ok (.ldiv, 1)) (kk : zW l k X M (pc + 1) L (.long (Int64.ofInt (zlquo a b)) :: S) Q) : zW l k X M pc L (.long (Int64.ofInt b) :: .long (Int64.ofInt a) :: S) Q := zw_ldiv (z64ne hb h0) hd (by rw [show Int64.ofInt a / Int64.ofInt b = Int64.ofInt (zlquo a b) from (Int64.ofInt_toInt _).symm]; exact kk)
theorem zr_lrem (hb : zn64 b) (h0 : b ≠ 0) (hd : decode (zb k) pc = .ok (.lrem, 1)) (kk : zW l k X M (pc + 1) L (.long (Int64.ofInt (zlrem a b)) :: S) Q) : zW l k X M pc L (.long (Int64.ofInt b) :: .long (Int64.ofInt a) :: S) Q := zw_lrem (z64ne hb h0) hd (by rw [show Int64.ofInt a - Int64.ofInt a / Int64.ofInt b * Int64.ofInt b = Int64.ofInt (zlrem a b) from (Int64.ofInt_toInt _).symm]; exact kk)
theorem zr_ineg  (hd : decode (zb k) pc = .ok (.ineg, 1)) (kk : zW l k X M (pc + 1) L (.int (Int32.ofInt (-a)) :: S) Q) : zW l k X M pc L (.int (Int32.ofInt a) :: S) Q := zw_ineg hd (by rw [← Int32.ofInt_neg]; exact kk)
theorem zr_lneg  (hd : decode (zb k) pc = .ok (.lneg, 1)) (kk : zW l k X M (pc + 1) L (.long (Int64.ofInt (-a)) :: S) Q) : zW l k X M pc L (.long (Int64.ofInt a) :: S) Q := zw_lneg hd (by rw [← Int64.ofInt_neg]; exact kk)
theorem zr_i2l (ha : zn32 a) (hd : decode (zb k) pc = .ok (.i2l, 1)) (kk : zW l k X M (pc + 1) L (.long (Int64.ofInt a) :: S) Q) : zW l k X M pc L (.int (Int32.ofInt a) :: S) Q := zw_i2l hd (by rw [Int32.toInt64_ofInt (by have := ha.1; show -2147483648 ≤ a; exact this) (by have := ha.2; show a ≤ 2147483647; omega)]; exact kk)
theorem zr_l2i  (hd : decode (zb k) pc = .ok (.l2i, 1)) (kk : zW l k X M (pc + 1) L (.int (Int32.ofInt a) :: S) Q) : zW l k X M pc L (.long (Int64.ofInt a) :: S) Q := zw_l2i hd (by rw [Int64.toInt32_ofInt]; exact kk)
theorem zr_lcmp (ha : zn64 a) (hb : zn64 b) (hd : decode (zb k) pc = .ok (.lcmp, 1)) (kk : zW l k X M (pc + 1) L (.int (Int32.ofInt (zcmp a b)) :: S) Q) : zW l k X M pc L (.long (Int64.ofInt b) :: .long (Int64.ofInt a) :: S) Q := zw_lcmp hd (by rw [z_lcmp ha hb]; exact kk)
theorem zr_lor  (hd : decode (zb k) pc = .ok (.lor, 1)) (kk : zW l k X M (pc + 1) L (.long (Int64.ofInt (zlor a b)) :: S) Q) : zW l k X M pc L (.long (Int64.ofInt b) :: .long (Int64.ofInt a) :: S) Q := zw_lor hd (by rw [show Int64.ofInt a ||| Int64.ofInt b = Int64.ofInt (zlor a b) from (Int64.ofInt_toInt _).symm]; exact kk)
theorem zr_lshl  (hd : decode (zb k) pc = .ok (.lshl, 1)) (kk : zW l k X M (pc + 1) L (.long (Int64.ofInt (zlshl a b)) :: S) Q) : zW l k X M pc L (.int (Int32.ofInt b) :: .long (Int64.ofInt a) :: S) Q := zw_lshl hd (by rw [show Int64.ofInt a <<< ((Int32.ofInt b).toInt64 &&& 63) = Int64.ofInt (zlshl a b) from (Int64.ofInt_toInt _).symm]; exact kk)
theorem zr_nmI (kk : ∀ v : Int, zn32 v → zW l k X M pc L (.int (Int32.ofInt v) :: S) Q) : zW l k X M pc L (.int (Int32.ofInt a) :: S) Q := by
  have h := kk (Int32.ofInt a).toInt (z32r _)
  rwa [Int32.ofInt_toInt] at h
theorem zr_nmJ (kk : ∀ v : Int, zn64 v → zW l k X M pc L (.long (Int64.ofInt v) :: S) Q) : zW l k X M pc L (.long (Int64.ofInt a) :: S) Q := by
  have h := kk (Int64.ofInt a).toInt (z64r _)
  rwa [Int64.ofInt_toInt] at h
theorem zr_toI {a' : Int} (e : a = a') (kk : zW l k X M pc L (.int (Int32.ofInt a') :: S) Q) : zW l k X M pc L (.int (Int32.ofInt a) :: S) Q := by rw [e]; exact kk
theorem zr_toJ {a' : Int} (e : a = a') (kk : zW l k X M pc L (.long (Int64.ofInt a') :: S) Q) : zW l k X M pc L (.long (Int64.ofInt a) :: S) Q := by rw [e]; exact kk
theorem zr_iinc {i : Nat} {n : Int} {L2 : List (Option Value)} (hL : L[i]? = some (some (.int (Int32.ofInt a)))) (hn : i < zl k) (h2 : zst1 L i (.int (Int32.ofInt (a + n))) = L2) (hd : decode (zb k) pc = .ok (.iinc i n, 3)) (kk : zW l k X M (pc + 3) L2 S Q) : zW l k X M pc L S Q := zw_iinc hL (Int32.ofInt_add a n).symm hn h2 hd kk
theorem zr_if_eq (ha : zn32 a) {off : Int} {tgt : Nat} (ht : (pc : Int) + off = (tgt : Int)) (hd : decode (zb k) pc = .ok (.ifCond .eq off, 3)) (kt : a = 0 → zW l k X M tgt L S Q) (kk : a ≠ 0 → zW l k X M (pc + 3) L S Q) : zW l k X M pc L (.int (Int32.ofInt a) :: S) Q := zw_if_eq ht hd (fun h => kt ((z32i ha z32z).mp h)) (fun h => kk (fun e => h ((z32i ha z32z).mpr e)))
theorem zr_icmp_eq (ha : zn32 a) (hb : zn32 b) {off : Int} {tgt : Nat} (ht : (pc : Int) + off = (tgt : Int)) (hd : decode (zb k) pc = .ok (.if_icmp .eq off, 3)) (kt : a = b → zW l k X M tgt L S Q) (kk : a ≠ b → zW l k X M (pc + 3) L S Q) : zW l k X M pc L (.int (Int32.ofInt b) :: .int (Int32.ofInt a) :: S) Q := zw_icmp_eq ht hd (fun h => kt ((z32i ha hb).mp h)) (fun h => kk (fun e => h ((z32i ha hb).mpr e)))
theorem zr_if_ne (ha : zn32 a) {off : Int} {tgt : Nat} (ht : (pc : Int) + off = (tgt : Int)) (hd : decode (zb k) pc = .ok (.ifCond .ne off, 3)) (kt : a ≠ 0 → zW l k X M tgt L S Q) (kk : a = 0 → zW l k X M (pc + 3) L S Q) : zW l k X M pc L (.int (Int32.ofInt a) :: S) Q := zw_if_ne ht hd (fun h => kt (fun e => h ((z32i ha z32z).mpr e))) (fun h => kk ((z32i ha z32z).mp h))
theorem zr_icmp_ne (ha : zn32 a) (hb : zn32 b) {off : Int} {tgt : Nat} (ht : (pc : Int) + off = (tgt : Int)) (hd : decode (zb k) pc = .ok (.if_icmp .ne off, 3)) (kt : a ≠ b → zW l k X M tgt L S Q) (kk : a = b → zW l k X M (pc + 3) L S Q) : zW l k X M pc L (.int (Int32.ofInt b) :: .int (Int32.ofInt a) :: S) Q := zw_icmp_ne ht hd (fun h => kt (fun e => h ((z32i ha hb).mpr e))) (fun h => kk ((z32i ha hb).mp h))
theorem zr_if_lt (ha : zn32 a) {off : Int} {tgt : Nat} (ht : (pc : Int) + off = (tgt : Int)) (hd : decode (zb k) pc = .ok (.ifCond .lt off, 3)) (kt : a < 0 → zW l k X M tgt L S Q) (kk : 0 ≤ a → zW l k X M (pc + 3) L S Q) : zW l k X M pc L (.int (Int32.ofInt a) :: S) Q := zw_if_lt ht hd (fun h => kt ((z32l ha z32z).mp h)) (fun h => kk (Int.not_lt.mp (fun e => h ((z32l ha z32z).mpr e))))
theorem zr_icmp_lt (ha : zn32 a) (hb : zn32 b) {off : Int} {tgt : Nat} (ht : (pc : Int) + off = (tgt : Int)) (hd : decode (zb k) pc = .ok (.if_icmp .lt off, 3)) (kt : a < b → zW l k X M tgt L S Q) (kk : b ≤ a → zW l k X M (pc + 3) L S Q) : zW l k X M pc L (.int (Int32.ofInt b) :: .int (Int32.ofInt a) :: S) Q := zw_icmp_lt ht hd (fun h => kt ((z32l ha hb).mp h)) (fun h => kk (Int.not_lt.mp (fun e => h ((z32l ha hb).mpr e))))
theorem zr_if_ge (ha : zn32 a) {off : Int} {tgt : Nat} (ht : (pc : Int) + off = (tgt : Int)) (hd : decode (zb k) pc = .ok (.ifCond .ge off, 3)) (kt : 0 ≤ a → zW l k X M tgt L S Q) (kk : a < 0 → zW l k X M (pc + 3) L S Q) : zW l k X M pc L (.int (Int32.ofInt a) :: S) Q := zw_if_ge ht hd (fun h => kt ((z32e z32z ha).mp h)) (fun h => kk (Int.not_le.mp (fun e => h ((z32e z32z ha).mpr e))))
theorem zr_icmp_ge (ha : zn32 a) (hb : zn32 b) {off : Int} {tgt : Nat} (ht : (pc : Int) + off = (tgt : Int)) (hd : decode (zb k) pc = .ok (.if_icmp .ge off, 3)) (kt : b ≤ a → zW l k X M tgt L S Q) (kk : a < b → zW l k X M (pc + 3) L S Q) : zW l k X M pc L (.int (Int32.ofInt b) :: .int (Int32.ofInt a) :: S) Q := zw_icmp_ge ht hd (fun h => kt ((z32e hb ha).mp h)) (fun h => kk (Int.not_le.mp (fun e => h ((z32e hb ha).mpr e))))
theorem zr_if_gt (ha : zn32 a) {off : Int} {tgt : Nat} (ht : (pc : Int) + off = (tgt : Int)) (hd : decode (zb k) pc = .ok (.ifCond .gt off, 3)) (kt : 0 < a → zW l k X M tgt L S Q) (kk : a ≤ 0 → zW l k X M (pc + 3) L S Q) : zW l k X M pc L (.int (Int32.ofInt a) :: S) Q := zw_if_gt ht hd (fun h => kt ((z32l z32z ha).mp h)) (fun h => kk (Int.not_lt.mp (fun e => h ((z32l z32z ha).mpr e))))
theorem zr_icmp_gt (ha : zn32 a) (hb : zn32 b) {off : Int} {tgt : Nat} (ht : (pc : Int) + off = (tgt : Int)) (hd : decode (zb k) pc = .ok (.if_icmp .gt off, 3)) (kt : b < a → zW l k X M tgt L S Q) (kk : a ≤ b → zW l k X M (pc + 3) L S Q) : zW l k X M pc L (.int (Int32.ofInt b) :: .int (Int32.ofInt a) :: S) Q := zw_icmp_gt ht hd (fun h => kt ((z32l hb ha).mp h)) (fun h => kk (Int.not_lt.mp (fun e => h ((z32l hb ha).mpr e))))
theorem zr_if_le (ha : zn32 a) {off : Int} {tgt : Nat} (ht : (pc : Int) + off = (tgt : Int)) (hd : decode (zb k) pc = .ok (.ifCond .le off, 3)) (kt : a ≤ 0 → zW l k X M tgt L S Q) (kk : 0 < a → zW l k X M (pc + 3) L S Q) : zW l k X M pc L (.int (Int32.ofInt a) :: S) Q := zw_if_le ht hd (fun h => kt ((z32e ha z32z).mp h)) (fun h => kk (Int.not_le.mp (fun e => h ((z32e ha z32z).mpr e))))
theorem zr_icmp_le (ha : zn32 a) (hb : zn32 b) {off : Int} {tgt : Nat} (ht : (pc : Int) + off = (tgt : Int)) (hd : decode (zb k) pc = .ok (.if_icmp .le off, 3)) (kt : a ≤ b → zW l k X M tgt L S Q) (kk : b < a → zW l k X M (pc + 3) L S Q) : zW l k X M pc L (.int (Int32.ofInt b) :: .int (Int32.ofInt a) :: S) Q := zw_icmp_le ht hd (fun h => kt ((z32e ha hb).mp h)) (fun h => kk (Int.not_le.mp (fun e => h ((z32e ha hb).mpr e))))
theorem zr_tabOut (ha : zn32 a) {dflt lo hi : Int} {offs : Array Int} {len : Nat} {tgt : Nat} (h : a < lo ∨ hi < a) (ht : (pc : Int) + dflt = (tgt : Int)) (hd : decode (zb k) pc = .ok (.tableswitch dflt lo hi offs, len)) (kk : zW l k X M tgt L S Q) : zW l k X M pc L (.int (Int32.ofInt a) :: S) Q := zw_tabOut (by rw [z32 ha]; exact h) ht hd kk
theorem zr_tabIn {c : Int} (hc : zn32 c) (e : a = c) {dflt lo hi : Int} {offs : Array Int} {len : Nat} {off : Int} {tgt : Nat} (h1 : ¬ c < lo) (h2 : ¬ hi < c) (ho : offs[(c - lo).toNat]? = some off) (ht : (pc : Int) + off = (tgt : Int)) (hd : decode (zb k) pc = .ok (.tableswitch dflt lo hi offs, len)) (kk : zW l k X M tgt L S Q) : zW l k X M pc L (.int (Int32.ofInt a) :: S) Q := by
  rw [e]
  exact zw_tabIn (by rw [z32 hc]; exact h1) (by rw [z32 hc]; exact h2) (by rw [z32 hc]; exact ho) ht hd kk
theorem z_rin {e : Int} {n : Nat} (h0 : 0 ≤ e) (h1 : e < n) (hn : n ≤ 65536) : vp_in (Int32.ofInt e) n ∧ (Int32.ofInt e).toNatClampNeg = e.toNat := by
  have hr : zn32 e := ⟨by omega, by omega⟩
  exact ⟨vp_in_iff.mpr (by rw [z32 hr]; exact ⟨h0, h1⟩), Int32.toNatClampNeg_ofInt_of_le (by omega) (by omega)⟩
theorem zr_iald {q n : Nat} {e : Int} (hs : zsh M q = (1, n)) (hn : n ≤ 65536) (h0 : 0 ≤ e) (h1 : e < n) (hd : decode (zb k) pc = .ok (.iaload, 1)) (kk : zW l k X M (pc + 1) L (.int (Int32.ofInt (ze M q e.toNat)) :: S) Q) : zW l k X M pc L (.int (Int32.ofInt e) :: .ref q :: S) Q := by
  obtain ⟨g1, g2⟩ := z_rin h0 h1 hn
  refine zw_iald hs g1 hd ?_
  rw [g2, ze_of]
  exact kk
theorem zr_lald {q n : Nat} {e : Int} (hs : zsh M q = (2, n)) (hn : n ≤ 65536) (h0 : 0 ≤ e) (h1 : e < n) (hd : decode (zb k) pc = .ok (.laload, 1)) (kk : zW l k X M (pc + 1) L (.long (Int64.ofInt (zg M q e.toNat)) :: S) Q) : zW l k X M pc L (.int (Int32.ofInt e) :: .ref q :: S) Q := by
  obtain ⟨g1, g2⟩ := z_rin h0 h1 hn
  refine zw_lald hs g1 hd ?_
  rw [g2, zg_of]
  exact kk
theorem zr_iast {q n : Nat} {e v : Int} (hs : zsh M q = (1, n)) (hn : n ≤ 65536) (hq : q ≠ 81) (h0 : 0 ≤ e) (h1 : e < n) (hd : decode (zb k) pc = .ok (.iastore, 1)) (kk : ∀ N : zMem, N = zsI M q e.toNat (Int32.ofInt v) → zFr [] [q] M N → zW l k X N (pc + 1) L S Q) : zW l k X M pc L (.int (Int32.ofInt v) :: .int (Int32.ofInt e) :: .ref q :: S) Q := by
  obtain ⟨g1, g2⟩ := z_rin h0 h1 hn
  refine zw_iast hs g1 hd ?_
  rw [g2]
  exact kk _ rfl (zFr.sA hq)
theorem zr_last {q n : Nat} {e v : Int} (hs : zsh M q = (2, n)) (hn : n ≤ 65536) (hq : q ≠ 81) (h0 : 0 ≤ e) (h1 : e < n) (hd : decode (zb k) pc = .ok (.lastore, 1)) (kk : ∀ N : zMem, N = zsJ M q e.toNat (Int64.ofInt v) → zFr [] [q] M N → zW l k X N (pc + 1) L S Q) : zW l k X M pc L (.long (Int64.ofInt v) :: .int (Int32.ofInt e) :: .ref q :: S) Q := by
  obtain ⟨g1, g2⟩ := z_rin h0 h1 hn
  refine zw_last hs g1 hd ?_
  rw [g2]
  exact kk _ rfl (zFr.sB hq)
theorem zr_getI (hW : zMt M) {ix j : Nat} (hF : zFL (zo k) ix 11 j) (hg : zG 11 j = 0) (hd : decode (zb k) pc = .ok (.getfield ix, 3)) (kk : zW l k X M (pc + 3) L (.int (Int32.ofInt (ze M 81 j)) :: S) Q) : zW l k X M pc L (.ref 81 :: S) Q :=
  zw_getI hF hg hW.2.1 hd (by rw [ze_of]; exact kk)
theorem zr_getJ (hW : zMt M) {ix j : Nat} (hF : zFL (zo k) ix 11 j) (hg : zG 11 j = 1) (hd : decode (zb k) pc = .ok (.getfield ix, 3)) (kk : zW l k X M (pc + 3) L (.long (Int64.ofInt (zg M 81 j)) :: S) Q) : zW l k X M pc L (.ref 81 :: S) Q :=
  zw_getJ hF hg hW.2.1 hd (by rw [zg_of]; exact kk)
theorem zr_getF (hW : zMt M) {ix j r : Nat} (hF : zFL (zo k) ix 11 j) (hg : zG 11 j = 2) (hr : zf M 81 j = some r) (hd : decode (zb k) pc = .ok (.getfield ix, 3)) (kk : zW l k X M (pc + 3) L (.ref r :: S) Q) : zW l k X M pc L (.ref 81 :: S) Q :=
  zw_getF hF hg hW.2.1 hr hd kk
theorem zr_putI (hW : zMt M) {ix j : Nat} {v : Int} (hF : zFL (zo k) ix 11 j) (hfin : (zT 11 j).2.2.2 = false) (hg : zG 11 j = 0) (hv : zn32 v) (hn : narrow (zY 11 j) (.int (Int32.ofInt v)) = .int (Int32.ofInt v)) (hft : fits (zY 11 j) (.int (Int32.ofInt v)) = true) (hd : decode (zb k) pc = .ok (.putfield ix, 3)) (kk : ∀ N : zMem, zFr [j] [] M N → ze N 81 j = v → zW l k X N (pc + 3) L S Q) : zW l k X M pc L (.int (Int32.ofInt v) :: .ref 81 :: S) Q :=
  zw_putI hF hfin hg hW.2.1 hn hft hd (kk _ zFr.pI (zs_get rfl hv))
theorem zr_putJ (hW : zMt M) {ix j : Nat} {v : Int} (hF : zFL (zo k) ix 11 j) (hfin : (zT 11 j).2.2.2 = false) (hg : zG 11 j = 1) (hn : narrow (zY 11 j) (.long (Int64.ofInt v)) = .long (Int64.ofInt v)) (hft : fits (zY 11 j) (.long (Int64.ofInt v)) = true) (hd : decode (zb k) pc = .ok (.putfield ix, 3)) (kk : ∀ N : zMem, zFr [j] [] M N → (zn64 v → zg N 81 j = v) → zW l k X N (pc + 3) L S Q) : zW l k X M pc L (.long (Int64.ofInt v) :: .ref 81 :: S) Q :=
  zw_putJ hF hfin hg hW.2.1 hn hft hd (kk _ zFr.pJ (fun hv => zs_getJ rfl hv))
theorem zr_callV (hW : zMt M) (hX : zn M ≤ X.1 ∧ zw M ≤ X.2) {k' : zMeth} {Q' : Option Value → zMem → Prop} {ix : Nat} (vs rest : List Value) (hl' : zMLV (zo k) ix k') (hC : zC l k' 0 0 (.ref 81 :: vs) M Q') (hS : S = vs.reverse ++ .ref 81 :: rest) (hn : vs.length = zna k') (ho : zo k' = 11) (hR : zF k' + 1 ≤ zF k ∧ 8 + (zl k' + 11) + zLo k' ≤ zLo k) (hc8 : (rest.map fun v => v.category).sum ≤ 8) (hd : decode (zb k) pc = .ok (.invokevirtual ix, 3))
    (kk : ∀ (r : Option Value) (M' : zMem), Q' r M' → zW l k X M' (pc + 3) L (r.toList ++ rest) Q) : zW l k X M pc L S Q :=
  zw_callV vs rest hl' hC hS hn (by rw [ho]; exact hW.2.1) (by rw [ho]; decide) hR hX hc8 hd (fun r M' h _ _ => kk r M' h)
theorem zr_callS (hX : zn M ≤ X.1 ∧ zw M ≤ X.2) {k' : zMeth} {Q' : Option Value → zMem → Prop} {ix : Nat} (vs rest : List Value) (hl' : zMLS (zo k) ix k') (hC : zC l k' 0 0 vs M Q') (hS : S = vs.reverse ++ rest) (hn : vs.length = zna k') (hR : zF k' + 1 ≤ zF k ∧ 8 + (zl k' + 11) + zLo k' ≤ zLo k) (hc8 : (rest.map fun v => v.category).sum ≤ 8) (hd : decode (zb k) pc = .ok (.invokestatic ix, 3))
    (kk : ∀ (r : Option Value) (M' : zMem), Q' r M' → zW l k X M' (pc + 3) L (r.toList ++ rest) Q) : zW l k X M pc L S Q :=
  zw_callS vs rest hl' hC hS hn hR hX hc8 hd (fun r M' h _ _ => kk r M' h)
theorem zr_ldc2 {ix : Nat} {c : Int64} {n : Int} (hv : c = Int64.ofInt n) (hw : Cond.constantLong (zR (zo k)) ix c ∈ z_tbl) (hd : decode (zb k) pc = .ok (.ldc2_w ix, 3)) (kk : zW l k X M (pc + 3) L (.long (Int64.ofInt n) :: S) Q) : zW l k X M pc L S Q := zw_ldc2 hw hd (by rw [hv]; exact kk)
theorem zr_ialdn {q n : Nat} {e : Int} (hs : zsh M q = (1, n)) (hn : n ≤ 65536) (h0 : 0 ≤ e) (h1 : e < n) (hd : decode (zb k) pc = .ok (.iaload, 1)) (kk : ∀ v : Int, v = ze M q e.toNat → -2147483648 ≤ v → v < 2147483648 → zW l k X M (pc + 1) L (.int (Int32.ofInt v) :: S) Q) : zW l k X M pc L (.int (Int32.ofInt e) :: .ref q :: S) Q := zr_iald hs hn h0 h1 hd (kk _ rfl (ze_r M q _).1 (ze_r M q _).2)
theorem zr_laldn {q n : Nat} {e : Int} (hs : zsh M q = (2, n)) (hn : n ≤ 65536) (h0 : 0 ≤ e) (h1 : e < n) (hd : decode (zb k) pc = .ok (.laload, 1)) (kk : ∀ v : Int, v = zg M q e.toNat → -9223372036854775808 ≤ v → v < 9223372036854775808 → zW l k X M (pc + 1) L (.long (Int64.ofInt v) :: S) Q) : zW l k X M pc L (.int (Int32.ofInt e) :: .ref q :: S) Q := zr_lald hs hn h0 h1 hd (kk _ rfl (zg_r M q _).1 (zg_r M q _).2)
theorem zr_getI0 {Sf C : List Nat} {M0 : zMem} (hf : zFr Sf C M0 M) (hW : zMt M0) {ix j : Nat} (hj : j ∉ Sf) (hF : zFL (zo k) ix 11 j) (hg : zG 11 j = 0) (hd : decode (zb k) pc = .ok (.getfield ix, 3)) (kk : zW l k X M (pc + 3) L (.int (Int32.ofInt (ze M0 81 j)) :: S) Q) : zW l k X M pc L (.ref 81 :: S) Q :=
  zr_getI (hf.w hW) hF hg hd (by rw [hf.e hj]; exact kk)
theorem zr_iret {Sf C : List Nat} {M0 : zMem} {P : Int → zMem → Prop} {ty : FieldType} (hr : zr k = some ty) (hn : narrow ty (.int (Int32.ofInt a)) = .int (Int32.ofInt a)) (ha : zn32 a) (hf : zFr Sf C M0 M) (hP : P a M) (hd : decode (zb k) pc = .ok (.ireturn, 1)) : zW l k X M pc L [.int (Int32.ofInt a)] (zpI Sf C M0 P) := zw_iret (S := []) hr hn hd ⟨a, rfl, ha, hf, hP⟩
theorem zr_lret {Sf C : List Nat} {M0 : zMem} {P : Int → zMem → Prop} (hr : zr k = some .long) (ha : zn64 a) (hf : zFr Sf C M0 M) (hP : P a M) (hd : decode (zb k) pc = .ok (.lreturn, 1)) : zW l k X M pc L [.long (Int64.ofInt a)] (zpJ Sf C M0 P) := zw_lret (S := []) hr hd ⟨a, rfl, ha, hf, hP⟩
theorem zr_vret {Sf C : List Nat} {M0 : zMem} {P : zMem → Prop} (hr : zr k = none) (hf : zFr Sf C M0 M) (hP : P M) (hd : decode (zb k) pc = .ok (.return_, 1)) : zW l k X M pc L [] (zpV Sf C M0 P) := zw_vret (S := []) hr hd ⟨rfl, hf, hP⟩
theorem zFr.x {Sf C : List Nat} {M0 N : zMem} (h : zFr Sf C M0 N) : zn N ≤ ((zn M0 + 0, zw M0 + 0) : Nat × Nat).1 ∧ zw N ≤ ((zn M0 + 0, zw M0 + 0) : Nat × Nat).2 := by
  unfold zn zw
  rw [h.1]
  exact ⟨Nat.le_refl _, Nat.le_refl _⟩
theorem z_narB {v : Int} (h : v = 0 ∨ v = 1) : narrow .boolean (.int (Int32.ofInt v)) = .int (Int32.ofInt v) := by rcases h with rfl | rfl <;> rfl
theorem z_fitB {v : Int} (h : v = 0 ∨ v = 1) : fits .boolean (.int (Int32.ofInt v)) = true := by rcases h with rfl | rfl <;> rfl
end ZR
theorem zh_82 {M : zMem} (h : zMt M) : zf M 81 0 = some 82 ∧ zsh M 82 = (1, 700) := h.2.2 (0, 82, 1, 700) (List.mem_of_getElem? (i := 0) rfl)
theorem zh_83 {M : zMem} (h : zMt M) : zf M 81 15 = some 83 ∧ zsh M 83 = (1, 24) := h.2.2 (15, 83, 1, 24) (List.mem_of_getElem? (i := 1) rfl)
theorem zh_84 {M : zMem} (h : zMt M) : zf M 81 19 = some 84 ∧ zsh M 84 = (1, 24) := h.2.2 (19, 84, 1, 24) (List.mem_of_getElem? (i := 2) rfl)
theorem zh_85 {M : zMem} (h : zMt M) : zf M 81 21 = some 85 ∧ zsh M 85 = (1, 144) := h.2.2 (21, 85, 1, 144) (List.mem_of_getElem? (i := 3) rfl)
theorem zh_86 {M : zMem} (h : zMt M) : zf M 81 22 = some 86 ∧ zsh M 86 = (1, 6) := h.2.2 (22, 86, 1, 6) (List.mem_of_getElem? (i := 4) rfl)
theorem zh_87 {M : zMem} (h : zMt M) : zf M 81 23 = some 87 ∧ zsh M 87 = (1, 576) := h.2.2 (23, 87, 1, 576) (List.mem_of_getElem? (i := 5) rfl)
theorem zh_88 {M : zMem} (h : zMt M) : zf M 81 24 = some 88 ∧ zsh M 88 = (1, 24) := h.2.2 (24, 88, 1, 24) (List.mem_of_getElem? (i := 6) rfl)
theorem zh_89 {M : zMem} (h : zMt M) : zf M 81 27 = some 89 ∧ zsh M 89 = (1, 128) := h.2.2 (27, 89, 1, 128) (List.mem_of_getElem? (i := 7) rfl)
theorem zh_90 {M : zMem} (h : zMt M) : zf M 81 28 = some 90 ∧ zsh M 90 = (1, 128) := h.2.2 (28, 90, 1, 128) (List.mem_of_getElem? (i := 8) rfl)
theorem zh_91 {M : zMem} (h : zMt M) : zf M 81 29 = some 91 ∧ zsh M 91 = (1, 64) := h.2.2 (29, 91, 1, 64) (List.mem_of_getElem? (i := 9) rfl)
theorem zh_92 {M : zMem} (h : zMt M) : zf M 81 30 = some 92 ∧ zsh M 92 = (1, 64) := h.2.2 (30, 92, 1, 64) (List.mem_of_getElem? (i := 10) rfl)
theorem zh_93 {M : zMem} (h : zMt M) : zf M 81 31 = some 93 ∧ zsh M 93 = (1, 4096) := h.2.2 (31, 93, 1, 4096) (List.mem_of_getElem? (i := 11) rfl)
theorem zh_94 {M : zMem} (h : zMt M) : zf M 81 32 = some 94 ∧ zsh M 94 = (1, 1536) := h.2.2 (32, 94, 1, 1536) (List.mem_of_getElem? (i := 12) rfl)
theorem zh_95 {M : zMem} (h : zMt M) : zf M 81 33 = some 95 ∧ zsh M 95 = (2, 2560) := h.2.2 (33, 95, 2, 2560) (List.mem_of_getElem? (i := 13) rfl)
theorem zh_96 {M : zMem} (h : zMt M) : zf M 81 34 = some 96 ∧ zsh M 96 = (2, 64) := h.2.2 (34, 96, 2, 64) (List.mem_of_getElem? (i := 14) rfl)
theorem zh_97 {M : zMem} (h : zMt M) : zf M 81 35 = some 97 ∧ zsh M 97 = (2, 64) := h.2.2 (35, 97, 2, 64) (List.mem_of_getElem? (i := 15) rfl)
theorem zh_98 {M : zMem} (h : zMt M) : zf M 81 36 = some 98 ∧ zsh M 98 = (2, 64) := h.2.2 (36, 98, 2, 64) (List.mem_of_getElem? (i := 16) rfl)
theorem zh_99 {M : zMem} (h : zMt M) : zf M 81 37 = some 99 ∧ zsh M 99 = (2, 64) := h.2.2 (37, 99, 2, 64) (List.mem_of_getElem? (i := 17) rfl)
theorem zh_100 {M : zMem} (h : zMt M) : zf M 81 40 = some 100 ∧ zsh M 100 = (1, 80) := h.2.2 (40, 100, 1, 80) (List.mem_of_getElem? (i := 18) rfl)
theorem zh_101 {M : zMem} (h : zMt M) : zf M 81 44 = some 101 ∧ zsh M 101 = (2, 8) := h.2.2 (44, 101, 2, 8) (List.mem_of_getElem? (i := 19) rfl)
theorem zh_102 {M : zMem} (h : zMt M) : zf M 81 45 = some 102 ∧ zsh M 102 = (2, 512) := h.2.2 (45, 102, 2, 512) (List.mem_of_getElem? (i := 20) rfl)
theorem zh_103 {M : zMem} (h : zMt M) : zf M 81 46 = some 103 ∧ zsh M 103 = (2, 8) := h.2.2 (46, 103, 2, 8) (List.mem_of_getElem? (i := 21) rfl)
theorem zh_104 {M : zMem} (h : zMt M) : zf M 81 47 = some 104 ∧ zsh M 104 = (2, 512) := h.2.2 (47, 104, 2, 512) (List.mem_of_getElem? (i := 22) rfl)
theorem zh_105 {M : zMem} (h : zMt M) : zf M 81 48 = some 105 ∧ zsh M 105 = (2, 64) := h.2.2 (48, 105, 2, 64) (List.mem_of_getElem? (i := 23) rfl)
theorem zh_106 {M : zMem} (h : zMt M) : zf M 81 49 = some 106 ∧ zsh M 106 = (1, 128) := h.2.2 (49, 106, 1, 128) (List.mem_of_getElem? (i := 24) rfl)
theorem zh_107 {M : zMem} (h : zMt M) : zf M 81 50 = some 107 ∧ zsh M 107 = (2, 64) := h.2.2 (50, 107, 2, 64) (List.mem_of_getElem? (i := 25) rfl)
theorem zh_108 {M : zMem} (h : zMt M) : zf M 81 51 = some 108 ∧ zsh M 108 = (2, 64) := h.2.2 (51, 108, 2, 64) (List.mem_of_getElem? (i := 26) rfl)
theorem zh_109 {M : zMem} (h : zMt M) : zf M 81 54 = some 109 ∧ zsh M 109 = (1, 24) := h.2.2 (54, 109, 1, 24) (List.mem_of_getElem? (i := 27) rfl)
theorem zh_110 {M : zMem} (h : zMt M) : zf M 81 56 = some 110 ∧ zsh M 110 = (1, 65536) := h.2.2 (56, 110, 1, 65536) (List.mem_of_getElem? (i := 28) rfl)
theorem zh_111 {M : zMem} (h : zMt M) : zf M 81 59 = some 111 ∧ zsh M 111 = (2, 768) := h.2.2 (59, 111, 2, 768) (List.mem_of_getElem? (i := 29) rfl)
theorem zh_112 {M : zMem} (h : zMt M) : zf M 81 61 = some 112 ∧ zsh M 112 = (1, 6) := h.2.2 (61, 112, 1, 6) (List.mem_of_getElem? (i := 30) rfl)
theorem zh_113 {M : zMem} (h : zMt M) : zf M 81 62 = some 113 ∧ zsh M 113 = (1, 7) := h.2.2 (62, 113, 1, 7) (List.mem_of_getElem? (i := 31) rfl)
def zKt0 : List (Nat × Nat × Nat) := [(0, 0, 1), (0, 1, 4), (1, 0, 2), (2, 0, 3), (4, 0, 1)]
def zKo0 : List (Nat × Nat) := [(0, 3), (1, 4), (2, 5), (4, 6)]
def zKr0 : List (Nat × Nat × Nat) := [(3, 1, 700)]
def zKt : List (Nat × Nat × Nat) := [(0, 0, 1), (0, 1, 12), (0, 2, 23), (0, 3, 28), (0, 4, 33), (0, 5, 36), (1, 0, 2), (1, 1, 4), (1, 2, 6), (1, 3, 8), (1, 4, 10), (2, 0, 3), (4, 0, 5), (6, 0, 7), (8, 0, 9), (10, 0, 11), (12, 0, 1), (12, 1, 13), (12, 2, 15), (12, 3, 17), (12, 4, 19), (12, 5, 21), (13, 0, 14), (15, 0, 16), (17, 0, 18), (19, 0, 20), (21, 0, 22), (23, 0, 12), (23, 1, 24), (23, 2, 26), (24, 0, 25), (26, 0, 27), (28, 0, 12), (28, 1, 29), (28, 2, 31), (29, 0, 30), (31, 0, 32), (33, 0, 23), (33, 1, 34), (34, 0, 35), (36, 0, 37)]
def zKo : List (Nat × Nat) := [(0, 7), (1, 8), (2, 5), (4, 5), (6, 5), (8, 5), (10, 5), (12, 9), (13, 5), (15, 5), (17, 5), (19, 5), (21, 5), (23, 10), (24, 11), (26, 11), (28, 12), (29, 5), (31, 5), (33, 13), (34, 5), (36, 5)]
def zKr : List (Nat × Nat × Nat) := [(3, 1, 4), (5, 1, 24), (7, 1, 576), (9, 1, 24), (11, 1, 24), (14, 1, 35), (16, 1, 35), (18, 1, 35), (20, 1, 27), (22, 1, 729), (25, 2, 1080), (27, 2, 27), (30, 1, 27), (32, 1, 24), (35, 1, 24), (37, 1, 8)]
def zKB (b : Nat) (t : List (Nat × Nat × Nat)) (o : List (Nat × Nat)) (r : List (Nat × Nat × Nat)) (M : zMem) : Prop := (∀ e ∈ t, zf M (b + e.1) e.2.1 = some (b + e.2.2)) ∧ (∀ e ∈ o, (zsh M (b + e.1)).1 = e.2) ∧ ∀ e ∈ r, zsh M (b + e.1) = (e.2.1, e.2.2)
def zKW (d : Nat) (M : zMem) : Prop := 81 ≤ zn M ∧ (d = 5 ∨ d = 43) ∧ zKB 0 zKt0 zKo0 zKr0 M ∧ zKB d zKt zKo zKr M
theorem zKW.lr {d : Nat} {M : zMem} (h : zKW d M) {o s r : Nat} (hm : (o, s, r) ∈ zKt) : zf M (d + o) s = some (d + r) := h.2.2.2.1 _ hm
theorem zKW.kr {d : Nat} {M : zMem} (h : zKW d M) {o t : Nat} (hm : (o, t) ∈ zKo) : (zsh M (d + o)).1 = t := h.2.2.2.2.1 _ hm
theorem zKW.rr {d : Nat} {M : zMem} (h : zKW d M) {o t n : Nat} (hm : (o, t, n) ∈ zKr) : zsh M (d + o) = (t, n) := h.2.2.2.2.2 _ hm
theorem zKW.la {d : Nat} {M : zMem} (h : zKW d M) {o s r : Nat} (hm : (o, s, r) ∈ zKt0) : zf M o s = some r := by
  have := h.2.2.1.1 _ hm
  simpa using this
theorem zKW.ka {d : Nat} {M : zMem} (h : zKW d M) {o t : Nat} (hm : (o, t) ∈ zKo0) : (zsh M o).1 = t := by
  have := h.2.2.1.2.1 _ hm
  simpa using this
theorem zKW.ra {d : Nat} {M : zMem} (h : zKW d M) {o t n : Nat} (hm : (o, t, n) ∈ zKr0) : zsh M o = (t, n) := by
  have := h.2.2.1.2.2 _ hm
  simpa using this
def zFc (d : Nat) (FA : List (Nat × Nat)) (CA : List Nat) (FR : List (Nat × Nat)) (CR : List Nat) (M N : zMem) : Prop := N.1 = M.1 ∧ zsh N = zsh M ∧ zf N = zf M ∧ (∀ q, (q < d ∨ d + 38 ≤ q) → q ∉ CA → ∀ j, (q, j) ∉ FA → zi N q j = zi M q j ∧ zj N q j = zj M q j) ∧ ∀ o, o < 38 → o ∉ CR → ∀ j, (o, j) ∉ FR → zi N (d + o) j = zi M (d + o) j ∧ zj N (d + o) j = zj M (d + o) j
section ZFC
variable {d : Nat} {FA FA' : List (Nat × Nat)} {CA CA' : List Nat} {FR FR' : List (Nat × Nat)} {CR CR' : List Nat} {M N P : zMem}
theorem zFc.rf : zFc d FA CA FR CR M M := ⟨rfl, rfl, rfl, fun _ _ _ _ _ => ⟨rfl, rfl⟩, fun _ _ _ _ _ => ⟨rfl, rfl⟩⟩
theorem zFc.tr (h : zFc d FA CA FR CR M N) (h2 : zFc d FA' CA' FR' CR' N P) (s1 : ∀ x ∈ FA', x ∈ FA) (s2 : ∀ x ∈ CA', x ∈ CA) (s3 : ∀ x ∈ FR', x ∈ FR) (s4 : ∀ x ∈ CR', x ∈ CR) : zFc d FA CA FR CR M P := by
  obtain ⟨a1, a2, a3, a4, a5⟩ := h
  obtain ⟨b1, b2, b3, b4, b5⟩ := h2
  refine ⟨b1.trans a1, b2.trans a2, b3.trans a3, fun q hq hc j hj => ?_, fun o ho hc j hj => ?_⟩
  · have x := b4 q hq (fun z => hc (s2 _ z)) j (fun z => hj (s1 _ z))
    have y := a4 q hq hc j hj
    exact ⟨x.1.trans y.1, x.2.trans y.2⟩
  · have x := b5 o ho (fun z => hc (s4 _ z)) j (fun z => hj (s3 _ z))
    have y := a5 o ho hc j hj
    exact ⟨x.1.trans y.1, x.2.trans y.2⟩
theorem zFc.w (h : zFc d FA CA FR CR M N) (hW : zKW d M) : zKW d N := by
  obtain ⟨a1, a2, a3, -, -⟩ := h
  obtain ⟨b1, b2, b3, b4⟩ := hW
  refine ⟨?_, b2, ?_, ?_⟩
  · unfold zn at b1 ⊢
    rw [a1]; exact b1
  · unfold zKB at b3 ⊢
    rw [a2, a3]; exact b3
  · unfold zKB at b4 ⊢
    rw [a2, a3]; exact b4
theorem zFc.x (h : zFc d FA CA FR CR M N) : zn N ≤ ((zn M + 0, zw M + 0) : Nat × Nat).1 ∧ zw N ≤ ((zn M + 0, zw M + 0) : Nat × Nat).2 := by
  unfold zn zw
  rw [h.1]
  exact ⟨Nat.le_refl _, Nat.le_refl _⟩
theorem zFc.e (h : zFc d FA CA FR CR M N) {o j : Nat} (ho : o < 38 ∧ o ∉ CR ∧ (o, j) ∉ FR) : ze N (d + o) j = ze M (d + o) j := by
  unfold ze
  rw [(h.2.2.2.2 o ho.1 ho.2.1 j ho.2.2).1]
theorem zFc.ea (h : zFc d FA CA FR CR M N) (hW : zKW d M) {q j : Nat} (ho : q < 5 ∧ q ∉ CA ∧ (q, j) ∉ FA) : ze N q j = ze M q j := by
  have hd := hW.2.1
  unfold ze
  rw [(h.2.2.2.1 q (Or.inl (by omega)) ho.2.1 j ho.2.2).1]
theorem zFc.r (h : zFc d FA CA FR CR M N) {o : Nat} (ho : o < 38 ∧ o ∉ CR ∧ ∀ x ∈ FR, x.1 ≠ o) (n : Nat) : ze N (d + o) n = ze M (d + o) n := by
  unfold ze
  rw [(h.2.2.2.2 o ho.1 ho.2.1 n (fun z => ho.2.2 _ z rfl)).1]
theorem zFc.rg (h : zFc d FA CA FR CR M N) {o : Nat} (ho : o < 38 ∧ o ∉ CR ∧ ∀ x ∈ FR, x.1 ≠ o) (n : Nat) : zg N (d + o) n = zg M (d + o) n := by
  unfold zg
  rw [(h.2.2.2.2 o ho.1 ho.2.1 n (fun z => ho.2.2 _ z rfl)).2]
theorem zFc.ra (h : zFc d FA CA FR CR M N) (hW : zKW d M) {q : Nat} (ho : q < 5 ∧ q ∉ CA ∧ ∀ x ∈ FA, x.1 ≠ q) (n : Nat) : ze N q n = ze M q n := by
  have hd := hW.2.1
  unfold ze
  rw [(h.2.2.2.1 q (Or.inl (by omega)) ho.2.1 n (fun z => ho.2.2 _ z rfl)).1]
theorem zFc.o (h : zFc d FA CA FR CR M N) {q : Nat} (hq : q < d ∨ d + 38 ≤ q) (ho : q ∉ CA ∧ ∀ x ∈ FA, x.1 ≠ q) : zi N q = zi M q ∧ zj N q = zj M q :=
  ⟨funext fun n => (h.2.2.2.1 q hq ho.1 n (fun z => ho.2 _ z rfl)).1, funext fun n => (h.2.2.2.1 q hq ho.1 n (fun z => ho.2 _ z rfl)).2⟩
theorem zFc.eq (h : zFc d [] [] [] [] M N) : N = M := by
  obtain ⟨a1, a2, a3, a4, a5⟩ := h
  obtain ⟨m1, m2, m3, m4, m5⟩ := M
  obtain ⟨n1, n2, n3, n4, n5⟩ := N
  have key : ∀ q j, n3 q j = m3 q j ∧ n4 q j = m4 q j := by
    intro q j
    by_cases h : q < d ∨ d + 38 ≤ q
    · exact a4 q h List.not_mem_nil j List.not_mem_nil
    · have := a5 (q - d) (by omega) List.not_mem_nil j List.not_mem_nil
      rw [show d + (q - d) = q by omega] at this
      exact this
  have e3 : n3 = m3 := funext fun q => funext fun j => (key q j).1
  have e4 : n4 = m4 := funext fun q => funext fun j => (key q j).2
  have e1 : n1 = m1 := a1
  have e2 : n2 = m2 := a2
  have e5 : n5 = m5 := a3
  rw [e1, e2, e3, e4, e5]
theorem zFc.sR {o i : Nat} {v : Int32} (ho : o < 38) : zFc d [] [] [] [o] M (zsI M (d + o) i v) := by
  refine ⟨rfl, rfl, rfl, fun q hq _ j _ => ⟨?_, rfl⟩, fun p hp hc j _ => ⟨?_, rfl⟩⟩
  · exact congrFun (zup2_q (by omega)) j
  · exact congrFun (zup2_q (fun e => hc (by have : p = o := by omega
                                            rw [this]; exact List.mem_singleton.mpr rfl))) j
theorem zFc.sRJ {o i : Nat} {v : Int64} (ho : o < 38) : zFc d [] [] [] [o] M (zsJ M (d + o) i v) := by
  refine ⟨rfl, rfl, rfl, fun q hq _ j _ => ⟨rfl, ?_⟩, fun p hp hc j _ => ⟨rfl, ?_⟩⟩
  · exact congrFun (zup2_q (by omega)) j
  · exact congrFun (zup2_q (fun e => hc (by have : p = o := by omega
                                            rw [this]; exact List.mem_singleton.mpr rfl))) j
theorem zFc.sA {q i : Nat} {v : Int32} (hW : zKW d M) (hq : q < 5) : zFc d [] [q] [] [] M (zsI M q i v) := by
  have hd := hW.2.1
  refine ⟨rfl, rfl, rfl, fun p hp hc j _ => ⟨?_, rfl⟩, fun p hp hc j _ => ⟨?_, rfl⟩⟩
  · exact congrFun (zup2_q (fun e => hc (by rw [e]; exact List.mem_singleton.mpr rfl))) j
  · exact congrFun (zup2_q (by omega)) j
theorem zFc.pR {o j : Nat} {v : Int32} (ho : o < 38) : zFc d [] [] [(o, j)] [] M (zsI M (d + o) j v) := by
  refine ⟨rfl, rfl, rfl, fun q hq _ i _ => ⟨?_, rfl⟩, fun p hp hc i hi => ⟨?_, rfl⟩⟩
  · exact congrFun (zup2_q (by omega)) i
  · refine zup2_n (fun z => hi ?_)
    have : p = o := by omega
    rw [this, z.2]
    exact List.mem_singleton.mpr rfl
theorem zFc.pA {q j : Nat} {v : Int32} (hW : zKW d M) (hq : q < 5) : zFc d [(q, j)] [] [] [] M (zsI M q j v) := by
  have hd := hW.2.1
  refine ⟨rfl, rfl, rfl, fun p hp hc i hi => ⟨?_, rfl⟩, fun p hp hc i _ => ⟨?_, rfl⟩⟩
  · refine zup2_n (fun z => hi ?_)
    rw [z.1, z.2]
    exact List.mem_singleton.mpr rfl
  · exact congrFun (zup2_q (by omega)) i
end ZFC
def zqcI (d : Nat) (FA : List (Nat × Nat)) (CA : List Nat) (FR : List (Nat × Nat)) (CR : List Nat) (M : zMem) (P : Int → zMem → Prop) : Option Value → zMem → Prop := fun r N => ∃ v : Int, r = some (.int (Int32.ofInt v)) ∧ zn32 v ∧ zFc d FA CA FR CR M N ∧ P v N
def zqcJ (d : Nat) (FA : List (Nat × Nat)) (CA : List Nat) (FR : List (Nat × Nat)) (CR : List Nat) (M : zMem) (P : Int → zMem → Prop) : Option Value → zMem → Prop := fun r N => ∃ v : Int, r = some (.long (Int64.ofInt v)) ∧ zn64 v ∧ zFc d FA CA FR CR M N ∧ P v N
def zqcV (d : Nat) (FA : List (Nat × Nat)) (CA : List Nat) (FR : List (Nat × Nat)) (CR : List Nat) (M : zMem) (P : zMem → Prop) : Option Value → zMem → Prop := fun r N => r = none ∧ zFc d FA CA FR CR M N ∧ P N
section ZKR
variable {l : Launch} {k : zMeth} {X : Nat × Nat} {M : zMem} {pc : Nat} {L : List (Option Value)} {S : List Value} {Q : Option Value → zMem → Prop} {a b : Int} {d : Nat}
theorem zk_getI {ix ci j q : Nat} (hF : zFL (zo k) ix ci j) (hg : zG ci j = 0) (hk : (zsh M q).1 = ci + 3) (hd : decode (zb k) pc = .ok (.getfield ix, 3)) (kk : zW l k X M (pc + 3) L (.int (Int32.ofInt (ze M q j)) :: S) Q) : zW l k X M pc L (.ref q :: S) Q :=
  zw_getI hF hg hk hd (by rw [ze_of]; exact kk)
theorem zk_putR {ix ci j o : Nat} {v : Int} (ho : o < 38) (hF : zFL (zo k) ix ci j) (hfin : (zT ci j).2.2.2 = false) (hg : zG ci j = 0) (hk : (zsh M (d + o)).1 = ci + 3) (hv : zn32 v) (hn : narrow (zY ci j) (.int (Int32.ofInt v)) = .int (Int32.ofInt v)) (hft : fits (zY ci j) (.int (Int32.ofInt v)) = true) (hd : decode (zb k) pc = .ok (.putfield ix, 3)) (kk : ∀ N : zMem, zFc d [] [] [(o, j)] [] M N → ze N (d + o) j = v → zW l k X N (pc + 3) L S Q) : zW l k X M pc L (.int (Int32.ofInt v) :: .ref (d + o) :: S) Q :=
  zw_putI hF hfin hg hk hn hft hd (kk _ (zFc.pR ho) (zs_get rfl hv))
theorem zk_putA {ix ci j q : Nat} {v : Int} (hW : zKW d M) (ho : q < 5) (hF : zFL (zo k) ix ci j) (hfin : (zT ci j).2.2.2 = false) (hg : zG ci j = 0) (hk : (zsh M q).1 = ci + 3) (hv : zn32 v) (hn : narrow (zY ci j) (.int (Int32.ofInt v)) = .int (Int32.ofInt v)) (hft : fits (zY ci j) (.int (Int32.ofInt v)) = true) (hd : decode (zb k) pc = .ok (.putfield ix, 3)) (kk : ∀ N : zMem, zFc d [(q, j)] [] [] [] M N → ze N q j = v → zW l k X N (pc + 3) L S Q) : zW l k X M pc L (.int (Int32.ofInt v) :: .ref q :: S) Q :=
  zw_putI hF hfin hg hk hn hft hd (kk _ (zFc.pA hW ho) (zs_get rfl hv))
end ZKR
theorem zk_nmI {l : Launch} {k : zMeth} {X : Nat × Nat} {M : zMem} {pc : Nat} {L : List (Option Value)} {S : List Value} {Q : Option Value → zMem → Prop} {a : Int} (kk : ∀ v : Int, zn32 v → (zn32 a → v = a) → zW l k X M pc L (.int (Int32.ofInt v) :: S) Q) : zW l k X M pc L (.int (Int32.ofInt a) :: S) Q := by
  have h := kk (Int32.ofInt a).toInt (z32r _) (fun ha => z32 ha)
  rwa [Int32.ofInt_toInt] at h
theorem zk_nmJ {l : Launch} {k : zMeth} {X : Nat × Nat} {M : zMem} {pc : Nat} {L : List (Option Value)} {S : List Value} {Q : Option Value → zMem → Prop} {a : Int} (kk : ∀ v : Int, zn64 v → Int64.ofInt v = Int64.ofInt a → zW l k X M pc L (.long (Int64.ofInt v) :: S) Q) : zW l k X M pc L (.long (Int64.ofInt a) :: S) Q := by
  have h := kk (Int64.ofInt a).toInt (z64r _) (Int64.ofInt_toInt _)
  rwa [Int64.ofInt_toInt] at h
def zat (M : zMem) (r n : Nat) (x : Int) : Int := if 0 ≤ x ∧ x < n then ze M r x.toNat else 0
def zatJ (M : zMem) (r n : Nat) (x : Int) : Int := if 0 ≤ x ∧ x < n then zg M r x.toNat else 0
def zpt (M : zMem) (r n : Nat) (x v : Int) : zMem := if 0 ≤ x ∧ x < n then zsI M r x.toNat (Int32.ofInt v) else M
def zptJ (M : zMem) (r n : Nat) (x v : Int) : zMem := if 0 ≤ x ∧ x < n then zsJ M r x.toNat (Int64.ofInt v) else M
theorem zk_nI {n : Nat} (hn : n ≤ 65536) : nI n = Int32.ofInt (n : Int) := by
  unfold nI
  exact (Int32.ofInt_eq_ofNat).symm
theorem k_IntRow_at (l : Launch) (M : zMem) (q r n : Nat) (hk : (zsh M q).1 = 2 + 3) (hl : zf M q 0 = some r) (hr : zsh M r = (1, n)) (hn : n ≤ 65536) (x : Int) (hx : zn32 x) : zC l m_IntRow_at 0 0 [.ref q, .int (Int32.ofInt x)] M (fun v N => v = some (.int (Int32.ofInt (zat M r n x))) ∧ N = M) := by
  have hn32 : zn32 (n : Int) := ⟨by omega, by omega⟩
  refine zC_of (L0 := [some (.ref q), some (.int (Int32.ofInt x))]) md_IntRow_at (Nat.le_of_ble_eq_true rfl) rfl ?_ zQ0
  refine zw_iload_n (pc := 0) (n := 1) (x := Int32.ofInt x) rfl (zdal_p dlA_IntRow_at_23 (i := 0) rfl) ?_
  refine zr_if_lt (pc := 1) (tgt := 22) hx (by decide) (zdal_p dlA_IntRow_at_23 (i := 1) rfl) (fun hc_1 => ?_) (fun hc_1 => ?_)
  · refine zw_iconst (pc := 22) (v := Int32.ofInt 0) (by decide) (zdal_p dlA_IntRow_at_23 (i := 12) rfl) ?_
    refine zw_iret (S := []) (pc := 23) (ty := .int) rfl rfl (zdal_p dlA_IntRow_at_23 (i := 13) rfl) ⟨?_, rfl⟩
    unfold zat
    rw [if_neg (by omega)]
  · refine zw_iload_n (pc := 4) (n := 1) (x := Int32.ofInt x) rfl (zdal_p dlA_IntRow_at_23 (i := 2) rfl) ?_
    refine zw_aload_n (pc := 5) (n := 0) (x := q) rfl (zdal_p dlA_IntRow_at_23 (i := 3) rfl) ?_
    refine zw_getF (pc := 6) f_IntRow_13 rfl hk hl (zdal_p dlA_IntRow_at_23 (i := 4) rfl) ?_
    refine zw_alen (pc := 9) (Or.inl hr) (zdal_p dlA_IntRow_at_23 (i := 5) rfl) ?_
    rw [zk_nI hn]
    refine zr_icmp_ge (pc := 10) (tgt := 22) hx hn32 (by decide) (zdal_p dlA_IntRow_at_23 (i := 6) rfl) (fun hc_10 => ?_) (fun hc_10 => ?_)
    · refine zw_iconst (pc := 22) (v := Int32.ofInt 0) (by decide) (zdal_p dlA_IntRow_at_23 (i := 12) rfl) ?_
      refine zw_iret (S := []) (pc := 23) (ty := .int) rfl rfl (zdal_p dlA_IntRow_at_23 (i := 13) rfl) ⟨?_, rfl⟩
      unfold zat
      rw [if_neg (by omega)]
    · refine zw_aload_n (pc := 13) (n := 0) (x := q) rfl (zdal_p dlA_IntRow_at_23 (i := 7) rfl) ?_
      refine zw_getF (pc := 14) f_IntRow_13 rfl hk hl (zdal_p dlA_IntRow_at_23 (i := 8) rfl) ?_
      refine zw_iload_n (pc := 17) (n := 1) (x := Int32.ofInt x) rfl (zdal_p dlA_IntRow_at_23 (i := 9) rfl) ?_
      refine zr_iald (pc := 18) hr hn hc_1 hc_10 (zdal_p dlA_IntRow_at_23 (i := 10) rfl) ?_
      refine zw_goto (pc := 19) (tgt := 23) (by decide) (zdal_p dlA_IntRow_at_23 (i := 11) rfl) ?_
      refine zw_iret (S := []) (pc := 23) (ty := .int) rfl rfl (zdal_p dlA_IntRow_at_23 (i := 13) rfl) ⟨?_, rfl⟩
      unfold zat
      rw [if_pos ⟨hc_1, hc_10⟩]
theorem k_LongRow_at (l : Launch) (M : zMem) (q r n : Nat) (hk : (zsh M q).1 = 8 + 3) (hl : zf M q 0 = some r) (hr : zsh M r = (2, n)) (hn : n ≤ 65536) (x : Int) (hx : zn32 x) : zC l m_LongRow_at 0 0 [.ref q, .int (Int32.ofInt x)] M (fun v N => v = some (.long (Int64.ofInt (zatJ M r n x))) ∧ N = M) := by
  have hn32 : zn32 (n : Int) := ⟨by omega, by omega⟩
  refine zC_of (L0 := [some (.ref q), some (.int (Int32.ofInt x))]) md_LongRow_at (Nat.le_of_ble_eq_true rfl) rfl ?_ zQ0
  refine zw_iload_n (pc := 0) (n := 1) (x := Int32.ofInt x) rfl (zdal_p dlA_LongRow_at_129 (i := 0) rfl) ?_
  refine zr_if_lt (pc := 1) (tgt := 22) hx (by decide) (zdal_p dlA_LongRow_at_129 (i := 1) rfl) (fun hc_1 => ?_) (fun hc_1 => ?_)
  · refine zw_lconst (pc := 22) (v := Int64.ofInt 0) (by decide) (zdal_p dlA_LongRow_at_129 (i := 12) rfl) ?_
    refine zw_lret (S := []) (pc := 23) rfl (zdal_p dlA_LongRow_at_129 (i := 13) rfl) ⟨?_, rfl⟩
    unfold zatJ
    rw [if_neg (by omega)]
  · refine zw_iload_n (pc := 4) (n := 1) (x := Int32.ofInt x) rfl (zdal_p dlA_LongRow_at_129 (i := 2) rfl) ?_
    refine zw_aload_n (pc := 5) (n := 0) (x := q) rfl (zdal_p dlA_LongRow_at_129 (i := 3) rfl) ?_
    refine zw_getF (pc := 6) f_LongRow_13 rfl hk hl (zdal_p dlA_LongRow_at_129 (i := 4) rfl) ?_
    refine zw_alen (pc := 9) (Or.inr hr) (zdal_p dlA_LongRow_at_129 (i := 5) rfl) ?_
    rw [zk_nI hn]
    refine zr_icmp_ge (pc := 10) (tgt := 22) hx hn32 (by decide) (zdal_p dlA_LongRow_at_129 (i := 6) rfl) (fun hc_10 => ?_) (fun hc_10 => ?_)
    · refine zw_lconst (pc := 22) (v := Int64.ofInt 0) (by decide) (zdal_p dlA_LongRow_at_129 (i := 12) rfl) ?_
      refine zw_lret (S := []) (pc := 23) rfl (zdal_p dlA_LongRow_at_129 (i := 13) rfl) ⟨?_, rfl⟩
      unfold zatJ
      rw [if_neg (by omega)]
    · refine zw_aload_n (pc := 13) (n := 0) (x := q) rfl (zdal_p dlA_LongRow_at_129 (i := 7) rfl) ?_
      refine zw_getF (pc := 14) f_LongRow_13 rfl hk hl (zdal_p dlA_LongRow_at_129 (i := 8) rfl) ?_
      refine zw_iload_n (pc := 17) (n := 1) (x := Int32.ofInt x) rfl (zdal_p dlA_LongRow_at_129 (i := 9) rfl) ?_
      refine zr_lald (pc := 18) hr hn hc_1 hc_10 (zdal_p dlA_LongRow_at_129 (i := 10) rfl) ?_
      refine zw_goto (pc := 19) (tgt := 23) (by decide) (zdal_p dlA_LongRow_at_129 (i := 11) rfl) ?_
      refine zw_lret (S := []) (pc := 23) rfl (zdal_p dlA_LongRow_at_129 (i := 13) rfl) ⟨?_, rfl⟩
      unfold zatJ
      rw [if_pos ⟨hc_1, hc_10⟩]
theorem k_IntRow_put (l : Launch) (M : zMem) (q r n : Nat) (hk : (zsh M q).1 = 2 + 3) (hl : zf M q 0 = some r) (hr : zsh M r = (1, n)) (hn : n ≤ 65536) (x : Int) (hx : zn32 x) (v : Int) : zC l m_IntRow_put 0 0 [.ref q, .int (Int32.ofInt x), .int (Int32.ofInt v)] M (fun w N => w = none ∧ N = zpt M r n x v) := by
  have hn32 : zn32 (n : Int) := ⟨by omega, by omega⟩
  refine zC_of (L0 := [some (.ref q), some (.int (Int32.ofInt x)), some (.int (Int32.ofInt v))]) md_IntRow_put (Nat.le_of_ble_eq_true rfl) rfl ?_ zQ0
  refine zw_iload_n (pc := 0) (n := 1) (x := Int32.ofInt x) rfl (zdal_p dlA_IntRow_put_22 (i := 0) rfl) ?_
  refine zr_if_lt (pc := 1) (tgt := 20) hx (by decide) (zdal_p dlA_IntRow_put_22 (i := 1) rfl) (fun hc_1 => ?_) (fun hc_1 => ?_)
  · refine zw_vret (S := []) (pc := 20) rfl (zdal_p dlA_IntRow_put_22 (i := 12) rfl) ⟨rfl, ?_⟩
    unfold zpt
    rw [if_neg (by omega)]
  · refine zw_iload_n (pc := 4) (n := 1) (x := Int32.ofInt x) rfl (zdal_p dlA_IntRow_put_22 (i := 2) rfl) ?_
    refine zw_aload_n (pc := 5) (n := 0) (x := q) rfl (zdal_p dlA_IntRow_put_22 (i := 3) rfl) ?_
    refine zw_getF (pc := 6) f_IntRow_13 rfl hk hl (zdal_p dlA_IntRow_put_22 (i := 4) rfl) ?_
    refine zw_alen (pc := 9) (Or.inl hr) (zdal_p dlA_IntRow_put_22 (i := 5) rfl) ?_
    rw [zk_nI hn]
    refine zr_icmp_ge (pc := 10) (tgt := 20) hx hn32 (by decide) (zdal_p dlA_IntRow_put_22 (i := 6) rfl) (fun hc_10 => ?_) (fun hc_10 => ?_)
    · refine zw_vret (S := []) (pc := 20) rfl (zdal_p dlA_IntRow_put_22 (i := 12) rfl) ⟨rfl, ?_⟩
      unfold zpt
      rw [if_neg (by omega)]
    · obtain ⟨g1, g2⟩ := z_rin hc_1 hc_10 hn
      refine zw_aload_n (pc := 13) (n := 0) (x := q) rfl (zdal_p dlA_IntRow_put_22 (i := 7) rfl) ?_
      refine zw_getF (pc := 14) f_IntRow_13 rfl hk hl (zdal_p dlA_IntRow_put_22 (i := 8) rfl) ?_
      refine zw_iload_n (pc := 17) (n := 1) (x := Int32.ofInt x) rfl (zdal_p dlA_IntRow_put_22 (i := 9) rfl) ?_
      refine zw_iload_n (pc := 18) (n := 2) (x := Int32.ofInt v) rfl (zdal_p dlA_IntRow_put_22 (i := 10) rfl) ?_
      refine zw_iast (pc := 19) hr g1 (zdal_p dlA_IntRow_put_22 (i := 11) rfl) ?_
      rw [g2]
      refine zw_vret (S := []) (pc := 20) rfl (zdal_p dlA_IntRow_put_22 (i := 12) rfl) ⟨rfl, ?_⟩
      unfold zpt
      rw [if_pos ⟨hc_1, hc_10⟩]
theorem k_LongRow_put (l : Launch) (M : zMem) (q r n : Nat) (hk : (zsh M q).1 = 8 + 3) (hl : zf M q 0 = some r) (hr : zsh M r = (2, n)) (hn : n ≤ 65536) (x : Int) (hx : zn32 x) (v : Int) : zC l m_LongRow_put 0 0 [.ref q, .int (Int32.ofInt x), .long (Int64.ofInt v)] M (fun w N => w = none ∧ N = zptJ M r n x v) := by
  have hn32 : zn32 (n : Int) := ⟨by omega, by omega⟩
  refine zC_of (L0 := [some (.ref q), some (.int (Int32.ofInt x)), some (.long (Int64.ofInt v)), none]) md_LongRow_put (Nat.le_of_ble_eq_true rfl) rfl ?_ zQ0
  refine zw_iload_n (pc := 0) (n := 1) (x := Int32.ofInt x) rfl (zdal_p dlA_LongRow_put_62 (i := 0) rfl) ?_
  refine zr_if_lt (pc := 1) (tgt := 20) hx (by decide) (zdal_p dlA_LongRow_put_62 (i := 1) rfl) (fun hc_1 => ?_) (fun hc_1 => ?_)
  · refine zw_vret (S := []) (pc := 20) rfl (zdal_p dlA_LongRow_put_62 (i := 12) rfl) ⟨rfl, ?_⟩
    unfold zptJ
    rw [if_neg (by omega)]
  · refine zw_iload_n (pc := 4) (n := 1) (x := Int32.ofInt x) rfl (zdal_p dlA_LongRow_put_62 (i := 2) rfl) ?_
    refine zw_aload_n (pc := 5) (n := 0) (x := q) rfl (zdal_p dlA_LongRow_put_62 (i := 3) rfl) ?_
    refine zw_getF (pc := 6) f_LongRow_13 rfl hk hl (zdal_p dlA_LongRow_put_62 (i := 4) rfl) ?_
    refine zw_alen (pc := 9) (Or.inr hr) (zdal_p dlA_LongRow_put_62 (i := 5) rfl) ?_
    rw [zk_nI hn]
    refine zr_icmp_ge (pc := 10) (tgt := 20) hx hn32 (by decide) (zdal_p dlA_LongRow_put_62 (i := 6) rfl) (fun hc_10 => ?_) (fun hc_10 => ?_)
    · refine zw_vret (S := []) (pc := 20) rfl (zdal_p dlA_LongRow_put_62 (i := 12) rfl) ⟨rfl, ?_⟩
      unfold zptJ
      rw [if_neg (by omega)]
    · obtain ⟨g1, g2⟩ := z_rin hc_1 hc_10 hn
      refine zw_aload_n (pc := 13) (n := 0) (x := q) rfl (zdal_p dlA_LongRow_put_62 (i := 7) rfl) ?_
      refine zw_getF (pc := 14) f_LongRow_13 rfl hk hl (zdal_p dlA_LongRow_put_62 (i := 8) rfl) ?_
      refine zw_iload_n (pc := 17) (n := 1) (x := Int32.ofInt x) rfl (zdal_p dlA_LongRow_put_62 (i := 9) rfl) ?_
      refine zw_lload_n (pc := 18) (n := 2) (x := Int64.ofInt v) rfl (zdal_p dlA_LongRow_put_62 (i := 10) rfl) ?_
      refine zw_last (pc := 19) hr g1 (zdal_p dlA_LongRow_put_62 (i := 11) rfl) ?_
      rw [g2]
      refine zw_vret (S := []) (pc := 20) rfl (zdal_p dlA_LongRow_put_62 (i := 12) rfl) ⟨rfl, ?_⟩
      unfold zptJ
      rw [if_pos ⟨hc_1, hc_10⟩]
section ZKC
variable {l : Launch} {k : zMeth} {X : Nat × Nat} {M : zMem} {pc : Nat} {L : List (Option Value)} {S : List Value} {Q : Option Value → zMem → Prop} {a b : Int} {d : Nat}
theorem zk_callV (hX : zn M ≤ X.1 ∧ zw M ≤ X.2) {k' : zMeth} {Q' : Option Value → zMem → Prop} {ix q : Nat} (vs rest : List Value) (hl' : zMLV (zo k) ix k') (hC : zC l k' 0 0 (.ref q :: vs) M Q') (hS : S = vs.reverse ++ .ref q :: rest) (hn : vs.length = zna k') (hb : (zsh M q).1 = zo k' + 3) (h12 : zo k' < 12) (hR : zF k' + 1 ≤ zF k ∧ 8 + (zl k' + 11) + zLo k' ≤ zLo k) (hc8 : (rest.map fun v => v.category).sum ≤ 8) (hd : decode (zb k) pc = .ok (.invokevirtual ix, 3))
    (kk : ∀ (r : Option Value) (M' : zMem), Q' r M' → zW l k X M' (pc + 3) L (r.toList ++ rest) Q) : zW l k X M pc L S Q :=
  zw_callV vs rest hl' hC hS hn hb h12 hR hX hc8 hd (fun r M' h _ _ => kk r M' h)
theorem zk_at (hX : zn M ≤ X.1 ∧ zw M ≤ X.2) {ix q r n : Nat} {x : Int} (hl' : zMLV (zo k) ix m_IntRow_at) (hk : (zsh M q).1 = 2 + 3) (hl : zf M q 0 = some r) (hr : zsh M r = (1, n)) (hn : n ≤ 65536) (h0 : 0 ≤ x) (h1 : x < n) (hR : zF m_IntRow_at + 1 ≤ zF k ∧ 8 + (zl m_IntRow_at + 11) + zLo m_IntRow_at ≤ zLo k) (hc8 : (S.map fun v => v.category).sum ≤ 8) (hd : decode (zb k) pc = .ok (.invokevirtual ix, 3))
    (kk : ∀ v : Int, v = ze M r x.toNat → -2147483648 ≤ v → v < 2147483648 → zW l k X M (pc + 3) L (.int (Int32.ofInt v) :: S) Q) : zW l k X M pc L (.int (Int32.ofInt x) :: .ref q :: S) Q := by
  refine zk_callV hX [.int (Int32.ofInt x)] S hl' (k_IntRow_at l M q r n hk hl hr hn x ⟨by omega, by omega⟩) rfl rfl hk (by decide) hR hc8 hd ?_
  rintro _ N1_ ⟨rfl, e1_⟩
  rw [e1_]
  have e : zat M r n x = ze M r x.toNat := by
    unfold zat
    rw [if_pos ⟨h0, h1⟩]
  rw [e]
  exact kk _ rfl (ze_r M r _).1 (ze_r M r _).2
theorem zk_atG (hX : zn M ≤ X.1 ∧ zw M ≤ X.2) {ix q r n : Nat} {x : Int} (hl' : zMLV (zo k) ix m_IntRow_at) (hk : (zsh M q).1 = 2 + 3) (hl : zf M q 0 = some r) (hr : zsh M r = (1, n)) (hn : n ≤ 65536) (hx : zn32 x) (hR : zF m_IntRow_at + 1 ≤ zF k ∧ 8 + (zl m_IntRow_at + 11) + zLo m_IntRow_at ≤ zLo k) (hc8 : (S.map fun v => v.category).sum ≤ 8) (hd : decode (zb k) pc = .ok (.invokevirtual ix, 3))
    (kk : ∀ v : Int, v = zat M r n x → -2147483648 ≤ v → v < 2147483648 → zW l k X M (pc + 3) L (.int (Int32.ofInt v) :: S) Q) : zW l k X M pc L (.int (Int32.ofInt x) :: .ref q :: S) Q := by
  refine zk_callV hX [.int (Int32.ofInt x)] S hl' (k_IntRow_at l M q r n hk hl hr hn x hx) rfl rfl hk (by decide) hR hc8 hd ?_
  rintro _ N1_ ⟨rfl, e1_⟩
  rw [e1_]
  have e : -2147483648 ≤ zat M r n x ∧ zat M r n x < 2147483648 := by
    unfold zat
    split
    · exact ze_r M r _
    · omega
  exact kk _ rfl e.1 e.2
theorem zk_atJ (hX : zn M ≤ X.1 ∧ zw M ≤ X.2) {ix q r n : Nat} {x : Int} (hl' : zMLV (zo k) ix m_LongRow_at) (hk : (zsh M q).1 = 8 + 3) (hl : zf M q 0 = some r) (hr : zsh M r = (2, n)) (hn : n ≤ 65536) (h0 : 0 ≤ x) (h1 : x < n) (hR : zF m_LongRow_at + 1 ≤ zF k ∧ 8 + (zl m_LongRow_at + 11) + zLo m_LongRow_at ≤ zLo k) (hc8 : (S.map fun v => v.category).sum ≤ 8) (hd : decode (zb k) pc = .ok (.invokevirtual ix, 3))
    (kk : ∀ v : Int, v = zg M r x.toNat → -9223372036854775808 ≤ v → v < 9223372036854775808 → zW l k X M (pc + 3) L (.long (Int64.ofInt v) :: S) Q) : zW l k X M pc L (.int (Int32.ofInt x) :: .ref q :: S) Q := by
  refine zk_callV hX [.int (Int32.ofInt x)] S hl' (k_LongRow_at l M q r n hk hl hr hn x ⟨by omega, by omega⟩) rfl rfl hk (by decide) hR hc8 hd ?_
  rintro _ N1_ ⟨rfl, e1_⟩
  rw [e1_]
  have e : zatJ M r n x = zg M r x.toNat := by
    unfold zatJ
    rw [if_pos ⟨h0, h1⟩]
  rw [e]
  exact kk _ rfl (zg_r M r _).1 (zg_r M r _).2
theorem zk_st (hX : zn M ≤ X.1 ∧ zw M ≤ X.2) {ix q o n : Nat} {x v : Int} (ho : o < 38) (hl' : zMLV (zo k) ix m_IntRow_put) (hk : (zsh M q).1 = 2 + 3) (hl : zf M q 0 = some (d + o)) (hr : zsh M (d + o) = (1, n)) (hn : n ≤ 65536) (h0 : 0 ≤ x) (h1 : x < n) (hR : zF m_IntRow_put + 1 ≤ zF k ∧ 8 + (zl m_IntRow_put + 11) + zLo m_IntRow_put ≤ zLo k) (hc8 : (S.map fun v => v.category).sum ≤ 8) (hd : decode (zb k) pc = .ok (.invokevirtual ix, 3))
    (kk : ∀ N : zMem, N = zsI M (d + o) x.toNat (Int32.ofInt v) → zFc d [] [] [] [o] M N → zW l k X N (pc + 3) L S Q) : zW l k X M pc L (.int (Int32.ofInt v) :: .int (Int32.ofInt x) :: .ref q :: S) Q := by
  refine zk_callV hX [.int (Int32.ofInt x), .int (Int32.ofInt v)] S hl' (k_IntRow_put l M q (d + o) n hk hl hr hn x ⟨by omega, by omega⟩ v) rfl rfl hk (by decide) hR hc8 hd ?_
  rintro _ _ ⟨rfl, rfl⟩
  have e : zpt M (d + o) n x v = zsI M (d + o) x.toNat (Int32.ofInt v) := by
    unfold zpt
    rw [if_pos ⟨h0, h1⟩]
  rw [e]
  exact kk _ rfl (zFc.sR ho)
theorem zk_stA (hX : zn M ≤ X.1 ∧ zw M ≤ X.2) (hW : zKW d M) {ix q r n : Nat} {x v : Int} (ho : r < 5) (hl' : zMLV (zo k) ix m_IntRow_put) (hk : (zsh M q).1 = 2 + 3) (hl : zf M q 0 = some r) (hr : zsh M r = (1, n)) (hn : n ≤ 65536) (h0 : 0 ≤ x) (h1 : x < n) (hR : zF m_IntRow_put + 1 ≤ zF k ∧ 8 + (zl m_IntRow_put + 11) + zLo m_IntRow_put ≤ zLo k) (hc8 : (S.map fun v => v.category).sum ≤ 8) (hd : decode (zb k) pc = .ok (.invokevirtual ix, 3))
    (kk : ∀ N : zMem, N = zsI M r x.toNat (Int32.ofInt v) → zFc d [] [r] [] [] M N → zW l k X N (pc + 3) L S Q) : zW l k X M pc L (.int (Int32.ofInt v) :: .int (Int32.ofInt x) :: .ref q :: S) Q := by
  refine zk_callV hX [.int (Int32.ofInt x), .int (Int32.ofInt v)] S hl' (k_IntRow_put l M q r n hk hl hr hn x ⟨by omega, by omega⟩ v) rfl rfl hk (by decide) hR hc8 hd ?_
  rintro _ _ ⟨rfl, rfl⟩
  have e : zpt M r n x v = zsI M r x.toNat (Int32.ofInt v) := by
    unfold zpt
    rw [if_pos ⟨h0, h1⟩]
  rw [e]
  exact kk _ rfl (zFc.sA hW ho)
theorem zk_stJ (hX : zn M ≤ X.1 ∧ zw M ≤ X.2) {ix q o n : Nat} {x v : Int} (ho : o < 38) (hl' : zMLV (zo k) ix m_LongRow_put) (hk : (zsh M q).1 = 8 + 3) (hl : zf M q 0 = some (d + o)) (hr : zsh M (d + o) = (2, n)) (hn : n ≤ 65536) (h0 : 0 ≤ x) (h1 : x < n) (hR : zF m_LongRow_put + 1 ≤ zF k ∧ 8 + (zl m_LongRow_put + 11) + zLo m_LongRow_put ≤ zLo k) (hc8 : (S.map fun v => v.category).sum ≤ 8) (hd : decode (zb k) pc = .ok (.invokevirtual ix, 3))
    (kk : ∀ N : zMem, N = zsJ M (d + o) x.toNat (Int64.ofInt v) → zFc d [] [] [] [o] M N → zW l k X N (pc + 3) L S Q) : zW l k X M pc L (.long (Int64.ofInt v) :: .int (Int32.ofInt x) :: .ref q :: S) Q := by
  refine zk_callV hX [.int (Int32.ofInt x), .long (Int64.ofInt v)] S hl' (k_LongRow_put l M q (d + o) n hk hl hr hn x ⟨by omega, by omega⟩ v) rfl rfl hk (by decide) hR hc8 hd ?_
  rintro _ _ ⟨rfl, rfl⟩
  have e : zptJ M (d + o) n x v = zsJ M (d + o) x.toNat (Int64.ofInt v) := by
    unfold zptJ
    rw [if_pos ⟨h0, h1⟩]
  rw [e]
  exact kk _ rfl (zFc.sRJ ho)
theorem zk_iret {FA : List (Nat × Nat)} {CA : List Nat} {FR : List (Nat × Nat)} {CR : List Nat} {M0 : zMem} {P : Int → zMem → Prop} {ty : FieldType} (hr : zr k = some ty) (hn : narrow ty (.int (Int32.ofInt a)) = .int (Int32.ofInt a)) (ha : zn32 a) (hf : zFc d FA CA FR CR M0 M) (hP : P a M) (hd : decode (zb k) pc = .ok (.ireturn, 1)) : zW l k X M pc L [.int (Int32.ofInt a)] (zqcI d FA CA FR CR M0 P) := zw_iret (S := []) hr hn hd ⟨a, rfl, ha, hf, hP⟩
theorem zk_lret {FA : List (Nat × Nat)} {CA : List Nat} {FR : List (Nat × Nat)} {CR : List Nat} {M0 : zMem} {P : Int → zMem → Prop} (hr : zr k = some .long) (ha : zn64 a) (hf : zFc d FA CA FR CR M0 M) (hP : P a M) (hd : decode (zb k) pc = .ok (.lreturn, 1)) : zW l k X M pc L [.long (Int64.ofInt a)] (zqcJ d FA CA FR CR M0 P) := zw_lret (S := []) hr hd ⟨a, rfl, ha, hf, hP⟩
theorem zk_vret {FA : List (Nat × Nat)} {CA : List Nat} {FR : List (Nat × Nat)} {CR : List Nat} {M0 : zMem} {P : zMem → Prop} (hr : zr k = none) (hf : zFc d FA CA FR CR M0 M) (hP : P M) (hd : decode (zb k) pc = .ok (.return_, 1)) : zW l k X M pc L [] (zqcV d FA CA FR CR M0 P) := zw_vret (S := []) hr hd ⟨rfl, hf, hP⟩
end ZKC
