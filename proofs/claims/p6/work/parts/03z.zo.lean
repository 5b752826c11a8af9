theorem zo_0 {x0 : Int} (h0 : x0 ≤ 24) : x0 ≤ 24 := by omega
theorem zo_1 {x0 : Int} (h0 : 0 < x0) : 1 ≤ x0 := by omega
theorem zo_2 {x0 : Int} (h0 : 0 < x0) : ((x0 - 1).toNat : Int) < x0 := by omega
theorem zo_3 {x0 : Int} (h0 : 0 < x0) : -2147483648 ≤ x0 - 1 := by omega
theorem zo_4 {x0 : Int} (h0 : x0 ≤ 24) : x0 - 1 < 2147483648 := by omega
theorem zo_5 {x0 x1 : Int} {x2 : Nat} (h0 : x0 = x1) (h1 : x1 = (x2 : Int)) (h2 : -2147483648 ≤ x1) : -2147483648 ≤ x0 - 1 := by omega
theorem zo_6 {x0 x1 : Int} (h0 : x0 = x1) (h1 : x1 < 2147483648) : x0 - 1 < 2147483648 := by omega
theorem zo_7 {x0 : Int} {x1 : Nat} (h0 : x0 = (x1 : Int) + 1) : 21 ≤ 20 + x0 := by omega
theorem zo_8 {x0 : Int} : 20 + x0 < 21 + x0 := by omega
theorem zo_9 {x0 x1 x2 : Int} {x3 : Nat} (h0 : x0 = x1) (h1 : x2 = x0) (h2 : x1 = (x3 : Int) + 1) : 0 ≤ x2 := by omega
theorem zo_10 {x0 x1 x2 : Int} {x3 x4 x5 : Nat} (h0 : x0 = x1) (h1 : x2 = x0) (h2 : x3 ≤ 3 * x4 + 2) (h3 : x5 + x4 = x3) (h4 : x3 ≤ 23) (h5 : x1 = (x5 : Int) + 1) : x2 ≤ 18 := by omega
theorem zo_11 {x0 x1 x2 x3 : Int} {x4 : Nat} (h0 : x0 = x1) (h1 : x2 = x0) (h2 : x3 = 20 + x2) (h3 : x3 < 2147483648) (h4 : x1 = (x4 : Int) + 1) : x3 = 20 + x1 := by omega
theorem zo_12 {x0 : Int} {x1 : Nat} (h0 : x0 = (x1 : Int) + 1) : -2147483648 ≤ 20 + x0 := by omega
theorem zo_13 {x0 x1 : Int} {x2 x3 x4 : Nat} (h0 : x0 = x1) (h1 : x2 + x3 = x4) (h2 : x4 ≤ 23) (h3 : x0 = (x2 : Int) + 1) (h4 : x1 < 2147483648) : 20 + x0 < 2147483648 := by omega
theorem zo_14 {x0 : Int} {x1 : Nat} (h0 : x0 = (x1 : Int) + 1) : 0 ≤ 20 + x0 := by omega
theorem zo_15 {x3 : Int} {x0 x1 x2 : Nat} (h0 : x0 ≤ 3 * x1 + 2) (h1 : x2 + x1 = x0) (h2 : x0 ≤ 23) (h3 : x3 = (x2 : Int) + 1) : 20 + x3 ≤ 39 := by omega
theorem zo_16 {x0 : Int} (h0 : 21 ≤ x0) : 0 ≤ x0 := by omega
theorem zo_17 {x0 x1 : Int} (h0 : x0 = 126) (h1 : x0 = x1) : 126 = x1 := by omega
theorem zo_18 {x0 x1 x2 x3 : Int} (h0 : x0 = x1) (h1 : x2 = x0) (h2 : 0 < x3) (h3 : x1 = x3 - 1) (h4 : x1 < 2147483648) : x2 = x3 - 1 := by omega
theorem zo_19 {x0 x1 x2 x3 : Int} (h0 : x0 = x1) (h1 : x2 = x0) (h2 : x3 = x2) : x3 = x1 := by omega
theorem zo_20 {x0 x1 x2 x3 : Int} {x4 : Nat} (h0 : x0 = x1) (h1 : x2 = x3) (h2 : x3 = x0 - 1) (h3 : x1 = (x4 : Int)) (h4 : x3 < 2147483648) : x2 = x1 - 1 := by omega
theorem zo_21 {x0 x1 x2 x3 : Int} (h0 : x0 = x1) (h1 : x2 = x0) (h2 : x3 = x2) : x3 = x1 - 0 := by omega
theorem zo_22 {x0 : Int} {x1 : Nat} (h0 : x0 = (x1 : Int) + 1) : 1 ≤ x0 := by omega
theorem zo_23 {x0 x1 : Int} (h0 : x0 < 20 + x1) : x0 ≠ 20 + x1 := by omega
theorem zo_24 {x0 x1 x2 x3 : Int} {x4 : Nat} (h0 : x0 = x1) (h1 : x2 = x0) (h2 : 0 < x3) (h3 : x3.toNat < x4 + 1) (h4 : x1 = x3 - 1) (h5 : x3 ≤ 24) : x2.toNat < x4 := by omega
theorem zo_25 {x0 : Int} {x1 : Nat} (h0 : x0 ≤ 1) (h1 : x0 = (x1 : Int) + 1) : x1 = 0 := by omega
theorem zo_26 {x0 x1 x2 : Int} (h0 : x0 = x1) (h1 : x2 = x1) (h2 : x2 ≠ 40) : x0 ≠ 40 := by omega
theorem zo_27 {x0 : Int} (h0 : 1 < x0) : 0 ≤ x0 := by omega
theorem zo_28 {x3 : Int} {x0 x1 x2 : Nat} (h0 : x0 ≤ 3 * x1 + 2) (h1 : x2 + x1 = x0) (h2 : x0 ≤ 23) (h3 : x3 = (x2 : Int) + 1) : x3 ≤ 18 := by omega
theorem zo_29 {x0 x1 : Int} (h0 : x0 = x1) (h1 : 1 < x1) : -2147483648 ≤ x0 - 1 := by omega
theorem zo_30 {x0 : Int} (h0 : 1 < x0) : 21 ≤ 20 + x0 := by omega
theorem zo_31 {x0 : Int} (h0 : 1 < x0) : 2 ≤ x0 := by omega
theorem zo_32 {x0 : Int} (h0 : 1 < x0) : 21 ≤ 19 + x0 := by omega
theorem zo_33 {x0 : Int} : 19 + x0 < 21 + x0 := by omega
theorem zo_34 {x0 x1 x2 : Int} (h0 : x0 = x1) (h1 : 1 < x1) (h2 : x2 = x0 - 1) (h3 : -2147483648 ≤ x2) : 0 ≤ x2 := by omega
theorem zo_35 {x0 x1 x5 : Int} {x2 x3 x4 : Nat} (h0 : x0 = x1) (h1 : x2 ≤ 3 * x3 + 2) (h2 : x4 + x3 = x2) (h3 : x2 ≤ 23) (h4 : x5 = x0 - 1) (h5 : x1 = (x4 : Int) + 1) : x5 ≤ 18 := by omega
theorem zo_36 {x0 x1 x2 x3 : Int} (h0 : x0 = x1) (h1 : 1 < x1) (h2 : x2 = 20 + x3) (h3 : x2 < 2147483648) (h4 : x3 = x0 - 1) : x2 = 19 + x1 := by omega
theorem zo_37 {x0 : Int} (h0 : 1 < x0) : -2147483648 ≤ 19 + x0 := by omega
theorem zo_38 {x3 : Int} {x0 x1 x2 : Nat} (h0 : x0 + x1 = x2) (h1 : x2 ≤ 23) (h2 : x3 = (x0 : Int) + 1) (h3 : x3 < 2147483648) : 19 + x3 < 2147483648 := by omega
theorem zo_39 {x0 : Int} (h0 : 1 < x0) : -2147483648 ≤ 20 + x0 := by omega
theorem zo_40 {x3 : Int} {x0 x1 x2 : Nat} (h0 : x0 + x1 = x2) (h1 : x2 ≤ 23) (h2 : x3 = (x0 : Int) + 1) (h3 : x3 < 2147483648) : 20 + x3 < 2147483648 := by omega
theorem zo_41 {x0 : Int} (h0 : 1 < x0) : 0 ≤ 19 + x0 := by omega
theorem zo_42 {x3 : Int} {x0 x1 x2 : Nat} (h0 : x0 ≤ 3 * x1 + 2) (h1 : x2 + x1 = x0) (h2 : x0 ≤ 23) (h3 : x3 = (x2 : Int) + 1) : 19 + x3 ≤ 39 := by omega
theorem zo_43 {x0 : Int} (h0 : 1 < x0) : 0 ≤ 20 + x0 := by omega
theorem zo_44 {x0 : Int} : 19 + x0 ≠ 20 + x0 := by omega
theorem zo_45 {x0 x1 x2 x3 : Int} (h0 : x0 = x1) (h1 : x2 = x3) (h2 : 1 < x1) (h3 : x3 = x0 - 1) (h4 : -2147483648 ≤ x3) : 0 ≤ x2 := by omega
theorem zo_46 {x0 x1 x2 x3 : Int} {x4 x5 x6 : Nat} (h0 : x0 = x1) (h1 : x2 = x3) (h2 : x4 ≤ 3 * x5 + 2) (h3 : x6 + x5 = x4) (h4 : x4 ≤ 23) (h5 : x3 = x0 - 1) (h6 : x1 = (x6 : Int) + 1) : x2 ≤ 18 := by omega
theorem zo_47 {x0 x1 x2 x3 x4 : Int} (h0 : x0 = x1) (h1 : x2 = x3) (h2 : 1 < x1) (h3 : x4 = 20 + x2) (h4 : x4 < 2147483648) (h5 : x3 = x0 - 1) : x4 = 19 + x1 := by omega
theorem zo_48 {x0 x1 x2 x3 : Int} (h0 : x0 = x1) (h1 : x2 = x3) (h2 : 1 < x1) (h3 : x3 = x0 - 1) (h4 : -2147483648 ≤ x3) : 1 ≤ x2 := by omega
theorem zo_49 {x0 x1 x2 x3 x4 : Int} (h0 : x0 = x1) (h1 : x2 = x3) (h2 : 1 < x1) (h3 : x4 = 20 + x2) (h4 : x4 < 2147483648) (h5 : x3 = x0 - 1) : 20 + x2 = 19 + x1 := by omega
theorem zo_50 {x0 x1 x2 x3 x4 : Int} (h0 : x0 = x1) (h1 : x2 = x0) (h2 : x3 = x2) (h3 : 0 < x4) (h4 : x1 = x4 - 1) (h5 : x1 < 2147483648) : x3 = x4 - 1 := by omega
theorem zo_51 {x0 x1 x2 x3 x4 x5 : Int} (h0 : x0 = x1) (h1 : x2 = x3) (h2 : x4 = x2) (h3 : 1 < x1) (h4 : x5 = 20 + x2) (h5 : x5 < 2147483648) (h6 : x3 = x0 - 1) : x4 = x1 - 1 := by omega
theorem zo_52 {x0 x1 x2 x3 x4 : Int} (h0 : x0 = x1) (h1 : x2 = x0) (h2 : x3 = x2) (h3 : x4 = x3) : x4 = x1 := by omega
theorem zo_53 {x0 x1 x2 : Int} (h0 : x0 = x1) (h1 : x2 = x0) : x2 = x1 := by omega
theorem zo_54 {x0 x1 x2 x3 x4 : Int} {x5 : Nat} (h0 : x0 = x1) (h1 : x2 = x0) (h2 : x3 = x2) (h3 : 0 < x4) (h4 : x4.toNat < x5 + 1) (h5 : x1 = x4 - 1) (h6 : x4 ≤ 24) : x3.toNat < x5 := by omega
theorem zo_55 {x0 x1 x2 x3 : Int} (h0 : x0 = x1) (h1 : x2 = x3) (h2 : 1 < x1) (h3 : x3 = x0 - 1) (h4 : x3 < 2147483648) : 20 + x2 = 19 + x1 := by omega
theorem zo_56 {x0 x1 x2 x3 x4 : Int} (h0 : x0 = x1) (h1 : x2 = x3) (h2 : x4 = x2) (h3 : 1 < x1) (h4 : x3 = x0 - 1) (h5 : x3 < 2147483648) : x4 = x1 - 1 := by omega
theorem zo_57 {x0 : Int} (h0 : 0 ≤ x0) : 0 ≤ x0 := by omega
theorem zo_58 {x0 : Int} {x1 : Nat} (h0 : x0 = (x1 : Int)) (h1 : x1 ≤ 23) (h2 : x0 ≤ 24) : x0 ≤ 23 := by omega
theorem zo_59 {x0 : Int} (h0 : x0 ≠ 42) : ¬ (x0 = 42) := by omega
theorem zo_60 {x0 : Int} (h0 : 1 ≤ x0) : ((x0 - 1).toNat : Int) < x0 := by omega
theorem zo_61 {x0 : Int} (h0 : 1 ≤ x0) (h1 : x0 ≤ 0) : False := by omega
theorem zo_62 {x0 : Int} : x0 = x0 := by omega
theorem zo_63 {x0 : Int} (h0 : 1 ≤ x0) : -2147483648 ≤ x0 - 1 := by omega
theorem zo_64 {x0 x1 x2 : Int} {x3 : Nat} (h0 : x0 = x1) (h1 : x2 = x0) (h2 : x1 = (x3 : Int)) (h3 : -2147483648 ≤ x1) : -2147483648 ≤ x2 - 1 := by omega
theorem zo_65 {x0 x1 x2 : Int} (h0 : x0 = x1) (h1 : x2 = x0) (h2 : x1 < 2147483648) : x2 - 1 < 2147483648 := by omega
theorem zo_66 {x0 x1 x2 x3 : Int} (h0 : x0 = x1) (h1 : x2 = x0) (h2 : x1 = x3 - 1) : x2 = x3 - 1 := by omega
theorem zo_67 {x0 x1 x2 x3 : Int} {x4 : Nat} (h0 : x0 = x1) (h1 : x2 = x0) (h2 : x3 = x2 - 1) (h3 : x1 = (x4 : Int)) (h4 : x3 < 2147483648) : x3 = x1 - 1 := by omega
theorem zo_68 {x0 : Int} : x0 ≤ (x0.toNat : Int) := by omega
theorem zo_69 {x1 x2 : Int} {x0 : Nat} (h0 : x0 ≤ 27) (h1 : x1 = (x0 : Int)) (h2 : x1 ≤ x2) (h3 : x2 < 2147483648) (h4 : 0 ≤ x2) (h5 : x2 ≤ (x0 : Int)) : (x0 : Int) = x2 := by omega
theorem zo_70 {x1 : Int} {x0 : Nat} (h0 : x0 ≤ 27) (h1 : x1 < 2147483648) (h2 : x1 ≤ (x0 : Int)) : x1 < (64 : Int) := by omega
theorem zo_71 {x0 x1 : Int} (h0 : x0 = 1 ∧ 0 < x1 ∨ x0 = 0 ∧ x1 = 0 ∨ x0 = -1 ∧ x1 < 0) : -2147483648 ≤ x0 := by omega
theorem zo_72 {x0 x1 : Int} (h0 : x0 = 1 ∧ 0 < x1 ∨ x0 = 0 ∧ x1 = 0 ∨ x0 = -1 ∧ x1 < 0) : x0 < 2147483648 := by omega
theorem zo_73 {x0 x2 : Int} {x1 : Nat} (h0 : x0 = (x1 : Int)) (h1 : x2 < x0) (h2 : x2 < 2147483648) (h3 : 0 ≤ x2) (h4 : x2 ≤ (x1 : Int)) : x2.toNat < x1 := by omega
theorem zo_74 {x0 : Int} (h0 : 0 ≤ x0) : -2147483648 ≤ x0 + 1 := by omega
theorem zo_75 {x1 : Int} {x0 : Nat} (h0 : x0 ≤ 27) (h1 : x1 < 2147483648) (h2 : x1 ≤ (x0 : Int)) : x1 + 1 < 2147483648 := by omega
theorem zo_76 {x0 : Int} (h0 : 0 ≤ x0) : 0 ≤ x0 + 1 := by omega
theorem zo_77 {x0 x2 : Int} {x1 : Nat} (h0 : x0 = (x1 : Int)) (h1 : x2 < x0) (h2 : x2 < 2147483648) (h3 : x2 ≤ (x1 : Int)) : x2 + 1 ≤ (x1 : Int) := by omega
theorem zo_78 {x0 x2 : Int} {x1 x3 : Nat} (h0 : x0 = (x1 : Int)) (h1 : x2 < x0) (h2 : ((x1 : Int) - x2).toNat < x3 + 1) (h3 : x2 < 2147483648) (h4 : x2 ≤ (x1 : Int)) : ((x1 : Int) - (x2 + 1)).toNat < x3 := by omega
theorem zo_79 {x0 : Int} (h0 : -9223372036854775808 ≤ x0) : -9223372036854775808 ≤ x0 := by omega
theorem zo_80 {x0 : Int} (h0 : x0 < 9223372036854775808) : x0 < 9223372036854775808 := by omega
theorem zo_81 {x0 x1 x2 : Int} (h0 : x0 = 1 ∧ x1 < x2 ∨ x0 = 0 ∧ x2 = x1 ∨ x0 = -1 ∧ x2 < x1) : -2147483648 ≤ x0 := by omega
theorem zo_82 {x0 x1 x2 : Int} (h0 : x0 = 1 ∧ x1 < x2 ∨ x0 = 0 ∧ x2 = x1 ∨ x0 = -1 ∧ x2 < x1) : x0 < 2147483648 := by omega
theorem zo_83 {x0 : Int} (h0 : x0 = 1) : x0 ≠ 0 := by omega
theorem zo_84 {x0 : Int} (h0 : x0 < 9223372036854775808) : -9223372036854775808 ≤ -x0 := by omega
theorem zo_85 {x0 : Nat} : 0 ≤ (x0 : Int) := by omega
theorem zo_86 {x0 : Int} (h0 : 2 ≤ x0) : 0 ≤ x0 - 2 := by omega
theorem zo_87 {x0 : Int} : x0 - 2 < x0 := by omega
theorem zo_88 {x0 : Int} (h0 : 2 ≤ x0) : 0 ≤ x0 - 1 := by omega
theorem zo_89 {x0 : Int} : x0 - 1 < x0 := by omega
theorem zo_90 {x0 : Int} (h0 : 2 ≤ x0) : -2147483648 ≤ x0 - 2 := by omega
theorem zo_91 {x0 : Int} (h0 : x0 ≤ 40) : x0 - 2 < 2147483648 := by omega
theorem zo_92 {x0 : Int} (h0 : x0 ≤ 40) : x0 - 2 ≤ 39 := by omega
theorem zo_93 {x0 x1 : Int} (h0 : x0 = x1) (h1 : 2 ≤ x1) : -2147483648 ≤ x0 - 1 := by omega
theorem zo_94 {x0 x1 : Int} (h0 : x0 = x1) (h1 : x1 ≤ 40) : x0 - 1 < 2147483648 := by omega
theorem zo_95 {x0 x1 : Int} (h0 : x0 = x1) (h1 : 2 ≤ x1) : 0 ≤ x0 - 1 := by omega
theorem zo_96 {x0 x1 : Int} (h0 : x0 = x1) (h1 : x1 ≤ 40) : x0 - 1 ≤ 39 := by omega
theorem zo_97 {x0 x1 x2 : Int} (h0 : x0 = x1) (h1 : x2 = x0) (h2 : x2 = 0) (h3 : -2147483648 ≤ x1) (h4 : x1 < 2147483648) : x1 = 0 := by omega
theorem zo_98 {x0 x1 x2 x3 : Int} (h0 : x0 = x1) (h1 : x2 = x0) (h2 : x3 = x2) (h3 : 2 ≤ x1) : -2147483648 ≤ x3 - 1 := by omega
theorem zo_99 {x0 x1 x2 x3 : Int} (h0 : x0 = x1) (h1 : x2 = x0) (h2 : x3 = x2) (h3 : x1 ≤ 40) : x3 - 1 < 2147483648 := by omega
theorem zo_100 {x0 x1 x2 x3 x4 : Int} (h0 : x0 = x1) (h1 : x2 = x0) (h2 : x3 = x2) (h3 : x4 = x3 - 1) (h4 : 2 ≤ x1) (h5 : -2147483648 ≤ x4) : -2147483648 ≤ 64 * (x4 - 1) := by omega
theorem zo_101 {x0 x1 x2 x3 x4 : Int} (h0 : x0 = x1) (h1 : x2 = x0) (h2 : x3 = x2) (h3 : x4 = x3 - 1) (h4 : x1 ≤ 40) (h5 : x4 < 2147483648) : 64 * (x4 - 1) < 2147483648 := by omega
theorem zo_102 {x0 x1 x2 x3 x4 : Int} (h0 : x0 = x1) (h1 : x2 = x0) (h2 : x3 = x2) (h3 : x4 = x3 - 1) (h4 : 2 ≤ x1) (h5 : -2147483648 ≤ x4) : 0 ≤ 64 * (x4 - 1) := by omega
theorem zo_103 {x0 x1 x2 x3 x4 : Int} (h0 : x0 = x1) (h1 : x2 = x0) (h2 : x3 = x2) (h3 : x4 = x3 - 1) (h4 : x1 ≤ 40) (h5 : x4 < 2147483648) : 64 * (x4 - 1) ≤ 2496 := by omega
theorem zo_104 {x0 x1 x2 x3 x4 : Int} (h0 : x0 = x1) (h1 : x2 = x0) (h2 : x3 = x2) (h3 : x4 = x3 - 1) (h4 : 2 ≤ x1) (h5 : x1 ≤ 40) (h6 : -2147483648 ≤ x4) (h7 : x4 < 2147483648) : 64 * (x4 - 1) = 64 * (x1 - 2) := by omega
theorem zo_105 {x0 x1 x2 x3 x4 x5 : Int} (h0 : x0 = x1) (h1 : x2 = x3) (h2 : x4 = x2) (h3 : x5 = x4) (h4 : x1 = x5 - 1) (h5 : 2 ≤ x3) (h6 : -2147483648 ≤ x1) : 1 ≤ x0 := by omega
theorem zo_106 {x0 x1 x2 x3 x4 x5 : Int} (h0 : x0 = x1) (h1 : x2 = x3) (h2 : x4 = x2) (h3 : x5 = x4) (h4 : x1 = x5 - 1) (h5 : x3 ≤ 40) (h6 : x1 < 2147483648) : x0 ≤ 40 := by omega
theorem zo_107 {x0 x1 x2 x3 x4 x5 : Int} (h0 : x0 = x1) (h1 : x2 = x3) (h2 : x4 = x2) (h3 : x5 = x4) (h4 : x1 = x5 - 1) (h5 : 2 ≤ x3) (h6 : x3 ≤ 40) (h7 : -2147483648 ≤ x1) (h8 : x1 < 2147483648) : 64 * (x0 - 1) = 64 * (x3 - 2) := by omega
theorem zo_108 {x0 : Int} (h0 : 2 ≤ x0) : 0 ≤ 64 * (x0 - 2) := by omega
theorem zo_109 {x0 x1 x2 x3 x4 x5 x6 : Int} (h0 : x0 = x1) (h1 : x2 = x0) (h2 : x3 = x4) (h3 : x5 = x3) (h4 : x6 = x5) (h5 : x1 = x6 - 1) (h6 : 2 ≤ x4) (h7 : x4 ≤ 40) (h8 : -2147483648 ≤ x1) (h9 : x1 < 2147483648) : x2 = x4 - 1 := by omega
theorem zo_110 {x1 x2 : Int} {x0 x3 : Nat} (h0 : x0 ≤ 27) (h1 : x1 = (x0 : Int)) (h2 : x1 ≤ x2) (h3 : x3 < x0) (h4 : 0 ≤ x2) : (x3 : Int) < x2 := by omega
theorem zo_111 {x1 x3 : Int} {x0 x2 : Nat} (h0 : x0 ≤ 27) (h1 : x1 < 2147483648) (h2 : (x2 : Int) < 64 * (x3 - 2)) (h3 : x1 ≤ (x0 : Int)) : (x2 : Int) < 64 * (x3 - 2) ∨ 64 * (x3 - 2) + x1 ≤ (x2 : Int) := by omega
theorem zo_112 {x0 x1 x2 : Int} (h0 : x0 = x1) (h1 : x2 = x0 - 1) (h2 : 2 ≤ x1) (h3 : -2147483648 ≤ x2) : 1 ≤ x2 := by omega
theorem zo_113 {x0 x1 x2 : Int} (h0 : x0 = x1) (h1 : x2 = x0 - 1) (h2 : x1 ≤ 40) (h3 : x2 < 2147483648) : x2 ≤ 40 := by omega
theorem zo_114 {x0 x1 x2 : Int} (h0 : x0 = x1) (h1 : x2 = x0 - 1) (h2 : 2 ≤ x1) (h3 : x1 ≤ 40) (h4 : -2147483648 ≤ x2) (h5 : x2 < 2147483648) : 64 * (x2 - 1) = 64 * (x1 - 2) := by omega
theorem zo_115 {x0 x1 x2 x3 : Int} (h0 : x0 = x1) (h1 : x2 = x3) (h2 : x1 = x2 - 1) (h3 : 2 ≤ x3) (h4 : x3 ≤ 40) (h5 : -2147483648 ≤ x1) (h6 : x1 < 2147483648) : x0 = x3 - 1 := by omega
theorem zo_116 {x0 x1 x2 : Int} (h0 : x0 = x1) (h1 : 0 ≤ x2) (h2 : 2 ≤ x1) : 0 ≤ 64 * (x0 - 2) + x2 := by omega
theorem zo_117 {x0 x1 x3 : Int} {x2 : Nat} (h0 : x0 = x1) (h1 : x2 ≤ 27) (h2 : x3 < 2147483648) (h3 : x3 ≤ (x2 : Int)) (h4 : x1 ≤ 40) : 64 * (x0 - 2) + x3 < (2560 : Int) := by omega
theorem zo_118 {x0 x1 x3 x4 : Int} {x2 : Nat} (h0 : x0 = x1) (h1 : x2 ≤ 27) (h2 : x3 = (x2 : Int)) (h3 : x4 < x3) : ((64 * (x0 - 2) + x4 : Int).toNat : Int) < 64 * (x1 - 2) ∨ 64 * (x1 - 2) + x4 ≤ ((64 * (x0 - 2) + x4 : Int).toNat : Int) := by omega
theorem zo_119 {x0 x1 x2 : Int} (h0 : x0 = x1) (h1 : 0 ≤ x2) (h2 : 2 ≤ x1) : ((64 * (x0 - 2) + x2 : Int).toNat : Int) = 64 * (x1 - 2) + (x2.toNat : Int) := by omega
theorem zo_120 {x0 x1 x2 : Int} (h0 : x0 = x1) (h1 : 0 ≤ x2) (h2 : 2 ≤ x1) : 0 ≤ 64 * (x0 - 1) + x2 := by omega
theorem zo_121 {x0 x1 x3 : Int} {x2 : Nat} (h0 : x0 = x1) (h1 : x2 ≤ 27) (h2 : x3 < 2147483648) (h3 : x3 ≤ (x2 : Int)) (h4 : x1 ≤ 40) : 64 * (x0 - 1) + x3 < (2560 : Int) := by omega
theorem zo_122 {x0 : Int} (h0 : 2 ≤ x0) : 0 ≤ 64 * (x0 - 1) := by omega
theorem zo_123 {x0 x1 x3 : Int} {x2 : Nat} (h0 : x0 = x1) (h1 : x2 ≤ 27) (h2 : x3 < 2147483648) (h3 : x3 ≤ (x2 : Int)) : ((64 * (x0 - 1) + x3 : Int).toNat : Int) < 64 * (x1 - 2) ∨ 64 * (x1 - 2) + x3 ≤ ((64 * (x0 - 1) + x3 : Int).toNat : Int) := by omega
theorem zo_124 {x0 x1 x2 : Int} (h0 : x0 = x1) (h1 : 0 ≤ x2) (h2 : 2 ≤ x1) : ((64 * (x0 - 1) + x2 : Int).toNat : Int) = 64 * (x1 - 1) + (x2.toNat : Int) := by omega
theorem zo_125 {x0 x1 x2 : Int} {x3 : Nat} (h0 : x0 = x1) (h1 : 0 ≤ x2) (h2 : 2 ≤ x1) (h3 : (x3 : Int) < 64 * (x1 - 2) ∨ 64 * (x1 - 2) + (x2 + 1) ≤ (x3 : Int)) : x3 ≠ (64 * (x0 - 2) + x2 : Int).toNat := by omega
theorem zo_126 {x1 x3 : Int} {x0 x2 : Nat} (h0 : x0 ≤ 27) (h1 : x1 < 2147483648) (h2 : x1 ≤ (x0 : Int)) (h3 : (x2 : Int) < 64 * (x3 - 2) ∨ 64 * (x3 - 2) + (x1 + 1) ≤ (x2 : Int)) : (x2 : Int) < 64 * (x3 - 2) ∨ 64 * (x3 - 2) + x1 ≤ (x2 : Int) := by omega
theorem zo_127 {x0 x1 x3 : Int} {x2 x4 : Nat} (h0 : x0 = x1) (h1 : (x2 : Int) = x3) (h2 : x4 ≤ 27) (h3 : (x2 : Int) < x3 + 1) (h4 : x3 < 2147483648) (h5 : 0 ≤ x3) (h6 : x3 ≤ (x4 : Int)) (h7 : 2 ≤ x1) : (64 * (x1 - 2) : Int).toNat + x2 = (64 * (x0 - 2) + x3 : Int).toNat := by omega
theorem zo_128 {x1 : Int} {x0 x2 : Nat} (h0 : (x0 : Int) = x1) (h1 : x2 ≤ 27) (h2 : (x0 : Int) < x1 + 1) (h3 : x1 < 2147483648) (h4 : 0 ≤ x1) (h5 : x1 ≤ (x2 : Int)) : x0 = x1.toNat := by omega
theorem zo_129 {x0 x1 x3 : Int} {x2 : Nat} (h0 : x0 = x1) (h1 : (x2 : Int) < x3 + 1) (h2 : 2 ≤ x1) (h3 : ¬ ((x2 : Int) = x3)) : (64 * (x1 - 2) : Int).toNat + x2 ≠ (64 * (x0 - 2) + x3 : Int).toNat := by omega
theorem zo_130 {x1 : Int} {x0 : Nat} (h0 : (x0 : Int) < x1 + 1) (h1 : ¬ ((x0 : Int) = x1)) : (x0 : Int) < x1 := by omega
theorem zo_131 {x0 : Nat} : ¬ ((x0 : Int) < 0) := by omega
theorem zo_132 {x0 : Int} (h0 : 1 ≤ x0) : 0 ≤ x0 - 1 := by omega
theorem zo_133 {x0 : Int} (h0 : x0 ≤ 40) : x0 - 1 < 2147483648 := by omega
theorem zo_134 {x0 : Int} (h0 : x0 ≤ 40) : x0 - 1 ≤ 39 := by omega
theorem zo_135 {x0 x1 : Int} (h0 : x0 ≤ x1) (h1 : x1 ≤ x0) : x0 = x1 := by omega
theorem zo_136 {x0 : Int} (h0 : 0 ≤ x0) (h1 : x0 ≠ 0) : 1 ≤ x0 := by omega
theorem zo_137 {x0 : Int} (h0 : 1 ≤ x0) : -2147483648 ≤ 64 * (x0 - 1) := by omega
theorem zo_138 {x0 : Int} (h0 : x0 ≤ 40) : 64 * (x0 - 1) < 2147483648 := by omega
theorem zo_139 {x0 : Int} (h0 : 1 ≤ x0) : 0 ≤ 64 * (x0 - 1) := by omega
theorem zo_140 {x0 : Int} (h0 : x0 ≤ 40) : 64 * (x0 - 1) ≤ 2496 := by omega
theorem zo_141 {x0 x1 : Int} (h0 : x0 = 0) (h1 : 0 ≤ x1) (h2 : x1 ≤ x0) : x1 = 0 := by omega
theorem zo_142 {x0 x1 : Int} (h0 : x0 = 0) (h1 : x0 = x1) (h2 : -2147483648 ≤ x1) (h3 : x1 < 2147483648) : x1 = 0 := by omega
theorem zo_143 {x0 x1 x2 x3 x4 x5 : Int} (h0 : x0 = x1) (h1 : x2 = x3) (h2 : x4 = x0) (h3 : x5 = x4) (h4 : x1 = x2) (h5 : 1 ≤ x3) : 1 ≤ x5 := by omega
theorem zo_144 {x0 x1 x2 x3 x4 x5 : Int} (h0 : x0 = x1) (h1 : x2 = x3) (h2 : x4 = x0) (h3 : x5 = x4) (h4 : x1 = x2) (h5 : x3 ≤ 40) : x5 ≤ 40 := by omega
theorem zo_145 {x0 x1 x2 x3 x4 x5 : Int} (h0 : x0 = x1) (h1 : x2 = x3) (h2 : x4 = x0) (h3 : x5 = x4) (h4 : x1 = x2) : 64 * (x5 - 1) = 64 * (x3 - 1) := by omega
theorem zo_146 {x0 x1 : Int} (h0 : x0 < x1) (h1 : x1 ≤ 9) : x0 + 1 < 2147483648 := by omega
theorem zo_147 {x0 x1 : Int} {x2 : Nat} (h0 : x0 < x1) (h1 : (x1 - x0).toNat < x2 + 1) : (x1 - (x0 + 1)).toNat < x2 := by omega
theorem zo_148 {x0 : Int} {x1 : Nat} (h0 : 0 ≤ x0) (h1 : ¬ ((x1 : Int) = x0)) : x1 ≠ x0.toNat := by omega
theorem zo_149 {x1 x3 : Int} {x0 x2 : Nat} (h0 : x0 ≤ 27) (h1 : x1 < 2147483648) (h2 : (x2 : Int) < 64 * (x3 - 1)) (h3 : x1 ≤ (x0 : Int)) : (x2 : Int) < 64 * (x3 - 1) ∨ 64 * (x3 - 1) + x1 ≤ (x2 : Int) := by omega
theorem zo_150 {x0 x1 : Int} (h0 : 0 ≤ x0) (h1 : 1 ≤ x1) : 0 ≤ 64 * (x1 - 1) + x0 := by omega
theorem zo_151 {x1 x2 : Int} {x0 : Nat} (h0 : x0 ≤ 27) (h1 : x1 < 2147483648) (h2 : x1 ≤ (x0 : Int)) (h3 : x2 ≤ 40) : 64 * (x2 - 1) + x1 < (2560 : Int) := by omega
theorem zo_152 {x0 x1 : Int} : ((64 * (x0 - 1) + x1 : Int).toNat : Int) < 64 * (x0 - 1) ∨ 64 * (x0 - 1) + x1 ≤ ((64 * (x0 - 1) + x1 : Int).toNat : Int) := by omega
theorem zo_153 {x0 x1 : Int} (h0 : 0 ≤ x0) (h1 : 1 ≤ x1) : ((64 * (x1 - 1) + x0 : Int).toNat : Int) = 64 * (x1 - 1) + (x0.toNat : Int) := by omega
theorem zo_154 {x0 x1 : Int} {x2 : Nat} (h0 : 0 ≤ x0) (h1 : 1 ≤ x1) (h2 : (x2 : Int) < 64 * (x1 - 1) ∨ 64 * (x1 - 1) + (x0 + 1) ≤ (x2 : Int)) : x2 ≠ (64 * (x1 - 1) + x0 : Int).toNat := by omega
theorem zo_155 {x1 x3 : Int} {x0 x2 : Nat} (h0 : x0 ≤ 27) (h1 : x1 < 2147483648) (h2 : x1 ≤ (x0 : Int)) (h3 : (x2 : Int) < 64 * (x3 - 1) ∨ 64 * (x3 - 1) + (x1 + 1) ≤ (x2 : Int)) : (x2 : Int) < 64 * (x3 - 1) ∨ 64 * (x3 - 1) + x1 ≤ (x2 : Int) := by omega
theorem zo_156 {x1 x3 : Int} {x0 x2 : Nat} (h0 : (x0 : Int) = x1) (h1 : x2 ≤ 27) (h2 : (x0 : Int) < x1 + 1) (h3 : x1 < 2147483648) (h4 : 0 ≤ x1) (h5 : x1 ≤ (x2 : Int)) (h6 : 1 ≤ x3) : (64 * (x3 - 1) : Int).toNat + x0 = (64 * (x3 - 1) + x1 : Int).toNat := by omega
theorem zo_157 {x0 x1 : Int} {x2 : Nat} (h0 : 0 ≤ x0) (h1 : 1 ≤ x1) (h2 : ¬ ((x2 : Int) = x0)) : (64 * (x1 - 1) : Int).toNat + x2 ≠ (64 * (x1 - 1) + x0 : Int).toNat := by omega
theorem zo_158 {x0 : Int} (h0 : 0 ≤ x0) : 0 ≤ x0 + 0 := by omega
theorem zo_159 {x1 : Int} {x0 : Nat} (h0 : x0 ≤ 700) (h1 : x1 ≤ (x0 : Int)) (h2 : x1 < 2147483648) : x1 ≤ 700 := by omega
theorem zo_160 {x0 x1 : Int} {x2 : Nat} (h0 : x0 = x1) (h1 : x2 ≤ 700) (h2 : x1 = (x2 : Int)) (h3 : x1 < 2147483648) : x0 ≤ 700 := by omega
theorem zo_161 {x0 x1 : Int} (h0 : x0 = 32) (h1 : x0 = x1) : x1 = 32 ∨ x1 = 10 := by omega
theorem zo_162 {x1 : Int} {x0 : Nat} (h0 : x0 ≤ 700) (h1 : x1 ≤ (x0 : Int)) (h2 : x1 < 2147483648) : x1 + 1 < 2147483648 := by omega
theorem zo_163 {x0 x1 : Int} (h0 : x0 = x1 + 1) (h1 : 0 ≤ x1) (h2 : -2147483648 ≤ x0) : 0 ≤ x0 := by omega
theorem zo_164 {x0 : Int} {x1 : Nat} (h0 : x0 + 0 < (x1 : Int)) (h1 : x0 < 2147483648) : x0 < (x1 : Int) := by omega
theorem zo_165 {x0 x1 : Int} (h0 : x0 = 32) (h1 : x0 = x1) (h2 : x1 = -1) : False := by omega
theorem zo_166 {x1 : Int} {x0 : Nat} (h0 : (x0 : Int) ≤ x1 + 0) : (x0 : Int) ≤ x1 := by omega
theorem zo_167 {x0 : Int} (h0 : 0 ≤ x0) : (x0.toNat : Int) = x0 := by omega
theorem zo_168 {x0 : Int} (h0 : 0 ≤ x0) : -2147483648 ≤ x0 := by omega
theorem zo_169 {x1 : Int} {x0 : Nat} (h0 : x0 ≤ 700) (h1 : x1 ≤ (x0 : Int)) (h2 : x1 < 2147483648) : x1 < 2147483648 := by omega
theorem zo_170 {x0 x1 x2 x3 : Int} (h0 : x0 = x1) (h1 : x2 = x0) (h2 : x3 = x2) (h3 : 0 ≤ x1) : 0 ≤ x3 + 0 := by omega
theorem zo_171 {x0 x1 x2 x3 : Int} {x4 : Nat} (h0 : x0 = x1) (h1 : x2 = x0) (h2 : x3 = x2) (h3 : x4 ≤ 700) (h4 : x1 ≤ (x4 : Int)) (h5 : x1 < 2147483648) : x3 ≤ 700 := by omega
theorem zo_172 {x0 x1 x2 x3 x4 : Int} {x5 : Nat} (h0 : x0 = x1) (h1 : x2 = x0) (h2 : x3 = x2) (h3 : x1 = x4) (h4 : x5 ≤ 700) (h5 : x4 = (x5 : Int)) (h6 : x4 < 2147483648) : x3 ≤ 700 := by omega
theorem zo_173 {x0 x1 x2 x3 : Int} {x4 x5 : Nat} (h0 : x0 = x1) (h1 : x2 = x0) (h2 : x3 = x2) (h3 : x4 ≤ 700) (h4 : (x5 : Int) = x1) (h5 : 0 ≤ x1) (h6 : x1 ≤ (x4 : Int)) (h7 : x3 + 0 < (x4 : Int)) (h8 : x1 < 2147483648) : (x3 + 0).toNat = x5 := by omega
theorem zo_174 {x0 x1 : Int} (h0 : 0 ≤ x0) (h1 : x0 = x1) (h2 : x1 = -1) : False := by omega
theorem zo_175 {x0 x1 x2 x3 : Int} {x4 x5 : Nat} (h0 : x0 = x1) (h1 : x2 = x0) (h2 : x3 = x2) (h3 : (x4 : Int) = x1) (h4 : x1 ≤ (x5 : Int)) (h5 : x3 + 0 < (x5 : Int)) (h6 : x1 < 2147483648) : x4 < x5 := by omega
theorem zo_176 {x0 : Int} (h0 : 97 ≤ x0) (h1 : x0 ≤ 122) : 97 ≤ x0 ∧ x0 ≤ 122 := by omega
theorem zo_177 {x0 x1 x2 x3 x4 x5 : Int} (h0 : x0 = x1) (h1 : x2 = x0) (h2 : x3 = x2) (h3 : x4 = x3) (h4 : 0 ≤ x5) (h5 : 0 ≤ x1) : 0 ≤ x4 + x5 := by omega
theorem zo_178 {x0 x1 x2 x3 x4 : Int} {x5 : Nat} (h0 : x0 = x1) (h1 : x2 = x0) (h2 : x3 = x2) (h3 : x4 = x3) (h4 : x5 ≤ 700) (h5 : x1 ≤ (x5 : Int)) (h6 : x1 < 2147483648) : x4 ≤ 700 := by omega
theorem zo_179 {x2 : Int} {x0 x1 : Nat} (h0 : x0 ≤ 700) (h1 : (x1 : Int) + x2 ≤ (x0 : Int)) : x2 ≤ 1000 := by omega
theorem zo_180 {x0 x1 x2 x3 x4 x5 : Int} {x6 : Nat} (h0 : x0 = x1) (h1 : x2 = x0) (h2 : x3 = x2) (h3 : x1 = x4) (h4 : x5 = x3) (h5 : x6 ≤ 700) (h6 : x4 = (x6 : Int)) (h7 : x4 < 2147483648) : x5 ≤ 700 := by omega
theorem zo_181 {x0 x1 : Int} (h0 : 97 ≤ x0) (h1 : x0 ≤ 122) (h2 : x0 = x1) : 97 ≤ x1 ∧ x1 ≤ 122 := by omega
theorem zo_182 {x0 x1 x2 x3 x4 x7 : Int} {x5 x6 : Nat} (h0 : x0 = x1) (h1 : x2 = x0) (h2 : x3 = x2) (h3 : x4 = x3) (h4 : x5 ≤ 700) (h5 : (x6 : Int) = x1) (h6 : 0 ≤ x7) (h7 : x4 + x7 < (x5 : Int)) : x4 = (x6 : Int) := by omega
theorem zo_183 {x0 x1 : Int} (h0 : 97 ≤ x0) (h1 : x0 = x1) (h2 : x1 = -1) : False := by omega
theorem zo_184 {x0 x1 x2 x3 x4 x5 : Int} {x6 x7 : Nat} (h0 : x0 = x1) (h1 : x2 = x0) (h2 : x3 = x2) (h3 : x4 = x3) (h4 : x4 + x5 < (x6 : Int)) (h5 : (x7 : Int) = x1) (h6 : (x7 : Int) + x5 ≤ (x6 : Int)) : (x7 : Int) + x5 < (x6 : Int) := by omega
theorem zo_185 {x0 : Int} (h0 : 6 ≤ x0) : -2147483648 ≤ x0 + 1 := by omega
theorem zo_186 {x2 : Int} {x0 x1 : Nat} (h0 : x0 ≤ 700) (h1 : (x1 : Int) + x2 ≤ (x0 : Int)) : x2 + 1 < 2147483648 := by omega
theorem zo_187 {x0 : Int} (h0 : 6 ≤ x0) : 0 ≤ x0 + 1 := by omega
theorem zo_188 {x0 x1 x2 x3 x4 x5 : Int} {x6 x7 : Nat} (h0 : x0 = x1) (h1 : x2 = x0) (h2 : x3 = x2) (h3 : x4 = x3) (h4 : x4 + x5 < (x6 : Int)) (h5 : (x7 : Int) = x1) (h6 : (x7 : Int) + x5 ≤ (x6 : Int)) : (x7 : Int) + (x5 + 1) ≤ (x6 : Int) := by omega
theorem zo_189 {x0 : Int} (h0 : 6 ≤ x0) : ¬ (x0 + 1 ≤ 6) := by omega
theorem zo_190 {x0 x1 x2 x3 x4 x5 : Int} {x6 x7 x8 : Nat} (h0 : x0 = x1) (h1 : x2 = x0) (h2 : x3 = x2) (h3 : x4 = x3) (h4 : x4 + x5 < (x6 : Int)) (h5 : ((x6 : Int) - (x7 : Int) - x5).toNat < x8 + 1) (h6 : (x7 : Int) = x1) (h7 : (x7 : Int) + x5 ≤ (x6 : Int)) : ((x6 : Int) - (x7 : Int) - (x5 + 1)).toNat < x8 := by omega
theorem zo_191 {x0 x1 : Int} {x2 : Nat} (h0 : x0 + x1 < (x2 : Int)) (h1 : x2 ≤ 700) (h2 : 0 ≤ x1) : x0 ≤ 700 := by omega
theorem zo_192 {x0 : Int} (h0 : x0 < 6) : x0 ≤ 1000 := by omega
theorem zo_193 {x0 : Int} (h0 : x0 < 6) : x0 + 1 < 2147483648 := by omega
theorem zo_194 {x0 x1 x2 x3 x4 x6 : Int} {x5 x7 : Nat} (h0 : x0 = x1) (h1 : x2 = x0) (h2 : x3 = x2) (h3 : x4 = x3) (h4 : (x5 : Int) = x1) (h5 : (x5 : Int) + x6 ≤ (x7 : Int)) (h6 : x4 + x6 < (x7 : Int)) : (x5 : Int) + x6 < (x7 : Int) := by omega
theorem zo_195 {x0 x1 : Int} (h0 : x0 = x1) (h1 : -2147483648 ≤ x0) (h2 : x0 < 2147483648) (h3 : 97 ≤ x1) (h4 : x1 ≤ 122) (h5 : x0 < 97 ∨ 122 < x0) : False := by omega
theorem zo_196 {x0 x1 x2 x3 x4 x7 : Int} {x5 x6 : Nat} (h0 : x0 = x1) (h1 : x2 = x0) (h2 : x3 = x2) (h3 : x4 = x3) (h4 : x5 ≤ 700) (h5 : (x6 : Int) = x1) (h6 : 0 ≤ x7) (h7 : (x5 : Int) ≤ x4 + x7) : (x5 : Int) ≤ (x6 : Int) + x7 := by omega
theorem zo_197 {x2 : Int} {x0 x1 x3 : Nat} (h0 : x0 ≤ 700) (h1 : (x1 : Int) + x2 = (x3 : Int)) (h2 : (x1 : Int) + x2 ≤ (x0 : Int)) : x2 = (x3 : Int) - (x1 : Int) := by omega
theorem zo_198 {x0 x1 x2 x3 x4 x5 x6 : Int} (h0 : x0 = x1) (h1 : x2 = x0) (h2 : x3 = x2) (h3 : x4 = x3) (h4 : x5 = x4) (h5 : 0 ≤ x6) (h6 : 0 ≤ x1) : -2147483648 ≤ x5 + x6 := by omega
theorem zo_199 {x0 x1 x2 x3 x4 x5 x6 : Int} {x7 : Nat} (h0 : x0 = x1) (h1 : x2 = x0) (h2 : x3 = x2) (h3 : x4 = x3) (h4 : x5 = x4) (h5 : x6 ≤ 6) (h6 : x7 ≤ 700) (h7 : x1 ≤ (x7 : Int)) (h8 : x1 < 2147483648) : x5 + x6 < 2147483648 := by omega
theorem zo_200 {x0 x1 x2 x3 x4 x5 x8 : Int} {x6 x7 : Nat} (h0 : x0 = x1) (h1 : x2 = x0) (h2 : x3 = x2) (h3 : x4 = x3) (h4 : x5 = x4) (h5 : x6 ≤ 700) (h6 : (x7 : Int) = x8) (h7 : x1 = x8) (h8 : x8 ≤ (x6 : Int)) (h9 : x8 < 2147483648) : x5 = (x7 : Int) := by omega
theorem zo_201 {x0 x1 x2 x3 x4 x5 x6 x10 : Int} {x7 x8 x9 : Nat} (h0 : x0 = x1) (h1 : x2 = x0) (h2 : x3 = x2) (h3 : x4 = x3) (h4 : x5 = x4) (h5 : x6 ≤ 6) (h6 : x6 = (x7 : Int) - (x8 : Int)) (h7 : x9 ≤ 700) (h8 : (x8 : Int) = x1) (h9 : x10 = x5 + x6) (h10 : (x8 : Int) + x6 ≤ (x9 : Int)) (h11 : x1 ≤ (x9 : Int)) (h12 : x1 < 2147483648) (h13 : -2147483648 ≤ x10) : x10 = (x7 : Int) := by omega
theorem zo_202 {x0 : Int} {x1 x2 x3 : Nat} (h0 : x0 ≤ 6) (h1 : x0 = (x1 : Int) - (x2 : Int)) (h2 : x2 ≤ x1) (h3 : x3 ≤ 700) (h4 : 0 ≤ x0) (h5 : (x2 : Int) + x0 ≤ (x3 : Int)) (h6 : (x1 : Int) - (x2 : Int) ≤ 6) : x0.toNat = x1 - x2 := by omega
theorem zo_203 {x0 x1 x2 : Int} {x3 x4 : Nat} (h0 : x0 = x1) (h1 : x2 ≤ 6) (h2 : x2 = (x3 : Int) - (x4 : Int)) (h3 : x4 ≤ x3) (h4 : x1 = 1) : (x3 : Int) - (x4 : Int) ≤ 6 ∧ x0 = 1 ∨ 6 < (x3 : Int) - (x4 : Int) ∧ x0 = 4 := by omega
theorem zo_204 {x0 x1 x2 x3 x4 x5 x7 : Int} {x6 x8 : Nat} (h0 : x0 = x1) (h1 : x2 = x0) (h2 : x3 = x2) (h3 : x4 = x3) (h4 : x5 = x4) (h5 : x6 ≤ 700) (h6 : x7 = (x8 : Int)) (h7 : x1 = x7) (h8 : x7 ≤ (x6 : Int)) (h9 : x7 < 2147483648) : x5 = (x8 : Int) := by omega
theorem zo_205 {x0 x1 x2 x3 x4 x5 x6 : Int} (h0 : x0 = x1) (h1 : x2 = x0) (h2 : x3 = x2) (h3 : x4 = x3) (h4 : x5 = x4) (h5 : 6 < x6) (h6 : 0 ≤ x1) : -2147483648 ≤ x5 + x6 := by omega
theorem zo_206 {x0 x1 x2 x3 x4 x5 x8 : Int} {x6 x7 : Nat} (h0 : x0 = x1) (h1 : x2 = x0) (h2 : x3 = x2) (h3 : x4 = x3) (h4 : x5 = x4) (h5 : x6 ≤ 700) (h6 : (x7 : Int) + x8 ≤ (x6 : Int)) (h7 : x1 ≤ (x6 : Int)) (h8 : x1 < 2147483648) : x5 + x8 < 2147483648 := by omega
theorem zo_207 {x0 x1 x2 x3 x4 x5 x6 x10 : Int} {x7 x8 x9 : Nat} (h0 : x0 = x1) (h1 : x2 = x0) (h2 : x3 = x2) (h3 : x4 = x3) (h4 : x5 = x4) (h5 : x6 = (x7 : Int) - (x8 : Int)) (h6 : x9 ≤ 700) (h7 : (x8 : Int) = x1) (h8 : x10 = x5 + x6) (h9 : (x8 : Int) + x6 ≤ (x9 : Int)) (h10 : -2147483648 ≤ x10) : x10 = (x7 : Int) := by omega
theorem zo_208 {x0 : Int} {x1 x2 x3 : Nat} (h0 : x0 = (x1 : Int) - (x2 : Int)) (h1 : x3 ≤ 700) (h2 : (x2 : Int) + x0 ≤ (x3 : Int)) (h3 : (x1 : Int) - (x2 : Int) ≤ 6) : x0 ≤ 6 := by omega
theorem zo_209 {x0 : Int} {x1 x2 x3 : Nat} (h0 : 6 < x0) (h1 : x0 = (x1 : Int) - (x2 : Int)) (h2 : x2 ≤ x1) (h3 : x3 ≤ 700) (h4 : (x2 : Int) + x0 ≤ (x3 : Int)) (h5 : (x1 : Int) - (x2 : Int) ≤ 6) : x0.toNat = x1 - x2 := by omega
theorem zo_210 {x0 x1 x2 : Int} {x3 x4 : Nat} (h0 : x0 = x1) (h1 : 6 < x2) (h2 : x2 = (x3 : Int) - (x4 : Int)) (h3 : x4 ≤ x3) (h4 : x1 = 4) : (x3 : Int) - (x4 : Int) ≤ 6 ∧ x0 = 1 ∨ 6 < (x3 : Int) - (x4 : Int) ∧ x0 = 4 := by omega
theorem zo_211 {x0 x1 : Nat} (h0 : x0 < x1) : (x0 : Int) + 0 ≤ (x1 : Int) := by omega
theorem zo_212 {x0 : Nat} : ((x0 : Int) + 0).toNat = x0 := by omega
theorem zo_213 {x0 : Int} (h0 : 97 ≤ x0) (h1 : x0 ≤ 122) (h2 : x0 < 97 ∨ 122 < x0) : False := by omega
theorem zo_214 {x0 : Int} (h0 : 48 ≤ x0) (h1 : x0 ≤ 57) : 48 ≤ x0 ∧ x0 ≤ 57 := by omega
theorem zo_215 {x0 x1 x2 x3 x4 x5 : Int} (h0 : x0 = x1) (h1 : x2 = x0) (h2 : x3 = x2) (h3 : x4 = x3) (h4 : 0 ≤ x1) (h5 : 0 ≤ x5) : 0 ≤ x4 + x5 := by omega
theorem zo_216 {x0 x1 : Int} (h0 : 48 ≤ x0) (h1 : x0 ≤ 57) (h2 : x0 = x1) : 48 ≤ x1 ∧ x1 ≤ 57 := by omega
theorem zo_217 {x0 x1 : Int} (h0 : 48 ≤ x0) (h1 : x0 = x1) (h2 : x1 = -1) : False := by omega
theorem zo_218 {x0 : Int} (h0 : 3 ≤ x0) : -2147483648 ≤ x0 + 1 := by omega
theorem zo_219 {x0 : Int} (h0 : 3 ≤ x0) : 0 ≤ x0 + 1 := by omega
theorem zo_220 {x0 : Int} (h0 : 3 ≤ x0) : ¬ (x0 + 1 ≤ 3) := by omega
theorem zo_221 {x0 : Int} (h0 : x0 < 3) : x0 ≤ 1000 := by omega
theorem zo_222 {x0 x1 x2 : Int} (h0 : 48 ≤ x0) (h1 : 0 ≤ x1) (h2 : x2 = x0) (h3 : -2147483648 ≤ x2) : -2147483648 ≤ 10 * x1 + x2 - 48 := by omega
theorem zo_223 {x0 x1 x2 : Int} (h0 : x0 ≤ 57) (h1 : x1 ≤ 99) (h2 : x2 = x0) (h3 : x2 < 2147483648) : 10 * x1 + x2 - 48 < 2147483648 := by omega
theorem zo_224 {x0 : Int} (h0 : x0 < 3) : x0 + 1 < 2147483648 := by omega
theorem zo_225 {x0 x1 : Int} (h0 : x0 = x1) (h1 : -2147483648 ≤ x0) (h2 : x0 < 2147483648) (h3 : 48 ≤ x1) (h4 : x1 ≤ 57) (h5 : x0 < 48 ∨ 57 < x0) : False := by omega
theorem zo_226 {x0 x1 x2 x3 x4 x5 x6 : Int} (h0 : x0 = x1) (h1 : x2 = x0) (h2 : x3 = x2) (h3 : x4 = x3) (h4 : x5 = x4) (h5 : 3 < x6) (h6 : 0 ≤ x1) : -2147483648 ≤ x5 + x6 := by omega
theorem zo_227 {x0 x1 x2 x3 x4 x5 x8 : Int} {x6 x7 : Nat} (h0 : x0 = x1) (h1 : x2 = x0) (h2 : x3 = x2) (h3 : x4 = x3) (h4 : x5 = x4) (h5 : x6 ≤ 700) (h6 : x1 ≤ (x6 : Int)) (h7 : (x7 : Int) + x8 ≤ (x6 : Int)) (h8 : x1 < 2147483648) : x5 + x8 < 2147483648 := by omega
theorem zo_228 {x0 : Int} {x1 x2 x3 : Nat} (h0 : x0 = (x1 : Int) - (x2 : Int)) (h1 : x3 ≤ 700) (h2 : (x2 : Int) + x0 ≤ (x3 : Int)) (h3 : x1 ≤ x2 + 3) : x0 ≤ 3 := by omega
theorem zo_229 {x0 : Int} {x1 x2 x3 : Nat} (h0 : 3 < x0) (h1 : x0 = (x1 : Int) - (x2 : Int)) (h2 : x2 ≤ x1) (h3 : x3 ≤ 700) (h4 : (x2 : Int) + x0 ≤ (x3 : Int)) (h5 : x1 ≤ x2 + 3) : x0.toNat = x1 - x2 := by omega
theorem zo_230 {x0 x1 x2 x3 : Int} (h0 : x0 = x1) (h1 : x2 = x0) (h2 : x1 = x3) : x2 = x3 := by omega
theorem zo_231 {x0 : Int} {x1 x2 : Nat} (h0 : 3 < x0) (h1 : x0 = (x1 : Int) - (x2 : Int)) (h2 : x1 ≤ x2 + 3) : False := by omega
theorem zo_232 {x0 x1 : Int} (h0 : x0 = x1) (h1 : x1 = 4) : x0 = 4 := by omega
theorem zo_233 {x0 : Int} (h0 : x0 ≤ 3) : x0 ≤ 1000 := by omega
theorem zo_234 {x0 x1 x2 x3 x4 x5 : Int} {x6 x7 x8 : Nat} (h0 : x0 = x1) (h1 : x2 = x0) (h2 : x3 = x2) (h3 : x4 = x3) (h4 : x5 = (x6 : Int) - (x7 : Int)) (h5 : x8 ≤ 700) (h6 : (x7 : Int) = x1) (h7 : 0 ≤ x1) (h8 : 0 ≤ x5) (h9 : (x7 : Int) + x5 ≤ (x8 : Int)) (h10 : x4 + x5 < (x8 : Int)) : x6 = (x4 + x5).toNat := by omega
theorem zo_235 {x0 x1 : Int} (h0 : 97 ≤ x0) (h1 : x0 ≤ 122) (h2 : x0 = x1) (h3 : 0 ≤ x1) (h4 : x1 ≤ 255) : 97 ≤ x1 ∧ x1 ≤ 122 := by omega
theorem zo_236 {x0 x1 x2 x3 x4 x5 : Int} {x6 x7 x8 : Nat} (h0 : x0 = x1) (h1 : x2 = x0) (h2 : x3 = x2) (h3 : x4 = x3) (h4 : x5 = (x6 : Int) - (x7 : Int)) (h5 : (x7 : Int) = x1) (h6 : (x7 : Int) + x5 ≤ (x8 : Int)) (h7 : x4 + x5 < (x8 : Int)) : x6 < x8 := by omega
theorem zo_237 {x0 x1 x2 x3 x4 x5 x6 : Int} (h0 : x0 = x1) (h1 : x2 = x0) (h2 : x3 = x2) (h3 : x4 = x3) (h4 : x5 = x4) (h5 : 0 ≤ x1) (h6 : 0 ≤ x6) : -2147483648 ≤ x5 + x6 := by omega
theorem zo_238 {x0 x1 x2 x3 x4 x5 x6 : Int} {x7 : Nat} (h0 : x0 = x1) (h1 : x2 = x0) (h2 : x3 = x2) (h3 : x4 = x3) (h4 : x5 = x4) (h5 : x6 ≤ 3) (h6 : x7 ≤ 700) (h7 : x1 ≤ (x7 : Int)) (h8 : x1 < 2147483648) : x5 + x6 < 2147483648 := by omega
theorem zo_239 {x0 x1 x2 x3 x4 x5 x6 x10 : Int} {x7 x8 x9 : Nat} (h0 : x0 = x1) (h1 : x2 = x0) (h2 : x3 = x2) (h3 : x4 = x3) (h4 : x5 = x4) (h5 : x6 ≤ 3) (h6 : x6 = (x7 : Int) - (x8 : Int)) (h7 : x7 < x9) (h8 : x9 ≤ 700) (h9 : (x8 : Int) = x1) (h10 : x10 = x5 + x6) (h11 : x1 ≤ (x9 : Int)) (h12 : x1 < 2147483648) (h13 : -2147483648 ≤ x10) : x10 = (x7 : Int) := by omega
theorem zo_240 {x0 : Int} {x1 x2 x3 : Nat} (h0 : x0 ≤ 3) (h1 : x0 = (x1 : Int) - (x2 : Int)) (h2 : x2 ≤ x1) (h3 : x3 ≤ 700) (h4 : 0 ≤ x0) (h5 : (x2 : Int) + x0 ≤ (x3 : Int)) (h6 : x1 ≤ x2 + 3) : x0.toNat = x1 - x2 := by omega
theorem zo_241 {x0 x1 x2 x3 x4 x5 : Int} {x6 x7 x8 : Nat} (h0 : x0 = x1) (h1 : x2 = x0) (h2 : x3 = x2) (h3 : x4 = x3) (h4 : x5 = (x6 : Int) - (x7 : Int)) (h5 : x8 ≤ 700) (h6 : (x7 : Int) = x1) (h7 : 0 ≤ x1) (h8 : 0 ≤ x5) (h9 : x4 + x5 < (x8 : Int)) (h10 : x6 < x8) : x6 = (x4 + x5).toNat := by omega
theorem zo_242 {x0 x1 x2 x3 x4 x5 : Int} {x6 x7 x8 : Nat} (h0 : x0 = x1) (h1 : x2 = x0) (h2 : x3 = x2) (h3 : x4 = x3) (h4 : x5 = (x6 : Int) - (x7 : Int)) (h5 : (x7 : Int) = x1) (h6 : (x8 : Int) ≤ x4 + x5) (h7 : x6 < x8) : False := by omega
theorem zo_243 {x0 x1 x2 x3 x4 x5 x6 x10 : Int} {x7 x8 x9 : Nat} (h0 : x0 = x1) (h1 : x2 = x0) (h2 : x3 = x2) (h3 : x4 = x3) (h4 : x5 = x4) (h5 : x6 ≤ 3) (h6 : x6 = (x7 : Int) - (x8 : Int)) (h7 : x9 ≤ 700) (h8 : (x8 : Int) = x1) (h9 : x10 = x5 + x6) (h10 : x1 ≤ (x9 : Int)) (h11 : (x8 : Int) + x6 ≤ (x9 : Int)) (h12 : x1 < 2147483648) (h13 : -2147483648 ≤ x10) : x10 = (x7 : Int) := by omega
theorem zo_244 {x0 : Int} {x1 x2 : Nat} (h0 : x0 ≤ 3) (h1 : x0 = (x1 : Int) - (x2 : Int)) : x1 ≤ x2 + 3 := by omega
theorem zo_245 {x0 x1 : Int} (h0 : x0 = x1) (h1 : x1 = 2) : x0 = 2 := by omega
theorem zo_246 {x0 : Int} (h0 : 48 ≤ x0) (h1 : x0 ≤ 57) (h2 : x0 < 48 ∨ 57 < x0) : False := by omega
theorem zo_247 {x0 x1 x2 x3 x4 x5 : Int} (h0 : x0 = x1) (h1 : x2 = x0) (h2 : x3 = x2) (h3 : x4 = x3) (h4 : x5 = x4) (h5 : 0 ≤ x1) : -2147483648 ≤ x5 + 1 := by omega
theorem zo_248 {x0 x1 x2 x3 x4 x5 : Int} {x6 : Nat} (h0 : x0 = x1) (h1 : x2 = x0) (h2 : x3 = x2) (h3 : x4 = x3) (h4 : x5 = x4) (h5 : x6 ≤ 700) (h6 : x1 ≤ (x6 : Int)) (h7 : x1 < 2147483648) : x5 + 1 < 2147483648 := by omega
theorem zo_249 {x0 x1 x2 x3 x4 x5 x8 : Int} {x6 x7 : Nat} (h0 : x0 = x1) (h1 : x2 = x0) (h2 : x3 = x2) (h3 : x4 = x3) (h4 : x5 = x4) (h5 : x6 ≤ 700) (h6 : (x7 : Int) = x1) (h7 : x7 < x6) (h8 : x8 = x5 + 1) (h9 : x1 ≤ (x6 : Int)) (h10 : x1 < 2147483648) (h11 : -2147483648 ≤ x8) : x8 = (x7 : Int) + 1 := by omega
theorem zo_250 {x0 x1 x2 x3 : Int} (h0 : x0 = x1) (h1 : x2 = x3) (h2 : x1 = x2) : x0 = x3 := by omega
theorem zo_251 {x0 x1 x2 : Int} (h0 : x0 = x1) (h1 : x2 = x0) (h2 : x1 = 3) : x2 = 3 := by omega
theorem zo_252 {x0 x1 x2 : Int} (h0 : x0 = x1) (h1 : x2 = x0) (h2 : x1 = 4) : x2 = 4 := by omega
theorem zo_253 {x0 x1 x2 x3 x6 : Int} {x4 x5 : Nat} (h0 : x0 = x1) (h1 : x2 = x3) (h2 : x1 = x2) (h3 : x4 ≤ 700) (h4 : (x5 : Int) = x6) (h5 : x3 = x6) (h6 : x6 ≤ (x4 : Int)) (h7 : x6 < 2147483648) : x0 = (x5 : Int) := by omega
theorem zo_254 {x0 x1 : Int} (h0 : x0 < 0) (h1 : x0 = x1) (h2 : 0 ≤ x1) : False := by omega
theorem zo_255 {x0 x1 x2 x3 : Int} {x4 x5 : Nat} (h0 : x0 = x1) (h1 : x2 = x0) (h2 : x3 = x2) (h3 : x4 ≤ 700) (h4 : (x5 : Int) = x1) (h5 : x1 ≤ (x4 : Int)) (h6 : (x4 : Int) ≤ x3 + 0) (h7 : x1 < 2147483648) : x4 = x5 := by omega
theorem zo_256 {x0 x1 x2 x3 x4 : Int} {x5 x6 : Nat} (h0 : x0 = x1) (h1 : x2 = x3) (h2 : x4 = x2) (h3 : x1 = x4) (h4 : x5 ≤ 700) (h5 : (x6 : Int) = x3) (h6 : x3 ≤ (x5 : Int)) (h7 : x3 < 2147483648) : x0 = (x6 : Int) := by omega
theorem zo_257 {x0 x1 x2 x3 x5 : Int} {x4 x6 : Nat} (h0 : x0 = x1) (h1 : x2 = x3) (h2 : x1 = x2) (h3 : x4 ≤ 700) (h4 : x5 = (x6 : Int)) (h5 : x3 = x5) (h6 : x5 ≤ (x4 : Int)) (h7 : x5 < 2147483648) : x0 = (x6 : Int) := by omega
theorem zo_258 {x0 x1 : Int} (h0 : x0 = 10) (h1 : x0 = x1) : x1 = 32 ∨ x1 = 10 := by omega
theorem zo_259 {x0 x1 : Int} (h0 : x0 = 10) (h1 : x0 = x1) (h2 : x1 = -1) : False := by omega
theorem zo_260 {x0 : Int} (h0 : x0 = 0) (h1 : x0 ≠ 0) : False := by omega
theorem zo_261 {x0 x1 : Int} (h0 : -2147483648 ≤ x0) (h1 : x0 < 2147483648) (h2 : x0 = x1) (h3 : x1 = 1) (h4 : x0 ≠ 1) : False := by omega
theorem zo_262 {x0 x1 : Int} (h0 : x0 = 1) (h1 : x0 = x1) : x1 = 1 := by omega
theorem zo_263 {x0 x1 : Int} (h0 : -2147483648 ≤ x0) (h1 : x0 < 2147483648) (h2 : x0 = x1) (h3 : x1 = 3) (h4 : x0 ≠ 3) : False := by omega
theorem zo_264 {x0 x1 x2 : Int} (h0 : x0 = x1) (h1 : x1 = x2) (h2 : x0 ≠ x2) : False := by omega
theorem zo_265 {x0 x1 : Int} (h0 : x0 = 3) (h1 : x0 = x1) : x1 = 3 := by omega
theorem zo_266 {x0 x1 x2 : Int} (h0 : x0 = x1) (h1 : x0 = x2) : x2 = x1 := by omega
theorem zo_267 {x0 x1 : Int} (h0 : x0 = 1) (h1 : -2147483648 ≤ x1) (h2 : x1 < 2147483648) (h3 : x1 = x0) (h4 : x1 ≠ 1) : False := by omega
theorem zo_268 {x0 x1 : Int} (h0 : x0 = 1 ∧ 123610792682867 < x1 ∨ x0 = 0 ∧ x1 = 123610792682867 ∨ x0 = -1 ∧ x1 < 123610792682867) : -2147483648 ≤ x0 := by omega
theorem zo_269 {x0 x1 : Int} (h0 : x0 = 1 ∧ 123610792682867 < x1 ∨ x0 = 0 ∧ x1 = 123610792682867 ∨ x0 = -1 ∧ x1 < 123610792682867) : x0 < 2147483648 := by omega
theorem zo_270 {x0 x1 : Int} (h0 : x0 = 1 ∧ 1836021349 < x1 ∨ x0 = 0 ∧ x1 = 1836021349 ∨ x0 = -1 ∧ x1 < 1836021349) : -2147483648 ≤ x0 := by omega
theorem zo_271 {x0 x1 : Int} (h0 : x0 = 1 ∧ 1836021349 < x1 ∨ x0 = 0 ∧ x1 = 1836021349 ∨ x0 = -1 ∧ x1 < 1836021349) : x0 < 2147483648 := by omega
theorem zo_272 {x0 x1 : Int} (h0 : x0 = 1 ∧ 7103860 < x1 ∨ x0 = 0 ∧ x1 = 7103860 ∨ x0 = -1 ∧ x1 < 7103860) : -2147483648 ≤ x0 := by omega
theorem zo_273 {x0 x1 : Int} (h0 : x0 = 1 ∧ 7103860 < x1 ∨ x0 = 0 ∧ x1 = 7103860 ∨ x0 = -1 ∧ x1 < 7103860) : x0 < 2147483648 := by omega
theorem zo_274 {x0 x1 : Int} (h0 : x0 = 1 ∧ 1936683636 < x1 ∨ x0 = 0 ∧ x1 = 1936683636 ∨ x0 = -1 ∧ x1 < 1936683636) : -2147483648 ≤ x0 := by omega
theorem zo_275 {x0 x1 : Int} (h0 : x0 = 1 ∧ 1936683636 < x1 ∨ x0 = 0 ∧ x1 = 1936683636 ∨ x0 = -1 ∧ x1 < 1936683636) : x0 < 2147483648 := by omega
theorem zo_276 {x0 x1 x2 : Int} (h0 : x0 = x1) (h1 : x1 = x2) (h2 : 1 ≤ x2) (h3 : -2147483648 ≤ x1) : 1 ≤ x0 := by omega
theorem zo_277 {x0 : Int} {x1 : Nat} (h0 : x0 ≤ (x1 : Int)) (h1 : x0 < 2147483648) : x0 ≤ (x1 : Int) := by omega
theorem zo_278 {x0 x1 : Int} (h0 : x0 = x1) (h1 : x1 = 0) (h2 : 0 ≤ x1) : x0 = 0 := by omega
theorem zo_279 {x0 : Int} {x1 x2 : Nat} (h0 : x0.toNat = x1) (h1 : x0 = (x2 : Int)) (h2 : -2147483648 ≤ x0) (h3 : x0 < 2147483648) : x0.toNat = x1 := by omega
theorem zo_280 {x0 : Int} (h0 : x0 = 0) (h1 : 0 ≤ x0) (h2 : x0 ≠ 0) : False := by omega
theorem zo_281 {x0 : Int} (h0 : x0 = 0) (h1 : 1 ≤ x0) : False := by omega
theorem zo_282 {x0 : Int} (h0 : -2147483648 ≤ x0) : -9223372036854775808 ≤ x0 := by omega
theorem zo_283 {x0 : Int} (h0 : x0 < 2147483648) : x0 < 9223372036854775808 := by omega
theorem zo_284 {x0 : Int} (h0 : -2147483648 ≤ x0) : -2147483648 ≤ x0 := by omega
theorem zo_285 {x0 : Int} (h0 : x0 < 2147483648) : x0 < 2147483648 := by omega
theorem zo_286 {x0 x1 : Int} (h0 : x0 = 2) (h1 : x0 = x1) : x1 = 2 := by omega
theorem zo_287 {x0 x1 x2 x3 x4 : Int} (h0 : x0 ≤ x1) (h1 : x1 ≤ x2) (h2 : x3 = 2) (h3 : x1 = x4) : x3 = 2 ∧ x0 ≤ x4 ∧ x4 ≤ x2 := by omega
theorem zo_288 {x0 x1 x2 x3 : Int} (h0 : x0 = x1) (h1 : x2 ≤ x1) (h2 : x1 ≤ x3) (h3 : x0 < x2 ∨ x3 < x0) : False := by omega
theorem zo_289 {x0 x1 : Int} (h0 : x0 = x1) (h1 : -2147483648 ≤ x1) : -2147483648 ≤ x0 := by omega
theorem zo_290 {x0 x1 : Int} (h0 : x0 = x1) (h1 : x1 < 2147483648) : x0 < 2147483648 := by omega
theorem zo_291 {x0 x1 x2 x3 x4 x5 x6 x7 x8 x9 x10 x11 x12 x13 x14 x15 x16 x17 x18 x19 x20 x21 x22 x23 x24 x25 x26 x27 x28 x29 x30 x31 x32 x33 x34 x35 x36 x37 x38 x39 x40 x41 x42 x43 x44 x45 x46 x47 x48 x49 x50 x51 x52 x53 x54 x55 x56 x57 x58 x59 x60 x61 x62 x63 x64 x65 x66 x67 x68 x69 x70 x71 : Nat} (h0 : x0 = x1 + 1) (h1 : x2 = x3 + 1) (h2 : x4 = x2 + 1) (h3 : x5 = x4 + 1) (h4 : x6 = x5 + 1) (h5 : x7 = x6 + 1) (h6 : x8 = x7 + 1) (h7 : x9 = x8 + 1) (h8 : x10 = x9 + 1) (h9 : x11 = x10 + 1) (h10 : x12 = x11 + 1) (h11 : x13 = x0) (h12 : x14 = x12 + 1) (h13 : x15 = x14 + 1) (h14 : x16 = x15 + 1) (h15 : x17 = x16 + 1) (h16 : x18 = x17 + 1) (h17 : x19 = x18 + 1) (h18 : x20 = x19 + 1) (h19 : x21 = x20 + 1) (h20 : x22 = x21 + 1) (h21 : x23 = x22 + 1) (h22 : x24 = x13) (h23 : x25 = x23 + 1) (h24 : x26 = x25 + 1) (h25 : x27 = x26 + 1) (h26 : x28 = x27 + 1) (h27 : x29 = x28 + 1) (h28 : x30 = x29) (h29 : x31 = x24 + 1) (h30 : x32 = x31 + 1) (h31 : x33 = x32 + 1) (h32 : x34 = x33 + 1) (h33 : x35 = x34 + 1) (h34 : x3 = x35 + 1) (h35 : x36 = x37 + 700) (h36 : x38 = x39 + 128) (h37 : x40 = x38 + 128) (h38 : x41 = x40 + 64) (h39 : x42 = x41 + 64) (h40 : x43 = x42 + 4096) (h41 : x44 = x43 + 1536) (h42 : x45 = x44 + 2560) (h43 : x46 = x45 + 64) (h44 : x47 = x46 + 64) (h45 : x48 = x47 + 64) (h46 : x49 = x36) (h47 : x50 = x48 + 64) (h48 : x51 = x50 + 80) (h49 : x52 = x51 + 8) (h50 : x53 = x52 + 512) (h51 : x54 = x53 + 8) (h52 : x55 = x54 + 512) (h53 : x56 = x55 + 64) (h54 : x57 = x56 + 128) (h55 : x58 = x57 + 64) (h56 : x59 = x58 + 64) (h57 : x60 = x49) (h58 : x61 = x59 + 24) (h59 : x62 = x61 + 65536) (h60 : x63 = x62 + 768) (h61 : x64 = x63 + 6) (h62 : x65 = x64 + 7) (h63 : x66 = x65) (h64 : x67 = x60 + 24) (h65 : x68 = x67 + 24) (h66 : x69 = x68 + 144) (h67 : x70 = x69 + 6) (h68 : x71 = x70 + 576) (h69 : x39 = x71 + 24) : x30 = x1 + 32 ∧ x66 = x37 + 78111 := by omega
theorem zo_292 {x0 x1 x2 : Nat} (h0 : 82 ≤ x0) (h1 : x1 < 81) (h2 : x0 = x2) : ¬ (x1 = x2) := by omega
theorem zo_293 {x0 : Nat} (h0 : x0 < 81) : x0 ≠ 81 := by omega
theorem zo_294 {x0 : Nat} (h0 : x0 = 82) : 82 ≤ x0 + 0 := by omega
theorem zo_295 {x0 : Nat} (h0 : x0 = 82) : 82 ≤ x0 + 1 := by omega
theorem zo_296 {x0 : Nat} (h0 : x0 = 82) : 82 ≤ x0 + 2 := by omega
theorem zo_297 {x0 : Nat} (h0 : x0 = 82) : 82 ≤ x0 + 3 := by omega
theorem zo_298 {x0 : Nat} (h0 : x0 = 82) : 82 ≤ x0 + 4 := by omega
theorem zo_299 {x0 : Nat} (h0 : x0 = 82) : 82 ≤ x0 + 5 := by omega
theorem zo_300 {x0 : Nat} (h0 : x0 = 82) : 82 ≤ x0 + 6 := by omega
theorem zo_301 {x0 : Nat} (h0 : x0 = 82) : 82 ≤ x0 + 7 := by omega
theorem zo_302 {x0 : Nat} (h0 : x0 = 82) : 82 ≤ x0 + 8 := by omega
theorem zo_303 {x0 : Nat} (h0 : x0 = 82) : 82 ≤ x0 + 9 := by omega
theorem zo_304 {x0 : Nat} (h0 : x0 = 82) : 82 ≤ x0 + 10 := by omega
theorem zo_305 {x0 : Nat} (h0 : x0 = 82) : 82 ≤ x0 + 11 := by omega
theorem zo_306 {x0 : Nat} (h0 : x0 = 82) : 82 ≤ x0 + 12 := by omega
theorem zo_307 {x0 : Nat} (h0 : x0 = 82) : 82 ≤ x0 + 13 := by omega
theorem zo_308 {x0 : Nat} (h0 : x0 = 82) : 82 ≤ x0 + 14 := by omega
theorem zo_309 {x0 : Nat} (h0 : x0 = 82) : 82 ≤ x0 + 15 := by omega
theorem zo_310 {x0 : Nat} (h0 : x0 = 82) : 82 ≤ x0 + 16 := by omega
theorem zo_311 {x0 : Nat} (h0 : x0 = 82) : 82 ≤ x0 + 17 := by omega
theorem zo_312 {x0 : Nat} (h0 : x0 = 82) : 82 ≤ x0 + 18 := by omega
theorem zo_313 {x0 : Nat} (h0 : x0 = 82) : 82 ≤ x0 + 19 := by omega
theorem zo_314 {x0 : Nat} (h0 : x0 = 82) : 82 ≤ x0 + 20 := by omega
theorem zo_315 {x0 : Nat} (h0 : x0 = 82) : 82 ≤ x0 + 21 := by omega
theorem zo_316 {x0 : Nat} (h0 : x0 = 82) : 82 ≤ x0 + 22 := by omega
theorem zo_317 {x0 : Nat} (h0 : x0 = 82) : 82 ≤ x0 + 23 := by omega
theorem zo_318 {x0 : Nat} (h0 : x0 = 82) : 82 ≤ x0 + 24 := by omega
theorem zo_319 {x0 : Nat} (h0 : x0 = 82) : 82 ≤ x0 + 25 := by omega
theorem zo_320 {x0 : Nat} (h0 : x0 = 82) : 82 ≤ x0 + 26 := by omega
theorem zo_321 {x0 : Nat} (h0 : x0 = 82) : 82 ≤ x0 + 27 := by omega
theorem zo_322 {x0 : Nat} (h0 : x0 = 82) : 82 ≤ x0 + 28 := by omega
theorem zo_323 {x0 : Nat} (h0 : x0 = 82) : 82 ≤ x0 + 29 := by omega
theorem zo_324 {x0 : Nat} (h0 : x0 = 82) : 82 ≤ x0 + 30 := by omega
theorem zo_325 {x0 : Nat} (h0 : x0 = 82) : 82 ≤ x0 + 31 := by omega
theorem zo_326 {x0 : Nat} (h0 : x0 = 82) : x0 < 1000000 := by omega
theorem zo_327 {x0 x1 : Nat} (h0 : x0 = 82) (h1 : 114 ≤ x1) : x0 + 1 ≤ x1 := by omega
theorem zo_328 {x0 x1 : Nat} (h0 : x0 + 78111 ≤ x1) : x0 + 700 ≤ x1 := by omega
theorem zo_329 {x0 : Nat} (h0 : x0 = 82) : 81 < x0 := by omega
theorem zo_330 {x0 x1 x2 x3 : Nat} (h0 : x0 = x1 + 1) (h1 : x2 = x0) (h2 : x3 = x2) (h3 : x1 = 82) : x3 = 82 + 1 := by omega
theorem zo_331 {x0 x1 x2 x3 : Nat} (h0 : x0 = x1 + 700) (h1 : x2 = x0) (h2 : x3 = x2) : x3 = x1 + 700 := by omega
theorem zo_332 {x0 : Nat} (h0 : x0 = 82 + 1) : x0 < 1000000 := by omega
theorem zo_333 {x0 x1 : Nat} (h0 : 114 ≤ x0) (h1 : x1 = 82 + 1) : x1 + 1 ≤ x0 := by omega
theorem zo_334 {x0 x1 x2 : Nat} (h0 : x0 + 78111 ≤ x1) (h1 : x2 = x0 + 700) : x2 + 24 ≤ x1 := by omega
theorem zo_335 {x0 : Nat} (h0 : x0 = 82 + 1) : 81 < x0 := by omega
theorem zo_336 {x0 x1 : Nat} (h0 : x0 = x1 + 1) (h1 : x1 = 82 + 1) : x0 = 82 + 2 := by omega
theorem zo_337 {x0 x1 x2 : Nat} (h0 : x0 = x1 + 24) (h1 : x1 = x2 + 700) : x0 = x2 + 724 := by omega
theorem zo_338 {x0 : Nat} (h0 : x0 = 82 + 2) : x0 < 1000000 := by omega
theorem zo_339 {x0 x1 : Nat} (h0 : 114 ≤ x0) (h1 : x1 = 82 + 2) : x1 + 1 ≤ x0 := by omega
theorem zo_340 {x0 x1 x2 : Nat} (h0 : x0 + 78111 ≤ x1) (h1 : x2 = x0 + 724) : x2 + 24 ≤ x1 := by omega
theorem zo_341 {x0 : Nat} (h0 : x0 = 82 + 2) : 81 < x0 := by omega
theorem zo_342 {x0 x1 : Nat} (h0 : x0 = x1 + 1) (h1 : x1 = 82 + 2) : x0 = 82 + 3 := by omega
theorem zo_343 {x0 x1 x2 : Nat} (h0 : x0 = x1 + 24) (h1 : x1 = x2 + 724) : x0 = x2 + 748 := by omega
theorem zo_344 {x0 : Nat} (h0 : x0 = 82 + 3) : x0 < 1000000 := by omega
theorem zo_345 {x0 x1 : Nat} (h0 : 114 ≤ x0) (h1 : x1 = 82 + 3) : x1 + 1 ≤ x0 := by omega
theorem zo_346 {x0 x1 x2 : Nat} (h0 : x0 + 78111 ≤ x1) (h1 : x2 = x0 + 748) : x2 + 144 ≤ x1 := by omega
theorem zo_347 {x0 : Nat} (h0 : x0 = 82 + 3) : 81 < x0 := by omega
theorem zo_348 {x0 x1 : Nat} (h0 : x0 = x1 + 1) (h1 : x1 = 82 + 3) : x0 = 82 + 4 := by omega
theorem zo_349 {x0 x1 x2 : Nat} (h0 : x0 = x1 + 144) (h1 : x1 = x2 + 748) : x0 = x2 + 892 := by omega
theorem zo_350 {x0 : Nat} (h0 : x0 = 82 + 4) : x0 < 1000000 := by omega
theorem zo_351 {x0 x1 : Nat} (h0 : 114 ≤ x0) (h1 : x1 = 82 + 4) : x1 + 1 ≤ x0 := by omega
theorem zo_352 {x0 x1 x2 : Nat} (h0 : x0 + 78111 ≤ x1) (h1 : x2 = x0 + 892) : x2 + 6 ≤ x1 := by omega
theorem zo_353 {x0 : Nat} (h0 : x0 = 82 + 4) : 81 < x0 := by omega
theorem zo_354 {x0 x1 : Nat} (h0 : x0 = x1 + 1) (h1 : x1 = 82 + 4) : x0 = 82 + 5 := by omega
theorem zo_355 {x0 x1 x2 : Nat} (h0 : x0 = x1 + 6) (h1 : x1 = x2 + 892) : x0 = x2 + 898 := by omega
theorem zo_356 {x0 : Nat} (h0 : x0 = 82 + 5) : x0 < 1000000 := by omega
theorem zo_357 {x0 x1 : Nat} (h0 : 114 ≤ x0) (h1 : x1 = 82 + 5) : x1 + 1 ≤ x0 := by omega
theorem zo_358 {x0 x1 x2 : Nat} (h0 : x0 + 78111 ≤ x1) (h1 : x2 = x0 + 898) : x2 + 576 ≤ x1 := by omega
theorem zo_359 {x0 : Nat} (h0 : x0 = 82 + 5) : 81 < x0 := by omega
theorem zo_360 {x0 x1 : Nat} (h0 : x0 = x1 + 1) (h1 : x1 = 82 + 5) : x0 = 82 + 6 := by omega
theorem zo_361 {x0 x1 x2 : Nat} (h0 : x0 = x1 + 576) (h1 : x1 = x2 + 898) : x0 = x2 + 1474 := by omega
theorem zo_362 {x0 : Nat} (h0 : x0 = 82 + 6) : x0 < 1000000 := by omega
theorem zo_363 {x0 x1 : Nat} (h0 : 114 ≤ x0) (h1 : x1 = 82 + 6) : x1 + 1 ≤ x0 := by omega
theorem zo_364 {x0 x1 x2 : Nat} (h0 : x0 + 78111 ≤ x1) (h1 : x2 = x0 + 1474) : x2 + 24 ≤ x1 := by omega
theorem zo_365 {x0 : Nat} (h0 : x0 = 82 + 6) : 81 < x0 := by omega
theorem zo_366 {x0 x1 : Nat} (h0 : x0 = x1 + 1) (h1 : x1 = 82 + 6) : x0 = 82 + 7 := by omega
theorem zo_367 {x0 x1 x2 : Nat} (h0 : x0 = x1 + 24) (h1 : x1 = x2 + 1474) : x0 = x2 + 1498 := by omega
theorem zo_368 {x0 : Nat} (h0 : x0 = 82 + 7) : x0 < 1000000 := by omega
theorem zo_369 {x0 x1 : Nat} (h0 : 114 ≤ x0) (h1 : x1 = 82 + 7) : x1 + 1 ≤ x0 := by omega
theorem zo_370 {x0 x1 x2 : Nat} (h0 : x0 + 78111 ≤ x1) (h1 : x2 = x0 + 1498) : x2 + 128 ≤ x1 := by omega
theorem zo_371 {x0 : Nat} (h0 : x0 = 82 + 7) : 81 < x0 := by omega
theorem zo_372 {x0 x1 : Nat} (h0 : x0 = x1 + 1) (h1 : x1 = 82 + 7) : x0 = 82 + 8 := by omega
theorem zo_373 {x0 x1 x2 : Nat} (h0 : x0 = x1 + 128) (h1 : x1 = x2 + 1498) : x0 = x2 + 1626 := by omega
theorem zo_374 {x0 : Nat} (h0 : x0 = 82 + 8) : x0 < 1000000 := by omega
theorem zo_375 {x0 x1 : Nat} (h0 : 114 ≤ x0) (h1 : x1 = 82 + 8) : x1 + 1 ≤ x0 := by omega
theorem zo_376 {x0 x1 x2 : Nat} (h0 : x0 + 78111 ≤ x1) (h1 : x2 = x0 + 1626) : x2 + 128 ≤ x1 := by omega
theorem zo_377 {x0 : Nat} (h0 : x0 = 82 + 8) : 81 < x0 := by omega
theorem zo_378 {x0 x1 : Nat} (h0 : x0 = x1 + 1) (h1 : x1 = 82 + 8) : x0 = 82 + 9 := by omega
theorem zo_379 {x0 x1 x2 : Nat} (h0 : x0 = x1 + 128) (h1 : x1 = x2 + 1626) : x0 = x2 + 1754 := by omega
theorem zo_380 {x0 : Nat} (h0 : x0 = 82 + 9) : x0 < 1000000 := by omega
theorem zo_381 {x0 x1 : Nat} (h0 : 114 ≤ x0) (h1 : x1 = 82 + 9) : x1 + 1 ≤ x0 := by omega
theorem zo_382 {x0 x1 x2 : Nat} (h0 : x0 + 78111 ≤ x1) (h1 : x2 = x0 + 1754) : x2 + 64 ≤ x1 := by omega
theorem zo_383 {x0 : Nat} (h0 : x0 = 82 + 9) : 81 < x0 := by omega
theorem zo_384 {x0 x1 : Nat} (h0 : x0 = x1 + 1) (h1 : x1 = 82 + 9) : x0 = 82 + 10 := by omega
theorem zo_385 {x0 x1 x2 : Nat} (h0 : x0 = x1 + 64) (h1 : x1 = x2 + 1754) : x0 = x2 + 1818 := by omega
theorem zo_386 {x0 : Nat} (h0 : x0 = 82 + 10) : x0 < 1000000 := by omega
theorem zo_387 {x0 x1 : Nat} (h0 : 114 ≤ x0) (h1 : x1 = 82 + 10) : x1 + 1 ≤ x0 := by omega
theorem zo_388 {x0 x1 x2 : Nat} (h0 : x0 + 78111 ≤ x1) (h1 : x2 = x0 + 1818) : x2 + 64 ≤ x1 := by omega
theorem zo_389 {x0 : Nat} (h0 : x0 = 82 + 10) : 81 < x0 := by omega
theorem zo_390 {x0 x1 : Nat} (h0 : x0 = x1 + 1) (h1 : x1 = 82 + 10) : x0 = 82 + 11 := by omega
theorem zo_391 {x0 x1 x2 : Nat} (h0 : x0 = x1 + 64) (h1 : x1 = x2 + 1818) : x0 = x2 + 1882 := by omega
theorem zo_392 {x0 : Nat} (h0 : x0 = 82 + 11) : x0 < 1000000 := by omega
theorem zo_393 {x0 x1 : Nat} (h0 : 114 ≤ x0) (h1 : x1 = 82 + 11) : x1 + 1 ≤ x0 := by omega
theorem zo_394 {x0 x1 x2 : Nat} (h0 : x0 + 78111 ≤ x1) (h1 : x2 = x0 + 1882) : x2 + 4096 ≤ x1 := by omega
theorem zo_395 {x0 : Nat} (h0 : x0 = 82 + 11) : 81 < x0 := by omega
theorem zo_396 {x0 x1 : Nat} (h0 : x0 = x1 + 1) (h1 : x1 = 82 + 11) : x0 = 82 + 12 := by omega
theorem zo_397 {x0 x1 x2 : Nat} (h0 : x0 = x1 + 4096) (h1 : x1 = x2 + 1882) : x0 = x2 + 5978 := by omega
theorem zo_398 {x0 : Nat} (h0 : x0 = 82 + 12) : x0 < 1000000 := by omega
theorem zo_399 {x0 x1 : Nat} (h0 : 114 ≤ x0) (h1 : x1 = 82 + 12) : x1 + 1 ≤ x0 := by omega
theorem zo_400 {x0 x1 x2 : Nat} (h0 : x0 + 78111 ≤ x1) (h1 : x2 = x0 + 5978) : x2 + 1536 ≤ x1 := by omega
theorem zo_401 {x0 : Nat} (h0 : x0 = 82 + 12) : 81 < x0 := by omega
theorem zo_402 {x0 x1 : Nat} (h0 : x0 = x1 + 1) (h1 : x1 = 82 + 12) : x0 = 82 + 13 := by omega
theorem zo_403 {x0 x1 x2 : Nat} (h0 : x0 = x1 + 1536) (h1 : x1 = x2 + 5978) : x0 = x2 + 7514 := by omega
theorem zo_404 {x0 : Nat} (h0 : x0 = 82 + 13) : x0 < 1000000 := by omega
theorem zo_405 {x0 x1 : Nat} (h0 : 114 ≤ x0) (h1 : x1 = 82 + 13) : x1 + 1 ≤ x0 := by omega
theorem zo_406 {x0 x1 x2 : Nat} (h0 : x0 + 78111 ≤ x1) (h1 : x2 = x0 + 7514) : x2 + 2560 ≤ x1 := by omega
theorem zo_407 {x0 : Nat} (h0 : x0 = 82 + 13) : 81 < x0 := by omega
theorem zo_408 {x0 x1 : Nat} (h0 : x0 = x1 + 1) (h1 : x1 = 82 + 13) : x0 = 82 + 14 := by omega
theorem zo_409 {x0 x1 x2 : Nat} (h0 : x0 = x1 + 2560) (h1 : x1 = x2 + 7514) : x0 = x2 + 10074 := by omega
theorem zo_410 {x0 : Nat} (h0 : x0 = 82 + 14) : x0 < 1000000 := by omega
theorem zo_411 {x0 x1 : Nat} (h0 : 114 ≤ x0) (h1 : x1 = 82 + 14) : x1 + 1 ≤ x0 := by omega
theorem zo_412 {x0 x1 x2 : Nat} (h0 : x0 + 78111 ≤ x1) (h1 : x2 = x0 + 10074) : x2 + 64 ≤ x1 := by omega
theorem zo_413 {x0 : Nat} (h0 : x0 = 82 + 14) : 81 < x0 := by omega
theorem zo_414 {x0 x1 : Nat} (h0 : x0 = x1 + 1) (h1 : x1 = 82 + 14) : x0 = 82 + 15 := by omega
theorem zo_415 {x0 x1 x2 : Nat} (h0 : x0 = x1 + 64) (h1 : x1 = x2 + 10074) : x0 = x2 + 10138 := by omega
theorem zo_416 {x0 : Nat} (h0 : x0 = 82 + 15) : x0 < 1000000 := by omega
theorem zo_417 {x0 x1 : Nat} (h0 : 114 ≤ x0) (h1 : x1 = 82 + 15) : x1 + 1 ≤ x0 := by omega
theorem zo_418 {x0 x1 x2 : Nat} (h0 : x0 + 78111 ≤ x1) (h1 : x2 = x0 + 10138) : x2 + 64 ≤ x1 := by omega
theorem zo_419 {x0 : Nat} (h0 : x0 = 82 + 15) : 81 < x0 := by omega
theorem zo_420 {x0 x1 : Nat} (h0 : x0 = x1 + 1) (h1 : x1 = 82 + 15) : x0 = 82 + 16 := by omega
theorem zo_421 {x0 x1 x2 : Nat} (h0 : x0 = x1 + 64) (h1 : x1 = x2 + 10138) : x0 = x2 + 10202 := by omega
theorem zo_422 {x0 : Nat} (h0 : x0 = 82 + 16) : x0 < 1000000 := by omega
theorem zo_423 {x0 x1 : Nat} (h0 : 114 ≤ x0) (h1 : x1 = 82 + 16) : x1 + 1 ≤ x0 := by omega
theorem zo_424 {x0 x1 x2 : Nat} (h0 : x0 + 78111 ≤ x1) (h1 : x2 = x0 + 10202) : x2 + 64 ≤ x1 := by omega
theorem zo_425 {x0 : Nat} (h0 : x0 = 82 + 16) : 81 < x0 := by omega
theorem zo_426 {x0 x1 : Nat} (h0 : x0 = x1 + 1) (h1 : x1 = 82 + 16) : x0 = 82 + 17 := by omega
theorem zo_427 {x0 x1 x2 : Nat} (h0 : x0 = x1 + 64) (h1 : x1 = x2 + 10202) : x0 = x2 + 10266 := by omega
theorem zo_428 {x0 : Nat} (h0 : x0 = 82 + 17) : x0 < 1000000 := by omega
theorem zo_429 {x0 x1 : Nat} (h0 : 114 ≤ x0) (h1 : x1 = 82 + 17) : x1 + 1 ≤ x0 := by omega
theorem zo_430 {x0 x1 x2 : Nat} (h0 : x0 + 78111 ≤ x1) (h1 : x2 = x0 + 10266) : x2 + 64 ≤ x1 := by omega
theorem zo_431 {x0 : Nat} (h0 : x0 = 82 + 17) : 81 < x0 := by omega
theorem zo_432 {x0 x1 : Nat} (h0 : x0 = x1 + 1) (h1 : x1 = 82 + 17) : x0 = 82 + 18 := by omega
theorem zo_433 {x0 x1 x2 : Nat} (h0 : x0 = x1 + 64) (h1 : x1 = x2 + 10266) : x0 = x2 + 10330 := by omega
theorem zo_434 {x0 : Nat} (h0 : x0 = 82 + 18) : x0 < 1000000 := by omega
theorem zo_435 {x0 x1 : Nat} (h0 : 114 ≤ x0) (h1 : x1 = 82 + 18) : x1 + 1 ≤ x0 := by omega
theorem zo_436 {x0 x1 x2 : Nat} (h0 : x0 + 78111 ≤ x1) (h1 : x2 = x0 + 10330) : x2 + 80 ≤ x1 := by omega
theorem zo_437 {x0 : Nat} (h0 : x0 = 82 + 18) : 81 < x0 := by omega
theorem zo_438 {x0 x1 : Nat} (h0 : x0 = x1 + 1) (h1 : x1 = 82 + 18) : x0 = 82 + 19 := by omega
theorem zo_439 {x0 x1 x2 : Nat} (h0 : x0 = x1 + 80) (h1 : x1 = x2 + 10330) : x0 = x2 + 10410 := by omega
theorem zo_440 {x0 : Nat} (h0 : x0 = 82 + 19) : x0 < 1000000 := by omega
theorem zo_441 {x0 x1 : Nat} (h0 : 114 ≤ x0) (h1 : x1 = 82 + 19) : x1 + 1 ≤ x0 := by omega
theorem zo_442 {x0 x1 x2 : Nat} (h0 : x0 + 78111 ≤ x1) (h1 : x2 = x0 + 10410) : x2 + 8 ≤ x1 := by omega
theorem zo_443 {x0 : Nat} (h0 : x0 = 82 + 19) : 81 < x0 := by omega
theorem zo_444 {x0 x1 : Nat} (h0 : x0 = x1 + 1) (h1 : x1 = 82 + 19) : x0 = 82 + 20 := by omega
theorem zo_445 {x0 x1 x2 : Nat} (h0 : x0 = x1 + 8) (h1 : x1 = x2 + 10410) : x0 = x2 + 10418 := by omega
theorem zo_446 {x0 : Nat} (h0 : x0 = 82 + 20) : x0 < 1000000 := by omega
theorem zo_447 {x0 x1 : Nat} (h0 : 114 ≤ x0) (h1 : x1 = 82 + 20) : x1 + 1 ≤ x0 := by omega
theorem zo_448 {x0 x1 x2 : Nat} (h0 : x0 + 78111 ≤ x1) (h1 : x2 = x0 + 10418) : x2 + 512 ≤ x1 := by omega
theorem zo_449 {x0 : Nat} (h0 : x0 = 82 + 20) : 81 < x0 := by omega
theorem zo_450 {x0 x1 : Nat} (h0 : x0 = x1 + 1) (h1 : x1 = 82 + 20) : x0 = 82 + 21 := by omega
theorem zo_451 {x0 x1 x2 : Nat} (h0 : x0 = x1 + 512) (h1 : x1 = x2 + 10418) : x0 = x2 + 10930 := by omega
theorem zo_452 {x0 : Nat} (h0 : x0 = 82 + 21) : x0 < 1000000 := by omega
theorem zo_453 {x0 x1 : Nat} (h0 : 114 ≤ x0) (h1 : x1 = 82 + 21) : x1 + 1 ≤ x0 := by omega
theorem zo_454 {x0 x1 x2 : Nat} (h0 : x0 + 78111 ≤ x1) (h1 : x2 = x0 + 10930) : x2 + 8 ≤ x1 := by omega
theorem zo_455 {x0 : Nat} (h0 : x0 = 82 + 21) : 81 < x0 := by omega
theorem zo_456 {x0 x1 : Nat} (h0 : x0 = x1 + 1) (h1 : x1 = 82 + 21) : x0 = 82 + 22 := by omega
theorem zo_457 {x0 x1 x2 : Nat} (h0 : x0 = x1 + 8) (h1 : x1 = x2 + 10930) : x0 = x2 + 10938 := by omega
theorem zo_458 {x0 : Nat} (h0 : x0 = 82 + 22) : x0 < 1000000 := by omega
theorem zo_459 {x0 x1 : Nat} (h0 : 114 ≤ x0) (h1 : x1 = 82 + 22) : x1 + 1 ≤ x0 := by omega
theorem zo_460 {x0 x1 x2 : Nat} (h0 : x0 + 78111 ≤ x1) (h1 : x2 = x0 + 10938) : x2 + 512 ≤ x1 := by omega
theorem zo_461 {x0 : Nat} (h0 : x0 = 82 + 22) : 81 < x0 := by omega
theorem zo_462 {x0 x1 : Nat} (h0 : x0 = x1 + 1) (h1 : x1 = 82 + 22) : x0 = 82 + 23 := by omega
theorem zo_463 {x0 x1 x2 : Nat} (h0 : x0 = x1 + 512) (h1 : x1 = x2 + 10938) : x0 = x2 + 11450 := by omega
theorem zo_464 {x0 : Nat} (h0 : x0 = 82 + 23) : x0 < 1000000 := by omega
theorem zo_465 {x0 x1 : Nat} (h0 : 114 ≤ x0) (h1 : x1 = 82 + 23) : x1 + 1 ≤ x0 := by omega
theorem zo_466 {x0 x1 x2 : Nat} (h0 : x0 + 78111 ≤ x1) (h1 : x2 = x0 + 11450) : x2 + 64 ≤ x1 := by omega
theorem zo_467 {x0 : Nat} (h0 : x0 = 82 + 23) : 81 < x0 := by omega
theorem zo_468 {x0 x1 : Nat} (h0 : x0 = x1 + 1) (h1 : x1 = 82 + 23) : x0 = 82 + 24 := by omega
theorem zo_469 {x0 x1 x2 : Nat} (h0 : x0 = x1 + 64) (h1 : x1 = x2 + 11450) : x0 = x2 + 11514 := by omega
theorem zo_470 {x0 : Nat} (h0 : x0 = 82 + 24) : x0 < 1000000 := by omega
theorem zo_471 {x0 x1 : Nat} (h0 : 114 ≤ x0) (h1 : x1 = 82 + 24) : x1 + 1 ≤ x0 := by omega
theorem zo_472 {x0 x1 x2 : Nat} (h0 : x0 + 78111 ≤ x1) (h1 : x2 = x0 + 11514) : x2 + 128 ≤ x1 := by omega
theorem zo_473 {x0 : Nat} (h0 : x0 = 82 + 24) : 81 < x0 := by omega
theorem zo_474 {x0 x1 : Nat} (h0 : x0 = x1 + 1) (h1 : x1 = 82 + 24) : x0 = 82 + 25 := by omega
theorem zo_475 {x0 x1 x2 : Nat} (h0 : x0 = x1 + 128) (h1 : x1 = x2 + 11514) : x0 = x2 + 11642 := by omega
theorem zo_476 {x0 : Nat} (h0 : x0 = 82 + 25) : x0 < 1000000 := by omega
theorem zo_477 {x0 x1 : Nat} (h0 : 114 ≤ x0) (h1 : x1 = 82 + 25) : x1 + 1 ≤ x0 := by omega
theorem zo_478 {x0 x1 x2 : Nat} (h0 : x0 + 78111 ≤ x1) (h1 : x2 = x0 + 11642) : x2 + 64 ≤ x1 := by omega
theorem zo_479 {x0 : Nat} (h0 : x0 = 82 + 25) : 81 < x0 := by omega
theorem zo_480 {x0 x1 : Nat} (h0 : x0 = x1 + 1) (h1 : x1 = 82 + 25) : x0 = 82 + 26 := by omega
theorem zo_481 {x0 x1 x2 : Nat} (h0 : x0 = x1 + 64) (h1 : x1 = x2 + 11642) : x0 = x2 + 11706 := by omega
theorem zo_482 {x0 : Nat} (h0 : x0 = 82 + 26) : x0 < 1000000 := by omega
theorem zo_483 {x0 x1 : Nat} (h0 : 114 ≤ x0) (h1 : x1 = 82 + 26) : x1 + 1 ≤ x0 := by omega
theorem zo_484 {x0 x1 x2 : Nat} (h0 : x0 + 78111 ≤ x1) (h1 : x2 = x0 + 11706) : x2 + 64 ≤ x1 := by omega
theorem zo_485 {x0 : Nat} (h0 : x0 = 82 + 26) : 81 < x0 := by omega
theorem zo_486 {x0 x1 : Nat} (h0 : x0 = x1 + 1) (h1 : x1 = 82 + 26) : x0 = 82 + 27 := by omega
theorem zo_487 {x0 x1 x2 : Nat} (h0 : x0 = x1 + 64) (h1 : x1 = x2 + 11706) : x0 = x2 + 11770 := by omega
theorem zo_488 {x0 : Nat} (h0 : x0 = 82 + 27) : x0 < 1000000 := by omega
theorem zo_489 {x0 x1 : Nat} (h0 : 114 ≤ x0) (h1 : x1 = 82 + 27) : x1 + 1 ≤ x0 := by omega
theorem zo_490 {x0 x1 x2 : Nat} (h0 : x0 + 78111 ≤ x1) (h1 : x2 = x0 + 11770) : x2 + 24 ≤ x1 := by omega
theorem zo_491 {x0 : Nat} (h0 : x0 = 82 + 27) : 81 < x0 := by omega
theorem zo_492 {x0 x1 : Nat} (h0 : x0 = x1 + 1) (h1 : x1 = 82 + 27) : x0 = 82 + 28 := by omega
theorem zo_493 {x0 x1 x2 : Nat} (h0 : x0 = x1 + 24) (h1 : x1 = x2 + 11770) : x0 = x2 + 11794 := by omega
theorem zo_494 {x0 : Nat} (h0 : x0 = 82 + 28) : x0 < 1000000 := by omega
theorem zo_495 {x0 x1 : Nat} (h0 : 114 ≤ x0) (h1 : x1 = 82 + 28) : x1 + 1 ≤ x0 := by omega
theorem zo_496 {x0 x1 x2 : Nat} (h0 : x0 + 78111 ≤ x1) (h1 : x2 = x0 + 11794) : x2 + 65536 ≤ x1 := by omega
theorem zo_497 {x0 : Nat} (h0 : x0 = 82 + 28) : 81 < x0 := by omega
theorem zo_498 {x0 x1 : Nat} (h0 : x0 = x1 + 1) (h1 : x1 = 82 + 28) : x0 = 82 + 29 := by omega
theorem zo_499 {x0 x1 x2 : Nat} (h0 : x0 = x1 + 65536) (h1 : x1 = x2 + 11794) : x0 = x2 + 77330 := by omega
theorem zo_500 {x0 : Nat} (h0 : x0 = 82 + 29) : x0 < 1000000 := by omega
theorem zo_501 {x0 x1 : Nat} (h0 : 114 ≤ x0) (h1 : x1 = 82 + 29) : x1 + 1 ≤ x0 := by omega
theorem zo_502 {x0 x1 x2 : Nat} (h0 : x0 + 78111 ≤ x1) (h1 : x2 = x0 + 77330) : x2 + 768 ≤ x1 := by omega
theorem zo_503 {x0 : Nat} (h0 : x0 = 82 + 29) : 81 < x0 := by omega
theorem zo_504 {x0 x1 : Nat} (h0 : x0 = x1 + 1) (h1 : x1 = 82 + 29) : x0 = 82 + 30 := by omega
theorem zo_505 {x0 x1 x2 : Nat} (h0 : x0 = x1 + 768) (h1 : x1 = x2 + 77330) : x0 = x2 + 78098 := by omega
theorem zo_506 {x0 : Nat} (h0 : x0 = 82 + 30) : x0 < 1000000 := by omega
theorem zo_507 {x0 x1 : Nat} (h0 : 114 ≤ x0) (h1 : x1 = 82 + 30) : x1 + 1 ≤ x0 := by omega
theorem zo_508 {x0 x1 x2 : Nat} (h0 : x0 + 78111 ≤ x1) (h1 : x2 = x0 + 78098) : x2 + 6 ≤ x1 := by omega
theorem zo_509 {x0 : Nat} (h0 : x0 = 82 + 30) : 81 < x0 := by omega
theorem zo_510 {x0 x1 : Nat} (h0 : x0 = x1 + 1) (h1 : x1 = 82 + 30) : x0 = 82 + 31 := by omega
theorem zo_511 {x0 x1 x2 : Nat} (h0 : x0 = x1 + 6) (h1 : x1 = x2 + 78098) : x0 = x2 + 78104 := by omega
theorem zo_512 {x0 : Nat} (h0 : x0 = 82 + 31) : x0 < 1000000 := by omega
theorem zo_513 {x0 x1 : Nat} (h0 : 114 ≤ x0) (h1 : x1 = 82 + 31) : x1 + 1 ≤ x0 := by omega
theorem zo_514 {x0 x1 x2 : Nat} (h0 : x0 + 78111 ≤ x1) (h1 : x2 = x0 + 78104) : x2 + 7 ≤ x1 := by omega
theorem zo_515 {x0 : Nat} (h0 : x0 = 82 + 31) : 81 < x0 := by omega
theorem zo_516 {x0 x1 : Int} (h0 : x0 ≤ x1) (h1 : x1 < 2147483648) (h2 : 1 ≤ x0) (h3 : x0 ≤ 64) (h4 : x1 ≤ x0) : x1 = x0 := by omega
theorem zo_517 {x1 x2 : Int} {x0 x3 : Nat} (h0 : x0 ≤ 64) (h1 : x1 ≤ x2) (h2 : (x3 : Int) < (x0 : Int)) (h3 : x1 = (x0 : Int)) (h4 : 0 ≤ x2) : (x3 : Int) < x2 := by omega
theorem zo_518 {x1 x2 : Int} {x0 : Nat} (h0 : x0 ≤ 64) (h1 : x1 ≤ x2) (h2 : x2 < 2147483648) (h3 : x1 = (x0 : Int)) (h4 : 0 ≤ x2) (h5 : x2 ≤ x1) : x2 = (x0 : Int) := by omega
theorem zo_519 {x1 x2 : Int} {x0 : Nat} (h0 : x0 ≤ 64) (h1 : x1 ≤ x2) (h2 : x1 = (x0 : Int)) (h3 : 0 ≤ x2) : (x0 : Int) ≤ x2 := by omega
theorem zo_520 {x1 x2 : Int} {x0 : Nat} (h0 : x0 ≤ 64) (h1 : x1 < x2) (h2 : x1 < 2147483648) (h3 : x2 = (x0 : Int)) : x1 + 1 < 2147483648 := by omega
theorem zo_521 {x1 x2 : Int} {x0 x3 : Nat} (h0 : x0 ≤ 64) (h1 : x1 < x2) (h2 : (65 - x1 : Int).toNat < x3 + 1) (h3 : x1 < 2147483648) (h4 : x2 = (x0 : Int)) (h5 : 0 ≤ x1) : (65 - (x1 + 1) : Int).toNat < x3 := by omega
theorem zo_522 {x1 x2 : Int} {x0 : Nat} (h0 : x0 ≤ 64) (h1 : x1 < x2) (h2 : x1 < 2147483648) (h3 : x2 = (x0 : Int)) : x1 < (64 : Int) := by omega
theorem zo_523 {x1 x2 : Int} {x0 : Nat} (h0 : x0 ≤ 64) (h1 : x1 < x2) (h2 : x1 < 2147483648) (h3 : x2 = (x0 : Int)) (h4 : 0 ≤ x1) : x1.toNat < x0 := by omega
theorem zo_524 {x0 x2 : Int} {x1 : Nat} (h0 : x0 = (x1 : Int)) (h1 : x2 = x0) (h2 : x2 < 2147483648) : x2 = (x1 : Int) := by omega
theorem zo_525 {x1 x2 x3 : Int} {x0 : Nat} (h0 : x0 ≤ 64) (h1 : x1 < x2) (h2 : x1 < 2147483648) (h3 : x2 = (x0 : Int)) (h4 : 0 ≤ x1) (h5 : x3 = (x0 : Int)) (h6 : x1 < x3) : (x1.toNat : Int) < (x0 : Int) := by omega
theorem zo_526 {x0 : Nat} : -2147483648 ≤ (x0 : Int) := by omega
theorem zo_527 {x0 x2 : Int} {x1 : Nat} (h0 : x0 = (x1 : Int)) (h1 : x2 = x0) (h2 : x2 < 2147483648) : (x1 : Int) < 2147483648 := by omega
theorem zo_528 {x1 x2 : Int} {x0 : Nat} (h0 : x0 ≤ 64) (h1 : x1 < x2) (h2 : x1 < 2147483648) (h3 : x2 = (x0 : Int)) : x1 ≤ 63 := by omega
theorem zo_529 {x0 x1 : Int} (h0 : 0 ≤ x0) (h1 : 0 ≤ x1) : 0 ≤ 64 * x0 + x1 := by omega
theorem zo_530 {x1 x2 x3 : Int} {x0 : Nat} (h0 : x0 ≤ 64) (h1 : x1 < x2) (h2 : x1 < 2147483648) (h3 : x2 = (x0 : Int)) (h4 : x3 < x2) : 64 * x3 + x1 < (4096 : Int) := by omega
theorem zo_531 {x1 x2 : Int} {x0 : Nat} (h0 : x0 ≤ 64) (h1 : x1 < x2) (h2 : x1 < 2147483648) (h3 : x2 = (x0 : Int)) : x1 < 64 := by omega
theorem zo_532 {x0 x1 : Int} {x2 : Nat} (h0 : x0 = x1) (h1 : x1 = (x2 : Int)) : x0 = (x2 : Int) := by omega
theorem zo_533 {x0 x1 : Int} (h0 : x0 = x1) (h1 : 1 ≤ x1) : 1 ≤ x0 := by omega
theorem zo_534 {x0 x1 : Int} (h0 : x0 = x1) (h1 : x1 ≤ 64) : x0 ≤ 64 := by omega
theorem zo_535 {x0 x1 x2 : Int} (h0 : x0 = x1) (h1 : x2 < x1) : x2 < x0 := by omega
theorem zo_536 {x0 x1 x2 : Int} (h0 : x0 = x1) (h1 : x2 < x1) : x2 + 1 ≤ x0 := by omega
theorem zo_537 {x0 : Int} {x1 : Nat} (h0 : x0 = (x1 : Int)) : 0 ≤ x0 := by omega
theorem zo_538 {x1 x2 : Int} {x0 : Nat} (h0 : x0 ≤ 24) (h1 : x1 ≤ x2) (h2 : x1 = (x0 : Int)) (h3 : 0 ≤ x2) : (x0 : Int) ≤ x2 := by omega
theorem zo_539 {x1 x2 : Int} {x0 : Nat} (h0 : x0 ≤ 64) (h1 : x1 < 2147483648) (h2 : x2 = (x0 : Int)) (h3 : x1 < x2) : x1 + 1 < 2147483648 := by omega
theorem zo_540 {x1 x3 : Int} {x0 x2 : Nat} (h0 : x0 ≤ 64) (h1 : (65 - x1 : Int).toNat < x2 + 1) (h2 : x1 < 2147483648) (h3 : 0 ≤ x1) (h4 : x3 = (x0 : Int)) (h5 : x1 < x3) : (65 - (x1 + 1) : Int).toNat < x2 := by omega
theorem zo_541 {x1 x2 : Int} {x0 : Nat} (h0 : x0 ≤ 64) (h1 : x1 < 2147483648) (h2 : x2 = (x0 : Int)) (h3 : x1 < x2) : x1 < (64 : Int) := by omega
theorem zo_542 {x1 x2 x3 : Int} {x0 : Nat} (h0 : x0 ≤ 64) (h1 : x1 < x2) (h2 : x1 < 2147483648) (h3 : x2 = (x0 : Int)) (h4 : 0 ≤ x1) (h5 : x3 = (x0 : Int)) (h6 : x1 < x3) : x1.toNat < x0 := by omega
theorem zo_543 {x0 x1 : Int} (h0 : 0 ≤ x0) (h1 : 0 ≤ x1) : 0 ≤ 24 * x0 + x1 := by omega
theorem zo_544 {x2 x3 x4 x5 : Int} {x0 x1 : Nat} (h0 : x0 ≤ 24) (h1 : x1 ≤ 64) (h2 : x2 < x3) (h3 : x2 < 2147483648) (h4 : x3 = (x0 : Int)) (h5 : x4 = (x1 : Int)) (h6 : x5 < x4) : 24 * x5 + x2 < (1536 : Int) := by omega
theorem zo_545 {x1 x2 : Int} {x0 : Nat} (h0 : x0 ≤ 24) (h1 : x1 < x2) (h2 : x1 < 2147483648) (h3 : x2 = (x0 : Int)) : x1 < (x0 : Int) := by omega
theorem zo_546 {x1 x2 : Int} {x0 : Nat} (h0 : x0 ≤ 24) (h1 : x1 < x2) (h2 : x1 < 2147483648) (h3 : x2 = (x0 : Int)) : x1 + 1 < 2147483648 := by omega
theorem zo_547 {x1 x2 : Int} {x0 x3 : Nat} (h0 : x0 ≤ 24) (h1 : x1 < x2) (h2 : (25 - x1 : Int).toNat < x3 + 1) (h3 : x1 < 2147483648) (h4 : x2 = (x0 : Int)) (h5 : 0 ≤ x1) : (25 - (x1 + 1) : Int).toNat < x3 := by omega
theorem zo_548 {x0 x1 : Int} (h0 : x0 < x1) (h1 : x0 < 2147483648) (h2 : x1 ≤ 64) : x0 < (128 : Int) := by omega
theorem zo_549 {x0 x1 : Int} (h0 : x0 < x1) (h1 : x0 < 2147483648) (h2 : 1 ≤ x1) (h3 : x1 ≤ 64) (h4 : 0 ≤ x0) : (x0.toNat : Int) < x1 := by omega
theorem zo_550 {x0 x1 : Int} (h0 : x0 = x1) (h1 : x0 < 2147483648) : x1 < 2147483648 := by omega
theorem zo_551 {x0 : Int} {x1 : Nat} (h0 : x0 = (x1 : Int)) (h1 : x0 < 2147483648) : (x1 : Int) < 2147483648 := by omega
theorem zo_552 {x1 : Int} {x0 : Nat} (h0 : x0 ≤ 64) (h1 : x1 = (x0 : Int)) : x1 ≤ 64 := by omega
theorem zo_553 {x0 x1 x2 : Int} (h0 : 0 ≤ x0) (h1 : x1 = x2) (h2 : -2147483648 ≤ x1) (h3 : x2 = x0) : 0 ≤ x1 := by omega
theorem zo_554 {x1 x2 x3 x4 : Int} {x0 : Nat} (h0 : x0 ≤ 64) (h1 : x1 < x2) (h2 : x3 = x4) (h3 : x3 < 2147483648) (h4 : x4 = x1) (h5 : x2 = (x0 : Int)) : x3 < (64 : Int) := by omega
theorem zo_555 {x0 x1 : Int} (h0 : x0 < x1) (h1 : x0 < 2147483648) (h2 : x1 ≤ 64) : x0 ≤ 1000 := by omega
theorem zo_556 {x0 x1 : Int} {x2 : Nat} (h0 : x0 < x1) (h1 : x0 < 2147483648) (h2 : x1 = (x2 : Int)) : x0 < (x2 : Int) := by omega
theorem zo_557 {x1 x2 : Int} {x0 : Nat} (h0 : x0 ≤ 64) (h1 : x1 < x2) (h2 : x1 < 2147483648) (h3 : x2 = (x0 : Int)) : x1 ≤ 1000 := by omega
theorem zo_558 {x0 x1 : Int} (h0 : x0 < x1) (h1 : x0 < 2147483648) (h2 : x1 ≤ 64) : x0 + 1 < 2147483648 := by omega
theorem zo_559 {x0 x1 x2 : Int} {x3 : Nat} (h0 : x0 = x1) (h1 : x2 = x0) (h2 : x1 = (x3 : Int)) : x2 = (x3 : Int) := by omega
theorem zo_560 {x0 x1 x2 : Int} (h0 : x0 = x1) (h1 : x2 = x0) (h2 : 1 ≤ x1) : 1 ≤ x2 := by omega
theorem zo_561 {x0 x1 x2 : Int} (h0 : x0 = x1) (h1 : x2 = x0) (h2 : x1 ≤ 64) : x2 ≤ 64 := by omega
theorem zo_562 {x0 x1 x2 x3 : Int} (h0 : x0 = x1) (h1 : x2 = x0) (h2 : x3 < x1) (h3 : x3 < 2147483648) (h4 : 1 ≤ x1) (h5 : x1 ≤ 64) : x3 + 1 ≤ x2 := by omega
theorem zo_563 {x0 x1 : Int} {x2 : Nat} (h0 : x0 < x1) (h1 : (65 - x0 : Int).toNat < x2 + 1) (h2 : x0 < 2147483648) (h3 : x1 ≤ 64) (h4 : 0 ≤ x0) : (65 - (x0 + 1) : Int).toNat < x2 := by omega
theorem zo_564 {x0 : Int} (h0 : 1 ≤ x0) : 0 ≤ x0 := by omega
theorem zo_565 {x1 : Int} {x0 : Nat} (h0 : (x0 : Int) < x1 + 1) (h1 : 0 ≤ x1) (h2 : ¬ (x0 = x1.toNat)) : (x0 : Int) < x1 := by omega
theorem zo_566 {x0 x1 x2 : Int} (h0 : x0 < x1) (h1 : x2 ≤ x0) (h2 : x0 < 2147483648) (h3 : x1 ≤ 64) : x2 ≤ 63 := by omega
theorem zo_567 {x0 x1 x2 : Int} (h0 : x0 = x1) (h1 : x2 < x1) (h2 : x2 < 2147483648) (h3 : 1 ≤ x1) (h4 : x1 ≤ 64) : x2 + 1 ≤ x0 := by omega
theorem zo_568 {x0 x1 : Int} (h0 : x0 = x1) (h1 : 1 ≤ x1) : 0 ≤ x0 := by omega
theorem zo_569 {x1 x2 : Int} {x0 : Nat} (h0 : x0 ≤ 24) (h1 : x1 ≤ x2) (h2 : x1 = (x0 : Int)) (h3 : 1 ≤ x2) : (x0 : Int) ≤ x2 := by omega
theorem zo_570 {x0 x1 : Int} (h0 : x0 < 2147483648) (h1 : x1 ≤ 64) (h2 : x0 < x1) : x0 + 1 < 2147483648 := by omega
theorem zo_571 {x0 x2 : Int} {x1 : Nat} (h0 : (65 - x0 : Int).toNat < x1 + 1) (h1 : x0 < 2147483648) (h2 : x2 ≤ 64) (h3 : x0 < x2) (h4 : 0 ≤ x0) : (65 - (x0 + 1) : Int).toNat < x1 := by omega
theorem zo_572 {x0 x1 : Int} (h0 : x0 < 2147483648) (h1 : x1 ≤ 64) (h2 : x0 < x1) : x0 < (128 : Int) := by omega
theorem zo_573 {x0 x1 : Int} (h0 : x0 < 2147483648) (h1 : 1 ≤ x1) (h2 : x1 ≤ 64) (h3 : x0 < x1) (h4 : 0 ≤ x0) : (x0.toNat : Int) < x1 := by omega
theorem zo_574 {x0 x1 : Int} (h0 : 0 ≤ x0) (h1 : x1 = x0) (h2 : -2147483648 ≤ x1) : 0 ≤ x1 := by omega
theorem zo_575 {x1 x2 : Int} {x0 : Nat} (h0 : x0 ≤ 24) (h1 : x1 < x2) (h2 : x1 < 2147483648) (h3 : x2 = (x0 : Int)) : x1 < 32 := by omega
theorem zo_576 {x0 : Int} (h0 : 1 ≤ x0) : -2147483648 ≤ x0 + 1 := by omega
theorem zo_577 {x0 : Int} (h0 : 1 ≤ x0) : 1 ≤ x0 + 1 := by omega
theorem zo_578 {x1 x2 : Int} {x0 x3 : Nat} (h0 : x0 ≤ 24) (h1 : x1 < x2) (h2 : (25 - x1 : Int).toNat < x3 + 1) (h3 : x1 < 2147483648) (h4 : x2 = (x0 : Int)) (h5 : 1 ≤ x1) : (25 - (x1 + 1) : Int).toNat < x3 := by omega
theorem zo_579 {x0 : Int} (h0 : x0 ≤ 64) : x0 ≤ 128 := by omega
theorem zo_580 {x0 : Int} (h0 : x0 ≤ 64) : x0 < (128 : Int) := by omega
theorem zo_581 {x0 x1 : Int} (h0 : x0 = x1) (h1 : 1 ≤ x1) : -2147483648 ≤ x0 + 1 := by omega
theorem zo_582 {x0 x1 : Int} (h0 : x0 = x1) (h1 : x1 ≤ 64) : x0 + 1 < 2147483648 := by omega
theorem zo_583 {x0 : Int} (h0 : 0 ≤ x0) (h1 : x0 = -1) : False := by omega
theorem zo_584 {x0 x1 x2 : Int} (h0 : x0 = x1) (h1 : x2 = x0 + 1) (h2 : 1 ≤ x1) (h3 : -2147483648 ≤ x2) : 1 ≤ x2 := by omega
theorem zo_585 {x0 x1 x2 x3 : Int} (h0 : x0 = x1) (h1 : x2 < 2147483648) (h2 : x3 = x0 + 1) (h3 : 1 ≤ x1) (h4 : x1 ≤ 64) (h5 : x2 < x1) : x2 < x3 := by omega
theorem zo_586 {x0 x1 x2 x3 : Int} (h0 : x0 = x1) (h1 : x2 = x0) (h2 : x3 < x1) : x3 + 1 ≤ x2 := by omega
theorem zo_587 {x0 x1 : Int} (h0 : 0 ≤ x0) (h1 : x0 < x1) : (x0.toNat : Int) < x1 := by omega
theorem zo_588 {x0 x1 x2 x3 x4 : Int} (h0 : x0 = x1) (h1 : x2 < x3) (h2 : x2 < 2147483648) (h3 : x4 = x0 + 1) (h4 : x3 ≤ 64) (h5 : 1 ≤ x1) (h6 : x2 < x1) : x2 < x4 := by omega
theorem zo_589 {x1 : Int} {x0 : Nat} (h0 : 1 ≤ x0) (h1 : x1 = (x0 : Int)) : 1 ≤ x1 := by omega
theorem zo_590 {x0 x1 x2 : Int} {x3 : Nat} (h0 : x0 = x1) (h1 : x1 = x2) (h2 : x2 = (x3 : Int)) (h3 : x2 ≤ 24) : x0 = (x3 : Int) := by omega
theorem zo_591 {x0 x1 : Int} (h0 : x0 = x1) (h1 : x1 = 1) : 1 ≤ x0 := by omega
theorem zo_592 {x0 x1 : Int} (h0 : x0 = x1) (h1 : x1 = 1) : x0 ≤ 64 := by omega
theorem zo_593 {x0 x1 : Int} (h0 : x0 = x1) (h1 : x1 = 1) : 0 ≤ x0 := by omega
theorem zo_594 {x0 x1 : Int} (h0 : x0 = x1) (h1 : x1 = 1) : x0 = 1 := by omega
theorem zo_595 {x0 x1 x2 x3 : Int} (h0 : x0 = x1) (h1 : x2 = x0) (h2 : x3 = x2) (h3 : x1 = 0) : x3 = 0 := by omega
theorem zo_596 {x0 x1 x2 : Int} (h0 : x0 = x1) (h1 : x2 = x0) (h2 : x1 = 0) : x2 = 0 := by omega
theorem zo_597 {x0 x1 x2 x3 x4 : Int} (h0 : x0 = x1) (h1 : x2 = x0) (h2 : x3 = x2) (h3 : x1 = x4) (h4 : x4 = 0) : x3 = 0 := by omega
theorem zo_598 {x0 x1 x2 x3 x4 x5 : Int} (h0 : x0 = x1) (h1 : x2 = x0) (h2 : x3 = x4) (h3 : x5 = x2) (h4 : x1 = x3) : x5 = x4 := by omega
theorem zo_599 {x0 x1 : Int} (h0 : x0 = x1) (h1 : x1 = 0) : x0.toNat = 0 := by omega
theorem zo_600 {x0 : Int} (h0 : 0 ≤ x0) : -2147483648 ≤ x0 - 1 := by omega
theorem zo_601 {x0 : Int} (h0 : x0 < 2147483648) : x0 - 1 < 2147483648 := by omega
theorem zo_602 {x0 x1 : Int} {x2 : Nat} (h0 : x0 = x1) (h1 : x1 = (x2 : Int)) : -2147483648 ≤ x0 - 1 := by omega
theorem zo_603 {x0 x1 x2 : Int} (h0 : x0 = x1) (h1 : x1 = x2 - 1) : x0 = x2 - 1 := by omega
theorem zo_604 {x0 x1 x3 : Int} {x2 : Nat} (h0 : x0 = x1) (h1 : x1 = (x2 : Int)) (h2 : x3 = x0 - 1) (h3 : x3 < 2147483648) : x3 = x1 - 1 := by omega
theorem zo_605 {x0 : Int} {x1 : Nat} (h0 : x0 ≤ (x1 : Int)) : x0 ≤ (x1 : Int) := by omega
theorem zo_606 {x0 x1 x2 x3 : Int} (h0 : x0 = x1) (h1 : x2 = x0) (h2 : x3 = x2) (h3 : 0 ≤ x3) (h4 : x1 < 2147483648) : x3 = x1 := by omega
theorem zo_607 {x0 : Int} (h0 : x0 = 3) : x0 ≠ 0 := by omega
theorem zo_608 {x0 x1 x2 x3 x4 : Int} (h0 : x0 = x1) (h1 : x2 = x0) (h2 : x3 = x2) (h3 : x4 = x3) (h4 : x1 = 0) : x4 = 0 := by omega
theorem zo_609 {x0 : Int} (h0 : 1 ≤ x0) (h1 : x0 = 0) : False := by omega
theorem zo_610 {x0 x1 : Int} (h0 : x0 = x1) (h1 : x1 = 0) : x0 = 0 := by omega
theorem zo_613 {x0 x1 x2 x3 x5 : Int} {x4 x6 : Nat} (h0 : x0 ≤ x1) (h1 : x1 < x2) (h2 : x3.toNat < x4) (h3 : x5 ≤ x3) (h4 : x0.toNat = x4) (h5 : x0 = (x6 : Int)) (h6 : -2147483648 ≤ x0) (h7 : x5 < 2147483648) : x5 ≤ x2 := by omega
theorem zo_614 {x0 x1 x2 x3 x5 : Int} {x4 x6 : Nat} (h0 : x0 ≤ x1) (h1 : x1 < x2) (h2 : x3.toNat < x4) (h3 : x5 < x3) (h4 : x0.toNat = x4) (h5 : x0 = (x6 : Int)) (h6 : x5 < 2147483648) (h7 : -2147483648 ≤ x0) : x5 < x2 := by omega
theorem zo_615 {x0 x1 x2 x3 x5 : Int} {x4 x6 : Nat} (h0 : x0 ≤ x1) (h1 : x2 = x1) (h2 : x3.toNat < x4) (h3 : x5 ≤ x3) (h4 : x0.toNat = x4) (h5 : x0 = (x6 : Int)) (h6 : -2147483648 ≤ x0) (h7 : x5 < 2147483648) : x5 ≤ x2 := by omega
theorem zo_616 {x0 x1 x2 x3 x5 : Int} {x4 x6 : Nat} (h0 : x0 ≤ x1) (h1 : x2 = x1) (h2 : x3.toNat < x4) (h3 : x5 < x3) (h4 : x0.toNat = x4) (h5 : x0 = (x6 : Int)) (h6 : x5 < 2147483648) (h7 : -2147483648 ≤ x0) : x5 < x2 := by omega
theorem zo_617 {x0 x1 x2 : Int} (h0 : x0 < x1) (h1 : x2 ≤ x0) (h2 : -2147483648 ≤ x1) (h3 : x2 < 2147483648) : x2 ≤ x1 := by omega
theorem zo_618 {x0 x1 x2 x3 x4 x5 x6 : Int} (h0 : x0 = x1) (h1 : x2 = x0) (h2 : x3 = x2) (h3 : x4 = x3) (h4 : 0 ≤ x1) (h5 : x5 = x4) (h6 : x6 = x5) : 0 ≤ x6 := by omega
theorem zo_619 {x0 x1 x2 x3 x4 x5 x6 : Int} (h0 : x0 = x1) (h1 : x2 = x0) (h2 : x3 = x2) (h3 : x4 = x3) (h4 : x1 ≤ 30) (h5 : x5 = x4) (h6 : x6 = x5) : x6 ≤ 30 := by omega
theorem zo_622 {x0 x1 x2 : Int} (h0 : 0 ≤ x0) (h1 : x1 = x0) (h2 : x2 = x1) : 0 ≤ x2 := by omega
theorem zo_623 {x0 x1 x2 : Int} (h0 : x0 ≤ 30) (h1 : x1 = x0) (h2 : x2 = x1) : x2 ≤ 30 := by omega
theorem zo_624 {x0 x1 x2 x3 x4 : Int} (h0 : x0 < x1) (h1 : x1 ≤ x2) (h2 : x2 < x3) (h3 : x4 ≤ x0) (h4 : -2147483648 ≤ x3) (h5 : x4 < 2147483648) : x4 ≤ x3 := by omega
theorem zo_625 {x0 x1 x2 x3 x4 : Int} (h0 : x0 < x1) (h1 : x1 ≤ x2) (h2 : x2 < x3) (h3 : x4 ≤ x0) (h4 : -2147483648 ≤ x3) (h5 : x4 < 2147483648) : x4 < x3 := by omega
theorem zo_626 {x0 x1 x2 x3 x4 : Int} (h0 : x0 < x1) (h1 : x1 ≤ x2) (h2 : x3 = x2) (h3 : x4 ≤ x0) (h4 : -2147483648 ≤ x3) (h5 : x4 < 2147483648) : x4 ≤ x3 := by omega
theorem zo_627 {x0 x1 x2 x3 x4 : Int} (h0 : x0 < x1) (h1 : x1 ≤ x2) (h2 : x3 = x2) (h3 : x4 ≤ x0) : x4 < x3 := by omega
theorem zo_628 {x0 : Int} : x0 ≤ x0 := by omega
theorem zo_629 {x0 x1 x2 : Int} (h0 : x0 = x1) (h1 : x2 ≤ x1) : x2 ≤ x0 := by omega
theorem zo_630 {x0 x1 x2 x3 x4 x5 : Int} (h0 : x0 = x1) (h1 : x2 = x0) (h2 : x3 = x4) (h3 : x5 = x2) (h4 : x1 = x3) (h5 : x4 = 0) (h6 : 0 ≤ x4) : x5 = 0 := by omega
theorem zo_631 {x0 x1 : Int} (h0 : x0 = x1) (h1 : x1 = 0) : 0 ≤ x0 := by omega
theorem zo_632 {x0 x1 : Int} (h0 : x0 = x1) (h1 : x1 = 0) : x0 ≤ 30 := by omega
theorem zo_633 {x0 x1 x2 x3 x4 x5 : Int} (h0 : x0 = x1) (h1 : x2 = x0) (h2 : x3 = x4) (h3 : x5 = x2) (h4 : x1 = x3) : x4 ≤ x5 := by omega
theorem zo_634 {x0 x1 x2 x3 x4 x5 : Int} (h0 : x0 = x1) (h1 : x2 = x0) (h2 : x3 = x4) (h3 : x5 = x2) (h4 : x1 = x3) (h5 : 0 ≤ x4) (h6 : ¬ (x4 = 0)) : 1 ≤ x5 := by omega
theorem zo_635 {x0 : Int} {x1 : Nat} (h0 : 6 ≤ x0) (h1 : x1 < 6) : (x1 : Int) < x0 := by omega
theorem zo_636 {x0 : Int} {x1 : Nat} (h0 : x0 = (x1 : Int)) (h1 : x0 ≤ 24) : x1 ≤ 24 := by omega
theorem zo_637 {x1 x2 : Int} {x0 : Nat} (h0 : x0 ≤ 24) (h1 : x1 ≤ x2) (h2 : 0 ≤ x2) (h3 : x1 = (x0 : Int)) : (x0 : Int) ≤ x2 := by omega
theorem zo_638 {x1 x2 : Int} {x0 : Nat} (h0 : x0 ≤ 24) (h1 : x1 ≤ x2) (h2 : x2 < 2147483648) (h3 : 0 ≤ x2) (h4 : x2 ≤ x1) (h5 : x1 = (x0 : Int)) (h6 : x1 ≤ 24) : x2 = (x0 : Int) := by omega
theorem zo_639 {x0 x1 : Int} (h0 : x0 < x1) (h1 : x0 < 2147483648) (h2 : x1 ≤ 24) : x0 + 1 < 2147483648 := by omega
theorem zo_640 {x0 x1 : Int} {x2 : Nat} (h0 : x0 < x1) (h1 : (25 - x0 : Int).toNat < x2 + 1) (h2 : x0 < 2147483648) (h3 : 0 ≤ x0) (h4 : x1 ≤ 24) : (25 - (x0 + 1) : Int).toNat < x2 := by omega
theorem zo_641 {x0 x1 : Int} (h0 : x0 < 2147483648) (h1 : 0 ≤ x0) (h2 : x0 < x1) (h3 : x1 ≤ 24) : 0 ≤ x0 ∧ x0 < 24 := by omega
theorem zo_642 {x0 x1 x2 : Int} (h0 : x0 = x1) (h1 : x2 < 2147483648) (h2 : 0 ≤ x2) (h3 : x2 < x1) (h4 : 1 ≤ x1) (h5 : x1 ≤ 24) : (x2.toNat : Int) < x0 := by omega
theorem zo_643 {x0 x1 : Int} (h0 : x0 < x1) (h1 : x0 < 2147483648) (h2 : x1 ≤ 24) : x0 < 24 := by omega
theorem zo_644 {x0 x1 : Int} (h0 : x0 = x1) (h1 : x1 ≤ 24) : x0 ≤ 24 := by omega
theorem zo_645 {x0 x1 x2 x3 x4 x5 x6 x7 : Int} (h0 : x0 = x1) (h1 : x2 = x3) (h2 : x4 = x0) (h3 : x5 = x4) (h4 : x6 = x5) (h5 : x1 = x2) (h6 : x7 = x6) : x7 = x3 := by omega
theorem zo_646 {x0 x1 x2 x3 : Int} (h0 : x0 = x1) (h1 : 0 ≤ x2) (h2 : x2 < x0) (h3 : x3 < 2147483648) (h4 : x3 < x1) (h5 : x1 ≤ 24) : x3 < x0 := by omega
theorem zo_647 {x0 x1 x2 x3 : Int} (h0 : x0 = x1) (h1 : 0 ≤ x2) (h2 : x2 < x0) (h3 : x3 < x1) (h4 : x3 < 2147483648) (h5 : x1 ≤ 24) : x3 < x0 := by omega
theorem zo_648 {x0 x1 x2 x3 : Int} (h0 : x0 < x1) (h1 : x2 < x3) (h2 : x2 < 2147483648) (h3 : x1 ≤ 24) (h4 : x3 ≤ 24) : 24 * x0 + x2 < (576 : Int) := by omega
theorem zo_649 {x0 x1 : Int} {x2 : Nat} (h0 : x0 < x1) (h1 : x0 < 2147483648) (h2 : x1 = (x2 : Int)) (h3 : x1 ≤ 24) : x0 < (x2 : Int) := by omega
theorem zo_650 {x0 x1 x3 : Int} {x2 : Nat} (h0 : x0 < x1) (h1 : x0 < 2147483648) (h2 : x1 = (x2 : Int)) (h3 : x0 < x3) (h4 : x3 ≤ 24) : x0 < (x2 : Int) := by omega
theorem zo_651 {x0 x1 x2 : Int} (h0 : x0 = x1) (h1 : x2 < x0) (h2 : x2 < 2147483648) (h3 : x1 ≤ 24) : x2 < 24 := by omega
theorem zo_652 {x0 x2 x3 : Int} {x1 : Nat} (h0 : 0 ≤ x0) (h1 : x0 = (x1 : Int)) (h2 : x2 = x0) (h3 : x3 = x2) (h4 : x3 ≠ 0) : x1 ≠ 0 := by omega
theorem zo_653 {x0 x1 x2 x3 : Int} (h0 : x0 = x1) (h1 : x2 = x0) (h2 : x3 < 2147483648) (h3 : x3 < x1) (h4 : 1 ≤ x1) (h5 : x1 ≤ 24) : x3 < x2 := by omega
theorem zo_654 {x0 x1 x2 x3 : Int} (h0 : x0 = x1) (h1 : x2 = x0) (h2 : x3 < x1) (h3 : x3 < 2147483648) (h4 : 1 ≤ x1) (h5 : x1 ≤ 24) : x3 + 1 ≤ x2 := by omega
theorem zo_655 {x0 x1 x2 : Int} {x3 : Nat} (h0 : x0 = x1) (h1 : x2 = x0) (h2 : x1 = (x3 : Int)) (h3 : x1 ≤ 24) : x2 = (x3 : Int) := by omega
theorem zo_656 {x0 x1 x2 : Int} (h0 : x0 = x1) (h1 : x2 = x0) (h2 : x1 ≤ 24) : x2 ≤ 24 := by omega
theorem zo_657 {x0 x1 : Int} (h0 : x0 < 2147483648) (h1 : x0 < x1) (h2 : x1 ≤ 24) : x0 < (24 : Int) := by omega
theorem zo_658 {x0 x1 x3 : Int} {x2 : Nat} (h0 : x0 = 0) (h1 : x1 = (x2 : Int)) (h2 : x3 = x1) (h3 : x1 < 2147483648) (h4 : x0 = x3) : x2 = 0 := by omega
theorem zo_659 {x0 x1 x2 x3 x4 : Int} (h0 : x0 = x1) (h1 : x2 = x0) (h2 : x3 = x2) (h3 : x4 < 2147483648) (h4 : x4 < x1) (h5 : 1 ≤ x1) (h6 : x1 ≤ 24) : x4 < x3 := by omega
theorem zo_660 {x0 x1 x2 x3 x4 : Int} (h0 : x0 = x1) (h1 : x2 = x0) (h2 : x3 = x2) (h3 : x4 < x1) (h4 : x4 < 2147483648) (h5 : 1 ≤ x1) (h6 : x1 ≤ 24) : x4 + 1 ≤ x3 := by omega
theorem zo_661 {x0 x1 x2 x3 : Int} {x4 : Nat} (h0 : x0 = x1) (h1 : x2 = x0) (h2 : x3 = x2) (h3 : x1 = (x4 : Int)) (h4 : x1 ≤ 24) : x3 = (x4 : Int) := by omega
theorem zo_662 {x0 x1 x2 x3 : Int} (h0 : x0 = x1) (h1 : x2 = x0) (h2 : x3 = x2) (h3 : 1 ≤ x1) : 1 ≤ x3 := by omega
theorem zo_663 {x0 x1 x2 x3 : Int} (h0 : x0 = x1) (h1 : x2 = x0) (h2 : x3 = x2) (h3 : x1 ≤ 24) : x3 ≤ 24 := by omega
theorem zo_664 {x0 x1 x2 : Int} (h0 : x0 = x1) (h1 : x2 < 2147483648) (h2 : x2 < x1) (h3 : 1 ≤ x1) (h4 : x1 ≤ 24) : x2 < x0 := by omega
theorem zo_665 {x0 x1 x2 : Int} (h0 : x0 = x1) (h1 : x2 < x1) (h2 : x2 < 2147483648) (h3 : 1 ≤ x1) (h4 : x1 ≤ 24) : x2 < x0 := by omega
theorem zo_666 {x0 x1 : Int} (h0 : 0 ≤ x0) (h1 : 0 ≤ x1) : 0 ≤ 6 * x0 + x1 := by omega
theorem zo_667 {x0 x1 x2 x3 : Int} (h0 : x0 < x1) (h1 : x2 < x3) (h2 : x3 ≤ 24) (h3 : x1 ≤ 6) : 6 * x2 + x0 < (144 : Int) := by omega
theorem zo_668 {x0 x1 x2 : Int} (h0 : 0 ≤ x0) (h1 : x0 = x1) (h2 : 0 ≤ x2) : 0 ≤ 6 * x2 + x1 := by omega
theorem zo_669 {x0 x1 x2 x3 : Int} (h0 : x0 < x1) (h1 : x2 ≤ 5) (h2 : x0 < 2147483648) (h3 : x2 = x3) (h4 : x1 ≤ 24) : 6 * x0 + x3 < (144 : Int) := by omega
theorem zo_670 {x0 x1 : Int} (h0 : x0 < x1) (h1 : x1 ≤ 6) : x0 < (6 : Int) := by omega
theorem zo_671 {x0 x1 : Int} (h0 : x0 < x1) (h1 : x1 ≤ 6) : x0 + 1 < 2147483648 := by omega
theorem zo_672 {x0 x1 : Int} (h0 : x0 < 2147483648) (h1 : x0 < x1) (h2 : x1 ≤ 24) : x0 + 1 < 2147483648 := by omega
theorem zo_673 {x0 x2 : Int} {x1 : Nat} (h0 : (25 - x0 : Int).toNat < x1 + 1) (h1 : x0 < 2147483648) (h2 : x0 < x2) (h3 : x2 ≤ 24) (h4 : 0 ≤ x0) : (25 - (x0 + 1) : Int).toNat < x1 := by omega
theorem zo_674 {x0 x1 : Int} (h0 : x0 < 2147483648) (h1 : x0 < x1) (h2 : x1 ≤ 24) : x0 ≤ 23 := by omega
theorem zo_675 {x0 x1 : Int} (h0 : -2147483648 ≤ x0) (h1 : x1 < x0) (h2 : 0 ≤ x1) : 0 ≤ x0 := by omega
theorem zo_676 {x0 x1 : Int} (h0 : x0 < x1) (h1 : x0 < 2147483648) (h2 : x1 ≤ 24) : x0 ≤ 23 := by omega
theorem zo_677 {x0 x1 x2 x3 x4 x5 : Int} (h0 : x0 = x1) (h1 : x2 = x3) (h2 : x4 = x5) (h3 : x1 = x2) (h4 : x3 = x4) : x0 = x5 := by omega
theorem zo_678 {x0 x1 x2 x3 x4 x5 : Int} (h0 : x0 = x1) (h1 : x2 = x3) (h2 : x4 = x5) (h3 : x1 = x2) (h4 : x3 = x4) (h5 : 1 ≤ x5) : 1 ≤ x0 := by omega
theorem zo_679 {x0 : Int} (h0 : -2147483648 ≤ x0) : -2147483648 ≤ x0 + 1 := by omega
theorem zo_680 {x0 x1 x2 : Int} (h0 : -2147483648 ≤ x0) (h1 : x1 < 2147483648) (h2 : x1 < x2) (h3 : x1 < x0) (h4 : x2 ≤ 24) : x1 < x0 + 1 := by omega
theorem zo_681 {x0 x1 x2 : Int} (h0 : x0 = x1) (h1 : x2 < x1) (h2 : x2 < 2147483648) (h3 : 1 ≤ x1) (h4 : x1 ≤ 24) : x2 + 1 ≤ x0 := by omega
theorem zo_682 {x0 x1 : Int} {x2 : Nat} (h0 : x0 < x1) (h1 : (25 - x0 : Int).toNat < x2 + 1) (h2 : -2147483648 ≤ x0) (h3 : x0 < 2147483648) (h4 : x1 ≤ 24) : (25 - (x0 + 1) : Int).toNat < x2 := by omega
theorem zo_683 {x0 : Int} : x0 < x0 + 1 := by omega
theorem zo_684 {x0 x1 x3 : Int} {x2 : Nat} (h0 : x0 < x1) (h1 : (25 - x0 : Int).toNat < x2 + 1) (h2 : x0 < 2147483648) (h3 : x0 < x3) (h4 : x3 ≤ 24) (h5 : 0 ≤ x0) (h6 : x1 ≤ 24) : (25 - (x0 + 1) : Int).toNat < x2 := by omega
theorem zo_685 {x0 x1 x2 : Int} (h0 : x0 < x1) (h1 : x0 < 2147483648) (h2 : x0 < x2) (h3 : x2 ≤ 24) (h4 : 0 ≤ x0) (h5 : x1 ≤ 24) : 0 ≤ x0 ∧ x0 < 24 := by omega
theorem zo_686 {x0 x1 x2 x3 : Int} (h0 : x0 = x1) (h1 : x2 < x3) (h2 : x2 < 2147483648) (h3 : x2 < x1) (h4 : 1 ≤ x1) (h5 : 0 ≤ x2) (h6 : x3 ≤ 24) : (x2.toNat : Int) < x0 := by omega
theorem zo_687 {x0 x1 x2 x3 x4 x5 : Int} (h0 : x0 = x1) (h1 : x2 = x0) (h2 : x1 = x3) (h3 : x4 = x5) (h4 : x3 = x4) : x2 = x5 := by omega
theorem zo_688 {x0 x1 x2 : Int} (h0 : x0 = x1) (h1 : 0 ≤ x2) (h2 : x2 < x1) : -2147483648 ≤ x0 + 1 := by omega
theorem zo_689 {x0 x1 x2 : Int} (h0 : x0 = x1) (h1 : x2 = x0) (h2 : x1 ≤ 24) : x2 + 1 < 2147483648 := by omega
theorem zo_690 {x0 x1 x2 x3 x4 x5 : Int} (h0 : x0 = x1) (h1 : x2 = x0) (h2 : 0 ≤ x3) (h3 : x3 < x0) (h4 : x4 < x5) (h5 : x4 < 2147483648) (h6 : x4 < x1) (h7 : x5 ≤ 24) : x4 < x2 := by omega
theorem zo_691 {x0 x1 : Int} (h0 : 0 ≤ x0) (h1 : x0 = -1) : x1 ≠ 24 := by omega
theorem zo_692 {x0 x1 : Int} (h0 : x0 < x1) (h1 : x1 ≤ 4) : x0 + 1 < 2147483648 := by omega
theorem zo_693 {x0 x1 x2 x3 x4 : Int} (h0 : x0 = x1) (h1 : x2 = x0) (h2 : 1 ≤ x3) (h3 : x4 < 2147483648) (h4 : x3 = x2 + 1) (h5 : x4 < x1) (h6 : x1 ≤ 24) : x4 < x3 := by omega
theorem zo_694 {x0 : Int} (h0 : 1 ≤ x0) : 1 ≤ x0 := by omega
theorem zo_695 {x0 x1 : Int} (h0 : x0 < x1) (h1 : 0 ≤ x0) : (x0.toNat : Int) < x1 := by omega
theorem zo_696 {x0 x1 x2 x3 : Int} (h0 : x0 = x1) (h1 : 0 ≤ x2) (h2 : x2 < x1) (h3 : 0 ≤ x3) : 0 ≤ 6 * x0 + x3 := by omega
theorem zo_697 {x0 x1 x2 x3 x4 x5 : Int} (h0 : x0 = x1) (h1 : x2 = x0) (h2 : 0 ≤ x3) (h3 : x4 < x5) (h4 : x3 = -1) (h5 : x1 ≤ 24) (h6 : x5 ≤ 6) : 6 * x2 + x4 < (144 : Int) := by omega
theorem zo_698 {x0 x1 : Int} (h0 : x0 ≤ 5) (h1 : x1 = x0) (h2 : x1 < 2147483648) : x1 ≤ 5 := by omega
theorem zo_699 {x0 x1 x2 x3 x4 : Int} (h0 : x0 = x1) (h1 : x2 = x0) (h2 : 0 ≤ x3) (h3 : x3 < x0) (h4 : x4 < 2147483648) (h5 : x4 < x1) (h6 : x1 ≤ 24) : x4 < x2 := by omega
theorem zo_700 {x0 x1 : Int} (h0 : x0 < x1) (h1 : x1 ≤ 6) : x0 < 6 := by omega
theorem zo_701 {x0 x1 x2 : Int} (h0 : x0 = x1) (h1 : x0 = 24) (h2 : x2 < 2147483648) (h3 : x2 < x1) (h4 : x1 ≤ 24) : x2 < x0 := by omega
theorem zo_702 {x0 x1 x2 x3 x4 : Int} (h0 : x0 = x1) (h1 : 0 ≤ x2) (h2 : x2 < x0) (h3 : x3 < x4) (h4 : x3 < 2147483648) (h5 : x3 < x1) (h6 : x4 ≤ 24) : x3 < x0 := by omega
theorem zo_703 {x0 x1 : Int} (h0 : 0 ≤ x0) (h1 : x0 < x1) : 1 ≤ x1 := by omega
theorem zo_704 {x0 x1 x2 : Int} (h0 : x0 = x1) (h1 : x2 = x0) (h2 : 1 ≤ x1) : -2147483648 ≤ x2 + 1 := by omega
theorem zo_705 {x0 x1 : Int} (h0 : x0 = x1) (h1 : x1 ≠ 24) : x0 ≠ 24 := by omega
theorem zo_706 {x0 x1 x2 x3 : Int} (h0 : x0 = x1) (h1 : x2 = x0) (h2 : 1 ≤ x1) (h3 : 0 ≤ x3) : 0 ≤ 6 * x2 + x3 := by omega
theorem zo_707 {x0 x1 x2 x3 x4 : Int} (h0 : x0 = x1) (h1 : x2 = x0) (h2 : x3 < x4) (h3 : x1 ≤ 24) (h4 : x4 ≤ 6) (h5 : x0 ≠ 24) : 6 * x2 + x3 < (144 : Int) := by omega
theorem zo_708 {x0 x1 x2 x3 x4 : Int} (h0 : x0 = x1) (h1 : x2 = x0) (h2 : x3 < x4) (h3 : x3 < 2147483648) (h4 : x3 < x1) (h5 : 1 ≤ x1) (h6 : x4 ≤ 24) : x3 < x2 := by omega
theorem zo_709 {x0 x1 : Int} (h0 : 0 ≤ x0) (h1 : 0 ≤ x1) : 0 ≤ 6 * x1 + x0 := by omega
theorem zo_710 {x0 x1 x2 x3 : Int} (h0 : x0 < x1) (h1 : x2 ≤ 5) (h2 : x2 = x3) (h3 : x1 ≤ 4) : 6 * x0 + x3 < (24 : Int) := by omega
theorem zo_711 {x0 : Int} (h0 : x0 = 1) : 0 ≤ x0 := by omega
theorem zo_712 {x0 : Int} (h0 : x0 = 1) : 1 ≤ x0 := by omega
theorem zo_713 {x0 : Int} (h0 : x0 = 1) : x0 ≤ 24 := by omega
theorem zo_714 {x0 : Int} (h0 : x0 < 6) : x0 < (144 : Int) := by omega
theorem zo_715 {x0 : Int} (h0 : x0 < 6) : x0 ≤ 5 := by omega
theorem zo_716 {x0 : Int} (h0 : x0 < 6) : x0 < 144 := by omega
theorem zo_717 {x0 : Int} {x1 : Nat} (h0 : x0 < 6) (h1 : (6 - x0 : Int).toNat < x1 + 1) (h2 : 0 ≤ x0) : (6 - (x0 + 1) : Int).toNat < x1 := by omega
theorem zo_718 {x0 : Int} (h0 : x0 = 0) : 0 ≤ x0 := by omega
theorem zo_719 {x0 x1 : Int} (h0 : x0 = 45) (h1 : x1 = 1) : x1 = 0 ∧ x0 = 40 ∨ x1 = 1 ∧ x0 ≠ 40 := by omega
theorem zo_720 {x0 x1 : Int} (h0 : x0 = x1) (h1 : 0 ≤ x1) : 0 ≤ x0 := by omega
theorem zo_721 {x0 x1 : Int} {x2 : Nat} (h0 : x0 = x1) (h1 : x1 = (x2 : Int)) (h2 : x2 ≤ 23) (h3 : x1 < 2147483648) : x0 < (80 : Int) := by omega
theorem zo_722 {x0 x1 x2 : Int} (h0 : x0 = x1) (h1 : x1 = x2) (h2 : 0 ≤ x2) : -2147483648 ≤ x0 + 1 := by omega
theorem zo_723 {x0 x1 x2 : Int} {x3 : Nat} (h0 : x0 = x1) (h1 : x1 = x2) (h2 : x2 = (x3 : Int)) (h3 : x3 ≤ 23) (h4 : x2 < 2147483648) : x0 + 1 < 2147483648 := by omega
theorem zo_724 {x0 x1 x2 x3 : Int} (h0 : x0 = x1) (h1 : x2 = x0) (h2 : x1 = x3) (h3 : -2147483648 ≤ x3) : -2147483648 ≤ x2 + 1 := by omega
theorem zo_725 {x0 x1 x2 x3 : Int} {x4 x5 x6 : Nat} (h0 : x0 = x1) (h1 : x2 = x0) (h2 : x1 = x3) (h3 : x3 = (x4 : Int)) (h4 : x5 + x4 = x6) (h5 : x6 ≤ 23) (h6 : x3 < 2147483648) : x2 + 1 < 2147483648 := by omega
theorem zo_726 {x0 : Int} (h0 : x0 = 1) : x0 ≤ 4 := by omega
theorem zo_727 {x0 : Int} (h0 : x0 = 1) : ¬ (2 ≤ x0) := by omega
theorem zo_728 {x0 : Int} (h0 : x0 = 1) : ¬ (x0.toNat = 4) := by omega
theorem zo_729 {x0 : Int} (h0 : x0 = 1) : ¬ (x0.toNat = 2 ∨ x0.toNat = 3) := by omega
theorem zo_730 {x0 x1 x2 x3 : Int} (h0 : x0 = x1) (h1 : x2 = x0) (h2 : x3 = x2) (h3 : 1 ≤ x1) (h4 : x3 = 0) (h5 : x1 < 2147483648) : x1 = 0 := by omega
theorem zo_731 {x0 x1 x2 x3 : Int} (h0 : x0 = x1) (h1 : x2 = x3) (h2 : x3 = x0 + 1) : x2 = x1 + 1 := by omega
theorem zo_732 {x1 : Int} {x0 : Nat} (h0 : (x0 : Int) < x1) : x0 ≠ x1.toNat := by omega
theorem zo_733 {x0 : Int} (h0 : x0 = 1) : x0 ≤ 1 := by omega
theorem zo_734 {x0 x1 x2 x3 x5 : Int} {x4 : Nat} (h0 : x0 = x1) (h1 : x2 = x0) (h2 : x1 = x3) (h3 : x3 = (x4 : Int)) (h4 : x5 = x2 + 1) (h5 : x5 < 2147483648) : x5 = x1 + 1 := by omega
theorem zo_735 {x0 x1 x2 x3 : Int} (h0 : x0 = x1) (h1 : x2 = x0) (h2 : x3 = x2) (h3 : 1 ≤ x1) (h4 : x3 = 0) : False := by omega
theorem zo_736 {x0 x1 x2 x3 x4 x5 : Int} (h0 : x0 = x1) (h1 : x2 = x0) (h2 : x3 = x2) (h3 : x4 = x3) (h4 : x1 = x5 + 1) (h5 : 0 ≤ x5) (h6 : x1 < 2147483648) : x4 = x5 + 1 := by omega
theorem zo_737 {x0 x1 x2 x3 x4 : Int} (h0 : x0 = x1) (h1 : x2 = x0) (h2 : x3 = x2) (h3 : x1 = x4) (h4 : 0 ≤ x3) (h5 : x4 < 2147483648) : x3 = x4 := by omega
theorem zo_738 {x0 x2 : Int} {x1 x3 : Nat} (h0 : x0.toNat < x1) (h1 : x2 = (x3 : Int)) (h2 : x2.toNat = x1) (h3 : -2147483648 ≤ x2) (h4 : x0 < 2147483648) : x0 < x2 := by omega
theorem zo_739 {x0 x1 x2 x3 x4 x5 : Int} (h0 : x0 = x1) (h1 : x2 = x0) (h2 : x3 = x2) (h3 : x4 = x3) (h4 : x1 = x5 + 1) (h5 : 0 ≤ x5) (h6 : -2147483648 ≤ x1) : 0 ≤ x4 := by omega
theorem zo_740 {x0 x1 x2 x3 x4 x5 : Int} (h0 : x0 = x1) (h1 : x2 = x0) (h2 : x3 = x2) (h3 : x4 = x3) (h4 : x1 = x5 + 1) (h5 : x5.toNat < 30) (h6 : x1 < 2147483648) : x4 ≤ 30 := by omega
theorem zo_741 {x0 x1 x2 x3 : Int} (h0 : x0 = x1) (h1 : x2 = x0) (h2 : x3 = x2) (h3 : x1 = 0) (h4 : x3 ≠ 0) : False := by omega
theorem zo_742 {x0 x1 x2 : Int} (h0 : x0 = 40) (h1 : x1 = 45) (h2 : x0 = x1) (h3 : x2 = 0) : x2 = 0 ∧ x1 = 40 ∨ x2 = 1 ∧ x1 ≠ 40 := by omega
theorem zo_743 {x0 x1 x2 : Int} (h0 : x0 = x1) (h1 : x2 = x0) (h2 : 0 ≤ x1) : -2147483648 ≤ x2 + 1 := by omega
theorem zo_744 {x0 x1 x2 : Int} {x3 : Nat} (h0 : x0 = x1) (h1 : x2 = x0) (h2 : x1 = (x3 : Int)) (h3 : x3 ≤ 23) (h4 : x1 < 2147483648) : x2 + 1 < 2147483648 := by omega
theorem zo_745 {x0 x1 x2 x3 : Int} (h0 : x0 = x1) (h1 : x2 = x0) (h2 : x3 = x2) (h3 : -2147483648 ≤ x1) : -2147483648 ≤ x3 + 1 := by omega
theorem zo_746 {x0 x1 x2 x3 : Int} {x4 x5 x6 : Nat} (h0 : x0 = x1) (h1 : x2 = x0) (h2 : x3 = x2) (h3 : x1 = (x4 : Int)) (h4 : x5 + x4 = x6) (h5 : x6 ≤ 23) (h6 : x1 < 2147483648) : x3 + 1 < 2147483648 := by omega
theorem zo_747 {x0 : Int} (h0 : x0 = 0) : x0 ≤ 4 := by omega
theorem zo_748 {x0 : Int} (h0 : x0 = 0) : ¬ (2 ≤ x0) := by omega
theorem zo_749 {x0 : Int} (h0 : x0 = 0) : ¬ (x0.toNat = 4) := by omega
theorem zo_750 {x0 : Int} (h0 : x0 = 0) : ¬ (x0.toNat = 2 ∨ x0.toNat = 3) := by omega
theorem zo_751 {x0 : Int} (h0 : x0 = 0) : x0 ≤ 1 := by omega
theorem zo_752 {x0 x1 x2 x3 x5 : Int} {x4 : Nat} (h0 : x0 = x1) (h1 : x2 = x0) (h2 : x3 = x2) (h3 : x1 = (x4 : Int)) (h4 : x5 = x3 + 1) (h5 : x5 < 2147483648) : x5 = x0 + 1 := by omega
theorem zo_753 {x0 x1 : Int} (h0 : x0 = 40) (h1 : x1 = 45) (h2 : x0 = x1) : False := by omega
theorem zo_754 {x0 x1 x2 x3 x4 : Int} (h0 : x0 = x1) (h1 : x2 = x0) (h2 : x3 = x2) (h3 : x4 = x3) (h4 : 0 ≤ x4) (h5 : x1 < 2147483648) : x4 = x1 := by omega
theorem zo_755 {x0 x1 x2 : Int} (h0 : x0 = 40) (h1 : x1 = x0) (h2 : x2 = 1) (h3 : x1 ≠ 40) : x2 = 0 ∧ x0 = 40 ∨ x2 = 1 ∧ x0 ≠ 40 := by omega
theorem zo_756 {x0 x1 : Int} (h0 : x0 = 40) (h1 : x1 = x0) (h2 : -2147483648 ≤ x1) (h3 : x1 < 2147483648) (h4 : x1 ≠ 40) : False := by omega
theorem zo_757 {x0 x1 : Int} (h0 : x0 = 40) (h1 : x1 = 0) : x1 = 0 ∧ x0 = 40 ∨ x1 = 1 ∧ x0 ≠ 40 := by omega
theorem zo_758 {x0 x1 : Int} (h0 : x0 = x1) (h1 : x0 ≠ 2) : x1 ≠ 2 := by omega
theorem zo_759 {x0 x1 : Int} (h0 : x0 = x1) (h1 : x0 = 2) : x1 = 2 := by omega
theorem zo_760 {x0 x1 x2 : Int} {x3 : Nat} (h0 : x0 = x1) (h1 : x2 = x0) (h2 : x1 = (x3 : Int) + 0) (h3 : -2147483648 ≤ x1) : 0 ≤ x2 := by omega
theorem zo_761 {x0 x1 x2 : Int} {x3 x4 x5 : Nat} (h0 : x0 = x1) (h1 : x2 = x0) (h2 : x1 = (x3 : Int) + 0) (h3 : x3 + x4 = x5) (h4 : x5 ≤ 23) (h5 : x1 < 2147483648) : x2 ≤ 39 := by omega
theorem zo_762 {x0 x2 : Int} {x1 : Nat} (h0 : x0 = (x1 : Int)) (h1 : x2 < x0) (h2 : x2 < 2147483648) : x2 < (x1 : Int) := by omega
theorem zo_763 {x0 x1 : Int} (h0 : x0 = x1) : x0 = x1 := by omega
theorem zo_764 {x0 x1 : Int} (h0 : x0 = x1) (h1 : 0 ≤ x0) : 0 ≤ x1 := by omega
theorem zo_765 {x0 x2 x3 : Int} {x1 : Nat} (h0 : x0 = (x1 : Int)) (h1 : x2 < x0) (h2 : x2 = x3) (h3 : x2 ≤ 999) : x3 < (x1 : Int) := by omega
theorem zo_766 {x0 x1 x2 x3 x4 : Int} (h0 : x0 = x1) (h1 : x2 = x0) (h2 : x3 = x2) (h3 : x1 = x4 + 1) (h4 : 0 ≤ x4) (h5 : x1 < 2147483648) : x3 = x4 + 1 := by omega
theorem zo_767 {x0 x3 : Int} {x1 x2 x4 : Nat} (h0 : x0.toNat < x1) (h1 : x1 ≤ x2) (h2 : x3 = (x4 : Int)) (h3 : -2147483648 ≤ x3) (h4 : x0 < 2147483648) (h5 : x3.toNat = x1 ∨ x3.toNat = x2) : x0 < x3 := by omega
theorem zo_768 {x0 x1 x2 x3 x4 : Int} (h0 : x0 = x1) (h1 : x2 = x0) (h2 : x3 = x2) (h3 : x1 = x4 + 1) (h4 : 0 ≤ x4) (h5 : -2147483648 ≤ x1) : 0 ≤ x3 := by omega
theorem zo_769 {x0 x1 x2 x3 x4 : Int} (h0 : x0 = x1) (h1 : x2 = x0) (h2 : x3 = x2) (h3 : x1 = x4 + 1) (h4 : x4.toNat < 30) (h5 : x1 < 2147483648) : x3 ≤ 30 := by omega
theorem zo_770 {x0 x1 : Int} (h0 : x0 = x1) (h1 : x1 = 0) (h2 : x0 ≠ 0) : False := by omega
theorem zo_771 {x0 x1 x2 : Int} {x3 : Nat} (h0 : x0 = x1) (h1 : x2 = (x3 : Int)) (h2 : x2 ≤ x0) (h3 : x1 < (x3 : Int)) : False := by omega
theorem zo_772 {x0 x1 : Int} (h0 : x0 = x1) (h1 : x1 = 2) (h2 : -2147483648 ≤ x0) (h3 : x0 < 2147483648) (h4 : x0 ≠ 2) : False := by omega
theorem zo_773 {x0 x1 : Int} (h0 : x0 = x1) (h1 : x1 ≤ 30) : x0 ≤ 30 := by omega
theorem zo_774 {x0 x1 x2 : Int} (h0 : x0 = x1) (h1 : x2 = x0) (h2 : -2147483648 ≤ x1) : -2147483648 ≤ x2 + 1 := by omega
theorem zo_775 {x0 x1 x2 : Int} {x3 x4 x5 : Nat} (h0 : x0 = x1) (h1 : x2 = x0) (h2 : x1 = (x3 : Int) + 0) (h3 : x3 + x4 = x5) (h4 : x5 ≤ 23) (h5 : x1 < 2147483648) : x2 + 1 < 2147483648 := by omega
theorem zo_776 {x0 x1 x2 : Int} (h0 : x0 = x1) (h1 : x2 = x0 + 1) : x2 = x1 + 1 := by omega
theorem zo_777 {x0 x1 : Int} {x2 : Nat} (h0 : x0 = x1) (h1 : (x2 : Int) < 64 * x0) : (x2 : Int) < 64 * x1 := by omega
theorem zo_778 {x0 x1 x2 : Int} (h0 : x0 = x1) (h1 : x2 = x0) (h2 : x1 = 0) (h3 : x2 ≠ 0) : False := by omega
theorem zo_779 {x1 x2 : Int} {x0 : Nat} (h0 : x0 ≤ 27) (h1 : x1 ≤ 7) (h2 : x2 < 2147483648) (h3 : x2 ≤ (x0 : Int)) : 64 * x1 + x2 < (512 : Int) := by omega
theorem zo_780 {x0 x1 x2 x4 : Int} {x3 : Nat} (h0 : x0 = x1) (h1 : x2 = x0) (h2 : x1 = (x3 : Int) + 0) (h3 : 0 ≤ x4) (h4 : -2147483648 ≤ x1) : 0 ≤ 64 * x2 + x4 := by omega
theorem zo_781 {x0 x1 x2 x7 : Int} {x3 x4 x5 x6 : Nat} (h0 : x0 = x1) (h1 : x2 = x0) (h2 : x3 ≤ 27) (h3 : x1 = (x4 : Int) + 0) (h4 : x4 + x5 = x6) (h5 : x6 ≤ 23) (h6 : x7 < 2147483648) (h7 : x7 ≤ (x3 : Int)) (h8 : x1 < 2147483648) : 64 * x2 + x7 < (2560 : Int) := by omega
theorem zo_782 {x0 x1 x2 x4 : Int} {x3 : Nat} (h0 : x0 = x1) (h1 : x2 = x0) (h2 : (x3 : Int) < 64 * x1) (h3 : 0 ≤ x4) : x3 ≠ (64 * x2 + x4 : Int).toNat := by omega
theorem zo_783 {x0 x1 x2 x4 : Int} {x3 x5 x6 : Nat} (h0 : x0 = x1) (h1 : x2 = x0) (h2 : (x3 : Int) = x4) (h3 : x5 ≤ 27) (h4 : (x3 : Int) < x4 + 1) (h5 : x1 = (x6 : Int) + 0) (h6 : x4 < 2147483648) (h7 : 0 ≤ x4) (h8 : x4 ≤ (x5 : Int)) (h9 : -2147483648 ≤ x1) (h10 : x1 < 2147483648) : (64 * x1 : Int).toNat + x3 = (64 * x2 + x4 : Int).toNat := by omega
theorem zo_784 {x1 x3 x4 : Int} {x0 x2 : Nat} (h0 : (x0 : Int) = x1) (h1 : x2 ≤ 27) (h2 : x3 = (x2 : Int)) (h3 : 0 ≤ x4) (h4 : x1 < x3) (h5 : (x0 : Int) < x1 + 1) (h6 : x1 < 2147483648) (h7 : 0 ≤ x1) (h8 : x1 ≤ (x2 : Int)) : (64 * x4 + x1 : Int).toNat = (64 * x4 : Int).toNat + x0 := by omega
theorem zo_785 {x0 x1 x2 x4 : Int} {x3 x5 : Nat} (h0 : x0 = x1) (h1 : x2 = x0) (h2 : (x3 : Int) < x4 + 1) (h3 : x1 = (x5 : Int) + 0) (h4 : -2147483648 ≤ x1) (h5 : ¬ ((x3 : Int) = x4)) : (64 * x1 : Int).toNat + x3 ≠ (64 * x2 + x4 : Int).toNat := by omega
theorem zo_786 {x0 : Int} {x1 : Nat} (h0 : x0 = (x1 : Int)) (h1 : -2147483648 ≤ x0) : -2147483648 ≤ x0 - 1 := by omega
theorem zo_787 {x0 x1 : Int} (h0 : x0 = x1) (h1 : 0 ≤ x1) : -9223372036854775808 ≤ x0 := by omega
theorem zo_788 {x0 x1 : Int} (h0 : x0 = x1) (h1 : x1 ≤ 999) : x0 < 9223372036854775808 := by omega
theorem zo_789 {x0 x1 : Int} {x2 : Nat} (h0 : x0 = x1) (h1 : x1 = (x2 : Int) + 0) (h2 : -2147483648 ≤ x1) : 0 ≤ x0 := by omega
theorem zo_790 {x0 x1 : Int} {x2 x3 x4 : Nat} (h0 : x0 = x1) (h1 : x1 = (x2 : Int) + 0) (h2 : x2 + x3 = x4) (h3 : x4 ≤ 23) (h4 : x1 < 2147483648) : x0 ≤ 39 := by omega
theorem zo_791 {x1 : Int} {x0 : Nat} (h0 : 1 ≤ x0) (h1 : x1 = (x0 : Int)) : 0 ≤ x1 - 1 := by omega
theorem zo_792 {x0 : Int} {x1 : Nat} (h0 : x0 = (x1 : Int)) (h1 : x0 < 2147483648) : x0 - 1 < (x1 : Int) := by omega
theorem zo_793 {x0 x1 : Int} (h0 : x0 = x1) (h1 : x1 ≤ 999) : x0 ≤ 999 := by omega
theorem zo_794 {x0 x1 x2 : Int} (h0 : x0 = x1) (h1 : x1 = x2) : x0 = x2 := by omega
theorem zo_795 {x0 : Int} {x1 : Nat} (h0 : x0 = (x1 : Int)) (h1 : x0 < 2147483648) : x0 - 1 = (x1 : Int) - 1 := by omega
theorem zo_796 {x0 : Nat} (h0 : 1 ≤ x0) : 0 ≤ (x0 : Int) - 1 := by omega
theorem zo_797 {x0 : Nat} : (x0 : Int) - 1 < (x0 : Int) := by omega
theorem zo_798 {x0 x1 : Int} (h0 : x0 = x1) (h1 : x0 ≤ 999) : x1 ≤ 999 := by omega
theorem zo_799 {x0 x1 : Int} (h0 : x0 = x1) (h1 : 1 ≤ x1) (h2 : x0 = 0) : False := by omega
theorem zo_800 {x0 x1 x2 : Int} (h0 : x0 = x1) (h1 : x2 = x0) (h2 : 0 ≤ x2) (h3 : x1 < 2147483648) : x2 = x1 := by omega
theorem zo_801 {x0 : Int} (h0 : x0 = 2) : x0 ≠ 0 := by omega
theorem zo_802 {x0 x1 x2 x3 : Int} (h0 : x0 = x1) (h1 : x2 = x0) (h2 : x1 = x3 + 1) (h3 : 0 ≤ x3) (h4 : x1 < 2147483648) : x2 = x3 + 1 := by omega
theorem zo_803 {x0 x1 x2 x3 : Int} (h0 : x0 = x1) (h1 : x2 = x0) (h2 : x1 = x3 + 1) (h3 : 0 ≤ x3) (h4 : -2147483648 ≤ x1) : 0 ≤ x2 := by omega
theorem zo_804 {x0 x1 x2 x3 : Int} (h0 : x0 = x1) (h1 : x2 = x0) (h2 : x1 = x3 + 1) (h3 : x3.toNat < 30) (h4 : x1 < 2147483648) : x2 ≤ 30 := by omega
theorem zo_805 {x0 x1 : Int} (h0 : x0 = x1) (h1 : x0 = 0) : x1 = 0 := by omega
theorem zo_806 {x0 x1 : Int} (h0 : x0 = x1) (h1 : x0 ≠ 0) : x1 ≠ 0 := by omega
theorem zo_807 {x0 x1 : Int} (h0 : x0 = x1) (h1 : x1 ≤ 4) : x0 ≤ 4 := by omega
theorem zo_808 {x0 x1 : Int} (h0 : x0 = x1) (h1 : x1 ≤ 8) : x0 ≤ 8 := by omega
theorem zo_809 {x0 x1 : Int} {x2 : Nat} (h0 : x0 = x1) (h1 : x1 = (x2 : Int)) (h2 : x1 ≤ 6) : x0 = (x2 : Int) := by omega
theorem zo_810 {x0 x1 : Int} (h0 : x0 = x1) (h1 : x1 ≤ 6) : x0 ≤ 6 := by omega
theorem zo_811 {x0 : Int} (h0 : x0 = 0) : x0 ≤ 8 := by omega
theorem zo_812 {x0 x1 : Int} (h0 : x0 = x1) (h1 : x1 = 0) : 0 ≤ x0 ∧ x0 ≤ 8 := by omega
theorem zo_813 {x0 x1 : Int} {x2 : Nat} (h0 : x0 = x1) (h1 : x1 = 0) : ¬ ((x2 : Int) < x0) := by omega
theorem zo_814 {x0 x1 : Int} (h0 : x0 = x1) (h1 : 1 ≤ x1) : x0 = (x1.toNat : Int) := by omega
theorem zo_815 {x0 : Int} (h0 : 1 ≤ x0) : (x0.toNat : Int) = x0 := by omega
theorem zo_816 {x0 x1 : Int} (h0 : x0 = x1) (h1 : x1 = 0) : x0 ≤ 8 := by omega
theorem zo_817 {x0 x1 : Int} (h0 : x0 = x1) (h1 : x1 = 0) : x0 ≤ 4 := by omega
theorem zo_818 {x0 x1 x2 : Int} (h0 : x0 = x1) (h1 : x2 = x1) (h2 : 1 ≤ x1) (h3 : x1 ≤ 6) : x2 = (x0.toNat : Int) := by omega
theorem zo_819 {x0 x1 : Int} (h0 : x0 = x1) (h1 : 1 ≤ x1) : 1 ≤ x0.toNat := by omega
theorem zo_820 {x0 x1 : Int} (h0 : x0 = x1) (h1 : 1 ≤ x1) (h2 : x1 ≤ 6) : x0.toNat ≤ 6 := by omega
theorem zo_821 {x0 : Int} {x1 : Nat} (h0 : x0 = (x1 : Int)) (h1 : 1 ≤ x1) : 1 ≤ x0 := by omega
theorem zo_822 {x0 : Int} {x1 : Nat} (h0 : x0 = (x1 : Int)) (h1 : x1 ≤ 6) : x0 ≤ 6 := by omega
theorem zo_823 {x0 x1 x2 : Int} (h0 : x0 ≤ 6) (h1 : 1 ≤ x0) (h2 : x1 = x0) (h3 : x2 = x1) (h4 : -2147483648 ≤ x2) (h5 : x2 < 2147483648) : x0 = x2 := by omega
theorem zo_824 {x0 x1 x2 : Int} (h0 : 1 ≤ x0) (h1 : x1 = x0) (h2 : x2 = x1) (h3 : -2147483648 ≤ x2) : 1 ≤ x2 := by omega
theorem zo_825 {x0 x1 x2 : Int} (h0 : x0 ≤ 6) (h1 : x1 = x0) (h2 : x2 = x1) (h3 : x2 < 2147483648) : x2 ≤ 6 := by omega
theorem zo_826 {x0 : Int} (h0 : x0 ≤ 8) : x0 - 1 < 2147483648 := by omega
theorem zo_827 {x0 : Int} (h0 : 0 ≤ x0) : -9223372036854775808 ≤ x0 - 1 := by omega
theorem zo_828 {x0 : Int} (h0 : x0 ≤ 8) : x0 - 1 < 9223372036854775808 := by omega
theorem zo_831 {x0 x1 : Int} (h0 : x0 ≤ 64) (h1 : x1 < x0) : x1 < (64 : Int) := by omega
theorem zo_832 {x0 x1 : Int} (h0 : x0 ≤ 64) (h1 : x1 < x0) : x1 + 1 < 2147483648 := by omega
theorem zo_833 {x0 x1 : Int} (h0 : 0 ≤ x0) (h1 : 0 ≤ x1) : 0 ≤ x1 + x0 := by omega
theorem zo_834 {x0 x1 x2 : Int} (h0 : x0 ≤ 64) (h1 : x1 < x0) (h2 : x2 ≤ 0) : x2 + x1 < (64 : Int) := by omega
theorem zo_835 {x0 x1 x2 : Int} (h0 : x0 ≤ 64) (h1 : x1 < x0) (h2 : x2 ≤ 63) : 64 * x1 + x2 < (4096 : Int) := by omega
theorem zo_836 {x0 x1 : Int} (h0 : x0 ≤ 64) (h1 : x1 < x0) : x1 ≤ 63 := by omega
theorem zo_837 {x0 x1 : Int} (h0 : x0 ≤ 64) (h1 : x1 < x0) (h2 : x1 < 2147483648) : x1 < (64 : Int) := by omega
theorem zo_839 {x0 x1 : Int} (h0 : x0 ≤ x1) (h1 : 0 ≤ x0) (h2 : -2147483648 ≤ x1) : 0 ≤ x1 := by omega
theorem zo_840 {x0 x1 x2 : Int} (h0 : x0 = x1) (h1 : x1 ≤ x2) : x0 ≤ x2 := by omega
theorem zo_854 {x0 : Int} (h0 : x0 ≤ 6) : x0 + 1 < 2147483648 := by omega
theorem zo_855 {x0 x1 x2 : Int} (h0 : x0 = x1 + 1) (h1 : x2 ≤ x1) (h2 : -2147483648 ≤ x0) (h3 : x2 < 2147483648) : x2 ≤ x0 := by omega
theorem zo_857 {x0 : Int} (h0 : x0 ≤ 6) : x0 + 1 ≤ 7 := by omega
theorem zo_871 {x0 x1 x2 : Int} (h0 : x0 = x1) (h1 : x2 = x0) (h2 : 0 ≤ x1) : 0 ≤ x2 := by omega
theorem zo_881 {x0 x1 : Int} (h0 : 0 ≤ x0) (h1 : x0 < x1) (h2 : -2147483648 ≤ x1) : 0 ≤ x1 := by omega
theorem zo_887 {x0 x1 : Int} (h0 : x0 ≤ 64) (h1 : x1 < 2147483648) (h2 : x1 ≤ x0 - 1) : x1 < (64 : Int) := by omega
theorem zo_888 {x0 : Int} (h0 : 0 ≤ x0) : 0 ≤ 64 * x0 + x0 := by omega
theorem zo_889 {x0 x1 : Int} (h0 : x0 ≤ 64) (h1 : x1 < 2147483648) (h2 : x1 ≤ x0 - 1) : 64 * x1 + x1 < (4096 : Int) := by omega
theorem zo_890 {x0 x1 : Int} (h0 : x0 ≤ x1 - 1) : x0 < x1 := by omega
theorem zo_891 {x0 x1 x2 : Int} (h0 : x0 ≤ 64) (h1 : x1 < 2147483648) (h2 : x1 ≤ x0 - 1) (h3 : x2 ≤ 0) : x2 + x1 < (64 : Int) := by omega
theorem zo_892 {x0 : Int} (h0 : 0 ≤ x0) : -2147483648 ≤ x0 + (-1) := by omega
theorem zo_893 {x0 : Int} (h0 : x0 < 2147483648) : x0 + (-1) < 2147483648 := by omega
theorem zo_894 {x0 x1 : Int} (h0 : x0 ≤ x1 - 1) : x0 + (-1) ≤ x1 - 1 := by omega
theorem zo_895 {x0 : Int} (h0 : 0 ≤ x0) : x0 + (-1) ≥ -1 := by omega
theorem zo_896 {x0 : Int} {x1 : Nat} (h0 : 0 ≤ x0) (h1 : (x0 + 1).toNat < x1 + 1) (h2 : x0 < 2147483648) : (x0 + (-1) + 1).toNat < x1 := by omega
theorem zo_897 {x0 x1 x2 : Int} (h0 : 0 ≤ x0) (h1 : -2147483648 ≤ x1) (h2 : x0 + 1 ≤ x1) (h3 : 0 ≤ x2) : 0 ≤ x2 + x1 := by omega
theorem zo_898 {x0 x1 : Int} (h0 : 0 ≤ x0) (h1 : x0 + 1 ≤ x1) : 0 ≤ 64 * x1 + x0 := by omega
theorem zo_899 {x0 x1 x2 : Int} (h0 : x0 ≤ 64) (h1 : x1 < x0) (h2 : x2 ≤ x0 - 1) : 64 * x1 + x2 < (4096 : Int) := by omega
theorem zo_900 {x0 x1 : Int} (h0 : x0 + 1 ≤ x1) : x0 + 1 ≤ x1 + 1 := by omega
theorem zo_901 {x0 x1 : Int} (h0 : x0 ≤ 64) (h1 : x1 < 2147483648) (h2 : x1 ≤ x0 - 1) : x1 + 1 < 2147483648 := by omega
theorem zo_902 {x0 : Int} : x0 + 1 ≤ x0 + 1 := by omega
theorem zo_903 {x0 : Int} (h0 : x0 ≤ 64) : x0 - 1 < 2147483648 := by omega
theorem zo_904 {x0 : Int} : x0 - 1 ≤ x0 - 1 := by omega
theorem zo_905 {x0 : Int} (h0 : 1 ≤ x0) : x0 - 1 ≥ -1 := by omega
theorem zo_906 {x0 x1 : Int} (h0 : x0 ≤ 64) (h1 : x1 < 2147483648) (h2 : x1 < x0) : x1 < (64 : Int) := by omega
theorem zo_907 {x0 x1 : Int} (h0 : x0 ≤ 64) (h1 : x1 < x0) : x1 < (128 : Int) := by omega
theorem zo_908 {x0 x1 : Int} (h0 : 0 ≤ x0) (h1 : 0 ≤ x1) : 0 ≤ 64 * x1 + x0 := by omega
theorem zo_909 {x0 x1 x2 : Int} (h0 : x0 ≤ 64) (h1 : x1 < x0) (h2 : x2 < x0) : 64 * x2 + x1 < (4096 : Int) := by omega
theorem zo_910 {x0 : Int} (h0 : x0 = 2) : x0 = 2 ∨ x0 = 3 ∨ x0 = 5 := by omega
theorem zo_911 {x0 : Int} (h0 : x0 = 3) : x0 = 2 ∨ x0 = 3 ∨ x0 = 5 := by omega
theorem zo_912 {x0 : Int} (h0 : x0 = 5) : x0 = 2 ∨ x0 = 3 ∨ x0 = 5 := by omega
theorem zo_913 {x0 x1 : Int} (h0 : x0 = x1) (h1 : 0 ≤ x0) (h2 : 1 ≤ x1) : 1 ≤ x0 := by omega
theorem zo_914 {x0 x1 x2 x3 x4 x5 x6 : Int} (h0 : x0 < x1) (h1 : x0 = x2) (h2 : x1 = x3) (h3 : x4 = x5) (h4 : x6 = x2) (h5 : 0 ≤ x4) (h6 : x6 ≤ 31) (h7 : x3 ≤ x5) : x6 ≤ x4 := by omega
theorem zo_915 {x0 x1 : Int} (h0 : x0 = x1) (h1 : 1 ≤ x1) : x0 ≠ 0 := by omega
theorem zo_916 {x0 : Int} (h0 : 2 ≤ x0) : x0 ≠ 0 := by omega
theorem zo_917 {x0 x1 x2 x3 x4 : Int} (h0 : x0 < x1) (h1 : 1 ≤ x2) (h2 : x0 = x3) (h3 : x1 = x4) (h4 : x0 ≤ 31) (h5 : x4 ≤ x2) : x3 ≤ x2 := by omega
theorem zo_918 {x0 x1 : Int} (h0 : x0 ≤ 24) (h1 : x1 < x0) : x1 < 32 := by omega
theorem zo_919 {x0 x1 : Int} (h0 : x0 ≤ 24) (h1 : x1 < x0) : x1 + 1 < 2147483648 := by omega
theorem zo_920 {x0 : Int} (h0 : 1 ≤ x0) : -2147483648 ≤ x0 := by omega
theorem zo_921 {x0 x1 : Int} {x2 : Nat} (h0 : 1 ≤ x0) (h1 : x0 < x1) (h2 : x1.toNat < x2 + 1) (h3 : x0 < 2147483648) : x0.toNat < x2 := by omega
theorem zo_922 {x0 : Int} (h0 : x0 ≤ 31) : x0 < 2147483648 := by omega
theorem zo_923 {x0 : Int} (h0 : x0 = 2 ∨ x0 = 3 ∨ x0 = 5) : 2 ≤ x0 := by omega
theorem zo_924 {x0 x1 : Int} (h0 : x0 ≤ 24) (h1 : x1 < x0) : x1 < (24 : Int) := by omega
theorem zo_925 {x0 x2 : Int} {x1 : Nat} (h0 : x0 = (x1 : Int)) (h1 : x2 < x0) (h2 : 0 ≤ x2) : x2.toNat < x1 := by omega
theorem zo_926 {x0 x2 : Int} {x1 : Nat} (h0 : x0 = (x1 : Int)) (h1 : x2 = x0) (h2 : -2147483648 ≤ x2) : 0 ≤ x2 := by omega
theorem zo_927 {x0 x2 x4 : Int} {x1 x3 : Nat} (h0 : 1 ≤ x0) (h1 : x0 = (x1 : Int)) (h2 : x2 = (x3 : Int)) (h3 : x3 < x1) (h4 : x4 = x2) (h5 : x4 < 2147483648) : x4 < x0 := by omega
theorem zo_928 {x0 x2 : Int} {x1 : Nat} (h0 : x0 ≤ 24) (h1 : x0 = (x1 : Int)) (h2 : x2 < x0) : x2 < (x1 : Int) := by omega
theorem zo_929 {x0 x3 x4 : Int} {x1 x2 : Nat} (h0 : 1 ≤ x0) (h1 : x0 = (x1 : Int)) (h2 : x2 < x1) (h3 : x3 = (x2 : Int)) (h4 : x4 = x3) (h5 : x4 < 2147483648) : x4 < x0 := by omega
theorem zo_930 {x0 x1 x2 x3 x4 x5 : Int} (h0 : x0 = x1) (h1 : x2 = x0) (h2 : x1 = x3) (h3 : x4 = x2) (h4 : x5 ≤ x3 - 1) : x5 < x4 := by omega
theorem zo_931 {x0 x2 : Int} {x1 : Nat} (h0 : x0 ≤ 64) (h1 : x0 = (x1 : Int)) (h2 : 0 ≤ x2) (h3 : x2 ≤ x0 - 1) : (x0 - 1 - x2).toNat ≤ x1 := by omega
theorem zo_932 {x0 x2 : Int} {x1 : Nat} (h0 : x0 ≤ 64) (h1 : x0 = (x1 : Int)) (h2 : x1 ≤ 30) (h3 : 0 ≤ x2) (h4 : x2 ≤ x0 - 1) : (x0 - 1 - x2).toNat ≤ 30 := by omega
theorem zo_933 {x0 x1 : Int} (h0 : x0 ≤ x1 - 1) : ((x1 - 1 - x0).toNat : Int) = x1 - 1 - x0 := by omega
theorem zo_934 {x0 x1 : Int} (h0 : x0 ≤ x1 - 1) : 0 ≤ x1 - 1 - x0 := by omega
theorem zo_935 {x0 x2 : Int} {x1 : Nat} (h0 : x0 ≤ 64) (h1 : x0 = (x1 : Int)) (h2 : x1 ≤ 30) (h3 : 0 ≤ x2) : x0 - 1 - x2 < 31 := by omega
theorem zo_936 {x0 x2 : Int} {x1 : Nat} (h0 : x0 ≤ 64) (h1 : x0 = (x1 : Int)) (h2 : x1 ≤ 30) (h3 : 0 ≤ x2) (h4 : x2 ≤ x0 - 1) : ((x0 - 1 - x2).toNat : Int) = (x1 : Int) - 1 - x2 := by omega
theorem zo_937 {x0 x1 : Int} (h0 : x0 ≤ x1 - 1) : (x1 - 1 - (x0 + (-1))).toNat = (x1 - 1 - x0).toNat + 1 := by omega
theorem zo_938 {x0 : Int} (h0 : 0 ≤ x0) : -1 ≤ x0 + (-1) := by omega
theorem zo_939 {x0 x1 : Int} (h0 : x0 = x1) (h1 : 0 ≤ x1) (h2 : -2147483648 ≤ x0) : 0 ≤ x0 := by omega
theorem zo_940 {x0 x1 x2 x3 x4 : Int} (h0 : x0 = x1) (h1 : x1 ≤ x2) (h2 : x2 ≤ x3) (h3 : x4 ≤ 32768) (h4 : x3 ≤ 2 * x4) (h5 : x0 < 2147483648) : x0 ≤ 65536 := by omega
theorem zo_941 {x0 x1 : Int} (h0 : -2147483648 ≤ x0) (h1 : 0 ≤ x1) (h2 : x1 ≤ x0) : 0 ≤ x0 := by omega
theorem zo_942 {x0 x1 x2 : Int} (h0 : x0 < x1) (h1 : x2 ≤ 32768) (h2 : x1 ≤ 2 * x2) : x0 < (65536 : Int) := by omega
theorem zo_943 {x0 x1 x2 : Int} (h0 : x0 < x1) (h1 : -2147483648 ≤ x0) (h2 : 0 ≤ x2) (h3 : x2 ≤ x0) : (x0.toNat : Int) < x1 := by omega
theorem zo_944 {x0 x1 x2 x3 : Int} (h0 : x0 < x1) (h1 : x2 ≤ x0) (h2 : x3 ≤ 32768) (h3 : x1 ≤ 2 * x3) : x2 < (65536 : Int) := by omega
theorem zo_945 {x0 x1 : Int} (h0 : x0 = x1) (h1 : x0 < 2147483648) : x1 ≤ 2147483647 := by omega
theorem zo_946 {x0 x2 : Int} {x1 : Nat} (h0 : x0 ≤ 64) (h1 : x0 = (x1 : Int)) (h2 : x1 ≤ 30) (h3 : 0 ≤ x2) (h4 : x2 ≤ x0 - 1) : (x0 - 1 - x2).toNat < 31 := by omega
theorem zo_947 {x0 x1 x2 : Int} (h0 : x0 < x1) (h1 : x1 < 2147483648) (h2 : x2 < 2147483648) (h3 : x2 ≤ x0) : x2 + 1 < 2147483648 := by omega
theorem zo_948 {x0 x1 : Int} (h0 : x0 < x1) (h1 : x1 < 2147483648) (h2 : x0 < 2147483648) : x0 + 1 < 2147483648 := by omega
theorem zo_949 {x0 x1 : Int} (h0 : x0 = x1) (h1 : x1 ≤ 32768) : x0 ≤ 32768 := by omega
theorem zo_950 {x0 x1 : Int} {x2 : Nat} (h0 : x0 = x1) (h1 : x1 ≤ 32768) (h2 : x1 ≤ (x2 : Int)) : x0 ≤ (x2 : Int) := by omega
theorem zo_951 {x0 x1 : Int} (h0 : x0 ≤ x1) : x0 + 1 ≤ x1 + 1 := by omega
theorem zo_952 {x0 x1 x2 : Int} (h0 : x0 = x1) (h1 : x1 ≤ x2) : x0 ≤ x2 + 1 := by omega
theorem zo_953 {x0 x1 x2 : Int} (h0 : x0 = x1) (h1 : x2 ≤ 2 * x1) : x2 ≤ 2 * x0 := by omega
theorem zo_954 {x0 x1 x2 : Int} (h0 : x0 ≤ x1) (h1 : x1 ≤ x2) : x0 ≤ x2 := by omega
theorem zo_955 {x0 x1 : Int} (h0 : x0 < x1) (h1 : x1 ≤ 32768) : x0 < (65536 : Int) := by omega
theorem zo_956 {x0 x1 x2 x3 : Int} (h0 : x0 < x1) (h1 : -2147483648 ≤ x0) (h2 : 0 ≤ x2) (h3 : x2 ≤ x0) (h4 : x1 ≤ x3) : (x0.toNat : Int) < x3 := by omega
theorem zo_957 {x0 x1 x2 : Int} (h0 : x0 < x1) (h1 : x2 < 2147483648) (h2 : x1 ≤ 32768) (h3 : x2 ≤ x0) : x2 < (65536 : Int) := by omega
theorem zo_958 {x0 x1 x2 x3 : Int} (h0 : x0 < x1) (h1 : x2 < 2147483648) (h2 : x3 < 2147483648) (h3 : x3 ≤ x0) (h4 : x1 ≤ x2) : x3 + 1 < 2147483648 := by omega
theorem zo_959 {x0 x1 : Int} (h0 : x0 < x1) (h1 : x1 ≤ 32768) : x0 + 1 < 2147483648 := by omega
theorem zo_960 {x0 x1 x2 : Int} {x3 : Nat} (h0 : x0 = x1) (h1 : x2 < x1) (h2 : (x1 - x2).toNat < x3 + 1) : (x0 - (x2 + 1)).toNat < x3 := by omega
theorem zo_961 {x0 x1 : Int} (h0 : x0 ≤ x1) : x0 ≤ x1 + 1 := by omega
theorem zo_962 {x0 x1 : Int} (h0 : 0 ≤ x0) (h1 : x0 ≤ x1) : 0 ≤ x1 := by omega
theorem zo_963 {x0 x1 x2 : Int} (h0 : x0 ≤ x1) (h1 : x2 ≤ x1 + x0) : x2 ≤ 2 * x1 := by omega
theorem zo_964 {x0 x1 x2 : Int} (h0 : x0 < x1) (h1 : -2147483648 ≤ x2) (h2 : 0 ≤ x0) (h3 : x1 ≤ x2) : 0 ≤ x2 := by omega
theorem zo_965 {x0 x1 x2 : Int} (h0 : x0 < x1) (h1 : x1 ≤ 32768) (h2 : x2 ≤ x1 + x0) : x2 < (65536 : Int) := by omega
theorem zo_966 {x0 : Int} (h0 : x0 < 2147483648) : x0 ≤ 2147483647 := by omega
theorem zo_967 {x0 x1 x2 x3 x4 x5 x6 x7 : Int} (h0 : x0 = x1) (h1 : x2 = x0) (h2 : x1 = x3) (h3 : x4 = x2) (h4 : x5 = x4) (h5 : x6 = x5) (h6 : x7 ≤ x3 - 1) : ((x3 - 1 - x7).toNat : Int) = x6 - 1 - x7 := by omega
theorem zo_968 {x0 x1 x2 x3 x4 x5 x6 : Int} {x7 : Nat} (h0 : x0 = x1) (h1 : x2 = x0) (h2 : x1 = x3) (h3 : x4 = x2) (h4 : x5 = x4) (h5 : x6 = x5) (h6 : x3 ≤ 64) (h7 : x3 = (x7 : Int)) : x6 = (x7 : Int) := by omega
theorem zo_969 {x0 x1 x2 x3 : Int} (h0 : x0 = x1) (h1 : x2 ≤ x1 + x3) : x2 + 1 ≤ x0 + (x3 + 1) := by omega
theorem zo_970 {x0 x1 x2 : Int} (h0 : x0 ≤ x1 + x2) : x0 ≤ x1 + (x2 + 1) := by omega
theorem zo_971 {x0 : Int} (h0 : x0 ≤ 32768) : x0 ≤ 32768 := by omega
theorem zo_972 {x0 : Int} : x0 ≤ x0 + 0 := by omega
theorem zo_973 {x0 : Int} (h0 : 1 ≤ x0) : -1 ≤ x0 - 1 := by omega
theorem zo_974 {x0 : Int} : (x0 - 1 - (x0 - 1)).toNat = 0 := by omega
theorem zo_975 {x0 x1 : Int} (h0 : x0 = x1) (h1 : x1 = 1) : x0 ≤ 65536 := by omega
theorem zo_976 {x0 : Int} (h0 : x0 ≤ 65536) : x0 < 2147483648 := by omega
theorem zo_977 {x0 : Int} (h0 : x0 ≤ 65536) : x0 - 1 < 2147483648 := by omega
theorem zo_978 {x0 : Int} (h0 : x0 ≤ 65536) : x0 - 1 < 9223372036854775808 := by omega
theorem zo_979 {x0 x1 x2 : Int} (h0 : x0 = x1) (h1 : x2 = x0) (h2 : x1 ≤ 65536) : x2 ≤ 65536 := by omega
theorem zo_980 {x0 x1 : Int} (h0 : x0 < 2147483648) (h1 : x0 ≤ x1 - 1) (h2 : x1 ≤ 65536) : x0 < (65536 : Int) := by omega
theorem zo_981 {x0 x1 : Int} (h0 : x0 < x1) : -2147483648 ≤ x1 - 1 - x0 := by omega
theorem zo_982 {x0 x1 : Int} (h0 : x0 ≤ 64) (h1 : 0 ≤ x1) : x0 - 1 - x1 < 2147483648 := by omega
theorem zo_983 {x0 x2 : Int} {x1 : Nat} (h0 : x0 ≤ 24) (h1 : x0 = (x1 : Int)) (h2 : 0 ≤ x2) (h3 : x2 < x0) : x2.toNat < x1 := by omega
theorem zo_984 {x0 x1 : Int} (h0 : x0 = x1 - 1) (h1 : 1 ≤ x1) : 0 ≤ x0 := by omega
theorem zo_985 {x1 : Int} {x0 : Nat} (h0 : x0 ≤ 24) (h1 : x1 < 2147483648) (h2 : x1 - 1 ≤ (x0 : Int)) : x1 + 1 < 2147483648 := by omega
theorem zo_986 {x0 : Int} {x1 : Nat} (h0 : x0 < 2147483648) (h1 : x0 - 1 ≤ (x1 : Int)) (h2 : x0 - 1 ≠ (x1 : Int)) : x0 + 1 - 1 ≤ (x1 : Int) := by omega
theorem zo_987 {x0 x1 : Int} (h0 : x0 = x1 - 1) : x1 + 1 - 1 = x0 + 1 := by omega
theorem zo_988 {x0 : Nat} : 1 - 1 ≤ (x0 : Int) := by omega
theorem zo_989 {x0 : Int} (h0 : 0 ≤ x0) : x0 = (x0.toNat : Int) := by omega
theorem zo_990 {x0 x1 : Int} (h0 : x0 = x1) (h1 : x1 ≤ 64) : x0 ≤ 128 := by omega
theorem zo_991 {x0 x1 x2 : Int} (h0 : x0 = x1) (h1 : x1 ≤ 64) (h2 : x2 < x0) (h3 : x2 < 2147483648) : x2 < (128 : Int) := by omega
theorem zo_992 {x0 : Int} (h0 : 0 < x0) : -2147483648 ≤ x0 + (-1) := by omega
theorem zo_993 {x0 x1 : Int} (h0 : x0 ≤ x1) : x0 + (-1) ≤ x1 := by omega
theorem zo_994 {x0 x1 : Int} (h0 : 1 ≤ x0) (h1 : 0 < x1) : x1 + (-1) ≥ 0 ∨ x1 + (-1) = x0 := by omega
theorem zo_995 {x0 : Int} {x1 : Nat} (h0 : 0 < x0) (h1 : x0.toNat < x1 + 1) (h2 : x0 < 2147483648) : (x0 + (-1)).toNat < x1 := by omega
theorem zo_996 {x0 : Int} : x0 ≥ 0 ∨ x0 = x0 := by omega
theorem zo_997 {x0 : Int} (h0 : 0 ≤ x0) : -9223372036854775808 ≤ x0 := by omega
theorem zo_998 {x0 x1 : Int} {x2 : Nat} (h0 : 0 ≤ x0) (h1 : x0 < x1) (h2 : x1.toNat < x2 + 1) : x0.toNat < x2 := by omega
theorem zo_999 {x0 : Int} (h0 : 1 ≤ x0) : x0 ≠ 0 := by omega
theorem zo_1000 {x0 : Int} (h0 : x0 < 0) (h1 : -1 ≤ x0) : (x0 + 1).toNat = 0 := by omega
theorem zo_1001 {x0 x2 : Int} {x1 : Nat} (h0 : x0 ≤ 64) (h1 : x0 = (x1 : Int)) (h2 : 0 ≤ x2) (h3 : x2 < x0) : x2.toNat < x1 := by omega
theorem zo_1002 {x0 x2 x3 : Int} {x1 : Nat} (h0 : x0 ≤ 64) (h1 : x1 ≤ 64) (h2 : x0 = (x1 : Int)) (h3 : x0 ≤ x2) (h4 : 0 ≤ x3) (h5 : x3 + 1 ≤ x2) (h6 : x2 ≤ x0) : x2 = (x1 : Int) := by omega
theorem zo_1003 {x0 x1 : Int} (h0 : x0 + 1 ≤ x1) : x0 < x1 := by omega
theorem zo_1004 {x0 x1 : Int} (h0 : x0 ≤ 64) (h1 : x1 < 2147483648) (h2 : x1 < x0) : 64 * x1 + x1 < (4096 : Int) := by omega
theorem zo_1005 {x0 x1 x2 : Int} (h0 : 1 ≤ x0) (h1 : x0 ≤ 24) (h2 : x1 = x0) (h3 : x2 = x1) (h4 : -2147483648 ≤ x2) (h5 : x2 < 2147483648) : x2 = x0 := by omega
theorem zo_1006 {x0 : Int} (h0 : x0 ≤ 24) : x0 < 2147483648 := by omega
theorem zo_1007 {x0 : Int} (h0 : x0 ≤ 24) : x0 < 9223372036854775808 := by omega
theorem zo_1008 {x0 : Int} (h0 : 0 ≤ x0) : x0.toNat + 1 = (x0 + 1).toNat := by omega
theorem zo_1009 {x0 : Int} : x0 + (-1) + 1 = x0 := by omega
theorem zo_1010 {x0 x1 : Int} (h0 : x0 < x1) : x0 + (-1) < x1 := by omega
theorem zo_1011 {x0 x1 : Int} (h0 : 0 ≤ x0) (h1 : x0 < 2147483648) (h2 : x0 + 1 ≤ x1) : (x0 + 1).toNat ≤ x1.toNat := by omega
theorem zo_1012 {x0 x2 x3 : Int} {x1 : Nat} (h0 : x0 = (x1 : Int)) (h1 : x2 < x0) (h2 : 0 ≤ x3) (h3 : -2147483648 ≤ x2) (h4 : x3 + 1 ≤ x2) : x2.toNat < x1 := by omega
theorem zo_1013 {x0 x1 : Int} (h0 : 0 ≤ x0) (h1 : -2147483648 ≤ x1) (h2 : x0 + 1 ≤ x1) : 0 ≤ x1 := by omega
theorem zo_1014 {x0 x2 : Int} {x1 : Nat} (h0 : x0 = (x1 : Int)) (h1 : x2 < x0) : x2 < (x1 : Int) := by omega
theorem zo_1015 {x0 x1 x2 : Int} (h0 : x0 ≤ 64) (h1 : x1 < x0) (h2 : x2 < x0) : 64 * x1 + x2 < (4096 : Int) := by omega
theorem zo_1016 {x0 x1 x2 x3 : Int} (h0 : x0 = 0) (h1 : 0 ≤ x1) (h2 : x1 ≤ 24) (h3 : x2 = x1) (h4 : -1000 ≤ x3) (h5 : x0 = x2) : x3 = 0 ∨ x1 = 0 := by omega
theorem zo_1017 {x0 x1 : Int} (h0 : x0 ≤ 1000) (h1 : x1 = x0) : -1000 ≤ -x1 := by omega
theorem zo_1018 {x0 x1 : Int} (h0 : -1000 ≤ x0) (h1 : x1 = x0) : -x1 ≤ 1000 := by omega
theorem zo_1019 {x0 x1 x2 : Int} (h0 : 0 ≤ x0) (h1 : x1 = x0) (h2 : x2 = x1) (h3 : -2147483648 ≤ x2) : 0 ≤ x2 := by omega
theorem zo_1020 {x0 x1 x2 : Int} (h0 : x0 ≤ 24) (h1 : x1 = x0) (h2 : x2 = x1) (h3 : x2 < 2147483648) : x2 ≤ 24 := by omega
theorem zo_1021 {x0 x2 x3 : Int} {x1 : Nat} (h0 : x0 ≤ 64) (h1 : x0 = (x1 : Int)) (h2 : x2 < x0) (h3 : 0 ≤ x3) (h4 : x3 + 1 ≤ x2) : x3.toNat + (x2 - x3 - 1).toNat < x1 := by omega
theorem zo_1022 {x0 x1 : Int} (h0 : 0 ≤ x0) (h1 : x0 + 1 ≤ x1) : 0 ≤ x1 := by omega
theorem zo_1023 {x0 : Int} (h0 : x0 = 1) : x0 ≤ 1000 := by omega
theorem zo_1024 {x0 x1 : Int} (h0 : 1 ≤ x0) (h1 : x1 = x0) : 1 ≤ x1 := by omega
theorem zo_1025 {x0 x1 : Int} (h0 : x0 ≤ 24) (h1 : x1 = x0) (h2 : x1 < 9223372036854775808) : x1 ≤ 1000 := by omega
theorem zo_1026 {x0 x1 x2 : Int} (h0 : 0 ≤ x0) (h1 : x0 ≤ 24) (h2 : x1 = x0) (h3 : x2 = x1) (h4 : -2147483648 ≤ x2) (h5 : x2 < 2147483648) : x2 = x0 := by omega
theorem zo_1027 {x0 x1 : Int} (h0 : 0 ≤ x0) (h1 : x0 + 1 ≤ x1) : -2147483648 ≤ x1 + 1 := by omega
theorem zo_1028 {x0 x1 x2 : Int} {x3 : Nat} (h0 : x0 ≤ 64) (h1 : x1 < x0) (h2 : 0 ≤ x2) (h3 : (x0 - x1).toNat < x3 + 1) (h4 : x2 + 1 ≤ x1) : (x0 - (x1 + 1)).toNat < x3 := by omega
theorem zo_1029 {x0 x1 : Int} (h0 : x0 ≤ 64) (h1 : x1 < 2147483648) (h2 : x1 < x0) : x1 + 1 < 2147483648 := by omega
theorem zo_1030 {x0 : Int} : (x0 + 1 - x0 - 1).toNat = 0 := by omega
theorem zo_1031 {x0 x1 : Int} (h0 : 0 ≤ x0) (h1 : 0 ≤ x1) (h2 : x0 ≠ x1) : ¬ (x0.toNat = x1.toNat) := by omega
theorem zo_1032 {x0 x1 : Int} (h0 : x0 < 2147483648) (h1 : x1 = x0) (h2 : 0 ≤ x1) (h3 : x1 < 2147483648) (h4 : 0 ≤ x0) : x1.toNat = x0.toNat := by omega
theorem zo_1033 {x1 : Int} {x0 : Nat} (h0 : x0 ≤ 64) (h1 : x1 = (x0 : Int)) : x0 ≤ (x1 - 1 + 1).toNat := by omega
theorem zo_1034 {x0 : Int} : 0 ≤ x0.toNat := by omega
theorem zo_1035 {x0 x1 : Int} (h0 : x0 ≤ 64) (h1 : x1 < x0) : x1 ≤ 64 := by omega
theorem zo_1036 {x0 x1 : Int} (h0 : x0 = x1) (h1 : x1 ≤ 24) : x0 ≤ 1000 := by omega
theorem zo_1037 {x0 x1 x2 x3 : Int} (h0 : x0 = x1) (h1 : x2 = x0) (h2 : x1 = x3 + 1) : x2 = x3 + 1 := by omega
theorem zo_1038 {x0 x1 x2 : Int} (h0 : x0 = x1) (h1 : x1 = x2) (h2 : 0 ≤ x0) (h3 : x2 < 2147483648) : x0 = x2 := by omega
theorem zo_1039 {x0 x1 x2 x3 : Int} (h0 : x0 = x1) (h1 : x2 = x0) (h2 : x1 = x3 + 1) : x3 + 1 ≤ x2 := by omega
theorem zo_1040 {x0 x1 x2 x3 : Int} (h0 : x0 = x1) (h1 : x2 = x0) (h2 : x1 = x3 + 1) (h3 : x3 ≤ 29) (h4 : x1 < 2147483648) : x2 ≤ 30 := by omega
theorem zo_1041 {x0 x2 : Int} {x1 : Nat} (h0 : x0 = (x1 : Int)) (h1 : x2 ≤ x0 - 1) (h2 : x2 ≤ 999) : x2 < (x1 : Int) := by omega
theorem zo_1042 {x0 x2 x3 : Int} {x1 : Nat} (h0 : x0 = (x1 : Int)) (h1 : x2 ≤ x0 - 1) (h2 : x2 = x3) (h3 : x2 ≤ 999) : x3 < (x1 : Int) := by omega
theorem zo_1043 {x0 x1 x2 x3 x4 : Int} (h0 : x0 = x1) (h1 : x2 = x0) (h2 : x3 = x2) (h3 : x1 = x4 + 1) : x3 = x4 + 1 := by omega
theorem zo_1044 {x0 x1 x2 x3 x4 : Int} (h0 : x0 = x1) (h1 : x2 = x0) (h2 : x3 = x2) (h3 : x1 = x4 + 1) : x4 + 1 ≤ x3 := by omega
theorem zo_1045 {x0 x1 x2 x3 x4 : Int} (h0 : x0 = x1) (h1 : x2 = x0) (h2 : x3 = x2) (h3 : x1 = x4 + 1) (h4 : x4 ≤ 29) (h5 : x1 < 2147483648) : x3 ≤ 30 := by omega
theorem zo_1046 {x0 x2 x3 : Int} {x1 : Nat} (h0 : x0 = (x1 : Int)) (h1 : x0 - 1 < x2) (h2 : x2 = x3) (h3 : x3 < (x1 : Int)) : False := by omega
theorem zo_1047 {x0 x1 x2 : Int} (h0 : x0 = x1) (h1 : x1 = x2 + 1) : x0 = x2 + 1 := by omega
theorem zo_1048 {x0 x1 x2 : Int} (h0 : x0 = x1) (h1 : x1 = x2 + 1) : x2 + 1 ≤ x0 := by omega
theorem zo_1049 {x0 x1 x2 : Int} (h0 : x0 = x1) (h1 : x1 = x2 + 1) (h2 : x2 ≤ 29) (h3 : x1 < 2147483648) : x0 ≤ 30 := by omega
theorem zo_1050 {x0 x2 : Int} {x1 : Nat} (h0 : x0 = (x1 : Int)) (h1 : 30 < x2) (h2 : x2 + x0 ≤ 7) : False := by omega
theorem zo_1051 {x0 x1 : Int} (h0 : x0 ≤ 9) (h1 : x0 = x1) : x1 ≤ 9 := by omega
theorem zo_1052 {x0 : Int} (h0 : x0 ≤ 0) (h1 : 0 < x0) : False := by omega
theorem zo_1053 {x0 x1 x2 x3 x4 x5 : Int} (h0 : x0 = x1) (h1 : x2 = x0) (h2 : x3 = x2) (h3 : x4 = x3) (h4 : x1 = x5) : x4 = x5 := by omega
theorem zo_1054 {x0 x1 : Int} {x2 : Nat} (h0 : x0 = x1) (h1 : 0 < x1) (h2 : x0 = (x2 : Int)) : 0 < x0 := by omega
theorem zo_1055 {x0 : Int} (h0 : x0 ≤ 30) : x0 + 1 < 2147483648 := by omega
theorem zo_1057 {x0 : Int} {x1 : Nat} (h0 : x0 ≤ 30) (h1 : (31 - x0 : Int).toNat < x1 + 1) (h2 : -2147483648 ≤ x0) : (31 - (x0 + 1) : Int).toNat < x1 := by omega
theorem zo_1058 {x0 x1 : Int} (h0 : 9 < x0) (h1 : x0 = x1) (h2 : x1 ≤ 9) : False := by omega
theorem zo_1059 {x0 x1 x2 x3 x4 x5 : Int} (h0 : x0 = x1) (h1 : x2 = x0) (h2 : x3 = x2) (h3 : x4 = x3) (h4 : x5 = x4) : x5 = x1 := by omega
theorem zo_1060 {x0 : Int} {x1 x2 : Nat} (h0 : x0 = (x1 : Int)) (h1 : x2 ≤ 7) (h2 : x1 ≤ x2) (h3 : x0 < 2147483648) : 0 + x0 ≤ 7 := by omega
theorem zo_1061 {x0 : Int} (h0 : x0 = 0) : x0.toNat = 0 := by omega
theorem zo_1062 {x0 x1 : Int} (h0 : 30 < x0) (h1 : x0 ≤ x1) (h2 : x1 ≤ 30) : False := by omega
theorem zo_1063 {x0 x1 : Int} (h0 : 0 ≤ x0) (h1 : x0 ≤ x1) (h2 : -2147483648 ≤ x1) : 0 ≤ x1 := by omega
theorem zo_1064 {x0 x1 x2 : Int} (h0 : x0 ≤ x1) (h1 : 0 ≤ x2) (h2 : x2 ≤ x0) (h3 : -2147483648 ≤ x1) : 0 ≤ x1 := by omega
theorem zo_1065 {x0 x1 x2 x3 : Int} (h0 : x0 ≤ x1) (h1 : x1 + 1 ≤ x2) (h2 : 0 ≤ x3) (h3 : x3 ≤ x0) (h4 : -2147483648 ≤ x2) : 0 ≤ x2 := by omega
theorem zo_1066 {x0 x1 : Int} (h0 : x0 = 43) (h1 : x1 = x0) (h2 : -2147483648 ≤ x1) (h3 : x1 < 2147483648) : x1 = 42 ∨ x1 = 43 ∨ x1 = 45 := by omega
theorem zo_1067 {x0 x1 x2 x3 x4 x5 x6 : Int} (h0 : x0 = x1) (h1 : x2 = x0) (h2 : x3 = x2) (h3 : x4 ≤ x5) (h4 : x5 + 1 ≤ x1) (h5 : x6 ≤ 30) (h6 : x6 ≤ x4) (h7 : -2147483648 ≤ x1) : x6 + 1 ≤ x3 := by omega
theorem zo_1068 {x0 x1 x2 x3 : Int} (h0 : x0 = x1) (h1 : x2 = x0) (h2 : x3 = x2) (h3 : x1 ≤ 30) : x3 ≤ 30 := by omega
theorem zo_1069 {x0 : Int} {x1 : Nat} (h0 : x0 ≤ 30) (h1 : (31 - x0 : Int).toNat < x1 + 1) (h2 : 0 ≤ x0) : (31 - (x0 + 1) : Int).toNat < x1 := by omega
theorem zo_1070 {x0 x1 : Int} (h0 : x0 = 45) (h1 : x1 = x0) (h2 : -2147483648 ≤ x1) (h3 : x1 < 2147483648) : x1 = 42 ∨ x1 = 43 ∨ x1 = 45 := by omega
theorem zo_1071 {x0 x1 : Int} (h0 : x0 = 42) (h1 : x1 = x0) (h2 : -2147483648 ≤ x1) (h3 : x1 < 2147483648) : x1 = 42 ∨ x1 = 43 ∨ x1 = 45 := by omega
theorem zo_1072 {x0 x1 x2 x3 x4 : Int} (h0 : x0 = x1) (h1 : x2 ≤ x3) (h2 : x3 + 1 ≤ x1) (h3 : x4 ≤ 30) (h4 : x4 ≤ x2) (h5 : -2147483648 ≤ x1) : x4 + 1 ≤ x0 := by omega
theorem zo_1073 {x0 x1 : Int} (h0 : x0 = x1) (h1 : x1 ≤ 0) : x0 ≤ 0 := by omega
theorem zo_1074 {x0 : Int} (h0 : x0 = 0) : x0 ≤ 30 := by omega
theorem zo_1075 {x0 x1 : Nat} (h0 : x0 < x1) : x1 - x0 = x1 - x0 - 1 + 1 := by omega
theorem zo_1076 {x0 x1 x2 : Nat} (h0 : x0 < x1) (h1 : x1 - x0 = x2 + 1) : x1 - (x0 + 1) = x2 := by omega
theorem zo_1077 {x0 x1 : Nat} (h0 : x0 + 1 ≤ x1) : x0 ≤ x1 := by omega
theorem zo_1078 {x0 x1 : Nat} (h0 : x0 + 1 ≤ x1) : x0 < x1 := by omega
theorem zo_1079 {x0 x1 : Nat} (h0 : x0 - x1 ≤ 0) (h1 : x1 ≤ x0) : x0 = x1 := by omega
theorem zo_1080 {x0 x1 : Nat} (h0 : x0 ≤ x1) (h1 : ¬ (x1 = x0)) : x0 + 1 ≤ x1 := by omega
theorem zo_1081 {x0 : Nat} : x0 ≤ x0 + 1 := by omega
theorem zo_1082 {x0 x1 : Nat} (h0 : x0 < x1) : ¬ (x1 ≤ x0) := by omega
theorem zo_1083 {x0 : Nat} : x0 < x0 + 1 := by omega
theorem zo_1084 {x0 : Int} (h0 : 0 ≤ x0) : (x0 + 1).toNat = x0.toNat + 1 := by omega
theorem zo_1085 {x0 : Int} {x1 : Nat} (h0 : 0 ≤ x0) (h1 : x0 < (x1 : Int)) : x0.toNat < x1 := by omega
theorem zo_1086 {x1 : Int} {x0 : Nat} (h0 : (x0 : Int) ≤ x1) (h1 : x1.toNat < x0) : False := by omega
theorem zo_1087 {x0 x1 x2 : Nat} (h0 : x0 + (x1 + 1) ≤ x2) : x0 + x1 ≤ x2 := by omega
theorem zo_1088 {x0 x1 x2 : Nat} (h0 : x0 + (x1 + 1) ≤ x2) : x0 + x1 < x2 := by omega
theorem zo_1089 {x0 x1 x2 : Int} (h0 : 0 ≤ x0) (h1 : x0 ≤ 255) (h2 : (-23) * (x1 - 1) ≤ x2) (h3 : x2 ≤ 23 * (x1 - 1)) : (-23) * (x1 * 10 - 1) ≤ 10 * x2 + (x0 - 48) ∧ 10 * x2 + (x0 - 48) ≤ 23 * (x1 * 10 - 1) := by omega
theorem zo_1090 {x0 x1 : Int} (h0 : x0 + 1 - x1 ≤ 6) : x0 - x1 ≤ 6 := by omega
theorem zo_1091 {x0 x1 : Int} {x2 : Nat} (h0 : 0 ≤ x0) (h1 : x0 ≤ x1) (h2 : x1 < (x2 : Int)) : x0.toNat + (x1 - x0).toNat ≤ x2 := by omega
theorem zo_1092 {x0 x1 : Int} (h0 : x0 ≤ x1) (h1 : x1 + 1 - x0 ≤ 6) : (x1 - x0).toNat ≤ 6 := by omega
theorem zo_1093 {x0 x1 : Int} {x2 : Nat} (h0 : 0 ≤ x0) (h1 : x0 ≤ x1) (h2 : x1 < (x2 : Int)) : x1.toNat < x2 := by omega
theorem zo_1094 {x0 x1 : Int} (h0 : x0 ≤ x1) : (x1 + 1 - x0).toNat = (x1 - x0).toNat + 1 := by omega
theorem zo_1095 {x0 x1 : Int} (h0 : 0 ≤ x0) (h1 : x0 ≤ x1) : x0.toNat + (x1 - x0).toNat = x1.toNat := by omega
theorem zo_1096 {x0 x1 : Int} : x0 * 10 + x1 - 48 = 10 * x0 + (x1 - 48) := by omega
theorem zo_1097 {x0 x1 x2 : Nat} (h0 : x0 < x1 + x2) : x0 < x1 + (x2 + 1) := by omega
theorem zo_1098 {x0 x1 : Nat} : x0 ≤ x0 + x1 := by omega
theorem zo_1099 {x0 x1 : Nat} : x0 + x1 < x0 + (x1 + 1) := by omega
theorem zo_1100 {x1 x2 : Int} {x0 : Nat} (h0 : x0 < x1.toNat + (x2 - x1).toNat) (h1 : 0 ≤ x1) (h2 : x1 ≤ x2) : x0 < x2.toNat := by omega
theorem zo_1101 {x0 x1 : Int} (h0 : 97 ≤ x0) (h1 : 0 ≤ x1) : -2147483648 ≤ x1 * 27 + x0 - 97 + 1 := by omega
theorem zo_1102 {x0 x1 : Int} : x0 * 27 + x1 - 97 + 1 = 27 * x0 + (x1 - 96) := by omega
theorem zo_1103 {x0 : Int} {x1 : Nat} (h0 : x0 = (x1 : Int)) : x0.toNat = x1 := by omega
theorem zo_1104 {x0 : Int} {x1 x2 : Nat} (h0 : x0.toNat = x1) (h1 : x1 < x2) : x0 ≤ (x2 : Int) := by omega
theorem zo_1105 {x0 x1 : Nat} (h0 : (x0 : Int) - (x1 : Int) ≤ 6) : x0 ≤ x1 + 6 := by omega
theorem zo_1106 {x0 x1 : Nat} (h0 : 6 < (x0 : Int) - (x1 : Int)) : ¬ (x0 ≤ x1 + 6) := by omega
theorem zo_1107 {x0 x1 : Nat} (h0 : x0 ≤ x1 + 6) : (x0 : Int) - (x1 : Int) ≤ 6 := by omega
theorem zo_1108 {x0 : Int} {x1 : Nat} (h0 : x0 = (x1 : Int) + 1) : x0 = (x1 + 1 : Int) := by omega
theorem zo_1109 {x0 x1 : Nat} (h0 : x0 = x1) : x0 ≤ x1 := by omega
theorem zo_1110 {x0 : Int} {x1 x2 : Nat} (h0 : x0.toNat = x1) (h1 : x2 = x1) : x0 ≤ (x2 : Int) := by omega
theorem zo_1111 {x0 : Int} (h0 : x0 = 32) : x0 = 32 ∨ x0 = 10 := by omega
theorem zo_1112 {x0 : Int} (h0 : x0 = 10) : x0 = 32 ∨ x0 = 10 := by omega
theorem zo_1113 {x0 : Int} (h0 : x0 < 97) (h1 : 97 ≤ x0) : False := by omega
theorem zo_1114 {x0 : Int} (h0 : 122 < x0) (h1 : x0 ≤ 122) : False := by omega
theorem zo_1115 {x0 : Int} (h0 : x0 < 48) (h1 : 48 ≤ x0) : False := by omega
theorem zo_1116 {x0 : Int} (h0 : 57 < x0) (h1 : x0 ≤ 57) : False := by omega
theorem zo_1117 {x0 x1 : Int} (h0 : -2147483648 ≤ x0) (h1 : x1 ≤ x0) (h2 : 0 ≤ x1) : 0 ≤ x0 := by omega
theorem zo_1118 {x0 x1 : Int} {x2 : Nat} (h0 : x0 ≤ x1) (h1 : x2 ≤ 700) (h2 : x0 = (x2 : Int)) (h3 : -2147483648 ≤ x1) : (x2 : Int) ≤ x1 := by omega
theorem zo_1119 {x0 x1 : Int} {x2 : Nat} (h0 : x0 < x1) (h1 : x2 ≤ 700) (h2 : x1 = (x2 : Int)) (h3 : x0 < 2147483648) (h4 : x0 ≤ (x2 : Int)) : x0 < (700 : Int) := by omega
theorem zo_1120 {x0 x1 x3 : Int} {x2 : Nat} (h0 : x0 < x1) (h1 : x1 = (x2 : Int)) (h2 : -2147483648 ≤ x0) (h3 : x0 < 2147483648) (h4 : x3 ≤ x0) (h5 : x0 ≤ (x2 : Int)) (h6 : 0 ≤ x3) : x0.toNat < x2 := by omega
theorem zo_1121 {x1 : Int} {x0 : Nat} (h0 : x0 ≤ 700) (h1 : x1 < 2147483648) (h2 : x1 ≤ (x0 : Int)) : x1 + 1 < 2147483648 := by omega
theorem zo_1122 {x0 x1 : Int} {x2 : Nat} (h0 : x0 < x1) (h1 : x1 = (x2 : Int)) (h2 : x0 < 2147483648) (h3 : x0 ≤ (x2 : Int)) : x0 + 1 ≤ (x2 : Int) := by omega
theorem zo_1123 {x0 x1 : Int} {x2 : Nat} (h0 : x0 < x1) (h1 : x1 = (x2 : Int)) (h2 : x0 < 2147483648) (h3 : x0 ≤ (x2 : Int)) : x0 < (x2 : Int) := by omega
theorem zo_1124 {x0 x1 : Int} {x2 x3 : Nat} (h0 : x0 < x1) (h1 : ((x2 : Int) - x0).toNat < x3 + 1) (h2 : x1 = (x2 : Int)) (h3 : x0 < 2147483648) (h4 : x0 ≤ (x2 : Int)) : ((x2 : Int) - (x0 + 1)).toNat < x3 := by omega
theorem zo_1125 {x0 x1 : Int} (h0 : x0 ≤ x1) (h1 : x1 ≤ x0) : x1 = x0 := by omega
theorem zo_1126 {x0 x1 : Int} {x2 : Nat} (h0 : x0 < x1) (h1 : x2 ≤ 700) (h2 : x1 ≤ (x2 : Int)) : x0 < (700 : Int) := by omega
theorem zo_1127 {x0 x1 x2 : Int} {x3 : Nat} (h0 : x0 < x1) (h1 : -2147483648 ≤ x0) (h2 : x2 ≤ x0) (h3 : 0 ≤ x2) (h4 : x1 ≤ (x3 : Int)) : x0.toNat < x3 := by omega
theorem zo_1128 {x0 x1 : Int} {x2 : Nat} (h0 : x0 < 2147483648) (h1 : x1 < x0) (h2 : x2 ≤ 700) (h3 : x0 ≤ (x2 : Int)) : x1 + 1 < 2147483648 := by omega
theorem zo_1129 {x0 x1 : Int} {x2 : Nat} (h0 : x0 < x1) (h1 : x1 ≤ (x2 : Int)) : x0 < (x2 : Int) := by omega
theorem zo_1130 {x0 : Int} : (x0 - x0).toNat = 0 := by omega
theorem zo_1131 {x0 x1 : Int} (h0 : x0 ≤ x1) : -2147483648 ≤ x1 - x0 := by omega
theorem zo_1132 {x1 x2 : Int} {x0 : Nat} (h0 : x0 ≤ 700) (h1 : x1 ≤ (x0 : Int)) (h2 : 0 ≤ x2) (h3 : x1 < 2147483648) : x1 - x2 < 2147483648 := by omega
theorem zo_1133 {x0 x1 : Int} {x2 x3 : Nat} (h0 : x0 = x1) (h1 : x2 ≤ 700) (h2 : x1 = (x3 : Int)) (h3 : x1 ≤ (x2 : Int)) (h4 : x1 < 2147483648) : x0 = (x3 : Int) := by omega
theorem zo_1134 {x2 x3 : Int} {x0 x1 : Nat} (h0 : x0 ≤ 700) (h1 : (x1 : Int) - x2 ≤ 6) (h2 : x3 = (x1 : Int)) (h3 : x3 ≤ (x0 : Int)) (h4 : 0 ≤ x2) (h5 : x3 < 2147483648) : x3 - x2 ≤ 6 := by omega
theorem zo_1135 {x0 x1 x2 : Int} {x3 : Nat} (h0 : 6 < x0 - x1) (h1 : x2 = 4) (h2 : x0 = (x3 : Int)) : (x3 : Int) - x1 ≤ 6 ∧ x2 = 1 ∨ 6 < (x3 : Int) - x1 ∧ x2 = 4 := by omega
theorem zo_1136 {x0 x1 x2 : Int} {x3 : Nat} (h0 : x0 - x1 ≤ 6) (h1 : x2 = 1) (h2 : x0 = (x3 : Int)) : (x3 : Int) - x1 ≤ 6 ∧ x2 = 1 ∨ 6 < (x3 : Int) - x1 ∧ x2 = 4 := by omega
theorem zo_1137 {x0 x1 : Int} {x2 : Nat} (h0 : x0 < x1) (h1 : x2 ≤ 700) (h2 : x1 = (x2 : Int)) (h3 : x0 ≤ (x2 : Int)) (h4 : x0 < 2147483648) : x0 < (700 : Int) := by omega
theorem zo_1138 {x0 x1 x3 : Int} {x2 : Nat} (h0 : x0 < x1) (h1 : x1 = (x2 : Int)) (h2 : x3 ≤ x0) (h3 : x0 ≤ (x2 : Int)) (h4 : 0 ≤ x3) (h5 : -2147483648 ≤ x0) (h6 : x0 < 2147483648) : x0.toNat < x2 := by omega
theorem zo_1139 {x0 x1 : Int} (h0 : x0 = x1) (h1 : -2147483648 ≤ x1) : -2147483648 ≤ x0 + 1 := by omega
theorem zo_1140 {x0 x1 : Int} {x2 : Nat} (h0 : x0 = x1) (h1 : x2 ≤ 700) (h2 : x1 ≤ (x2 : Int)) (h3 : x1 < 2147483648) : x0 + 1 < 2147483648 := by omega
theorem zo_1141 {x0 x1 x3 : Int} {x2 : Nat} (h0 : x0 = x1) (h1 : x2 ≤ 700) (h2 : x3 = x0 + 1) (h3 : x1 ≤ (x2 : Int)) (h4 : x1 < 2147483648) (h5 : -2147483648 ≤ x3) : x3 = x1 + 1 := by omega
theorem zo_1142 {x0 x1 x2 x3 : Int} (h0 : x0 = x1) (h1 : x1 = x2) (h2 : x3 = x2) : x0 = x3 := by omega
theorem zo_1143 {x0 x1 x2 : Int} {x3 : Nat} (h0 : x0 = x1 + 1) (h1 : x1 < x2) (h2 : x2 = (x3 : Int)) (h3 : x1 ≤ (x3 : Int)) (h4 : x1 < 2147483648) : x0 ≤ (x3 : Int) := by omega
theorem zo_1144 {x0 x1 : Int} {x2 : Nat} (h0 : x0 < x1) (h1 : x1 = (x2 : Int)) (h2 : x0 ≤ (x2 : Int)) (h3 : x0 < 2147483648) : x0 < (x2 : Int) := by omega
theorem zo_1145 {x1 x3 : Int} {x0 x2 : Nat} (h0 : x0 < (x1 + 1).toNat) (h1 : ¬ (x0 < x1.toNat)) (h2 : x2 ≤ 700) (h3 : x3 ≤ x1) (h4 : x1 ≤ (x2 : Int)) (h5 : 0 ≤ x3) (h6 : -2147483648 ≤ x1) (h7 : x1 < 2147483648) : x0 = x1.toNat := by omega
theorem zo_1146 {x0 x1 x2 : Int} {x3 x4 : Nat} (h0 : x0 = x1 + 1) (h1 : x1 < x2) (h2 : ((x3 : Int) - x1).toNat < x4 + 1) (h3 : x3 ≤ 700) (h4 : x2 = (x3 : Int)) (h5 : x1 ≤ (x3 : Int)) (h6 : x1 < 2147483648) (h7 : -2147483648 ≤ x0) : ((x3 : Int) - x0).toNat < x4 := by omega
theorem zo_1147 {x0 x1 : Int} (h0 : x0 = x1) : x1 ≤ x0 := by omega
theorem zo_1148 {x0 x2 : Int} {x1 : Nat} (h0 : x0 < (x1 : Int)) (h1 : x2 = x0) (h2 : x2 < 2147483648) : x2 ≤ (x1 : Int) := by omega
theorem zo_1149 {x0 x1 : Int} (h0 : x0 = x1) : (x0 - x1).toNat = 0 := by omega
theorem zo_1150 {x0 : Int} {x1 : Nat} (h0 : 0 ≤ x0) (h1 : x0 < (x1 : Int)) (h2 : x0 < 2147483648) : x0.toNat ≤ x1 := by omega
theorem zo_1151 {x0 : Int} {x1 : Nat} (h0 : x0 < (x1 : Int)) (h1 : x0 < 2147483648) : x0 ≤ (x1 : Int) := by omega
theorem zo_1152 {x0 x2 x3 : Int} {x1 : Nat} (h0 : x0.toNat ≤ x1) (h1 : x2 = (x1 : Int)) (h2 : x3 = x2) : x0 ≤ x3 := by omega
theorem zo_1153 {x2 x3 : Int} {x0 x1 : Nat} (h0 : x0 ≤ x1) (h1 : x2 = (x0 : Int)) (h2 : x3 = x2) (h3 : x3 < 2147483648) : x3 ≤ (x1 : Int) := by omega
theorem zo_1154 {x0 x3 x4 : Int} {x1 x2 : Nat} (h0 : x0.toNat ≤ x1) (h1 : x1 ≤ x2) (h2 : x2 ≤ 700) (h3 : x3 = (x1 : Int)) (h4 : x4 = x3) (h5 : 0 ≤ x0) (h6 : x4 < 2147483648) (h7 : x0 < 2147483648) : (x4 - x0).toNat = x1 - x0.toNat := by omega
theorem zo_1155 {x0 x1 x3 : Int} {x2 : Nat} (h0 : x0 ≤ x1) (h1 : x0 = (x2 : Int)) (h2 : -2147483648 ≤ x0) (h3 : x3 < 2147483648) : -2147483648 ≤ x1 - x3 := by omega
theorem zo_1156 {x0 x1 x2 : Int} (h0 : x0 = x1) (h1 : 0 ≤ x2) (h2 : x1 < 2147483648) : x0 - x2 < 2147483648 := by omega
theorem zo_1157 {x0 x1 x2 x3 x4 x7 : Int} {x5 x6 : Nat} (h0 : x0 = x1) (h1 : x2 = x0) (h2 : x3 ≤ x0) (h3 : 3 < x0 - x4) (h4 : x5 ≤ x6) (h5 : x6 ≤ 700) (h6 : x3 = (x6 : Int)) (h7 : x7 = (x5 : Int)) (h8 : x1 = x7) (h9 : 0 ≤ x4) (h10 : x1 < 2147483648) : x2 = (x5 : Int) := by omega
theorem zo_1158 {x0 x2 x3 : Int} {x1 : Nat} (h0 : x0 = (x1 : Int)) (h1 : x1 ≤ x2.toNat + 3) (h2 : x3 = x0) (h3 : 0 ≤ x2) (h4 : x3 < 2147483648) : x3 - x2 ≤ 6 := by omega
theorem zo_1159 {x0 x1 x2 x3 : Int} (h0 : x0 = x1) (h1 : x1 = x2) (h2 : x2 = x3) : x0 = x3 := by omega
theorem zo_1160 {x0 x1 x2 x3 : Int} {x4 : Nat} (h0 : x0 = x1) (h1 : 3 < x0 - x2) (h2 : x3 = (x4 : Int)) (h3 : x1 = x3) (h4 : 0 ≤ x2) (h5 : x4 ≤ x2.toNat + 3) : False := by omega
theorem zo_1161 {x0 x1 x2 x3 x4 x7 : Int} {x5 x6 : Nat} (h0 : x0 = x1) (h1 : x1 = x2) (h2 : x3 ≤ x1) (h3 : x1 - x4 ≤ 3) (h4 : x4.toNat ≤ x5) (h5 : x5 ≤ x6) (h6 : x3 = (x6 : Int)) (h7 : x7 = (x5 : Int)) (h8 : x2 = x7) : x0 = (x5 : Int) := by omega
theorem zo_1162 {x0 x1 x2 : Int} (h0 : x0 = x1) (h1 : x0 - x2 ≤ 3) (h2 : 0 ≤ x2) (h3 : x1 < 2147483648) : x1 - x2 ≤ 6 := by omega
theorem zo_1163 {x0 x1 x2 : Int} {x3 x4 : Nat} (h0 : x0 ≤ x1) (h1 : x1 - x2 ≤ 3) (h2 : x3 ≤ x4) (h3 : x4 ≤ 700) (h4 : x0 = (x4 : Int)) : x3 ≤ x2.toNat + 3 := by omega
theorem zo_1164 {x0 x1 x2 x4 : Int} {x3 x5 : Nat} (h0 : x0 = x1) (h1 : x2 ≤ x0) (h2 : x2 = (x3 : Int)) (h3 : x4 = (x5 : Int)) (h4 : x1 = x4) (h5 : x5 < x3) : False := by omega
theorem zo_1165 {x0 x1 x2 : Int} {x3 : Nat} (h0 : x0 = x1) (h1 : x2 = (x3 : Int)) (h2 : x1 = x2) (h3 : -2147483648 ≤ x1) : 0 ≤ x0 := by omega
theorem zo_1166 {x0 x1 : Int} {x2 : Nat} (h0 : x0 < x1) (h1 : x2 ≤ 700) (h2 : x1 = (x2 : Int)) (h3 : x1 < 2147483648) : x0 < (700 : Int) := by omega
theorem zo_1167 {x0 x1 x2 x4 : Int} {x3 x5 : Nat} (h0 : x0 = x1) (h1 : x0 < x2) (h2 : x2 = (x3 : Int)) (h3 : x4 = (x5 : Int)) (h4 : x1 = x4) (h5 : -2147483648 ≤ x1) (h6 : x2 < 2147483648) : x0.toNat < x3 := by omega
theorem zo_1168 {x0 x1 x2 x5 : Int} {x3 x4 : Nat} (h0 : x0 = x1) (h1 : x0 < x2) (h2 : x3 ≤ x4) (h3 : x4 ≤ 700) (h4 : x2 = (x4 : Int)) (h5 : x5 = (x3 : Int)) (h6 : x1 = x5) (h7 : -2147483648 ≤ x1) : x0.toNat = x3 := by omega
theorem zo_1169 {x0 x1 x2 x4 : Int} {x3 : Nat} (h0 : x0 = x1) (h1 : x2.toNat ≤ x3) (h2 : x4 = (x3 : Int)) (h3 : x1 = x4) (h4 : -2147483648 ≤ x1) (h5 : x2 < 2147483648) : -2147483648 ≤ x0 - x2 := by omega
theorem zo_1170 {x0 x1 x2 : Int} (h0 : x0 < x1) (h1 : 0 ≤ x2) (h2 : x1 < 2147483648) : x0 - x2 < 2147483648 := by omega
theorem zo_1171 {x0 x1 x2 x3 x4 x7 : Int} {x5 x6 : Nat} (h0 : x0 = x1) (h1 : x1 = x2) (h2 : x1 < x3) (h3 : 3 < x1 - x4) (h4 : x5 ≤ x6) (h5 : x6 ≤ 700) (h6 : x3 = (x6 : Int)) (h7 : x7 = (x5 : Int)) (h8 : x2 = x7) (h9 : 0 ≤ x4) : x0 = (x5 : Int) := by omega
theorem zo_1172 {x0 x1 x2 x3 x5 : Int} {x4 : Nat} (h0 : x0 = x1) (h1 : x1 = x2) (h2 : x1 - x3 ≤ 3) (h3 : x3.toNat ≤ x4) (h4 : x5 = (x4 : Int)) (h5 : x2 = x5) : x0 = (x4 : Int) := by omega
theorem zo_1173 {x0 x1 x2 x5 : Int} {x3 x4 : Nat} (h0 : x0 = x1) (h1 : x0 - x2 ≤ 3) (h2 : x3 ≤ x4) (h3 : x4 ≤ 700) (h4 : x5 = (x3 : Int)) (h5 : x1 = x5) : x3 ≤ x2.toNat + 3 := by omega
theorem zo_1174 {x0 x1 x2 x5 : Int} {x3 x4 : Nat} (h0 : x0 = x1) (h1 : x0 < x2) (h2 : x3 ≤ x4) (h3 : x2 = (x4 : Int)) (h4 : x5 = (x3 : Int)) (h5 : x1 = x5) : x3 < x4 := by omega
theorem zo_1175 {x0 : Int} {x1 : Nat} (h0 : 0 ≤ x0) (h1 : x0 ≤ (x1 : Int)) (h2 : x0 < 2147483648) : x0.toNat ≤ x1 := by omega
theorem zo_1176 {x0 x1 x2 x3 : Int} {x4 : Nat} (h0 : x0 = x1) (h1 : x2 = x0) (h2 : x3 = (x4 : Int)) (h3 : x1 = x3) (h4 : -2147483648 ≤ x1) : 0 ≤ x2 := by omega
theorem zo_1177 {x0 x1 x2 x3 x5 : Int} {x4 x6 : Nat} (h0 : x0 = x1) (h1 : x2 = x0) (h2 : x2 < x3) (h3 : x3 = (x4 : Int)) (h4 : x5 = (x6 : Int)) (h5 : x1 = x5) (h6 : -2147483648 ≤ x1) (h7 : x3 < 2147483648) : x2.toNat < x4 := by omega
theorem zo_1178 {x0 x1 x2 x3 x6 : Int} {x4 x5 : Nat} (h0 : x0 = x1) (h1 : x2 = x0) (h2 : x2 < x3) (h3 : x4 ≤ x5) (h4 : x5 ≤ 700) (h5 : x3 = (x5 : Int)) (h6 : x6 = (x4 : Int)) (h7 : x1 = x6) (h8 : -2147483648 ≤ x1) : x2.toNat = x4 := by omega
theorem zo_1179 {x0 x1 : Int} {x2 : Nat} (h0 : x0 < x1) (h1 : x1 = (x2 : Int)) (h2 : x1 < 2147483648) : x0 < (x2 : Int) := by omega
theorem zo_1180 {x0 x1 x2 x3 x4 : Int} (h0 : x0 = x1) (h1 : x2 = x0) (h2 : x3 = x4) (h3 : x4 = x1) : x3 = x2 := by omega
theorem zo_1181 {x0 x1 x2 x3 x4 x6 : Int} {x5 x7 : Nat} (h0 : x0 = x1) (h1 : x2 = x3) (h2 : x1 = x2) (h3 : x1 < x4) (h4 : x5 ≤ 700) (h5 : x4 = (x5 : Int)) (h6 : x6 = (x7 : Int)) (h7 : x3 = x6) : x0 = (x7 : Int) := by omega
theorem zo_1182 {x0 x1 x2 x3 x6 : Int} {x4 x5 : Nat} (h0 : x0 = x1) (h1 : x2 = x0) (h2 : x2 < x3) (h3 : x4 ≤ x5) (h4 : x3 = (x5 : Int)) (h5 : x6 = (x4 : Int)) (h6 : x1 = x6) : x4 < x5 := by omega
theorem zo_1183 {x0 x1 x2 x3 x4 : Int} (h0 : x0 = x1) (h1 : x2 = x0) (h2 : x3 = x4) (h3 : x1 = x3) (h4 : -2147483648 ≤ x4) : -2147483648 ≤ x2 + 1 := by omega
theorem zo_1184 {x0 x1 x2 x3 : Int} (h0 : x0 = x1) (h1 : x2 = x0) (h2 : x1 < x3) (h3 : x3 < 2147483648) : x2 + 1 < 2147483648 := by omega
theorem zo_1185 {x0 x1 x2 x3 x4 x5 x6 x9 x10 : Int} {x7 x8 : Nat} (h0 : x0 = x1) (h1 : x2 = x0) (h2 : x3 = x2) (h3 : x4 = x5) (h4 : x1 = x4) (h5 : x1 < x6) (h6 : x7 ≤ x8) (h7 : x8 ≤ 700) (h8 : x6 = (x8 : Int)) (h9 : x9 = (x7 : Int)) (h10 : x10 = x2 + 1) (h11 : x5 = x9) (h12 : -2147483648 ≤ x10) : x3 = (x7 : Int) := by omega
theorem zo_1186 {x0 x1 x2 x3 x4 x5 x8 x9 : Int} {x6 x7 : Nat} (h0 : x0 = x1) (h1 : x2 = x0) (h2 : x3 = x4) (h3 : x1 = x3) (h4 : x1 < x5) (h5 : x6 ≤ x7) (h6 : x7 ≤ 700) (h7 : x5 = (x7 : Int)) (h8 : x8 = (x6 : Int)) (h9 : x9 = x2 + 1) (h10 : x4 = x8) (h11 : -2147483648 ≤ x9) : x9 = (x6 : Int) + 1 := by omega
theorem zo_1187 {x0 x1 x2 x3 x4 : Int} (h0 : x0 = x1) (h1 : x2 = x0) (h2 : x3 = x4) (h3 : x1 = x3) : x2 = x4 := by omega
theorem zo_1188 {x0 x1 : Int} (h0 : x0 = x1) (h1 : x1 = 3) : x0 = 3 := by omega
theorem zo_1189 {x0 x1 : Int} (h0 : x0 = x1) (h1 : x1 = 4) (h2 : x1 = 3) : x0 = 4 := by omega
theorem zo_1190 {x0 x1 : Int} (h0 : x0 = x1) (h1 : x1 = 3) (h2 : x1 = 4) : x0 = 3 := by omega
theorem zo_1191 {x0 x1 x2 x3 x4 x7 : Int} {x5 x6 : Nat} (h0 : x0 = x1) (h1 : x2 = x3) (h2 : x1 = x2) (h3 : x4 ≤ x1) (h4 : x5 ≤ x6) (h5 : x4 = (x6 : Int)) (h6 : x7 = (x5 : Int)) (h7 : x3 = x7) (h8 : x3 < 2147483648) : x0 = (x5 : Int) := by omega
theorem zo_1192 {x0 x1 x2 x3 x6 : Int} {x4 x5 : Nat} (h0 : x0 = x1) (h1 : x2 = x0) (h2 : x3 ≤ x2) (h3 : x4 ≤ x5) (h4 : x5 ≤ 700) (h5 : x3 = (x5 : Int)) (h6 : x6 = (x4 : Int)) (h7 : x1 = x6) : x5 = x4 := by omega
theorem zo_1193 {x0 x1 x2 x5 x6 : Int} {x3 x4 : Nat} (h0 : x0 = x1) (h1 : x1 = x2) (h2 : x3 ≤ x4) (h3 : x4 ≤ 700) (h4 : x5 = (x3 : Int)) (h5 : x6 = x5) (h6 : x2 = x6) (h7 : -2147483648 ≤ x2) (h8 : x2 < 2147483648) : x0 = (x3 : Int) := by omega
theorem zo_1194 {x0 : Int} {x1 : Nat} (h0 : x0 = 0) : x0 ≤ (x1 : Int) := by omega
theorem zo_1195 {x0 : Int} (h0 : 0 ≤ x0) : -2147483648 ≤ 21 + x0 - 1 := by omega
theorem zo_1196 {x0 : Int} (h0 : x0 ≤ 18) : 21 + x0 - 1 < 2147483648 := by omega
theorem zo_1197 {x0 : Int} : 21 + x0 - 1 = 20 + x0 := by omega
theorem zo_1198 {x0 : Int} (h0 : x0 ≤ 17) : x0 ≤ 18 := by omega
theorem zo_1199 {x0 x1 : Int} (h0 : 18 ≤ x0) (h1 : x1 = 20 + x0) (h2 : x0 ≤ 17) : x1 = 21 + x0 := by omega
theorem zo_1200 {x0 : Int} (h0 : x0 ≤ 17) : x0 + 1 < 2147483648 := by omega
theorem zo_1201 {x0 x1 : Int} (h0 : x0 = x1 + 1) (h1 : x1 ≤ 17) (h2 : x0 < 2147483648) : x0 ≤ 18 := by omega
theorem zo_1202 {x0 x1 x2 : Int} (h0 : x0 = 20 + x1) (h1 : -2147483648 ≤ x0) (h2 : x0 < 2147483648) (h3 : x1 = x2 + 1) (h4 : 0 ≤ x2) (h5 : x2 ≤ 17) : x0 = 21 + x2 := by omega
theorem zo_1203 {x0 : Int} (h0 : 24 ≤ x0) (h1 : x0 ≤ 23) : False := by omega
theorem zo_1204 {x0 : Int} (h0 : x0 ≤ 23) : x0 < (24 : Int) := by omega
theorem zo_1205 {x0 x1 : Int} (h0 : x0 = x1) (h1 : 0 ≤ x1) : -2147483648 ≤ x0 + 1 := by omega
theorem zo_1206 {x0 x1 : Int} (h0 : x0 = x1) (h1 : x1 ≤ 23) : x0 + 1 < 2147483648 := by omega
theorem zo_1207 {x0 x1 x2 : Int} (h0 : x0 = x1) (h1 : x2 = x0 + 1) (h2 : 0 ≤ x1) (h3 : x1 ≤ 23) (h4 : -2147483648 ≤ x2) (h5 : x2 < 2147483648) : x2 = x1 + 1 := by omega
theorem zo_1208 {x0 : Int} (h0 : x0 ≤ 24) : x0 - 1 < (24 : Int) := by omega
theorem zo_1209 {x0 : Int} {x1 x2 : Nat} (h0 : x0 = (x1 : Int)) (h1 : x1 ≤ 3 * x2 + 2) (h2 : x2 ≤ 6) (h3 : x0 ≤ 24) : x0 ≤ 23 := by omega
theorem zo_1210 {x0 x1 : Int} {x2 : Nat} (h0 : x0 = x1) (h1 : x2 ≤ 6) (h2 : x1 = (x2 : Int)) (h3 : x1 < 2147483648) : x0 + 1 < 2147483648 := by omega
theorem zo_1211 {x0 x1 x2 : Int} (h0 : x0 = x1) (h1 : x2 = x0) (h2 : -2147483648 ≤ x1) : -2147483648 ≤ x2 + 0 := by omega
theorem zo_1212 {x0 x1 x2 : Int} (h0 : x0 = x1) (h1 : x2 = x0) (h2 : x1 < 2147483648) : x2 + 0 < 2147483648 := by omega
theorem zo_1213 {x0 x1 x2 x3 : Int} {x4 : Nat} (h0 : x0 = x1) (h1 : x2 = x3) (h2 : x3 = x0 + 1) (h3 : x1 = (x4 : Int)) (h4 : x3 < 2147483648) : x2 = x1 + 1 := by omega
theorem zo_1214 {x0 x1 x2 x3 : Int} {x4 : Nat} (h0 : x0 = x1) (h1 : x2 = x0) (h2 : x3 = x2 + 0) (h3 : x1 = (x4 : Int)) (h4 : x3 < 2147483648) : x3 = x1 + 0 := by omega
theorem zo_1215 {x0 x1 x2 : Int} {x3 x4 : Nat} (h0 : x0 = x1) (h1 : x2 = x0) (h2 : x3 ≤ x4) (h3 : x4 ≤ 6) (h4 : x1 = (x3 : Int)) (h5 : x1 < 2147483648) : x2 + 1 < 2147483648 := by omega
theorem zo_1216 {x0 x1 x2 x3 : Int} (h0 : x0 = x1) (h1 : x1 = x2) (h2 : x2 = x3 + 1) : x0 = x3 + 1 := by omega
theorem zo_1217 {x0 x1 x2 x3 : Int} {x4 : Nat} (h0 : x0 = x1) (h1 : x2 = x3) (h2 : x1 = x2 + 1) (h3 : x3 = (x4 : Int)) (h4 : x1 < 2147483648) : x0 = x3 + 1 := by omega
theorem zo_1218 {x0 x1 x2 x3 : Int} {x4 : Nat} (h0 : x0 = x1) (h1 : x2 = x0) (h2 : x3 = x2 + 1) (h3 : x1 = (x4 : Int)) (h4 : x3 < 2147483648) : x3 = x1 + 1 := by omega
theorem zo_1219 {x0 : Int} {x1 : Nat} (h0 : x0 = (x1 : Int) + 0) (h1 : -2147483648 ≤ x0) : 0 ≤ x0 := by omega
theorem zo_1220 {x3 : Int} {x0 x1 x2 : Nat} (h0 : x0 ≤ 3 * x1 + 2) (h1 : x2 + x1 = x0) (h2 : x0 ≤ 23) (h3 : x3 = (x2 : Int) + 0) : x3 ≤ 17 := by omega
theorem zo_1221 {x0 : Int} (h0 : x0 ≤ 999) : x0 < 9223372036854775808 := by omega
theorem zo_1222 {x0 x1 : Int} {x2 : Nat} (h0 : x0 = 21 + x1) (h1 : -2147483648 ≤ x0) (h2 : x1 = (x2 : Int) + 0) : 0 ≤ x0 := by omega
theorem zo_1223 {x3 x4 : Int} {x0 x1 x2 : Nat} (h0 : x0 ≤ 3 * x1 + 2) (h1 : x2 + x1 = x0) (h2 : x0 ≤ 23) (h3 : x3 = 21 + x4) (h4 : x4 = (x2 : Int) + 0) : x3 ≤ 39 := by omega
theorem zo_1224 {x0 : Int} {x1 : Nat} (h0 : x0 = (x1 : Int) + 0) (h1 : -2147483648 ≤ x0) : 0 ≤ 21 + x0 := by omega
theorem zo_1225 {x0 x1 : Int} (h0 : x0 < 21 + x1) : 21 + x1 ≠ x0 := by omega
theorem zo_1226 {x0 : Int} {x1 : Nat} (h0 : x0 = (x1 : Int) + 0) (h1 : -2147483648 ≤ x0) : 21 ≤ 21 + x0 := by omega
theorem zo_1227 {x0 : Int} (h0 : 0 ≤ x0) : -2147483648 ≤ 1 + x0 := by omega
theorem zo_1228 {x0 : Int} (h0 : x0 ≤ 7) : 1 + x0 < 2147483648 := by omega
theorem zo_1229 {x0 : Int} (h0 : 0 ≤ x0) : 0 ≤ 1 + x0 := by omega
theorem zo_1230 {x0 : Int} (h0 : x0 ≤ 7) : 1 + x0 ≤ 39 := by omega
theorem zo_1231 {x0 x1 : Int} (h0 : x0 = x1) (h1 : x1 ≤ 18) : x0 ≤ 18 := by omega
theorem zo_1232 {x0 x1 x2 : Int} (h0 : x0 = x1) (h1 : x2 = 20 + x0) (h2 : -2147483648 ≤ x2) (h3 : 1 ≤ x1) : 0 ≤ x2 := by omega
theorem zo_1233 {x0 x1 x2 : Int} (h0 : x0 = x1) (h1 : x2 = 20 + x0) (h2 : x2 < 2147483648) (h3 : x1 ≤ 18) : x2 ≤ 39 := by omega
theorem zo_1234 {x0 : Int} (h0 : x0 = 1) (h1 : x0 = 0) : False := by omega
theorem zo_1235 {x0 : Int} {x1 : Nat} (h0 : x0 = (x1 : Int) + 1) (h1 : -2147483648 ≤ x0) : 21 ≤ 20 + x0 := by omega
theorem zo_1236 {x0 : Int} {x1 : Nat} (h0 : x0 = (x1 : Int) + 1) (h1 : -2147483648 ≤ x0) : 0 ≤ x0 := by omega
theorem zo_1237 {x0 : Int} (h0 : -2147483648 ≤ x0) : -2147483648 ≤ 20 + x0 := by omega
theorem zo_1238 {x0 : Int} {x1 : Nat} (h0 : x0 = (x1 : Int) + 1) (h1 : -2147483648 ≤ x0) : 0 ≤ 20 + x0 := by omega
theorem zo_1239 {x3 : Int} {x0 x1 x2 : Nat} (h0 : x0 ≤ 3 * x1 + 2) (h1 : x2 + x1 = x0) (h2 : x0 ≤ 23) (h3 : x3 = (x2 : Int) + 1) : 20 + x3 ≤ 38 := by omega
theorem zo_1240 {x0 x1 : Int} (h0 : x0 ≤ x1) (h1 : 0 ≤ x1) (h2 : x1 ≤ x0) (h3 : x0 ≤ 9) : x1.toNat = x0.toNat := by omega
theorem zo_1241 {x0 x1 : Int} (h0 : x0 < x1) (h1 : 9 ≤ x0) (h2 : x1 ≤ 9) : x0.toNat = x1.toNat := by omega
theorem zo_1242 {x0 x1 x2 x3 x4 : Int} {x5 : Nat} (h0 : x0 = x1) (h1 : x2 = x0) (h2 : x3 = x4) (h3 : x1 = x3) (h4 : x4 = (x5 : Int) + 1) (h5 : -2147483648 ≤ x4) : 1 ≤ x2 := by omega
theorem zo_1243 {x0 x1 x2 x3 x4 : Int} {x5 x6 x7 : Nat} (h0 : x0 = x1) (h1 : x2 = x0) (h2 : x3 = x4) (h3 : x1 = x3) (h4 : x5 ≤ 3 * x6 + 2) (h5 : x7 + x6 = x5) (h6 : x5 ≤ 23) (h7 : x4 = (x7 : Int) + 1) : x2 ≤ 18 := by omega
theorem zo_1244 {x0 : Int} (h0 : x0 < 9) : x0 + 1 < 2147483648 := by omega
theorem zo_1245 {x0 x1 : Int} (h0 : x0 = x1) (h1 : x1 = 30) : -2147483648 ≤ x0 + 1 := by omega
theorem zo_1246 {x0 x1 : Int} (h0 : x0 = x1) (h1 : x1 ≤ 30) : x0 + 1 < 2147483648 := by omega
theorem zo_1247 {x0 x1 x2 : Int} (h0 : x0 = x1) (h1 : x1 = 30) (h2 : x2 = x0 + 1) (h3 : x1 ≤ 30) (h4 : -2147483648 ≤ x2) (h5 : x2 < 2147483648) : x2 = x1 + 1 := by omega
theorem zo_1248 {x0 : Int} (h0 : x0 = 30) (h1 : x0.toNat < 30) : False := by omega
theorem zo_1249 {x0 : Int} (h0 : 0 ≤ x0) (h1 : x0 ≤ 30) (h2 : x0 ≠ 30) : x0.toNat < 30 := by omega
theorem zo_1250 {x0 : Int} {x1 : Nat} (h0 : x0 ≤ 6) (h1 : x0 = (x1 : Int)) : x1 ≤ 6 := by omega
theorem zo_1251 {x0 x1 x2 : Int} (h0 : x0 = x1) (h1 : x2 = x0 + 1) (h2 : 0 ≤ x1) (h3 : x1 ≤ 30) (h4 : -2147483648 ≤ x2) (h5 : x2 < 2147483648) : x2 = x1 + 1 := by omega
theorem zo_1252 {x0 : Int} {x1 : Nat} (h0 : 6 < x0) (h1 : x0 = (x1 : Int)) (h2 : x1 ≤ 6) : False := by omega
theorem zo_1253 {x0 x1 : Int} (h0 : x0 = x1) (h1 : 0 ≤ x1) (h2 : x1 ≠ 0) : 1 ≤ x0 := by omega
theorem zo_1254 {x0 x1 : Int} (h0 : x0 < x1) (h1 : x1 ≤ 8) : x0 < (8 : Int) := by omega
theorem zo_1255 {x0 x1 : Int} (h0 : x0 < x1) (h1 : x1 ≤ 8) : x0 + 1 < 2147483648 := by omega
theorem zo_1256 {x0 x1 : Int} (h0 : x0 < x1) (h1 : x1 ≤ 8) : x0 ≤ 7 := by omega
theorem zo_1257 {x1 x2 : Int} {x0 : Nat} (h0 : (x0 : Int) < x1) (h1 : x1 ≤ x2) : (x0 : Int) < x2 := by omega
theorem zo_1258 {x0 : Int} (h0 : x0.toNat = 0) (h1 : 0 ≤ x0) (h2 : x0 ≠ 0) : False := by omega
theorem zo_1259 {x0 x1 : Int} {x2 : Nat} (h0 : x0 < x1) (h1 : x1 = (x2 : Int)) (h2 : x2 ≤ 23) (h3 : x1 < 2147483648) : x0 < (80 : Int) := by omega
theorem zo_1260 {x0 : Int} {x1 : Nat} (h0 : x0 < 2147483648) (h1 : (x1 : Int) = x0) (h2 : 0 ≤ x0) : x0.toNat = x1 := by omega
theorem zo_1261 {x1 : Int} {x0 x2 : Nat} (h0 : (x0 : Int) < x1 + 1) (h1 : (x2 : Int) = x1) (h2 : ¬ (x0 = x2)) : (x0 : Int) < x1 := by omega
theorem zo_1262 {x0 x1 : Int} {x2 : Nat} (h0 : x0 < x1) (h1 : x1 = (x2 : Int)) (h2 : x2 ≤ 23) (h3 : x1 < 2147483648) : x0 + 1 < 2147483648 := by omega
theorem zo_1263 {x0 x1 : Int} {x2 : Nat} (h0 : x0 < x1) (h1 : (x2 : Int) = x0) : (x2 : Int) < x1 := by omega
theorem zo_1264 {x0 x1 : Int} (h0 : x0 = 0) (h1 : x0 = x1) : x1.toNat = 0 := by omega
theorem zo_1265 {x0 : Int} (h0 : 0 < x0) : 0 ≤ x0 - 1 := by omega
theorem zo_1266 {x0 : Int} {x1 : Nat} (h0 : x0 = (x1 : Int)) (h1 : x1 ≤ 23) (h2 : x0 < 2147483648) : x0 - 1 < (80 : Int) := by omega
theorem zo_1267 {x0 x1 x2 : Int} (h0 : x0 ≤ x1) (h1 : -2147483648 ≤ x1) (h2 : x1 = x2) (h3 : 2 ≤ x0) : 2 ≤ x2 := by omega
theorem zo_1268 {x0 x1 : Int} (h0 : x0 = x1) (h1 : 2 ≤ x1) : 2 ≤ x0 := by omega
theorem zo_1269 {x0 x1 : Int} (h0 : x0 = x1) (h1 : x1 ≤ 40) : x0 ≤ 40 := by omega
theorem zo_1270 {x0 x1 x2 x3 : Int} (h0 : x0 ≤ x1) (h1 : x1 = x2) (h2 : 0 ≤ x3) (h3 : x3 ≤ 4) (h4 : x3 = x2) (h5 : 2 ≤ x0) (h6 : x3 ≠ 4) (h7 : x3 ≠ 2) : x3 = 2 ∧ -1 = 1 ∨ x3 = 3 ∧ -1 = -1 := by omega
theorem zo_1271 {x0 x1 x2 : Int} (h0 : x0 = x1) (h1 : 0 < x2) (h2 : x1 = x2 - 1) (h3 : x1 < 2147483648) : x0 = x2 - 1 := by omega
theorem zo_1272 {x0 x1 x2 : Int} (h0 : x0 = x1) (h1 : x2 = x0 - 1) (h2 : 2 ≤ x1) (h3 : x1 ≤ 40) (h4 : -2147483648 ≤ x2) (h5 : x2 < 2147483648) : x2 = x1 - 1 := by omega
theorem zo_1273 {x0 x1 x2 x3 : Int} (h0 : x0 ≤ x1) (h1 : x1 = x2) (h2 : x3 = x2) (h3 : 2 ≤ x0) (h4 : x0 ≤ 4) : x0.toNat ≤ x3.toNat := by omega
theorem zo_1274 {x0 x1 x2 : Int} {x3 : Nat} (h0 : x0 = x1) (h1 : 0 < x2) (h2 : x2.toNat < x3 + 1) (h3 : x1 = x2 - 1) (h4 : x1 < 2147483648) : x0.toNat < x3 := by omega
theorem zo_1275 {x0 x1 x2 x3 : Int} (h0 : x0 ≤ x1) (h1 : x2 = 2) (h2 : x1 = x3) (h3 : x2 = x3) (h4 : 2 ≤ x0) (h5 : x0 ≤ 4) : x0.toNat ≤ x2.toNat := by omega
theorem zo_1276 {x0 x1 : Int} (h0 : x0 = 4) (h1 : 2 ≤ x1) (h2 : x1 ≤ 4) : x1.toNat ≤ x0.toNat := by omega
theorem zo_1277 {x0 : Int} (h0 : x0 ≠ 4) : ¬ (x0 = 4) := by omega
theorem zo_1278 {x0 : Int} {x1 : Nat} (h0 : x0 = (x1 : Int)) (h1 : x1 ≤ 23) (h2 : x0 < 2147483648) : x0 < (80 : Int) := by omega
theorem zo_1279 {x0 x1 : Int} {x2 : Nat} (h0 : x0 = x1) (h1 : x1 = (x2 : Int)) (h2 : x2 ≤ 23) (h3 : x1 < 2147483648) : x0 + 1 < 2147483648 := by omega
theorem zo_1280 {x0 : Int} (h0 : 2 ≤ x0) : 0 ≤ x0 := by omega
theorem zo_1281 {x0 : Int} (h0 : 2 ≤ x0) : ¬ (x0 ≤ 1) := by omega
theorem zo_1282 {x0 x1 x2 : Int} (h0 : x0 = x1) (h1 : 0 ≤ x1) (h2 : x2 = x0 + 1) (h3 : x2 < 2147483648) : x2 = x1 + 1 := by omega
theorem zo_1283 {x0 x1 x2 : Int} (h0 : x0 = x1) (h1 : x1 = x2) : x0 = x2 + 0 := by omega
theorem zo_1284 {x0 x1 x2 x3 : Int} (h0 : x0 = x1) (h1 : x2 = x3) (h2 : x1 = x2) (h3 : 0 ≤ x0) (h4 : x3 < 2147483648) : x0 = x3 := by omega
theorem zo_1285 {x0 x1 x2 : Int} (h0 : x0 = x1) (h1 : x2 = x0) : x2 = x1 + 0 := by omega
theorem zo_1286 {x0 : Int} (h0 : x0 ≤ 40) : x0 ≤ 40 := by omega
theorem zo_1287 {x0 x1 : Int} (h0 : x0 ≤ 9) (h1 : x1 = x0) (h2 : x1 < 2147483648) : x1 ≤ 9 := by omega
theorem zo_1288 {x0 x1 x2 : Int} (h0 : x0 = x1) (h1 : x2 = x0) (h2 : x1 = 0) (h3 : 1 ≤ x2) : False := by omega
theorem zo_1289 {x0 x1 : Int} (h0 : x0 = x1) (h1 : 0 < x1) : -2147483648 ≤ x0 - 1 := by omega
theorem zo_1290 {x0 x1 x2 x3 : Int} (h0 : x0 = x1) (h1 : x2 = x3) (h2 : 0 < x1) (h3 : x3 = x0 - 1) (h4 : x3 < 2147483648) : x2 = x1 - 1 := by omega
theorem zo_1291 {x0 x1 x2 x4 : Int} {x3 : Nat} (h0 : x0 = x1) (h1 : x2 = x0) (h2 : x1 = (x3 : Int)) (h3 : x4 = x2 - 1) (h4 : x4 < 2147483648) : x4 = x1 - 1 := by omega
theorem zo_1292 {x0 x1 x2 x3 x4 : Int} (h0 : x0 = x1) (h1 : x2 = x0) (h2 : x3 = x2) (h3 : x1 = x4) : x3 = x4 := by omega
theorem zo_1293 {x0 x1 x2 x3 x4 : Int} (h0 : x0 = x1) (h1 : x2 = x0) (h2 : x3 = x2) (h3 : x4 ≤ x1) : x4 ≤ x3 := by omega
theorem zo_1294 {x0 x1 x2 x3 : Int} {x4 : Nat} (h0 : x0 = x1) (h1 : x2 = x3) (h2 : 0 < x1) (h3 : x1.toNat < x4 + 1) (h4 : x3 = x0 - 1) (h5 : x3 < 2147483648) : x2.toNat < x4 := by omega
theorem zo_1295 {x0 x1 : Int} (h0 : x0 = x1) (h1 : 1 ≤ x0) (h2 : x1 = 0) : False := by omega
theorem zo_1296 {x0 x1 x2 x3 x4 : Int} (h0 : x0 = x1) (h1 : x2 = x0) (h2 : x3 = x2) (h3 : x4 = x3) : x1 ≤ x4 := by omega
theorem zo_1297 {x0 x1 : Int} (h0 : 0 ≤ x0) (h1 : x1 = x0 + 1) (h2 : x0 ≤ 7) : 0 ≤ x1 ∧ x1 ≤ 8 := by omega
theorem zo_1298 {x0 x1 : Int} (h0 : 0 ≤ x0) (h1 : x1 = x0 + 1) (h2 : x0 ≤ 7) : x1.toNat = x0.toNat + 1 := by omega
theorem zo_1299 {x0 : Int} {x1 : Nat} (h0 : 0 ≤ x0) (h1 : x1 < 0 + x0.toNat) : ¬ ((x1 : Int) = x0) := by omega
theorem zo_1300 {x0 : Int} {x1 : Nat} (h0 : 0 ≤ x0) (h1 : x1 < 0 + x0.toNat) : (x1 : Int) < x0 := by omega
theorem zo_1301 {x0 : Int} (h0 : 0 ≤ x0) : (0 + x0.toNat : Int) = x0 := by omega
theorem zo_1302 {x0 : Int} {x1 : Nat} (h0 : 0 ≤ x0) (h1 : (x1 : Int) = x0) (h2 : x0 ≤ 7) : x1 = x0.toNat := by omega
theorem zo_1303 {x0 x1 : Int} {x2 : Nat} (h0 : x0 = x1 + 1) (h1 : (x2 : Int) < x0) (h2 : ¬ ((x2 : Int) = x1)) : (x2 : Int) < x1 := by omega
theorem zo_1304 {x0 : Int} {x1 : Nat} (h0 : x0 = (x1 : Int) + 1) (h1 : x1 = 0) : x0 = 1 := by omega
theorem zo_1305 {x0 : Int} (h0 : x0 = 1) : 64 * (x0 - 1) = 0 := by omega
theorem zo_1306 {x0 : Int} (h0 : 64 * (x0 - 1) = 0) : 0 < x0 := by omega
theorem zo_1307 {x0 : Int} (h0 : 64 * (x0 - 1) = 0) : 1 ≤ x0 := by omega
theorem zo_1308 {x0 : Int} (h0 : 64 * (x0 - 1) = 0) : (x0 - 1).toNat = 0 := by omega
theorem zo_1309 {x1 : Int} {x0 : Nat} (h0 : x0 ≤ 6) (h1 : 0 ≤ x1) (h2 : x1 ≤ 999) (h3 : x1 < (x0 : Int)) : x1.toNat < 6 := by omega
theorem zo_1310 {x1 : Int} {x0 : Nat} (h0 : x0 ≤ 6) (h1 : 0 ≤ x1) (h2 : x1 < (x0 : Int)) : x1.toNat < 6 := by omega
theorem zo_1311 {x1 : Int} {x0 : Nat} (h0 : (x0 : Int) = x1) : (x0 + 1 : Int) = x1 + 1 := by omega
theorem zo_1312 {x1 : Int} {x0 : Nat} (h0 : x0 ≤ 6) (h1 : x1 < (x0 : Int)) : x1 < 6 := by omega
theorem zo_1313 {x1 x2 : Int} {x0 : Nat} (h0 : (x0 : Int) = x1) (h1 : (x0 : Int) < x1 + 1) (h2 : 0 ≤ x1) (h3 : 0 ≤ x2) : 6 * x2.toNat + x0 = (6 * x2 + x1 : Int).toNat := by omega
theorem zo_1314 {x1 : Int} {x0 : Nat} (h0 : x0 ≤ 6) (h1 : x1 < (x0 : Int)) : x1 < 2147483648 := by omega
theorem zo_1315 {x1 : Int} {x0 x2 : Nat} (h0 : (x0 : Int) = x1) (h1 : (x2 : Int) = x1) (h2 : (x2 : Int) < x1 + 1) : x2 = x0 := by omega
theorem zo_1316 {x0 x1 : Int} {x2 : Nat} (h0 : 0 ≤ x0) (h1 : 0 ≤ x1) (h2 : ¬ ((x2 : Int) = x0)) : 6 * x1.toNat + x2 ≠ (6 * x1 + x0 : Int).toNat := by omega
theorem zo_1317 {x1 : Int} {x0 x2 : Nat} (h0 : (x0 : Int) = x1) (h1 : (x2 : Int) < x1 + 1) (h2 : ¬ ((x2 : Int) = x1)) : x2 < x0 := by omega
theorem zo_1318 {x1 : Int} {x0 x2 : Nat} (h0 : (x0 : Int) = x1) (h1 : x1 = (x2 : Int)) : x0 = x2 := by omega
theorem zo_1319 {x2 : Int} {x0 x1 : Nat} (h0 : x0 < x1) (h1 : x2 = (x1 : Int)) : (x0 : Int) < x2 := by omega
theorem zo_1320 {x0 : Int} {x1 x2 : Nat} (h0 : 0 ≤ x0) (h1 : x1 < x0.toNat) (h2 : x2 < 6) : (6 * x1 + x2 : Int) < 6 * x0 := by omega
theorem zo_1321 {x2 : Int} {x0 x1 : Nat} (h0 : x0 < x1) (h1 : x2 = (x1 : Int)) (h2 : x0 < 6) : (x0 : Int) < x2 := by omega
theorem zo_1322 {x2 : Int} {x0 x1 : Nat} (h0 : ¬ (x0 < x1)) (h1 : x1 ≤ 6) (h2 : x2 = (x1 : Int)) : ¬ ((x0 : Int) < x2) := by omega
theorem zo_1323 {x0 x1 x2 x3 x4 x5 : Int} (h0 : x0 = x1) (h1 : x2 = x0) (h2 : x3 = x2) (h3 : x4 = x3) (h4 : x1 = x5) (h5 : 0 ≤ x5) : 0 ≤ x4 := by omega
theorem zo_1324 {x0 x1 x2 x3 x4 x5 : Int} (h0 : x0 = x1) (h1 : x2 = x0) (h2 : x3 = x2) (h3 : x4 = x3) (h4 : x1 = x5) (h5 : x5 ≤ 8) : x4 ≤ 8 := by omega
theorem zo_1325 {x1 : Int} {x0 : Nat} (h0 : (x0 : Int) = x1) (h1 : x1 ≤ 8) (h2 : x1 ≠ 8) : x0 < 8 := by omega
theorem zo_1326 {x0 x1 x2 x3 x4 x5 : Int} (h0 : x0 = x1) (h1 : x2 = x0) (h2 : x3 = x2) (h3 : x1 = x4) (h4 : x5 = x3) (h5 : 0 ≤ x4) : 0 ≤ x5 := by omega
theorem zo_1327 {x0 x1 x2 x3 x4 x5 : Int} (h0 : x0 = x1) (h1 : x2 = x0) (h2 : x3 = x2) (h3 : x1 = x4) (h4 : x5 = x3) (h5 : x4 ≤ 8) : x5 ≤ 8 := by omega
theorem zo_1328 {x0 : Int} (h0 : x0 = 0) (h1 : 0 < x0) : False := by omega
theorem zo_1329 {x0 : Int} (h0 : x0 ≤ 0) (h1 : 1 ≤ x0) : False := by omega
theorem zo_1330 {x0 x1 x2 : Int} (h0 : x0 = x1) (h1 : 0 ≤ x2) (h2 : x2 < x1) : 0 ≤ x0 := by omega
theorem zo_1331 {x0 x1 x2 : Int} (h0 : x0 = x1) (h1 : x2 = x0) (h2 : x1 ≤ 8) : x2 ≤ 8 := by omega
theorem zo_1332 {x0 : Int} {x1 : Nat} (h0 : x0 = 8) (h1 : (x1 : Int) = x0) (h2 : x1 < 8) : False := by omega
theorem zo_1333 {x0 x1 : Int} (h0 : x0 = x1) (h1 : x1 = 8) : 0 ≤ x0 := by omega
theorem zo_1334 {x0 x1 x2 x3 : Int} (h0 : x0 = x1) (h1 : x2 = x0) (h2 : x1 = x3) (h3 : 0 ≤ x3) : 0 ≤ x2 := by omega
theorem zo_1335 {x0 x1 x2 x3 : Int} (h0 : x0 = x1) (h1 : x2 = x0) (h2 : x1 = x3) (h3 : x3 ≤ 4) : x2 ≤ 4 := by omega
theorem zo_1336 {x0 x1 : Int} (h0 : x0 ≤ x1) (h1 : x1 ≤ x0) (h2 : 1 ≤ x0) : x1 = (x0.toNat : Int) := by omega
theorem zo_1337 {x0 x1 x2 x3 : Int} (h0 : x0 = x1) (h1 : x2 = x0) (h2 : x1 = x3) (h3 : 0 ≤ x3) : -2147483648 ≤ x2 + 1 := by omega
theorem zo_1338 {x0 x1 x2 x3 : Int} (h0 : x0 = x1) (h1 : x2 = x0) (h2 : x1 = x3) (h3 : x3 ≤ 4) : x2 + 1 < 2147483648 := by omega
theorem zo_1339 {x0 : Int} (h0 : 1 ≤ x0) : x0 = (x0.toNat : Int) := by omega
theorem zo_1340 {x0 : Int} (h0 : 1 ≤ x0) (h1 : x0 ≤ 6) : x0.toNat ≤ 6 := by omega
theorem zo_1341 {x0 x1 x2 x3 x4 : Int} (h0 : x0 = x1) (h1 : x2 = x0) (h2 : x1 = x3) (h3 : x3 ≤ 3) (h4 : x4 = x2 + 1) (h5 : 0 ≤ x3) (h6 : -2147483648 ≤ x4) (h7 : x4 < 2147483648) : x4 = x3 + 1 := by omega
theorem zo_1342 {x0 x1 x2 x3 : Int} (h0 : x0 = x1) (h1 : x2 = x0) (h2 : 1 ≤ x3) (h3 : x1 = x3) : 1 ≤ x2 := by omega
theorem zo_1343 {x0 x1 x2 x3 : Int} (h0 : x0 = x1) (h1 : x2 = x0) (h2 : x3 ≤ 6) (h3 : x1 = x3) : x2 ≤ 6 := by omega
theorem zo_1344 {x0 x1 x2 x3 x4 : Int} (h0 : x0 = x1) (h1 : x2 = x0) (h2 : x1 = x3) (h3 : x4 = x2 + 1) (h4 : 0 ≤ x3) (h5 : -2147483648 ≤ x4) : 0 ≤ x4 := by omega
theorem zo_1345 {x0 x1 x2 x3 x4 : Int} (h0 : x0 = x1) (h1 : x2 = x0) (h2 : x1 = x3) (h3 : x3 ≤ 3) (h4 : x4 = x2 + 1) (h5 : x4 < 2147483648) : x4 ≤ 4 := by omega
theorem zo_1346 {x0 : Int} {x1 : Nat} (h0 : x0 ≤ 3) (h1 : x1 = x0.toNat) (h2 : 0 ≤ x0) (h3 : x0 ≤ 4) : x1 < 4 := by omega
theorem zo_1347 {x0 x1 : Int} (h0 : x0 < x1) : x0 < (x1.toNat : Int) := by omega
theorem zo_1348 {x0 x1 x2 : Int} (h0 : x0 = x1) (h1 : x2 ≤ x0) (h2 : 1 ≤ x2) (h3 : x1 < (x2.toNat : Int)) : False := by omega
theorem zo_1349 {x0 x1 x2 x3 : Int} (h0 : x0 = x1) (h1 : x1 = x2) (h2 : x3 = x0) (h3 : 0 ≤ x2) : 0 ≤ x3 := by omega
theorem zo_1350 {x0 x1 x2 x3 : Int} (h0 : x0 = x1) (h1 : x1 = x2) (h2 : x3 = x0) (h3 : x2 ≤ 4) : x3 ≤ 4 := by omega
theorem zo_1351 {x0 x1 : Int} (h0 : x0 < x1) (h1 : x1 ≤ 6) (h2 : x0 < 2147483648) : x0 < 32 := by omega
theorem zo_1352 {x0 x1 x2 x3 : Int} (h0 : x0 = x1) (h1 : x1 = x2) : 6 * x0 + x3 = 6 * x2 + x3 := by omega
theorem zo_1353 {x0 x1 x2 : Int} (h0 : x0 < x1) (h1 : x2 ≤ 3) (h2 : x1 ≤ 6) : 6 * x2 + x0 < (24 : Int) := by omega
theorem zo_1354 {x0 x1 : Int} (h0 : x0 < x1) (h1 : x0 ≤ 999) (h2 : x1 ≤ 6) : x0 ≤ 5 := by omega
theorem zo_1355 {x0 x1 : Int} (h0 : 0 ≤ x0) : 6 * x1 ≤ 6 * x1 + x0 := by omega
theorem zo_1356 {x0 x1 : Int} (h0 : x0 < x1) (h1 : x0 ≤ 999) : x0 < (x1.toNat : Int) := by omega
theorem zo_1357 {x0 x1 x3 x4 : Int} {x2 x5 : Nat} (h0 : x0 = x1) (h1 : x0.toNat ≤ x2) (h2 : x3 < x1) (h3 : x4.toNat = x2) (h4 : x4 = (x5 : Int)) (h5 : -2147483648 ≤ x4) (h6 : x3 < 2147483648) : x3 < x4 := by omega
theorem zo_1358 {x0 : Int} (h0 : 0 < x0) (h1 : x0 = 0) : False := by omega
theorem zo_1359 {x0 : Int} (h0 : x0 ≤ 4) (h1 : x0 ≠ 4) : x0 ≤ 3 := by omega
theorem zo_1360 {x0 x2 : Int} {x1 x3 : Nat} (h0 : x0.toNat < x1) (h1 : x2.toNat = x1) (h2 : x2 = (x3 : Int)) (h3 : -2147483648 ≤ x2) (h4 : x0 < 2147483648) : x0 < x2 := by omega
theorem zo_1361 {x0 : Int} {x1 : Nat} (h0 : x0 = 4) (h1 : x1 = x0.toNat) : ¬ (x1 < 4) := by omega
theorem zo_1362 {x0 x1 x2 x3 : Int} (h0 : x0 = x1) (h1 : x2 = x0) (h2 : x1 = x3) (h3 : x3 = 4) : 0 ≤ x2 := by omega
theorem zo_1363 {x0 x1 x2 x3 : Int} (h0 : x0 = x1) (h1 : x2 = x0) (h2 : x1 = x3) (h3 : x3 = 4) : -2147483648 ≤ x2 + 1 := by omega
theorem zo_1364 {x0 x1 x2 x3 x4 : Int} (h0 : x0 = x1) (h1 : x2 = x0) (h2 : x1 = x3) (h3 : x3 = 4) (h4 : x3 ≤ 3) (h5 : x4 = x2 + 1) (h6 : -2147483648 ≤ x4) (h7 : x4 < 2147483648) : x4 = x3 + 1 := by omega
theorem zo_1365 {x0 x1 x2 x3 x4 : Int} (h0 : x0 = x1) (h1 : x2 = x0) (h2 : x1 = x3) (h3 : x3 = 4) (h4 : x4 = x2 + 1) (h5 : -2147483648 ≤ x4) : 0 ≤ x4 := by omega
theorem zo_1366 {x0 : Int} {x1 : Nat} (h0 : x0 = 4) (h1 : x0 ≤ 3) (h2 : x1 = x0.toNat) (h3 : x0 ≤ 4) : x1 < 4 := by omega
theorem zo_1367 {x0 : Int} (h0 : x0 = 4) (h1 : x0 ≤ 3) : False := by omega
theorem zo_1368 {x0 x1 : Int} (h0 : x0 = 4) (h1 : 0 ≤ x1) : 0 ≤ 6 * x0 + x1 := by omega
theorem zo_1369 {x0 x1 : Int} (h0 : x0 ≤ x1) (h1 : 1 ≤ x0) (h2 : x0 ≤ 24) : x0.toNat ≤ x1.toNat := by omega
theorem zo_1370 {x0 x1 x2 : Int} {x3 : Nat} (h0 : x0 = x1) (h1 : x1 ≤ x2) (h2 : x0 = (x3 : Int)) : (x3 : Int) ≤ x2 := by omega
theorem zo_1371 {x0 x1 : Int} (h0 : x0 < x1) (h1 : x1 ≤ 24) : x0 + 1 < 2147483648 := by omega
theorem zo_1372 {x0 x1 x2 : Int} {x3 : Nat} (h0 : x0 = x1) (h1 : x2 < x1) (h2 : x0 = (x3 : Int)) : x2 < (x3 : Int) := by omega
theorem zo_1373 {x0 x1 x2 : Int} {x3 : Nat} (h0 : x0 = x1) (h1 : x1 ≤ x2) (h2 : x0 = (x3 : Int)) (h3 : 1 ≤ x1) (h4 : x1 ≤ 24) (h5 : x2 < 2147483648) (h6 : x2 ≤ (x3 : Int)) : x2 = (x3 : Int) := by omega
theorem zo_1374 {x0 x1 : Int} (h0 : x0 < x1) (h1 : x1 ≤ 24) : x0 < (24 : Int) := by omega
theorem zo_1375 {x0 x1 x2 x3 : Int} {x4 : Nat} (h0 : x0 = x1) (h1 : x2 = x3) (h2 : x1 = x2) (h3 : x3 = (x4 : Int)) (h4 : x3 < 2147483648) : x0 = (x4 : Int) := by omega
theorem zo_1376 {x0 x1 x2 : Int} {x3 : Nat} (h0 : x0 = x1) (h1 : x2 < x1) (h2 : x0 = (x3 : Int)) (h3 : 0 ≤ x2) : x2.toNat < x3 := by omega
theorem zo_1377 {x0 x1 x2 : Int} {x3 : Nat} (h0 : x0 = x1) (h1 : x2 < x1) (h2 : x0 = (x3 : Int)) (h3 : 0 ≤ x2) (h4 : x2 ≤ (x3 : Int)) : x2.toNat < x3 := by omega
theorem zo_1378 {x0 x1 x2 x3 x4 : Int} (h0 : x0 = x1) (h1 : x2 = x3) (h2 : x1 = x2) (h3 : x4 < x3) (h4 : 0 ≤ x4) : 0 ≤ x4 ∧ x4 < x0 := by omega
theorem zo_1379 {x0 x1 x2 x3 x4 : Int} {x5 : Nat} (h0 : x0 = x1) (h1 : x2 = x3) (h2 : x1 = x2) (h3 : x4 < x3) (h4 : x0 = (x5 : Int)) (h5 : 0 ≤ x4) (h6 : x4 ≤ (x5 : Int)) : 0 ≤ x4 ∧ x4 < x0 := by omega
theorem zo_1380 {x0 x1 x2 : Int} {x3 : Nat} (h0 : x0 = x1) (h1 : x2 = (x3 : Int)) (h2 : x0 = (x3 : Int)) (h3 : x1 ≤ 24) : x2 ≤ 24 := by omega
theorem zo_1381 {x0 x1 : Int} (h0 : 0 ≤ x0) (h1 : 0 ≤ x1) : 0 ≤ x0 * 24 + x1 := by omega
theorem zo_1382 {x0 x1 x2 : Int} (h0 : x0 < x1) (h1 : x2 < x1) (h2 : x1 ≤ 24) : x0 * 24 + x2 < (576 : Int) := by omega
theorem zo_1383 {x0 x1 : Int} {x2 : Nat} (h0 : x0 = x1) (h1 : x0 = (x2 : Int)) (h2 : x1 ≤ 24) : x2 ≤ 24 := by omega
theorem zo_1384 {x0 x1 x2 : Int} {x3 : Nat} (h0 : x0 = x1) (h1 : x2 < x1) (h2 : x0 = (x3 : Int)) (h3 : x2 ≤ (x3 : Int)) : x2 < (x3 : Int) := by omega
theorem zo_1385 {x0 x1 x2 x3 x4 : Int} (h0 : x0 = x1) (h1 : x2 = x3) (h2 : x1 = x2) (h3 : x4 < x0) (h4 : x3 ≤ 24) (h5 : x4 < 2147483648) : x4 < 24 := by omega
theorem zo_1386 {x0 x1 x2 : Int} {x3 : Nat} (h0 : x0 = x1) (h1 : x2 < x1) (h2 : x0 = (x3 : Int)) (h3 : x2 ≤ (x3 : Int)) : x2 + 1 ≤ (x3 : Int) := by omega
theorem zo_1387 {x0 : Int} {x1 : Nat} (h0 : 0 ≤ x0) (h1 : x0 = (x1 : Int)) (h2 : x0 ≠ 0) : x1 ≠ 0 := by omega
theorem zo_1388 {x0 x1 : Int} (h0 : x0 < x1) (h1 : x1 ≤ 24) : x0 < 24 := by omega
theorem zo_1389 {x0 : Int} {x1 : Nat} (h0 : x0 = 0) (h1 : x0 = (x1 : Int)) : x1 = 0 := by omega
theorem zo_1390 {x0 x1 : Int} (h0 : x0 < x1) (h1 : 1 ≤ x0) : x0.toNat < x1.toNat := by omega
theorem zo_1391 {x0 : Int} (h0 : x0 ≤ 0) (h1 : 0 ≤ x0) : x0.toNat = 0 := by omega
theorem zo_1392 {x0 : Int} (h0 : x0 ≤ 0) : x0 < (24 : Int) := by omega
theorem zo_1393 {x0 : Int} (h0 : 1 ≤ x0) : x0.toNat + 1 = (x0 + 1).toNat := by omega
theorem zo_1394 {x0 x1 x2 : Int} (h0 : x0 < x1) (h1 : x1 ≤ 24) (h2 : x2 < 2147483648) (h3 : x2 ≤ x0) : x2 - 1 < (24 : Int) := by omega
theorem zo_1395 {x0 : Int} (h0 : 0 < x0) : x0.toNat - 1 = (x0 - 1).toNat := by omega
theorem zo_1396 {x0 x1 x2 : Int} (h0 : x0 ≤ x1) (h1 : x0 = x2) : ¬ (x1 < x2) := by omega
theorem zo_1397 {x0 x1 x2 : Int} (h0 : x0 < x1) (h1 : x1 ≤ 24) (h2 : x2 ≤ x0) : x2 < (24 : Int) := by omega
theorem zo_1398 {x0 : Int} (h0 : 0 < x0) : 1 ≤ x0.toNat := by omega
theorem zo_1399 {x0 x1 x2 : Int} (h0 : x0 < x1) (h1 : x1 = x2) : x0 < x2 := by omega
theorem zo_1400 {x0 : Int} (h0 : 0 < x0) : (x0 - 1).toNat = x0.toNat - 1 := by omega
theorem zo_1401 {x0 : Int} (h0 : 0 < x0) : x0.toNat - 1 = (x0 + (-1)).toNat := by omega
theorem zo_1402 {x0 : Int} (h0 : 0 < x0) : 0 ≤ x0 + (-1) := by omega
theorem zo_1403 {x0 x1 : Int} {x2 : Nat} (h0 : x0 ≤ x1) (h1 : (x2 : Int) < x0) : (x2 : Int) < x1 := by omega
theorem zo_1404 {x0 x1 : Int} (h0 : x0 < x1) (h1 : x1 ≤ 35) : x0 < (35 : Int) := by omega
theorem zo_1405 {x0 x1 : Int} (h0 : x0 < x1) (h1 : 0 ≤ x0) : 0 ≤ x0 ∧ x0 < x1 := by omega
theorem zo_1406 {x0 x1 : Int} (h0 : x0 < x1) (h1 : x1 ≤ 35) : x0 + 1 < 2147483648 := by omega
theorem zo_1407 {x0 : Int} (h0 : x0 ≠ -1) : ¬ (x0 = -1) := by omega
theorem zo_1408 {x0 : Int} (h0 : x0 ≤ 26) : x0 < (27 : Int) := by omega
theorem zo_1409 {x0 x1 : Int} (h0 : x0 = x1) (h1 : 0 ≤ x1) (h2 : x1 ≤ 26) : x0.toNat = x1.toNat := by omega
theorem zo_1410 {x0 : Int} (h0 : x0 ≤ 26) : x0 + 1 < 2147483648 := by omega
theorem zo_1411 {x0 x1 : Int} {x2 : Nat} (h0 : x0 ≤ x1) (h1 : x2 ≤ 24) (h2 : x0 = (x2 : Int)) (h3 : 0 ≤ x1) : (x2 : Int) ≤ x1 := by omega
theorem zo_1412 {x0 x1 : Int} (h0 : x0 = x1 + 1) : x1 + 1 = x0 := by omega
theorem zo_1413 {x0 x1 : Int} {x2 : Nat} (h0 : x0 < x1) (h1 : x1 = (x2 : Int)) (h2 : x0 < 2147483648) : x0 < (x2 : Int) := by omega
theorem zo_1414 {x0 x1 : Int} {x2 : Nat} (h0 : x0 < x1) (h1 : x1 = (x2 : Int)) (h2 : x0 < 2147483648) (h3 : 0 ≤ x0) : x0.toNat < x2 := by omega
theorem zo_1415 {x0 x1 x2 x3 x4 x5 : Int} (h0 : x0 = x1) (h1 : x2 = x3) (h2 : x4 = x0) (h3 : x5 = x4) (h4 : x1 = x2) (h5 : 1 ≤ x3) : 0 ≤ x5 := by omega
theorem zo_1416 {x0 x1 x2 x3 x4 x5 : Int} (h0 : x0 = x1) (h1 : x2 = x3) (h2 : x4 = x0) (h3 : x5 = x4) (h4 : x1 = x2) (h5 : x3 ≤ 35) : x5 ≤ 35 := by omega
theorem zo_1417 {x0 x1 x2 x3 x4 x5 : Int} {x6 : Nat} (h0 : x0 = x1) (h1 : x2 = x3) (h2 : x4 = x0) (h3 : x5 = x4) (h4 : x1 = x2) (h5 : (x6 : Int) < x3) : (x6 : Int) < x5 := by omega
theorem zo_1418 {x0 x1 x2 x3 x4 x5 x6 : Int} (h0 : x0 = x1) (h1 : x2 = x3) (h2 : x4 = x0) (h3 : x5 = x4) (h4 : x1 = x2) (h5 : x6 < x5) (h6 : 1 ≤ x3) (h7 : x6 < 2147483648) : x6 < x3 := by omega
theorem zo_1419 {x0 x1 : Int} (h0 : x0 ≤ 35) (h1 : x1 < 2147483648) (h2 : x1 < x0) : x1 < (35 : Int) := by omega
theorem zo_1420 {x0 : Int} (h0 : x0 ≤ 26) : x0 < 2147483648 := by omega
theorem zo_1421 {x0 x1 : Int} {x2 : Nat} (h0 : x0 < x1) (h1 : x1 = (x2 : Int)) (h2 : x0 < 2147483648) (h3 : 0 ≤ x0) : 0 ≤ x0 ∧ x0 < (x2 : Int) := by omega
theorem zo_1422 {x0 x1 : Int} {x2 : Nat} (h0 : x0 < x1) (h1 : x2 ≤ 24) (h2 : x1 = (x2 : Int)) (h3 : x0 < 2147483648) : x0 + 1 < 2147483648 := by omega
theorem zo_1423 {x0 x1 : Int} (h0 : x0 = x1) (h1 : x1 ≤ 26) : x0 ≤ 26 := by omega
theorem zo_1424 {x0 x1 : Int} {x2 x3 : Nat} (h0 : x0 < x1) (h1 : ((x2 : Int) - x0).toNat < x3 + 1) (h2 : x1 = (x2 : Int)) (h3 : x0 < 2147483648) : ((x2 : Int) - (x0 + 1)).toNat < x3 := by omega
theorem zo_1425 {x0 : Int} (h0 : 27 ≤ x0) (h1 : x0 ≤ 26) : False := by omega
theorem zo_1426 {x0 : Int} (h0 : x0 ≤ 35) : x0 ≤ 35 := by omega
theorem zo_1427 {x0 x1 : Int} (h0 : 35 ≤ x0) (h1 : x1 ≤ 35) : x1 ≤ x0 := by omega
theorem zo_1428 {x0 : Int} (h0 : x0 < 35) : x0 + 1 < 2147483648 := by omega
theorem zo_1429 {x0 : Int} {x1 : Nat} (h0 : x0 < 35) (h1 : (36 - x0 : Int).toNat < x1 + 1) (h2 : 0 ≤ x0) : (36 - (x0 + 1) : Int).toNat < x1 := by omega
theorem zo_1430 {x0 : Int} (h0 : x0 < 35) : x0 < (35 : Int) := by omega
theorem zo_1431 {x0 x1 : Int} (h0 : x0 < 35) (h1 : 1 ≤ x1) (h2 : x0 < x1) (h3 : 0 ≤ x0) : (x0.toNat : Int) < x1 := by omega
theorem zo_1432 {x0 x1 : Int} {x2 : Nat} (h0 : x0 < x1) (h1 : x2 ≤ 24) (h2 : x1 = (x2 : Int)) (h3 : x0 < 2147483648) : x0 < 31 := by omega
theorem zo_1433 {x0 x1 : Int} (h0 : x0 = x1) (h1 : x1 ≤ 35) : x0 ≤ 35 := by omega
theorem zo_1434 {x0 x1 x2 x3 : Int} {x4 : Nat} (h0 : x0 = x1) (h1 : x2 = x0) (h2 : x3 < 35) (h3 : (x4 : Int) < x0) (h4 : x3 < x1) : x3 < x2 := by omega
theorem zo_1435 {x0 x1 x2 : Int} (h0 : x0 = x1) (h1 : x2 < 35) (h2 : 1 ≤ x1) (h3 : x2 < x1) (h4 : 0 ≤ x2) : 0 ≤ x2 ∧ x2 < x0 := by omega
theorem zo_1436 {x0 x1 x2 x3 : Int} (h0 : x0 = x1) (h1 : x2 = x0 + 1) (h2 : x3 < 35) (h3 : 1 ≤ x1) (h4 : x3 < x1) : x3 < x2 := by omega
theorem zo_1441 {x0 x1 x2 x3 : Nat} (h0 : x0 = x1 + x2) (h1 : x3 < x1) : x3 < x0 := by omega
theorem zo_1447 {x0 : Nat} : x0 ≤ x0 := by omega
theorem zo_1454 {x0 x1 : Nat} (h0 : x0 = x1 + 2) : x1 ≤ x0 := by omega
theorem zo_1473 {x0 x1 x2 : Nat} (h0 : x0 < x1) (h1 : x2 = x1 + 2) : x0 ≠ x2 := by omega
theorem zo_1477 {x0 x1 x2 : Nat} (h0 : x0 + 10 < 1000000) (h1 : x1 < x0) (h2 : x2 = x0 + 4) : x1 < x2 := by omega
theorem zo_1482 {x0 x1 x2 : Nat} (h0 : x0 + 10 < 1000000) (h1 : x1 < x0) (h2 : x2 = x0 + 5) : x1 < x2 := by omega
theorem zo_1483 {x0 x1 x2 : Nat} (h0 : x0 < x1) (h1 : x2 = x1 + 4) : x0 ≠ x2 := by omega
theorem zo_1487 {x0 x1 x2 : Nat} (h0 : x0 + 10 < 1000000) (h1 : x1 < x0) (h2 : x2 = x0 + 6) : x1 < x2 := by omega
theorem zo_1492 {x0 x1 x2 : Nat} (h0 : x0 + 10 < 1000000) (h1 : x1 < x0) (h2 : x2 = x0 + 7) : x1 < x2 := by omega
theorem zo_1493 {x0 x1 x2 : Nat} (h0 : x0 < x1) (h1 : x2 = x1 + 6) : x0 ≠ x2 := by omega
theorem zo_1497 {x0 x1 x2 : Nat} (h0 : x0 + 10 < 1000000) (h1 : x1 < x0) (h2 : x2 = x0 + 8) : x1 < x2 := by omega
theorem zo_1502 {x0 x1 x2 : Nat} (h0 : x0 + 10 < 1000000) (h1 : x1 < x0) (h2 : x2 = x0 + 9) : x1 < x2 := by omega
theorem zo_1503 {x0 x1 x2 : Nat} (h0 : x0 < x1) (h1 : x2 = x1 + 8) : x0 ≠ x2 := by omega
theorem zo_1569 {x0 x1 x2 : Nat} (h0 : x0 + 37 < 1000000) (h1 : x1 < x0) (h2 : x2 = x0 + 27) : x1 < x2 := by omega
theorem zo_1574 {x0 x1 x2 : Nat} (h0 : x0 + 37 < 1000000) (h1 : x1 < x0) (h2 : x2 = x0 + 28) : x1 < x2 := by omega
theorem zo_1575 {x0 x1 x2 : Nat} (h0 : x0 < x1) (h1 : x2 = x1 + 27) : x0 ≠ x2 := by omega
theorem zo_1579 {x0 x1 x2 : Nat} (h0 : x0 + 37 < 1000000) (h1 : x1 < x0) (h2 : x2 = x0 + 32) : x1 < x2 := by omega
theorem zo_1584 {x0 x1 x2 : Nat} (h0 : x0 + 37 < 1000000) (h1 : x1 < x0) (h2 : x2 = x0 + 33) : x1 < x2 := by omega
theorem zo_1585 {x0 x1 x2 : Nat} (h0 : x0 < x1) (h1 : x2 = x1 + 32) : x0 ≠ x2 := by omega
theorem zo_1589 {x0 x1 x2 : Nat} (h0 : x0 + 37 < 1000000) (h1 : x1 < x0) (h2 : x2 = x0 + 35) : x1 < x2 := by omega
theorem zo_1594 {x0 x1 x2 : Nat} (h0 : x0 + 37 < 1000000) (h1 : x1 < x0) (h2 : x2 = x0 + 36) : x1 < x2 := by omega
theorem zo_1595 {x0 x1 x2 : Nat} (h0 : x0 < x1) (h1 : x2 = x1 + 35) : x0 ≠ x2 := by omega
theorem zo_1604 {x0 x1 x2 : Nat} (h0 : x0 + 80 < 1000000) (h1 : x1 < x0) (h2 : x2 = x0 + 4) : x1 < x2 := by omega
theorem zo_1611 {x0 x1 x2 : Nat} (h0 : x0 + 80 < 1000000) (h1 : x1 < x0) (h2 : x2 = x0 + 42) : x1 < x2 := by omega
theorem zo_1614 {x0 x1 x2 : Nat} (h0 : x0 + 80 < 1000000) (h1 : x1 < x0) (h2 : x2 = x0 + 43) : x1 < x2 := by omega
theorem zo_1615 {x0 x1 x2 : Nat} (h0 : x0 < x1) (h1 : x2 = x1 + 42) : x0 ≠ x2 := by omega
theorem zo_1649 {x0 : Nat} (h0 : x0 = 83) : 81 < x0 := by omega
theorem zo_1651 {x0 : Nat} (h0 : x0 = 84) : 81 < x0 := by omega
theorem zo_1653 {x0 : Nat} (h0 : x0 = 85) : 81 < x0 := by omega
theorem zo_1655 {x0 : Nat} (h0 : x0 = 86) : 81 < x0 := by omega
theorem zo_1657 {x0 : Nat} (h0 : x0 = 87) : 81 < x0 := by omega
theorem zo_1659 {x0 : Nat} (h0 : x0 = 88) : 81 < x0 := by omega
theorem zo_1661 {x0 : Nat} (h0 : x0 = 89) : 81 < x0 := by omega
theorem zo_1663 {x0 : Nat} (h0 : x0 = 90) : 81 < x0 := by omega
theorem zo_1665 {x0 : Nat} (h0 : x0 = 91) : 81 < x0 := by omega
theorem zo_1667 {x0 : Nat} (h0 : x0 = 92) : 81 < x0 := by omega
theorem zo_1669 {x0 : Nat} (h0 : x0 = 93) : 81 < x0 := by omega
theorem zo_1671 {x0 : Nat} (h0 : x0 = 94) : 81 < x0 := by omega
theorem zo_1673 {x0 : Nat} (h0 : x0 = 95) : 81 < x0 := by omega
theorem zo_1675 {x0 : Nat} (h0 : x0 = 96) : 81 < x0 := by omega
theorem zo_1677 {x0 : Nat} (h0 : x0 = 97) : 81 < x0 := by omega
theorem zo_1679 {x0 : Nat} (h0 : x0 = 98) : 81 < x0 := by omega
theorem zo_1681 {x0 : Nat} (h0 : x0 = 99) : 81 < x0 := by omega
theorem zo_1683 {x0 : Nat} (h0 : x0 = 100) : 81 < x0 := by omega
theorem zo_1685 {x0 : Nat} (h0 : x0 = 101) : 81 < x0 := by omega
theorem zo_1687 {x0 : Nat} (h0 : x0 = 102) : 81 < x0 := by omega
theorem zo_1689 {x0 : Nat} (h0 : x0 = 103) : 81 < x0 := by omega
theorem zo_1691 {x0 : Nat} (h0 : x0 = 104) : 81 < x0 := by omega
theorem zo_1693 {x0 : Nat} (h0 : x0 = 105) : 81 < x0 := by omega
theorem zo_1695 {x0 : Nat} (h0 : x0 = 106) : 81 < x0 := by omega
theorem zo_1697 {x0 : Nat} (h0 : x0 = 107) : 81 < x0 := by omega
theorem zo_1699 {x0 : Nat} (h0 : x0 = 108) : 81 < x0 := by omega
theorem zo_1701 {x0 : Nat} (h0 : x0 = 109) : 81 < x0 := by omega
theorem zo_1703 {x0 : Nat} (h0 : x0 = 110) : 81 < x0 := by omega
theorem zo_1705 {x0 : Nat} (h0 : x0 = 111) : 81 < x0 := by omega
theorem zo_1707 {x0 : Nat} (h0 : x0 = 112) : 81 < x0 := by omega
theorem zo_1709 {x0 : Nat} (h0 : x0 = 113) : 81 < x0 := by omega
theorem zo_2176 {x0 : Int} (h0 : 1 ≤ x0) : -9223372036854775808 ≤ x0 := by omega
theorem zo_2180 {x0 : Int} {x1 : Nat} (h0 : 0 ≤ x0) (h1 : (x1 : Int) = x0) : x1 = x0.toNat := by omega
theorem zo_2187 {x1 : Int} {x0 : Nat} (h0 : (x0 : Int) = x1) (h1 : (x0 : Int) < x1 + 1) (h2 : 0 ≤ x1) : x0 = x1.toNat := by omega
theorem zo_2188 {x2 : Int} {x0 x1 : Nat} (h0 : x0 < x1) (h1 : (x1 : Int) ≤ x2) : (x0 : Int) < x2 := by omega
theorem zo_2189 {x0 x1 x2 : Int} (h0 : x0 < x1) : 27 * x2 + x0 < ((x2 * 27 + x1).toNat : Int) := by omega
theorem zo_2191 {x0 x1 : Int} (h0 : 0 ≤ x0) (h1 : x0 < x1) : x0.toNat + 1 + (x1 - x0 - 1).toNat = x1.toNat := by omega
theorem zo_2192 {x0 x1 : Int} (h0 : x0 < x1) : (x1 + 1 - x0 - 1).toNat = (x1 - x0 - 1).toNat + 1 := by omega
theorem zo_2198 {x0 x1 : Int} (h0 : 0 ≤ x0) (h1 : 0 ≤ x1) : 0 ≤ x0 * 27 + x1 := by omega
theorem zo_2200 {x1 x2 : Int} {x0 : Nat} (h0 : x0 ≤ 27) (h1 : x1 = (x0 : Int)) (h2 : x1 ≤ x2) (h3 : x2 < 2147483648) (h4 : 0 ≤ x2) (h5 : x2 ≤ (x0 : Int)) (h6 : x1 < 2147483648) : (x0 : Int) = x2 := by omega
theorem zo_2201 {x0 x1 : Int} (h0 : 0 ≤ x0) (h1 : 0 ≤ x1) : 0 ≤ x1 * 27 + x0 := by omega
theorem zo_2202 {x1 x2 x3 : Int} {x0 : Nat} (h0 : x0 ≤ 27) (h1 : x1 = (x0 : Int)) (h2 : x2 < x1) (h3 : x2 ≤ (x0 : Int)) (h4 : x3 ≤ 39) : x3 * 27 + x2 < (1080 : Int) := by omega
theorem zo_2203 {x0 x2 : Int} {x1 : Nat} (h0 : x0 = (x1 : Int)) (h1 : x2 < x0) (h2 : x2 ≤ (x1 : Int)) : x2 + 1 ≤ (x1 : Int) := by omega
theorem zo_2205 {x0 x2 : Int} {x1 : Nat} (h0 : x0 = (x1 : Int)) (h1 : x2 < x0) (h2 : 0 ≤ x2) (h3 : x2 ≤ (x1 : Int)) : x2.toNat < x1 := by omega
theorem zo_2206 {x0 x1 : Int} (h0 : 0 ≤ x0) (h1 : 0 ≤ x1) : ((x1 * 27 + x0).toNat : Int) = x1 * 27 + (x0.toNat : Int) := by omega
theorem zo_2209 {x0 x2 : Int} {x1 : Nat} (h0 : x0 = (x1 : Int)) (h1 : x2 < x0) (h2 : x2 ≤ (x1 : Int)) : x2 < (x1 : Int) := by omega
theorem zo_2210 {x1 : Int} {x0 : Nat} (h0 : x0 ≤ 27) (h1 : x1 < 2147483648) (h2 : x1 < (x0 : Int)) : x1 < (27 : Int) := by omega
theorem zo_2211 {x0 : Int} (h0 : 0 ≤ x0) : 0 ≤ x0 * 27 + x0 := by omega
theorem zo_2212 {x1 : Int} {x0 : Nat} (h0 : x0 ≤ 27) (h1 : x1 < 2147483648) (h2 : x1 < (x0 : Int)) : x1 * 27 + x1 < (729 : Int) := by omega
theorem zo_2213 {x0 : Int} {x1 : Nat} (h0 : 0 ≤ x0) (h1 : x0 < 2147483648) (h2 : x0 < (x1 : Int)) : x0.toNat < x1 := by omega
theorem zo_2214 {x1 x2 x3 : Int} {x0 : Nat} (h0 : x0 ≤ 27) (h1 : x1 = (x0 : Int)) (h2 : 0 ≤ x2) (h3 : x1 ≤ x3) (h4 : x3 < 2147483648) (h5 : x2 < x3) (h6 : x3 ≤ (x0 : Int)) : x3 = (x0 : Int) := by omega
theorem zo_2215 {x1 x2 : Int} {x0 : Nat} (h0 : x0 ≤ 27) (h1 : x1 < 2147483648) (h2 : x1 < (x0 : Int)) (h3 : x2 ≤ 39) : x2 * 27 + x1 < (1080 : Int) := by omega
theorem zo_2216 {x0 x1 : Int} (h0 : x0 = 0) (h1 : 1 ≤ x1) (h2 : x0 = x1) : False := by omega
theorem zo_2217 {x0 : Int} {x1 : Nat} (h0 : x0 < 2147483648) (h1 : x0 < (x1 : Int)) : x0 + (-1) < (x1 : Int) := by omega
theorem zo_2218 {x0 x1 x2 : Int} (h0 : 0 ≤ x0) (h1 : -2147483648 ≤ x1) (h2 : x0 < x1) (h3 : 0 ≤ x2) : 0 ≤ x2 * 27 + x1 := by omega
theorem zo_2219 {x1 x2 x3 : Int} {x0 : Nat} (h0 : x0 ≤ 27) (h1 : x1 = (x0 : Int)) (h2 : x2 < x1) (h3 : x2 < 2147483648) (h4 : x2 ≤ (x0 : Int)) (h5 : x3 ≤ 39) : x3 * 27 + x2 < (1080 : Int) := by omega
theorem zo_2220 {x0 x1 : Int} (h0 : 0 ≤ x0) (h1 : x0 < x1) : 0 ≤ x1 * 27 + x0 := by omega
theorem zo_2221 {x1 x2 x3 : Int} {x0 : Nat} (h0 : x0 ≤ 27) (h1 : x1 = (x0 : Int)) (h2 : x2 < x1) (h3 : x2 < 2147483648) (h4 : x2 ≤ (x0 : Int)) (h5 : x3 < (x0 : Int)) : x2 * 27 + x3 < (729 : Int) := by omega
theorem zo_2222 {x0 x1 : Int} (h0 : 0 ≤ x0) (h1 : -2147483648 ≤ x1) (h2 : x0 < x1) : 0 ≤ x1 := by omega
theorem zo_2223 {x0 x2 : Int} {x1 : Nat} (h0 : x0 = (x1 : Int)) (h1 : x2 < x0) (h2 : x2 < 2147483648) (h3 : x2 ≤ (x1 : Int)) : x2 < (x1 : Int) := by omega
theorem zo_2224 {x0 x1 : Int} (h0 : x0 < x1) : x0 < x1 + 1 := by omega
theorem zo_2225 {x1 : Int} {x0 : Nat} (h0 : x0 ≤ 27) (h1 : x1 < 2147483648) (h2 : x1 < (x0 : Int)) : x1 + 1 < 2147483648 := by omega
theorem zo_2226 {x0 : Int} {x1 : Nat} (h0 : x0 = (x1 : Int)) (h1 : -2147483648 ≤ x0) : -1 ≤ x0 - 1 := by omega
theorem zo_2227 {x0 : Int} {x1 : Nat} (h0 : x0 = (x1 : Int)) : (x1 : Int) - 1 ≤ x0 - 1 := by omega
theorem zo_2228 {x1 x2 : Int} {x0 : Nat} (h0 : x0 ≤ 27) (h1 : x1 = (x0 : Int)) (h2 : x1 ≤ x2) (h3 : 0 ≤ x2) : (x0 : Int) ≤ x2 := by omega
theorem zo_2229 {x1 x2 : Int} {x0 : Nat} (h0 : x0 ≤ 27) (h1 : x1 = (x0 : Int)) (h2 : x2 < x1) (h3 : x2 ≤ (x0 : Int)) : x2 ≤ 26 := by omega
theorem zo_2230 {x0 x1 : Int} (h0 : 0 < x0 ∧ x1 = x0 ∨ x0 ≤ 0 ∧ x1 = -x0) : -9223372036854775808 ≤ x1 := by omega
theorem zo_2236 {x0 : Nat} (h0 : x0 ≤ 6) : (x0 : Int) < 2147483648 := by omega
theorem zo_2237 {x0 x1 : Int} {x2 : Nat} (h0 : x0 < 2147483648) (h1 : -2147483648 ≤ x1) (h2 : x1 = (x2 : Int)) : -2147483648 ≤ x1 - x0 := by omega
theorem zo_2238 {x0 x1 : Int} (h0 : x0 < 2147483648) (h1 : 0 ≤ x1) : x0 - x1 < 2147483648 := by omega
theorem zo_2239 {x1 x2 : Int} {x0 x3 : Nat} (h0 : (x0 : Int) = x1 - x2) (h1 : x0 ≤ 6) (h2 : x2.toNat < x3) (h3 : x3 ≤ x2.toNat + 6) (h4 : x2 < 2147483648) (h5 : 0 ≤ x2) (h6 : x1 = (x3 : Int)) : x3 - x2.toNat = x0 := by omega
theorem zo_2240 {x1 : Int} {x0 x2 : Nat} (h0 : (x0 : Int) ≤ x1) (h1 : x2 < x0) : (x2 : Int) < x1 := by omega
theorem zo_2241 {x0 x3 : Int} {x1 x2 x4 : Nat} (h0 : x0 < (x1 : Int)) (h1 : x2 - x3.toNat = x1) (h2 : x4 ≤ 700) (h3 : x0 < 2147483648) (h4 : x3.toNat < x2) (h5 : x2 ≤ x4) (h6 : x3 < 2147483648) (h7 : 0 ≤ x3) : x3 + x0 < (700 : Int) := by omega
theorem zo_2242 {x0 x3 : Int} {x1 x2 x4 : Nat} (h0 : x0 < (x1 : Int)) (h1 : x2 - x3.toNat = x1) (h2 : x0 < 2147483648) (h3 : x3.toNat < x2) (h4 : x2 ≤ x4) (h5 : 0 ≤ x0) (h6 : x3 < 2147483648) (h7 : 0 ≤ x3) : (x3 + x0).toNat < x4 := by omega
theorem zo_2243 {x0 x1 : Int} (h0 : 0 ≤ x0) (h1 : 0 ≤ x1) : (x1 + x0).toNat = x1.toNat + x0.toNat := by omega
theorem zo_2244 {x1 : Int} {x0 : Nat} (h0 : (x0 : Int) < x1 + 1 - 1) : (x0 : Int) < x1 := by omega
theorem zo_2245 {x0 : Int} {x1 : Nat} (h0 : x0 < (x1 : Int)) (h1 : x1 ≤ 6) (h2 : x0 < 2147483648) : x0 + 1 < 2147483648 := by omega
theorem zo_2246 {x1 : Int} {x0 x2 : Nat} (h0 : (x0 : Int) < x1 + 1) (h1 : x2 = x1.toNat) (h2 : 0 ≤ x1) (h3 : ¬ (x0 = x2)) : (x0 : Int) < x1 + 1 - 1 := by omega
theorem zo_2247 {x0 : Int} {x1 x2 : Nat} (h0 : x0 < (x1 : Int)) (h1 : ((x1 : Int) - x0).toNat < x2 + 1) (h2 : x1 ≤ 6) (h3 : x0 < 2147483648) (h4 : 0 ≤ x0) : ((x1 : Int) - (x0 + 1)).toNat < x2 := by omega
theorem zo_2248 {x0 : Int} {x1 x2 : Nat} (h0 : x0 < (x1 : Int)) (h1 : x2 = x0.toNat) (h2 : x0 < 2147483648) (h3 : 0 ≤ x0) : x2 < x1 := by omega
theorem zo_2249 {x0 x1 : Int} (h0 : x0 = x1) (h1 : x0 ≠ x1) : False := by omega
theorem zo_2250 {x2 x3 : Int} {x0 x1 : Nat} (h0 : x0 ≤ 6) (h1 : x1 - x2.toNat = x0) (h2 : x2.toNat < x1) (h3 : x3 < 2147483648) (h4 : 0 ≤ x2) (h5 : x3 = (x1 : Int)) (h6 : (x0 : Int) ≠ x3 - x2) : False := by omega
theorem zo_2251 {x0 : Int} (h0 : x0.toNat < 30) (h1 : 30 ≤ x0) : False := by omega
theorem zo_2252 {x0 : Int} (h0 : x0 < 30) (h1 : 0 ≤ x0) : x0.toNat < 30 := by omega
theorem zo_2253 {x0 : Int} {x1 : Nat} (h0 : x0 ≤ 6) (h1 : x0 = (x1 : Int)) (h2 : x1 ≤ 7) : x1 ≤ 6 := by omega
theorem zo_2254 {x0 : Int} (h0 : x0 < 30) (h1 : x0 ≤ 30) : x0 ≤ 29 := by omega
theorem zo_2255 {x1 : Int} {x0 : Nat} (h0 : x0 ≤ 6) (h1 : 6 < x1) (h2 : x1 = (x0 : Int)) : False := by omega
theorem zo_2256 {x0 x1 x2 : Int} (h0 : 30 < x0) (h1 : x1 + x0 ≤ x2) (h2 : x2 ≤ 30) (h3 : 0 ≤ x1) : False := by omega
theorem zo_2257 {x0 x1 x2 : Int} (h0 : 0 ≤ x0) (h1 : x1 + x0 ≤ x2) (h2 : 0 ≤ x1) (h3 : -2147483648 ≤ x2) : 0 ≤ x2 := by omega
theorem zo_2258 {x0 x1 x2 x3 x4 x5 : Int} (h0 : x0 = x1) (h1 : x2 = x0) (h2 : x1 = x3 + 1) (h3 : x4 ≤ 30) (h4 : x5 + x4 ≤ x3) (h5 : x5 ≤ 30) (h6 : -2147483648 ≤ x1) : x5 + (x4 + 1) ≤ x2 := by omega
theorem zo_2259 {x0 : Int} (h0 : x0 = 45) (h1 : x0 = 40) : False := by omega
theorem zo_2260 {x0 x1 x2 : Int} (h0 : 0 ≤ x0) (h1 : x1 + x0 ≤ x2) (h2 : x1 ≤ 30) (h3 : -2147483648 ≤ x2) : x1 ≤ x2 := by omega
theorem zo_2261 {x0 : Int} : x0 + 0 ≤ x0 := by omega
theorem zo_2262 {x0 : Int} (h0 : 8 ≤ x0) (h1 : x0 ≤ 7) : False := by omega
theorem zo_2263 {x0 : Int} (h0 : x0 ≤ 7) (h1 : x0 ≤ 8) : x0 < (8 : Int) := by omega
theorem zo_2264 {x0 x1 : Int} (h0 : x0 = x1) (h1 : 0 ≤ x1) : -2147483648 ≤ 1 + x0 := by omega
theorem zo_2265 {x0 x1 : Int} (h0 : x0 = x1) (h1 : x1 ≤ 8) : 1 + x0 < 2147483648 := by omega
theorem zo_2266 {x0 x1 : Int} (h0 : x0 = x1) (h1 : 0 ≤ x1) : 0 ≤ 1 + x0 := by omega
theorem zo_2267 {x0 x1 : Int} (h0 : x0 = x1) (h1 : x1 ≤ 8) : 1 + x0 ≤ 39 := by omega
theorem zo_2268 {x0 : Nat} : 0 ≤ 1 + (x0 : Int) := by omega
theorem zo_2269 {x0 x1 : Int} {x2 : Nat} (h0 : x0 = x1) (h1 : (x2 : Int) < x1) : 1 + x0 ≠ 1 + (x2 : Int) := by omega
theorem zo_2270 {x0 x1 x2 : Int} (h0 : x0 = x1) (h1 : x2 = x0) (h2 : x1 ≤ 8) : x2 + 1 < 2147483648 := by omega
theorem zo_2271 {x0 x1 x2 x3 : Int} (h0 : x0 = x1) (h1 : x2 = x0) (h2 : x3 = x2 + 1) (h3 : x1 ≤ 7) (h4 : -2147483648 ≤ x3) (h5 : x3 < 2147483648) (h6 : 0 ≤ x1) : x3 = x1 + 1 := by omega
theorem zo_2272 {x0 x1 : Int} (h0 : x0 = x1) : 1 + x1 = 1 + x0 := by omega
theorem zo_2273 {x0 x1 : Int} (h0 : 8 < x0) (h1 : x0 ≤ x1) (h2 : x1 ≤ 8) : False := by omega
theorem zo_2274 {x0 : Int} {x1 : Nat} (h0 : x0 < 8) (h1 : (x1 : Int) = x0) : x1 < 8 := by omega
theorem zo_2275 {x0 x1 x2 x3 x4 x5 : Int} (h0 : x0 = x1) (h1 : x2 = x0) (h2 : x3 = x2) (h3 : x4 = x3) (h4 : x5 = x4) (h5 : x1 < 8) : x5 ≤ 7 := by omega
theorem zo_2276 {x0 x1 : Int} (h0 : x0 = x1) (h1 : x1 = 1) (h2 : x0 = 0) : False := by omega
theorem zo_2277 {x0 : Int} (h0 : x0 ≤ 8) : x0 + 1 < 2147483648 := by omega
theorem zo_2278 {x0 x1 x2 x3 x4 x5 x6 x7 : Int} (h0 : x0 = x1) (h1 : x2 = x0) (h2 : x3 = x2) (h3 : x4 = x3) (h4 : x5 = x4) (h5 : x6 ≤ 8) (h6 : x7 = x5 + 1) (h7 : x6 ≤ x1) (h8 : 0 ≤ x1) : x6 + 1 ≤ x7 := by omega
theorem zo_2279 {x0 : Int} {x1 : Nat} (h0 : x0 ≤ 8) (h1 : (9 - x0 : Int).toNat < x1 + 1) (h2 : 0 ≤ x0) : (9 - (x0 + 1) : Int).toNat < x1 := by omega
theorem zo_2280 {x0 : Int} {x1 : Nat} (h0 : 8 ≤ x0) (h1 : (x1 : Int) = x0) (h2 : x1 < 8) : False := by omega
theorem zo_2281 {x0 x1 : Int} (h0 : x0 = 0) (h1 : x0 = x1) : x1 = 0 := by omega
theorem zo_2301 {x0 x1 : Int} {x2 : Nat} (h0 : x0 ≤ x1) (h1 : (x2 : Int) < x0) (h2 : (x2 : Int) < x1 + 1) : (x2 : Int) < x1 := by omega
theorem zo_2317 {x0 x2 x3 : Int} {x1 : Nat} (h0 : x0 = (x1 : Int)) (h1 : x2 = x0) (h2 : 0 ≤ x3) (h3 : x2 ≠ x3) : x1 ≠ x3.toNat := by omega
theorem zo_2320 {x0 x1 : Int} {x2 : Nat} (h0 : x0 + x1 = (x2 : Int)) : -2147483648 ≤ x0 + x1 := by omega
theorem zo_2322 {x1 x2 : Int} {x0 : Nat} (h0 : x0 ≤ 24) (h1 : x1 = (x0 : Int)) (h2 : x2 < x1) (h3 : x2 < 2147483648) : x2 + 1 < 2147483648 := by omega
theorem zo_2323 {x0 x1 : Int} {x2 : Nat} (h0 : x0 + x1 = (x2 : Int)) : 0 ≤ x0 + x1 := by omega
theorem zo_2332 {x1 x2 : Int} {x0 : Nat} (h0 : x0 ≤ 24) (h1 : x1 = (x0 : Int)) (h2 : x2 < x1) (h3 : x1 < 2147483648) : x2 + 1 < 2147483648 := by omega
theorem zo_2333 {x1 x2 x3 x4 : Int} {x0 x5 : Nat} (h0 : x0 ≤ 24) (h1 : x1 = (x0 : Int)) (h2 : x2 < x1) (h3 : x3 = x2) (h4 : x4 = (x5 : Int)) (h5 : x3 = x4) (h6 : x3 < 2147483648) (h7 : 0 ≤ x2) : x5 = x2.toNat := by omega
theorem zo_2336 {x0 : Int} {x1 : Nat} (h0 : x0 = (x1 : Int)) (h1 : -2147483648 ≤ x0) : 0 ≤ x0 := by omega
theorem zo_2341 {x0 x1 : Int} (h0 : x0 < 2147483648) (h1 : x0 ≤ x1) (h2 : x1 ≤ 63) : x0 - 1 < (64 : Int) := by omega
theorem zo_2343 {x0 x1 x2 : Int} (h0 : x0 = x1) (h1 : 0 ≤ x1) (h2 : x2 = x0) (h3 : x2 < 2147483648) : x2 = x1 := by omega
theorem zo_2344 {x0 x1 x2 : Int} (h0 : x0 = x1) (h1 : x2 = x0) (h2 : x2 < 2147483648) : x1 < 2147483648 := by omega
theorem zo_2345 {x0 x1 : Int} (h0 : x0 < 2147483648) (h1 : x0 ≤ x1) (h2 : x1 ≤ 63) : x0 < (64 : Int) := by omega
theorem zo_2360 {x0 : Int} {x1 : Nat} (h0 : -2147483648 ≤ x0) (h1 : x0 = (x1 : Int)) : 0 ≤ x0 := by omega
theorem zo_2373 {x0 : Int} {x1 : Nat} (h0 : x0 < 2147483648) (h1 : x0 ≤ (x1 : Int)) (h2 : x1 ≤ 6) : x0 + 1 < 2147483648 := by omega
theorem zo_2374 {x0 x1 : Int} {x2 : Nat} (h0 : x0 < x1) (h1 : x0 < 2147483648) (h2 : x0 ≤ (x2 : Int)) (h3 : x1 = (x2 : Int)) : x0 + 1 ≤ (x2 : Int) := by omega
theorem zo_2385 {x1 x2 : Int} {x0 : Nat} (h0 : x0 ≤ 27) (h1 : x1 ≤ x2) (h2 : x1 = (x0 : Int)) (h3 : 0 ≤ x2) : (x0 : Int) ≤ x2 := by omega
theorem zo_2386 {x1 x2 : Int} {x0 : Nat} (h0 : x0 ≤ 27) (h1 : x1 < x2) (h2 : x2 = (x0 : Int)) (h3 : x1 < 2147483648) (h4 : x1 ≤ (x0 : Int)) : x1 < (27 : Int) := by omega
theorem zo_2387 {x0 x1 : Int} {x2 : Nat} (h0 : x0 < x1) (h1 : x1 = (x2 : Int)) (h2 : x0 < 2147483648) (h3 : 0 ≤ x0) (h4 : x0 ≤ (x2 : Int)) : x0.toNat < x2 := by omega
theorem zo_2397 {x0 x1 : Int} {x2 x3 : Nat} (h0 : x0 < x1) (h1 : x1 = (x2 : Int)) (h2 : ((x2 : Int) - x0).toNat < x3 + 1) (h3 : x0 < 2147483648) (h4 : x0 ≤ (x2 : Int)) : ((x2 : Int) - (x0 + 1)).toNat < x3 := by omega
theorem zo_2398 {x0 x1 : Int} {x2 : Nat} (h0 : x0 = x1) (h1 : x1 = (x2 : Int)) (h2 : x1 < 2147483648) : x0 = (x2 : Int) := by omega
theorem zo_2399 {x1 x2 : Int} {x0 x3 : Nat} (h0 : x0 ≤ 27) (h1 : x1 ≤ x2) (h2 : x1 = (x0 : Int)) (h3 : x3 < x0) (h4 : 0 ≤ x2) : (x3 : Int) < x2 := by omega
theorem zo_2400 {x1 x2 : Int} {x0 : Nat} (h0 : x0 ≤ 27) (h1 : x1 < x2) (h2 : x2 = (x0 : Int)) (h3 : x1 < 2147483648) : x1 + 1 < 2147483648 := by omega
theorem zo_2401 {x0 x1 : Int} {x2 x3 : Nat} (h0 : x0 < x1) (h1 : x1 = (x2 : Int)) (h2 : ((x2 : Int) - x0).toNat < x3 + 1) (h3 : x0 < 2147483648) : ((x2 : Int) - (x0 + 1)).toNat < x3 := by omega
theorem zo_2412 {x1 : Int} {x0 : Nat} (h0 : x0 ≤ 24) (h1 : x1 < 2147483648) (h2 : x1 ≤ (x0 : Int)) : x1 + 1 < 2147483648 := by omega
theorem zo_2416 {x0 x2 : Int} {x1 : Nat} (h0 : x0 = (x1 : Int)) (h1 : 0 ≤ x2) (h2 : x2 < x0) : x2.toNat < x1 := by omega
theorem zo_2418 {x0 : Nat} (h0 : 1 ≤ x0) : (x0 : Int) ≠ 0 := by omega
theorem zo_2422 {x0 x1 : Nat} (h0 : (x0 : Int) < (x1 : Int)) : x0 < x1 := by omega
theorem zo_2432 {x0 : Int} (h0 : 1 ≤ x0) : -9223372036854775808 ≤ x0 - 1 := by omega
theorem zo_2435 {x0 : Int} (h0 : x0 ≤ 6) : x0 - 1 < 2147483648 := by omega
theorem zo_2436 {x0 : Int} (h0 : x0 ≤ 6) : x0 - 1 < 9223372036854775808 := by omega
theorem zo_2447 {x0 x1 x2 x3 : Int} (h0 : x0 ≤ 24) (h1 : x1 ≤ x2 - 1) (h2 : x3 < x0) (h3 : x2 ≤ 6) : 6 * x3 + x1 < (144 : Int) := by omega
theorem zo_2451 {x0 : Int} (h0 : x0 < 64) : x0 < (64 : Int) := by omega
theorem zo_2452 {x0 x1 x2 : Int} (h0 : x0 = x1) (h1 : 0 ≤ x2) (h2 : 0 ≤ x1) : 0 ≤ 64 * x0 + x2 := by omega
theorem zo_2454 {x0 : Int} (h0 : x0 < 64) : x0 + 1 < 2147483648 := by omega
theorem zo_2455 {x0 : Int} {x1 : Nat} (h0 : x0 < 64) (h1 : (64 - x0 : Int).toNat < x1 + 1) (h2 : 0 ≤ x0) : (64 - (x0 + 1) : Int).toNat < x1 := by omega
theorem zo_2456 {x0 x1 : Int} (h0 : x0 = x1) (h1 : x1 = 12) : -2147483648 ≤ x0 - 1 := by omega
theorem zo_2463 {x0 : Int} (h0 : 64 ≤ x0) : 0 ≤ x0 := by omega
theorem zo_2464 {x0 : Int} (h0 : x0 < 768) : x0 < (768 : Int) := by omega
theorem zo_2465 {x0 : Int} (h0 : 64 ≤ x0) : 0 ≤ x0 - 64 := by omega
theorem zo_2466 {x0 : Int} (h0 : x0 < 768) : x0 - 64 < (768 : Int) := by omega
theorem zo_2467 {x0 : Int} (h0 : 64 ≤ x0) : -2147483648 ≤ x0 + 1 := by omega
theorem zo_2468 {x0 : Int} (h0 : x0 < 768) : x0 + 1 < 2147483648 := by omega
theorem zo_2469 {x0 : Int} (h0 : 64 ≤ x0) : 64 ≤ x0 + 1 := by omega
theorem zo_2470 {x0 : Int} {x1 : Nat} (h0 : x0 < 768) (h1 : (768 - x0 : Int).toNat < x1 + 1) (h2 : 64 ≤ x0) : (768 - (x0 + 1) : Int).toNat < x1 := by omega
theorem zo_2479 {x0 x1 : Int} (h0 : x0 = 1 ∧ 1 < x1 ∨ x0 = 0 ∧ x1 = 1 ∨ x0 = -1 ∧ x1 < 1) : -2147483648 ≤ x0 := by omega
theorem zo_2480 {x0 x1 : Int} (h0 : x0 = 1 ∧ 1 < x1 ∨ x0 = 0 ∧ x1 = 1 ∨ x0 = -1 ∧ x1 < 1) : x0 < 2147483648 := by omega
theorem zo_2491 {x0 : Int} (h0 : x0 < 64) : x0 < 2147483648 := by omega
theorem zo_2492 {x0 x1 x2 : Int} (h0 : x0 = x1) (h1 : x2 = x0 + 1) (h2 : 0 ≤ x1) (h3 : -2147483648 ≤ x2) : 0 ≤ x2 := by omega
theorem zo_2493 {x0 x1 x2 x3 : Int} (h0 : x0 = x1) (h1 : x2 = x0 + 1) (h2 : 0 ≤ x3) (h3 : x1 ≤ x3) (h4 : x2 < 2147483648) : x2 ≤ x3 + 1 := by omega
theorem zo_2494 {x0 : Int} (h0 : x0 < 64) : x0 < 64 := by omega
theorem zo_2497 {x0 : Int} (h0 : x0 = 0) : x0 ≤ 0 := by omega
theorem zo_2498 {x0 : Int} (h0 : x0 ≤ 6) : x0 < (7 : Int) := by omega
theorem zo_2500 {x0 x1 x2 x3 : Int} (h0 : x0 ≤ x1) (h1 : x0 = x2) (h2 : x3 = x2) (h3 : x3 < 2147483648) (h4 : -1 ≤ x1) : 0 ≤ x1 - x3 := by omega
theorem zo_2502 {x0 : Int} (h0 : -1 ≤ x0) : -2147483648 ≤ x0 + (-1) := by omega
theorem zo_2503 {x0 : Int} (h0 : x0 ≤ 6) : x0 + (-1) < 2147483648 := by omega
theorem zo_2504 {x0 : Int} (h0 : x0 ≤ 6) : x0 + (-1) ≤ 6 := by omega
theorem zo_2507 {x0 : Int} (h0 : x0 < 7) : x0 < (7 : Int) := by omega
theorem zo_2508 {x0 : Int} (h0 : x0 < 7) : x0 + 1 < 2147483648 := by omega
theorem zo_2509 {x0 : Int} {x1 : Nat} (h0 : x0 < 7) (h1 : (7 - x0 : Int).toNat < x1 + 1) (h2 : 0 ≤ x0) : (7 - (x0 + 1) : Int).toNat < x1 := by omega
theorem zo_2510 {x0 : Int} (h0 : x0 = 0) : x0 < (7 : Int) := by omega
theorem zo_2511 {x0 : Int} (h0 : x0 = 0) : x0 + 1 < 2147483648 := by omega
theorem zo_2512 {x0 : Int} {x1 : Nat} (h0 : x0 = 0) (h1 : (7 - x0 : Int).toNat < x1 + 1) (h2 : 0 ≤ x0) : (7 - (x0 + 1) : Int).toNat < x1 := by omega
theorem zo_2516 {x0 : Nat} (h0 : 1 ≤ x0) : 0 < x0 := by omega
theorem zo_2540 {x0 x1 : Nat} : x0 + (x1 + 1) = x0 + 1 + x1 := by omega
theorem zo_2541 {x0 x1 : Nat} (h0 : x0 < x1) : x0 < x1 + 1 := by omega
theorem zo_2544 {x0 x1 : Int} (h0 : x0 ≤ x1) : x0 ≤ x1 := by omega
theorem zo_2549 {x0 : Nat} (h0 : x0 < 31) : x0 + 1 ≤ 31 := by omega
theorem zo_2559 {x0 x1 : Int} (h0 : x0 < x1) : x0 + 1 ≤ x1 := by omega
theorem zo_2560 {x0 x1 : Int} (h0 : x0 ≤ 2 * x1) : x0 ≤ 2 * x1 := by omega
theorem zo_2583 {x1 x2 : Int} {x0 : Nat} (h0 : x0 ≤ 24) (h1 : x1 ≤ 24) (h2 : x1 = (x0 : Int)) (h3 : x1 ≤ x2) (h4 : 0 ≤ x2) (h5 : x2 ≤ x1) : x2 = (x0 : Int) := by omega
theorem zo_2584 {x0 x1 x2 x3 : Int} (h0 : x0 = x1) (h1 : x1 = x2) (h2 : x3 < x2) : x3 < x0 := by omega
theorem zo_2585 {x0 x1 x2 : Int} (h0 : x0 ≤ 24) (h1 : x1 < x0) (h2 : x2 ≤ x1) : x2 < (24 : Int) := by omega
theorem zo_2586 {x0 x1 x2 x3 : Int} (h0 : x0 = x1) (h1 : x2 ≤ 24) (h2 : x3 < x2) (h3 : x1 ≤ x3) (h4 : x1 < 2147483648) : x0 + 1 < 2147483648 := by omega
theorem zo_2587 {x0 x2 : Int} {x1 : Nat} (h0 : x0 ≤ 64) (h1 : x0 = (x1 : Int)) (h2 : x2 < x0) : x2 < (x1 : Int) := by omega
theorem zo_2588 {x0 x1 x2 : Int} {x3 : Nat} (h0 : x0 ≤ 24) (h1 : x1 < x0) (h2 : x2 = x1) (h3 : x2 = (x3 : Int)) (h4 : x2 ≤ x1) (h5 : x2 < 2147483648) (h6 : 0 ≤ x1) : x3 = x1.toNat := by omega
theorem zo_2589 {x0 x1 x2 x4 : Int} {x3 : Nat} (h0 : x0 = x1) (h1 : x1 = x2) (h2 : x2 ≤ 64) (h3 : x2 = (x3 : Int)) (h4 : x4 < x0) : x4 < (x3 : Int) := by omega
theorem zo_2590 {x0 x2 : Int} {x1 : Nat} (h0 : x0 = (x1 : Int)) (h1 : 0 ≤ x2) (h2 : x0 ≠ x2) : x1 ≠ x2.toNat := by omega
theorem zo_2603 {x1 x2 : Int} {x0 : Nat} (h0 : x0 ≤ 30) (h1 : x1 < (x0 : Int)) (h2 : x2 = x1) (h3 : x2 < 2147483648) : x2 < (64 : Int) := by omega
theorem zo_2607 {x0 x1 x2 x3 : Int} (h0 : x0 = x1) (h1 : x2 = x0) (h2 : x1 = x3) (h3 : x3 = 0) : x2 = 0 := by omega
theorem zo_2611 {x1 x2 : Int} {x0 : Nat} (h0 : x0 ≤ 27) (h1 : x1 = (x0 : Int)) (h2 : x1 ≤ x2) (h3 : x2 < 2147483648) (h4 : 0 ≤ x2) (h5 : x2 ≤ (x0 : Int)) : x2.toNat = x0 := by omega
theorem zo_2612 {x1 x2 : Int} {x0 : Nat} (h0 : x0 ≤ 27) (h1 : x1 < 2147483648) (h2 : x1 ≤ (x0 : Int)) (h3 : x2 ≤ 2496) : x2 + x1 < (2560 : Int) := by omega
theorem zo_2613 {x0 x1 : Int} (h0 : 0 ≤ x0) (h1 : 0 ≤ x1) : ((x1 + x0).toNat : Int) = x1 + (x0.toNat : Int) := by omega
theorem zo_2614 {x1 x2 : Int} {x0 : Nat} (h0 : x0 ≤ 27) (h1 : x1 < 2147483648) (h2 : x2 < 2147483648) (h3 : x2 ≤ (x0 : Int)) (h4 : x1 < (x0 : Int)) : 64 * x2 + x1 < (4096 : Int) := by omega
theorem zo_2615 {x1 x2 x3 : Int} {x0 : Nat} (h0 : x0 ≤ 27) (h1 : x1 = (x0 : Int)) (h2 : x1 ≤ x2) (h3 : 0 ≤ x2) : (x0 : Int) ≤ x2 ∨ x3 = 0 := by omega
theorem zo_2616 {x0 x2 : Int} {x1 : Nat} (h0 : x0 = 0) : (x1 : Int) ≤ x2 ∨ x0 = 0 := by omega
theorem zo_2626 {x0 : Int} (h0 : 0 ≤ x0) : 0 ≤ 64 * x0 := by omega
theorem zo_2634 {x1 : Int} {x0 : Nat} (h0 : x0 ≤ 27) (h1 : x1 < 2147483648) (h2 : x1 < (x0 : Int)) : x1 < (64 : Int) := by omega
theorem zo_2635 {x1 : Int} {x0 : Nat} (h0 : x0 ≤ 27) (h1 : x1 < 2147483648) (h2 : x1 < (x0 : Int)) : 64 * x1 + x1 < (4096 : Int) := by omega
theorem zo_2636 {x0 x1 : Int} (h0 : 1 ≤ x0) (h1 : x1 = x0) : x1 ≠ 0 := by omega
theorem zo_2639 {x0 x1 x2 : Int} (h0 : 0 ≤ x0) (h1 : -2147483648 ≤ x1) (h2 : x0 < x1) (h3 : 0 ≤ x2) : 0 ≤ x2 + x1 := by omega
theorem zo_2640 {x0 x1 : Int} (h0 : 0 ≤ x0) (h1 : x0 < x1) : 0 ≤ 64 * x1 + x0 := by omega
theorem zo_2641 {x1 x2 : Int} {x0 : Nat} (h0 : x0 ≤ 27) (h1 : x1 < 2147483648) (h2 : x2 < 2147483648) (h3 : x1 ≤ (x0 : Int)) (h4 : x2 < (x0 : Int)) : 64 * x1 + x2 < (4096 : Int) := by omega
theorem zo_2646 {x0 : Int} {x1 : Nat} (h0 : x0 = 0) : ¬ ((x1 : Int) < x0) := by omega
theorem zo_2648 {x0 : Int} {x1 : Nat} (h0 : x0 ≤ 8) (h1 : (x1 : Int) < x0) : (x1 : Int) < 8 := by omega
theorem zo_2661 {x0 : Int} (h0 : x0 < 512) : x0 < (512 : Int) := by omega
theorem zo_2664 {x0 : Int} (h0 : x0 < 8) : x0 < (8 : Int) := by omega
theorem zo_2667 {x0 : Int} (h0 : x0 < 24) : x0 < (24 : Int) := by omega
theorem zo_2680 {x0 : Int} {x1 : Nat} (h0 : x0 = (x1 : Int)) (h1 : -2147483648 ≤ x0) (h2 : x0 < 2147483648) : x0.toNat = x1 := by omega
theorem zo_2681 {x0 x1 : Int} (h0 : x0 = x1) (h1 : 1 ≤ x1) (h2 : x0 ≤ 0) : False := by omega
theorem zo_2689 {x0 : Nat} (h0 : x0 ≤ 27) : x0 ≤ 64 := by omega
theorem zo_2691 {x0 : Int} {x1 : Nat} (h0 : x0 = (x1 : Int)) : -2147483648 ≤ x0 := by omega
theorem zo_2694 {x0 x1 : Int} (h0 : x0 = x1) (h1 : x1 = 0) (h2 : 0 < x0) : False := by omega
theorem zo_2697 {x1 x2 : Int} {x0 x3 : Nat} (h0 : x0 ≤ 27) (h1 : x1 ≤ x2) (h2 : x3 < x0) (h3 : x1 = (x0 : Int)) (h4 : 0 ≤ x2) : (x3 : Int) < x2 := by omega
theorem zo_2698 {x1 : Int} {x0 : Nat} (h0 : x0 ≤ 27) (h1 : x1 < 2147483648) (h2 : x1 ≤ (x0 : Int)) : x1 < (2560 : Int) := by omega
theorem zo_2699 {x0 : Int} : (x0.toNat : Int) = 0 + (x0.toNat : Int) := by omega
theorem zo_2700 {x0 x1 : Int} (h0 : x0 = x1) (h1 : x0 ≤ 0) (h2 : 1 ≤ x1) : False := by omega
theorem zo_2704 {x0 x1 : Int} (h0 : x0 = x1) (h1 : -2147483648 ≤ x0) (h2 : x0 < 2147483648) (h3 : x1 = 0) (h4 : x0 ≠ 0) : False := by omega
theorem zo_2705 {x0 x1 x2 x3 : Int} (h0 : x0 = x1) (h1 : x1 = x2) (h2 : x3 = x0) (h3 : x2 = 0) : x3 = 0 := by omega
theorem zo_2720 {x0 x1 x2 : Int} (h0 : x0 = x1) (h1 : x1 = x2) (h2 : 0 ≤ x2) : 0 ≤ x0 := by omega
theorem zo_2724 {x0 x1 x2 x3 : Int} (h0 : x0 = x1) (h1 : x1 = x2) (h2 : x3 = x0) (h3 : 0 ≤ x2) : -2147483648 ≤ x3 + 1 := by omega
theorem zo_2734 {x0 x1 : Nat} (h0 : x0 < x1 + 1) (h1 : ¬ (x0 = x1)) : x0 < x1 := by omega
theorem zo_2795 {x1 x2 : Int} {x0 : Nat} (h0 : x0 ≤ 27) (h1 : x1 = (x0 : Int)) (h2 : x2 < x1) (h3 : x2 < 2147483648) (h4 : x2 ≤ (x0 : Int)) : x2 ≤ 26 := by omega
theorem zo_2839 {x1 x2 : Int} {x0 : Nat} (h0 : x0 ≤ 27) (h1 : x1 < 2147483648) (h2 : x1 ≤ (x0 : Int)) (h3 : x2 ≤ 0) : x2 + x1 < (64 : Int) := by omega
theorem zo_2731 {x0 : Int} (h0 : x0 = 2) (h1 : x0 ≠ 2) : False := by omega
theorem zo_2856 {x0 : Nat} (h0 : x0 ≤ 6) : x0 < 7 := by omega
theorem zo_2867 {x0 x1 : Nat} (h0 : x0 < x1) : 0 < x1 := by omega
theorem zo_2869 {x0 x1 : Nat} (h0 : x0 ≤ 6) (h1 : x1 < x0) : x1 < 6 := by omega
theorem zo_2870 {x0 : Int} (h0 : 0 ≤ x0) (h1 : x0 ≤ 6) : x0.toNat < 7 := by omega
theorem zo_2921 {x1 : Int} {x0 : Nat} (h0 : x0 ≤ 6) (h1 : x1 < 2147483648) (h2 : x1 ≤ (x0 : Int)) : x1 + 1 < 2147483648 := by omega
theorem zo_2924 {x1 : Int} {x0 : Nat} (h0 : x0 ≤ 64) (h1 : x1 < 2147483648) (h2 : x1 ≤ (x0 : Int)) : x1 + 1 < 2147483648 := by omega
theorem zo_2925 {x0 x1 : Int} {x2 : Nat} (h0 : x0 < x1) (h1 : x0 < 2147483648) (h2 : x1 = (x2 : Int)) (h3 : x0 ≤ (x2 : Int)) : x0 + 1 ≤ (x2 : Int) := by omega
theorem zo_2926 {x0 x1 : Int} {x2 x3 : Nat} (h0 : x0 < x1) (h1 : ((x2 : Int) - x0).toNat < x3 + 1) (h2 : x0 < 2147483648) (h3 : x1 = (x2 : Int)) (h4 : x0 ≤ (x2 : Int)) : ((x2 : Int) - (x0 + 1)).toNat < x3 := by omega
theorem zo_2935 {x1 x2 : Int} {x0 : Nat} (h0 : x0 ≤ 6) (h1 : x1 < 2147483648) (h2 : x2 < 2147483648) (h3 : x2 ≤ (x0 : Int)) (h4 : x1 ≤ x2) : x1 + 1 < 2147483648 := by omega
theorem zo_2948 {x0 x1 x2 : Int} {x3 : Nat} (h0 : x0 < x1) (h1 : -2147483648 ≤ x0) (h2 : x0 < 2147483648) (h3 : 0 ≤ x2) (h4 : x2 ≤ x0) (h5 : x0 ≤ (x3 : Int)) (h6 : x1 = (x3 : Int)) : x0.toNat < x3 := by omega
theorem zo_2961 {x0 x1 : Int} {x2 : Nat} (h0 : x0 ≤ x1) (h1 : x1 < 2147483648) (h2 : x0 = (x2 : Int)) (h3 : x2 ≤ 6) (h4 : 0 ≤ x1) (h5 : x1 ≤ (x2 : Int)) : x1.toNat = x2 := by omega
theorem zo_2962 {x0 x1 : Int} {x2 : Nat} (h0 : x0 < x1) (h1 : x0 < 2147483648) (h2 : x1 = (x2 : Int)) (h3 : 0 ≤ x0) (h4 : x0 ≤ (x2 : Int)) : x0.toNat < x2 := by omega
theorem zo_2963 {x0 x1 : Int} {x2 : Nat} (h0 : x0 < x1) (h1 : x0 < 2147483648) (h2 : x1 = (x2 : Int)) (h3 : x2 ≤ 6) (h4 : x0 ≤ (x2 : Int)) : x0 < (6 : Int) := by omega
theorem zo_2965 {x0 : Int} {x1 : Nat} (h0 : x0 < 2147483648) (h1 : x1 ≤ 6) (h2 : x0 ≤ (x1 : Int)) : x0 + 1 < 2147483648 := by omega
theorem zo_2967 {x0 x1 : Int} {x2 : Nat} (h0 : x0 ≤ x1) (h1 : x0 = (x2 : Int)) (h2 : -1 ≤ x1) : 0 ≤ x1 := by omega
theorem zo_2986 {x0 x1 : Int} {x2 : Nat} (h0 : x0 < x1) (h1 : x0 < 2147483648) (h2 : x1 = (x2 : Int)) (h3 : x2 ≤ 6) (h4 : 0 ≤ x0) (h5 : x0 ≤ (x2 : Int)) : (x0 + 1).toNat ≤ 6 := by omega
theorem zo_2987 {x0 x1 : Int} {x2 : Nat} (h0 : x0 < x1) (h1 : x0 < 2147483648) (h2 : x1 = (x2 : Int)) (h3 : x2 ≤ 6) (h4 : 0 ≤ x0) (h5 : x0 ≤ (x2 : Int)) : x0.toNat + 1 ≤ 6 := by omega
theorem zo_2991 {x0 : Int} (h0 : x0 = 0) (h1 : x0 = 2) : False := by omega
theorem zo_2995 {x0 : Int} (h0 : x0 = 2) (h1 : x0 = 0) : False := by omega
theorem zo_3018 {x0 : Int} (h0 : 0 ≤ x0) (h1 : x0 < 31) : x0.toNat < 31 := by omega
theorem zo_3093 {x0 : Int} {x1 : Nat} (h0 : x0 < (x1 : Int)) (h1 : x1 ≤ 700) (h2 : x0 < 2147483648) : x0 + 1 < 2147483648 := by omega
theorem zo_3096 {x0 x2 : Int} {x1 : Nat} (h0 : x0 < (x1 : Int)) (h1 : x2 = x0 + 1) (h2 : x0 < 2147483648) : x2 ≤ (x1 : Int) := by omega
theorem zo_3109 {x0 x1 : Int} (h0 : x0 = x1) (h1 : 1 ≤ x1) : x0.toNat = x1.toNat := by omega
theorem zo_3115 {x0 x1 : Int} (h0 : x0 < x1) (h1 : 0 ≤ x0) (h2 : -2147483648 ≤ x1) : 0 ≤ x1 := by omega
