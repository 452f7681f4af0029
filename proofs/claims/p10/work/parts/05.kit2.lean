/-! numbers: an int or long and the integer that it is -/
theorem jrg {x : Int32} {A : Int} (h : x.toInt = A) : -2147483648 ≤ A ∧ A ≤ 2147483647 := by
  have h1 := Int32.le_toInt x
  have h2 := Int32.toInt_lt x
  omega
theorem jrgL {x : Int64} {A : Int} (h : x.toInt = A) : -9223372036854775808 ≤ A ∧ A ≤ 9223372036854775807 := by
  have h1 := Int64.le_toInt x
  have h2 := Int64.toInt_lt x
  omega
theorem jbm {z : Int} (h1 : -2147483648 ≤ z) (h2 : z ≤ 2147483647) : z.bmod (2 ^ 32) = z := by
  rw [Int.bmod_eq_of_le] <;> omega
theorem jbmL {z : Int} (h1 : -9223372036854775808 ≤ z) (h2 : z ≤ 9223372036854775807) : z.bmod (2 ^ 64) = z := by
  rw [Int.bmod_eq_of_le] <;> omega
theorem jadd {x a b : Int32} {A B : Int} (e : x = a + b) (ha : a.toInt = A) (hb : b.toInt = B) (h1 : -2147483648 ≤ A + B) (h2 : A + B ≤ 2147483647) : x.toInt = A + B := by
  rw [e, Int32.toInt_add, ha, hb]; exact jbm h1 h2
theorem jsub {x a b : Int32} {A B : Int} (e : x = a - b) (ha : a.toInt = A) (hb : b.toInt = B) (h1 : -2147483648 ≤ A - B) (h2 : A - B ≤ 2147483647) : x.toInt = A - B := by
  rw [e, Int32.toInt_sub, ha, hb]; exact jbm h1 h2
theorem jmul {x a b : Int32} {A B : Int} (e : x = a * b) (ha : a.toInt = A) (hb : b.toInt = B) (h1 : -2147483648 ≤ A * B) (h2 : A * B ≤ 2147483647) : x.toInt = A * B := by
  rw [e, Int32.toInt_mul, ha, hb]; exact jbm h1 h2
theorem jneg {x a : Int32} {A : Int} (e : x = -a) (ha : a.toInt = A) (h1 : -2147483648 < A) : x.toInt = -A := by
  have := jrg ha
  rw [e, Int32.toInt_neg, ha]; exact jbm (by omega) (by omega)
theorem jdiv {x a b : Int32} {A B : Int} (e : x = a / b) (ha : a.toInt = A) (hb : b.toInt = B) (h0 : 0 ≤ A) (h1 : 0 < B) : x.toInt = A / B := by
  have := jrg ha
  have h3 : 0 ≤ A / B := Int.ediv_nonneg h0 (by omega)
  have h4 : A / B ≤ A := Int.ediv_le_self B h0
  rw [e, Int32.toInt_div, ha, hb, Int.tdiv_eq_ediv_of_nonneg h0]; exact jbm (by omega) (by omega)
theorem jrem {x a b : Int32} {A B : Int} (e : x = a - a / b * b) (ha : a.toInt = A) (hb : b.toInt = B) (h0 : 0 ≤ A) : x.toInt = A % B := by
  rw [e, rem_toInt, ha, hb, Int.tmod_eq_emod_of_nonneg h0]
theorem jtoL {x : Int32} {A : Int} (h : x.toInt = A) : x.toInt64.toInt = A := by rw [Int32.toInt_toInt64, h]
theorem jlt {x y : Int32} {A B : Int} (h : x < y) (ha : x.toInt = A) (hb : y.toInt = B) : A < B := by rw [← ha, ← hb]; exact Int32.lt_iff_toInt_lt.mp h
theorem jle {x y : Int32} {A B : Int} (h : x ≤ y) (ha : x.toInt = A) (hb : y.toInt = B) : A ≤ B := by rw [← ha, ← hb]; exact Int32.le_iff_toInt_le.mp h
theorem jnlt {x y : Int32} {A B : Int} (h : ¬ x < y) (ha : x.toInt = A) (hb : y.toInt = B) : B ≤ A := by
  rw [← ha, ← hb]; rw [Int32.lt_iff_toInt_lt] at h; omega
theorem jnle {x y : Int32} {A B : Int} (h : ¬ x ≤ y) (ha : x.toInt = A) (hb : y.toInt = B) : B < A := by
  rw [← ha, ← hb]; rw [Int32.le_iff_toInt_le] at h; omega
theorem jeq {x y : Int32} {A B : Int} (h : x = y) (ha : x.toInt = A) (hb : y.toInt = B) : A = B := by rw [← ha, ← hb, h]
theorem jne {x y : Int32} {A B : Int} (h : ¬ x = y) (ha : x.toInt = A) (hb : y.toInt = B) : A ≠ B := by
  rw [← ha, ← hb]; exact fun q => h (Int32.toInt_inj.mp q)
theorem jsame {x y : Int32} {A B : Int} (ha : x.toInt = A) (hb : y.toInt = B) (h : A = B) : x = y := Int32.toInt_inj.mp (by rw [ha, hb, h])
theorem jin {x : Int32} {A : Int} {n : Nat} (ha : x.toInt = A) (h0 : 0 ≤ A) (h1 : A < n) : vp_in x n := vp_in_iff.mpr (by rw [ha]; exact ⟨h0, h1⟩)
theorem jnat {x : Int32} {A : Int} {n : Nat} (ha : x.toInt = A) (h1 : A < n) (h2 : 0 < n) : x.toNatClampNeg < n := by
  show x.toInt.toNat < n
  omega
theorem jcmp {x y : Int64} {A B : Int} (ha : x.toInt = A) (hb : y.toInt = B) : (A < B ∧ lg_cmp x y = -1) ∨ (A = B ∧ lg_cmp x y = 0) ∨ (B < A ∧ lg_cmp x y = 1) := by
  unfold lg_cmp
  simp only [gt_iff_lt, Int64.lt_iff_toInt_lt, ← Int64.toInt_inj, ha, hb]
  rcases Int.lt_trichotomy A B with h | h | h
  · exact Or.inl ⟨h, by rw [if_neg (by omega), if_neg (by omega)]⟩
  · exact Or.inr (Or.inl ⟨h, by rw [if_neg (by omega), if_pos h]⟩)
  · exact Or.inr (Or.inr ⟨h, by rw [if_pos h]⟩)
theorem jclt {x y : Int64} {A B : Int} (h : lg_cmp x y < 0) (ha : x.toInt = A) (hb : y.toInt = B) : A < B := by
  rcases jcmp ha hb with ⟨h1, e⟩ | ⟨h1, e⟩ | ⟨h1, e⟩ <;> rw [e] at h <;> first | exact h1 | exact absurd h (by decide)
theorem jcnlt {x y : Int64} {A B : Int} (h : ¬ lg_cmp x y < 0) (ha : x.toInt = A) (hb : y.toInt = B) : B ≤ A := by
  rcases jcmp ha hb with ⟨h1, e⟩ | ⟨h1, e⟩ | ⟨h1, e⟩ <;> rw [e] at h <;> first | omega | exact absurd (by decide) h
theorem jcge {x y : Int64} {A B : Int} (h : 0 ≤ lg_cmp x y) (ha : x.toInt = A) (hb : y.toInt = B) : B ≤ A := by
  rcases jcmp ha hb with ⟨h1, e⟩ | ⟨h1, e⟩ | ⟨h1, e⟩ <;> rw [e] at h <;> first | omega | exact absurd h (by decide)
theorem jcnge {x y : Int64} {A B : Int} (h : ¬ 0 ≤ lg_cmp x y) (ha : x.toInt = A) (hb : y.toInt = B) : A < B := by
  rcases jcmp ha hb with ⟨h1, e⟩ | ⟨h1, e⟩ | ⟨h1, e⟩ <;> rw [e] at h <;> first | omega | exact absurd (by decide) h
theorem jcgt {x y : Int64} {A B : Int} (h : 0 < lg_cmp x y) (ha : x.toInt = A) (hb : y.toInt = B) : B < A := by
  rcases jcmp ha hb with ⟨h1, e⟩ | ⟨h1, e⟩ | ⟨h1, e⟩ <;> rw [e] at h <;> first | omega | exact absurd h (by decide)
theorem jcngt {x y : Int64} {A B : Int} (h : ¬ 0 < lg_cmp x y) (ha : x.toInt = A) (hb : y.toInt = B) : A ≤ B := by
  rcases jcmp ha hb with ⟨h1, e⟩ | ⟨h1, e⟩ | ⟨h1, e⟩ <;> rw [e] at h <;> first | omega | exact absurd (by decide) h
theorem jcle {x y : Int64} {A B : Int} (h : lg_cmp x y ≤ 0) (ha : x.toInt = A) (hb : y.toInt = B) : A ≤ B := by
  rcases jcmp ha hb with ⟨h1, e⟩ | ⟨h1, e⟩ | ⟨h1, e⟩ <;> rw [e] at h <;> first | omega | exact absurd h (by decide)
theorem jcnle {x y : Int64} {A B : Int} (h : ¬ lg_cmp x y ≤ 0) (ha : x.toInt = A) (hb : y.toInt = B) : B < A := by
  rcases jcmp ha hb with ⟨h1, e⟩ | ⟨h1, e⟩ | ⟨h1, e⟩ <;> rw [e] at h <;> first | omega | exact absurd (by decide) h
theorem jceq {x y : Int64} {A B : Int} (h : lg_cmp x y = 0) (ha : x.toInt = A) (hb : y.toInt = B) : A = B := by
  rcases jcmp ha hb with ⟨h1, e⟩ | ⟨h1, e⟩ | ⟨h1, e⟩ <;> rw [e] at h <;> first | omega | exact absurd h (by decide)
theorem jcne {x y : Int64} {A B : Int} (h : ¬ lg_cmp x y = 0) (ha : x.toInt = A) (hb : y.toInt = B) : A ≠ B := by
  rcases jcmp ha hb with ⟨h1, e⟩ | ⟨h1, e⟩ | ⟨h1, e⟩ <;> rw [e] at h <;> first | omega | exact absurd (by decide) h
theorem jz_0 : (0 : Int32).toInt = 0 := by decide
theorem jz_1 : (1 : Int32).toInt = 1 := by decide
theorem jz_2 : (2 : Int32).toInt = 2 := by decide
theorem jz_3 : (3 : Int32).toInt = 3 := by decide
theorem jz_4 : (4 : Int32).toInt = 4 := by decide
theorem jz_5 : (5 : Int32).toInt = 5 := by decide
theorem jz_6 : (6 : Int32).toInt = 6 := by decide
theorem jz_7 : (7 : Int32).toInt = 7 := by decide
theorem jz_8 : (8 : Int32).toInt = 8 := by decide
theorem jz_9 : (9 : Int32).toInt = 9 := by decide
theorem jz_10 : (10 : Int32).toInt = 10 := by decide
theorem jz_11 : (11 : Int32).toInt = 11 := by decide
theorem jz_12 : (12 : Int32).toInt = 12 := by decide
theorem jz_13 : (13 : Int32).toInt = 13 := by decide
theorem jz_14 : (14 : Int32).toInt = 14 := by decide
theorem jz_15 : (15 : Int32).toInt = 15 := by decide
theorem jz_16 : (16 : Int32).toInt = 16 := by decide
theorem jz_17 : (17 : Int32).toInt = 17 := by decide
theorem jz_18 : (18 : Int32).toInt = 18 := by decide
theorem jz_19 : (19 : Int32).toInt = 19 := by decide
theorem jz_20 : (20 : Int32).toInt = 20 := by decide
theorem jz_21 : (21 : Int32).toInt = 21 := by decide
theorem jz_22 : (22 : Int32).toInt = 22 := by decide
theorem jz_23 : (23 : Int32).toInt = 23 := by decide
theorem jz_24 : (24 : Int32).toInt = 24 := by decide
theorem jz_25 : (25 : Int32).toInt = 25 := by decide
theorem jz_26 : (26 : Int32).toInt = 26 := by decide
theorem jz_27 : (27 : Int32).toInt = 27 := by decide
theorem jz_28 : (28 : Int32).toInt = 28 := by decide
theorem jz_29 : (29 : Int32).toInt = 29 := by decide
theorem jz_30 : (30 : Int32).toInt = 30 := by decide
theorem jz_31 : (31 : Int32).toInt = 31 := by decide
theorem jz_32 : (32 : Int32).toInt = 32 := by decide
theorem jz_33 : (33 : Int32).toInt = 33 := by decide
theorem jz_34 : (34 : Int32).toInt = 34 := by decide
theorem jz_35 : (35 : Int32).toInt = 35 := by decide
theorem jz_36 : (36 : Int32).toInt = 36 := by decide
theorem jz_37 : (37 : Int32).toInt = 37 := by decide
theorem jz_38 : (38 : Int32).toInt = 38 := by decide
theorem jz_39 : (39 : Int32).toInt = 39 := by decide
theorem jz_40 : (40 : Int32).toInt = 40 := by decide
theorem jz_41 : (41 : Int32).toInt = 41 := by decide
theorem jz_42 : (42 : Int32).toInt = 42 := by decide
theorem jz_43 : (43 : Int32).toInt = 43 := by decide
theorem jz_44 : (44 : Int32).toInt = 44 := by decide
theorem jz_45 : (45 : Int32).toInt = 45 := by decide
theorem jz_46 : (46 : Int32).toInt = 46 := by decide
theorem jz_47 : (47 : Int32).toInt = 47 := by decide
theorem jz_48 : (48 : Int32).toInt = 48 := by decide
theorem jz_49 : (49 : Int32).toInt = 49 := by decide
theorem jz_50 : (50 : Int32).toInt = 50 := by decide
theorem jz_51 : (51 : Int32).toInt = 51 := by decide
theorem jz_52 : (52 : Int32).toInt = 52 := by decide
theorem jz_53 : (53 : Int32).toInt = 53 := by decide
theorem jz_54 : (54 : Int32).toInt = 54 := by decide
theorem jz_55 : (55 : Int32).toInt = 55 := by decide
theorem jz_56 : (56 : Int32).toInt = 56 := by decide
theorem jz_57 : (57 : Int32).toInt = 57 := by decide
theorem jz_58 : (58 : Int32).toInt = 58 := by decide
theorem jz_59 : (59 : Int32).toInt = 59 := by decide
theorem jz_60 : (60 : Int32).toInt = 60 := by decide
theorem jz_61 : (61 : Int32).toInt = 61 := by decide
theorem jz_62 : (62 : Int32).toInt = 62 := by decide
theorem jz_63 : (63 : Int32).toInt = 63 := by decide
theorem jz_64 : (64 : Int32).toInt = 64 := by decide
theorem jz_65 : (65 : Int32).toInt = 65 := by decide
theorem jz_66 : (66 : Int32).toInt = 66 := by decide
theorem jz_67 : (67 : Int32).toInt = 67 := by decide
theorem jz_68 : (68 : Int32).toInt = 68 := by decide
theorem jz_69 : (69 : Int32).toInt = 69 := by decide
theorem jz_70 : (70 : Int32).toInt = 70 := by decide
theorem jz_71 : (71 : Int32).toInt = 71 := by decide
theorem jz_72 : (72 : Int32).toInt = 72 := by decide
theorem jz_73 : (73 : Int32).toInt = 73 := by decide
theorem jz_74 : (74 : Int32).toInt = 74 := by decide
theorem jz_75 : (75 : Int32).toInt = 75 := by decide
theorem jz_76 : (76 : Int32).toInt = 76 := by decide
theorem jz_77 : (77 : Int32).toInt = 77 := by decide
theorem jz_78 : (78 : Int32).toInt = 78 := by decide
theorem jz_79 : (79 : Int32).toInt = 79 := by decide
theorem jz_80 : (80 : Int32).toInt = 80 := by decide
theorem jz_81 : (81 : Int32).toInt = 81 := by decide
theorem jz_82 : (82 : Int32).toInt = 82 := by decide
theorem jz_83 : (83 : Int32).toInt = 83 := by decide
theorem jz_84 : (84 : Int32).toInt = 84 := by decide
theorem jz_85 : (85 : Int32).toInt = 85 := by decide
theorem jz_86 : (86 : Int32).toInt = 86 := by decide
theorem jz_87 : (87 : Int32).toInt = 87 := by decide
theorem jz_88 : (88 : Int32).toInt = 88 := by decide
theorem jz_89 : (89 : Int32).toInt = 89 := by decide
theorem jz_90 : (90 : Int32).toInt = 90 := by decide
theorem jz_91 : (91 : Int32).toInt = 91 := by decide
theorem jz_92 : (92 : Int32).toInt = 92 := by decide
theorem jz_93 : (93 : Int32).toInt = 93 := by decide
theorem jz_94 : (94 : Int32).toInt = 94 := by decide
theorem jz_95 : (95 : Int32).toInt = 95 := by decide
theorem jz_96 : (96 : Int32).toInt = 96 := by decide
theorem jz_97 : (97 : Int32).toInt = 97 := by decide
theorem jz_98 : (98 : Int32).toInt = 98 := by decide
theorem jz_99 : (99 : Int32).toInt = 99 := by decide
theorem jz_100 : (100 : Int32).toInt = 100 := by decide
theorem jz_101 : (101 : Int32).toInt = 101 := by decide
theorem jz_102 : (102 : Int32).toInt = 102 := by decide
theorem jz_103 : (103 : Int32).toInt = 103 := by decide
theorem jz_104 : (104 : Int32).toInt = 104 := by decide
theorem jz_105 : (105 : Int32).toInt = 105 := by decide
theorem jz_106 : (106 : Int32).toInt = 106 := by decide
theorem jz_107 : (107 : Int32).toInt = 107 := by decide
theorem jz_108 : (108 : Int32).toInt = 108 := by decide
theorem jz_109 : (109 : Int32).toInt = 109 := by decide
theorem jz_110 : (110 : Int32).toInt = 110 := by decide
theorem jz_111 : (111 : Int32).toInt = 111 := by decide
theorem jz_112 : (112 : Int32).toInt = 112 := by decide
theorem jz_113 : (113 : Int32).toInt = 113 := by decide
theorem jz_114 : (114 : Int32).toInt = 114 := by decide
theorem jz_115 : (115 : Int32).toInt = 115 := by decide
theorem jz_116 : (116 : Int32).toInt = 116 := by decide
theorem jz_117 : (117 : Int32).toInt = 117 := by decide
theorem jz_118 : (118 : Int32).toInt = 118 := by decide
theorem jz_119 : (119 : Int32).toInt = 119 := by decide
theorem jz_120 : (120 : Int32).toInt = 120 := by decide
theorem jz_121 : (121 : Int32).toInt = 121 := by decide
theorem jz_122 : (122 : Int32).toInt = 122 := by decide
theorem jz_123 : (123 : Int32).toInt = 123 := by decide
theorem jz_124 : (124 : Int32).toInt = 124 := by decide
theorem jz_125 : (125 : Int32).toInt = 125 := by decide
theorem jz_126 : (126 : Int32).toInt = 126 := by decide
theorem jz_127 : (127 : Int32).toInt = 127 := by decide
theorem jz_128 : (128 : Int32).toInt = 128 := by decide
theorem jz_131 : (131 : Int32).toInt = 131 := by decide
theorem jz_136 : (136 : Int32).toInt = 136 := by decide
theorem jz_150 : (150 : Int32).toInt = 150 := by decide
theorem jz_160 : (160 : Int32).toInt = 160 := by decide
theorem jz_200 : (200 : Int32).toInt = 200 := by decide
theorem jz_255 : (255 : Int32).toInt = 255 := by decide
theorem jz_256 : (256 : Int32).toInt = 256 := by decide
theorem jz_350 : (350 : Int32).toInt = 350 := by decide
theorem jz_400 : (400 : Int32).toInt = 400 := by decide
theorem jz_500 : (500 : Int32).toInt = 500 := by decide
theorem jz_512 : (512 : Int32).toInt = 512 := by decide
theorem jz_1000 : (1000 : Int32).toInt = 1000 := by decide
theorem jz_1023 : (1023 : Int32).toInt = 1023 := by decide
theorem jz_1024 : (1024 : Int32).toInt = 1024 := by decide
theorem jz_1400 : (1400 : Int32).toInt = 1400 := by decide
theorem jz_3159 : (3159 : Int32).toInt = 3159 := by decide
theorem jz_4095 : (4095 : Int32).toInt = 4095 := by decide
theorem jz_4096 : (4096 : Int32).toInt = 4096 := by decide
theorem jz_9999 : (9999 : Int32).toInt = 9999 := by decide
theorem jz_10000 : (10000 : Int32).toInt = 10000 := by decide
theorem jz_10007 : (10007 : Int32).toInt = 10007 := by decide
theorem jz_10008 : (10008 : Int32).toInt = 10008 := by decide
theorem jz_20000 : (20000 : Int32).toInt = 20000 := by decide
theorem jz_65535 : (65535 : Int32).toInt = 65535 := by decide
theorem jz_65536 : (65536 : Int32).toInt = 65536 := by decide
theorem jz_99999999 : (99999999 : Int32).toInt = 99999999 := by decide
theorem jz_44444444 : (44444444 : Int32).toInt = 44444444 := by decide
theorem jz_1000000 : (1000000 : Int32).toInt = 1000000 := by decide
theorem jz_2000000000 : (2000000000 : Int32).toInt = 2000000000 := by decide
theorem jz_40503 : (40503 : Int32).toInt = 40503 := by decide
theorem jz_134217727 : (134217727 : Int32).toInt = 134217727 := by decide
theorem jz_m1 : (-1 : Int32).toInt = -1 := by decide
theorem jz_m2 : (-2 : Int32).toInt = -2 := by decide
theorem jz_m3 : (-3 : Int32).toInt = -3 := by decide
theorem jz_m4 : (-4 : Int32).toInt = -4 := by decide
theorem jz_m5 : (-5 : Int32).toInt = -5 := by decide
theorem jz_m9 : (-9 : Int32).toInt = -9 := by decide
theorem jz_m11 : (-11 : Int32).toInt = -11 := by decide
theorem jz_m12 : (-12 : Int32).toInt = -12 := by decide
theorem jz_m13 : (-13 : Int32).toInt = -13 := by decide
theorem jz_m14 : (-14 : Int32).toInt = -14 := by decide
theorem jz_m19 : (-19 : Int32).toInt = -19 := by decide
theorem jz_m100 : (-100 : Int32).toInt = -100 := by decide
theorem jz_m200 : (-200 : Int32).toInt = -200 := by decide
theorem jz_m2000000000 : (-2000000000 : Int32).toInt = -2000000000 := by decide
theorem jzl_0 : (0 : Int64).toInt = 0 := by decide
theorem jzl_1 : (1 : Int64).toInt = 1 := by decide
theorem jzl_2 : (2 : Int64).toInt = 2 := by decide
theorem jzl_3 : (3 : Int64).toInt = 3 := by decide
theorem jzl_4 : (4 : Int64).toInt = 4 := by decide
theorem jzl_5 : (5 : Int64).toInt = 5 := by decide
theorem jzl_6 : (6 : Int64).toInt = 6 := by decide
theorem jzl_7 : (7 : Int64).toInt = 7 := by decide
theorem jzl_8 : (8 : Int64).toInt = 8 := by decide
theorem jzl_9 : (9 : Int64).toInt = 9 := by decide
theorem jzl_12 : (12 : Int64).toInt = 12 := by decide
theorem jzl_19 : (19 : Int64).toInt = 19 := by decide
theorem jzl_20 : (20 : Int64).toInt = 20 := by decide
theorem jzl_50 : (50 : Int64).toInt = 50 := by decide
theorem jzl_60 : (60 : Int64).toInt = 60 := by decide
theorem jzl_99 : (99 : Int64).toInt = 99 := by decide
theorem jzl_200 : (200 : Int64).toInt = 200 := by decide
theorem jzl_500 : (500 : Int64).toInt = 500 := by decide
theorem jzl_999 : (999 : Int64).toInt = 999 := by decide
theorem jzl_9999 : (9999 : Int64).toInt = 9999 := by decide
theorem jzl_44444444 : (44444444 : Int64).toInt = 44444444 := by decide
theorem jzl_1000 : (1000 : Int64).toInt = 1000 := by decide
theorem jzl_16 : (16 : Int64).toInt = 16 := by decide
theorem jzl_13 : (13 : Int64).toInt = 13 := by decide
theorem jzl_m1 : (-1 : Int64).toInt = -1 := by decide
theorem jzl_m9 : (-9 : Int64).toInt = -9 := by decide
theorem jzl_m200 : (-200 : Int64).toInt = -200 := by decide
theorem jmask {x a : Int32} {m : Int32} (e : x = a &&& m) (k : Nat) (hm : m.toBitVec.toNat = 2 ^ k - 1) (hk : k ≤ 30) : 0 ≤ x.toInt ∧ x.toInt ≤ m.toInt := by
  obtain ⟨j, hj, e2⟩ := pk_andE a (m := m) k hm
  have h2 : (2 : Nat) ^ k ≤ 2 ^ 30 := Nat.pow_le_pow_right (by decide) hk
  have h3 : x.toInt = (j : Int) := by rw [e, e2]; exact nI_toInt (by omega)
  have h4 : m.toInt = (2 : Int) ^ k - 1 := by
    have h5 : m = nI (2 ^ k - 1) := by
      apply Int32.toBitVec_inj.mp
      apply BitVec.eq_of_toNat_eq
      rw [hm, pk_tn (by omega)]
    rw [h5, nI_toInt (by omega)]
    have : 1 ≤ (2 : Nat) ^ k := Nat.one_le_two_pow
    rw [Int.natCast_sub this]; simp
  rw [h3, h4]
  have : ((2 : Nat) ^ k : Int) = (2 : Int) ^ k := by norm_cast
  omega
theorem jmin {x a b : Int32} {A B : Int} (e : x = if b < a then b else a) (ha : a.toInt = A) (hb : b.toInt = B) : (x.toInt = A ∧ A ≤ B) ∨ (x.toInt = B ∧ B < A) := by
  by_cases h : b < a
  · rw [if_pos h] at e; exact Or.inr ⟨by rw [e, hb], jlt h hb ha⟩
  · rw [if_neg h] at e; exact Or.inl ⟨by rw [e, ha], jnlt h hb ha⟩
theorem jmax {x a b : Int32} {A B : Int} (e : x = if a < b then b else a) (ha : a.toInt = A) (hb : b.toInt = B) : (x.toInt = A ∧ B ≤ A) ∨ (x.toInt = B ∧ A < B) := by
  by_cases h : a < b
  · rw [if_pos h] at e; exact Or.inr ⟨by rw [e, hb], jlt h ha hb⟩
  · rw [if_neg h] at e; exact Or.inl ⟨by rw [e, ha], jnlt h ha hb⟩
theorem jnatl {x : Int32} {A : Int} {n : Nat} (ha : x.toInt = A) (h1 : (n : Int) ≤ A) : n ≤ x.toNatClampNeg := by
  show n ≤ x.toInt.toNat
  omega
theorem jbw (z : Int) (h1 : -4294967296 ≤ z) (h2 : z ≤ 4294967295) : (z.bmod (2 ^ 32) = z ∧ -2147483648 ≤ z ∧ z ≤ 2147483647) ∨ (z.bmod (2 ^ 32) = z - 4294967296 ∧ 2147483647 < z) ∨ (z.bmod (2 ^ 32) = z + 4294967296 ∧ z < -2147483648) := by
  simp only [Int.bmod_def]
  omega
theorem jaddw {x a b : Int32} {A B : Int} (e : x = a + b) (ha : a.toInt = A) (hb : b.toInt = B) : (x.toInt = A + B ∧ -2147483648 ≤ A + B ∧ A + B ≤ 2147483647) ∨ (x.toInt = A + B - 4294967296 ∧ 2147483647 < A + B) ∨ (x.toInt = A + B + 4294967296 ∧ A + B < -2147483648) := by
  have h1 := jrg ha
  have h2 := jrg hb
  rw [e, Int32.toInt_add, ha, hb]; exact jbw _ (by omega) (by omega)
theorem jsubw {x a b : Int32} {A B : Int} (e : x = a - b) (ha : a.toInt = A) (hb : b.toInt = B) : (x.toInt = A - B ∧ -2147483648 ≤ A - B ∧ A - B ≤ 2147483647) ∨ (x.toInt = A - B - 4294967296 ∧ 2147483647 < A - B) ∨ (x.toInt = A - B + 4294967296 ∧ A - B < -2147483648) := by
  have h1 := jrg ha
  have h2 := jrg hb
  rw [e, Int32.toInt_sub, ha, hb]; exact jbw _ (by omega) (by omega)
/-! rows within bounds; the static rows as numbers -/
theorem jrr_up {σ : Nat → Nat → Int32} {i n j : Nat} {v : Int32} {lo hi : Int} (h : ∀ k : Nat, k < n → lo ≤ (σ i k).toInt ∧ (σ i k).toInt ≤ hi) (h1 : lo ≤ v.toInt) (h2 : v.toInt ≤ hi) : ∀ k : Nat, k < n → lo ≤ (jup σ i j v i k).toInt ∧ (jup σ i j v i k).toInt ≤ hi := by
  intro k hk
  by_cases e : k = j
  · subst e; rw [jup_s]; exact ⟨h1, h2⟩
  · rw [jup_k e]; exact h k hk
def js0 : Nat → Int32 := fun k => [240, 15, 3072, 12288, 768, 507904].getD k 0
def js1 : Nat → Int32 := fun k => [-1, 0, 0, 2, 1, 3, 0].getD k 0
def js2 : Nat → Int32 := fun k => [1, 10, 11, 2, 20, 0, 0, 0, 0, 0, 30, 0, 0, 40, 0, 0, 50, 0, 0, 51, 0, 0, 60, 0, 0, 70, 0, 0].getD k 0
theorem js_r {l : List Int32} {lo hi : Int} (h : ∀ x ∈ l, lo ≤ x.toInt ∧ x.toInt ≤ hi) (h0 : lo ≤ 0 ∧ 0 ≤ hi) (k : Nat) : lo ≤ (l.getD k 0).toInt ∧ (l.getD k 0).toInt ≤ hi := by
  by_cases hk : k < l.length
  · have e : l.getD k 0 = l[k] := by simp [List.getD, List.getElem?_eq_getElem hk]
    rw [e]; exact h _ (List.getElem_mem hk)
  · have e : l.getD k 0 = 0 := by simp [List.getD, List.getElem?_eq_none (Nat.le_of_not_lt hk)]
    rw [e]; exact h0
theorem js0_r (k : Nat) : 0 ≤ (js0 k).toInt ∧ (js0 k).toInt ≤ 507904 := js_r (by decide) (by decide) k
theorem js1_r (k : Nat) : -1 ≤ (js1 k).toInt ∧ (js1 k).toInt ≤ 3 := js_r (by decide) (by decide) k
theorem js2_r (k : Nat) : 0 ≤ (js2 k).toInt ∧ (js2 k).toInt ≤ 70 := js_r (by decide) (by decide) k
theorem jnp {σ σ' : Nat → Nat → Int32} {i k : Nat} {v : Int32} (j : Nat) (e : σ' = jup σ i k v) (h : j ≠ i) : σ' j = σ j := by rw [e, jup_n h]

theorem jnpL {τ τ' : Nat → Nat → Int64} {i k : Nat} {v : Int64} (j : Nat) (e : τ' = jupL τ i k v) (h : j ≠ i) : τ' j = τ j := by rw [e, jupL_n h]
theorem jkp {σ σ' : Nat → Nat → Int32} {i k : Nat} {v : Int32} (k' : Nat) (e : σ' = jup σ i k v) (h : k' ≠ k) : σ' i k' = σ i k' := by rw [e, jup_k h]
theorem jsp {σ σ' : Nat → Nat → Int32} {i k : Nat} {v : Int32} (e : σ' = jup σ i k v) : σ' i k = v := by rw [e]; exact jup_s
theorem jrr_fr {σ σ' : Nat → Nat → Int32} {i n : Nat} {lo hi : Int} (e : σ' i = σ i) (h : ∀ k : Nat, k < n → lo ≤ (σ i k).toInt ∧ (σ i k).toInt ≤ hi) : ∀ k : Nat, k < n → lo ≤ (σ' i k).toInt ∧ (σ' i k).toInt ≤ hi := by rw [e]; exact h
/-! long numbers; rows copied -/
theorem jladd {x a b : Int64} {A B : Int} (e : x = a + b) (ha : a.toInt = A) (hb : b.toInt = B) (h1 : -9223372036854775808 ≤ A + B) (h2 : A + B ≤ 9223372036854775807) : x.toInt = A + B := by
  rw [e, Int64.toInt_add, ha, hb]; exact jbmL h1 h2
theorem jlsub {x a b : Int64} {A B : Int} (e : x = a - b) (ha : a.toInt = A) (hb : b.toInt = B) (h1 : -9223372036854775808 ≤ A - B) (h2 : A - B ≤ 9223372036854775807) : x.toInt = A - B := by
  rw [e, Int64.toInt_sub, ha, hb]; exact jbmL h1 h2
theorem jlmul {x a b : Int64} {A B : Int} (e : x = a * b) (ha : a.toInt = A) (hb : b.toInt = B) (h1 : -9223372036854775808 ≤ A * B) (h2 : A * B ≤ 9223372036854775807) : x.toInt = A * B := by
  rw [e, Int64.toInt_mul, ha, hb]; exact jbmL h1 h2
theorem jldiv {x a b : Int64} {A B : Int} (e : x = a / b) (ha : a.toInt = A) (hb : b.toInt = B) (h0 : 0 ≤ A) (h1 : 0 < B) : x.toInt = A / B := by
  have := jrgL ha
  have h3 : 0 ≤ A / B := Int.ediv_nonneg h0 (by omega)
  have h4 : A / B ≤ A := Int.ediv_le_self B h0
  rw [e, Int64.toInt_div, ha, hb, Int.tdiv_eq_ediv_of_nonneg h0]; exact jbmL (by omega) (by omega)
theorem jtoI {y : Int32} {x : Int64} {A : Int} (e : y = x.toInt32) (h : x.toInt = A) (h1 : -2147483648 ≤ A) (h2 : A ≤ 2147483647) : y.toInt = A := by
  rw [e, Int64.toInt_toInt32, h]; exact jbm h1 h2
theorem jprod {X Y : Int64} {x y a b : Int} (hx : X.toInt = x) (hy : Y.toInt = y) (h0 : 0 ≤ x) (h1 : x ≤ a) (h2 : 0 ≤ y) (h3 : y ≤ b) : 0 ≤ x * y ∧ x * y ≤ a * y ∧ x * y ≤ b * x ∧ a * y ≤ a * b := by
  refine ⟨Int.mul_nonneg h0 h2, Int.mul_le_mul_of_nonneg_right h1 h2, ?_, Int.mul_le_mul_of_nonneg_left h3 (by omega)⟩
  rw [Int.mul_comm b x]; exact Int.mul_le_mul_of_nonneg_left h3 h0
theorem jmix {c p q : Int} (h0 : 0 ≤ c) (h1 : c ≤ 1000) (hp : 0 ≤ p) (hq : 0 ≤ q) : 0 ≤ c * p + (-c + 1000) * q ∧ (c * p + (-c + 1000) * q ≤ 1000 * p ∨ c * p + (-c + 1000) * q ≤ 1000 * q) := by
  have a1 : 0 ≤ c * p := Int.mul_nonneg h0 hp
  have a2 : 0 ≤ (-c + 1000) * q := Int.mul_nonneg (by omega) hq
  refine ⟨by omega, ?_⟩
  rcases Int.le_total p q with h | h
  · right
    have := Int.mul_le_mul_of_nonneg_left h h0
    have e : (-c + 1000) * q = 1000 * q - c * q := by rw [Int.add_mul, Int.neg_mul]; omega
    omega
  · left
    have := Int.mul_le_mul_of_nonneg_left h (show (0 : Int) ≤ -c + 1000 by omega)
    have e : (-c + 1000) * p = 1000 * p - c * p := by rw [Int.add_mul, Int.neg_mul]; omega
    omega
def jrow (σ : Nat → Nat → Int32) (i : Nat) (g : Nat → Int32) : Nat → Nat → Int32 := fun x => if x = i then g else σ x
def jrowL (τ : Nat → Nat → Int64) (i : Nat) (g : Nat → Int64) : Nat → Nat → Int64 := fun x => if x = i then g else τ x
theorem jrow_n {σ : Nat → Nat → Int32} {i : Nat} {g : Nat → Int32} : ∀ x : Nat, (x < i ∨ i < x) → jrow σ i g x = σ x := fun x h => if_neg (by omega)
theorem jrowL_n {τ : Nat → Nat → Int64} {i : Nat} {g : Nat → Int64} : ∀ x : Nat, (x < i ∨ i < x) → jrowL τ i g x = τ x := fun x h => if_neg (by omega)
theorem jrow_rr {σ : Nat → Nat → Int32} {q0 q1 n0 n1 : Nat} {lo hi : Int} {sp n : Int32} {S N : Int} {dp : Nat} (h0 : ∀ k : Nat, k < n0 → lo ≤ (σ q0 k).toInt ∧ (σ q0 k).toInt ≤ hi) (h1 : ∀ k : Nat, k < n1 → lo ≤ (σ q1 k).toInt ∧ (σ q1 k).toInt ≤ hi) (hs : sp.toInt = S) (hn : n.toInt = N) (a : 0 ≤ S) (b : 0 ≤ N) (c : S + N ≤ n0) :
    ∀ k : Nat, k < n1 → lo ≤ (jrow σ q1 (va_cpy (σ q0) (σ q1) sp.toNatClampNeg dp n.toNatClampNeg) q1 k).toInt ∧ (jrow σ q1 (va_cpy (σ q0) (σ q1) sp.toNatClampNeg dp n.toNatClampNeg) q1 k).toInt ≤ hi := by
  intro k hk
  have e1 : sp.toNatClampNeg = S.toNat := by rw [← hs]; rfl
  have e2 : n.toNatClampNeg = N.toNat := by rw [← hn]; rfl
  unfold jrow va_cpy
  rw [if_pos rfl]
  split
  · rename_i h; exact h0 _ (by omega)
  · exact h1 k hk
section CPY
variable {p : Program} {l : Launch} {e : Env} {R : Room} {s : State} {m : MethodId} {args : Array Value} {below : List Frame} {meth : Method} {c : Code} {H : Heap} {locs : List Loc} {cells slots : Nat} {Q : State → Prop}
variable {D : va_G} {cI cL : ClassId} {ad : Nat → Nat} {σ : Nat → Nat → Int32} {τ : Nat → Nat → Int64} {cc : ByteArray} {A : Nat → Prop} {own : String} {pc index : Nat} {ls : Array Slot} {rest : List Value}
theorem jneg0 {x : Int32} {X : Int} (h : x.toInt = X) (h0 : 0 ≤ X) : ¬ x < 0 := fun q => absurd (jlt q h (show (0 : Int32).toInt = 0 from rfl)) (by omega)
theorem jcpyI {q0 q1 n0 n1 : Nat} {sp dp n : Int32} {S1 D1 N1 : Int} (hexec : p.tables.exec = Jvm.exec) (hb : c.code = cc) (hml : c.maxLocals = ls.size) (hown : s.vm.findClass own = some m.cls) (hlink : (Cond.methodLink own index arraycopyName).before args s = true) (hnat : (Cond.native arraycopyName).before args s = true) (hstat : (Cond.static arraycopyName).before args s = true) (hini : (Cond.initialized "java/lang/System").before args s = true)
    (hK : jK D cI cL s) (hP : jH D cI cL ad σ τ H) (hJ : jD ad) (hA : ∀ q, jA ad q → A q) (hS : va_S A s.heap H locs)
    (he0 : (jw cI cL ad σ τ)[q0]? = some (ad q0, .inl (cI, n0, .inl (σ q0)))) (he1 : (jw cI cL ad σ τ)[q1]? = some (ad q1, .inl (cI, n1, .inl (σ q1)))) (hset : ∀ g, (jw cI cL ad σ τ).set q1 (ad q1, .inl (cI, n1, .inl g)) = jw cI cL ad (jrow σ q1 g) τ)
    (hs : sp.toInt = S1) (hd : dp.toInt = D1) (hn : n.toInt = N1) (h1 : 0 ≤ S1) (h2 : 0 ≤ D1) (h3 : 0 ≤ N1) (h4 : S1 + N1 ≤ n0) (h5 : D1 + N1 ≤ n1) (hfr : 1 ≤ R.frames) (hlo : (rest.map fun v => v.category).sum + (nativeFrameWords "java/lang/System" "arraycopy" 5 + 11) ≤ R.locals) (hdg : decode cc pc = .ok (.invokestatic index, 3))
    (kk : ∀ (σ1 : Nat → Nat → Int32) (H1 : Heap) (locs1 : List Loc), σ1 = jrow σ q1 (va_cpy (σ q0) (σ q1) sp.toNatClampNeg dp.toNatClampNeg n.toNatClampNeg) → jH D cI cL ad σ1 τ H1 → va_S A s.heap H1 locs1 → W p l e R s m args below meth c H1 locs1 cells slots Q (F0 m (pc + 3) ls rest)) : W p l e R s m args below meth c H locs cells slots Q (F0 m pc ls (.int n :: .int dp :: .ref (ad q1) :: .int sp :: .ref (ad q0) :: rest)) := by
  have e1 : sp.toNatClampNeg = S1.toNat := by rw [← hs]; rfl
  have e2 : dp.toNatClampNeg = D1.toNat := by rw [← hd]; rfl
  have e3 : n.toNatClampNeg = N1.toNat := by rw [← hn]; rfl
  refine va_copyi hexec hb hml hown hlink hnat hstat hini hK hP (hJ.D hA cI cL σ τ) hS q0 q1 0 0 he0 he1 rfl rfl rfl (jneg0 hs h1) (jneg0 hd h2) (jneg0 hn h3) (by omega) (by omega) (fun _ _ => rfl) hfr hlo hdg fun H1 locs1 hP1 _ hS1 => kk _ H1 locs1 rfl ?_ hS1
  rw [hset] at hP1
  exact hP1
theorem jcpyL {q0 q1 n0 n1 : Nat} {sp dp n : Int32} {S1 D1 N1 : Int} (hexec : p.tables.exec = Jvm.exec) (hb : c.code = cc) (hml : c.maxLocals = ls.size) (hown : s.vm.findClass own = some m.cls) (hlink : (Cond.methodLink own index arraycopyName).before args s = true) (hnat : (Cond.native arraycopyName).before args s = true) (hstat : (Cond.static arraycopyName).before args s = true) (hini : (Cond.initialized "java/lang/System").before args s = true)
    (hK : jK D cI cL s) (hP : jH D cI cL ad σ τ H) (hJ : jD ad) (hA : ∀ q, jA ad q → A q) (hS : va_S A s.heap H locs)
    (he0 : (jw cI cL ad σ τ)[q0]? = some (ad q0, .inl (cL, n0, .inr (.inl (τ q0))))) (he1 : (jw cI cL ad σ τ)[q1]? = some (ad q1, .inl (cL, n1, .inr (.inl (τ q1))))) (hset : ∀ g, (jw cI cL ad σ τ).set q1 (ad q1, .inl (cL, n1, .inr (.inl g))) = jw cI cL ad σ (jrowL τ q1 g))
    (hs : sp.toInt = S1) (hd : dp.toInt = D1) (hn : n.toInt = N1) (h1 : 0 ≤ S1) (h2 : 0 ≤ D1) (h3 : 0 ≤ N1) (h4 : S1 + N1 ≤ n0) (h5 : D1 + N1 ≤ n1) (hfr : 1 ≤ R.frames) (hlo : (rest.map fun v => v.category).sum + (nativeFrameWords "java/lang/System" "arraycopy" 5 + 11) ≤ R.locals) (hdg : decode cc pc = .ok (.invokestatic index, 3))
    (kk : ∀ (τ1 : Nat → Nat → Int64) (H1 : Heap) (locs1 : List Loc), τ1 = jrowL τ q1 (va_cpy (τ q0) (τ q1) sp.toNatClampNeg dp.toNatClampNeg n.toNatClampNeg) → jH D cI cL ad σ τ1 H1 → va_S A s.heap H1 locs1 → W p l e R s m args below meth c H1 locs1 cells slots Q (F0 m (pc + 3) ls rest)) : W p l e R s m args below meth c H locs cells slots Q (F0 m pc ls (.int n :: .int dp :: .ref (ad q1) :: .int sp :: .ref (ad q0) :: rest)) := by
  have e1 : sp.toNatClampNeg = S1.toNat := by rw [← hs]; rfl
  have e2 : dp.toNatClampNeg = D1.toNat := by rw [← hd]; rfl
  have e3 : n.toNatClampNeg = N1.toNat := by rw [← hn]; rfl
  refine va_copyl hexec hb hml hown hlink hnat hstat hini hK hP (hJ.D hA cI cL σ τ) hS q0 q1 1 1 he0 he1 rfl rfl rfl (jneg0 hs h1) (jneg0 hd h2) (jneg0 hn h3) (by omega) (by omega) (fun _ _ => rfl) hfr hlo hdg fun H1 locs1 hP1 _ hS1 => kk _ H1 locs1 rfl ?_ hS1
  rw [hset] at hP1
  exact hP1
end CPY
theorem jushr {x a y : Int32} {n : Nat} (h1 : 1 ≤ n) (h2 : (y.toUInt32 &&& Int32.toUInt32 31).toNat = n) (e : x = (a.toUInt32 >>> (y.toUInt32 &&& Int32.toUInt32 31)).toInt32) (h3 : n ≤ 31) : 0 ≤ x.toInt ∧ x.toInt ≤ (2 : Int) ^ (32 - n) - 1 := by
  have h5 : (a.toUInt32 >>> (y.toUInt32 &&& Int32.toUInt32 31)).toNat < 2 ^ (32 - n) := by
    rw [UInt32.toNat_shiftRight, h2, Nat.mod_eq_of_lt (by omega : n < 32), Nat.shiftRight_eq_div_pow]
    have := UInt32.toNat_lt a.toUInt32
    apply Nat.div_lt_of_lt_mul
    rw [← Nat.pow_add, show n + (32 - n) = 32 by omega]; exact this
  have h6 : (2 : Nat) ^ (32 - n) ≤ 2 ^ 31 := Nat.pow_le_pow_right (by decide) (by omega)
  have h7 : x.toInt = ((a.toUInt32 >>> (y.toUInt32 &&& Int32.toUInt32 31)).toNat : Int) := by
    rw [e]
    show BitVec.toInt (a.toUInt32 >>> (y.toUInt32 &&& Int32.toUInt32 31)).toBitVec = _
    rw [BitVec.toInt_eq_toNat_of_lt]
    · rfl
    · show 2 * (a.toUInt32 >>> (y.toUInt32 &&& Int32.toUInt32 31)).toNat < 2 ^ 32
      omega
  have h8 : ((2 : Nat) ^ (32 - n) : Int) = (2 : Int) ^ (32 - n) := by norm_cast
  rw [h7]; omega
theorem jdivv {a b : Int32} {A B : Int} (_ha : a.toInt = A) (_hb : b.toInt = B) (h0 : 0 ≤ A) (_h1 : 0 < B) : 0 ≤ A / B ∧ A / B ≤ A := ⟨Int.ediv_nonneg h0 (by omega), Int.ediv_le_self B h0⟩
theorem jlook {ps : List (Int × Int)} {d z : Int} (h : ∀ p ∈ ps, z ≠ p.1) : Op.lookupswitch.offset ps d z = d := by
  induction ps with
  | nil => rfl
  | cons p r ih =>
    obtain ⟨a, o⟩ := p
    show (if a = z then o else Op.lookupswitch.offset r d z) = d
    rw [if_neg (fun e => h (a, o) (List.mem_cons_self ..) e.symm)]
    exact ih (fun q hq => h q (List.mem_cons_of_mem _ hq))
section CALL
variable {p : Program} {l : Launch} {e : Env} {R : Room} {s : State} {m : MethodId} {args : Array Value} {below : List Frame} {meth : Method} {c : Code} {H : Heap} {locs : List Loc} {cells slots : Nat} {Q : State → Prop}
variable {D : va_G} {cI cL : ClassId} {ad zz : Nat → Nat} {σ : Nat → Nat → Int32} {τ : Nat → Nat → Int64} {y : MethodName} {cc bytes : ByteArray} {nL maxL index n : Nat} {ret : Option FieldType} {rm : Room} {A : Nat → Prop} {own : String}
variable {b i ci N : Nat} {T : u_T} {fs As rest st0 : List Value} {pc : Nat} {ls : Array Slot}
theorem jcallSv {post : (Nat → Nat → Int32) → (Nat → Nat → Int64) → Prop} (hC : CallFix p m c cc nL s args wsL_law own) (hK : jK D cI cL s) (hP : jH D cI cL ad σ τ H) (hA : ∀ q, jA ad q → A q) (hS : va_S A s.heap H locs) (hZ : jZ zz A s s.heap) (hM : jMv l y bytes maxL ret rm D cI cL ad zz As σ τ post) (hw : jcS own index y bytes maxL ret n) (hR : rm.frames + 1 ≤ R.frames ∧ 8 + (maxL + 11) + rm.locals ≤ R.locals) (hrc : rm.cells = 0) (hrs : rm.slots = 0) (hn : As.length = n) (hsize : ls.size = nL) (hst : st0 = As.reverse ++ rest) (hW : (rest.map fun v => v.category).sum ≤ 8) (hdg : decode cc pc = .ok (.invokestatic index, 3)) (hcs : cells ≤ R.cells ∧ slots ≤ R.slots)
    (kk : ∀ (σ1 : Nat → Nat → Int32) (τ1 : Nat → Nat → Int64) (H1 : Heap) (locs1 : List Loc), post σ1 τ1 → jH D cI cL ad σ1 τ1 H1 → va_S A s.heap H1 locs1 → W p l e R s m args below meth c H1 locs1 cells slots Q (F0 m (pc + 3) ls rest)) : W p l e R s m args below meth c H locs cells slots Q (F0 m pc ls st0) :=
  jrunv (va_runS (As := As) (rest := rest) hC hM ⟨hw.1.B hC.2.2.2.2 hR hrc hrs, hC.2.2.2.2 _ hw.2⟩ ⟨jblind, fun U hU hW => ⟨rfl, by rw [hU]; exact hP, va_K.moved hW.alike hK, jZcall hZ hA hS hU hW⟩⟩ rfl hn hsize hst (lv_room hW) hdg hcs) hA hS kk
theorem jcallSl {post : Int64 → (Nat → Nat → Int32) → (Nat → Nat → Int64) → Prop} (hC : CallFix p m c cc nL s args wsL_law own) (hK : jK D cI cL s) (hP : jH D cI cL ad σ τ H) (hA : ∀ q, jA ad q → A q) (hS : va_S A s.heap H locs) (hZ : jZ zz A s s.heap) (hM : jMl l y bytes maxL ret rm D cI cL ad zz As σ τ post) (hw : jcS own index y bytes maxL ret n) (hR : rm.frames + 1 ≤ R.frames ∧ 8 + (maxL + 11) + rm.locals ≤ R.locals) (hrc : rm.cells = 0) (hrs : rm.slots = 0) (hn : As.length = n) (hsize : ls.size = nL) (hst : st0 = As.reverse ++ rest) (hW : (rest.map fun v => v.category).sum ≤ 8) (hdg : decode cc pc = .ok (.invokestatic index, 3)) (hcs : cells ≤ R.cells ∧ slots ≤ R.slots)
    (kk : ∀ (r : Int64) (σ1 : Nat → Nat → Int32) (τ1 : Nat → Nat → Int64) (H1 : Heap) (locs1 : List Loc), post r σ1 τ1 → jH D cI cL ad σ1 τ1 H1 → va_S A s.heap H1 locs1 → W p l e R s m args below meth c H1 locs1 cells slots Q (F0 m (pc + 3) ls (.long r :: rest))) : W p l e R s m args below meth c H locs cells slots Q (F0 m pc ls st0) :=
  jrunl (va_runS (As := As) (rest := rest) hC hM ⟨hw.1.B hC.2.2.2.2 hR hrc hrs, hC.2.2.2.2 _ hw.2⟩ ⟨jblind, fun U hU hW => ⟨rfl, by rw [hU]; exact hP, va_K.moved hW.alike hK, jZcall hZ hA hS hU hW⟩⟩ rfl hn hsize hst (lv_room hW) hdg hcs) hA hS kk
end CALL
theorem jremv {a b : Int32} {A B : Int} (_ha : a.toInt = A) (_hb : b.toInt = B) (h0 : 0 ≤ A) (h1 : 0 < B) : 0 ≤ A % B ∧ A % B < B := ⟨Int.emod_nonneg A (by omega), Int.emod_lt_of_pos A h1⟩
/-! the reference: who may bowl; going on and back; the book; the kept means -/
def jleft (σ : Nat → Nat → Int32) (b : Int32) : Int32 := (if b = σ 55 30 then 0 else if b = σ 55 31 then σ 56 (32 + b).toNatClampNeg + 1 else σ 56 (32 + b).toNatClampNeg) - σ 69 b.toNatClampNeg
def jmb (σ : Nat → Nat → Int32) (b : Int32) : Int32 := if b = σ 55 27 then 0 else if jleft σ b ≤ 0 then 0 else 1
theorem jmb_fr {σ σ' : Nat → Nat → Int32} (h27 : σ' 55 27 = σ 55 27) (h30 : σ' 55 30 = σ 55 30) (h31 : σ' 55 31 = σ 55 31) (h56 : σ' 56 = σ 56) (h69 : σ' 69 = σ 69) (b : Int32) : jmb σ' b = jmb σ b := by
  unfold jmb jleft; rw [h27, h30, h31, h56, h69]
def jupd (g : Nat → Int32) (n : Nat) (v : Int32) : Nat → Int32 := fun k => if k = n then v else g k
theorem jup_row {σ : Nat → Nat → Int32} {i n : Nat} {v : Int32} : jup σ i n v i = jupd (σ i) n v := by
  funext k
  by_cases h : k = n
  · rw [h, jup_s]; unfold jupd; rw [if_pos rfl]
  · rw [jup_k h]; unfold jupd; rw [if_neg h]
theorem jback69 {g1 g0 g2 g3 : Nat → Int32} {n : Nat} (h1 : g1 = jupd g0 n (g0 n + 1)) (h2 : g2 = g1) (h3 : g3 = jupd g2 n (g2 n - 1)) : g3 = g0 := by
  subst h2 h1 h3
  funext k
  unfold jupd
  by_cases h : k = n
  · rw [if_pos h, if_pos rfl, Int32.add_sub_cancel, h]
  · rw [if_neg h, if_neg h]
theorem jdig {nb L s0 s1 s2 s3 L' t0 t1 t2 t3 w : Int} (a0 : 0 ≤ s0 ∧ s0 ≤ 3) (a1 : 0 ≤ s1 ∧ s1 ≤ 3) (a2 : 0 ≤ s2 ∧ s2 ≤ 3) (a3 : 0 ≤ s3 ∧ s3 ≤ 3) (b0 : 0 ≤ t0 ∧ t0 ≤ 3) (b1 : 0 ≤ t1 ∧ t1 ≤ 3) (b2 : 0 ≤ t2 ∧ t2 ≤ 3) (b3 : 0 ≤ t3 ∧ t3 ≤ 3)
    (h : (nb = 0 ∧ w = L + 1) ∨ (nb = 1 ∧ w = 4 * L + s0 + 4) ∨ (nb = 2 ∧ w = 16 * L + 4 * s0 + s1 + 16) ∨ (nb = 3 ∧ w = 64 * L + 16 * s0 + 4 * s1 + s2 + 64) ∨ (nb = 4 ∧ w = 256 * L + 64 * s0 + 16 * s1 + 4 * s2 + s3 + 256))
    (h' : (nb = 0 ∧ w = L' + 1) ∨ (nb = 1 ∧ w = 4 * L' + t0 + 4) ∨ (nb = 2 ∧ w = 16 * L' + 4 * t0 + t1 + 16) ∨ (nb = 3 ∧ w = 64 * L' + 16 * t0 + 4 * t1 + t2 + 64) ∨ (nb = 4 ∧ w = 256 * L' + 64 * t0 + 16 * t1 + 4 * t2 + t3 + 256)) :
    L' = L ∧ (1 ≤ nb → t0 = s0) ∧ (2 ≤ nb → t1 = s1) ∧ (3 ≤ nb → t2 = s2) ∧ (4 ≤ nb → t3 = s3) := by
  rcases h with h | h | h | h | h <;> rcases h' with h' | h' | h' | h' | h' <;> first | (exfalso; omega) | (refine ⟨?_, ?_, ?_, ?_, ?_⟩ <;> omega)
theorem jback68 {g0 g1 g2 g3 : Nat → Int32} {nb : Int} (hn : 0 ≤ nb ∧ nb ≤ 4) (k1 : ∀ k : Nat, nb ≤ k → g1 k = g0 k) (h2 : g2 = g1) (k3 : ∀ k : Nat, nb ≤ k → g3 k = g2 k) (h : (1 ≤ nb → (g3 0).toInt = (g0 0).toInt) ∧ (2 ≤ nb → (g3 1).toInt = (g0 1).toInt) ∧ (3 ≤ nb → (g3 2).toInt = (g0 2).toInt) ∧ (4 ≤ nb → (g3 3).toInt = (g0 3).toInt)) : g3 = g0 := by
  subst h2
  funext k
  rcases Int.lt_or_le k nb with hk | hk
  · obtain ⟨i0, i1, i2, i3⟩ := h
    have h4 : k = 0 ∨ k = 1 ∨ k = 2 ∨ k = 3 := by omega
    rcases h4 with e | e | e | e <;> subst e <;> apply Int32.toInt_inj.mp
    · exact i0 (by omega)
    · exact i1 (by omega)
    · exact i2 (by omega)
    · exact i3 (by omega)
  · rw [k3 k hk, k1 k hk]
def jcnt (g : Nat → Int32) : Nat → Nat
  | 0 => 0
  | n + 1 => jcnt g n + (if g n = 1 then 1 else 0)
theorem jcnt_one {g : Nat → Int32} {K : Int} {z : Int32} (h0 : 0 ≤ K) (e : z = g K.toNat) (h : z = 1) : (jcnt g (K + 1).toNat : Int) = (jcnt g K.toNat : Int) + 1 := by
  have e1 : (K + 1).toNat = K.toNat + 1 := by omega
  rw [e1]; show ((jcnt g K.toNat + (if g K.toNat = 1 then 1 else 0) : Nat) : Int) = _
  rw [if_pos (by rw [← e, h])]; rfl
theorem jcnt_non {g : Nat → Int32} {K : Int} {z : Int32} (h0 : 0 ≤ K) (e : z = g K.toNat) (h : ¬ z = 1) : (jcnt g (K + 1).toNat : Int) = (jcnt g K.toNat : Int) := by
  have e1 : (K + 1).toNat = K.toNat + 1 := by omega
  rw [e1]; show ((jcnt g K.toNat + (if g K.toNat = 1 then 1 else 0) : Nat) : Int) = _
  rw [if_neg (by rw [← e]; exact h)]; rfl
theorem jcnt_le (g : Nat → Int32) : ∀ n : Nat, jcnt g n ≤ n
  | 0 => Nat.le_refl 0
  | n + 1 => by
    have := jcnt_le g n
    show jcnt g n + (if g n = 1 then 1 else 0) ≤ n + 1
    split <;> omega
theorem jcnt_up {g : Nat → Int32} {n : Nat} {v : Int32} : ∀ i : Nat, i ≤ n → jcnt (jupd g n v) i = jcnt g i
  | 0, _ => rfl
  | i + 1, h => by
    show jcnt (jupd g n v) i + (if jupd g n v i = 1 then 1 else 0) = jcnt g i + (if g i = 1 then 1 else 0)
    rw [jcnt_up i (by omega)]
    unfold jupd; rw [if_neg (by omega : ¬ i = n)]
/-- the book: fewer got out ahead of each of its overs than there are in the order -/
def jBook (σ : Nat → Nat → Int32) : Prop := ∀ i : Nat, (i : Int) < (σ 55 47).toInt → (jcnt (σ 81) i : Int) < (σ 55 10).toInt
theorem jBook.fr {σ σ' : Nat → Nat → Int32} (h47 : σ' 55 47 = σ 55 47) (h10 : σ' 55 10 = σ 55 10) (h81 : σ' 81 = σ 81) (h : jBook σ) : jBook σ' := by
  unfold jBook; rw [h47, h10, h81]; exact h
theorem jBook.nil {σ : Nat → Nat → Int32} (h : (σ 55 47).toInt ≤ 0) : jBook σ := fun i hi => absurd hi (by omega)
theorem jBook.le {σ : Nat → Nat → Int32} {B : Int} (h : jBook σ) (hB : (σ 55 47).toInt = B) (h0 : 0 ≤ B) (h1 : 1 ≤ (σ 55 10).toInt) : (jcnt (σ 81) B.toNat : Int) ≤ (σ 55 10).toInt := by
  rcases Int.lt_or_le 0 B with h2 | h2
  · have e : B.toNat = (B.toNat - 1) + 1 := by omega
    have h3 := h (B.toNat - 1) (by omega)
    rw [e]
    show ((jcnt (σ 81) (B.toNat - 1) + (if (σ 81) (B.toNat - 1) = 1 then 1 else 0) : Nat) : Int) ≤ _
    split <;> omega
  · have e : B.toNat = 0 := by omega
    rw [e]; show (0 : Int) ≤ _; omega
theorem jBook.on {σ σ' : Nat → Nat → Int32} {B : Int} {v : Int32} (h : jBook σ) (hB : (σ 55 47).toInt = B) (h0 : 0 ≤ B) (h47 : (σ' 55 47).toInt = B + 1) (h10 : σ' 55 10 = σ 55 10) (h81 : σ' 81 = jupd (σ 81) B.toNat v) (hl : (jcnt (σ 81) B.toNat : Int) < (σ 55 10).toInt) : jBook σ' := by
  intro i hi
  rw [h81, h10, jcnt_up i (by omega)]
  by_cases e : i = B.toNat
  · rw [e]; exact hl
  · exact h i (by omega)
/-- what is kept of the best: its mean is no more than the overs that were left would bear -/
def jKept (σ : Nat → Nat → Int32) : Prop := ∀ k : Nat, k < 65536 → (0 ≤ (σ 76 k).toInt ∧ (σ 76 k).toInt ≤ 1023000 * (12 - (σ 75 k).toInt / 16)) ∧ 0 ≤ (σ 77 k).toInt ∧ (σ 77 k).toInt ≤ 3
theorem jKept.fr {σ σ' : Nat → Nat → Int32} (h75 : σ' 75 = σ 75) (h76 : σ' 76 = σ 76) (h77 : σ' 77 = σ 77) (h : jKept σ) : jKept σ' := by
  unfold jKept; rw [h75, h76, h77]; exact h
theorem jKept.on {σ σ' : Nat → Nat → Int32} {n : Nat} {o m w : Int32} (h : jKept σ) (h75 : σ' 75 = jupd (σ 75) n o) (h76 : σ' 76 = jupd (σ 76) n m) (h77 : σ' 77 = jupd (σ 77) n w) (hm : 0 ≤ m.toInt) (hm2 : m.toInt ≤ 1023000 * (12 - o.toInt / 16)) (hw : 0 ≤ w.toInt) (hw2 : w.toInt ≤ 3) : jKept σ' := by
  intro k hk
  rw [h75, h76, h77]
  unfold jupd
  by_cases e : k = n
  · rw [if_pos e, if_pos e, if_pos e]; exact ⟨⟨hm, hm2⟩, hw, hw2⟩
  · rw [if_neg e, if_neg e, if_neg e]; exact h k hk
theorem jBook.dis {σ : Nat → Nat → Int32} {N : Int} (h : jBook σ) (h0 : 0 ≤ N) (h1 : N ≤ (σ 55 47).toInt) (hm : 1 ≤ (σ 55 10).toInt) : (N < (σ 55 47).toInt ∧ (jcnt (σ 81) N.toNat : Int) < (σ 55 10).toInt) ∨ (N = (σ 55 47).toInt ∧ (jcnt (σ 81) N.toNat : Int) ≤ (σ 55 10).toInt) := by
  rcases Int.lt_or_le N (σ 55 47).toInt with h2 | h2
  · exact Or.inl ⟨h2, h N.toNat (by omega)⟩
  · have e : N = (σ 55 47).toInt := by omega
    exact Or.inr ⟨e, by subst e; exact h.le rfl h0 hm⟩
theorem jcnt_r (g : Nat → Int32) {K : Int} (h : 0 ≤ K) : 0 ≤ (jcnt g K.toNat : Int) ∧ (jcnt g K.toNat : Int) ≤ K := by
  have := jcnt_le g K.toNat
  omega
theorem jwas {nb L s0 s1 s2 s3 w : Int} (hL : -1 ≤ L ∧ L ≤ 3) (a0 : 0 ≤ s0 ∧ s0 ≤ 3) (a1 : 0 ≤ s1 ∧ s1 ≤ 3) (a2 : 0 ≤ s2 ∧ s2 ≤ 3) (a3 : 0 ≤ s3 ∧ s3 ≤ 3)
    (h : (nb = 0 ∧ w = L + 1) ∨ (nb = 1 ∧ w = 4 * L + s0 + 4) ∨ (nb = 2 ∧ w = 16 * L + 4 * s0 + s1 + 16) ∨ (nb = 3 ∧ w = 64 * L + 16 * s0 + 4 * s1 + s2 + 64) ∨ (nb = 4 ∧ w = 256 * L + 64 * s0 + 16 * s1 + 4 * s2 + s3 + 256)) :
    (nb = 0 ∧ 0 ≤ w ∧ w < 5) ∨ (nb = 1 ∧ 0 ≤ w ∧ w < 20) ∨ (nb = 2 ∧ 0 ≤ w ∧ w < 80) ∨ (nb = 3 ∧ 0 ≤ w ∧ w < 320) ∨ (nb = 4 ∧ 0 ≤ w ∧ w < 1280) := by
  rcases h with h | h | h | h | h
  · exact Or.inl (by omega)
  · exact Or.inr (Or.inl (by omega))
  · exact Or.inr (Or.inr (Or.inl (by omega)))
  · exact Or.inr (Or.inr (Or.inr (Or.inl (by omega))))
  · exact Or.inr (Or.inr (Or.inr (Or.inr (by omega))))
def jDig : Nat → Int → Prop
  | 0, _ => True
  | n + 1, r => r ≤ 0 ∨ (1 ≤ r % 10 ∧ r % 10 ≤ 4 ∧ jDig n (r / 10))
def jRow (A : Int) : Prop := 0 ≤ A ∧ A ≤ 99999999 ∧ jDig 8 A
def jDn : Nat → Int → Prop
  | 0, r => r = 0
  | n + 1, r => 1 ≤ r % 10 ∧ r % 10 ≤ 4 ∧ jDn n (r / 10)
theorem jDn_eq {n m : Nat} {r : Int} (h : jDn n r) (e : n = m) : jDn m r := e ▸ h
theorem jDn_eq2 {n m : Nat} {r s : Int} (h : jDn n r) (e : n = m) (q : r = s) : jDn m s := e ▸ q ▸ h
theorem jDn_step {i r : Int} (h0 : 0 ≤ i) (h : jDn (i + 1).toNat r) : 1 ≤ r % 10 ∧ r % 10 ≤ 4 ∧ jDn i.toNat (r / 10) := by
  have e : (i + 1).toNat = i.toNat + 1 := by omega
  rw [e] at h; exact h

theorem jnc {x : Int32} {A : Int} (h : x.toInt = A) : x.toNatClampNeg = A.toNat := by rw [← h]; rfl
def jShi (i : Nat) (f g : Nat → Int32) : Prop := (∀ k : Nat, k + 1 < i → g k = f (k + 1)) ∧ (∀ k : Nat, i ≤ k + 1 → g k = f k)
def jSh (f g : Nat → Int32) : Prop := ∀ k : Nat, k < 39 → g k = f (k + 1)
theorem jShi.first {X : Int} {f : Nat → Int32} (h : X ≤ 1) : jShi X.toNat f f := ⟨fun k hk => absurd hk (by omega), fun _ _ => rfl⟩
theorem jShi.step {X X' : Int} {f g g' : Nat → Int32} (h : jShi X.toNat f g) (e : g' = jupd g (X - 1).toNat (g X.toNat)) (h1 : 1 ≤ X) (e' : X' = X + 1) : jShi X'.toNat f g' := by
  obtain ⟨a, b⟩ := h
  subst e e'
  have e1 : (X - 1).toNat + 1 = X.toNat := by omega
  constructor
  · intro k hk
    unfold jupd
    by_cases hq : k = (X - 1).toNat
    · rw [if_pos hq, b _ (by omega), hq, e1]
    · rw [if_neg hq]; exact a k (by omega)
  · intro k hk
    unfold jupd
    rw [if_neg (by omega)]; exact b k (by omega)
theorem jShi.fin {X : Int} {f g : Nat → Int32} (h : jShi X.toNat f g) (h1 : 40 ≤ X) : jSh f g := fun k hk => h.1 k (by omega)
/-- a number of place q becomes v, and the log says so -/
def jChg (q : Int) (v r : Int32) (t t' p p' b b' a a' : Nat → Int32) (d d' n n' : Int) : Prop :=
  r = t q.toNat ∧ ((r = v ∧ t' = t ∧ p' = p ∧ b' = b ∧ a' = a ∧ d' = d ∧ n' = n) ∨
    (r ≠ v ∧ n' = d' ∧ t' = jupd t q.toNat v ∧ ∃ (p1 b1 a1 : Nat → Int32) (z : Int32), z.toInt = q ∧
      ((d < 40 ∧ d' = d + 1 ∧ p1 = p ∧ b1 = b ∧ a1 = a) ∨ (d = 40 ∧ d' = 40 ∧ jSh p p1 ∧ jSh b b1 ∧ jSh a a1)) ∧
      p' = jupd p1 (d' - 1).toNat z ∧ b' = jupd b1 (d' - 1).toNat r ∧ a' = jupd a1 (d' - 1).toNat v))
/-- numbers and logs of class and reference are the same, as far as they are seen -/
def jNumP (t m p p2 b b2 a a2 : Nat → Int32) (B n : Int) : Prop :=
  (∀ k : Nat, k < 68 → ((k : Int) < 4 * B ∨ 16 ≤ k) → t k = m k) ∧ (∀ k : Nat, k < 16 → 4 * B ≤ (k : Int) → m k = 100) ∧
  (∀ k : Nat, (k : Int) < n → (p k = p2 k ∧ b k = b2 k ∧ a k = a2 k) ∧ (0 ≤ (p2 k).toInt ∧ (p2 k).toInt < 68) ∧ ((p2 k).toInt < 4 * B ∨ 16 ≤ (p2 k).toInt))
def jJn (B : Int) (v : Int32) (t t' : Nat → Int32) : Prop := t' = jupd (jupd (jupd (jupd (jupd t (32 + B).toNat v) (4 * B).toNat 100) (4 * B + 1).toNat 100) (4 * B + 2).toNat 100) (4 * B + 3).toNat 100
theorem jNumP.bowler {t m p p2 b b2 a a2 t' m' : Nat → Int32} {B B' n : Int} {v : Int32} (h : jNumP t m p p2 b b2 a a2 B n) (j : jJn B v t t') (e : m' = jupd m (32 + B).toNat v) (h0 : 0 ≤ B) (h1 : B < 4) (hB : B' = B + 1) : jNumP t' m' p p2 b b2 a a2 B' n := by
  obtain ⟨x, y, z⟩ := h
  unfold jJn at j
  subst j e hB
  refine ⟨fun k hk hq => ?_, fun k hk hq => ?_, fun k hk => ?_⟩
  · unfold jupd
    by_cases e0 : k = (32 + B).toNat
    · rw [if_neg (by omega), if_neg (by omega), if_neg (by omega), if_neg (by omega), if_pos e0, if_pos e0]
    · rw [if_neg e0, if_neg e0]
      by_cases e3 : k = (4 * B + 3).toNat
      · rw [if_pos e3]; exact (y k (by omega) (by omega)).symm
      rw [if_neg e3]
      by_cases e2 : k = (4 * B + 2).toNat
      · rw [if_pos e2]; exact (y k (by omega) (by omega)).symm
      rw [if_neg e2]
      by_cases e1 : k = (4 * B + 1).toNat
      · rw [if_pos e1]; exact (y k (by omega) (by omega)).symm
      rw [if_neg e1]
      by_cases e4 : k = (4 * B).toNat
      · rw [if_pos e4]; exact (y k (by omega) (by omega)).symm
      rw [if_neg e4]
      exact x k hk (by omega)
  · unfold jupd; rw [if_neg (by omega)]; exact y k hk (by omega)
  · obtain ⟨c, d, e⟩ := z k hk; exact ⟨c, d, by omega⟩
theorem jNumP.put {t m p p2 b b2 a a2 t' m' : Nat → Int32} {B n q : Int} {v w : Int32} (h : jNumP t m p p2 b b2 a a2 B n) (e1 : t' = jupd t q.toNat v) (e2 : m' = jupd m q.toNat w) (ev : v = w) (h0 : 0 ≤ q) (h1 : q < 4 * B ∨ 16 ≤ q) : jNumP t' m' p p2 b b2 a a2 B n := by
  obtain ⟨x, y, z⟩ := h
  subst e1 e2 ev
  refine ⟨fun k hk hq => ?_, fun k hk hq => ?_, z⟩
  · unfold jupd
    by_cases e : k = q.toNat
    · rw [if_pos e, if_pos e]
    · rw [if_neg e, if_neg e]; exact x k hk hq
  · unfold jupd; rw [if_neg (by omega)]; exact y k hk hq
theorem jNumP.back {t m p p2 b b2 a a2 t' m' : Nat → Int32} {B n d : Int} (h : jNumP t m p p2 b b2 a a2 B n) (h0 : 0 ≤ d) (h1 : d < n) (e1 : t' = jupd t (p d.toNat).toInt.toNat (b d.toNat)) (e2 : m' = jupd m (p2 d.toNat).toInt.toNat (b2 d.toNat)) : jNumP t' m' p p2 b b2 a a2 B n := by
  obtain ⟨⟨c1, c2, c3⟩, c4, c5⟩ := h.2.2 d.toNat (by omega)
  rw [c1, c2] at e1
  exact h.put e1 e2 rfl c4.1 c5
theorem jNumP.forth {t m p p2 b b2 a a2 t' m' : Nat → Int32} {B n d : Int} (h : jNumP t m p p2 b b2 a a2 B n) (h0 : 0 ≤ d) (h1 : d < n) (e1 : t' = jupd t (p d.toNat).toInt.toNat (a d.toNat)) (e2 : m' = jupd m (p2 d.toNat).toInt.toNat (a2 d.toNat)) : jNumP t' m' p p2 b b2 a a2 B n := by
  obtain ⟨⟨c1, c2, c3⟩, c4, c5⟩ := h.2.2 d.toNat (by omega)
  rw [c1, c3] at e1
  exact h.put e1 e2 rfl c4.1 c5
theorem jNumP.res {t m p p2 b b2 a a2 t' m' p' p2' b' b2' a' a2' : Nat → Int32} {B n d d' n' d2 d2' n2 n2' q q2 : Int} {v r r2 : Int32} (h : jNumP t m p p2 b b2 a a2 B n2) (h0 : 0 ≤ q ∧ q < 68) (h1 : q < 4 * B ∨ 16 ≤ q)
    (c1 : jChg q v r t t' p p' b b' a a' d d' n n') (c2 : jChg q2 v r2 m m' p2 p2' b2 b2' a2 a2' d2 d2' n2 n2') (eq : q = q2) : r = r2 := by
  rw [c1.1, c2.1, ← eq]; exact h.1 _ (by omega) (by omega)
theorem jNumP.chg {t m p p2 b b2 a a2 t' m' p' p2' b' b2' a' a2' : Nat → Int32} {B n d d' n' d2 d2' n2 n2' q q2 : Int} {v r r2 : Int32} (h : jNumP t m p p2 b b2 a a2 B n2) (h0 : 0 ≤ q ∧ q < 68) (h1 : q < 4 * B ∨ 16 ≤ q)
    (c1 : jChg q v r t t' p p' b b' a a' d d' n n') (c2 : jChg q2 v r2 m m' p2 p2' b2 b2' a2 a2' d2 d2' n2 n2') (eq : q = q2) (ed : d = d2) (en : n = n2) (hd : 0 ≤ d ∧ d ≤ n) : jNumP t' m' p' p2' b' b2' a' a2' B n2' ∧ d' = d2' ∧ n' = n2' := by
  have er := h.res h0 h1 c1 c2 eq
  subst eq ed en er
  obtain ⟨_, c1⟩ := c1
  obtain ⟨_, c2⟩ := c2
  rcases c1 with ⟨g1, e1, e2, e3, e4, e5, e6⟩ | ⟨g1, e1, e2, p1, b1, a1, z, e3, e4, e5, e6, e7⟩
  · rcases c2 with ⟨_, f1, f2, f3, f4, f5, f6⟩ | ⟨g2, _⟩
    · subst e1 e2 e3 e4 e5 e6 f1 f2 f3 f4 f5 f6; exact ⟨h, rfl, rfl⟩
    · exact absurd g1 g2
  · rcases c2 with ⟨g2, _⟩ | ⟨_, f1, f2, p3, b3, a3, z2, f3, f4, f5, f6, f7⟩
    · exact absurd g2 g1
    have ez : z = z2 := Int32.toInt_inj.mp (by omega)
    have ed : d' = d2' := by omega
    have hd' : 1 ≤ d' := by omega
    have ee := h.put e2 f2 rfl h0.1 h1
    refine ⟨⟨ee.1, ee.2.1, fun k hk => ?_⟩, ed, by omega⟩
    rw [e5, e6, e7, f5, f6, f7, ← ed, ← ez]
    unfold jupd
    by_cases e : k = (d' - 1).toNat
    · rw [if_pos e, if_pos e, if_pos e, if_pos e, if_pos e, if_pos e]; exact ⟨⟨rfl, rfl, rfl⟩, by omega, by omega⟩
    · rw [if_neg e, if_neg e, if_neg e, if_neg e, if_neg e, if_neg e]
      rcases e4 with ⟨x1, x2, x3, x4, x5⟩ | ⟨x1, x2, x3, x4, x5⟩
      · rcases f4 with ⟨y1, y2, y3, y4, y5⟩ | ⟨y1, _⟩
        · subst x3 x4 x5 y3 y4 y5; exact h.2.2 k (by omega)
        · exact absurd x1 (by omega)
      · rcases f4 with ⟨y1, _⟩ | ⟨y1, y2, y3, y4, y5⟩
        · exact absurd y1 (by omega)
        · have hk9 : k < 39 := by omega
          rw [x3 k hk9, x4 k hk9, x5 k hk9, y3 k hk9, y4 k hk9, y5 k hk9]; exact h.2.2 (k + 1) (by omega)
def jEok (bs w v B : Int) : Prop := 0 ≤ bs ∧ bs / 10 < B ∧ ((w = 0 ∧ bs % 10 ≤ 3 ∧ 0 ≤ v ∧ v ≤ 500) ∨ (w = 1 ∧ bs % 10 ≤ 3 ∧ -9 ≤ v ∧ v ≤ 9) ∨ (w = 2 ∧ 0 ≤ v ∧ v ≤ 8))
def jEpl (bs w q : Int) : Prop := (w = 0 ∧ q = 4 * (bs / 10) + bs % 10) ∨ (w = 1 ∧ q = 16 + 4 * (bs / 10) + bs % 10) ∨ (w = 2 ∧ q = 32 + bs / 10)
def jFok (fs w v B : Int) : Prop := 0 ≤ fs ∧ fs / 10 < 4 ∧ fs % 10 ≤ 3 ∧ ((w = 0 ∧ -200 ≤ v ∧ v ≤ 200) ∨ (w = 1 ∧ -9 ≤ v ∧ v ≤ 9))
def jFpl (fs w q : Int) : Prop := (w = 0 ∧ q = 36 + 4 * (fs / 10) + fs % 10) ∨ (w = 1 ∧ q = 52 + 4 * (fs / 10) + fs % 10)
theorem jEdge_pl {bs w v B q q2 : Int} (h0 : B ≤ 4) (h : jEok bs w v B) (h1 : jEpl bs w q) (h2 : jEpl bs w q2) : (0 ≤ q ∧ q < 68) ∧ (q < 4 * B ∨ 16 ≤ q) ∧ q = q2 := by
  unfold jEok jEpl at *; omega
theorem jField_pl {bs w v B q q2 : Int} (h0 : B ≤ 4) (h : jFok bs w v B) (h1 : jFpl bs w q) (h2 : jFpl bs w q2) : (0 ≤ q ∧ q < 68) ∧ (q < 4 * B ∨ 16 ≤ q) ∧ q = q2 := by
  unfold jFok jFpl at *; omega
theorem jbq {x y : Int32} (h : x.toBitVec = y.toBitVec) : x = y := Int32.toBitVec_inj.mp h
def jBc (v i : Int32) : Int32 := (v.toUInt32 >>> (Int32.toUInt32 (8 * i) &&& Int32.toUInt32 31)).toInt32 &&& 255
def jBr (v i : Int32) : Int32 := (v >>> ((8 * i) &&& 31)) &&& 255
theorem jb255 (i : Nat) (h : 8 ≤ i) : (255#32).getLsbD i = false := by
  by_cases h2 : i < 32
  · have : i = 8 ∨ i = 9 ∨ i = 10 ∨ i = 11 ∨ i = 12 ∨ i = 13 ∨ i = 14 ∨ i = 15 ∨ i = 16 ∨ i = 17 ∨ i = 18 ∨ i = 19 ∨ i = 20 ∨ i = 21 ∨ i = 22 ∨ i = 23 ∨ i = 24 ∨ i = 25 ∨ i = 26 ∨ i = 27 ∨ i = 28 ∨ i = 29 ∨ i = 30 ∨ i = 31 := by omega
    rcases this with rfl | rfl | rfl | rfl | rfl | rfl | rfl | rfl | rfl | rfl | rfl | rfl | rfl | rfl | rfl | rfl | rfl | rfl | rfl | rfl | rfl | rfl | rfl | rfl <;> decide
  · exact BitVec.getLsbD_of_ge _ _ (by omega)
theorem jbvq (w : BitVec 32) (n : Nat) (hn : n ≤ 24) : (w >>> n) &&& 255#32 = (w.sshiftRight n) &&& 255#32 := by
  apply BitVec.eq_of_getLsbD_eq
  intro i hi
  rw [BitVec.getLsbD_and, BitVec.getLsbD_and]
  by_cases h8 : 8 ≤ i
  · rw [jb255 i h8, Bool.and_false, Bool.and_false]
  · rw [BitVec.getLsbD_ushiftRight, BitVec.getLsbD_sshiftRight]
    have h1 : ¬ 32 ≤ i := by omega
    have h2 : n + i < 32 := by omega
    simp [h1, h2]
theorem jB_eq (v : Int32) : ∀ k : Nat, k < 4 → jBc v (Int32.ofNat k) = jBr v (Int32.ofNat k) := by
  intro k hk
  have h9 : k = 0 ∨ k = 1 ∨ k = 2 ∨ k = 3 := by omega
  rcases h9 with rfl | rfl | rfl | rfl
  · exact jbq (jbvq v.toBitVec 0 (by decide))
  · exact jbq (jbvq v.toBitVec 8 (by decide))
  · exact jbq (jbvq v.toBitVec 16 (by decide))
  · exact jbq (jbvq v.toBitVec 24 (by decide))

theorem jofn {x : Int32} (h0 : 0 ≤ x.toInt) (h1 : x.toInt ≤ 1000) : x = Int32.ofNat x.toInt.toNat := Int32.toInt_inj.mp (by rw [show (Int32.ofNat x.toInt.toNat).toInt = ((x.toInt.toNat : Nat) : Int) from nI_toInt (by omega)]; omega)
theorem jix {f : Nat → Int32} {x : Int32} {A : Int} (h : x.toInt = A) : (f x.toNatClampNeg).toInt = (f A.toNat).toInt := by rw [jnc h]
/-- what is fed -/
def jFd (b : Int32 → Int32 → Int32) (f g : Nat → Int32) (s n : Int) (v : Int32) : Prop := (∀ j : Nat, (j : Int) < s → g j = f j) ∧ ∀ k : Nat, (k : Int) < n → g (s.toNat + k) = b v (Int32.ofNat k)
theorem jFd.first {b : Int32 → Int32 → Int32} {f : Nat → Int32} {s n : Int} {v : Int32} (h : n ≤ 0) : jFd b f f s n v := ⟨fun _ _ => rfl, fun k hk => absurd hk (by omega)⟩
theorem jFd.step {b : Int32 → Int32 → Int32} {f g g' : Nat → Int32} {s i i' x : Int} {v w y : Int32} (h : jFd b f g s i v) (e : g' = jupd g x.toNat w) (hx : x = s + i) (hw : w = b v y) (hy : y.toInt = i) (h0 : 0 ≤ s) (h1 : 0 ≤ i) (h2 : i ≤ 100) (hi : i' = i + 1) : jFd b f g' s i' v := by
  subst e hx hw hi
  refine ⟨fun j hj => ?_, fun k hk => ?_⟩
  · unfold jupd; rw [if_neg (by omega)]; exact h.1 j hj
  · unfold jupd
    by_cases e : s.toNat + k = (s + i).toNat
    · rw [if_pos e, show y = Int32.ofNat k from by rw [jofn (x := y) (by omega) (by omega)]; congr 1; omega]
    · rw [if_neg e]; exact h.2 k (by omega)
def jTp (f g : Nat → Int32) (n : Int) : Prop := ∀ k : Nat, (k : Int) < n → f k = g k
theorem jTp.feed {f f' g g' : Nat → Int32} {n n' c : Int} {v : Int32} (h : jTp f g n) (a : jFd jBc f f' n c v) (b : jFd jBr g g' n c v) (h0 : 0 ≤ n) (hc : c ≤ 4) (e : n' = n + c) : jTp f' g' n' := by
  intro k hk
  by_cases hq : (k : Int) < n
  · rw [a.1 k hq, b.1 k hq]; exact h k hq
  · have e2 : k = n.toNat + (k - n.toNat) := by omega
    rw [e2, a.2 _ (by omega), b.2 _ (by omega)]; exact jB_eq v _ (by omega)
theorem jTp.le {f g : Nat → Int32} {n n' : Int} (h : jTp f g n) (e : n' ≤ n) : jTp f g n' := fun k hk => h k (by omega)
theorem jTp.at {f g : Nat → Int32} {n : Int} (h : jTp f g n) (p : Int) (h0 : 0 ≤ p) : n ≤ p ∨ (f p.toNat).toInt = (g p.toNat).toInt := by
  by_cases hq : n ≤ p
  · exact Or.inl hq
  · exact Or.inr (by rw [h p.toNat (by omega)])
/-- an order, read -/
def jDg (f : Nat → Int32) (n p : Int) : Prop := p < n ∧ 48 ≤ (f p.toNat).toInt ∧ (f p.toNat).toInt ≤ 57
def jIs (f : Nat → Int32) (n p c : Int) : Prop := p < n ∧ (f p.toNat).toInt = c
def jNb (f : Nat → Int32) (n p k q v : Int) : Prop :=
  (q = 0 ∧ v = 0 ∧ ¬ jDg f n p) ∨
  (q = 1 ∧ jDg f n p ∧ ¬ jDg f n (p + 1) ∧ v = (f p.toNat).toInt - 48) ∨
  (q = 2 ∧ jDg f n p ∧ jDg f n (p + 1) ∧ (k = 2 ∨ ¬ jDg f n (p + 2)) ∧ v = 10 * ((f p.toNat).toInt - 48) + (f (p + 1).toNat).toInt - 48) ∨
  (q = 3 ∧ k = 3 ∧ jDg f n p ∧ jDg f n (p + 1) ∧ jDg f n (p + 2) ∧ v = 100 * ((f p.toNat).toInt - 48) + 10 * ((f (p + 1).toNat).toInt - 48) + (f (p + 2).toNat).toInt - 48)
theorem jNb.det {f g : Nat → Int32} {n p k q v q' v' : Int} (hp : 0 ≤ p) (hk : k = 2 ∨ k = 3) (h : jTp f g n) (a : jNb f n p k q v) (b : jNb g n p k q' v') : q = q' ∧ v = v' := by
  have e0 := h.at p hp
  have e1 := h.at (p + 1) (by omega)
  have e2 := h.at (p + 2) (by omega)
  unfold jNb jDg at a b
  generalize (f p.toNat).toInt = f0 at *
  generalize (g p.toNat).toInt = g0 at *
  generalize (f (p + 1).toNat).toInt = f1 at *
  generalize (g (p + 1).toNat).toInt = g1 at *
  generalize (f (p + 2).toNat).toInt = f2 at *
  generalize (g (p + 2).toNat).toInt = g2 at *
  rcases a with a | a | a | a <;> rcases b with b | b | b | b <;> omega
def jDs (f : Nat → Int32) (n m : Int) : Prop := ∀ j : Nat, (j : Int) < m → (j : Int) < n ∧ 48 ≤ (f j).toInt ∧ (f j).toInt ≤ 51
def jDv (f g : Nat → Int32) (m : Int) : Prop := ∀ j : Nat, (j : Int) < m → (g j).toInt = (f j).toInt - 48
theorem jDs.first {f : Nat → Int32} {n m : Int} (h : m ≤ 0) : jDs f n m := fun j hj => absurd hj (by omega)
theorem jDv.first {f g : Nat → Int32} {m : Int} (h : m ≤ 0) : jDv f g m := fun j hj => absurd hj (by omega)
theorem jDs.step {f : Nat → Int32} {n m m' : Int} (h : jDs f n m) (h0 : 0 ≤ m) (h1 : m < n ∧ 48 ≤ (f m.toNat).toInt ∧ (f m.toNat).toInt ≤ 51) (e : m' = m + 1) : jDs f n m' := by
  intro j hj
  by_cases hq : (j : Int) < m
  · exact h j hq
  · have e2 : j = m.toNat := by omega
    rw [e2]; exact ⟨by omega, h1.2⟩
theorem jDv.step {f g g' : Nat → Int32} {m m' x : Int} {v : Int32} (h : jDv f g m) (h0 : 0 ≤ m) (e1 : g' = jupd g x.toNat v) (hx : x = m) (hv : v.toInt = (f m.toNat).toInt - 48) (e : m' = m + 1) : jDv f g' m' := by
  subst e1 hx
  intro j hj
  unfold jupd
  by_cases hq : j = x.toNat
  · rw [if_pos hq, hq]; exact hv
  · rw [if_neg hq]; exact h j (by omega)
def jMm (f : Nat → Int32) (n m : Int) : Prop := (0 ≤ m ∧ m ≤ 8) ∧ jDs f n m ∧ (m = 8 ∨ ¬ (m < n ∧ 48 ≤ (f m.toNat).toInt ∧ (f m.toNat).toInt ≤ 51))
theorem jMm.det {f g : Nat → Int32} {n m m' : Int} (h : jTp f g n) (a : jMm f n m) (b : jMm g n m') : m = m' := by
  obtain ⟨a1, a2, a3⟩ := a
  obtain ⟨b1, b2, b3⟩ := b
  rcases Int.lt_trichotomy m m' with q | q | q
  · have e := h.at m a1.1
    have b4 := b2 m.toNat (by omega)
    exfalso; omega
  · exact q
  · have e := h.at m' b1.1
    have a4 := a2 m'.toNat (by omega)
    exfalso; omega
def jTm (f : Nat → Int32) (n m p t x : Int) : Prop :=
  (m = 0 ∧ x = 0) ∨ (1 ≤ m ∧ ¬ jIs f n m 58 ∧ p = m ∧ t = 8 ∧ x = -1) ∨
  (1 ≤ m ∧ jIs f n m 58 ∧ ∃ q v : Int, jNb f n (m + 1) 2 q v ∧ (((q = 0 ∨ v < 1 ∨ 12 < v) ∧ x = m + 1) ∨ (1 ≤ q ∧ 1 ≤ v ∧ v ≤ 12 ∧ t = v ∧ p = m + 1 + q ∧ x = -1)))
theorem jTm.det {f g : Nat → Int32} {n m p t x p' t' x' : Int} (h : jTp f g n) (hm : 0 ≤ m) (a : jTm f n m p t x) (b : jTm g n m p' t' x') : x = x' ∧ (x = -1 → p = p' ∧ t = t' ∧ 0 ≤ p) := by
  have e := h.at m hm
  unfold jTm jIs at a b
  rcases a with a | a | ⟨a1, a2, q, v, a3, a4⟩ <;> rcases b with b | b | ⟨b1, b2, q', v', b3, b4⟩
  · omega
  · omega
  · omega
  · omega
  · omega
  · omega
  · omega
  · omega
  · obtain ⟨c1, c2⟩ := jNb.det (by omega) (Or.inl rfl) h a3 b3
    have c3 : 0 ≤ q := by unfold jNb at a3; omega
    omega
def jRm (f : Nat → Int32) (n p r x p2 x2 : Int) : Prop :=
  (0 ≤ x ∧ x2 = x) ∨ (x = -1 ∧ ¬ jIs f n p 114 ∧ r = 0 ∧ p2 = p ∧ x2 = -1) ∨
  (x = -1 ∧ jIs f n p 114 ∧ ∃ q v : Int, jNb f n (p + 1) 3 q v ∧ ((q = 0 ∧ x2 = p + 1) ∨ (1 ≤ q ∧ r = v ∧ p2 = p + 1 + q ∧ x2 = -1)))
theorem jRm.det {f g : Nat → Int32} {n p r x p2 x2 r' p2' x2' : Int} (h : jTp f g n) (hp : x = -1 → 0 ≤ p) (a : jRm f n p r x p2 x2) (b : jRm g n p r' x p2' x2') : x2 = x2' ∧ (x2 = -1 → r = r' ∧ p2 = p2') := by
  unfold jRm jIs at a b
  rcases a with a | a | ⟨a1, a2, q, v, a3, a4⟩
  · rcases b with b | b | ⟨b1, b2, q', v', b3, b4⟩ <;> omega
  · have e := h.at p (hp a.1)
    clear hp h
    rcases b with b | b | ⟨b1, b2, q', v', b3, b4⟩
    · omega
    · omega
    · clear b3; omega
  · have e := h.at p (hp a1)
    have hp2 := hp a1
    clear hp
    rcases b with b | b | ⟨b1, b2, q', v', b3, b4⟩
    · clear a3; omega
    · clear a3; omega
    · obtain ⟨c1, c2⟩ := jNb.det (by omega) (Or.inr rfl) h a3 b3
      omega
def jOrd (f : Nat → Int32) (n m t r x : Int) : Prop := jMm f n m ∧ ∃ p x1 p2 x2 : Int, jTm f n m p t x1 ∧ (x1 = -1 → 0 ≤ p) ∧ jRm f n p r x1 p2 x2 ∧ ((0 ≤ x2 ∧ x = x2) ∨ (x2 = -1 ∧ p2 < n ∧ x = p2 ∧ 0 ≤ p2) ∨ (x2 = -1 ∧ n ≤ p2 ∧ x = -1))
theorem jRm.imp {f : Nat → Int32} {n p p' r x p2 x2 : Int} (a : jRm f n p r x p2 x2) (e : x = -1 → p = p') : jRm f n p' r x p2 x2 := by
  by_cases h : x = -1
  · rw [← e h]; exact a
  · unfold jRm at a ⊢
    rcases a with a | a | ⟨a1, a2⟩
    · exact Or.inl a
    · exact absurd a.1 h
    · exact absurd a1 h
theorem jOrd.det {f g : Nat → Int32} {n m t r x m' t' r' x' : Int} (h : jTp f g n) (a : jOrd f n m t r x) (b : jOrd g n m' t' r' x') : m = m' ∧ x = x' ∧ (x = -1 → t = t' ∧ r = r') := by
  obtain ⟨a1, p, x1, p2, x2, a2, a3, a4, a5⟩ := a
  obtain ⟨b1, q, y1, q2, y2, b2, b3, b4, b5⟩ := b
  have em := a1.det h b1
  subst em
  obtain ⟨c1, c2⟩ := a2.det h a1.1.1 b2
  subst c1
  obtain ⟨d1, d2⟩ := jRm.det h (fun z => (c2 z).2.2) a4 (b4.imp (fun z => (c2 z).1.symm))
  refine ⟨rfl, ?_, ?_⟩
  · by_cases z : x2 = -1
    · have := d2 z; omega
    · omega
  · intro z
    have z2 : x2 = -1 := by omega
    have z1 : x1 = -1 := by
      unfold jRm at a4
      rcases a4 with a4 | a4 | ⟨a4, _⟩ <;> omega
    exact ⟨(c2 z1).2.1, (d2 z2).1⟩
/-- what a call of order does -/
def jOrA (f g g0 : Nat → Int32) (n res M T R M0 T0 R0 : Int) : Prop := ∃ m t r x : Int, jOrd f n m t r x ∧ ((0 ≤ x ∧ res = -100 - x ∧ M = M0 ∧ T = T0 ∧ R = R0 ∧ g = g0) ∨ (x = -1 ∧ res = m ∧ M = m ∧ T = t ∧ R = r ∧ jDv f g m))
def jOrB (f g g0 : Nat → Int32) (n res M T R M0 T0 R0 : Int) : Prop := ∃ m t r x : Int, jOrd f n m t r x ∧ ((0 ≤ x ∧ res = x ∧ M = M0 ∧ T = T0 ∧ R = R0 ∧ g = g0) ∨ (x = -1 ∧ res = -1 ∧ M = m ∧ T = t ∧ R = r ∧ jDv f g m))
def jSo (f g : Nat → Int32) (m : Int) : Prop := ∀ j : Nat, (j : Int) < m → f j = g j
theorem jOrA.det {f f2 g g0 g2 g20 : Nat → Int32} {n res M T R M0 T0 R0 res2 M2 T2 R2 M20 T20 R20 : Int} (h : jTp f f2 n) (a : jOrA f g g0 n res M T R M0 T0 R0) (b : jOrA f2 g2 g20 n res2 M2 T2 R2 M20 T20 R20) (e1 : M0 = M20) (e2 : T0 = T20) (e3 : R0 = R20) (e4 : jSo g0 g20 M0) : res = res2 ∧ M = M2 ∧ T = T2 ∧ R = R2 ∧ jSo g g2 M := by
  obtain ⟨m, t, r, x, a1, a2⟩ := a
  obtain ⟨m', t', r', x', b1, b2⟩ := b
  obtain ⟨c1, c2, c3⟩ := jOrd.det h a1 b1
  subst c1 c2
  have hm := a1.1
  rcases a2 with ⟨q1, q2, q3, q4, q5, q6⟩ | ⟨q1, q2, q3, q4, q5, q6⟩ <;> rcases b2 with ⟨w1, w2, w3, w4, w5, w6⟩ | ⟨w1, w2, w3, w4, w5, w6⟩
  · subst q6 w6; exact ⟨by omega, by omega, by omega, by omega, by rw [q3]; exact e4⟩
  · exact absurd q1 (by omega)
  · exact absurd q1 (by omega)
  · obtain ⟨c4, c5⟩ := c3 q1
    refine ⟨by omega, by omega, by omega, by omega, fun j hj => Int32.toInt_inj.mp ?_⟩
    have e := h j (by have := (hm.2.1 j (by omega)).1; omega)
    rw [q6 j (by omega), w6 j (by omega), e]
theorem jcpy0 {f g : Nat → Int32} {x y n : Int32} {N : Int} (hx : x = 0) (hy : y = 0) (hn : n.toInt = N) : ∀ k : Nat, (k : Int) < N → va_cpy f g x.toNatClampNeg y.toNatClampNeg n.toNatClampNeg k = f k := by
  intro k hk
  subst hx hy
  have e2 : n.toNatClampNeg = N.toNat := by rw [← hn]; rfl
  have e3 : (0 : Int32).toNatClampNeg = 0 := by decide
  unfold va_cpy
  rw [e2, e3, if_pos (by omega)]
  congr 1
  omega

theorem jSo.first {f g : Nat → Int32} {m : Int} (h : m ≤ 0) : jSo f g m := fun j hj => absurd hj (by omega)
theorem jSo.step {f f' g : Nat → Int32} {m m' x : Int} {v : Int32} (h : jSo f g m) (h0 : 0 ≤ m) (e1 : f' = jupd f x.toNat v) (hx : x = m) (hv : v = g m.toNat) (e : m' = m + 1) : jSo f' g m' := by
  subst e1 hx
  intro j hj
  unfold jupd
  by_cases hq : j = x.toNat
  · rw [if_pos hq, hq]; exact hv
  · rw [if_neg hq]; exact h j (by omega)
theorem jDv.so {f g k : Nat → Int32} {m : Int} (h : jDv f g m) (e : jSo k g m) : jDv f k m := fun j hj => by rw [e j hj]; exact h j hj

theorem jOrA.res {f f2 g g0 g2 g20 : Nat → Int32} {n res M T R M0 T0 R0 res2 M2 T2 R2 M20 T20 R20 : Int} (h : jTp f f2 n) (a : jOrA f g g0 n res M T R M0 T0 R0) (b : jOrA f2 g2 g20 n res2 M2 T2 R2 M20 T20 R20) : res = res2 := by
  obtain ⟨m, t, r, x, a1, a2⟩ := a
  obtain ⟨m', t', r', x', b1, b2⟩ := b
  obtain ⟨c1, c2, c3⟩ := jOrd.det h a1 b1
  subst c1 c2
  rcases a2 with ⟨q1, q2, _⟩ | ⟨q1, q2, _⟩ <;> rcases b2 with ⟨w1, w2, _⟩ | ⟨w1, w2, _⟩ <;> omega
theorem jrow_s {σ : Nat → Nat → Int32} {i : Nat} {g : Nat → Int32} : jrow σ i g i = g := if_pos rfl
theorem jSo.trans {f g h : Nat → Int32} {m m1 m2 : Int} (a : jSo f g m1) (b : jSo g h m2) (e1 : m ≤ m1) (e2 : m ≤ m2) : jSo f h m := fun j hj => by rw [a j (by omega), b j (by omega)]
theorem jSo.thru {f g g' : Nat → Int32} {m m' : Int} (h : jSo f g m) (a : jSo g' g m') (e : m ≤ m') : jSo f g' m := fun j hj => by rw [h j hj, a j (by omega)]
theorem jSo.rfl {f : Nat → Int32} {m : Int} : jSo f f m := fun _ _ => Eq.refl _

theorem jall6 {P : Nat → Prop} (h0 : P 0) (h1 : P 1) (h2 : P 2) (h3 : P 3) (h4 : P 4) (h5 : P 5) : ∀ d : Nat, d < 6 → P d := fun d hd => by
  have h9 : d = 0 ∨ d = 1 ∨ d = 2 ∨ d = 3 ∨ d = 4 ∨ d = 5 := by omega
  rcases h9 with rfl | rfl | rfl | rfl | rfl | rfl <;> assumption
def jSh1 (a b c x y : Int32) (n : Int) : Prop := (a = -2 ∧ c = -1) ∨ (a = -1 ∧ c = b ∧ 0 ≤ b.toInt ∧ b.toInt < n) ∨ (0 ≤ a.toInt ∧ a.toInt ≤ 4 ∧ c.toInt = 20 + a.toInt ∧ b = -1 ∧ x = y)
def jShP (so le ru sh ma : Nat → Int32) (n : Int) : Prop := n ≤ 20 ∧ ∀ d : Nat, d < 6 → jSh1 (so d) (ru d) (sh d) (le d) (ma d) n
theorem jShP.up {so le ru sh ma : Nat → Int32} {n n' : Int} (h : jShP so le ru sh ma n) (h1 : n ≤ n') (h2 : n' ≤ 20) : jShP so le ru sh ma n' := by
  refine ⟨h2, fun d hd => ?_⟩
  rcases h.2 d hd with q | ⟨q1, q2, q3, q4⟩ | q
  · exact Or.inl q
  · exact Or.inr (Or.inl ⟨q1, q2, q3, by omega⟩)
  · exact Or.inr (Or.inr q)
theorem jShP.set {so le ru sh ma so' le' ru' sh' ma' : Nat → Int32} {n : Int} {d : Nat} {a b c x y : Int32} (h : jShP so le ru sh ma n) (e1 : so' = jupd so d a) (e2 : le' = jupd le d x) (e3 : ru' = jupd ru d b) (e4 : sh' = jupd sh d c) (e5 : ma' = jupd ma d y) (ok : jSh1 a b c x y n) : jShP so' le' ru' sh' ma' n := by
  subst e1 e2 e3 e4 e5
  refine ⟨h.1, fun k hk => ?_⟩
  unfold jupd
  by_cases e : k = d
  · rw [if_pos e, if_pos e, if_pos e, if_pos e, if_pos e]; exact ok
  · rw [if_neg e, if_neg e, if_neg e, if_neg e, if_neg e]; exact h.2 k hk
theorem jShP.at {so le ru sh ma : Nat → Int32} {n : Int} (h : jShP so le ru sh ma n) {d : Int32} (h0 : 0 ≤ d.toInt) (h1 : d.toInt ≤ 5) :
    ((so d.toNatClampNeg).toInt = -2 ∧ (sh d.toNatClampNeg).toInt = -1) ∨ ((so d.toNatClampNeg).toInt = -1 ∧ sh d.toNatClampNeg = ru d.toNatClampNeg ∧ 0 ≤ (ru d.toNatClampNeg).toInt ∧ (ru d.toNatClampNeg).toInt < n) ∨ (0 ≤ (so d.toNatClampNeg).toInt ∧ (so d.toNatClampNeg).toInt ≤ 4 ∧ (sh d.toNatClampNeg).toInt = 20 + (so d.toNatClampNeg).toInt ∧ (ru d.toNatClampNeg).toInt = -1 ∧ (le d.toNatClampNeg).toInt = (ma d.toNatClampNeg).toInt) := by
  have hd : d.toNatClampNeg < 6 := jnat (x := d) (A := d.toInt) rfl (by omega) (by decide)
  rcases h.2 _ hd with ⟨q1, q2⟩ | ⟨q1, q2, q3, q4⟩ | ⟨q1, q2, q3, q4, q5⟩
  · exact Or.inl ⟨by rw [q1]; decide, by rw [q2]; decide⟩
  · exact Or.inr (Or.inl ⟨by rw [q1]; decide, q2, q3, q4⟩)
  · exact Or.inr (Or.inr ⟨q1, q2, q3, by rw [q4]; decide, by rw [q5]⟩)
def jRf (d i so le : Int) : Int := if d < 0 ∨ 5 < d then -1 else if so = -2 then -11 else if so = -1 then -12 else if i < 0 ∨ le ≤ i then -13 else 1
def jRg (d i sh ma : Int) : Int := if d < 0 ∨ 5 < d then -1 else if sh < 0 then -11 else if sh < 20 then -12 else if i < 0 ∨ ma ≤ i then -13 else 1
theorem jShP.rf {so le ru sh ma : Nat → Int32} {n : Int} (h : jShP so le ru sh ma n) {d : Int32} {i : Int} : jRf d.toInt i (so d.toNatClampNeg).toInt (le d.toNatClampNeg).toInt = jRg d.toInt i (sh d.toNatClampNeg).toInt (ma d.toNatClampNeg).toInt := by
  have hn := h.1
  unfold jRf jRg
  by_cases hd : d.toInt < 0 ∨ 5 < d.toInt
  · rw [if_pos hd, if_pos hd]
  rw [if_neg hd, if_neg hd]
  rcases h.at (d := d) (by omega) (by omega) with ⟨q1, q2⟩ | ⟨q1, q2, q3, q4⟩ | ⟨q1, q2, q3, q4, q5⟩
  · (repeat' split) <;> omega
  · have q5 : (sh d.toNatClampNeg).toInt = (ru d.toNatClampNeg).toInt := by rw [q2]
    (repeat' split) <;> omega
  · rw [q5]; (repeat' split) <;> omega
def jSf (d i e j n so se le lo : Int) : Int := if d < 0 ∨ 5 < d ∨ e < 0 ∨ 5 < e then -1 else if so = -2 ∨ se = -2 then -11 else if so = -1 ∨ so ≠ se then -12 else if n < 0 ∨ i < 0 ∨ j < 0 ∨ le - i < n ∨ lo - j < n then -13 else n
def jSg (d i e j n so se le lo : Int) : Int := if d < 0 ∨ 5 < d ∨ e < 0 ∨ 5 < e then -1 else if so < 0 ∨ se < 0 then -11 else if so < 20 ∨ so ≠ se then -12 else if n < 0 ∨ i < 0 ∨ j < 0 ∨ le - i < n ∨ lo - j < n then -13 else n
theorem jShP.sf {so le ru sh ma : Nat → Int32} {n : Int} (h : jShP so le ru sh ma n) {d e : Int32} {i j k : Int} : jSf d.toInt i e.toInt j k (so d.toNatClampNeg).toInt (so e.toNatClampNeg).toInt (le d.toNatClampNeg).toInt (le e.toNatClampNeg).toInt = jSg d.toInt i e.toInt j k (sh d.toNatClampNeg).toInt (sh e.toNatClampNeg).toInt (ma d.toNatClampNeg).toInt (ma e.toNatClampNeg).toInt := by
  have hn := h.1
  unfold jSf jSg
  by_cases hd : d.toInt < 0 ∨ 5 < d.toInt ∨ e.toInt < 0 ∨ 5 < e.toInt
  · rw [if_pos hd, if_pos hd]
  rw [if_neg hd, if_neg hd]
  have hx := h.at (d := d) (by omega) (by omega)
  have hy := h.at (d := e) (by omega) (by omega)
  generalize (so d.toNatClampNeg).toInt = s1 at *
  generalize (so e.toNatClampNeg).toInt = s2 at *
  generalize (le d.toNatClampNeg).toInt = l1 at *
  generalize (le e.toNatClampNeg).toInt = l2 at *
  generalize (ma d.toNatClampNeg).toInt = m1 at *
  generalize (ma e.toNatClampNeg).toInt = m2 at *
  have hx' : (s1 = -2 ∧ (sh d.toNatClampNeg).toInt = -1) ∨ (s1 = -1 ∧ 0 ≤ (sh d.toNatClampNeg).toInt ∧ (sh d.toNatClampNeg).toInt < 20) ∨ (0 ≤ s1 ∧ s1 ≤ 4 ∧ (sh d.toNatClampNeg).toInt = 20 + s1 ∧ l1 = m1) := by
    rcases hx with q | ⟨q1, q2, q3, q4⟩ | ⟨q1, q2, q3, q4, q5⟩
    · exact Or.inl q
    · rw [q2]; exact Or.inr (Or.inl ⟨q1, q3, by omega⟩)
    · exact Or.inr (Or.inr ⟨q1, q2, q3, q5⟩)
  have hy' : (s2 = -2 ∧ (sh e.toNatClampNeg).toInt = -1) ∨ (s2 = -1 ∧ 0 ≤ (sh e.toNatClampNeg).toInt ∧ (sh e.toNatClampNeg).toInt < 20) ∨ (0 ≤ s2 ∧ s2 ≤ 4 ∧ (sh e.toNatClampNeg).toInt = 20 + s2 ∧ l2 = m2) := by
    rcases hy with q | ⟨q1, q2, q3, q4⟩ | ⟨q1, q2, q3, q4, q5⟩
    · exact Or.inl q
    · rw [q2]; exact Or.inr (Or.inl ⟨q1, q3, by omega⟩)
    · exact Or.inr (Or.inr ⟨q1, q2, q3, q5⟩)
  clear hx hy
  generalize (sh d.toNatClampNeg).toInt = t1 at *
  generalize (sh e.toNatClampNeg).toInt = t2 at *
  (repeat' split) <;> omega
abbrev jUnd (k o : Int) : Prop := o = k ∨ o = 0 ∨ (k = 3 ∧ o = 2) ∨ (k = 4 ∧ o = 1) ∨ (k = 5 ∧ o = 3) ∨ (k = 5 ∧ o = 2)
def jTk (d k so ru kd n : Int) : Int := if d < 0 ∨ 5 < d ∨ k < 0 ∨ 6 < k then -1 else if so = -2 then -11 else if ru < 0 then -12 else if n ≤ ru then (if ¬ jUnd 0 k then -12 else 0) else if ¬ jUnd kd k then -12 else kd
def jTg (d k sh kd : Int) : Int := if d < 0 ∨ 5 < d ∨ k < 0 ∨ 6 < k then -1 else if sh < 0 then -11 else if 20 ≤ sh ∨ ¬ jUnd kd k then -12 else kd
/-- kinds of class and reference are the same -/
def jKd (f g : Nat → Int32) (n : Int) : Prop := ∀ r : Nat, (r : Int) < n → f r = g r
theorem jKd.on {f g f' g' : Nat → Int32} {n n' : Int} {v : Int32} (h : jKd f g n) (e1 : f' = jupd f n.toNat v) (e2 : g' = jupd g n.toNat v) (e3 : n' = n + 1) (h0 : 0 ≤ n) : jKd f' g' n' := by
  subst e1 e2
  intro r hr
  unfold jupd
  by_cases e : r = n.toNat
  · rw [if_pos e, if_pos e]
  · rw [if_neg e, if_neg e]; exact h r (by omega)
theorem jShP.tk {so le ru sh ma : Nat → Int32} {f g : Nat → Int32} {n : Int} (h : jShP so le ru sh ma n) (h2 : jKd f g n) {d : Int32} {k : Int} : jTk d.toInt k (so d.toNatClampNeg).toInt (ru d.toNatClampNeg).toInt (f (ru d.toNatClampNeg).toNatClampNeg).toInt n = jTg d.toInt k (sh d.toNatClampNeg).toInt (g (sh d.toNatClampNeg).toNatClampNeg).toInt := by
  have hn := h.1
  unfold jTk jTg
  by_cases hd : d.toInt < 0 ∨ 5 < d.toInt ∨ k < 0 ∨ 6 < k
  · rw [if_pos hd, if_pos hd]
  rw [if_neg hd, if_neg hd]
  rcases h.at (d := d) (by omega) (by omega) with ⟨q1, q2⟩ | ⟨q1, q2, q3, q4⟩ | ⟨q1, q2, q3, q4, q5⟩
  · rw [if_pos q1, if_pos (by omega)]
  · have q5 : f (ru d.toNatClampNeg).toNatClampNeg = g (ru d.toNatClampNeg).toNatClampNeg := h2 _ (by rw [jnc (rfl : (ru d.toNatClampNeg).toInt = _)]; omega)
    rw [q2, q5]
    generalize (g (ru d.toNatClampNeg).toNatClampNeg).toInt = kd
    rw [if_neg (show ¬ (so d.toNatClampNeg).toInt = -2 by omega), if_neg (show ¬ (ru d.toNatClampNeg).toInt < 0 by omega), if_neg (show ¬ n ≤ (ru d.toNatClampNeg).toInt by omega)]
    by_cases c : jUnd kd k
    · rw [if_neg (show ¬ ¬ jUnd kd k from fun w => w c), if_neg (show ¬ (ru d.toNatClampNeg).toInt < 0 by omega), if_neg (show ¬ (20 ≤ (ru d.toNatClampNeg).toInt ∨ ¬ jUnd kd k) from fun w => Or.elim w (fun w => absurd w (by omega)) (fun w => w c))]
    · rw [if_pos c, if_neg (show ¬ (ru d.toNatClampNeg).toInt < 0 by omega), if_pos (show 20 ≤ (ru d.toNatClampNeg).toInt ∨ ¬ jUnd kd k from Or.inr c)]
  · rw [if_neg (show ¬ (so d.toNatClampNeg).toInt = -2 by omega), if_neg (show ¬ (sh d.toNatClampNeg).toInt < 0 by omega), if_pos (show (ru d.toNatClampNeg).toInt < 0 by omega), if_pos (Or.inl (show 20 ≤ (sh d.toNatClampNeg).toInt by omega))]
/-! elements of rows -/
def jCut (s : Int) (v : Int64) : Int64 := if s = 0 then v.toInt32.toInt8.toInt32.toInt64 else if s = 1 then v.toInt32.toInt16.toInt32.toInt64 else if s = 2 then v.toInt32.toInt64 else if s = 3 then v else if v.toInt = 0 then 0 else 1
theorem jupL_row {τ : Nat → Nat → Int64} {i n : Nat} {v : Int64} : jupL τ i n v i = vp_updL (τ i) n v := by simp [jupL, va_up]
theorem jrowL_s {τ : Nat → Nat → Int64} {i : Nat} {g : Nat → Int64} : jrowL τ i g i = g := if_pos rfl
/-- zeros are laid -/
def jFl (f g : Nat → Int64) (q : Nat) (n : Int) : Prop := (∀ k : Nat, (k : Int) < n → g (q + k) = 0) ∧ ∀ p : Nat, (p < q ∨ (q : Int) + n ≤ p) → g p = f p
theorem jFl.first {f : Nat → Int64} {q : Nat} {n : Int} (h : n = 0) : jFl f f q n := ⟨fun k hk => absurd hk (by omega), fun _ _ => rfl⟩
theorem jFl.n {f g : Nat → Int64} {q : Nat} {n m : Int} (h : jFl f g q n) (e : n = m) : jFl f g q m := e ▸ h
theorem jFl.step {f g g' : Nat → Int64} {q x : Nat} {n n' : Int} (h : jFl f g q n) (h0 : 0 ≤ n) (e : g' = vp_updL g x 0) (hx : (x : Int) = q + n) (hn : n' = n + 1) : jFl f g' q n' := by
  subst e hn
  refine ⟨fun k hk => ?_, fun p hp => ?_⟩
  · unfold vp_updL
    by_cases e : q + k = x
    · rw [if_pos e]
    · rw [if_neg e]; exact h.1 k (by omega)
  · unfold vp_updL
    rw [if_neg (by omega)]; exact h.2 p (by omega)
/-- a write: done where c is 1 -/
def jPt (c : Int) (q : Nat) (x : Int64) (f g : Nat → Int64) : Prop := (c = 1 ∧ g = vp_updL f q x) ∨ (c ≠ 1 ∧ g = f)
/-- a part is moved: done where c is not below 0 -/
def jMvL (c : Int) (q1 q2 : Nat) (n : Int) (f g : Nat → Int64) : Prop := (0 ≤ c ∧ (∀ k : Nat, (k : Int) < n → g (q2 + k) = f (q1 + k)) ∧ ∀ p : Nat, (p < q2 ∨ (q2 : Int) + n ≤ p) → g p = f p) ∨ (c < 0 ∧ g = f)
/-- some of a row is copied to another -/
def jCo (f g g' : Nat → Int64) (q1 q2 : Nat) (n : Int) : Prop := (∀ k : Nat, (k : Int) < n → g' (q2 + k) = f (q1 + k)) ∧ ∀ p : Nat, (p < q2 ∨ (q2 : Int) + n ≤ p) → g' p = g p
theorem jCo.first {f g : Nat → Int64} {q1 q2 : Nat} {n : Int} (h : n = 0) : jCo f g g q1 q2 n := ⟨fun k hk => absurd hk (by omega), fun _ _ => rfl⟩
theorem jCo.step {f g g' g'' : Nat → Int64} {q1 q2 x : Nat} {n n' : Int} {v : Int64} (h : jCo f g g' q1 q2 n) (h0 : 0 ≤ n) (e : g'' = vp_updL g' x v) (hx : (x : Int) = q2 + n) (hv : v = f (q1 + n.toNat)) (hn : n' = n + 1) : jCo f g g'' q1 q2 n' := by
  subst e hn
  refine ⟨fun k hk => ?_, fun p hp => ?_⟩
  · unfold vp_updL
    by_cases e : q2 + k = x
    · rw [if_pos e, hv]; congr 1; omega
    · rw [if_neg e]; exact h.1 k (by omega)
  · unfold vp_updL
    rw [if_neg (by omega)]; exact h.2 p (by omega)
theorem jCo.mvl {f g h h' : Nat → Int64} {q1 q2 : Nat} {n c : Int} (a : jCo f g h q1 0 n) (b : jCo h f h' 0 q2 n) (hc : 0 ≤ c) : jMvL c q1 q2 n f h' :=
  Or.inl ⟨hc, fun k hk => by rw [b.1 k hk, Nat.zero_add]; have := a.1 k hk; rw [Nat.zero_add] at this; exact this, fun p hp => b.2 p hp⟩
theorem jcpyM {f : Nat → Int64} {x y n : Int32} {X Y N c : Int} (hx : x.toInt = X) (hy : y.toInt = Y) (hn : n.toInt = N) (hc : 0 ≤ c) (h0 : 0 ≤ Y) (h1 : 0 ≤ N) : jMvL c X.toNat Y.toNat N f (va_cpy f f x.toNatClampNeg y.toNatClampNeg n.toNatClampNeg) := by
  rw [jnc hx, jnc hy, jnc hn]
  refine Or.inl ⟨hc, fun k hk => ?_, fun p hp => ?_⟩
  · unfold va_cpy; rw [if_pos (by omega)]; congr 1; omega
  · unfold va_cpy; rw [if_neg (by omega)]
/-- elements of class and reference are the same, as far as they are had -/
def jEl (so le : Nat → Int32) (f g : Nat → Int64) : Prop := ∀ d : Nat, d < 6 → 0 ≤ (so d).toInt → ∀ i : Nat, (i : Int) < (le d).toInt → f (60 * d + i) = g (60 * d + i)
theorem jEl.keep {so le so' le' : Nat → Int32} {f g : Nat → Int64} {d : Nat} {a x : Int32} (h : jEl so le f g) (e1 : so' = jupd so d a) (e2 : le' = jupd le d x) (ha : a.toInt < 0) : jEl so' le' f g := by
  subst e1 e2
  intro k hk h0 i hi
  unfold jupd at h0 hi
  by_cases e : k = d
  · rw [if_pos e] at h0; exact absurd h0 (by omega)
  · rw [if_neg e] at h0 hi; exact h k hk h0 i hi
theorem jEl.row {so le so' le' : Nat → Int32} {f g f' g' : Nat → Int64} {d q1 q2 : Nat} {a x : Int32} {n n2 : Int} (h : jEl so le f g) (hl : ∀ k : Nat, k < 6 → 0 ≤ (le k).toInt ∧ (le k).toInt ≤ 60) (e1 : so' = jupd so d a) (e2 : le' = jupd le d x) (u : jFl f f' q1 n) (w : jFl g g' q2 n2) (eq1 : q1 = 60 * d) (eq2 : q2 = 60 * d) (hx : x.toInt ≤ n) (hx2 : x.toInt ≤ n2) (hn : n ≤ 60) (hn2 : n2 ≤ 60) : jEl so' le' f' g' := by
  subst e1 e2 eq1 eq2
  intro k hk h0 i hi
  unfold jupd at h0 hi
  by_cases e : k = d
  · subst e
    rw [if_pos rfl] at h0 hi
    rw [u.1 i (by omega), w.1 i (by omega)]
  · rw [if_neg e] at h0 hi
    have := hl k hk
    rw [u.2 _ (by omega), w.2 _ (by omega)]; exact h k hk h0 i hi
theorem jEl.put {so le : Nat → Int32} {f g f' g' : Nat → Int64} {c c2 : Int} {q q2 : Nat} {x x2 : Int64} (h : jEl so le f g) (u : jPt c q x f f') (w : jPt c2 q2 x2 g g') (ec : c = c2) (eq : q = q2) (ex : c = 1 → x = x2) : jEl so le f' g' := by
  subst ec eq
  intro k hk h0 i hi
  rcases u with ⟨u1, u2⟩ | ⟨u1, u2⟩
  · rcases w with ⟨w1, w2⟩ | ⟨w1, w2⟩
    · subst u2 w2
      unfold vp_updL
      by_cases e : 60 * k + i = q
      · rw [if_pos e, if_pos e, ex u1]
      · rw [if_neg e, if_neg e]; exact h k hk h0 i hi
    · exact absurd u1 w1
  · rcases w with ⟨w1, w2⟩ | ⟨w1, w2⟩
    · exact absurd w1 u1
    · subst u2 w2; exact h k hk h0 i hi
theorem jEl.move {so le : Nat → Int32} {f g f' g' : Nat → Int64} {c c2 n n2 : Int} {q1 q2 r1 r2 : Nat} {d i e j : Int} (h : jEl so le f g) (hl : ∀ k : Nat, k < 6 → 0 ≤ (le k).toInt ∧ (le k).toInt ≤ 60) (u : jMvL c q1 q2 n f f') (w : jMvL c2 r1 r2 n2 g g') (ec : c = c2) (en : n = n2) (e1 : q1 = r1) (e2 : q2 = r2) (b1 : q1 = (60 * d + i).toNat) (b2 : q2 = (60 * e + j).toNat)
    (ok : 0 ≤ c → 0 ≤ n ∧ (0 ≤ d ∧ d < 6) ∧ (0 ≤ e ∧ e < 6) ∧ 0 ≤ i ∧ 0 ≤ j ∧ 0 ≤ (so d.toNat).toInt ∧ i + n ≤ (le d.toNat).toInt ∧ j + n ≤ (le e.toNat).toInt) : jEl so le f' g' := by
  subst ec en e1 e2
  intro k hk h0 m hm
  rcases u with ⟨u1, u2, u3⟩ | ⟨u1, u2⟩
  · rcases w with ⟨w1, w2, w3⟩ | ⟨w1, w2⟩
    · obtain ⟨o1, o2, o3, o4, o5, o6, o7, o8⟩ := ok u1
      have l1 := hl d.toNat (by omega)
      have l2 := hl e.toNat (by omega)
      have l3 := hl k hk
      by_cases hp : 60 * k + m < q2 ∨ (q2 : Int) + n ≤ (60 * k + m : Nat)
      · rw [u3 _ hp, w3 _ hp]; exact h k hk h0 m hm
      · have e9 : 60 * k + m = q2 + (60 * k + m - q2) := by omega
        rw [e9, u2 _ (by omega), w2 _ (by omega)]
        have e8 : q1 + (60 * k + m - q2) = 60 * d.toNat + (i.toNat + (60 * k + m - q2)) := by omega
        rw [e8]
        exact h d.toNat (by omega) o6 _ (by omega)
    · exact absurd u1 (by omega)
  · rcases w with ⟨w1, _⟩ | ⟨w1, w2⟩
    · exact absurd w1 (by omega)
    · subst u2 w2; exact h k hk h0 m hm
theorem jcmpz {x y : Int64} (h : x = y) : lg_cmp x y = 0 := by
  subst h
  rcases jcmp (rfl : x.toInt = x.toInt) (rfl : x.toInt = x.toInt) with ⟨h1, e⟩ | ⟨h1, e⟩ | ⟨h1, e⟩
  all_goals first | exact e | exact absurd h1 (by omega)
theorem jMvL.c {c c' : Int} {q1 q2 : Nat} {n : Int} {f g : Nat → Int64} (h : jMvL c q1 q2 n f g) (h0 : 0 ≤ c) (h1 : 0 ≤ c') : jMvL c' q1 q2 n f g := by
  rcases h with ⟨_, a, b⟩ | ⟨a, _⟩
  · exact Or.inl ⟨h1, a, b⟩
  · exact absurd a (by omega)
/-- an element is had where c is 1 -/
def jGt (c : Int) (q : Nat) (f : Nat → Int64) (r : Int64) : Prop := (c = 1 ∧ r = f q) ∨ (c ≠ 1 ∧ r = (-9223372036854775808))
theorem jShP.cut {so le ru sh ma : Nat → Int32} {n : Int} (h : jShP so le ru sh ma n) {d : Int32} {i c : Int} (e : c = jRf d.toInt i (so d.toNatClampNeg).toInt (le d.toNatClampNeg).toInt) (hc : c = 1) : (so d.toNatClampNeg).toInt = (sh d.toNatClampNeg).toInt - 20 ∧ (0 ≤ d.toInt ∧ d.toInt ≤ 5) ∧ 0 ≤ i ∧ i < (le d.toNatClampNeg).toInt ∧ 0 ≤ (so d.toNatClampNeg).toInt := by
  subst hc
  unfold jRf at e
  by_cases hd : d.toInt < 0 ∨ 5 < d.toInt
  · rw [if_pos hd] at e; exact absurd e (by decide)
  rw [if_neg hd] at e
  have hx := h.at (d := d) (by omega) (by omega)
  generalize (ru d.toNatClampNeg).toInt = z at hx
  generalize (so d.toNatClampNeg).toInt = s1 at *
  by_cases c1 : s1 = -2
  · rw [if_pos c1] at e; exact absurd e (by decide)
  rw [if_neg c1] at e
  by_cases c2 : s1 = -1
  · rw [if_pos c2] at e; exact absurd e (by decide)
  rw [if_neg c2] at e
  by_cases c3 : i < 0 ∨ (le d.toNatClampNeg).toInt ≤ i
  · rw [if_pos c3] at e; exact absurd e (by decide)
  rcases hx with q | ⟨q1, q2, q3⟩ | q
  · exact absurd q.1 c1
  · exact absurd q1 c2
  · omega
theorem jShP.mvok {so le ru sh ma : Nat → Int32} {n : Int} (h : jShP so le ru sh ma n) {d e : Int32} {i j k c : Int} (q : c = jSf d.toInt i e.toInt j k (so d.toNatClampNeg).toInt (so e.toNatClampNeg).toInt (le d.toNatClampNeg).toInt (le e.toNatClampNeg).toInt) (hc : 0 ≤ c) :
    0 ≤ k ∧ (0 ≤ d.toInt ∧ d.toInt < 6) ∧ (0 ≤ e.toInt ∧ e.toInt < 6) ∧ 0 ≤ i ∧ 0 ≤ j ∧ 0 ≤ (so d.toInt.toNat).toInt ∧ i + k ≤ (le d.toInt.toNat).toInt ∧ j + k ≤ (le e.toInt.toNat).toInt := by
  unfold jSf at q
  by_cases hd : d.toInt < 0 ∨ 5 < d.toInt ∨ e.toInt < 0 ∨ 5 < e.toInt
  · rw [if_pos hd] at q; exact absurd hc (by omega)
  rw [if_neg hd] at q
  have hx := h.at (d := d) (by omega) (by omega)
  rw [jnc (rfl : d.toInt = d.toInt)] at q hx
  rw [jnc (rfl : e.toInt = e.toInt)] at q
  generalize (so d.toInt.toNat).toInt = s1 at *
  generalize (so e.toInt.toNat).toInt = s2 at *
  generalize (le d.toInt.toNat).toInt = l1 at *
  generalize (le e.toInt.toNat).toInt = l2 at *
  by_cases c1 : s1 = -2 ∨ s2 = -2
  · rw [if_pos c1] at q; exact absurd hc (by omega)
  rw [if_neg c1] at q
  by_cases c2 : s1 = -1 ∨ s1 ≠ s2
  · rw [if_pos c2] at q; exact absurd hc (by omega)
  rw [if_neg c2] at q
  by_cases c3 : k < 0 ∨ i < 0 ∨ j < 0 ∨ l1 - i < k ∨ l2 - j < k
  · rw [if_pos c3] at q; exact absurd hc (by omega)
  rcases hx with w | ⟨w1, w2, w3⟩ | w
  · exact absurd w.1 (by omega)
  · exact absurd w1 (by omega)
  · omega
theorem jEl.get {so le : Nat → Int32} {f g : Nat → Int64} (h : jEl so le f g) {so2 : Int} {d : Int32} {i c c2 : Int} {r r2 : Int64} {q q2 : Nat} (u : jGt c q f r) (w : jGt c2 q2 g r2) (ec : c = c2) (eq : q = (60 * d.toInt + i).toNat) (eq2 : q2 = q) (ok : c = 1 → (0 ≤ d.toInt ∧ d.toInt ≤ 5) ∧ 0 ≤ i ∧ i < (le d.toNatClampNeg).toInt ∧ 0 ≤ (so d.toNatClampNeg).toInt) (z : so2 = 0) : r = r2 := by
  subst ec eq2
  rcases u with ⟨u1, u2⟩ | ⟨u1, u2⟩
  · rcases w with ⟨w1, w2⟩ | ⟨w1, w2⟩
    · obtain ⟨o1, o2, o3, o4⟩ := ok u1
      rw [jnc (rfl : d.toInt = d.toInt)] at o3 o4
      rw [u2, w2, eq, show (60 * d.toInt + i).toNat = 60 * d.toInt.toNat + i.toNat by omega]
      exact h _ (by omega) o4 _ (by omega)
    · exact absurd u1 w1
  · rcases w with ⟨w1, w2⟩ | ⟨w1, w2⟩
    · exact absurd w1 u1
    · rw [u2, w2]

def jLf (a b : Int32) : Int32 := (a >>> ((11 + 4 * b) &&& 31)) &&& 15
def jSt (a b : Int32) : Int32 := (a >>> ((3 + 2 * b) &&& 31)) &&& 3
def jLa (a : Int32) : Int32 := a &&& 7
def jWl (a b v : Int32) : Int32 := (a &&& ((15 <<< ((11 + 4 * b) &&& 31)) ^^^ (-1))) ||| ((v &&& 15) <<< ((11 + 4 * b) &&& 31))
def jWs (a b v : Int32) : Int32 := (a &&& ((3 <<< ((3 + 2 * b) &&& 31)) ^^^ (-1))) ||| ((v &&& 3) <<< ((3 + 2 * b) &&& 31))
-- bit vectors: a field of width w at position p
def jgeb (a : BitVec 32) (p : Nat) (m : BitVec 32) : BitVec 32 := (a.sshiftRight p) &&& m
def jpub (a : BitVec 32) (p : Nat) (m v : BitVec 32) : BitVec 32 := (a &&& ((m <<< p) ^^^ 0xffffffff#32)) ||| ((v &&& m) <<< p)
theorem jm_bit (w : Nat) (hw : w ≤ 4) (i : Nat) : (BitVec.ofNat 32 (2 ^ w - 1)).getLsbD i = decide (i < w) := by
  have : w = 0 ∨ w = 1 ∨ w = 2 ∨ w = 3 ∨ w = 4 := by omega
  rw [BitVec.getLsbD_ofNat, Nat.testBit_two_pow_sub_one]
  by_cases h : i < 32
  · simp [h]
  · have h2 : ¬ i < w := by omega
    simp [h, h2]
theorem jall1 (i : Nat) (h : i < 32) : (0xffffffff#32).getLsbD i = true := by
  have : (0xffffffff#32) = BitVec.allOnes 32 := by decide
  rw [this, BitVec.getLsbD_allOnes]; simp [h]
theorem jget_put (a v : BitVec 32) (p q w u : Nat) (hw : w ≤ 4) (hu : u ≤ 4) (hp : p + w ≤ 31) (hq : q + u ≤ 31) (hd : p + w ≤ q ∨ q + u ≤ p) : jgeb (jpub a p (BitVec.ofNat 32 (2 ^ w - 1)) v) q (BitVec.ofNat 32 (2 ^ u - 1)) = jgeb a q (BitVec.ofNat 32 (2 ^ u - 1)) := by
  unfold jgeb jpub
  apply BitVec.eq_of_getLsbD_eq
  intro i hi
  rw [BitVec.getLsbD_and, BitVec.getLsbD_and, jm_bit u hu]
  by_cases h : i < u
  · have h1 : ¬ 32 ≤ i := by omega
    have h2 : q + i < 32 := by omega
    rw [BitVec.getLsbD_sshiftRight, BitVec.getLsbD_sshiftRight]
    simp only [h1, h2, h, decide_true, decide_false, Bool.and_true, if_true, Bool.not_false, Bool.true_and]
    rw [BitVec.getLsbD_or, BitVec.getLsbD_and, BitVec.getLsbD_xor, BitVec.getLsbD_shiftLeft, BitVec.getLsbD_shiftLeft, jm_bit w hw, BitVec.getLsbD_and, jm_bit w hw, jall1 _ h2]
    by_cases h3 : q + i < p
    · simp [h3]
    · have h4 : ¬ q + i - p < w := by omega
      simp [h3, h4]
  · simp [h]
theorem jget_same (a v : BitVec 32) (p w : Nat) (hw : w ≤ 4) (hp : p + w ≤ 31) : jgeb (jpub a p (BitVec.ofNat 32 (2 ^ w - 1)) v) p (BitVec.ofNat 32 (2 ^ w - 1)) = v &&& (BitVec.ofNat 32 (2 ^ w - 1)) := by
  unfold jgeb jpub
  apply BitVec.eq_of_getLsbD_eq
  intro i hi
  rw [BitVec.getLsbD_and, BitVec.getLsbD_and, jm_bit w hw]
  by_cases h : i < w
  · have h1 : ¬ 32 ≤ i := by omega
    have h2 : p + i < 32 := by omega
    rw [BitVec.getLsbD_sshiftRight]
    simp only [h1, h2, h, decide_true, decide_false, Bool.and_true, if_true, Bool.not_false, Bool.true_and]
    rw [BitVec.getLsbD_or, BitVec.getLsbD_and, BitVec.getLsbD_xor, BitVec.getLsbD_shiftLeft, BitVec.getLsbD_shiftLeft, jm_bit w hw, BitVec.getLsbD_and, jm_bit w hw, jall1 _ h2]
    have h3 : ¬ p + i < p := by omega
    have h4 : p + i - p = i := by omega
    simp [h3, h4, h, h2]
  · simp [h]
theorem jget_put0 (a v : BitVec 32) (p w : Nat) (hw : w ≤ 4) (hp : 3 ≤ p) : (jpub a p (BitVec.ofNat 32 (2 ^ w - 1)) v) &&& 7#32 = a &&& 7#32 := by
  unfold jpub
  apply BitVec.eq_of_getLsbD_eq
  intro i hi
  rw [BitVec.getLsbD_and, BitVec.getLsbD_and, show (7#32) = BitVec.ofNat 32 (2 ^ 3 - 1) from rfl, jm_bit 3 (by decide)]
  by_cases h : i < 3
  · rw [BitVec.getLsbD_or, BitVec.getLsbD_and, BitVec.getLsbD_xor, BitVec.getLsbD_shiftLeft, BitVec.getLsbD_shiftLeft, jall1 _ hi]
    have h3 : i < p := by omega
    simp [h3, h]
  · simp [h]
theorem j8_bit (i : Nat) (h : i < 32) : (0xfffffff8#32).getLsbD i = decide (3 ≤ i) := by
  have e : (0xfffffff8#32) = (7#32) ^^^ (0xffffffff#32) := by decide
  rw [e, BitVec.getLsbD_xor, jall1 _ h, show (7#32) = BitVec.ofNat 32 (2 ^ 3 - 1) from rfl, jm_bit 3 (by decide)]
  by_cases h2 : i < 3
  · have : ¬ 3 ≤ i := by omega
    simp [h2, this]
  · have : 3 ≤ i := by omega
    simp [h2, this]
theorem jla_bits (a n : BitVec 32) (hn : n &&& 7#32 = n) : ((a &&& 0xfffffff8#32) ||| n) &&& 7#32 = n := by
  apply BitVec.eq_of_getLsbD_eq
  intro i hi
  have hb : n.getLsbD i = (n &&& 7#32).getLsbD i := by rw [hn]
  rw [BitVec.getLsbD_and, show (7#32) = BitVec.ofNat 32 (2 ^ 3 - 1) from rfl, jm_bit 3 (by decide)] at hb
  rw [BitVec.getLsbD_and, BitVec.getLsbD_or, BitVec.getLsbD_and, j8_bit _ hi, show (7#32) = BitVec.ofNat 32 (2 ^ 3 - 1) from rfl, jm_bit 3 (by decide)]
  by_cases h : i < 3
  · have : ¬ 3 ≤ i := by omega
    simp [h, this]
  · rw [hb]; simp [h]
theorem jwa_bits (a n : BitVec 32) (q u : Nat) (hu : u ≤ 4) (hq : q + u ≤ 31) (h3 : 3 ≤ q) (hn : n &&& 7#32 = n) : jgeb ((a &&& 0xfffffff8#32) ||| n) q (BitVec.ofNat 32 (2 ^ u - 1)) = jgeb a q (BitVec.ofNat 32 (2 ^ u - 1)) := by
  unfold jgeb
  apply BitVec.eq_of_getLsbD_eq
  intro i hi
  rw [BitVec.getLsbD_and, BitVec.getLsbD_and, jm_bit u hu]
  by_cases h : i < u
  · have h1 : ¬ 32 ≤ i := by omega
    have h2 : q + i < 32 := by omega
    have hb : n.getLsbD (q + i) = (n &&& 7#32).getLsbD (q + i) := by rw [hn]
    have h4 : ¬ q + i < 3 := by omega
    rw [BitVec.getLsbD_and, show (7#32) = BitVec.ofNat 32 (2 ^ 3 - 1) from rfl, jm_bit 3 (by decide)] at hb
    rw [BitVec.getLsbD_sshiftRight, BitVec.getLsbD_sshiftRight]
    simp only [h1, h2, h, decide_true, decide_false, Bool.and_true, if_true, Bool.not_false, Bool.true_and]
    rw [BitVec.getLsbD_or, BitVec.getLsbD_and, j8_bit _ h2, hb]
    have h5 : 3 ≤ q + i := by omega
    simp [h4, h5]
  · simp [h]
theorem jc4 {b : Int32} (h0 : 0 ≤ b.toInt) (h1 : b.toInt ≤ 3) : b = 0 ∨ b = 1 ∨ b = 2 ∨ b = 3 := by
  have h : b.toInt = 0 ∨ b.toInt = 1 ∨ b.toInt = 2 ∨ b.toInt = 3 := by omega
  rcases h with h | h | h | h
  · exact Or.inl (Int32.toInt_inj.mp (by rw [h]; decide))
  · exact Or.inr (Or.inl (Int32.toInt_inj.mp (by rw [h]; decide)))
  · exact Or.inr (Or.inr (Or.inl (Int32.toInt_inj.mp (by rw [h]; decide))))
  · exact Or.inr (Or.inr (Or.inr (Int32.toInt_inj.mp (by rw [h]; decide))))
theorem jLf_Wl {a b b' v : Int32} (h0 : 0 ≤ b.toInt) (h1 : b.toInt ≤ 3) (k0 : 0 ≤ b'.toInt) (k1 : b'.toInt ≤ 3) (hn : b ≠ b') : jLf (jWl a b v) b' = jLf a b' := by
  rcases jc4 h0 h1 with rfl | rfl | rfl | rfl <;> rcases jc4 k0 k1 with rfl | rfl | rfl | rfl
  all_goals first | exact absurd rfl hn | skip
  · exact jbq (jget_put a.toBitVec v.toBitVec 11 15 4 4 (by decide) (by decide) (by decide) (by decide) (by decide))
  · exact jbq (jget_put a.toBitVec v.toBitVec 11 19 4 4 (by decide) (by decide) (by decide) (by decide) (by decide))
  · exact jbq (jget_put a.toBitVec v.toBitVec 11 23 4 4 (by decide) (by decide) (by decide) (by decide) (by decide))
  · exact jbq (jget_put a.toBitVec v.toBitVec 15 11 4 4 (by decide) (by decide) (by decide) (by decide) (by decide))
  · exact jbq (jget_put a.toBitVec v.toBitVec 15 19 4 4 (by decide) (by decide) (by decide) (by decide) (by decide))
  · exact jbq (jget_put a.toBitVec v.toBitVec 15 23 4 4 (by decide) (by decide) (by decide) (by decide) (by decide))
  · exact jbq (jget_put a.toBitVec v.toBitVec 19 11 4 4 (by decide) (by decide) (by decide) (by decide) (by decide))
  · exact jbq (jget_put a.toBitVec v.toBitVec 19 15 4 4 (by decide) (by decide) (by decide) (by decide) (by decide))
  · exact jbq (jget_put a.toBitVec v.toBitVec 19 23 4 4 (by decide) (by decide) (by decide) (by decide) (by decide))
  · exact jbq (jget_put a.toBitVec v.toBitVec 23 11 4 4 (by decide) (by decide) (by decide) (by decide) (by decide))
  · exact jbq (jget_put a.toBitVec v.toBitVec 23 15 4 4 (by decide) (by decide) (by decide) (by decide) (by decide))
  · exact jbq (jget_put a.toBitVec v.toBitVec 23 19 4 4 (by decide) (by decide) (by decide) (by decide) (by decide))
theorem jLf_Wl_s {a b v : Int32} (h0 : 0 ≤ b.toInt) (h1 : b.toInt ≤ 3) : jLf (jWl a b v) b = v &&& 15 := by
  rcases jc4 h0 h1 with rfl | rfl | rfl | rfl
  · exact jbq (jget_same a.toBitVec v.toBitVec 11 4 (by decide) (by decide))
  · exact jbq (jget_same a.toBitVec v.toBitVec 15 4 (by decide) (by decide))
  · exact jbq (jget_same a.toBitVec v.toBitVec 19 4 (by decide) (by decide))
  · exact jbq (jget_same a.toBitVec v.toBitVec 23 4 (by decide) (by decide))
theorem jSt_Ws_s {a b v : Int32} (h0 : 0 ≤ b.toInt) (h1 : b.toInt ≤ 3) : jSt (jWs a b v) b = v &&& 3 := by
  rcases jc4 h0 h1 with rfl | rfl | rfl | rfl
  · exact jbq (jget_same a.toBitVec v.toBitVec 3 2 (by decide) (by decide))
  · exact jbq (jget_same a.toBitVec v.toBitVec 5 2 (by decide) (by decide))
  · exact jbq (jget_same a.toBitVec v.toBitVec 7 2 (by decide) (by decide))
  · exact jbq (jget_same a.toBitVec v.toBitVec 9 2 (by decide) (by decide))
theorem jSt_Ws {a b b' v : Int32} (h0 : 0 ≤ b.toInt) (h1 : b.toInt ≤ 3) (k0 : 0 ≤ b'.toInt) (k1 : b'.toInt ≤ 3) (hn : b ≠ b') : jSt (jWs a b v) b' = jSt a b' := by
  rcases jc4 h0 h1 with rfl | rfl | rfl | rfl <;> rcases jc4 k0 k1 with rfl | rfl | rfl | rfl
  all_goals first | exact absurd rfl hn | skip
  · exact jbq (jget_put a.toBitVec v.toBitVec 3 5 2 2 (by decide) (by decide) (by decide) (by decide) (by decide))
  · exact jbq (jget_put a.toBitVec v.toBitVec 3 7 2 2 (by decide) (by decide) (by decide) (by decide) (by decide))
  · exact jbq (jget_put a.toBitVec v.toBitVec 3 9 2 2 (by decide) (by decide) (by decide) (by decide) (by decide))
  · exact jbq (jget_put a.toBitVec v.toBitVec 5 3 2 2 (by decide) (by decide) (by decide) (by decide) (by decide))
  · exact jbq (jget_put a.toBitVec v.toBitVec 5 7 2 2 (by decide) (by decide) (by decide) (by decide) (by decide))
  · exact jbq (jget_put a.toBitVec v.toBitVec 5 9 2 2 (by decide) (by decide) (by decide) (by decide) (by decide))
  · exact jbq (jget_put a.toBitVec v.toBitVec 7 3 2 2 (by decide) (by decide) (by decide) (by decide) (by decide))
  · exact jbq (jget_put a.toBitVec v.toBitVec 7 5 2 2 (by decide) (by decide) (by decide) (by decide) (by decide))
  · exact jbq (jget_put a.toBitVec v.toBitVec 7 9 2 2 (by decide) (by decide) (by decide) (by decide) (by decide))
  · exact jbq (jget_put a.toBitVec v.toBitVec 9 3 2 2 (by decide) (by decide) (by decide) (by decide) (by decide))
  · exact jbq (jget_put a.toBitVec v.toBitVec 9 5 2 2 (by decide) (by decide) (by decide) (by decide) (by decide))
  · exact jbq (jget_put a.toBitVec v.toBitVec 9 7 2 2 (by decide) (by decide) (by decide) (by decide) (by decide))
theorem jLf_Ws {a b b' v : Int32} (h0 : 0 ≤ b.toInt) (h1 : b.toInt ≤ 3) (k0 : 0 ≤ b'.toInt) (k1 : b'.toInt ≤ 3) : jLf (jWs a b v) b' = jLf a b' := by
  rcases jc4 h0 h1 with rfl | rfl | rfl | rfl <;> rcases jc4 k0 k1 with rfl | rfl | rfl | rfl
  · exact jbq (jget_put a.toBitVec v.toBitVec 3 11 2 4 (by decide) (by decide) (by decide) (by decide) (by decide))
  · exact jbq (jget_put a.toBitVec v.toBitVec 3 15 2 4 (by decide) (by decide) (by decide) (by decide) (by decide))
  · exact jbq (jget_put a.toBitVec v.toBitVec 3 19 2 4 (by decide) (by decide) (by decide) (by decide) (by decide))
  · exact jbq (jget_put a.toBitVec v.toBitVec 3 23 2 4 (by decide) (by decide) (by decide) (by decide) (by decide))
  · exact jbq (jget_put a.toBitVec v.toBitVec 5 11 2 4 (by decide) (by decide) (by decide) (by decide) (by decide))
  · exact jbq (jget_put a.toBitVec v.toBitVec 5 15 2 4 (by decide) (by decide) (by decide) (by decide) (by decide))
  · exact jbq (jget_put a.toBitVec v.toBitVec 5 19 2 4 (by decide) (by decide) (by decide) (by decide) (by decide))
  · exact jbq (jget_put a.toBitVec v.toBitVec 5 23 2 4 (by decide) (by decide) (by decide) (by decide) (by decide))
  · exact jbq (jget_put a.toBitVec v.toBitVec 7 11 2 4 (by decide) (by decide) (by decide) (by decide) (by decide))
  · exact jbq (jget_put a.toBitVec v.toBitVec 7 15 2 4 (by decide) (by decide) (by decide) (by decide) (by decide))
  · exact jbq (jget_put a.toBitVec v.toBitVec 7 19 2 4 (by decide) (by decide) (by decide) (by decide) (by decide))
  · exact jbq (jget_put a.toBitVec v.toBitVec 7 23 2 4 (by decide) (by decide) (by decide) (by decide) (by decide))
  · exact jbq (jget_put a.toBitVec v.toBitVec 9 11 2 4 (by decide) (by decide) (by decide) (by decide) (by decide))
  · exact jbq (jget_put a.toBitVec v.toBitVec 9 15 2 4 (by decide) (by decide) (by decide) (by decide) (by decide))
  · exact jbq (jget_put a.toBitVec v.toBitVec 9 19 2 4 (by decide) (by decide) (by decide) (by decide) (by decide))
  · exact jbq (jget_put a.toBitVec v.toBitVec 9 23 2 4 (by decide) (by decide) (by decide) (by decide) (by decide))
theorem jLa_Wl {a b v : Int32} (h0 : 0 ≤ b.toInt) (h1 : b.toInt ≤ 3) : jLa (jWl a b v) = jLa a := by
  rcases jc4 h0 h1 with rfl | rfl | rfl | rfl
  · exact jbq (jget_put0 a.toBitVec v.toBitVec 11 4 (by decide) (by decide))
  · exact jbq (jget_put0 a.toBitVec v.toBitVec 15 4 (by decide) (by decide))
  · exact jbq (jget_put0 a.toBitVec v.toBitVec 19 4 (by decide) (by decide))
  · exact jbq (jget_put0 a.toBitVec v.toBitVec 23 4 (by decide) (by decide))
theorem jLa_Ws {a b v : Int32} (h0 : 0 ≤ b.toInt) (h1 : b.toInt ≤ 3) : jLa (jWs a b v) = jLa a := by
  rcases jc4 h0 h1 with rfl | rfl | rfl | rfl
  · exact jbq (jget_put0 a.toBitVec v.toBitVec 3 2 (by decide) (by decide))
  · exact jbq (jget_put0 a.toBitVec v.toBitVec 5 2 (by decide) (by decide))
  · exact jbq (jget_put0 a.toBitVec v.toBitVec 7 2 (by decide) (by decide))
  · exact jbq (jget_put0 a.toBitVec v.toBitVec 9 2 (by decide) (by decide))
/-- who bowled last is set -/
def jWa (a n : Int32) : Int32 := (a &&& (-8)) ||| n
theorem jLa_Wa {a n : Int32} (h0 : 0 ≤ n.toInt) (h1 : n.toInt ≤ 4) : jLa (jWa a n) = n := by
  have h : n.toInt = 0 ∨ n.toInt = 1 ∨ n.toInt = 2 ∨ n.toInt = 3 ∨ n.toInt = 4 := by omega
  rcases h with h | h | h | h | h
  · rw [show n = 0 from Int32.toInt_inj.mp (by rw [h]; decide)]; exact jbq (jla_bits a.toBitVec 0#32 (by decide))
  · rw [show n = 1 from Int32.toInt_inj.mp (by rw [h]; decide)]; exact jbq (jla_bits a.toBitVec 1#32 (by decide))
  · rw [show n = 2 from Int32.toInt_inj.mp (by rw [h]; decide)]; exact jbq (jla_bits a.toBitVec 2#32 (by decide))
  · rw [show n = 3 from Int32.toInt_inj.mp (by rw [h]; decide)]; exact jbq (jla_bits a.toBitVec 3#32 (by decide))
  · rw [show n = 4 from Int32.toInt_inj.mp (by rw [h]; decide)]; exact jbq (jla_bits a.toBitVec 4#32 (by decide))
theorem jLf_Wa {a n b : Int32} (h0 : 0 ≤ n.toInt) (h1 : n.toInt ≤ 4) (k0 : 0 ≤ b.toInt) (k1 : b.toInt ≤ 3) : jLf (jWa a n) b = jLf a b := by
  have hn : n.toBitVec &&& 7#32 = n.toBitVec := by
    have h : n.toInt = 0 ∨ n.toInt = 1 ∨ n.toInt = 2 ∨ n.toInt = 3 ∨ n.toInt = 4 := by omega
    rcases h with h | h | h | h | h
    · rw [show n = 0 from Int32.toInt_inj.mp (by rw [h]; decide)]; decide
    · rw [show n = 1 from Int32.toInt_inj.mp (by rw [h]; decide)]; decide
    · rw [show n = 2 from Int32.toInt_inj.mp (by rw [h]; decide)]; decide
    · rw [show n = 3 from Int32.toInt_inj.mp (by rw [h]; decide)]; decide
    · rw [show n = 4 from Int32.toInt_inj.mp (by rw [h]; decide)]; decide
  rcases jc4 k0 k1 with rfl | rfl | rfl | rfl
  · exact jbq (jwa_bits a.toBitVec n.toBitVec 11 4 (by decide) (by decide) (by decide) hn)
  · exact jbq (jwa_bits a.toBitVec n.toBitVec 15 4 (by decide) (by decide) (by decide) hn)
  · exact jbq (jwa_bits a.toBitVec n.toBitVec 19 4 (by decide) (by decide) (by decide) hn)
  · exact jbq (jwa_bits a.toBitVec n.toBitVec 23 4 (by decide) (by decide) (by decide) hn)
theorem jand15 {v : Int32} (h0 : 0 ≤ v.toInt) (h1 : v.toInt ≤ 15) : v &&& 15 = v := by
  have h : v.toInt = 0 ∨ v.toInt = 1 ∨ v.toInt = 2 ∨ v.toInt = 3 ∨ v.toInt = 4 ∨ v.toInt = 5 ∨ v.toInt = 6 ∨ v.toInt = 7 ∨ v.toInt = 8 ∨ v.toInt = 9 ∨ v.toInt = 10 ∨ v.toInt = 11 ∨ v.toInt = 12 ∨ v.toInt = 13 ∨ v.toInt = 14 ∨ v.toInt = 15 := by omega
  have e : ∀ k : Int32, v.toInt = k.toInt → k &&& 15 = k → v &&& 15 = v := fun k hk h => by rw [Int32.toInt_inj.mp hk]; exact h
  rcases h with h | h | h | h | h | h | h | h | h | h | h | h | h | h | h | h
  · exact e 0 (by rw [h]; decide) (by decide)
  · exact e 1 (by rw [h]; decide) (by decide)
  · exact e 2 (by rw [h]; decide) (by decide)
  · exact e 3 (by rw [h]; decide) (by decide)
  · exact e 4 (by rw [h]; decide) (by decide)
  · exact e 5 (by rw [h]; decide) (by decide)
  · exact e 6 (by rw [h]; decide) (by decide)
  · exact e 7 (by rw [h]; decide) (by decide)
  · exact e 8 (by rw [h]; decide) (by decide)
  · exact e 9 (by rw [h]; decide) (by decide)
  · exact e 10 (by rw [h]; decide) (by decide)
  · exact e 11 (by rw [h]; decide) (by decide)
  · exact e 12 (by rw [h]; decide) (by decide)
  · exact e 13 (by rw [h]; decide) (by decide)
  · exact e 14 (by rw [h]; decide) (by decide)
  · exact e 15 (by rw [h]; decide) (by decide)
/-! the book: who may bowl next -/
def jmx (x : Int) : Int := if x < 0 then 0 else x
def jcn (f : Nat → Int32) (b : Int32) : Nat → Nat
  | 0 => 0
  | n + 1 => jcn f b n + (if f n = b then 1 else 0)
theorem jcn_le (f : Nat → Int32) (b : Int32) : ∀ n : Nat, jcn f b n ≤ n
  | 0 => Nat.le_refl 0
  | n + 1 => by
    have := jcn_le f b n
    show jcn f b n + (if f n = b then 1 else 0) ≤ n + 1
    split <;> omega
theorem jcn_cong {f g : Nat → Int32} {b : Int32} : ∀ n : Nat, (∀ k : Nat, k < n → f k = g k) → jcn f b n = jcn g b n
  | 0, _ => rfl
  | n + 1, h => by
    show jcn f b n + (if f n = b then 1 else 0) = jcn g b n + (if g n = b then 1 else 0)
    rw [jcn_cong n (fun k hk => h k (by omega)), h n (by omega)]
theorem jcnt_cong {f g : Nat → Int32} : ∀ n : Nat, (∀ k : Nat, k < n → f k = g k) → jcnt f n = jcnt g n
  | 0, _ => rfl
  | n + 1, h => by
    show jcnt f n + (if f n = 1 then 1 else 0) = jcnt g n + (if g n = 1 then 1 else 0)
    rw [jcnt_cong n (fun k hk => h k (by omega)), h n (by omega)]
theorem jcnt_add {g : Nat → Int32} {K : Int} (h0 : 0 ≤ K) (h : 0 ≤ (g K.toNat).toInt ∧ (g K.toNat).toInt ≤ 1) : (jcnt g (K + 1).toNat : Int) = (jcnt g K.toNat : Int) + (g K.toNat).toInt := by
  have e1 : (K + 1).toNat = K.toNat + 1 := by omega
  rw [e1]; show ((jcnt g K.toNat + (if g K.toNat = 1 then 1 else 0) : Nat) : Int) = _
  by_cases q : g K.toNat = 1
  · rw [if_pos q, q]; rfl
  · rw [if_neg q]
    have : (g K.toNat).toInt = 0 := by
      have q2 : (g K.toNat).toInt ≠ 1 := fun w => q (Int32.toInt_inj.mp (by rw [w]; decide))
      omega
    rw [this]; omega
/-- numbers of OVERS are small -/
def jOk (t : Nat → Int32) : Prop := ∀ j : Nat, j < 4 → 0 ≤ (t (32 + j)).toInt ∧ (t (32 + j)).toInt ≤ 8
def jOx (t : Nat → Int32) (B : Int) (b : Int32) : Int := if b.toInt < B then (t (32 + b.toInt).toNat).toInt else 0
/-- what an attack says of an over more -/
def jAf (a b r : Int32) : Prop := (∀ c : Int32, 0 ≤ c.toInt → c.toInt ≤ 3 → (jLf r c).toInt = if c = b then jmx ((jLf a c).toInt - 1) else (jLf a c).toInt) ∧ (jLa r).toInt = b.toInt + 1
def jAl (a b x : Int32) : Prop := (∀ c : Int32, 0 ≤ c.toInt → c.toInt ≤ 3 → jLf x c = jLf a c) ∧ (jLa x).toInt = b.toInt + 1
theorem jAl.first {a b n x : Int32} (e : x = jWa a n) (hn : n.toInt = b.toInt + 1) (h0 : 0 ≤ b.toInt) (h1 : b.toInt ≤ 3) : jAl a b x := by
  subst e
  exact ⟨fun c c0 c1 => jLf_Wa (by omega) (by omega) c0 c1, by rw [jLa_Wa (by omega) (by omega)]; exact hn⟩
theorem jAl.step {a b x y c s : Int32} (h : jAl a b x) (e : y = jWs x c s) (h0 : 0 ≤ c.toInt) (h1 : c.toInt ≤ 3) : jAl a b y := by
  subst e
  exact ⟨fun d d0 d1 => by rw [jLf_Ws h0 h1 d0 d1]; exact h.1 d d0 d1, by rw [jLa_Ws h0 h1]; exact h.2⟩
theorem jAl.fin {a b x r v : Int32} (h : jAl a b x) (e : r = jWl x b v) (h0 : 0 ≤ b.toInt) (h1 : b.toInt ≤ 3) (hv : v.toInt = jmx ((jLf a b).toInt - 1)) (hl : (jLf a b).toInt ≤ 15) : jAf a b r := by
  subst e
  have hv2 : 0 ≤ v.toInt ∧ v.toInt ≤ 15 := by rw [hv]; unfold jmx; split <;> omega
  refine ⟨fun c c0 c1 => ?_, by rw [jLa_Wl h0 h1]; exact h.2⟩
  by_cases q : c = b
  · subst q; rw [if_pos rfl, jLf_Wl_s h0 h1, jand15 hv2.1 hv2.2]; exact hv
  · rw [if_neg q, jLf_Wl h0 h1 c0 c1 (fun w => q w.symm), h.1 c c0 c1]
def jAk (f t : Nat → Int32) (B n : Int) (r : Int32) : Prop := (∀ b : Int32, 0 ≤ b.toInt → b.toInt ≤ 3 → (jLf r b).toInt = jmx (jOx t B b - (jcn f b n.toNat : Int))) ∧ (jLa r).toInt = if n ≤ 0 then 0 else (f (n - 1).toNat).toInt + 1
theorem jAk.step {f t : Nat → Int32} {B n n' : Int} {a b r : Int32} (h : jAk f t B n a) (e : jAf a b r) (hb : b = f n.toNat) (h0 : 0 ≤ n) (hn : n' = n + 1) : jAk f t B n' r := by
  subst hn
  have e1 : (n + 1).toNat = n.toNat + 1 := by omega
  refine ⟨fun c c0 c1 => ?_, ?_⟩
  · rw [e.1 c c0 c1, h.1 c c0 c1, e1]
    show _ = jmx (jOx t B c - ((jcn f c n.toNat + (if f n.toNat = c then 1 else 0) : Nat) : Int))
    by_cases q : c = b
    · rw [if_pos q, if_pos (by rw [q, hb])]; unfold jmx; (repeat' split) <;> omega
    · rw [if_neg q, if_neg (fun w => q (by rw [hb, w]))]; rfl
  · rw [e.2, if_neg (by omega), show n + 1 - 1 = n by omega, hb]
/-- a fresh attack, so far -/
def jAz (t : Nat → Int32) (k : Int) (r : Int32) : Prop := (∀ b : Int32, 0 ≤ b.toInt → b.toInt ≤ 3 → (jLf r b).toInt = jOx t k b) ∧ (jLa r).toInt = 0
theorem jAz.first {t : Nat → Int32} {k : Int} (h : k ≤ 0) : jAz t k 0 := by
  refine ⟨fun b b0 b1 => ?_, by decide⟩
  unfold jOx; rw [if_neg (by omega)]
  rcases jc4 b0 b1 with rfl | rfl | rfl | rfl <;> decide
theorem jAz.step {t : Nat → Int32} {k k' : Int} {a b r v : Int32} (h : jAz t k a) (e : r = jWl a b v) (hb : b.toInt = k) (h0 : 0 ≤ k) (h1 : k ≤ 3) (hv : v = t (32 + k).toNat) (ok : jOk t) (hk : k' = k + 1) : jAz t k' r := by
  subst e hk
  have o := ok k.toNat (by omega)
  have e1 : (32 + k).toNat = 32 + k.toNat := by omega
  refine ⟨fun c c0 c1 => ?_, by rw [jLa_Wl (by omega) (by omega)]; exact h.2⟩
  by_cases q : c = b
  · subst q
    rw [jLf_Wl_s (by omega) (by omega), jand15 (by rw [hv, e1]; omega) (by rw [hv, e1]; omega), hv]
    unfold jOx; rw [if_pos (by omega), hb]
  · rw [jLf_Wl (by omega) (by omega) c0 c1 (fun w => q w.symm), h.1 c c0 c1]
    have q2 : c.toInt ≠ k := fun w => q (Int32.toInt_inj.mp (by omega))
    unfold jOx
    by_cases z : c.toInt < k
    · rw [if_pos z, if_pos (by omega)]
    · rw [if_neg z, if_neg (by omega)]
theorem jAz.k {f t : Nat → Int32} {B n : Int} {r : Int32} (h : jAz t B r) (ok : jOk t) (hn : n ≤ 0) : jAk f t B n r := by
  have e : n.toNat = 0 := by omega
  refine ⟨fun b b0 b1 => ?_, by rw [if_pos hn]; exact h.2⟩
  rw [h.1 b b0 b1, e]
  show _ = jmx (jOx t B b - ((0 : Nat) : Int))
  have o : 0 ≤ jOx t B b := by
    unfold jOx
    split
    · have o := ok b.toInt.toNat (by omega)
      rw [show (32 + b.toInt).toNat = 32 + b.toInt.toNat by omega]; exact o.1
    · omega
  unfold jmx; rw [if_neg (by omega)]; omega
/-- one may bowl behind n overs -/
def jCan (f t : Nat → Int32) (B n : Int) (b : Int32) : Prop := (0 ≤ b.toInt ∧ b.toInt ≤ 3) ∧ 0 < jOx t B b - (jcn f b n.toNat : Int) ∧ (n ≤ 0 ∨ f (n - 1).toNat ≠ b)
def jMy (f g t : Nat → Int32) (B n M T : Int) (b : Int32) : Prop := (jcnt g n.toNat : Int) < M ∧ n < T ∧ jCan f t B n b
theorem jAk.can {f t : Nat → Int32} {B n : Int} {r b : Int32} (h : jAk f t B n r) (b0 : 0 ≤ b.toInt) (b1 : b.toInt ≤ 3) : jCan f t B n b ↔ (0 < (jLf r b).toInt ∧ (jLa r).toInt - 1 ≠ b.toInt) := by
  rw [h.1 b b0 b1, h.2]
  unfold jCan
  constructor
  · rintro ⟨_, q1, q2⟩
    refine ⟨by unfold jmx; rw [if_neg (by omega)]; exact q1, ?_⟩
    by_cases z : n ≤ 0
    · rw [if_pos z]; omega
    · rw [if_neg z]
      rcases q2 with q2 | q2
      · exact absurd q2 z
      · intro w; exact q2 (Int32.toInt_inj.mp (by omega))
  · rintro ⟨q1, q2⟩
    refine ⟨⟨b0, b1⟩, ?_, ?_⟩
    · unfold jmx at q1; split at q1 <;> omega
    · by_cases z : n ≤ 0
      · exact Or.inl z
      · rw [if_neg z] at q2
        exact Or.inr (fun w => q2 (by rw [w]; omega))
theorem jMy.cong {f g t f' g' t' : Nat → Int32} {B n M T : Int} {b : Int32} (h : jMy f g t B n M T b) (e1 : ∀ k : Nat, (k : Int) < n → f k = f' k ∧ g k = g' k) (e2 : ∀ j : Nat, j < 4 → t (32 + j) = t' (32 + j)) : jMy f' g' t' B n M T b := by
  obtain ⟨a1, a2, a3, a4, a5⟩ := h
  refine ⟨?_, a2, a3, ?_, ?_⟩
  · rw [← jcnt_cong n.toNat (fun k hk => (e1 k (by omega)).2)]; exact a1
  · rw [← jcn_cong n.toNat (fun k hk => (e1 k (by omega)).1)]
    have e : jOx t' B b = jOx t B b := by
      unfold jOx
      rw [show (32 + b.toInt).toNat = 32 + b.toInt.toNat by omega, e2 _ (by omega)]
    rw [e]; exact a4
  · rcases a5 with a5 | a5
    · exact Or.inl a5
    · by_cases z : n ≤ 0
      · exact Or.inl z
      · exact Or.inr (by rw [← (e1 (n - 1).toNat (by omega)).1]; exact a5)
theorem jLf_r (a b : Int32) : 0 ≤ (jLf a b).toInt ∧ (jLf a b).toInt ≤ 15 := jmask (x := jLf a b) rfl 4 (by decide) (by decide)
def jMb (a b : Int32) : Prop := (0 ≤ b.toInt ∧ b.toInt ≤ 3) ∧ 0 < (jLf a b).toInt ∧ (jLa a).toInt - 1 ≠ b.toInt
theorem jAk.mb {f t : Nat → Int32} {B n : Int} {r b : Int32} (h : jAk f t B n r) : jCan f t B n b ↔ jMb r b := by
  constructor
  · intro q; exact ⟨q.1, (h.can q.1.1 q.1.2).mp q⟩
  · intro q; exact (h.can q.1.1 q.1.2).mpr q.2
/-- the reference's walk through a book of n overs -/
def jRb (f w : Nat → Int32) (n last : Int) : Prop := (∀ b : Int32, 0 ≤ b.toInt → b.toInt ≤ 3 → (w b.toInt.toNat).toInt = (jcn f b n.toNat : Int)) ∧ last = if n ≤ 0 then -1 else (f (n - 1).toNat).toInt
theorem jRb.first {f w : Nat → Int32} {n last : Int} (h : ∀ j : Nat, (j : Int) < 4 → w j = 0) (hn : n ≤ 0) (hl : last = -1) : jRb f w n last := by
  have e : n.toNat = 0 := by omega
  refine ⟨fun b b0 b1 => ?_, by rw [if_pos hn]; exact hl⟩
  rw [h b.toInt.toNat (by omega), e]; rfl
theorem jRb.step {f w w' : Nat → Int32} {n n' last last' : Int} {b : Int32} (h : jRb f w n last) (e : w' = jupd w b.toNatClampNeg (w b.toNatClampNeg + 1)) (hb : b = f n.toNat) (h0 : 0 ≤ n) (h12 : n ≤ 12) (b0 : 0 ≤ b.toInt) (b1 : b.toInt ≤ 3) (hl : last' = b.toInt) (hn : n' = n + 1) : jRb f w' n' last' := by
  subst hn e
  rw [jnc (rfl : b.toInt = b.toInt)]
  have e1 : (n + 1).toNat = n.toNat + 1 := by omega
  refine ⟨fun c c0 c1 => ?_, by rw [if_neg (by omega), show n + 1 - 1 = n by omega, ← hb]; exact hl⟩
  rw [e1]
  show _ = ((jcn f c n.toNat + (if f n.toNat = c then 1 else 0) : Nat) : Int)
  have hc := h.1 c c0 c1
  have hle := jcn_le f c n.toNat
  unfold jupd
  by_cases q : c = b
  · subst q
    rw [if_pos rfl, if_pos hb.symm]
    have := (jadd (x := w c.toInt.toNat + 1) rfl hc (show (1 : Int32).toInt = 1 by decide) (by omega) (by omega))
    rw [this]; omega
  · have q2 : c.toInt ≠ b.toInt := fun z => q (Int32.toInt_inj.mp z)
    rw [if_neg (by omega), if_neg (fun z => q (by rw [hb, z])), hc]; rfl
theorem jRb.can {σ : Nat → Nat → Int32} {f t : Nat → Int32} {B n : Int} {b : Int32} (h : jRb f (σ 69) n (σ 55 27).toInt) (b0 : 0 ≤ b.toInt) (b1 : b.toInt ≤ 3) (hB : b.toInt < B) (w : (σ 55 30).toInt = -1) (o : (σ 55 31).toInt = -1) (ht : t = σ 56) (ok : jOk t) (hn : n ≤ 12) : jmb σ b = 1 ↔ jCan f t B n b := by
  subst ht
  have hb := h.1 b b0 b1
  have ok1 := ok b.toInt.toNat (by omega)
  have hle := jcn_le f b n.toNat
  have n30 : ¬ b = σ 55 30 := fun q => by rw [q] at b0; omega
  have n31 : ¬ b = σ 55 31 := fun q => by rw [q] at b0; omega
  have e32 : (32 + b).toInt = 32 + b.toInt := jadd (x := 32 + b) rfl (show (32 : Int32).toInt = 32 by decide) rfl (by omega) (by omega)
  have em : σ 56 (32 + b).toNatClampNeg = σ 56 (32 + b.toInt.toNat) := by rw [jnc e32]; congr 1; omega
  have el : (jleft σ b).toInt = (σ 56 (32 + b.toInt.toNat)).toInt - (jcn f b n.toNat : Int) := by
    unfold jleft
    rw [if_neg n30, if_neg n31, em, jnc (rfl : b.toInt = b.toInt)]
    exact jsub rfl rfl hb (by omega) (by omega)
  have ex : jOx (σ 56) B b = (σ 56 (32 + b.toInt.toNat)).toInt := by
    unfold jOx; rw [if_pos hB]; congr 2; omega
  unfold jCan jmb
  rw [ex]
  have hl := h.2
  constructor
  · intro q
    by_cases c1 : b = σ 55 27
    · rw [if_pos c1] at q; exact absurd q (by decide)
    rw [if_neg c1] at q
    by_cases c2 : jleft σ b ≤ 0
    · rw [if_pos c2] at q; exact absurd q (by decide)
    have c3 := jnle c2 el (show (0 : Int32).toInt = 0 by decide)
    refine ⟨⟨b0, b1⟩, by omega, ?_⟩
    by_cases z : n ≤ 0
    · exact Or.inl z
    · rw [if_neg z] at hl
      exact Or.inr (fun e => c1 (Int32.toInt_inj.mp (by rw [hl, e])))
  · rintro ⟨_, q2, q3⟩
    have c1 : ¬ b = σ 55 27 := by
      intro e
      rw [← e] at hl
      by_cases z : n ≤ 0
      · rw [if_pos z] at hl; omega
      · rw [if_neg z] at hl
        rcases q3 with q3 | q3
        · exact z q3
        · exact q3 (Int32.toInt_inj.mp hl.symm)
    have c2 : ¬ jleft σ b ≤ 0 := fun e => by
      have := jle e el (show (0 : Int32).toInt = 0 by decide)
      omega
    rw [if_neg c1, if_neg c2]
/-- a call of book: what it answers and does -/
def jBo (ok may : Prop) (r n n' : Int) (b o : Int32) (f f' g g' : Nat → Int32) : Prop :=
  (r = -1 ∧ ¬ ok ∧ n' = n ∧ f' = f ∧ g' = g) ∨ (r = -5 ∧ ok ∧ ¬ may ∧ n' = n ∧ f' = f ∧ g' = g) ∨ (r = n' ∧ ok ∧ may ∧ n' = n + 1 ∧ f' = jupd f n.toNat b ∧ g' = jupd g n.toNat o)
def jBk (f f2 g g2 : Nat → Int32) (n : Int) : Prop := ∀ k : Nat, (k : Int) < n → f k = f2 k ∧ g k = g2 k
theorem jBk.bo {ok may ok2 may2 : Prop} {r r2 n n' n2' : Int} {b o : Int32} {f f' g g' f2 f2' g2 g2' : Nat → Int32} (h : jBk f f2 g g2 n) (h0 : 0 ≤ n) (a : jBo ok may r n n' b o f f' g g') (c : jBo ok2 may2 r2 n n2' b o f2 f2' g2 g2') (e1 : ok ↔ ok2) (e2 : ok → (may ↔ may2)) : r = r2 ∧ n' = n2' ∧ jBk f' f2' g' g2' n' := by
  rcases a with ⟨a1, a2, a3, a4, a5⟩ | ⟨a1, a2, a3, a4, a5, a6⟩ | ⟨a1, a2, a3, a4, a5, a6⟩ <;> rcases c with ⟨c1, c2, c3, c4, c5⟩ | ⟨c1, c2, c3, c4, c5, c6⟩ | ⟨c1, c2, c3, c4, c5, c6⟩
  · subst a4 a5 c4 c5; exact ⟨by omega, by omega, by rw [a3]; exact h⟩
  · exact absurd (e1.mpr c2) a2
  · exact absurd (e1.mpr c2) a2
  · exact absurd (e1.mp a2) c2
  · subst a5 a6 c5 c6; exact ⟨by omega, by omega, by rw [a4]; exact h⟩
  · exact absurd ((e2 a2).mpr c3) a3
  · exact absurd (e1.mp a2) c2
  · exact absurd ((e2 a2).mp a3) c3
  · subst a5 a6 c5 c6
    refine ⟨by omega, by omega, fun k hk => ?_⟩
    unfold jupd
    by_cases e : k = n.toNat
    · rw [if_pos e, if_pos e, if_pos e, if_pos e]; exact ⟨rfl, rfl⟩
    · rw [if_neg e, if_neg e, if_neg e, if_neg e]; exact h k (by omega)
def jZr (f : Nat → Int32) (m : Int) : Prop := ∀ j : Nat, (j : Int) < m → f j = 0
theorem jZr.first {f : Nat → Int32} {m : Int} (h : m ≤ 0) : jZr f m := fun j hj => absurd hj (by omega)
theorem jZr.step {f f' : Nat → Int32} {m m' x : Int} (h : jZr f m) (h0 : 0 ≤ m) (e : f' = jupd f x.toNat 0) (hx : x = m) (hm : m' = m + 1) : jZr f' m' := by
  subst e hx
  intro j hj
  unfold jupd
  by_cases q : j = x.toNat
  · rw [if_pos q]
  · rw [if_neg q]; exact h j (by omega)
/-- numbers of OVERS stay small, and so in the log -/
def jOvP (m p b a : Nat → Int32) (n : Int) : Prop := jOk m ∧ ∀ k : Nat, (k : Int) < n → 32 ≤ (p k).toInt → (p k).toInt ≤ 35 → (0 ≤ (b k).toInt ∧ (b k).toInt ≤ 8) ∧ 0 ≤ (a k).toInt ∧ (a k).toInt ≤ 8
theorem jOvP.put {m m' p b a : Nat → Int32} {n q : Int} {v : Int32} (h : jOvP m p b a n) (e : m' = jupd m q.toNat v) (h0 : 0 ≤ q) (hv : 32 ≤ q → q ≤ 35 → 0 ≤ v.toInt ∧ v.toInt ≤ 8) : jOvP m' p b a n := by
  subst e
  refine ⟨fun j hj => ?_, h.2⟩
  unfold jupd
  by_cases e : 32 + j = q.toNat
  · rw [if_pos e]; exact hv (by omega) (by omega)
  · rw [if_neg e]; exact h.1 j hj
theorem jOvP.back {m m' p b a : Nat → Int32} {n d : Int} (h : jOvP m p b a n) (h0 : 0 ≤ d) (h1 : d < n) (hp : 0 ≤ (p d.toNat).toInt) (e : m' = jupd m (p d.toNat).toInt.toNat (b d.toNat)) : jOvP m' p b a n := h.put e hp (fun q r => (h.2 d.toNat (by omega) q r).1)
theorem jOvP.forth {m m' p b a : Nat → Int32} {n d : Int} (h : jOvP m p b a n) (h0 : 0 ≤ d) (h1 : d < n) (hp : 0 ≤ (p d.toNat).toInt) (e : m' = jupd m (p d.toNat).toInt.toNat (a d.toNat)) : jOvP m' p b a n := h.put e hp (fun q r => (h.2 d.toNat (by omega) q r).2)
theorem jOvP.chg {m m' p p' b b' a a' : Nat → Int32} {n n' d d' q : Int} {v r : Int32} (h : jOvP m p b a n) (c : jChg q v r m m' p p' b b' a a' d d' n n') (h0 : 0 ≤ q) (hd : 0 ≤ d ∧ d ≤ n) (hv : 32 ≤ q → q ≤ 35 → 0 ≤ v.toInt ∧ v.toInt ≤ 8) : jOvP m' p' b' a' n' := by
  obtain ⟨er, c⟩ := c
  rcases c with ⟨_, e1, e2, e3, e4, e5, e6⟩ | ⟨_, e1, e2, p1, b1, a1, z, e3, e4, e5, e6, e7⟩
  · subst e1 e2 e3 e4 e6; exact h
  · refine ⟨(h.put e2 h0 hv).1, fun k hk k0 k1 => ?_⟩
    rw [e5] at k0 k1
    rw [e6, e7]
    unfold jupd at k0 k1 ⊢
    by_cases e : k = (d' - 1).toNat
    · rw [if_pos e] at k0 k1
      rw [if_pos e, if_pos e]
      refine ⟨?_, hv (by omega) (by omega)⟩
      have o := h.1 (q.toNat - 32) (by omega)
      rw [show 32 + (q.toNat - 32) = q.toNat by omega, ← er] at o; exact o
    · rw [if_neg e] at k0 k1
      rw [if_neg e, if_neg e]
      rcases e4 with ⟨x1, x2, x3, x4, x5⟩ | ⟨x1, x2, x3, x4, x5⟩
      · subst x3 x4 x5; exact h.2 k (by omega) k0 k1
      · have hk9 : k < 39 := by omega
        rw [x3 k hk9] at k0 k1
        rw [x4 k hk9, x5 k hk9]; exact h.2 (k + 1) (by omega) k0 k1
theorem jOvP.bowler {m m' p b a : Nat → Int32} {n B : Int} {v : Int32} (h : jOvP m p b a n) (e : m' = jupd m (32 + B).toNat v) (h0 : 0 ≤ B) (hv : 0 ≤ v.toInt ∧ v.toInt ≤ 8) : jOvP m' p b a n := h.put e (by omega) (fun _ _ => hv)
theorem jNumP.ok {t m p p2 b b2 a a2 : Nat → Int32} {B n : Int} (h : jNumP t m p p2 b b2 a a2 B n) (o : jOk m) : jOk t := fun j hj => by rw [h.1 (32 + j) (by omega) (Or.inr (by omega))]; exact o j hj
/-- a book read from a row: el its elements, L how many there are -/
def jBp (el : Nat → Int64) (L B M T : Int) (t f g : Nat → Int32) (k : Nat) : Prop := (k : Int) < L ∧ (0 ≤ (el k).toInt ∧ (el k).toInt < 20) ∧ (el k).toInt % 10 < B ∧ (f k).toInt = (el k).toInt % 10 ∧ (g k).toInt = (el k).toInt / 10 ∧ jMy f g t B k M T (f k)
def jBe (el : Nat → Int64) (L B M T : Int) (t f g : Nat → Int32) (k : Nat) : Prop := (k : Int) < L ∧ (0 ≤ (el k).toInt ∧ (el k).toInt < 20) ∧ (el k).toInt % 10 < B ∧ ∃ b : Int32, b.toInt = (el k).toInt % 10 ∧ jMy f g t B k M T b
def jBs (el : Nat → Int64) (L B M T : Int) (t f g : Nat → Int32) (J : Int) : Prop := 0 ≤ J ∧ (∀ k : Nat, (k : Int) < J → jBp el L B M T t f g k) ∧ ¬ jBe el L B M T t f g J.toNat
theorem jBs.rows {el el2 : Nat → Int64} {L B M T : Int} {t t2 f g f2 g2 : Nat → Int32} {k : Nat} (he : ∀ k : Nat, (k : Int) < L → el k = el2 k) (a : jBp el L B M T t f g k) (b : jBp el2 L B M T t2 f2 g2 k) : f k = f2 k ∧ g k = g2 k := by
  obtain ⟨a1, a2, a3, a4, a5, _⟩ := a
  obtain ⟨b1, b2, b3, b4, b5, _⟩ := b
  rw [← he k a1] at b4 b5
  exact ⟨Int32.toInt_inj.mp (by omega), Int32.toInt_inj.mp (by omega)⟩
theorem jBs.le {el el2 : Nat → Int64} {L B M T J J2 : Int} {t t2 f g f2 g2 : Nat → Int32} (he : ∀ k : Nat, (k : Int) < L → el k = el2 k) (ht : ∀ j : Nat, j < 4 → t (32 + j) = t2 (32 + j)) (a : jBs el L B M T t f g J) (b : jBs el2 L B M T t2 f2 g2 J2) : ¬ J < J2 := by
  intro h
  obtain ⟨a0, a1, a2⟩ := a
  obtain ⟨b0, b1, b2⟩ := b
  have p := b1 J.toNat (by omega)
  obtain ⟨p1, p2, p3, p4, p5, p6⟩ := p
  apply a2
  rw [← he J.toNat p1] at p2 p3 p4 p5
  refine ⟨p1, p2, p3, f2 J.toNat, p4, p6.cong (fun k hk => ?_) (fun j hj => (ht j hj).symm)⟩
  obtain ⟨x, y⟩ := jBs.rows he (a1 k (by omega)) (b1 k (by omega))
  exact ⟨x.symm, y.symm⟩
theorem jBs.det {el el2 : Nat → Int64} {L B M T J J2 : Int} {t t2 f g f2 g2 : Nat → Int32} (he : ∀ k : Nat, (k : Int) < L → el k = el2 k) (ht : ∀ j : Nat, j < 4 → t (32 + j) = t2 (32 + j)) (a : jBs el L B M T t f g J) (b : jBs el2 L B M T t2 f2 g2 J2) : J = J2 ∧ jBk f f2 g g2 J := by
  have h1 := jBs.le he ht a b
  have h2 := jBs.le (fun k hk => (he k hk).symm) (fun j hj => (ht j hj).symm) b a
  have e : J = J2 := by omega
  subst e
  exact ⟨rfl, fun k hk => jBs.rows he (a.2.1 k hk) (b.2.1 k hk)⟩
/-- so far -/
def jBf (el : Nat → Int64) (L B M T : Int) (t f g : Nat → Int32) (J : Int) : Prop := 0 ≤ J ∧ ∀ k : Nat, (k : Int) < J → jBp el L B M T t f g k
theorem jBf.first {el : Nat → Int64} {L B M T J : Int} {t f g : Nat → Int32} (h : J = 0) : jBf el L B M T t f g J := ⟨by omega, fun k hk => absurd hk (by omega)⟩
theorem jBf.step {el : Nat → Int64} {L B M T J J' : Int} {t f g f' g' : Nat → Int32} {b o : Int32} (h : jBf el L B M T t f g J) (e1 : f' = jupd f J.toNat b) (e2 : g' = jupd g J.toNat o) (h1 : J < L) (h2 : 0 ≤ (el J.toNat).toInt ∧ (el J.toNat).toInt < 20) (h3 : (el J.toNat).toInt % 10 < B) (hb : b.toInt = (el J.toNat).toInt % 10) (ho : o.toInt = (el J.toNat).toInt / 10) (hm : jMy f g t B J M T b) (hJ : J' = J + 1) : jBf el L B M T t f' g' J' := by
  subst e1 e2 hJ
  obtain ⟨h0, h⟩ := h
  have same : ∀ k : Nat, (k : Int) < J → f k = jupd f J.toNat b k ∧ g k = jupd g J.toNat o k := fun k hk => by
    unfold jupd; rw [if_neg (by omega), if_neg (by omega)]; exact ⟨rfl, rfl⟩
  refine ⟨by omega, fun k hk => ?_⟩
  by_cases e : (k : Int) < J
  · obtain ⟨p1, p2, p3, p4, p5, p6⟩ := h k e
    obtain ⟨s1, s2⟩ := same k e
    refine ⟨p1, p2, p3, by rw [← s1]; exact p4, by rw [← s2]; exact p5, ?_⟩
    rw [← s1]; exact p6.cong (fun j hj => same j (by omega)) (fun _ _ => rfl)
  · have ek : k = J.toNat := by omega
    subst ek
    have f1 : jupd f J.toNat b J.toNat = b := by unfold jupd; rw [if_pos rfl]
    have g1 : jupd g J.toNat o J.toNat = o := by unfold jupd; rw [if_pos rfl]
    refine ⟨by omega, h2, h3, by rw [f1]; exact hb, by rw [g1]; exact ho, ?_⟩
    rw [f1, show ((J.toNat : Nat) : Int) = J by omega]
    exact hm.cong (fun j hj => same j hj) (fun _ _ => rfl)
theorem jBf.stop {el : Nat → Int64} {L B M T J : Int} {t f g : Nat → Int32} (h : jBf el L B M T t f g J) (n : ¬ jBe el L B M T t f g J.toNat) : jBs el L B M T t f g J := ⟨h.1, h.2, n⟩
def jBb (c1 c2 : Prop) (r n n' : Int) (f f' g g' : Nat → Int32) (S : Prop) : Prop := (r = -1 ∧ c1 ∧ n' = n ∧ f' = f ∧ g' = g) ∨ (r = -12 ∧ ¬ c1 ∧ c2 ∧ n' = n ∧ f' = f ∧ g' = g) ∨ (¬ c1 ∧ ¬ c2 ∧ r = n' ∧ S)
theorem jGt.get {c : Int} {q : Nat} {f : Nat → Int64} {r : Int64} (h : jGt c q f r) (e : c = 1) : r = f q := by
  rcases h with ⟨_, h⟩ | ⟨h, _⟩
  · exact h
  · exact absurd e h
theorem jBb.det {c1 c2 d1 d2 S S2 : Prop} {r r2 n n' n2' J : Int} {f f' g g' f2 f2' g2 g2' : Nat → Int32} (h : jBk f f2 g g2 n) (a : jBb c1 c2 r n n' f f' g g' S) (b : jBb d1 d2 r2 n n2' f2 f2' g2 g2' S2) (e1 : c1 ↔ d1) (e2 : ¬ c1 → (c2 ↔ d2)) (e3 : ¬ c1 → ¬ c2 → S → S2 → n' = n2' ∧ jBk f' f2' g' g2' n') (z : J = 0) : r = r2 ∧ n' = n2' ∧ jBk f' f2' g' g2' n' := by
  rcases a with ⟨a1, a2, a3, a4, a5⟩ | ⟨a1, a2, a3, a4, a5, a6⟩ | ⟨a1, a2, a3, a4⟩ <;> rcases b with ⟨b1, b2, b3, b4, b5⟩ | ⟨b1, b2, b3, b4, b5, b6⟩ | ⟨b1, b2, b3, b4⟩
  · subst a4 a5 b4 b5; exact ⟨by omega, by omega, by rw [a3]; exact h⟩
  · exact absurd (e1.mp a2) b2
  · exact absurd (e1.mp a2) b1
  · exact absurd (e1.mpr b2) a2
  · subst a5 a6 b5 b6; exact ⟨by omega, by omega, by rw [a4]; exact h⟩
  · exact absurd ((e2 a2).mp a3) b2
  · exact absurd (e1.mpr b2) a1
  · exact absurd ((e2 a1).mpr b3) a2
  · obtain ⟨x, y⟩ := e3 a1 a2 a4 b4
    exact ⟨by omega, x, y⟩
theorem jBk.nil {f f2 g g2 : Nat → Int32} {n : Int} (h : n ≤ 0) : jBk f f2 g g2 n := fun k hk => absurd hk (by omega)
theorem jMy.iff {f g t f' g' t' : Nat → Int32} {B n M T : Int} {b : Int32} (e1 : ∀ k : Nat, (k : Int) < n → f k = f' k ∧ g k = g' k) (e2 : ∀ j : Nat, j < 4 → t (32 + j) = t' (32 + j)) : jMy f g t B n M T b ↔ jMy f' g' t' B n M T b :=
  ⟨fun h => h.cong e1 e2, fun h => h.cong (fun k hk => ⟨(e1 k hk).1.symm, (e1 k hk).2.symm⟩) (fun j hj => (e2 j hj).symm)⟩
theorem jNumP.t4 {t m p p2 b b2 a a2 : Nat → Int32} {B n : Int} (h : jNumP t m p p2 b b2 a a2 B n) : ∀ j : Nat, j < 4 → t (32 + j) = m (32 + j) := fun j hj => h.1 (32 + j) (by omega) (Or.inr (by omega))
/-- elements of rows of bytes are bytes -/
def jByP (so le : Nat → Int32) (f : Nat → Int64) : Prop := ∀ d : Nat, d < 6 → (so d).toInt = 0 → ∀ i : Nat, (i : Int) < (le d).toInt → -128 ≤ (f (60 * d + i)).toInt ∧ (f (60 * d + i)).toInt ≤ 127
theorem jByP.keep {so le so' le' : Nat → Int32} {f : Nat → Int64} {d : Nat} {a x : Int32} (h : jByP so le f) (e1 : so' = jupd so d a) (e2 : le' = jupd le d x) (ha : a.toInt < 0) : jByP so' le' f := by
  subst e1 e2
  intro k hk h0 i hi
  unfold jupd at h0 hi
  by_cases e : k = d
  · rw [if_pos e] at h0; exact absurd h0 (by omega)
  · rw [if_neg e] at h0 hi; exact h k hk h0 i hi
theorem jByP.row {so le so' le' : Nat → Int32} {f f' : Nat → Int64} {d q1 : Nat} {a x : Int32} {n : Int} (h : jByP so le f) (hl : ∀ k : Nat, k < 6 → 0 ≤ (le k).toInt ∧ (le k).toInt ≤ 60) (e1 : so' = jupd so d a) (e2 : le' = jupd le d x) (u : jFl f f' q1 n) (eq1 : q1 = 60 * d) (hx : x.toInt ≤ n) (hn : n ≤ 60) : jByP so' le' f' := by
  subst e1 e2 eq1
  intro k hk h0 i hi
  unfold jupd at h0 hi
  by_cases e : k = d
  · subst e
    rw [if_pos rfl] at h0 hi
    rw [u.1 i (by omega)]; decide
  · rw [if_neg e] at h0 hi
    have := hl k hk
    rw [u.2 _ (by omega)]; exact h k hk h0 i hi
theorem jcut0 (v : Int64) : -128 ≤ (jCut 0 v).toInt ∧ (jCut 0 v).toInt ≤ 127 := by
  unfold jCut; rw [if_pos rfl]
  have h1 := Int8.le_toInt (v.toInt32.toInt8)
  have h2 := Int8.toInt_lt (v.toInt32.toInt8)
  have e : (v.toInt32.toInt8.toInt32.toInt64).toInt = v.toInt32.toInt8.toInt := by
    rw [Int32.toInt_toInt64, Int8.toInt_toInt32]
  rw [e]; omega
theorem jByP.put {so le : Nat → Int32} {f f' : Nat → Int64} {c d i : Int} {q : Nat} {s : Int} {v : Int64} (h : jByP so le f) (hl : ∀ k : Nat, k < 6 → 0 ≤ (le k).toInt ∧ (le k).toInt ≤ 60) (u : jPt c q (jCut s v) f f') (eq : q = (60 * d + i).toNat) (ok : c = 1 → (0 ≤ d ∧ d ≤ 5) ∧ 0 ≤ i ∧ i < (le d.toNat).toInt ∧ s = (so d.toNat).toInt) : jByP so le f' := by
  subst eq
  intro k hk h0 m hm
  rcases u with ⟨u1, u2⟩ | ⟨u1, u2⟩
  · obtain ⟨o1, o2, o3, o4⟩ := ok u1
    subst u2
    have l1 := hl k hk
    have l2 := hl d.toNat (by omega)
    unfold vp_updL
    by_cases e : 60 * k + m = (60 * d + i).toNat
    · rw [if_pos e]
      have ek : d.toNat = k := by omega
      rw [ek, h0] at o4
      rw [o4]; exact jcut0 v
    · rw [if_neg e]; exact h k hk h0 m hm
  · subst u2; exact h k hk h0 m hm
theorem jByP.move {so le : Nat → Int32} {f f' : Nat → Int64} {c n : Int} {q1 q2 : Nat} {d i e j : Int} (h : jByP so le f) (hl : ∀ k : Nat, k < 6 → 0 ≤ (le k).toInt ∧ (le k).toInt ≤ 60) (u : jMvL c q1 q2 n f f') (b1 : q1 = (60 * d + i).toNat) (b2 : q2 = (60 * e + j).toNat)
    (ok : 0 ≤ c → 0 ≤ n ∧ (0 ≤ d ∧ d < 6) ∧ (0 ≤ e ∧ e < 6) ∧ 0 ≤ i ∧ 0 ≤ j ∧ 0 ≤ (so d.toNat).toInt ∧ i + n ≤ (le d.toNat).toInt ∧ j + n ≤ (le e.toNat).toInt) (hs : 0 ≤ c → (so d.toNat).toInt = (so e.toNat).toInt) : jByP so le f' := by
  intro k hk h0 m hm
  rcases u with ⟨u1, u2, u3⟩ | ⟨u1, u2⟩
  · obtain ⟨o1, o2, o3, o4, o5, o6, o7, o8⟩ := ok u1
    have l1 := hl d.toNat (by omega)
    have l2 := hl e.toNat (by omega)
    have l3 := hl k hk
    by_cases hp : 60 * k + m < q2 ∨ (q2 : Int) + n ≤ (60 * k + m : Nat)
    · rw [u3 _ hp]; exact h k hk h0 m hm
    · have e9 : 60 * k + m = q2 + (60 * k + m - q2) := by omega
      rw [e9, u2 _ (by omega)]
      have e8 : q1 + (60 * k + m - q2) = 60 * d.toNat + (i.toNat + (60 * k + m - q2)) := by omega
      rw [e8]
      have ek : k = e.toNat := by omega
      refine h d.toNat (by omega) ?_ _ (by omega)
      rw [hs u1, ← ek]; exact h0
  · subst u2; exact h k hk h0 m hm
theorem jShP.mvs {so le ru sh ma : Nat → Int32} {n : Int} (h : jShP so le ru sh ma n) {d e : Int32} {i j k c : Int} (q : c = jSf d.toInt i e.toInt j k (so d.toNatClampNeg).toInt (so e.toNatClampNeg).toInt (le d.toNatClampNeg).toInt (le e.toNatClampNeg).toInt) (hc : 0 ≤ c) : (so d.toInt.toNat).toInt = (so e.toInt.toNat).toInt := by
  unfold jSf at q
  by_cases hd : d.toInt < 0 ∨ 5 < d.toInt ∨ e.toInt < 0 ∨ 5 < e.toInt
  · rw [if_pos hd] at q; exact absurd hc (by omega)
  rw [if_neg hd] at q
  rw [jnc (rfl : d.toInt = d.toInt), jnc (rfl : e.toInt = e.toInt)] at q
  by_cases c1 : (so d.toInt.toNat).toInt = -2 ∨ (so e.toInt.toNat).toInt = -2
  · rw [if_pos c1] at q; exact absurd hc (by omega)
  rw [if_neg c1] at q
  by_cases c2 : (so d.toInt.toNat).toInt = -1 ∨ (so d.toInt.toNat).toInt ≠ (so e.toInt.toNat).toInt
  · rw [if_pos c2] at q; exact absurd hc (by omega)
  omega

def jActV (k a : Int) (x r : Int32) : Int32 := if k = 0 then (if a = 0 then (x + r) else if a = 1 then ((x + r) * 2) else if a = 2 then (x ^^^ r) else if a = 3 then (((x + r) * 2) - (1 ^^^ r)) else 0) else if k = 1 then (if a = 0 then ((x + r) + 3) else if a = 1 then (((x + r) + 3) * 2) else if a = 2 then (x ^^^ r) else if a = 3 then ((((x + r) + 3) * 2) - (1 ^^^ r)) else 0) else if k = 2 then (if a = 0 then (x + r) else if a = 1 then ((x + r) * 2) else if a = 2 then ((x ^^^ r) * 3) else if a = 3 then (((x + r) * 2) - ((1 ^^^ r) * 3)) else 0) else if k = 3 then (if a = 0 then (x + r) else if a = 1 then (-((x + r) * 2)) else if a = 2 then ((x ^^^ r) * 3) else if a = 3 then ((-((x + r) * 2)) - ((1 ^^^ r) * 3)) else 0) else if k = 4 then (if a = 0 then (((x + 1) + r) + 3) else if a = 1 then ((((x + 1) + r) + 3) * 2) else if a = 2 then (x ^^^ r) else if a = 3 then ((((((x + 1) + r) + 3) * 2) - (1 ^^^ r)) ^^^ 5) else 0) else if k = 5 then (if a = 0 then (x + r) else if a = 1 then (-((x + r) * 2)) else if a = 2 then (((x ^^^ r) * 3) - (2 + r)) else if a = 3 then ((-((x + r) * 2)) - (((1 ^^^ r) * 3) - (2 + r))) else 0) else if k = 6 then (if a = 0 then (x + r) else if a = 1 then (((x + r) * 2) + (1 ^^^ r)) else if a = 2 then (x ^^^ r) else if a = 3 then ((((x + r) * 2) + (1 ^^^ r)) - (1 ^^^ r)) else 0) else 0
def jTl (k a : Int) : List Int32 := if k = 0 then (if a = 0 then [1] else if a = 1 then [10, 1] else if a = 2 then [11] else if a = 3 then [2, 10, 1, 11] else []) else if k = 1 then (if a = 0 then [20, 1] else if a = 1 then [10, 20, 1] else if a = 2 then [11] else if a = 3 then [2, 10, 20, 1, 11] else []) else if k = 2 then (if a = 0 then [1] else if a = 1 then [10, 1] else if a = 2 then [30, 11] else if a = 3 then [2, 10, 1, 30, 11] else []) else if k = 3 then (if a = 0 then [1] else if a = 1 then [40, 10, 1] else if a = 2 then [30, 11] else if a = 3 then [2, 40, 10, 1, 30, 11] else []) else if k = 4 then (if a = 0 then [50, 20, 1] else if a = 1 then [10, 50, 20, 1] else if a = 2 then [11] else if a = 3 then [51, 2, 10, 50, 20, 1, 11] else []) else if k = 5 then (if a = 0 then [1] else if a = 1 then [40, 10, 1] else if a = 2 then [60, 30, 11, 1] else if a = 3 then [2, 40, 10, 1, 60, 30, 11, 1] else []) else if k = 6 then (if a = 0 then [1] else if a = 1 then [70, 10, 1, 11] else if a = 2 then [11] else if a = 3 then [2, 70, 10, 1, 11, 11] else []) else []
def jTr : List Int32 → Nat → (Nat → Int32) → Prop
  | [], _, _ => True
  | b :: l, j, g => g j = b ∧ jTr l (j + 1) g
def jTrc (k a : Int) (g : Nat → Int32) (n : Int) : Prop := n = ((jTl k a).length : Int) ∧ jTr (jTl k a) 0 g
def jTt (f g : Nat → Int32) (n : Int) : Prop := ∀ j : Nat, (j : Int) < n → f j = g j
theorem jTr_eq {f g : Nat → Int32} : ∀ (l : List Int32) (j : Nat), jTr l j f → jTr l j g → ∀ k : Nat, j ≤ k → k < j + l.length → f k = g k
  | [], j, _, _, k, h1, h2 => absurd h2 (by show ¬ k < j + 0; omega)
  | b :: l, j, h, h', k, h1, h2 => by
    by_cases e : k = j
    · rw [e, h.1, h'.1]
    · exact jTr_eq l (j + 1) h.2 h'.2 k (by omega) (by have h3 : k < j + (l.length + 1) := h2; omega)
theorem jTrc.tt {k a n n' : Int} {f g : Nat → Int32} (h : jTrc k a f n) (h' : jTrc k a g n') : jTt f g n' ∧ n = n' := by
  obtain ⟨a1, a2⟩ := h
  obtain ⟨b1, b2⟩ := h'
  refine ⟨fun j hj => jTr_eq _ 0 a2 b2 j (Nat.zero_le j) (by omega), by omega⟩
theorem jTt.nil {f g : Nat → Int32} {n : Int} (h : n ≤ 0) : jTt f g n := fun j hj => absurd hj (by omega)
/-! texts: what stands where, as class and reference both read it; the words that it becomes -/
theorem jdic (p : Prop) {q : Prop} (h1 : p → q) (h2 : ¬ p → q) : q := Or.elim (Classical.em p) h1 h2
def jYs (f : Nat → Int32) (n p : Int) : Int := if 0 ≤ p ∧ p < n then (f p.toNat).toInt else -1
def jLv (c : Int) : Int := if c = 124 then 0 else if c = 38 then 1 else if c = 60 ∨ c = 61 ∨ c = 62 then 2 else if c = 43 ∨ c = 45 then 3 else if c = 42 ∨ c = 47 ∨ c = 37 then 4 else 5
def jNm (c : Int) : Int := if c = 111 then 0 else if c = 119 then 1 else if c = 115 then 2 else if c = 98 then 3 else if c = 116 then 4 else if c = 108 then 5 else if c = 112 then 6 else if c = 107 then 7 else -1
def jwd (x : Int) : Int32 := Int32.ofNat x.toNat
theorem jwd_t {x : Int} (h0 : 0 ≤ x) (h1 : x ≤ 100000) : (jwd x).toInt = x := (nI_toInt (by omega)).trans (by omega)
theorem jwd_of {w : Int32} {x : Int} (h : w.toInt = x) (h0 : 0 ≤ x) (h1 : x ≤ 100000) : w = jwd x := Int32.toInt_inj.mp (by rw [jwd_t h0 h1, h])
/-- how many digits stand there (1 .. 4, if one does), and their number -/
def jNq (f : Nat → Int32) (n p : Int) : Int := if ¬ (48 ≤ jYs f n (p + 1) ∧ jYs f n (p + 1) ≤ 57) then 1 else if ¬ (48 ≤ jYs f n (p + 2) ∧ jYs f n (p + 2) ≤ 57) then 2 else if ¬ (48 ≤ jYs f n (p + 3) ∧ jYs f n (p + 3) ≤ 57) then 3 else 4
def jNv (f : Nat → Int32) (n p : Int) : Int := if ¬ (48 ≤ jYs f n (p + 1) ∧ jYs f n (p + 1) ≤ 57) then jYs f n p - 48 else if ¬ (48 ≤ jYs f n (p + 2) ∧ jYs f n (p + 2) ≤ 57) then 10 * jYs f n p + jYs f n (p + 1) - 528 else if ¬ (48 ≤ jYs f n (p + 3) ∧ jYs f n (p + 3) ≤ 57) then 100 * jYs f n p + 10 * jYs f n (p + 1) + jYs f n (p + 2) - 5328 else 1000 * jYs f n p + 100 * jYs f n (p + 1) + 10 * jYs f n (p + 2) + jYs f n (p + 3) - 53328
theorem jNq_r (f : Nat → Int32) (n p : Int) : 1 ≤ jNq f n p ∧ jNq f n p ≤ 4 := by unfold jNq; (repeat' split) <;> omega
theorem jNv_r {f : Nat → Int32} {n p : Int} (h : 48 ≤ jYs f n p ∧ jYs f n p ≤ 57) : 0 ≤ jNv f n p ∧ jNv f n p ≤ 9999 := by unfold jNv; (repeat' split) <;> omega
/-- where reading goes on (0 and above), or -1 - the fault; 1000: more fuel; and the words -/
def jPs (f : Nat → Int32) (n : Int) (g : Int → Int → Int → Int × List Int32) (md d p : Int) : Int × List Int32 :=
    if md = 5 then
      if 48 ≤ jYs f n p ∧ jYs f n p ≤ 57 then (p + jNq f n p, [jwd (jNv f n p)])
      else if 0 ≤ jNm (jYs f n p) then (p + 1, [jwd (10000 + jNm (jYs f n p))])
      else if d < 6 ∧ (jYs f n p = 33 ∨ jYs f n p = 45) then
        (if (g 5 (d + 1) (p + 1)).1 < 0 ∨ (g 5 (d + 1) (p + 1)).1 = 1000 then ((g 5 (d + 1) (p + 1)).1, []) else ((g 5 (d + 1) (p + 1)).1, (g 5 (d + 1) (p + 1)).2 ++ [jwd (if jYs f n p = 33 then 20033 else 20126)]))
      else if d < 6 ∧ jYs f n p = 40 then
        (if (g 0 (d + 1) (p + 1)).1 < 0 ∨ (g 0 (d + 1) (p + 1)).1 = 1000 then ((g 0 (d + 1) (p + 1)).1, [])
         else if jYs f n (g 0 (d + 1) (p + 1)).1 = 41 then ((g 0 (d + 1) (p + 1)).1 + 1, (g 0 (d + 1) (p + 1)).2) else (-1 - (g 0 (d + 1) (p + 1)).1, []))
      else (-1 - p, [])
    else if md < 5 then
      (if (g (md + 1) d p).1 < 0 ∨ (g (md + 1) d p).1 = 1000 then ((g (md + 1) d p).1, [])
       else if (g (md + 10) d (g (md + 1) d p).1).1 < 0 ∨ (g (md + 10) d (g (md + 1) d p).1).1 = 1000 then ((g (md + 10) d (g (md + 1) d p).1).1, [])
       else ((g (md + 10) d (g (md + 1) d p).1).1, (g (md + 1) d p).2 ++ (g (md + 10) d (g (md + 1) d p).1).2))
    else if jLv (jYs f n p) = md - 10 then
      (if (g (md - 9) d (p + 1)).1 < 0 ∨ (g (md - 9) d (p + 1)).1 = 1000 then ((g (md - 9) d (p + 1)).1, [])
       else if md = 12 then ((g (md - 9) d (p + 1)).1, (g (md - 9) d (p + 1)).2 ++ [jwd (20000 + jYs f n p)])
       else if (g md d (g (md - 9) d (p + 1)).1).1 < 0 ∨ (g md d (g (md - 9) d (p + 1)).1).1 = 1000 then ((g md d (g (md - 9) d (p + 1)).1).1, [])
       else ((g md d (g (md - 9) d (p + 1)).1).1, (g (md - 9) d (p + 1)).2 ++ jwd (20000 + jYs f n p) :: (g md d (g (md - 9) d (p + 1)).1).2))
    else (p, [])
def jP (f : Nat → Int32) (n : Int) : Nat → Int → Int → Int → Int × List Int32
  | 0, _, _, _ => (1000, [])
  | k + 1, md, d, p => jPs f n (jP f n k) md d p
theorem jPs_mono {f : Nat → Int32} {n : Int} {g g' : Int → Int → Int → Int × List Int32} (ih : ∀ md d p : Int, (g md d p).1 ≠ 1000 → g' md d p = g md d p) (md d p : Int) (h : (jPs f n g md d p).1 ≠ 1000) : jPs f n g' md d p = jPs f n g md d p := by
  unfold jPs at h ⊢
  by_cases c5 : md = 5
  · rw [if_pos c5] at h ⊢; rw [if_pos c5]
    by_cases c1 : 48 ≤ jYs f n p ∧ jYs f n p ≤ 57
    · rw [if_pos c1, if_pos c1]
    rw [if_neg c1] at h ⊢; rw [if_neg c1]
    by_cases c2 : 0 ≤ jNm (jYs f n p)
    · rw [if_pos c2, if_pos c2]
    rw [if_neg c2] at h ⊢; rw [if_neg c2]
    by_cases c3 : d < 6 ∧ (jYs f n p = 33 ∨ jYs f n p = 45)
    · rw [if_pos c3] at h ⊢; rw [if_pos c3]
      by_cases z : (g 5 (d + 1) (p + 1)).1 = 1000
      · rw [if_pos (Or.inr z)] at h; exact absurd z h
      · rw [ih _ _ _ z]
    rw [if_neg c3] at h ⊢; rw [if_neg c3]
    by_cases c4 : d < 6 ∧ jYs f n p = 40
    · rw [if_pos c4] at h ⊢; rw [if_pos c4]
      by_cases z : (g 0 (d + 1) (p + 1)).1 = 1000
      · rw [if_pos (Or.inr z)] at h; exact absurd z h
      · rw [ih _ _ _ z]
    · rw [if_neg c4, if_neg c4]
  · rw [if_neg c5] at h ⊢; rw [if_neg c5]
    by_cases c6 : md < 5
    · rw [if_pos c6] at h ⊢; rw [if_pos c6]
      by_cases z : (g (md + 1) d p).1 = 1000
      · rw [if_pos (Or.inr z)] at h; exact absurd z h
      · rw [ih _ _ _ z]
        by_cases w : (g (md + 1) d p).1 < 0 ∨ (g (md + 1) d p).1 = 1000
        · rw [if_pos w, if_pos w]
        · rw [if_neg w] at h ⊢; rw [if_neg w]
          by_cases z2 : (g (md + 10) d (g (md + 1) d p).1).1 = 1000
          · rw [if_pos (Or.inr z2)] at h; exact absurd z2 h
          · rw [ih _ _ _ z2]
    · rw [if_neg c6] at h ⊢; rw [if_neg c6]
      by_cases c7 : jLv (jYs f n p) = md - 10
      · rw [if_pos c7] at h ⊢; rw [if_pos c7]
        by_cases z : (g (md - 9) d (p + 1)).1 = 1000
        · rw [if_pos (Or.inr z)] at h; exact absurd z h
        · rw [ih _ _ _ z]
          by_cases w : (g (md - 9) d (p + 1)).1 < 0 ∨ (g (md - 9) d (p + 1)).1 = 1000
          · rw [if_pos w, if_pos w]
          · rw [if_neg w] at h ⊢; rw [if_neg w]
            by_cases y : md = 12
            · rw [if_pos y, if_pos y]
            · rw [if_neg y] at h ⊢; rw [if_neg y]
              by_cases z2 : (g md d (g (md - 9) d (p + 1)).1).1 = 1000
              · rw [if_pos (Or.inr z2)] at h; exact absurd z2 h
              · rw [ih _ _ _ z2]
      · rw [if_neg c7, if_neg c7]
theorem jP_mono {f : Nat → Int32} {n : Int} : ∀ (k : Nat) (md d p : Int), (jP f n k md d p).1 ≠ 1000 → jP f n (k + 1) md d p = jP f n k md d p
  | 0, _, _, _, h => absurd rfl h
  | k + 1, md, d, p, h => jPs_mono (jP_mono k) md d p h
theorem jP_s {f : Nat → Int32} {n : Int} {k : Nat} {md d p : Int} : jP f n (k + 1) md d p = jPs f n (jP f n k) md d p := rfl
theorem jP_le {f : Nat → Int32} {n : Int} {k m : Nat} {md d p : Int} (h : (jP f n k md d p).1 ≠ 1000) (e : k ≤ m) : jP f n m md d p = jP f n k md d p := by
  induction m with
  | zero => have : k = 0 := by omega
            subst this; rfl
  | succ m ih =>
    by_cases q : k = m + 1
    · subst q; rfl
    · have w := ih (by omega)
      rw [jP_mono m md d p (by rw [w]; exact h), w]
def jPr (f : Nat → Int32) (n md d p r : Int) (c : List Int32) : Prop := ∃ k : Nat, jP f n k md d p = (r, c) ∧ r ≠ 1000
theorem jPr.det {f : Nat → Int32} {n md d p r r' : Int} {c c' : List Int32} (a : jPr f n md d p r c) (b : jPr f n md d p r' c') : r = r' ∧ c = c' := by
  obtain ⟨k, a1, a2⟩ := a
  obtain ⟨m, b1, b2⟩ := b
  have e : (r, c) = (r', c') := by
    rcases Nat.le_total k m with h | h
    · rw [← a1, ← b1, jP_le (by rw [a1]; exact a2) h]
    · rw [← a1, ← b1, jP_le (by rw [b1]; exact b2) h]
  exact ⟨congrArg Prod.fst e, congrArg Prod.snd e⟩
/-- two at one fuel -/
theorem jPr.two {f : Nat → Int32} {n md d p r md' d' p' r' : Int} {c c' : List Int32} (a : jPr f n md d p r c) (b : jPr f n md' d' p' r' c') : ∃ k : Nat, jP f n k md d p = (r, c) ∧ jP f n k md' d' p' = (r', c') ∧ r ≠ 1000 ∧ r' ≠ 1000 := by
  obtain ⟨k, a1, a2⟩ := a
  obtain ⟨m, b1, b2⟩ := b
  exact ⟨k + m, by rw [jP_le (by rw [a1]; exact a2) (by omega), a1], by rw [jP_le (by rw [b1]; exact b2) (by omega), b1], a2, b2⟩
/-- a part: what binds closer, then the loop of its own level -/
theorem jPr.part {f : Nat → Int32} {n md d p q r : Int} {c c' : List Int32} (h : md < 5) (a : jPr f n (md + 1) d p q c) (q0 : 0 ≤ q) (b : jPr f n (md + 10) d q r c') : ∃ c2, jPr f n md d p r c2 ∧ (0 ≤ r → c2 = c ++ c') := by
  obtain ⟨k, a1, b1, a2, b2⟩ := a.two b
  by_cases w : r < 0
  · exact ⟨[], ⟨k + 1, by rw [jP_s, jPs, if_neg (by omega), if_pos h, a1, if_neg (by dsimp only; omega)]; dsimp only; rw [b1, if_pos (Or.inl w)], b2⟩, fun z => absurd z (by omega)⟩
  · exact ⟨c ++ c', ⟨k + 1, by rw [jP_s, jPs, if_neg (by omega), if_pos h, a1, if_neg (by dsimp only; omega)]; dsimp only; rw [b1, if_neg (by dsimp only; omega)], b2⟩, fun _ => rfl⟩
theorem jPr.part_f {f : Nat → Int32} {n md d p q : Int} {c : List Int32} (h : md < 5) (a : jPr f n (md + 1) d p q c) (q0 : q < 0) : jPr f n md d p q [] := by
  obtain ⟨k, a1, a2⟩ := a
  exact ⟨k + 1, by rw [jP_s, jPs, if_neg (by omega), if_pos h, a1, if_pos (Or.inl q0)], a2⟩
theorem jPr.stop {f : Nat → Int32} {n lv d p : Int} (h0 : 0 ≤ lv) (hp : p ≠ 1000) (h : jLv (jYs f n p) ≠ lv) : jPr f n (lv + 10) d p p [] :=
  ⟨1, by rw [jP_s, jPs, if_neg (by omega), if_neg (by omega), if_neg (by rw [show lv + 10 - 10 = lv by omega]; exact h)], hp⟩
theorem jPr.more {f : Nat → Int32} {n lv d p q r : Int} {c c' : List Int32} (h0 : 0 ≤ lv) (h : jLv (jYs f n p) = lv) (a : jPr f n (lv + 1) d (p + 1) q c) (q0 : 0 ≤ q) (n2 : lv ≠ 2) (b : jPr f n (lv + 10) d q r c') : ∃ c2, jPr f n (lv + 10) d p r c2 ∧ (0 ≤ r → c2 = c ++ jwd (20000 + jYs f n p) :: c') := by
  obtain ⟨k, a1, b1, a2, b2⟩ := a.two b
  by_cases w : r < 0
  · exact ⟨[], ⟨k + 1, by rw [jP_s, jPs, if_neg (by omega), if_neg (by omega), if_pos (by rw [h]; omega), show lv + 10 - 9 = lv + 1 by omega, a1, if_neg (by dsimp only; omega), if_neg (by omega)]; dsimp only; rw [b1, if_pos (Or.inl w)], b2⟩, fun z => absurd z (by omega)⟩
  · exact ⟨_, ⟨k + 1, by rw [jP_s, jPs, if_neg (by omega), if_neg (by omega), if_pos (by rw [h]; omega), show lv + 10 - 9 = lv + 1 by omega, a1, if_neg (by dsimp only; omega), if_neg (by omega)]; dsimp only; rw [b1, if_neg (by dsimp only; omega)], b2⟩, fun _ => rfl⟩
theorem jPr.once {f : Nat → Int32} {n d p q : Int} {c : List Int32} (h : jLv (jYs f n p) = 2) (a : jPr f n 3 d (p + 1) q c) (q0 : 0 ≤ q) : jPr f n 12 d p q (c ++ [jwd (20000 + jYs f n p)]) := by
  obtain ⟨k, a1, a2⟩ := a
  exact ⟨k + 1, by rw [jP_s, jPs, if_neg (by omega), if_neg (by omega), if_pos (by rw [h]; omega), show (12 : Int) - 9 = 3 by omega, a1, if_neg (by dsimp only; omega), if_pos rfl], a2⟩
theorem jPr.more_f {f : Nat → Int32} {n lv d p q : Int} {c : List Int32} (h0 : 0 ≤ lv) (h : jLv (jYs f n p) = lv) (a : jPr f n (lv + 1) d (p + 1) q c) (q0 : q < 0) : jPr f n (lv + 10) d p q [] := by
  obtain ⟨k, a1, a2⟩ := a
  exact ⟨k + 1, by rw [jP_s, jPs, if_neg (by omega), if_neg (by omega), if_pos (by rw [h]; omega), show lv + 10 - 9 = lv + 1 by omega, a1, if_pos (Or.inl q0)], a2⟩
theorem jPr.name {f : Nat → Int32} {n d p : Int} (hp : p + 1 ≠ 1000) (h1 : ¬ (48 ≤ jYs f n p ∧ jYs f n p ≤ 57)) (h2 : 0 ≤ jNm (jYs f n p)) : jPr f n 5 d p (p + 1) [jwd (10000 + jNm (jYs f n p))] :=
  ⟨1, by rw [jP_s, jPs, if_pos rfl, if_neg h1, if_pos h2], hp⟩
theorem jPr.num {f : Nat → Int32} {n d p : Int} (hq : p + jNq f n p ≠ 1000) (h1 : 48 ≤ jYs f n p ∧ jYs f n p ≤ 57) : jPr f n 5 d p (p + jNq f n p) [jwd (jNv f n p)] :=
  ⟨1, by rw [jP_s, jPs, if_pos rfl, if_pos h1], hq⟩
theorem jNm_n {c : Int} (h : c = 33 ∨ c = 45 ∨ c = 40) : ¬ 0 ≤ jNm c := by
  rcases h with h | h | h <;> rw [h] <;> decide
theorem jPr.sgn {f : Nat → Int32} {n d p q : Int} {c : List Int32} (h : jYs f n p = 33 ∨ jYs f n p = 45) (hd : d < 6) (a : jPr f n 5 (d + 1) (p + 1) q c) : ∃ c2, jPr f n 5 d p q c2 ∧ (0 ≤ q → c2 = c ++ [jwd (if jYs f n p = 33 then 20033 else 20126)]) := by
  obtain ⟨k, a1, a2⟩ := a
  have e : ¬ 0 ≤ jNm (jYs f n p) := jNm_n (by omega)
  by_cases w : q < 0
  · exact ⟨[], ⟨k + 1, by rw [jP_s, jPs, if_pos rfl, if_neg (by omega), if_neg e, if_pos ⟨hd, h⟩, a1, if_pos (Or.inl w)], a2⟩, fun z => absurd z (by omega)⟩
  · exact ⟨_, ⟨k + 1, by rw [jP_s, jPs, if_pos rfl, if_neg (by omega), if_neg e, if_pos ⟨hd, h⟩, a1, if_neg (by dsimp only; omega)], a2⟩, fun _ => rfl⟩
theorem jPr.par {f : Nat → Int32} {n d p q r : Int} {c : List Int32} (h : jYs f n p = 40) (hd : d < 6) (a : jPr f n 0 (d + 1) (p + 1) q c) (hr : (q < 0 ∧ r = q) ∨ (0 ≤ q ∧ jYs f n q = 41 ∧ r = q + 1 ∧ r ≠ 1000) ∨ (0 ≤ q ∧ jYs f n q ≠ 41 ∧ r = -1 - q)) : ∃ c2, jPr f n 5 d p r c2 ∧ (0 ≤ r → c2 = c) := by
  obtain ⟨k, a1, a2⟩ := a
  have e : ¬ 0 ≤ jNm (jYs f n p) := jNm_n (by omega)
  rcases hr with ⟨r1, r2⟩ | ⟨r1, r2, r3, r4⟩ | ⟨r1, r2, r3⟩
  · exact ⟨[], ⟨k + 1, by rw [jP_s, jPs, if_pos rfl, if_neg (by omega), if_neg e, if_neg (by omega), if_pos ⟨hd, h⟩, a1, if_pos (Or.inl r1), r2], by omega⟩, fun z => absurd z (by omega)⟩
  · exact ⟨c, ⟨k + 1, by rw [jP_s, jPs, if_pos rfl, if_neg (by omega), if_neg e, if_neg (by omega), if_pos ⟨hd, h⟩, a1, if_neg (by dsimp only; omega), if_pos r2, r3], r4⟩, fun _ => rfl⟩
  · exact ⟨[], ⟨k + 1, by rw [jP_s, jPs, if_pos rfl, if_neg (by omega), if_neg e, if_neg (by omega), if_pos ⟨hd, h⟩, a1, if_neg (by dsimp only; omega), if_neg r2, r3], by omega⟩, fun z => absurd z (by omega)⟩
theorem jPr.bad {f : Nat → Int32} {n d p : Int} (hp : 0 ≤ p) (h1 : ¬ (48 ≤ jYs f n p ∧ jYs f n p ≤ 57)) (h2 : ¬ 0 ≤ jNm (jYs f n p)) (h3 : ¬ (d < 6 ∧ (jYs f n p = 33 ∨ jYs f n p = 45))) (h4 : ¬ (d < 6 ∧ jYs f n p = 40)) : jPr f n 5 d p (-1 - p) [] :=
  ⟨1, by rw [jP_s, jPs, if_pos rfl, if_neg h1, if_neg h2, if_neg h3, if_neg h4], by omega⟩
/-! words behind words -/
def jApp (g : Nat → Int32) (l : Nat) : List Int32 → (Nat → Int32)
  | [] => g
  | w :: c => jApp (jupd g l w) (l + 1) c
theorem jApp_app (g : Nat → Int32) (l : Nat) (c d : List Int32) : jApp g l (c ++ d) = jApp (jApp g l c) (l + c.length) d := by
  induction c generalizing g l with
  | nil => rfl
  | cons w c ih => show jApp (jupd g l w) (l + 1) (c ++ d) = _; rw [ih]; show _ = jApp (jApp (jupd g l w) (l + 1) c) (l + (c.length + 1)) d; congr 1; omega
theorem jApp_b (g : Nat → Int32) (l : Nat) (c : List Int32) : ∀ k : Nat, k < l → jApp g l c k = g k := by
  induction c generalizing g l with
  | nil => exact fun _ _ => rfl
  | cons w c ih => intro k hk; show jApp (jupd g l w) (l + 1) c k = g k; rw [ih _ _ k (by omega)]; unfold jupd; rw [if_neg (by omega)]
theorem jupd_c {g : Nat → Int32} {a b : Nat} {x y : Int32} (h : a ≠ b) : jupd (jupd g a x) b y = jupd (jupd g b y) a x := by
  funext k; unfold jupd; by_cases e : k = b
  · rw [if_pos e, if_neg (by omega), if_pos e]
  · rw [if_neg e]; by_cases e2 : k = a
    · rw [if_pos e2, if_pos e2]
    · rw [if_neg e2, if_neg e2, if_neg e]
theorem jupd_2 {g : Nat → Int32} {a : Nat} {x y : Int32} : jupd (jupd g a x) a y = jupd g a y := by
  funext k; unfold jupd; by_cases e : k = a
  · rw [if_pos e, if_pos e]
  · rw [if_neg e, if_neg e, if_neg e]
theorem jApp_u {g : Nat → Int32} {l a : Nat} {c : List Int32} {y : Int32} (h : a < l) : jupd (jApp g l c) a y = jApp (jupd g a y) l c := by
  induction c generalizing g l with
  | nil => rfl
  | cons w c ih => show jupd (jApp (jupd g l w) (l + 1) c) a y = jApp (jupd (jupd g a y) l w) (l + 1) c; rw [ih (by omega), jupd_c (by omega)]
theorem jApp_put {g : Nat → Int32} {l : Nat} {a b : List Int32} {x y : Int32} {q : Nat} (h : q = l + a.length) : jupd (jApp g l (a ++ x :: b)) q y = jApp g l (a ++ y :: b) := by
  subst h
  rw [jApp_app, jApp_app]
  show jupd (jApp (jupd (jApp g l a) (l + a.length) x) (l + a.length + 1) b) (l + a.length) y = jApp (jupd (jApp g l a) (l + a.length) y) (l + a.length + 1) b
  rw [jApp_u (by omega), jupd_2]
/-! the class: what a part does -/
def jEn (a x r : Int) : Prop := (x = -1 ∧ r = a ∧ 0 ≤ a ∧ a ≤ 80) ∨ (0 ≤ x ∧ r = -1 - x)
theorem jEn.ne {a x r : Int} (h : jEn a x r) : r ≠ 1000 := by unfold jEn at h; omega
def jCp (f : Nat → Int32) (n md d p a x : Int) (g g' : Nat → Int32) (l l' : Int) : Prop := ∃ (r : Int) (c : List Int32), jPr f n md d p r c ∧ jEn a x r ∧ (0 ≤ r → g' = jApp g l.toNat c ∧ l' = l + (c.length : Int))
def jCi (f : Nat → Int32) (n md d p a x : Int) (g g' : Nat → Int32) (l l' : Int) : Prop :=
  (x = -1 ∧ 0 ≤ a ∧ a ≤ 80 ∧ ∀ (r : Int) (c' : List Int32), jPr f n (md + 10) d a r c' → ∃ c, jPr f n md d p r c ∧ (0 ≤ r → ∃ c0 : List Int32, c = c0 ++ c' ∧ g' = jApp g l.toNat c0 ∧ l' = l + (c0.length : Int))) ∨
  (0 ≤ x ∧ ∃ c, jPr f n md d p (-1 - x) c)
theorem jCp.begin {f : Nat → Int32} {n md md1 d p a x l l' : Int} {g g' : Nat → Int32} (h : jCp f n md1 d p a x g g' l l') (h5 : md < 5) (e : md1 = md + 1) : jCi f n md d p a x g g' l l' := by
  subst e
  obtain ⟨r, c, h1, h2, h3⟩ := h
  rcases h2 with ⟨x1, x2, x3, x4⟩ | ⟨x1, x2⟩
  · subst x2
    refine Or.inl ⟨x1, x3, x4, fun r' c' b => ?_⟩
    obtain ⟨c2, y1, y2⟩ := h1.part h5 x3 b
    exact ⟨c2, y1, fun z => ⟨c, y2 z, h3 x3⟩⟩
  · exact Or.inr ⟨x1, _, by rw [← x2]; exact h1.part_f h5 (by omega)⟩
theorem jCi.fin {f : Nat → Int32} {n md d p a x l l' : Int} {g g' : Nat → Int32} (h : jCi f n md d p a x g g' l l') (h0 : 0 ≤ md) (hl : x = -1 → jLv (jYs f n a) ≠ md) : jCp f n md d p a x g g' l l' := by
  rcases h with ⟨x1, x3, x4, h⟩ | ⟨x1, c, h⟩
  · obtain ⟨c, y1, y2⟩ := h a [] (jPr.stop h0 (by omega) (hl x1))
    refine ⟨a, c, y1, Or.inl ⟨x1, rfl, x3, x4⟩, fun z => ?_⟩
    obtain ⟨c0, z1, z2, z3⟩ := y2 z
    rw [List.append_nil] at z1; subst z1; exact ⟨z2, z3⟩
  · exact ⟨_, c, h, Or.inr ⟨x1, rfl⟩, fun z => absurd z (by omega)⟩
theorem jCi.step {f : Nat → Int32} {n md md1 d p a x a1 a2 x2 l l1 l2 l3 : Int} {g g1 g2 g3 : Nat → Int32} {w : Int32} (h : jCi f n md d p a x g g1 l l1) (hx : x = -1) (h0 : 0 ≤ md) (h2 : md ≠ 2) (hs : jLv (jYs f n a) = md) (b : jCp f n md1 d a1 a2 x2 g1 g2 l1 l2) (e1 : md1 = md + 1) (ea : a1 = a + 1) (eg : g3 = jupd g2 l2.toNat w) (ew : w = jwd (20000 + jYs f n a)) (el : l3 = l2 + 1) (hl : 0 ≤ l) : jCi f n md d p a2 x2 g g3 l l3 := by
  subst e1 ea ew
  rcases h with ⟨x1, x3, x4, h⟩ | ⟨x1, _⟩
  · obtain ⟨r, c, b1, b2, b3⟩ := b
    rcases b2 with ⟨y1, y2, y3, y4⟩ | ⟨y1, y2⟩
    · subst y2
      refine Or.inl ⟨y1, y3, y4, fun r' c' b' => ?_⟩
      obtain ⟨c2, z1, z2⟩ := jPr.more h0 hs b1 y3 h2 b'
      obtain ⟨c3, w1, w2⟩ := h r' c2 z1
      refine ⟨c3, w1, fun q => ?_⟩
      obtain ⟨c0, u1, u2, u3⟩ := w2 q
      obtain ⟨v1, v2⟩ := b3 y3
      refine ⟨c0 ++ (c ++ [jwd (20000 + jYs f n a)]), by rw [u1, z2 q]; simp, ?_, ?_⟩
      · rw [jApp_app, jApp_app, ← u2, show l.toNat + c0.length = l1.toNat by omega, ← v1, eg]
        show _ = jupd g2 (l1.toNat + c.length) _
        rw [show l1.toNat + c.length = l2.toNat by omega]
      · simp only [List.length_append, List.length_cons, List.length_nil]; omega
    · refine Or.inr ⟨y1, ?_⟩
      obtain ⟨c3, w1, w2⟩ := h _ _ (jPr.more_f h0 hs b1 (by omega))
      exact ⟨c3, by rw [← y2]; exact w1⟩
  · omega
theorem jCi.once {f : Nat → Int32} {n md md1 d p a x a1 a2 x2 l l1 l2 l3 : Int} {g g1 g2 g3 : Nat → Int32} {w : Int32} (h : jCi f n md d p a x g g1 l l1) (hx : x = -1) (h2 : md = 2) (hs : jLv (jYs f n a) = md) (b : jCp f n md1 d a1 a2 x2 g1 g2 l1 l2) (e1 : md1 = md + 1) (ea : a1 = a + 1) (eg : g3 = jupd g2 l2.toNat w) (ew : w = jwd (20000 + jYs f n a)) (el : l3 = l2 + 1) (hl : 0 ≤ l) : jCp f n md d p a2 x2 g g3 l l3 := by
  subst e1 ea ew
  subst h2
  rcases h with ⟨x1, x3, x4, h⟩ | ⟨x1, _⟩
  · obtain ⟨r, c, b1, b2, b3⟩ := b
    rcases b2 with ⟨y1, y2, y3, y4⟩ | ⟨y1, y2⟩
    · subst y2
      obtain ⟨c3, w1, w2⟩ := h r _ (jPr.once hs b1 y3)
      refine ⟨r, c3, w1, Or.inl ⟨y1, rfl, y3, y4⟩, fun q => ?_⟩
      obtain ⟨c0, u1, u2, u3⟩ := w2 q
      obtain ⟨v1, v2⟩ := b3 y3
      subst u1
      refine ⟨?_, ?_⟩
      · rw [jApp_app, jApp_app, ← u2, show l.toNat + c0.length = l1.toNat by omega, ← v1, eg]
        show _ = jupd g2 (l1.toNat + c.length) _
        rw [show l1.toNat + c.length = l2.toNat by omega]
      · simp only [List.length_append, List.length_cons, List.length_nil]; omega
    · obtain ⟨c3, w1, w2⟩ := h r [] (by have q := jPr.more_f (lv := 2) (by decide) hs b1 (by omega); exact q)
      exact ⟨r, c3, w1, Or.inr ⟨y1, y2⟩, fun q => absurd q (by omega)⟩
  · omega
/-- operands -/
theorem jCp.num {f : Nat → Int32} {n d p a x l l' : Int} {g g' : Nat → Int32} {w : Int32} (h1 : 48 ≤ jYs f n p ∧ jYs f n p ≤ 57) (ha : a = p + jNq f n p) (hx : x = -1) (h0 : 0 ≤ a) (h8 : a ≤ 80) (eg : g' = jupd g l.toNat w) (ew : w.toInt = jNv f n p) (el : l' = l + 1) : jCp f n 5 d p a x g g' l l' :=
  ⟨a, _, by rw [ha]; exact jPr.num (by omega) h1, Or.inl ⟨hx, rfl, h0, h8⟩, fun _ => ⟨by rw [eg, jwd_of ew (jNv_r h1).1 (by have := (jNv_r h1).2; omega)]; rfl, by simp only [List.length_cons, List.length_nil]; omega⟩⟩
theorem jCp.name {f : Nat → Int32} {n d p a x l l' : Int} {g g' : Nat → Int32} {w : Int32} (h1 : ¬ (48 ≤ jYs f n p ∧ jYs f n p ≤ 57)) (h2 : 0 ≤ jNm (jYs f n p)) (ha : a = p + 1) (hx : x = -1) (h0 : 0 ≤ a) (h8 : a ≤ 80) (eg : g' = jupd g l.toNat w) (ew : w.toInt = 10000 + jNm (jYs f n p)) (el : l' = l + 1) : jCp f n 5 d p a x g g' l l' :=
  ⟨a, _, by rw [ha]; exact jPr.name (by omega) h1 h2, Or.inl ⟨hx, rfl, h0, h8⟩, fun _ => ⟨by rw [eg, jwd_of ew (by omega) (by unfold jNm; (repeat' split) <;> omega)]; rfl, by simp only [List.length_cons, List.length_nil]; omega⟩⟩
theorem jCp.sgn {f : Nat → Int32} {n d p a x a1 d1 l l1 l2 : Int} {g g1 g2 : Nat → Int32} {w : Int32} (h : jYs f n p = 33 ∨ jYs f n p = 45) (hd : d < 6) (b : jCp f n 5 d1 a1 a x g g1 l l1) (ed : d1 = d + 1) (ea : a1 = p + 1) (eg : g2 = jupd g1 l1.toNat w) (ew : w.toInt = if jYs f n p = 33 then 20033 else 20126) (el : l2 = l1 + 1) (hl : 0 ≤ l) : jCp f n 5 d p a x g g2 l l2 := by
  subst ed ea
  obtain ⟨r, c, b1, b2, b3⟩ := b
  obtain ⟨c2, y1, y2⟩ := b1.sgn h hd
  refine ⟨r, c2, y1, b2, fun z => ?_⟩
  obtain ⟨v1, v2⟩ := b3 z
  rw [y2 z]
  refine ⟨?_, ?_⟩
  · rw [jApp_app, ← v1, eg, show l.toNat + c.length = l1.toNat by omega, jwd_of ew (by split <;> omega) (by split <;> omega)]; rfl
  · simp only [List.length_append, List.length_cons, List.length_nil]; omega
theorem jCp.par {f : Nat → Int32} {n d d1 p a1 a2 a x2 x l l' : Int} {g g' : Nat → Int32} (h : jYs f n p = 40) (hd : d < 6) (b : jCp f n 0 d1 a1 a2 x2 g g' l l') (ed : d1 = d + 1) (ea : a1 = p + 1) (hr : (0 ≤ x2 ∧ x = x2) ∨ (x2 = -1 ∧ jYs f n a2 = 41 ∧ x = -1 ∧ a = a2 + 1 ∧ a ≤ 80) ∨ (x2 = -1 ∧ jYs f n a2 ≠ 41 ∧ x = a2)) : jCp f n 5 d p a x g g' l l' := by
  subst ed ea
  obtain ⟨r, c, b1, b2, b3⟩ := b
  rcases b2 with ⟨y1, y2, y3, y4⟩ | ⟨y1, y2⟩
  · subst y2
    rcases hr with ⟨r1, r2⟩ | ⟨r1, r2, r3, r4, r5⟩ | ⟨r1, r2, r3⟩
    · omega
    · obtain ⟨c2, z1, z2⟩ := jPr.par (r := r + 1) h hd b1 (Or.inr (Or.inl ⟨y3, r2, rfl, by omega⟩))
      exact ⟨_, c2, z1, Or.inl ⟨r3, by omega, by omega, r5⟩, fun q => by rw [z2 q]; exact b3 y3⟩
    · obtain ⟨c2, z1, z2⟩ := jPr.par (r := -1 - r) h hd b1 (Or.inr (Or.inr ⟨y3, r2, rfl⟩))
      exact ⟨_, c2, z1, Or.inr ⟨by omega, by omega⟩, fun q => absurd q (by omega)⟩
  · obtain ⟨c2, z1, z2⟩ := jPr.par (r := r) h hd b1 (Or.inl ⟨by omega, rfl⟩)
    exact ⟨_, c2, z1, Or.inr ⟨by omega, by omega⟩, fun q => absurd q (by omega)⟩
theorem jCp.bad {f : Nat → Int32} {n d p a x l l' : Int} {g g' : Nat → Int32} (hp : 0 ≤ p) (h1 : ¬ (48 ≤ jYs f n p ∧ jYs f n p ≤ 57)) (h2 : ¬ 0 ≤ jNm (jYs f n p)) (h3 : ¬ (d < 6 ∧ (jYs f n p = 33 ∨ jYs f n p = 45))) (h4 : ¬ (d < 6 ∧ jYs f n p = 40)) (hx : x = p) : jCp f n 5 d p a x g g' l l' :=
  ⟨_, _, jPr.bad hp h1 h2 h3 h4, Or.inr ⟨by omega, by omega⟩, fun z => absurd z (by omega)⟩
/-! what words give -/
def jUn (w : Int) (x : Int32) : Int32 := if w = 20033 then (if x = 0 then 1 else 0) else -x
def jBi (w : Int) (x y : Int32) : Int32 :=
  if w = 124 then (if x ≠ 0 ∨ y ≠ 0 then 1 else 0) else if w = 38 then (if x ≠ 0 ∧ y ≠ 0 then 1 else 0) else if w = 60 then (if x < y then 1 else 0) else if w = 61 then (if x = y then 1 else 0) else if w = 62 then (if y < x then 1 else 0) else if w = 43 then x + y else if w = 45 then x - y else if w = 42 then x * y else if w = 47 then (if y = 0 then 0 else x / y) else if w = 37 then (if y = 0 then 0 else x - x / y * y) else 0
def jWo1 (w : Int) : List Int32 → List Int32
  | [] => []
  | x :: t => jUn w x :: t
def jWo2 (w : Int) : List Int32 → List Int32
  | y :: x :: t => jBi w x y :: t
  | s => s
def jWo (nm : Nat → Int32) (w : Int32) (s : List Int32) : List Int32 :=
  if w.toInt < 10000 then w :: s
  else if w.toInt < 20000 then nm (w.toInt - 10000).toNat :: s
  else if w.toInt = 20033 ∨ w.toInt = 20126 then jWo1 w.toInt s
  else jWo2 (w.toInt - 20000) s
def jRun (nm : Nat → Int32) : List Int32 → List Int32 → List Int32
  | [], s => s
  | w :: c, s => jRun nm c (jWo nm w s)
theorem jRun_app {nm : Nat → Int32} {c d s : List Int32} : jRun nm (c ++ d) s = jRun nm d (jRun nm c s) := by
  induction c generalizing s with
  | nil => rfl
  | cons w c ih => exact ih
def jGv (nm : Nat → Int32) (c : List Int32) (v : Int32) : Prop := ∀ s : List Int32, jRun nm c s = v :: s
theorem jLv_s {c md : Int} (h : jLv c = md) (h5 : md < 5) : c = 124 ∨ c = 38 ∨ c = 60 ∨ c = 61 ∨ c = 62 ∨ c = 43 ∨ c = 45 ∨ c = 42 ∨ c = 47 ∨ c = 37 := by
  unfold jLv at h; (repeat' split at h) <;> omega
theorem jWo_bi {nm : Nat → Int32} {c md : Int} {x y : Int32} {t : List Int32} (h : jLv c = md) (h5 : md < 5) : jWo nm (jwd (20000 + c)) (y :: x :: t) = jBi c x y :: t := by
  have hs := jLv_s h h5
  have e : (jwd (20000 + c)).toInt = 20000 + c := jwd_t (by omega) (by omega)
  unfold jWo
  rw [e, if_neg (by omega), if_neg (by omega), if_neg (by omega), show 20000 + c - 20000 = c by omega]; rfl
theorem jGv.bi {nm : Nat → Int32} {c1 c2 : List Int32} {c md : Int} {x y v : Int32} (a : jGv nm c1 x) (b : jGv nm c2 y) (h : jLv c = md) (h5 : md < 5) (e : v = jBi c x y) : jGv nm (c1 ++ (c2 ++ [jwd (20000 + c)])) v := by
  intro s
  rw [jRun_app, jRun_app, a, b, e]
  show jWo nm _ _ = _
  exact jWo_bi h h5
/-! the reference: what a part gives -/
def jRp (f : Nat → Int32) (n : Int) (nm : Nat → Int32) (md d p a x : Int) (v : Int32) : Prop := ∃ (r : Int) (c : List Int32), jPr f n md d p r c ∧ jEn a x r ∧ (0 ≤ r → jGv nm c v)
def jRi (f : Nat → Int32) (n : Int) (nm : Nat → Int32) (md d p a x : Int) (v : Int32) : Prop :=
  (x = -1 ∧ 0 ≤ a ∧ a ≤ 80 ∧ ∃ c0 : List Int32, jGv nm c0 v ∧ ∀ (r : Int) (c' : List Int32), jPr f n (md + 10) d a r c' → ∃ c, jPr f n md d p r c ∧ (0 ≤ r → c = c0 ++ c')) ∨
  (0 ≤ x ∧ ∃ c, jPr f n md d p (-1 - x) c)
theorem jRp.begin {f nm : Nat → Int32} {n md md1 d p a x : Int} {v : Int32} (h : jRp f n nm md1 d p a x v) (h5 : md < 5) (e : md1 = md + 1) : jRi f n nm md d p a x v := by
  subst e
  obtain ⟨r, c, h1, h2, h3⟩ := h
  rcases h2 with ⟨x1, x2, x3, x4⟩ | ⟨x1, x2⟩
  · subst x2
    exact Or.inl ⟨x1, x3, x4, c, h3 x3, fun r' c' b => h1.part h5 x3 b⟩
  · exact Or.inr ⟨x1, _, by rw [← x2]; exact h1.part_f h5 (by omega)⟩
theorem jRi.fin {f nm : Nat → Int32} {n md d p a x : Int} {v : Int32} (h : jRi f n nm md d p a x v) (h0 : 0 ≤ md) (hl : x = -1 → jLv (jYs f n a) ≠ md) : jRp f n nm md d p a x v := by
  rcases h with ⟨x1, x3, x4, c0, g, h⟩ | ⟨x1, c, h⟩
  · obtain ⟨c, y1, y2⟩ := h a [] (jPr.stop h0 (by omega) (hl x1))
    refine ⟨a, c, y1, Or.inl ⟨x1, rfl, x3, x4⟩, fun z => ?_⟩
    rw [y2 z, List.append_nil]; exact g
  · exact ⟨_, c, h, Or.inr ⟨x1, rfl⟩, fun z => absurd z (by omega)⟩
theorem jRi.step {f nm : Nat → Int32} {n md md1 d p a x a1 a2 x2 : Int} {v v2 v3 : Int32} (h : jRi f n nm md d p a x v) (hx : x = -1) (h0 : 0 ≤ md) (h5 : md < 5) (h2 : md ≠ 2) (hs : jLv (jYs f n a) = md) (b : jRp f n nm md1 d a1 a2 x2 v2) (e1 : md1 = md + 1) (ea : a1 = a + 1) (ev : v3 = jBi (jYs f n a) v v2) : jRi f n nm md d p a2 x2 v3 := by
  subst e1 ea
  rcases h with ⟨x1, x3, x4, c0, g, h⟩ | ⟨x1, _⟩
  · obtain ⟨r, c, b1, b2, b3⟩ := b
    rcases b2 with ⟨y1, y2, y3, y4⟩ | ⟨y1, y2⟩
    · subst y2
      refine Or.inl ⟨y1, y3, y4, c0 ++ (c ++ [jwd (20000 + jYs f n a)]), g.bi (b3 y3) hs h5 ev, fun r' c' b' => ?_⟩
      obtain ⟨c2, z1, z2⟩ := jPr.more h0 hs b1 y3 h2 b'
      obtain ⟨c3, w1, w2⟩ := h r' c2 z1
      exact ⟨c3, w1, fun q => by rw [w2 q, z2 q]; simp⟩
    · refine Or.inr ⟨y1, ?_⟩
      obtain ⟨c3, w1, w2⟩ := h _ _ (jPr.more_f h0 hs b1 (by omega))
      exact ⟨c3, by rw [← y2]; exact w1⟩
  · omega
theorem jRi.once {f nm : Nat → Int32} {n md md1 d p a x a1 a2 x2 : Int} {v v2 v3 : Int32} (h : jRi f n nm md d p a x v) (hx : x = -1) (h2 : md = 2) (hs : jLv (jYs f n a) = md) (b : jRp f n nm md1 d a1 a2 x2 v2) (e1 : md1 = md + 1) (ea : a1 = a + 1) (ev : v3 = jBi (jYs f n a) v v2) : jRp f n nm md d p a2 x2 v3 := by
  subst e1 ea
  subst h2
  rcases h with ⟨x1, x3, x4, c0, g, h⟩ | ⟨x1, _⟩
  · obtain ⟨r, c, b1, b2, b3⟩ := b
    rcases b2 with ⟨y1, y2, y3, y4⟩ | ⟨y1, y2⟩
    · subst y2
      obtain ⟨c3, w1, w2⟩ := h r _ (jPr.once hs b1 y3)
      exact ⟨r, c3, w1, Or.inl ⟨y1, rfl, y3, y4⟩, fun q => by rw [w2 q]; exact g.bi (b3 y3) hs (by decide) ev⟩
    · obtain ⟨c3, w1, w2⟩ := h r [] (by have q := jPr.more_f (lv := 2) (by decide) hs b1 (by omega); exact q)
      exact ⟨r, c3, w1, Or.inr ⟨y1, y2⟩, fun q => absurd q (by omega)⟩
  · omega
theorem jRp.num {f nm : Nat → Int32} {n d p a x : Int} {v : Int32} (h1 : 48 ≤ jYs f n p ∧ jYs f n p ≤ 57) (ha : a = p + jNq f n p) (hx : x = -1) (h0 : 0 ≤ a) (h8 : a ≤ 80) (ev : v.toInt = jNv f n p) : jRp f n nm 5 d p a x v := by
  refine ⟨a, _, by rw [ha]; exact jPr.num (by omega) h1, Or.inl ⟨hx, rfl, h0, h8⟩, fun _ s => ?_⟩
  have hr := jNv_r h1
  show jWo nm _ _ = _
  unfold jWo
  rw [jwd_t hr.1 (by omega), if_pos (by omega), jwd_of ev hr.1 (by omega)]
theorem jRp.name {f nm : Nat → Int32} {n d p a x : Int} {v : Int32} (h1 : ¬ (48 ≤ jYs f n p ∧ jYs f n p ≤ 57)) (h2 : 0 ≤ jNm (jYs f n p)) (ha : a = p + 1) (hx : x = -1) (h0 : 0 ≤ a) (h8 : a ≤ 80) (ev : v = nm (jNm (jYs f n p)).toNat) : jRp f n nm 5 d p a x v := by
  refine ⟨a, _, by rw [ha]; exact jPr.name (by omega) h1 h2, Or.inl ⟨hx, rfl, h0, h8⟩, fun _ s => ?_⟩
  have hr : jNm (jYs f n p) ≤ 7 := by unfold jNm; (repeat' split) <;> omega
  show jWo nm _ _ = _
  unfold jWo
  rw [jwd_t (by omega) (by omega), if_neg (by omega), if_pos (by omega), ev, show 10000 + jNm (jYs f n p) - 10000 = jNm (jYs f n p) by omega]
theorem jRp.sgn {f nm : Nat → Int32} {n d p a x a1 d1 : Int} {v v1 : Int32} (h : jYs f n p = 33 ∨ jYs f n p = 45) (hd : d < 6) (b : jRp f n nm 5 d1 a1 a x v1) (ed : d1 = d + 1) (ea : a1 = p + 1) (ev : v = if jYs f n p = 33 then (if v1 = 0 then 1 else 0) else -v1) : jRp f n nm 5 d p a x v := by
  subst ed ea
  obtain ⟨r, c, b1, b2, b3⟩ := b
  obtain ⟨c2, y1, y2⟩ := b1.sgn h hd
  refine ⟨r, c2, y1, b2, fun z s => ?_⟩
  rw [y2 z, jRun_app, b3 z]
  have e : (jwd (if jYs f n p = 33 then 20033 else 20126)).toInt = if jYs f n p = 33 then 20033 else 20126 := jwd_t (by split <;> omega) (by split <;> omega)
  show jWo nm _ _ = _
  unfold jWo
  rw [e, ev]
  by_cases w : jYs f n p = 33
  · rw [if_pos w, if_pos w]; rfl
  · rw [if_neg w, if_neg w]; rfl
theorem jRp.par {f nm : Nat → Int32} {n d d1 p a1 a2 a x2 x : Int} {v : Int32} (h : jYs f n p = 40) (hd : d < 6) (b : jRp f n nm 0 d1 a1 a2 x2 v) (ed : d1 = d + 1) (ea : a1 = p + 1) {v' : Int32} (hr : (0 ≤ x2 ∧ x = x2) ∨ (x2 = -1 ∧ jYs f n a2 = 41 ∧ x = -1 ∧ a = a2 + 1 ∧ a ≤ 80 ∧ v' = v) ∨ (x2 = -1 ∧ jYs f n a2 ≠ 41 ∧ x = a2)) : jRp f n nm 5 d p a x v' := by
  subst ed ea
  obtain ⟨r, c, b1, b2, b3⟩ := b
  rcases b2 with ⟨y1, y2, y3, y4⟩ | ⟨y1, y2⟩
  · subst y2
    rcases hr with ⟨r1, r2⟩ | ⟨r1, r2, r3, r4, r5, r6⟩ | ⟨r1, r2, r3⟩
    · omega
    · obtain ⟨c2, z1, z2⟩ := jPr.par (r := r + 1) h hd b1 (Or.inr (Or.inl ⟨y3, r2, rfl, by omega⟩))
      exact ⟨_, c2, z1, Or.inl ⟨r3, by omega, by omega, r5⟩, fun q => by rw [z2 q, r6]; exact b3 y3⟩
    · obtain ⟨c2, z1, z2⟩ := jPr.par (r := -1 - r) h hd b1 (Or.inr (Or.inr ⟨y3, r2, rfl⟩))
      exact ⟨_, c2, z1, Or.inr ⟨by omega, by omega⟩, fun q => absurd q (by omega)⟩
  · obtain ⟨c2, z1, z2⟩ := jPr.par (r := r) h hd b1 (Or.inl ⟨by omega, rfl⟩)
    exact ⟨_, c2, z1, Or.inr ⟨by omega, by omega⟩, fun q => absurd q (by omega)⟩
theorem jRp.bad {f nm : Nat → Int32} {n d p a x : Int} {v : Int32} (hp : 0 ≤ p) (h1 : ¬ (48 ≤ jYs f n p ∧ jYs f n p ≤ 57)) (h2 : ¬ 0 ≤ jNm (jYs f n p)) (h3 : ¬ (d < 6 ∧ (jYs f n p = 33 ∨ jYs f n p = 45))) (h4 : ¬ (d < 6 ∧ jYs f n p = 40)) (hx : x = p) : jRp f n nm 5 d p a x v :=
  ⟨_, _, jPr.bad hp h1 h2 h3 h4, Or.inr ⟨by omega, by omega⟩, fun z => absurd z (by omega)⟩
/-! what the reference reads: the tape, or a text of its own -/
def jVw (b : Int) (f g : Nat → Int32) : Nat → Int32 := fun k => if b < 0 then f k else g (b.toNat + k)
def jBy (f : Nat → Int32) (n p x : Int) : Prop := (p < n ∧ x = (f p.toNat).toInt) ∨ (n ≤ p ∧ x = 0)
theorem jBy.ys {f : Nat → Int32} {n p x : Int} (h : jBy f n p x) (h0 : 0 ≤ p) : (p < n ∧ jYs f n p = x) ∨ (n ≤ p ∧ jYs f n p = -1 ∧ x = 0) := by
  unfold jYs
  rcases h with ⟨h1, h2⟩ | ⟨h1, h2⟩
  · exact Or.inl ⟨h1, by rw [if_pos ⟨h0, h1⟩, h2]⟩
  · exact Or.inr ⟨h1, by rw [if_neg (by omega)], h2⟩
/-! lines -/
def jLr (f : Nat → Int32) (n p r : Int) (L : Option (List Int32) × List Int32) : Prop := ∃ (q : Int) (c : List Int32), jPr f n 0 0 p q c ∧ ((q < 0 ∧ r = q ∧ L = (none, [])) ∨ (0 ≤ q ∧ jYs f n q ≠ 63 ∧ r = q ∧ L = (none, c)) ∨ (0 ≤ q ∧ jYs f n q = 63 ∧ ∃ c2, jPr f n 0 0 (q + 1) r c2 ∧ L = (some c, c2)))
theorem jLr.det {f : Nat → Int32} {n p r r' : Int} {L L' : Option (List Int32) × List Int32} (a : jLr f n p r L) (b : jLr f n p r' L') : r = r' ∧ L = L' := by
  obtain ⟨q, c, a1, a2⟩ := a
  obtain ⟨q', c', b1, b2⟩ := b
  obtain ⟨e, e2⟩ := a1.det b1
  subst e e2
  rcases a2 with ⟨x1, x2, x3⟩ | ⟨x1, x2, x3, x4⟩ | ⟨x1, x2, c2, x3, x4⟩ <;> rcases b2 with ⟨y1, y2, y3⟩ | ⟨y1, y2, y3, y4⟩ | ⟨y1, y2, c3, y3, y4⟩
  · exact ⟨by omega, by rw [x3, y3]⟩
  · omega
  · omega
  · omega
  · exact ⟨by omega, by rw [x4, y4]⟩
  · exact absurd y2 x2
  · omega
  · exact absurd x2 y2
  · obtain ⟨e, e2⟩ := x3.det y3
    exact ⟨e, by rw [x4, y4, e2]⟩
/-- lines from a place on, behind a line -/
def jLk (f : Nat → Int32) (n : Int) : Nat → Int → Int → List (Option (List Int32) × List Int32) → Prop
  | 0, p, r, Ls => jYs f n p ≠ 59 ∧ r = (if p < n then -1 - p else p) ∧ Ls = []
  | k + 1, p, r, Ls => jYs f n p = 59 ∧ ∃ (q : Int) (L : Option (List Int32) × List Int32), jLr f n (p + 1) q L ∧ ((q < 0 ∧ r = q ∧ Ls = [L]) ∨ (0 ≤ q ∧ ∃ Ls', jLk f n k q r Ls' ∧ Ls = L :: Ls'))
theorem jLk.det {f : Nat → Int32} {n : Int} : ∀ (k m : Nat) (p r r' : Int) (Ls Ls' : List (Option (List Int32) × List Int32)), jLk f n k p r Ls → jLk f n m p r' Ls' → r = r' ∧ Ls = Ls'
  | 0, 0, p, r, r', Ls, Ls', ⟨_, a2, a3⟩, ⟨_, b2, b3⟩ => ⟨by rw [a2, b2], by rw [a3, b3]⟩
  | 0, m + 1, p, r, r', Ls, Ls', ⟨a1, _⟩, ⟨b1, _⟩ => absurd b1 a1
  | k + 1, 0, p, r, r', Ls, Ls', ⟨a1, _⟩, ⟨b1, _⟩ => absurd a1 b1
  | k + 1, m + 1, p, r, r', Ls, Ls', ⟨_, q, L, a1, a2⟩, ⟨_, q', L', b1, b2⟩ => by
    obtain ⟨e, e2⟩ := a1.det b1
    subst e e2
    rcases a2 with ⟨x1, x2, x3⟩ | ⟨x1, M, x2, x3⟩ <;> rcases b2 with ⟨y1, y2, y3⟩ | ⟨y1, M', y2, y3⟩
    · exact ⟨by omega, by rw [x3, y3]⟩
    · omega
    · omega
    · obtain ⟨e, e2⟩ := jLk.det k m _ _ _ _ _ x2 y2
      exact ⟨e, by rw [x3, y3, e2]⟩
def jLt (f : Nat → Int32) (n p r : Int) (Ls : List (Option (List Int32) × List Int32)) : Prop := ∃ k : Nat, jLk f n k p r Ls
/-- lines from the beginning of one on -/
def jLs (f : Nat → Int32) (n p r : Int) (Ls : List (Option (List Int32) × List Int32)) : Prop := ∃ (q : Int) (L : Option (List Int32) × List Int32), jLr f n p q L ∧ ((q < 0 ∧ r = q ∧ Ls = [L]) ∨ (0 ≤ q ∧ ∃ Ls', jLt f n q r Ls' ∧ Ls = L :: Ls'))
theorem jLt.stop {f : Nat → Int32} {n p r : Int} (h : jYs f n p ≠ 59) (hr : r = (if p < n then -1 - p else p)) : jLt f n p r [] := ⟨0, h, hr, rfl⟩
theorem jLt.more {f : Nat → Int32} {n p p1 r : Int} {Ls : List (Option (List Int32) × List Int32)} (h : jYs f n p = 59) (e : p1 = p + 1) (a : jLs f n p1 r Ls) : jLt f n p r Ls := by
  subst e
  obtain ⟨q, L, a1, a2⟩ := a
  rcases a2 with ⟨x1, x2, x3⟩ | ⟨x1, M, ⟨k, x2⟩, x3⟩
  · exact ⟨1, h, q, L, a1, Or.inl ⟨x1, x2, x3⟩⟩
  · exact ⟨k + 1, h, q, L, a1, Or.inr ⟨x1, M, x2, x3⟩⟩
/-- a text: 0 and above, or -1 - the fault -/
abbrev jTxt (f : Nat → Int32) (n r : Int) (Ls : List (Option (List Int32) × List Int32)) : Prop := jLs f n 0 r Ls
theorem jLs.det {f : Nat → Int32} {n p r r' : Int} {Ls Ls' : List (Option (List Int32) × List Int32)} (a : jLs f n p r Ls) (b : jLs f n p r' Ls') : r = r' ∧ Ls = Ls' := by
  obtain ⟨q, L, a1, a2⟩ := a
  obtain ⟨q', L', b1, b2⟩ := b
  obtain ⟨e, e2⟩ := a1.det b1
  subst e e2
  rcases a2 with ⟨x1, x2, x3⟩ | ⟨x1, M, ⟨k, x2⟩, x3⟩ <;> rcases b2 with ⟨y1, y2, y3⟩ | ⟨y1, M', ⟨m, y2⟩, y3⟩
  · exact ⟨by omega, by rw [x3, y3]⟩
  · omega
  · omega
  · obtain ⟨e, e2⟩ := jLk.det k m _ _ _ _ _ x2 y2
    exact ⟨e, by rw [x3, y3, e2]⟩
/-! the same on two rows that are alike -/
theorem jP_eq {f g : Nat → Int32} {n : Int} (h : jYs f n = jYs g n) : ∀ k : Nat, jP f n k = jP g n k
  | 0 => rfl
  | k + 1 => by
    funext md d p
    have e1 : jNq f n p = jNq g n p := by unfold jNq; rw [h]
    have e2 : jNv f n p = jNv g n p := by unfold jNv; rw [h]
    show jPs f n (jP f n k) md d p = jPs g n (jP g n k) md d p
    unfold jPs
    rw [e1, e2, h, jP_eq h k]
theorem jPr_eq {f g : Nat → Int32} {n : Int} (h : jYs f n = jYs g n) : jPr f n = jPr g n := by
  funext md d p r c
  unfold jPr
  simp only [jP_eq h]
theorem jLr_eq {f g : Nat → Int32} {n : Int} (h : jYs f n = jYs g n) : jLr f n = jLr g n := by
  funext p r L
  unfold jLr
  rw [jPr_eq h, h]
theorem jLk_eq {f g : Nat → Int32} {n : Int} (h : jYs f n = jYs g n) : ∀ k : Nat, jLk f n k = jLk g n k
  | 0 => by funext p r Ls; unfold jLk; rw [h]
  | k + 1 => by funext p r Ls; unfold jLk; rw [h, jLr_eq h, jLk_eq h k]
theorem jLs_eq {f g : Nat → Int32} {n : Int} (h : jYs f n = jYs g n) : jLs f n = jLs g n := by
  funext p r Ls
  unfold jLs jLt
  rw [jLr_eq h]
  simp only [jLk_eq h]
theorem jYs_eq {f g : Nat → Int32} {n : Int} (h : ∀ k : Nat, (k : Int) < n → f k = g k) : jYs f n = jYs g n := by
  funext p
  unfold jYs
  by_cases c : 0 ≤ p ∧ p < n
  · rw [if_pos c, if_pos c, h p.toNat (by omega)]
  · rw [if_neg c, if_neg c]
/-! the words of lines -/
def jLc (o : Int) (L : Option (List Int32) × List Int32) : List Int32 :=
  match L.1 with
  | none => L.2 ++ [jwd 20059]
  | some a => a ++ jwd 20063 :: jwd (o + (a.length : Int) + (L.2.length : Int) + 3) :: (L.2 ++ [jwd 20059])
def jLay : Int → List (Option (List Int32) × List Int32) → List Int32
  | _, [] => []
  | o, L :: Ls => jLc o L ++ jLay (o + ((jLc o L).length : Int)) Ls
theorem jLay_app (o : Int) (A B : List (Option (List Int32) × List Int32)) : jLay o (A ++ B) = jLay o A ++ jLay (o + ((jLay o A).length : Int)) B := by
  induction A generalizing o with
  | nil => show jLay o B = [] ++ jLay (o + ((([] : List Int32).length : Nat) : Int)) B; rw [List.nil_append]; congr 1; simp
  | cons L A ih =>
    show jLc o L ++ jLay _ (A ++ B) = (jLc o L ++ jLay _ A) ++ _
    rw [ih, List.append_assoc]
    congr 2
    congr 1
    show _ = o + (((jLc o L ++ jLay _ A).length : Nat) : Int)
    simp only [List.length_append]; omega
def jCl (f : Nat → Int32) (n p a x : Int) (g g' : Nat → Int32) (l l' : Int) : Prop := ∃ (r : Int) (L : Option (List Int32) × List Int32), jLr f n p r L ∧ jEn a x r ∧ (0 ≤ r → g' = jApp g l.toNat (jLc l L) ∧ l' = l + ((jLc l L).length : Int))
theorem jCl.one {f : Nat → Int32} {n p a x l l1 l2 : Int} {g g1 g2 : Nat → Int32} {w : Int32} (b : jCp f n 0 0 p a x g g1 l l1) (hs : x = -1 → jYs f n a ≠ 63) (eg : g2 = jupd g1 l1.toNat w) (ew : w.toInt = 20059) (el : l2 = l1 + 1) (hl : 0 ≤ l) : jCl f n p a x g g2 l l2 := by
  obtain ⟨r, c, b1, b2, b3⟩ := b
  rcases b2 with ⟨y1, y2, y3, y4⟩ | ⟨y1, y2⟩
  · subst y2
    refine ⟨r, (none, c), ⟨r, c, b1, Or.inr (Or.inl ⟨y3, hs y1, rfl, rfl⟩)⟩, Or.inl ⟨y1, rfl, y3, y4⟩, fun z => ?_⟩
    obtain ⟨v1, v2⟩ := b3 z
    constructor
    · show g2 = jApp g l.toNat (c ++ [jwd 20059])
      rw [jApp_app, ← v1, eg, jwd_of ew (by decide) (by decide), show l.toNat + c.length = l1.toNat by omega]; rfl
    · show l2 = l + (((c ++ [jwd 20059]).length : Nat) : Int)
      simp only [List.length_append, List.length_cons, List.length_nil]; omega
  · exact ⟨r, (none, []), ⟨r, c, b1, Or.inl ⟨by omega, rfl, rfl⟩⟩, Or.inr ⟨y1, y2⟩, fun z => absurd z (by omega)⟩
theorem jCl.two {f : Nat → Int32} {n p a1 a2 x1 a x l l1 l2 l3 l4 q1 : Int} {g g1 g2 g3 g4 g5 : Nat → Int32} {w w0 w1 J : Int32} (b : jCp f n 0 0 p a1 x1 g g1 l l1) (hx : x1 = -1) (hs : jYs f n a1 = 63) (eg : g2 = jupd (jupd g1 l1.toNat w) (l1 + 1).toNat w0) (ew : w.toInt = 20063) (el : l2 = l1 + 2) (ea : a2 = a1 + 1) (b' : jCp f n 0 0 a2 a x g2 g3 l2 l3) (eg4 : g4 = jupd g3 l3.toNat w1) (ew1 : w1.toInt = 20059) (el4 : l4 = l3 + 1) (eg5 : g5 = jupd g4 q1.toNat J) (eq : q1 = l1 + 1) (eJ : J.toInt = l4) (hl : 0 ≤ l) (hl4 : l4 ≤ 1000) : jCl f n p a x g g5 l l4 := by
  subst eq
  obtain ⟨r, c, b1, b2, b3⟩ := b
  obtain ⟨r', c', d1, d2, d3⟩ := b'
  rcases b2 with ⟨y1, y2, y3, y4⟩ | ⟨y1, y2⟩
  · subst y2
    obtain ⟨v1, v2⟩ := b3 y3
    subst ea
    refine ⟨r', (some c, c'), ⟨r, c, b1, Or.inr (Or.inr ⟨y3, hs, c', d1, rfl⟩)⟩, d2, fun z => ?_⟩
    obtain ⟨v3, v4⟩ := d3 z
    have e4 : l4 = l + (c.length : Int) + (c'.length : Int) + 3 := by omega
    constructor
    · show g5 = jApp g l.toNat (c ++ jwd 20063 :: jwd (l + (c.length : Int) + (c'.length : Int) + 3) :: (c' ++ [jwd 20059]))
      have h1 : g4 = jApp g l.toNat ((c ++ [jwd 20063]) ++ w0 :: (c' ++ [jwd 20059])) := by
        rw [List.append_assoc]
        show g4 = jApp g l.toNat (c ++ ([jwd 20063, w0] ++ (c' ++ [jwd 20059])))
        rw [jApp_app, ← v1, jApp_app, jApp_app, eg4, v3, eg, jwd_of ew (by decide) (by decide), jwd_of ew1 (by decide) (by decide), show l.toNat + c.length = l1.toNat by omega, show (l1 + 1).toNat = l1.toNat + 1 by omega, show l2.toNat = l1.toNat + ([jwd 20063, w0] : List Int32).length by simp only [List.length_cons, List.length_nil]; omega, show l3.toNat = l1.toNat + ([jwd 20063, w0] : List Int32).length + c'.length by simp only [List.length_cons, List.length_nil]; omega]; rfl
      rw [eg5, h1, jApp_put (by simp only [List.length_append, List.length_cons, List.length_nil]; omega), List.append_assoc, jwd_of eJ (by omega) (by omega), e4]; rfl
    · show l4 = l + (((c ++ jwd 20063 :: jwd _ :: (c' ++ [jwd 20059])).length : Nat) : Int)
      simp only [List.length_append, List.length_cons, List.length_nil]; omega
  · omega
/-- behind a line of a text -/
def jCt (f : Nat → Int32) (n a x : Int) (g g' : Nat → Int32) (l : Int) : Prop :=
  (x = -1 ∧ 0 ≤ a ∧ a ≤ 80 ∧ ∃ L0, g' = jApp g 0 (jLay 0 L0) ∧ l = ((jLay 0 L0).length : Int) ∧ ∀ (r : Int) (Ls : List (Option (List Int32) × List Int32)), jLt f n a r Ls → jTxt f n r (L0 ++ Ls)) ∨
  (0 ≤ x ∧ ∃ Ls, jTxt f n (-1 - x) Ls)
theorem jCt.begin {f : Nat → Int32} {n p a x l l' : Int} {g g' : Nat → Int32} (h : jCl f n p a x g g' l l') (ep : p = 0) (el : l = 0) : jCt f n a x g g' l' := by
  subst ep el
  obtain ⟨r, L, b1, b2, b3⟩ := h
  rcases b2 with ⟨y1, y2, y3, y4⟩ | ⟨y1, y2⟩
  · subst y2
    obtain ⟨v1, v2⟩ := b3 y3
    refine Or.inl ⟨y1, y3, y4, [L], ?_, ?_, fun r' Ls k => ⟨r, L, b1, Or.inr ⟨y3, Ls, k, rfl⟩⟩⟩
    · rw [v1]; show jApp g 0 _ = jApp g 0 (jLc 0 L ++ []); rw [List.append_nil]
    · rw [v2]; show (0 : Int) + _ = (((jLc 0 L ++ []).length : Nat) : Int); rw [List.append_nil]; omega
  · exact Or.inr ⟨y1, _, r, L, b1, Or.inl ⟨by omega, by omega, rfl⟩⟩
theorem jCt.step {f : Nat → Int32} {n a a1 x a2 x2 l l' : Int} {g g1 g2 : Nat → Int32} (h : jCt f n a x g g1 l) (hx : x = -1) (hs : jYs f n a = 59) (b : jCl f n a1 a2 x2 g1 g2 l l') (ea : a1 = a + 1) : jCt f n a2 x2 g g2 l' := by
  rcases h with ⟨x1, x3, x4, L0, e1, e2, h⟩ | ⟨x1, _⟩
  · obtain ⟨r, L, b1, b2, b3⟩ := b
    rcases b2 with ⟨y1, y2, y3, y4⟩ | ⟨y1, y2⟩
    · subst y2
      obtain ⟨v1, v2⟩ := b3 y3
      refine Or.inl ⟨y1, y3, y4, L0 ++ [L], ?_, ?_, fun r' Ls k => ?_⟩
      · rw [v1, e1, jLay_app, jApp_app]
        show _ = jApp _ _ (jLc _ L ++ [])
        rw [List.append_nil, show (0 : Int) + ((jLay 0 L0).length : Int) = l by omega, show l.toNat = 0 + (jLay 0 L0).length by omega]
      · rw [v2, jLay_app]
        show _ = (((jLay 0 L0 ++ (jLc _ L ++ [])).length : Nat) : Int)
        rw [List.append_nil, show (0 : Int) + ((jLay 0 L0).length : Int) = l by omega, List.length_append]; omega
      · have q := h r' (L :: Ls) (jLt.more hs ea ⟨r, L, b1, Or.inr ⟨y3, Ls, k, rfl⟩⟩)
        rw [List.append_assoc]; exact q
    · exact Or.inr ⟨y1, _, by rw [← y2]; exact h r [L] (jLt.more hs ea ⟨r, L, b1, Or.inl ⟨by omega, rfl, rfl⟩⟩)⟩
  · omega
/-- a text read by the class: its fault e or -1 -/
def jCx (f : Nat → Int32) (n e : Int) (g g' : Nat → Int32) (l : Int) : Prop := ∃ (r : Int) (Ls : List (Option (List Int32) × List Int32)), jTxt f n r Ls ∧ ((e = -1 ∧ 0 ≤ r ∧ g' = jApp g 0 (jLay 0 Ls) ∧ l = ((jLay 0 Ls).length : Int)) ∨ (0 ≤ e ∧ r = -1 - e))
theorem jCt.fin {f : Nat → Int32} {n a x e l : Int} {g g' : Nat → Int32} (h : jCt f n a x g g' l) (hs : x = -1 → jYs f n a ≠ 59) (he : (e = -1 ∧ x = -1 ∧ n ≤ a) ∨ (0 ≤ x ∧ e = x) ∨ (x = -1 ∧ a < n ∧ e = a)) : jCx f n e g g' l := by
  rcases h with ⟨x1, x3, x4, L0, e1, e2, h⟩ | ⟨x1, Ls, h⟩
  · have q := h _ [] (jLt.stop (hs x1) rfl)
    rw [List.append_nil] at q
    refine ⟨_, L0, q, ?_⟩
    by_cases c : a < n
    · rw [if_pos c]; exact Or.inr ⟨by omega, by omega⟩
    · rw [if_neg c]; exact Or.inl ⟨by omega, x3, e1, e2⟩
  · exact ⟨_, Ls, h, Or.inr ⟨by omega, by omega⟩⟩
/-! what lines give -/
def jEv (nm : Nat → Int32) (c : List Int32) : Int32 := (jRun nm c []).headD 0
theorem jGv.ev {nm : Nat → Int32} {c : List Int32} {v : Int32} (h : jGv nm c v) : jEv nm c = v := by unfold jEv; rw [h]; rfl
def jCdn (nm : Nat → Int32) (L : Option (List Int32) × List Int32) : Int32 :=
  match L.1 with
  | none => 1
  | some a => jEv nm a
def jVal (nm : Nat → Int32) : List (Option (List Int32) × List Int32) → Int32
  | [] => 0
  | L :: Ls => if jCdn nm L ≠ 0 then jEv nm L.2 else jVal nm Ls
def jRl (f : Nat → Int32) (n : Int) (nm : Nat → Int32) (p a x : Int) (h v : Int32) : Prop := ∃ (r : Int) (L : Option (List Int32) × List Int32), jLr f n p r L ∧ jEn a x r ∧ (0 ≤ r → (h ≠ 0 ↔ jCdn nm L ≠ 0) ∧ v = jEv nm L.2)
theorem jRl.one {f nm : Nat → Int32} {n p a x : Int} {h v : Int32} (b : jRp f n nm 0 0 p a x v) (hs : x = -1 → jYs f n a ≠ 63) (hh : h ≠ 0) : jRl f n nm p a x h v := by
  obtain ⟨r, c, b1, b2, b3⟩ := b
  rcases b2 with ⟨y1, y2, y3, y4⟩ | ⟨y1, y2⟩
  · subst y2
    exact ⟨r, (none, c), ⟨r, c, b1, Or.inr (Or.inl ⟨y3, hs y1, rfl, rfl⟩)⟩, Or.inl ⟨y1, rfl, y3, y4⟩, fun z => ⟨⟨fun _ => (show (1 : Int32) ≠ 0 from by decide), fun _ => hh⟩, (b3 z).ev.symm⟩⟩
  · exact ⟨r, (none, []), ⟨r, c, b1, Or.inl ⟨by omega, rfl, rfl⟩⟩, Or.inr ⟨y1, y2⟩, fun z => absurd z (by omega)⟩
theorem jRl.two {f nm : Nat → Int32} {n p a1 a2 x1 a x : Int} {h v1 v : Int32} (b : jRp f n nm 0 0 p a1 x1 v1) (hx : x1 = -1) (hs : jYs f n a1 = 63) (ea : a2 = a1 + 1) (b' : jRp f n nm 0 0 a2 a x v) (hh : h ≠ 0 ↔ v1 ≠ 0) : jRl f n nm p a x h v := by
  subst ea
  obtain ⟨r, c, b1, b2, b3⟩ := b
  obtain ⟨r', c', d1, d2, d3⟩ := b'
  rcases b2 with ⟨y1, y2, y3, y4⟩ | ⟨y1, y2⟩
  · subst y2
    refine ⟨r', (some c, c'), ⟨r, c, b1, Or.inr (Or.inr ⟨y3, hs, c', d1, rfl⟩)⟩, d2, fun z => ⟨?_, (d3 z).ev.symm⟩⟩
    show h ≠ 0 ↔ jEv nm c ≠ 0
    rw [(b3 y3).ev]; exact hh
  · omega
/-- at the beginning of a line; w: one held already, and gave v -/
def jRt (f : Nat → Int32) (n : Int) (nm : Nat → Int32) (a x : Int) (w v : Int32) : Prop := x = -1 ∧ ∃ L0, (∀ (r : Int) (Ls : List (Option (List Int32) × List Int32)), jLs f n a r Ls → jTxt f n r (L0 ++ Ls)) ∧ (w ≠ 0 → ∀ Ls, jVal nm (L0 ++ Ls) = v) ∧ (w = 0 → v = 0 ∧ ∀ Ls, jVal nm (L0 ++ Ls) = jVal nm Ls)
theorem jRt.first {f nm : Nat → Int32} {n a x : Int} {w v : Int32} (hx : x = -1) (ha : a = 0) (hw : w = 0) (hv : v = 0) : jRt f n nm a x w v := by
  subst ha
  exact ⟨hx, [], fun r Ls h => h, fun h => absurd hw h, fun _ => ⟨hv, fun _ => rfl⟩⟩
/-- behind the last line -/
def jRe (f : Nat → Int32) (n : Int) (nm : Nat → Int32) (a x : Int) (v : Int32) : Prop := (x = -1 ∧ 0 ≤ a ∧ ∃ Ls, jTxt f n (if a < n then -1 - a else a) Ls ∧ v = jVal nm Ls) ∨ (0 ≤ x ∧ ∃ Ls, jTxt f n (-1 - x) Ls)
theorem jRt.behind {f nm : Nat → Int32} {n a x a2 x2 : Int} {w v w2 v2 h u : Int32} (q : jRt f n nm a x w v) (b : jRl f n nm a a2 x2 h u) (e : (x2 = -1 ∧ h ≠ 0 ∧ w = 0 ∧ w2 ≠ 0 ∧ v2 = u) ∨ ((0 ≤ x2 ∨ h = 0 ∨ w ≠ 0) ∧ w2 = w ∧ v2 = v)) (hs : x2 = -1 → jYs f n a2 ≠ 59) : jRe f n nm a2 x2 v2 := by
  obtain ⟨_, L0, q1, q2, q3⟩ := q
  obtain ⟨r, L, b1, b2, b3⟩ := b
  rcases b2 with ⟨y1, y2, y3, y4⟩ | ⟨y1, y2⟩
  · subst y2
    obtain ⟨z1, z2⟩ := b3 y3
    refine Or.inl ⟨y1, y3, L0 ++ [L], q1 _ _ ⟨r, L, b1, Or.inr ⟨y3, [], jLt.stop (hs y1) rfl, rfl⟩⟩, ?_⟩
    rcases e with ⟨e1, e2, e3, e4, e5⟩ | ⟨e1, e2, e3⟩
    · rw [(q3 e3).2, e5, z2]; show _ = if jCdn nm L ≠ 0 then _ else _; rw [if_pos (z1.mp e2)]
    · by_cases c : w = 0
      · have hh : ¬ jCdn nm L ≠ 0 := fun k => by
          rcases e1 with e1 | e1 | e1
          · omega
          · exact absurd e1 (z1.mpr k)
          · exact e1 c
        rw [(q3 c).2, e3, (q3 c).1]; show _ = if jCdn nm L ≠ 0 then _ else _; rw [if_neg hh]; rfl
      · rw [q2 c, e3]
  · exact Or.inr ⟨y1, _, by rw [← y2]; exact q1 r _ ⟨r, L, b1, Or.inl ⟨by omega, rfl, rfl⟩⟩⟩
theorem jRt.step {f nm : Nat → Int32} {n a x a2 x2 a3 : Int} {w v w2 v2 h u : Int32} (q : jRt f n nm a x w v) (b : jRl f n nm a a2 x2 h u) (hx : x2 = -1) (e : (x2 = -1 ∧ h ≠ 0 ∧ w = 0 ∧ w2 ≠ 0 ∧ v2 = u) ∨ ((0 ≤ x2 ∨ h = 0 ∨ w ≠ 0) ∧ w2 = w ∧ v2 = v)) (hs : jYs f n a2 = 59) (ea : a3 = a2 + 1) : jRt f n nm a3 x2 w2 v2 := by
  obtain ⟨_, L0, q1, q2, q3⟩ := q
  obtain ⟨r, L, b1, b2, b3⟩ := b
  rcases b2 with ⟨y1, y2, y3, y4⟩ | ⟨y1, y2⟩
  · subst y2
    obtain ⟨z1, z2⟩ := b3 y3
    refine ⟨hx, L0 ++ [L], fun r' Ls k => ?_, fun hw Ls => ?_, fun hw => ?_⟩
    · rw [List.append_assoc]; exact q1 r' _ ⟨r, L, b1, Or.inr ⟨y3, Ls, jLt.more hs ea k, rfl⟩⟩
    · rw [List.append_assoc]
      rcases e with ⟨e1, e2, e3, e4, e5⟩ | ⟨e1, e2, e3⟩
      · rw [(q3 e3).2, e5, z2]; show (if jCdn nm L ≠ 0 then _ else _) = _; rw [if_pos (z1.mp e2)]
      · rw [e2] at hw; rw [q2 hw, e3]
    · rcases e with ⟨e1, e2, e3, e4, e5⟩ | ⟨e1, e2, e3⟩
      · exact absurd hw e4
      · rw [e2] at hw
        have hh : ¬ jCdn nm L ≠ 0 := fun k => by
          rcases e1 with e1 | e1 | e1
          · omega
          · exact absurd e1 (z1.mpr k)
          · exact e1 hw
        refine ⟨by rw [e3]; exact (q3 hw).1, fun Ls => ?_⟩
        rw [List.append_assoc, (q3 hw).2]; show (if jCdn nm L ≠ 0 then _ else _) = _; rw [if_neg hh]; rfl
  · omega
/-- a text worked out by the reference -/
def jRx (f : Nat → Int32) (n : Int) (nm : Nat → Int32) (x : Int) (v : Int32) : Prop := ∃ (r : Int) (Ls : List (Option (List Int32) × List Int32)), jTxt f n r Ls ∧ ((x = -1 ∧ 0 ≤ r ∧ v = jVal nm Ls) ∨ (0 ≤ x ∧ r = -1 - x))
theorem jRe.fin {f nm : Nat → Int32} {n a x x2 : Int} {v v2 : Int32} (h : jRe f n nm a x v) (e : (x = -1 ∧ a < n ∧ x2 = a) ∨ (x = -1 ∧ n ≤ a ∧ x2 = -1 ∧ v2 = v) ∨ (0 ≤ x ∧ x2 = x)) : jRx f n nm x2 v2 := by
  rcases h with ⟨x1, a0, Ls, y1, y2⟩ | ⟨x1, Ls, y1⟩
  · refine ⟨_, Ls, y1, ?_⟩
    rcases e with ⟨e1, e2, e3⟩ | ⟨e1, e2, e3, e4⟩ | ⟨e1, e2⟩
    · rw [if_pos e2]; exact Or.inr ⟨by omega, by omega⟩
    · rw [if_neg (by omega)]; exact Or.inl ⟨e3, a0, by rw [e4, y2]⟩
    · omega
  · exact ⟨_, Ls, y1, Or.inr ⟨by omega, by omega⟩⟩
theorem jCx.same {f g nm : Nat → Int32} {n n2 e x l : Int} {c c' : Nat → Int32} {v : Int32} (h : jYs f n = jYs g n) (en : n2 = n) (a : jCx f n e c c' l) (b : jRx g n2 nm x v) : e = x := by
  subst en
  obtain ⟨r, Ls, a1, a2⟩ := a
  obtain ⟨r', Ls', b1, b2⟩ := b
  unfold jTxt at a1 b1
  rw [jLs_eq h] at a1
  obtain ⟨k, _⟩ := a1.det b1
  omega
theorem jYs_n {f : Nat → Int32} {n p : Int} (h : n ≤ p) : jYs f n p = -1 := by unfold jYs; rw [if_neg (by omega)]
theorem jLv_r (c : Int) : 0 ≤ jLv c ∧ jLv c ≤ 5 := by unfold jLv; (repeat' split) <;> omega
theorem jNm_b {J x : Int} (h : J = x ∨ (J = -1 ∧ x = 0)) : jNm J = jNm x := by
  rcases h with h | ⟨h1, h2⟩
  · rw [h]
  · rw [h1, h2]; decide
theorem jVw_m {b : Int} {f g : Nat → Int32} (h : b < 0) : jVw b f g = f := by funext k; unfold jVw; rw [if_pos h]
theorem jVw_p {b : Int} {f g : Nat → Int32} (h : 0 ≤ b) : jVw b f g = fun k => g (b.toNat + k) := by funext k; unfold jVw; rw [if_neg (by omega)]
theorem jBi_or1 {v w : Int32} (h : v.toInt ≠ 0 ∨ w.toInt ≠ 0) : (1 : Int32) = jBi 124 v w := by
  show _ = if v ≠ 0 ∨ w ≠ 0 then (1 : Int32) else 0
  rw [if_pos (h.imp (fun h e => h (by rw [e]; decide)) (fun h e => h (by rw [e]; decide)))]
theorem jBi_or0 {v w : Int32} (h : v.toInt = 0) (h2 : w.toInt = 0) : (0 : Int32) = jBi 124 v w := by
  show _ = if v ≠ 0 ∨ w ≠ 0 then (1 : Int32) else 0
  rw [if_neg (fun q => Or.elim q (fun q => q (Int32.toInt_inj.mp h)) (fun q => q (Int32.toInt_inj.mp h2)))]
theorem jBi_an1 {v w : Int32} (h : v.toInt ≠ 0) (h2 : w.toInt ≠ 0) : (1 : Int32) = jBi 38 v w := by
  show _ = if v ≠ 0 ∧ w ≠ 0 then (1 : Int32) else 0
  rw [if_pos ⟨fun e => h (by rw [e]; decide), fun e => h2 (by rw [e]; decide)⟩]
theorem jBi_an0 {v w : Int32} (h : v.toInt = 0 ∨ w.toInt = 0) : (0 : Int32) = jBi 38 v w := by
  show _ = if v ≠ 0 ∧ w ≠ 0 then (1 : Int32) else 0
  rw [if_neg (fun q => Or.elim h (fun h => q.1 (Int32.toInt_inj.mp h)) (fun h => q.2 (Int32.toInt_inj.mp h)))]
theorem jBi_lt1 {v w : Int32} (h : v.toInt < w.toInt) : (1 : Int32) = jBi 60 v w := by
  show _ = if v < w then (1 : Int32) else 0
  rw [if_pos (Int32.lt_iff_toInt_lt.mpr h)]
theorem jBi_lt0 {v w : Int32} (h : w.toInt ≤ v.toInt) : (0 : Int32) = jBi 60 v w := by
  show _ = if v < w then (1 : Int32) else 0
  rw [if_neg (fun q => by have := Int32.lt_iff_toInt_lt.mp q; omega)]
theorem jBi_eq1 {v w : Int32} (h : v.toInt = w.toInt) : (1 : Int32) = jBi 61 v w := by
  show _ = if v = w then (1 : Int32) else 0
  rw [if_pos (Int32.toInt_inj.mp h)]
theorem jBi_eq0 {v w : Int32} (h : v.toInt ≠ w.toInt) : (0 : Int32) = jBi 61 v w := by
  show _ = if v = w then (1 : Int32) else 0
  rw [if_neg (fun q => h (by rw [q]))]
theorem jBi_gt1 {v w : Int32} (h : w.toInt < v.toInt) : (1 : Int32) = jBi 62 v w := by
  show _ = if w < v then (1 : Int32) else 0
  rw [if_pos (Int32.lt_iff_toInt_lt.mpr h)]
theorem jBi_gt0 {v w : Int32} (h : v.toInt ≤ w.toInt) : (0 : Int32) = jBi 62 v w := by
  show _ = if w < v then (1 : Int32) else 0
  rw [if_neg (fun q => by have := Int32.lt_iff_toInt_lt.mp q; omega)]
theorem jBi_pl {v w x : Int32} (h : x = v + w) : x = jBi 43 v w := h
theorem jBi_mi {v w x : Int32} (h : x = v - w) : x = jBi 45 v w := h
theorem jBi_tm {v w x : Int32} (h : x = v * w) : x = jBi 42 v w := h
theorem jBi_dv {v w x : Int32} (h : x = v / w) (h2 : w.toInt ≠ 0) : x = jBi 47 v w := by
  show _ = if w = 0 then (0 : Int32) else v / w
  rw [if_neg (fun q => h2 (by rw [q]; decide)), h]
theorem jBi_d0 {v w x : Int32} (h : x = 0) (h2 : w.toInt = 0) : x = jBi 47 v w := by
  show _ = if w = 0 then (0 : Int32) else v / w
  rw [if_pos (Int32.toInt_inj.mp h2), h]
theorem jBi_rm {v w x : Int32} (h : x = v - v / w * w) (h2 : w.toInt ≠ 0) : x = jBi 37 v w := by
  show _ = if w = 0 then (0 : Int32) else v - v / w * w
  rw [if_neg (fun q => h2 (by rw [q]; decide)), h]
theorem jBi_r0 {v w x : Int32} (h : x = 0) (h2 : w.toInt = 0) : x = jBi 37 v w := by
  show _ = if w = 0 then (0 : Int32) else v - v / w * w
  rw [if_pos (Int32.toInt_inj.mp h2), h]
theorem jUn_b {s : Int} {v x : Int32} (h : s = 33 ∨ s = 45) (e : (s = 33 ∧ v.toInt = 0 ∧ x = 1) ∨ (s = 33 ∧ v.toInt ≠ 0 ∧ x = 0) ∨ (s = 45 ∧ x = -v)) : x = if s = 33 then (if v = 0 then 1 else 0) else -v := by
  rcases e with ⟨e1, e2, e3⟩ | ⟨e1, e2, e3⟩ | ⟨e1, e3⟩
  · rw [if_pos e1, if_pos (Int32.toInt_inj.mp e2), e3]
  · rw [if_pos e1, if_neg (fun q => e2 (by rw [q]; decide)), e3]
  · rw [if_neg (by omega), e3]
/-- what a text is answered with -/
def jXa (f : Nat → Int32) (n r : Int) : Prop := ∃ (e : Int) (g g' : Nat → Int32) (l : Int), jCx f n e g g' l ∧ ((e = -1 ∧ r = 1) ∨ (0 ≤ e ∧ r = -100 - e))
def jXb (f : Nat → Int32) (n r : Int) : Prop := ∃ (x : Int) (nm : Nat → Int32) (v : Int32), jRx f n nm x v ∧ ((x = -1 ∧ r = 1) ∨ (0 ≤ x ∧ r = -100 - x))
theorem jXa.same {f g : Nat → Int32} {n r r' : Int} (h : jYs f n = jYs g n) (a : jXa f n r) (b : jXb g n r') : r = r' := by
  obtain ⟨e, c, c', l, a1, a2⟩ := a
  obtain ⟨x, nm, v, b1, b2⟩ := b
  have k := jCx.same h rfl a1 b1
  omega
theorem jCp.to {f : Nat → Int32} {n md d p a x a2 x2 l l' l2 : Int} {g g' g2 : Nat → Int32} (h : jCp f n md d p a x g g' l l') (ea : a2 = a) (ex : x2 = x) (eg : g2 = g') (el : l2 = l') : jCp f n md d p a2 x2 g g2 l l2 := by subst ea ex eg el; exact h
theorem jCi.to {f : Nat → Int32} {n md d p a x a2 x2 l l' l2 : Int} {g g' g2 : Nat → Int32} (h : jCi f n md d p a x g g' l l') (ea : a2 = a) (ex : x2 = x) (eg : g2 = g') (el : l2 = l') : jCi f n md d p a2 x2 g g2 l l2 := by subst ea ex eg el; exact h
theorem jCl.to {f : Nat → Int32} {n p a x a2 x2 l l' l2 : Int} {g g' g2 : Nat → Int32} (h : jCl f n p a x g g' l l') (ea : a2 = a) (ex : x2 = x) (eg : g2 = g') (el : l2 = l') : jCl f n p a2 x2 g g2 l l2 := by subst ea ex eg el; exact h
theorem jRp.to {f nm : Nat → Int32} {n md d p a x a2 x2 : Int} {v : Int32} (h : jRp f n nm md d p a x v) (ea : a2 = a) (ex : x2 = x) : jRp f n nm md d p a2 x2 v := by subst ea ex; exact h
theorem jRi.to {f nm : Nat → Int32} {n md d p a x a2 x2 : Int} {v : Int32} (h : jRi f n nm md d p a x v) (ea : a2 = a) (ex : x2 = x) : jRi f n nm md d p a2 x2 v := by subst ea ex; exact h
theorem jXt {P : Prop} {f g : Nat → Int32} {n n2 r r' : Int} (a : (P ∧ jXa f n r) ∨ (¬ P ∧ r = -1)) (b : (P ∧ jXb g n2 r') ∨ (¬ P ∧ r' = -1)) (h : jTp f g n) (en : n2 = n) : r = r' := by
  subst en
  rcases a with ⟨a1, a2⟩ | ⟨a1, a2⟩ <;> rcases b with ⟨b1, b2⟩ | ⟨b1, b2⟩
  · exact a2.same (jYs_eq h) b2
  · exact absurd a1 b1
  · exact absurd b1 a1
  · omega
theorem j0 {x : Int32} (h : x.toInt = 0) : x = 0 := Int32.toInt_inj.mp h
theorem jn0 {x : Int32} (h : x.toInt ≠ 0) : x ≠ 0 := fun q => h (by rw [q]; decide)
theorem jCx.to {f : Nat → Int32} {n e l l2 : Int} {g g' g2 : Nat → Int32} (h : jCx f n e g g' l) (eg : g2 = g') (el : l2 = l) : jCx f n e g g2 l2 := by subst eg el; exact h
theorem jRt.to {f nm : Nat → Int32} {n a x a2 x2 : Int} {w v : Int32} (h : jRt f n nm a x w v) (ea : a2 = a) (ex : x2 = x) : jRt f n nm a2 x2 w v := by subst ea ex; exact h
theorem jRe.to {f nm : Nat → Int32} {n a x a2 x2 : Int} {v : Int32} (h : jRe f n nm a x v) (ea : a2 = a) (ex : x2 = x) : jRe f n nm a2 x2 v := by subst ea ex; exact h
theorem jBy.det {f : Nat → Int32} {n p x y : Int} (a : jBy f n p x) (b : jBy f n p y) : x = y := by
  rcases a with ⟨a1, a2⟩ | ⟨a1, a2⟩ <;> rcases b with ⟨b1, b2⟩ | ⟨b1, b2⟩ <;> omega
/-! words worked out on a stack, as the class does it -/
def jWk (cd : Nat → Int32) (len : Int) (nm : Nat → Int32) : Nat → Int → List Int32 → Option Int32
  | 0, _, _ => none
  | k + 1, a, s =>
    if len ≤ a then some 0
    else if (cd a.toNat).toInt < 20000 then
      (if 160 ≤ s.length then some 0 else jWk cd len nm k (a + 1) ((if (cd a.toNat).toInt < 10000 then cd a.toNat else nm ((cd a.toNat - 10000) &&& 7).toNatClampNeg) :: s))
    else if s = [] then some 0
    else if (cd a.toNat).toInt = 20059 then some (s.headD 0)
    else if (cd a.toNat).toInt = 20063 then
      (if s.headD 0 ≠ 0 ∨ len ≤ a + 1 then jWk cd len nm k (a + 2) []
       else jWk cd len nm k ((if (cd (a + 1).toNat).toInt - 1 ≤ a + 1 then a + 1 else (cd (a + 1).toNat).toInt - 1) + 1) [])
    else if (cd a.toNat).toInt = 20033 ∨ (cd a.toNat).toInt = 20126 then jWk cd len nm k (a + 1) (jWo1 (cd a.toNat).toInt s)
    else jWk cd len nm k (a + 1) (jWo2 ((cd a.toNat).toInt - 20000) s)
theorem jWk_mono {cd : Nat → Int32} {len : Int} {nm : Nat → Int32} : ∀ (k : Nat) (a : Int) (s : List Int32) (v : Int32), jWk cd len nm k a s = some v → jWk cd len nm (k + 1) a s = some v
  | 0, _, _, _, h => by cases h
  | k + 1, a, s, v, h => by
    rw [jWk] at h ⊢
    by_cases c1 : len ≤ a
    · rw [if_pos c1] at h ⊢; exact h
    rw [if_neg c1] at h ⊢
    by_cases c2 : (cd a.toNat).toInt < 20000
    · rw [if_pos c2] at h ⊢
      by_cases c3 : 160 ≤ s.length
      · rw [if_pos c3] at h ⊢; exact h
      · rw [if_neg c3] at h ⊢; exact jWk_mono k _ _ _ h
    rw [if_neg c2] at h ⊢
    by_cases c4 : s = []
    · rw [if_pos c4] at h ⊢; exact h
    rw [if_neg c4] at h ⊢
    by_cases c5 : (cd a.toNat).toInt = 20059
    · rw [if_pos c5] at h ⊢; exact h
    rw [if_neg c5] at h ⊢
    by_cases c6 : (cd a.toNat).toInt = 20063
    · rw [if_pos c6] at h ⊢
      by_cases c7 : s.headD 0 ≠ 0 ∨ len ≤ a + 1
      · rw [if_pos c7] at h ⊢; exact jWk_mono k _ _ _ h
      · rw [if_neg c7] at h ⊢; exact jWk_mono k _ _ _ h
    rw [if_neg c6] at h ⊢
    by_cases c8 : (cd a.toNat).toInt = 20033 ∨ (cd a.toNat).toInt = 20126
    · rw [if_pos c8] at h ⊢; exact jWk_mono k _ _ _ h
    · rw [if_neg c8] at h ⊢; exact jWk_mono k _ _ _ h
def jWr (cd : Nat → Int32) (len : Int) (nm : Nat → Int32) (a : Int) (s : List Int32) (v : Int32) : Prop := ∃ k : Nat, jWk cd len nm k a s = some v
theorem jWk_le {cd nm : Nat → Int32} {len a : Int} {s : List Int32} {v : Int32} {k : Nat} (h : jWk cd len nm k a s = some v) : ∀ m : Nat, jWk cd len nm (k + m) a s = some v
  | 0 => h
  | m + 1 => jWk_mono (k + m) a s v (jWk_le h m)
theorem jWr.det {cd nm : Nat → Int32} {len a : Int} {s : List Int32} {v w : Int32} (x : jWr cd len nm a s v) (y : jWr cd len nm a s w) : v = w := by
  obtain ⟨k, x⟩ := x
  obtain ⟨m, y⟩ := y
  have e1 := jWk_le x m
  have e2 := jWk_le y k
  rw [Nat.add_comm m k, e1] at e2
  exact Option.some.inj e2
def jStk (f : Nat → Int32) : Nat → List Int32
  | 0 => []
  | n + 1 => f n :: jStk f n
theorem jStk_len (f : Nat → Int32) : ∀ n : Nat, (jStk f n).length = n
  | 0 => rfl
  | n + 1 => by show (jStk f n).length + 1 = n + 1; rw [jStk_len f n]
theorem jStk_up {f : Nat → Int32} {q : Nat} {v : Int32} : ∀ n : Nat, n ≤ q → jStk (jupd f q v) n = jStk f n
  | 0, _ => rfl
  | n + 1, h => by
    show jupd f q v n :: jStk (jupd f q v) n = f n :: jStk f n
    rw [jStk_up n (by omega)]; unfold jupd; rw [if_neg (by omega)]
theorem jStk_top {f : Nat → Int32} {T : Int} (h : 1 ≤ T) : jStk f T.toNat = f (T - 1).toNat :: jStk f (T - 1).toNat := by
  rw [show T.toNat = (T - 1).toNat + 1 by omega]; rfl
theorem jStk_put {f g : Nat → Int32} {T T' q : Int} {v : Int32} (e : g = jupd f q.toNat v) (h : 0 ≤ q) (hT : T' = q + 1) : jStk g T'.toNat = v :: jStk f q.toNat := by
  subst e hT
  rw [jStk_top (by omega), show q + 1 - 1 = q by omega, jStk_up _ (Nat.le_refl _)]; unfold jupd; rw [if_pos rfl]
/-- steps, backwards -/
theorem jWr.out {cd nm : Nat → Int32} {len a : Int} {s : List Int32} (h : len ≤ a) : jWr cd len nm a s 0 := ⟨1, by rw [jWk, if_pos h]⟩
theorem jWr.full {cd nm : Nat → Int32} {len a : Int} {s : List Int32} (h : ¬ len ≤ a) (h2 : (cd a.toNat).toInt < 20000) (h3 : 160 ≤ s.length) : jWr cd len nm a s 0 := ⟨1, by rw [jWk, if_neg h, if_pos h2, if_pos h3]⟩
theorem jWr.push {cd nm : Nat → Int32} {len a a' : Int} {s s' : List Int32} {v w x : Int32} (q : jWr cd len nm a' s' v) (h : ¬ len ≤ a) (hw : w = cd a.toNat) (h2 : w.toInt < 20000) (h3 : ¬ 160 ≤ s.length) (es : s' = x :: s) (ex : (w.toInt < 10000 ∧ x = w) ∨ (¬ w.toInt < 10000 ∧ x = nm ((w - 10000) &&& 7).toNatClampNeg)) (ea : a' = a + 1) : jWr cd len nm a s v := by
  subst hw es ea
  obtain ⟨k, q⟩ := q
  refine ⟨k + 1, ?_⟩
  rw [jWk, if_neg h, if_pos h2, if_neg h3]
  rcases ex with ⟨e1, e2⟩ | ⟨e1, e2⟩
  · rw [if_pos e1, ← e2]; exact q
  · rw [if_neg e1, ← e2]; exact q
theorem jWr.none {cd nm : Nat → Int32} {len a : Int} {s : List Int32} {w : Int32} (h : ¬ len ≤ a) (hw : w = cd a.toNat) (h2 : ¬ w.toInt < 20000) (h3 : s = []) : jWr cd len nm a s 0 := by
  subst hw; exact ⟨1, by rw [jWk, if_neg h, if_neg h2, if_pos h3]⟩
theorem jWr.semi {cd nm : Nat → Int32} {len a : Int} {s : List Int32} {w v : Int32} {t : List Int32} (h : ¬ len ≤ a) (hw : w = cd a.toNat) (h2 : w.toInt = 20059) (h3 : s = v :: t) : jWr cd len nm a s v := by
  subst hw h3; exact ⟨1, by rw [jWk, if_neg h, if_neg (by omega), if_neg (by simp), if_pos h2]; rfl⟩
theorem jWr.ask {cd nm : Nat → Int32} {len a a' : Int} {s t : List Int32} {v w x : Int32} (q : jWr cd len nm a' [] v) (h : ¬ len ≤ a) (hw : w = cd a.toNat) (h2 : w.toInt = 20063) (es : s = x :: t) (e : ((x.toInt ≠ 0 ∨ len ≤ a + 1) ∧ a' = a + 2) ∨ (x.toInt = 0 ∧ ¬ len ≤ a + 1 ∧ ∃ J : Int32, J = cd (a + 1).toNat ∧ ((J.toInt - 1 ≤ a + 1 ∧ a' = a + 2) ∨ (a + 1 < J.toInt - 1 ∧ a' = J.toInt)))) : jWr cd len nm a s v := by
  subst hw es
  obtain ⟨k, q⟩ := q
  refine ⟨k + 1, ?_⟩
  rw [jWk, if_neg h, if_neg (by omega), if_neg (by simp), if_neg (by omega), if_pos h2]
  rcases e with ⟨e1, e2⟩ | ⟨e1, e2, J, e3, e4⟩
  · rw [if_pos (show (x :: t).headD 0 ≠ 0 ∨ len ≤ a + 1 from e1.imp (fun e1 => jn0 e1) id), ← e2]; exact q
  · rw [if_neg (show ¬ ((x :: t).headD 0 ≠ 0 ∨ len ≤ a + 1) from fun z => Or.elim z (fun z => z (j0 e1)) e2), ← e3]
    rcases e4 with ⟨e4, e5⟩ | ⟨e4, e5⟩
    · rw [if_pos e4, show a + 1 + 1 = a' by omega]; exact q
    · rw [if_neg (by omega), show J.toInt - 1 + 1 = a' by omega]; exact q
theorem jWr.one {cd nm : Nat → Int32} {len a a' : Int} {s s' t : List Int32} {v w x y : Int32} (q : jWr cd len nm a' s' v) (h : ¬ len ≤ a) (hw : w = cd a.toNat) (h2 : w.toInt = 20033 ∨ w.toInt = 20126) (es : s = x :: t) (es' : s' = y :: t) (ey : (w.toInt = 20033 ∧ x.toInt = 0 ∧ y = 1) ∨ (w.toInt = 20033 ∧ x.toInt ≠ 0 ∧ y = 0) ∨ (w.toInt = 20126 ∧ y = -x)) (ea : a' = a + 1) : jWr cd len nm a s v := by
  subst hw es ea es'
  obtain ⟨k, q⟩ := q
  refine ⟨k + 1, ?_⟩
  rw [jWk, if_neg h, if_neg (by omega), if_neg (by simp), if_neg (by omega), if_neg (by omega), if_pos h2]
  have e : jWo1 (cd a.toNat).toInt (x :: t) = y :: t := by
    show jUn _ x :: t = y :: t
    unfold jUn
    rcases ey with ⟨e1, e2, e3⟩ | ⟨e1, e2, e3⟩ | ⟨e1, e3⟩
    · rw [if_pos e1, if_pos (j0 e2), e3]
    · rw [if_pos e1, if_neg (jn0 e2), e3]
    · rw [if_neg (by omega), e3]
  rw [e]; exact q
theorem jWr.two {cd nm : Nat → Int32} {len a a' : Int} {s s' t : List Int32} {v w x y z : Int32} (q : jWr cd len nm a' s' v) (h : ¬ len ≤ a) (hw : w = cd a.toNat) (h2 : ¬ w.toInt < 20000) (h3 : w.toInt ≠ 20059 ∧ w.toInt ≠ 20063 ∧ w.toInt ≠ 20033 ∧ w.toInt ≠ 20126) (es : s = y :: x :: t) (es' : s' = z :: t) (ez : z = jBi (w.toInt - 20000) x y) (ea : a' = a + 1) : jWr cd len nm a s v := by
  subst hw es ea es' ez
  obtain ⟨k, q⟩ := q
  exact ⟨k + 1, by rw [jWk, if_neg h, if_neg h2, if_neg (by simp), if_neg h3.1, if_neg h3.2.1, if_neg (by omega)]; exact q⟩
theorem jWr.skip {cd nm : Nat → Int32} {len a a' : Int} {s : List Int32} {v w x : Int32} (q : jWr cd len nm a' s v) (h : ¬ len ≤ a) (hw : w = cd a.toNat) (h2 : ¬ w.toInt < 20000) (h3 : w.toInt ≠ 20059 ∧ w.toInt ≠ 20063 ∧ w.toInt ≠ 20033 ∧ w.toInt ≠ 20126) (es : s = [x]) (ea : a' = a + 1) : jWr cd len nm a s v := by
  subst hw es ea
  obtain ⟨k, q⟩ := q
  exact ⟨k + 1, by rw [jWk, if_neg h, if_neg h2, if_neg (by simp), if_neg h3.1, if_neg h3.2.1, if_neg (by omega)]; exact q⟩
/-! how high the stack is -/
def jHt : Nat → List Int32 → Option Nat
  | h, [] => some h
  | h, w :: c =>
    if w.toInt < 0 then none
    else if w.toInt < 20000 then (if w.toInt < 10000 ∨ w.toInt ≤ 10007 then jHt (h + 1) c else none)
    else if w.toInt = 20033 ∨ w.toInt = 20126 then (if h = 0 then none else jHt h c)
    else if w.toInt = 20059 ∨ w.toInt = 20063 then none
    else (if h < 2 then none else jHt (h - 1) c)
theorem jHt_app {c d : List Int32} {h h' : Nat} (e : jHt h c = some h') : jHt h (c ++ d) = jHt h' d := by
  induction c generalizing h with
  | nil => cases e; rfl
  | cons w c ih =>
    show jHt h (w :: (c ++ d)) = _
    rw [jHt] at e ⊢
    by_cases c1 : w.toInt < 0
    · rw [if_pos c1] at e; cases e
    rw [if_neg c1] at e ⊢
    by_cases c2 : w.toInt < 20000
    · rw [if_pos c2] at e ⊢
      by_cases c3 : w.toInt < 10000 ∨ w.toInt ≤ 10007
      · rw [if_pos c3] at e ⊢; exact ih e
      · rw [if_neg c3] at e; cases e
    rw [if_neg c2] at e ⊢
    by_cases c4 : w.toInt = 20033 ∨ w.toInt = 20126
    · rw [if_pos c4] at e ⊢
      by_cases c5 : h = 0
      · rw [if_pos c5] at e; cases e
      · rw [if_neg c5] at e ⊢; exact ih e
    rw [if_neg c4] at e ⊢
    by_cases c6 : w.toInt = 20059 ∨ w.toInt = 20063
    · rw [if_pos c6] at e; cases e
    rw [if_neg c6] at e ⊢
    by_cases c7 : h < 2
    · rw [if_pos c7] at e; cases e
    · rw [if_neg c7] at e ⊢; exact ih e
theorem jHt_num {x : Int} {h : Nat} {c : List Int32} (h0 : 0 ≤ x) (h1 : x ≤ 10007) : jHt h (jwd x :: c) = jHt (h + 1) c := by
  rw [jHt, jwd_t h0 (by omega), if_neg (by omega), if_pos (by omega), if_pos (by omega)]
theorem jHt_un {x : Int} {h : Nat} {c : List Int32} (h0 : x = 20033 ∨ x = 20126) (hh : h ≠ 0) : jHt h (jwd x :: c) = jHt h c := by
  rw [jHt, jwd_t (by omega) (by omega), if_neg (by omega), if_neg (by omega), if_pos h0, if_neg hh]
theorem jHt_bi {s md : Int} {h : Nat} {c : List Int32} (e : jLv s = md) (h5 : md < 5) (hh : 2 ≤ h) : jHt h (jwd (20000 + s) :: c) = jHt (h - 1) c := by
  have hs := jLv_s e h5
  rw [jHt, jwd_t (by omega) (by omega), if_neg (by omega), if_neg (by omega), if_neg (by omega), if_neg (by omega), if_neg (by omega)]
theorem jP_ht {f : Nat → Int32} {n : Int} : ∀ (k : Nat) (md d p r : Int) (c : List Int32), jP f n k md d p = (r, c) → 0 ≤ r → r ≠ 1000 → 0 ≤ p → (0 ≤ md ∧ md ≤ 5 → ∀ h : Nat, jHt h c = some (h + 1)) ∧ (10 ≤ md ∧ md ≤ 14 → ∀ h : Nat, jHt (h + 1) c = some (h + 1))
  | 0, md, d, p, r, c, e, h0, h1, hp => by
    cases e; exact absurd rfl h1
  | k + 1, md, d, p, r, c, e, h0, h1, hp => by
    rw [jP_s, jPs] at e
    by_cases c5 : md = 5
    · rw [if_pos c5] at e
      refine ⟨fun _ h => ?_, fun z => absurd z (by omega)⟩
      by_cases c1 : 48 ≤ jYs f n p ∧ jYs f n p ≤ 57
      · rw [if_pos c1] at e; cases e
        have hr := jNv_r c1
        rw [jHt_num hr.1 (by omega)]; rfl
      rw [if_neg c1] at e
      by_cases c2 : 0 ≤ jNm (jYs f n p)
      · rw [if_pos c2] at e; cases e
        have hr : jNm (jYs f n p) ≤ 7 := by unfold jNm; (repeat' split) <;> omega
        rw [jHt_num (by omega) (by omega)]; rfl
      rw [if_neg c2] at e
      by_cases c3 : d < 6 ∧ (jYs f n p = 33 ∨ jYs f n p = 45)
      · rw [if_pos c3] at e
        generalize hq : jP f n k 5 (d + 1) (p + 1) = q at e
        obtain ⟨q1, q2⟩ := q
        dsimp only at e
        by_cases w : q1 < 0 ∨ q1 = 1000
        · rw [if_pos w] at e; cases e; omega
        · rw [if_neg w] at e; cases e
          rw [jHt_app ((jP_ht k 5 (d + 1) (p + 1) _ _ hq h0 h1 (by omega)).1 (by omega) h), jHt_un (by split <;> omega) (by omega)]; rfl
      rw [if_neg c3] at e
      by_cases c4 : d < 6 ∧ jYs f n p = 40
      · rw [if_pos c4] at e
        generalize hq : jP f n k 0 (d + 1) (p + 1) = q at e
        obtain ⟨q1, q2⟩ := q
        dsimp only at e
        by_cases w : q1 < 0 ∨ q1 = 1000
        · rw [if_pos w] at e; cases e; omega
        · rw [if_neg w] at e
          by_cases y : jYs f n q1 = 41
          · rw [if_pos y] at e; cases e
            exact (jP_ht k 0 (d + 1) (p + 1) _ _ hq (by omega) (by omega) (by omega)).1 (by omega) h
          · rw [if_neg y] at e; cases e; omega
      · rw [if_neg c4] at e; cases e; omega
    rw [if_neg c5] at e
    by_cases c6 : md < 5
    · rw [if_pos c6] at e
      refine ⟨fun z h => ?_, fun z => absurd z (by omega)⟩
      generalize hq : jP f n k (md + 1) d p = q at e
      obtain ⟨q1, q2⟩ := q
      dsimp only at e
      by_cases w : q1 < 0 ∨ q1 = 1000
      · rw [if_pos w] at e; cases e; omega
      rw [if_neg w] at e
      generalize hu : jP f n k (md + 10) d q1 = u at e
      obtain ⟨u1, u2⟩ := u
      dsimp only at e
      by_cases y : u1 < 0 ∨ u1 = 1000
      · rw [if_pos y] at e; cases e; omega
      rw [if_neg y] at e; cases e
      rw [jHt_app ((jP_ht k (md + 1) d p _ _ hq (by omega) (by omega) hp).1 (by omega) h)]
      exact (jP_ht k (md + 10) d q1 _ _ hu h0 h1 (by omega)).2 (by omega) h
    rw [if_neg c6] at e
    by_cases c7 : jLv (jYs f n p) = md - 10
    · rw [if_pos c7] at e
      refine ⟨fun z => absurd z (by omega), fun z h => ?_⟩
      generalize hq : jP f n k (md - 9) d (p + 1) = q at e
      obtain ⟨q1, q2⟩ := q
      dsimp only at e
      by_cases w : q1 < 0 ∨ q1 = 1000
      · rw [if_pos w] at e; cases e; omega
      rw [if_neg w] at e
      have e1 := (jP_ht k (md - 9) d (p + 1) _ _ hq (by omega) (by omega) (by omega)).1 (by omega) (h + 1)
      by_cases y : md = 12
      · rw [if_pos y] at e; cases e
        rw [jHt_app e1, jHt_bi c7 (by omega) (by omega)]; rfl
      rw [if_neg y] at e
      generalize hu : jP f n k md d q1 = u at e
      obtain ⟨u1, u2⟩ := u
      dsimp only at e
      by_cases y2 : u1 < 0 ∨ u1 = 1000
      · rw [if_pos y2] at e; cases e; omega
      rw [if_neg y2] at e; cases e
      rw [jHt_app e1, jHt_bi c7 (by omega) (by omega)]
      exact (jP_ht k md d q1 _ _ hu h0 h1 (by omega)).2 z h
    · rw [if_neg c7] at e; cases e
      exact ⟨fun z => absurd z (by omega), fun _ _ => rfl⟩
theorem jPr.ht {f : Nat → Int32} {n md d p r : Int} {c : List Int32} (a : jPr f n md d p r c) (h0 : 0 ≤ r) (hp : 0 ≤ p) (h1 : 0 ≤ md) (h2 : md ≤ 5) (h : Nat) : jHt h c = some (h + 1) := by
  obtain ⟨k, a1, a2⟩ := a
  exact (jP_ht k md d p r c a1 h0 a2 hp).1 ⟨h1, h2⟩ h
/-! words that stand in a row, worked out -/
def jHas (cd : Nat → Int32) : Nat → List Int32 → Prop
  | _, [] => True
  | q, w :: c => cd q = w ∧ jHas cd (q + 1) c
theorem jHas_app {cd : Nat → Int32} {q : Nat} {c d : List Int32} (h : jHas cd q (c ++ d)) : jHas cd q c ∧ jHas cd (q + c.length) d := by
  induction c generalizing q with
  | nil => exact ⟨trivial, h⟩
  | cons w c ih =>
    obtain ⟨h1, h2⟩ := h
    obtain ⟨a, b⟩ := ih h2
    exact ⟨⟨h1, a⟩, by rw [show q + (w :: c).length = q + 1 + c.length by simp only [List.length_cons]; omega]; exact b⟩
theorem jHas_jApp {g : Nat → Int32} {q : Nat} {c : List Int32} : jHas (jApp g q c) q c := by
  induction c generalizing g q with
  | nil => trivial
  | cons w c ih => exact ⟨by show jApp (jupd g q w) (q + 1) c q = w; rw [jApp_b _ _ _ q (by omega)]; unfold jupd; rw [if_pos rfl], ih⟩
theorem jHas_eq {f g : Nat → Int32} {q : Nat} {c : List Int32} (h : jHas f q c) (e : ∀ k : Nat, q ≤ k → k < q + c.length → g k = f k) : jHas g q c := by
  induction c generalizing q with
  | nil => trivial
  | cons w c ih =>
    exact ⟨(e q (by omega) (by simp only [List.length_cons]; omega)).trans h.1, ih h.2 (fun k h1 h2 => e k (by omega) (by simp only [List.length_cons]; omega))⟩
theorem jnm_ix {w : Int32} (h1 : 10000 ≤ w.toInt) (h2 : w.toInt ≤ 10007) : ((w - 10000) &&& 7).toNatClampNeg = (w.toInt - 10000).toNat := by
  have h : w.toInt = 10000 ∨ w.toInt = 10001 ∨ w.toInt = 10002 ∨ w.toInt = 10003 ∨ w.toInt = 10004 ∨ w.toInt = 10005 ∨ w.toInt = 10006 ∨ w.toInt = 10007 := by omega
  rcases h with h | h | h | h | h | h | h | h
  · have e : w = 10000 := Int32.toInt_inj.mp (by rw [h]; decide)
    rw [e]; decide
  · have e : w = 10001 := Int32.toInt_inj.mp (by rw [h]; decide)
    rw [e]; decide
  · have e : w = 10002 := Int32.toInt_inj.mp (by rw [h]; decide)
    rw [e]; decide
  · have e : w = 10003 := Int32.toInt_inj.mp (by rw [h]; decide)
    rw [e]; decide
  · have e : w = 10004 := Int32.toInt_inj.mp (by rw [h]; decide)
    rw [e]; decide
  · have e : w = 10005 := Int32.toInt_inj.mp (by rw [h]; decide)
    rw [e]; decide
  · have e : w = 10006 := Int32.toInt_inj.mp (by rw [h]; decide)
    rw [e]; decide
  · have e : w = 10007 := Int32.toInt_inj.mp (by rw [h]; decide)
    rw [e]; decide
theorem jWr_run {cd nm : Nat → Int32} {len : Int} {v : Int32} {c : List Int32} : ∀ {q : Nat} {s : List Int32} {h' : Nat}, jHas cd q c → jHt s.length c = some h' → (q : Int) + (c.length : Int) ≤ len → s.length + c.length ≤ 160 → jWr cd len nm ((q : Int) + (c.length : Int)) (jRun nm c s) v → jWr cd len nm (q : Int) s v := by
  induction c with
  | nil => intro q s h' _ _ _ _ h; rw [show (q : Int) + (([] : List Int32).length : Int) = (q : Int) by simp] at h; exact h
  | cons w c ih =>
    intro q s h' hc ht hl hs h
    obtain ⟨hw, hc⟩ := hc
    rw [jHt] at ht
    simp only [List.length_cons] at hl hs h
    have hn : ¬ len ≤ (q : Int) := by omega
    have ew : w = cd (q : Int).toNat := by rw [← hw]; rfl
    have eq1 : ((q + 1 : Nat) : Int) = (q : Int) + 1 := by omega
    have el : (q : Int) + ((c.length + 1 : Nat) : Int) = ((q + 1 : Nat) : Int) + (c.length : Int) := by omega
    rw [el] at h
    by_cases c1 : w.toInt < 0
    · rw [if_pos c1] at ht; cases ht
    rw [if_neg c1] at ht
    by_cases c2 : w.toInt < 20000
    · rw [if_pos c2] at ht
      by_cases c3 : w.toInt < 10000 ∨ w.toInt ≤ 10007
      · rw [if_pos c3] at ht
        by_cases c9 : w.toInt < 10000
        · have h : jWr cd len nm (((q + 1 : Nat) : Int) + (c.length : Int)) (jRun nm c (w :: s)) v := by
            have e : jWo nm w s = w :: s := by unfold jWo; rw [if_pos c9]
            rw [← e]; exact h
          exact jWr.push (ih hc (s := w :: s) ht (by omega) (by simp only [List.length_cons]; omega) h) hn ew c2 (by omega) rfl (Or.inl ⟨c9, rfl⟩) eq1
        · have h : jWr cd len nm (((q + 1 : Nat) : Int) + (c.length : Int)) (jRun nm c (nm (w.toInt - 10000).toNat :: s)) v := by
            have e : jWo nm w s = nm (w.toInt - 10000).toNat :: s := by unfold jWo; rw [if_neg c9, if_pos c2]
            rw [← e]; exact h
          exact jWr.push (ih hc (s := nm (w.toInt - 10000).toNat :: s) ht (by omega) (by simp only [List.length_cons]; omega) h) hn ew c2 (by omega) rfl (Or.inr ⟨c9, by rw [jnm_ix (by omega) (by omega)]⟩) eq1
      · rw [if_neg c3] at ht; cases ht
    rw [if_neg c2] at ht
    by_cases c4 : w.toInt = 20033 ∨ w.toInt = 20126
    · rw [if_pos c4] at ht
      by_cases c5 : s.length = 0
      · rw [if_pos c5] at ht; cases ht
      rw [if_neg c5] at ht
      match s, c5, ht, hs, h with
      | x :: t, _, ht, hs, h =>
        have h : jWr cd len nm (((q + 1 : Nat) : Int) + (c.length : Int)) (jRun nm c (jUn w.toInt x :: t)) v := by
          have e : jWo nm w (x :: t) = jUn w.toInt x :: t := by unfold jWo; rw [if_neg (by omega), if_neg c2, if_pos c4]; rfl
          rw [← e]; exact h
        refine jWr.one (ih hc (s := jUn w.toInt x :: t) ht (by omega) (by simp only [List.length_cons] at hs ⊢; omega) h) hn ew c4 rfl rfl ?_ eq1
        by_cases c6 : w.toInt = 20033
        · by_cases c7 : x = 0
          · exact Or.inl ⟨c6, by rw [c7]; decide, by unfold jUn; rw [if_pos c6, if_pos c7]⟩
          · exact Or.inr (Or.inl ⟨c6, fun z => c7 (j0 z), by unfold jUn; rw [if_pos c6, if_neg c7]⟩)
        · exact Or.inr (Or.inr ⟨by omega, by unfold jUn; rw [if_neg c6]⟩)
    rw [if_neg c4] at ht
    by_cases c6 : w.toInt = 20059 ∨ w.toInt = 20063
    · rw [if_pos c6] at ht; cases ht
    rw [if_neg c6] at ht
    by_cases c7 : s.length < 2
    · rw [if_pos c7] at ht; cases ht
    rw [if_neg c7] at ht
    match s, c7, ht, hs, h with
    | [], c7, _, _, _ => exact absurd (by decide) c7
    | [x], c7, _, _, _ => exact absurd (show [x].length < 2 from Nat.lt_succ_self 1) c7
    | y :: x :: t, c7, ht, hs, h =>
      have h : jWr cd len nm (((q + 1 : Nat) : Int) + (c.length : Int)) (jRun nm c (jBi (w.toInt - 20000) x y :: t)) v := by
        have e : jWo nm w (y :: x :: t) = jBi (w.toInt - 20000) x y :: t := by unfold jWo; rw [if_neg (by omega), if_neg c2, if_neg c4]; rfl
        rw [← e]; exact h
      exact jWr.two (ih hc (s := jBi (w.toInt - 20000) x y :: t) ht (by omega) (by simp only [List.length_cons] at hs ⊢; omega) h) hn ew c2 ⟨by omega, by omega, by omega, by omega⟩ rfl rfl rfl eq1
theorem jRun_len {nm : Nat → Int32} {c : List Int32} : ∀ {s : List Int32} {h' : Nat}, jHt s.length c = some h' → (jRun nm c s).length = h' := by
  induction c with
  | nil => intro s h' e; cases e; rfl
  | cons w c ih =>
    intro s h' ht
    show (jRun nm c (jWo nm w s)).length = h'
    rw [jHt] at ht
    by_cases c1 : w.toInt < 0
    · rw [if_pos c1] at ht; cases ht
    rw [if_neg c1] at ht
    by_cases c2 : w.toInt < 20000
    · rw [if_pos c2] at ht
      by_cases c3 : w.toInt < 10000 ∨ w.toInt ≤ 10007
      · rw [if_pos c3] at ht
        refine ih ?_
        unfold jWo
        by_cases c9 : w.toInt < 10000
        · rw [if_pos c9]; exact ht
        · rw [if_neg c9, if_pos c2]; exact ht
      · rw [if_neg c3] at ht; cases ht
    rw [if_neg c2] at ht
    by_cases c4 : w.toInt = 20033 ∨ w.toInt = 20126
    · rw [if_pos c4] at ht
      by_cases c5 : s.length = 0
      · rw [if_pos c5] at ht; cases ht
      rw [if_neg c5] at ht
      refine ih ?_
      unfold jWo; rw [if_neg (by omega), if_neg c2, if_pos c4]
      match s, c5, ht with
      | x :: t, _, ht => exact ht
    rw [if_neg c4] at ht
    by_cases c6 : w.toInt = 20059 ∨ w.toInt = 20063
    · rw [if_pos c6] at ht; cases ht
    rw [if_neg c6] at ht
    by_cases c7 : s.length < 2
    · rw [if_pos c7] at ht; cases ht
    rw [if_neg c7] at ht
    refine ih ?_
    unfold jWo; rw [if_neg (by omega), if_neg c2, if_neg c4]
    match s, c7, ht with
    | [], c7, _ => exact absurd (by decide) c7
    | [x], c7, _ => exact absurd (show [x].length < 2 from Nat.lt_succ_self 1) c7
    | y :: x :: t, _, ht => exact ht
theorem jRun_ev {nm : Nat → Int32} {c : List Int32} (h : jHt 0 c = some 1) : jRun nm c [] = [jEv nm c] := by
  have e := jRun_len (nm := nm) (s := []) h
  unfold jEv
  match jRun nm c [], e with
  | [x], _ => rfl
def jLok (L : Option (List Int32) × List Int32) : Prop := jHt 0 L.2 = some 1 ∧ ∀ a, L.1 = some a → jHt 0 a = some 1
theorem jWr_lay {cd nm : Nat → Int32} {len : Int} : ∀ (Ls : List (Option (List Int32) × List Int32)) (o : Nat), jHas cd o (jLay (o : Int) Ls) → len = (o : Int) + ((jLay (o : Int) Ls).length : Int) → len ≤ 160 → (∀ L ∈ Ls, jLok L) → jWr cd len nm (o : Int) [] (jVal nm Ls)
  | [], o, _, hl, _, _ => jWr.out (by rw [hl]; show (o : Int) + ((([] : List Int32).length : Nat) : Int) ≤ _; simp)
  | (none, b) :: Ls, o, hc, hl, h9, hk => by
    obtain ⟨hb, -⟩ := hk _ (List.mem_cons_self ..)
    have hb : jHt 0 b = some 1 := hb
    have hc : jHas cd o ((b ++ [jwd 20059]) ++ jLay _ Ls) := hc
    have hl : len = (o : Int) + ((((b ++ [jwd 20059]) ++ jLay ((o : Int) + (((b ++ [jwd 20059]).length : Nat) : Int)) Ls).length : Nat) : Int) := hl
    simp only [List.length_append, List.length_cons, List.length_nil] at hl
    obtain ⟨h1, h2⟩ := jHas_app (jHas_app hc).1
    refine jWr_run (s := []) h1 hb (by omega) (by simp only [List.length_nil]; omega) ?_
    rw [jRun_ev hb]
    have e : jVal nm ((none, b) :: Ls) = jEv nm b := by
      show (if jCdn nm (none, b) ≠ 0 then jEv nm b else _) = _
      rw [if_pos (show jCdn nm (none, b) ≠ 0 from (show (1 : Int32) ≠ 0 from by decide))]
    rw [e]
    exact jWr.semi (t := []) (w := jwd 20059) (by omega) (by rw [show ((o : Int) + (b.length : Int)).toNat = o + b.length by omega]; exact h2.1.symm) (by decide) rfl
  | (some a, b) :: Ls, o, hc, hl, h9, hk => by
    obtain ⟨hb, ha⟩ := hk _ (List.mem_cons_self ..)
    have hb : jHt 0 b = some 1 := hb
    have ha : jHt 0 a = some 1 := ha a rfl
    have hc : jHas cd o ((a ++ jwd 20063 :: jwd ((o : Int) + (a.length : Int) + (b.length : Int) + 3) :: (b ++ [jwd 20059])) ++ jLay _ Ls) := hc
    have hl : len = (o : Int) + ((((a ++ jwd 20063 :: jwd ((o : Int) + (a.length : Int) + (b.length : Int) + 3) :: (b ++ [jwd 20059])) ++ jLay ((o : Int) + (((a ++ jwd 20063 :: jwd ((o : Int) + (a.length : Int) + (b.length : Int) + 3) :: (b ++ [jwd 20059])).length : Nat) : Int)) Ls).length : Nat) : Int) := hl
    simp only [List.length_append, List.length_cons, List.length_nil] at hl
    obtain ⟨h0, h3⟩ := jHas_app hc
    obtain ⟨h1, h2⟩ := jHas_app h0
    obtain ⟨w1, w2, h2⟩ := h2
    obtain ⟨h4, h5⟩ := jHas_app h2
    refine jWr_run (s := []) h1 ha (by omega) (by simp only [List.length_nil]; omega) ?_
    rw [jRun_ev ha]
    have hq : cd ((o : Int) + (a.length : Int)).toNat = jwd 20063 := by rw [show ((o : Int) + (a.length : Int)).toNat = o + a.length by omega]; exact w1
    have hJ : cd ((o : Int) + (a.length : Int) + 1).toNat = jwd ((o : Int) + (a.length : Int) + (b.length : Int) + 3) := by rw [show ((o : Int) + (a.length : Int) + 1).toNat = o + a.length + 1 by omega]; exact w2
    have eJ : (jwd ((o : Int) + (a.length : Int) + (b.length : Int) + 3)).toInt = (o : Int) + (a.length : Int) + (b.length : Int) + 3 := jwd_t (by omega) (by omega)
    by_cases c : jEv nm a = 0
    · have e : jVal nm ((some a, b) :: Ls) = jVal nm Ls := by
        show (if jEv nm a ≠ 0 then _ else _) = _
        rw [if_neg (fun z => z c)]
      rw [e]
      have hh : jHas cd (o + a.length + b.length + 3) (jLay ((o + a.length + b.length + 3 : Nat) : Int) Ls) := by
        rw [show ((o + a.length + b.length + 3 : Nat) : Int) = (o : Int) + (((a ++ jwd 20063 :: jwd ((o : Int) + (a.length : Int) + (b.length : Int) + 3) :: (b ++ [jwd 20059])).length : Nat) : Int) by simp only [List.length_append, List.length_cons, List.length_nil]; omega]
        have h3' := h3
        rw [show o + (a ++ jwd 20063 :: jwd ((o : Int) + (a.length : Int) + (b.length : Int) + 3) :: (b ++ [jwd 20059])).length = o + a.length + b.length + 3 by simp only [List.length_append, List.length_cons, List.length_nil]; omega] at h3'
        exact h3'
      have w := jWr_lay (nm := nm) Ls (o + a.length + b.length + 3) hh (by
        rw [show ((o + a.length + b.length + 3 : Nat) : Int) = (o : Int) + (((a ++ jwd 20063 :: jwd ((o : Int) + (a.length : Int) + (b.length : Int) + 3) :: (b ++ [jwd 20059])).length : Nat) : Int) by simp only [List.length_append, List.length_cons, List.length_nil]; omega]
        simp only [List.length_append, List.length_cons, List.length_nil] at hl ⊢; omega) h9 (fun L hL => hk L (List.mem_cons_of_mem _ hL))
      exact jWr.ask (t := []) w (by omega) hq.symm (by decide) rfl (Or.inr ⟨by rw [c]; decide, by omega, _, hJ.symm, Or.inr ⟨by omega, by omega⟩⟩)
    · have e : jVal nm ((some a, b) :: Ls) = jEv nm b := by
        show (if jEv nm a ≠ 0 then _ else _) = _
        rw [if_pos c]
      rw [e]
      refine jWr.ask (t := []) (a' := ((o + a.length + 1 + 1 : Nat) : Int)) ?_ (by omega) hq.symm (by decide) rfl (Or.inl ⟨Or.inl (fun z => c (j0 z)), by omega⟩)
      refine jWr_run (s := []) h4 hb (by omega) (by simp only [List.length_nil]; omega) ?_
      rw [jRun_ev hb]
      exact jWr.semi (t := []) (w := jwd 20059) (by omega) (by rw [show (((o + a.length + 1 + 1 : Nat) : Int) + (b.length : Int)).toNat = o + a.length + 1 + 1 + b.length by omega]; exact h5.1.symm) (by decide) rfl
theorem jLr.ok {f : Nat → Int32} {n p r : Int} {L : Option (List Int32) × List Int32} (h : jLr f n p r L) (h0 : 0 ≤ r) (hp : 0 ≤ p) : jLok L := by
  obtain ⟨q, c, a1, a2⟩ := h
  rcases a2 with ⟨x1, x2, x3⟩ | ⟨x1, x2, x3, x4⟩ | ⟨x1, x2, c2, x3, x4⟩
  · omega
  · subst x4; exact ⟨a1.ht x1 hp (by decide) (by decide) 0, fun a e => by cases e⟩
  · subst x4; exact ⟨x3.ht h0 (by omega) (by decide) (by decide) 0, fun a e => by cases e; exact a1.ht x1 hp (by decide) (by decide) 0⟩
theorem jLk.ok {f : Nat → Int32} {n : Int} : ∀ (k : Nat) (p r : Int) (Ls : List (Option (List Int32) × List Int32)), jLk f n k p r Ls → 0 ≤ r → 0 ≤ p → ∀ L ∈ Ls, jLok L
  | 0, p, r, Ls, ⟨_, _, e⟩, _, _ => by subst e; intro L hL; cases hL
  | k + 1, p, r, Ls, ⟨_, q, L, a1, a2⟩, h0, hp => by
    rcases a2 with ⟨x1, x2, x3⟩ | ⟨x1, M, x2, x3⟩
    · omega
    · subst x3
      intro L' hL
      rcases List.mem_cons.mp hL with e | e
      · subst e; exact a1.ok x1 (by omega)
      · exact jLk.ok k q r M x2 h0 x1 L' e
theorem jLs.ok {f : Nat → Int32} {n p r : Int} {Ls : List (Option (List Int32) × List Int32)} (h : jLs f n p r Ls) (h0 : 0 ≤ r) (hp : 0 ≤ p) : ∀ L ∈ Ls, jLok L := by
  obtain ⟨q, L, a1, a2⟩ := h
  rcases a2 with ⟨x1, x2, x3⟩ | ⟨x1, M, ⟨k, x2⟩, x3⟩
  · omega
  · subst x3
    intro L' hL
    rcases List.mem_cons.mp hL with e | e
    · subst e; exact a1.ok x1 hp
    · exact jLk.ok k q r M x2 h0 x1 L' e
/-! what a text gives: of the class's words, of the reference's bytes -/
noncomputable def jGc (cd : Nat → Int32) (len : Int) (nm : Nat → Int32) : Int32 := @dite Int32 (∃ v, jWr cd len nm 0 [] v) (Classical.propDecidable _) (fun h => Classical.choose h) (fun _ => 0)
theorem jGc_of {cd nm : Nat → Int32} {len : Int} {v : Int32} (h : jWr cd len nm 0 [] v) : jGc cd len nm = v := by
  unfold jGc
  rw [dif_pos ⟨v, h⟩]
  exact (Classical.choose_spec (⟨v, h⟩ : ∃ v, jWr cd len nm 0 [] v)).det h
noncomputable def jChs (P : Int32 → Prop) : Int32 := @dite Int32 (∃ v, P v) (Classical.propDecidable _) (fun h => Classical.choose h) (fun _ => 0)
noncomputable def jGr (f : Nat → Int32) (n : Int) (nm : Nat → Int32) : Int32 := jChs (fun v => 0 ≤ n ∧ jRx f n nm (-1) v)
theorem jRx.det {f nm : Nat → Int32} {n x : Int} {v w : Int32} (a : jRx f n nm (-1) v) (b : jRx f n nm x w) : x = -1 ∧ v = w := by
  obtain ⟨r, Ls, a1, a2⟩ := a
  obtain ⟨r', Ls', b1, b2⟩ := b
  unfold jTxt at a1 b1
  obtain ⟨e, e2⟩ := a1.det b1
  subst e e2
  rcases a2 with ⟨x1, x2, x3⟩ | ⟨x1, x2⟩
  · rcases b2 with ⟨y1, y2, y3⟩ | ⟨y1, y2⟩
    · exact ⟨y1, by rw [x3, y3]⟩
    · omega
  · omega
theorem jGr_of {f nm : Nat → Int32} {n : Int} {v : Int32} (h0 : 0 ≤ n) (h : jRx f n nm (-1) v) : jGr f n nm = v := by
  unfold jGr jChs
  rw [dif_pos ⟨v, h0, h⟩]
  exact ((Classical.choose_spec (⟨v, h0, h⟩ : ∃ v, 0 ≤ n ∧ jRx f n nm (-1) v)).2.det h).2
theorem jGr_no {f nm : Nat → Int32} {n : Int} (h : n < 0) : jGr f n nm = 0 := by
  unfold jGr jChs
  rw [dif_neg (fun ⟨v, h0, _⟩ => by omega)]
theorem jGc_no {cd nm : Nat → Int32} {len : Int} (h : len ≤ 0) : jGc cd len nm = 0 := jGc_of (jWr.out h)
theorem jGc_txt {f cd nm : Nat → Int32} {n r len : Int} {Ls : List (Option (List Int32) × List Int32)} (h : jTxt f n r Ls) (h0 : 0 ≤ r) (hc : jHas cd 0 (jLay 0 Ls)) (hl : len = ((jLay 0 Ls).length : Int)) (h9 : len ≤ 160) : jGc cd len nm = jVal nm Ls := by
  refine jGc_of ?_
  have w := jWr_lay (cd := cd) (nm := nm) (len := len) Ls 0 hc (by rw [hl]; show _ = ((0 : Nat) : Int) + (((jLay ((0 : Nat) : Int) Ls).length : Nat) : Int); rw [show ((0 : Nat) : Int) = 0 from rfl]; omega) h9 (h.ok h0 (by decide))
  exact w
theorem jGr_txt {f nm : Nat → Int32} {n r : Int} {Ls : List (Option (List Int32) × List Int32)} (h : jTxt f n r Ls) (h0 : 0 ≤ r) (hn : 0 ≤ n) : jGr f n nm = jVal nm Ls :=
  jGr_of hn ⟨r, Ls, h, Or.inl ⟨rfl, h0, rfl⟩⟩
/-! the chances' store: keys and what they tell -/
def jKy (tx as l r o w : Int32) : Int32 := (tx <<< ((19 : Int32) &&& 31)) ||| (((((l &&& 31) <<< ((14 : Int32) &&& 31)) ||| (r <<< ((8 : Int32) &&& 31))) ||| ((o &&& 15) <<< ((4 : Int32) &&& 31)) ||| (w &&& 15)) &&& as)
theorem jshl {x : Int32} {n : Nat} (h : n < 32) : (x <<< ((Int32.ofNat n) &&& 31)).toBitVec = x.toBitVec <<< n := by
  have h9 : n = 0 ∨ n = 1 ∨ n = 2 ∨ n = 3 ∨ n = 4 ∨ n = 5 ∨ n = 6 ∨ n = 7 ∨ n = 8 ∨ n = 9 ∨ n = 10 ∨ n = 11 ∨ n = 12 ∨ n = 13 ∨ n = 14 ∨ n = 15 ∨ n = 16 ∨ n = 17 ∨ n = 18 ∨ n = 19 ∨ n = 20 ∨ n = 21 ∨ n = 22 ∨ n = 23 ∨ n = 24 ∨ n = 25 ∨ n = 26 ∨ n = 27 ∨ n = 28 ∨ n = 29 ∨ n = 30 ∨ n = 31 := by omega
  rcases h9 with rfl | rfl | rfl | rfl | rfl | rfl | rfl | rfl | rfl | rfl | rfl | rfl | rfl | rfl | rfl | rfl | rfl | rfl | rfl | rfl | rfl | rfl | rfl | rfl | rfl | rfl | rfl | rfl | rfl | rfl | rfl | rfl <;> rfl
theorem jnat_t {x : Int32} (h : 0 ≤ x.toInt) : (x.toBitVec.toNat : Int) = x.toInt := by
  have e : x.toInt = x.toBitVec.toInt := rfl
  have l := x.toBitVec.isLt
  rw [e, BitVec.toInt_eq_toNat_cond] at h ⊢
  by_cases c : 2 * x.toBitVec.toNat < 2 ^ 32
  · rw [if_pos c]
  · rw [if_neg c] at h; exfalso; omega
/-- bit i of the fields -/
def jFb (l r o w : Int32) (i : Nat) : Bool := (decide (14 ≤ i ∧ i < 19) && l.toBitVec.getLsbD (i - 14)) || (decide (8 ≤ i) && r.toBitVec.getLsbD (i - 8)) || (decide (4 ≤ i ∧ i < 8) && o.toBitVec.getLsbD (i - 4)) || (decide (i < 4) && w.toBitVec.getLsbD i)
theorem jlow (n k i : Nat) (e : n + 1 = 2 ^ k) (h : k ≤ 31) : (BitVec.ofNat 32 n).getLsbD i = decide (i < k) := by
  rw [BitVec.getLsbD_ofNat, show n = 2 ^ k - 1 by omega, Nat.testBit_two_pow_sub_one]
  by_cases h1 : i < k
  · simp [h1]; omega
  · simp [h1]
theorem jKy_bit (tx as l r o w : Int32) (i : Nat) (h : i < 19) : (jKy tx as l r o w).toBitVec.getLsbD i = (jFb l r o w i && as.toBitVec.getLsbD i) := by
  have e : (jKy tx as l r o w).toBitVec = (tx.toBitVec <<< 19) ||| (((((l.toBitVec &&& 31#32) <<< 14) ||| (r.toBitVec <<< 8)) ||| ((o.toBitVec &&& 15#32) <<< 4) ||| (w.toBitVec &&& 15#32)) &&& as.toBitVec) := by
    show ((tx <<< ((Int32.ofNat 19) &&& 31)).toBitVec) ||| ((((((l &&& 31) <<< ((Int32.ofNat 14) &&& 31)).toBitVec) ||| ((r <<< ((Int32.ofNat 8) &&& 31)).toBitVec)) ||| (((o &&& 15) <<< ((Int32.ofNat 4) &&& 31)).toBitVec) ||| (w &&& 15).toBitVec) &&& as.toBitVec) = _
    rw [jshl (by decide), jshl (by decide), jshl (by decide), jshl (by decide)]; rfl
  rw [e]
  have h31 : ∀ j : Nat, (31#32).getLsbD j = decide (j < 5) := fun j => jlow 31 5 j (by decide) (by decide)
  have h15 : ∀ j : Nat, (15#32).getLsbD j = decide (j < 4) := fun j => jlow 15 4 j (by decide) (by decide)
  simp only [BitVec.getLsbD_or, BitVec.getLsbD_and, BitVec.getLsbD_shiftLeft, h31, h15]
  unfold jFb
  have h32 : i < 32 := by omega
  have a1 : decide (i < 19) = true := by simp [h]
  simp only [a1, h32, decide_true, Bool.true_and, Bool.not_true, Bool.false_and, Bool.false_or]
  congr 1
  by_cases c1 : 14 ≤ i
  · have c2 : ¬ i < 8 := by omega
    have c3 : ¬ i < 4 := by omega
    have c4 : i - 14 < 5 := by omega
    have c5 : ¬ i < 14 := by omega
    have c6 : ¬ (i - 4 < 4) := by omega
    have c7 : 8 ≤ i := by omega
    simp [c1, c2, c3, c4, c5, c6, c7, h]
  · by_cases c2 : 8 ≤ i
    · have c3 : ¬ i < 8 := by omega
      have c4 : ¬ i < 4 := by omega
      have c5 : i < 14 := by omega
      have c6 : ¬ (i - 4 < 4) := by omega
      simp [c1, c2, c3, c4, c5, c6]
    · by_cases c3 : 4 ≤ i
      · have c4 : ¬ i < 4 := by omega
        have c5 : i < 14 := by omega
        have c6 : i - 4 < 4 := by omega
        have c7 : i < 8 := by omega
        simp [c1, c2, c3, c4, c5, c6, c7]
      · have c5 : i < 14 := by omega
        have c7 : i < 8 := by omega
        have c8 : i < 4 := by omega
        simp [c1, c2, c3, c5, c7, c8]
def jTop (K : Int32) : Nat := (K.toBitVec >>> 19).toNat
theorem jbitF {x : Int32} {n i : Nat} (h : x.toBitVec.toNat < 2 ^ n) (hi : n ≤ i) : x.toBitVec.getLsbD i = false :=
  Nat.testBit_lt_two_pow (Nat.lt_of_lt_of_le h (Nat.pow_le_pow_right (by decide) hi))
theorem jTop_ky {tx as l r o w : Int32} (h0 : 0 ≤ tx.toInt) (h1 : tx.toInt < 8192) (r0 : 0 ≤ r.toInt) (r1 : r.toInt < 64) : jTop (jKy tx as l r o w) = tx.toInt.toNat := by
  have et := jnat_t h0
  have er := jnat_t r0
  have ht : tx.toBitVec.toNat < 2 ^ 13 := by omega
  have hr : r.toBitVec.toNat < 2 ^ 6 := by omega
  have e : (jKy tx as l r o w).toBitVec = (tx.toBitVec <<< 19) ||| (((((l.toBitVec &&& 31#32) <<< 14) ||| (r.toBitVec <<< 8)) ||| ((o.toBitVec &&& 15#32) <<< 4) ||| (w.toBitVec &&& 15#32)) &&& as.toBitVec) := by
    show ((tx <<< ((Int32.ofNat 19) &&& 31)).toBitVec) ||| ((((((l &&& 31) <<< ((Int32.ofNat 14) &&& 31)).toBitVec) ||| ((r <<< ((Int32.ofNat 8) &&& 31)).toBitVec)) ||| (((o &&& 15) <<< ((Int32.ofNat 4) &&& 31)).toBitVec) ||| (w &&& 15).toBitVec) &&& as.toBitVec) = _
    rw [jshl (by decide), jshl (by decide), jshl (by decide), jshl (by decide)]; rfl
  have h31 : ∀ j : Nat, (31#32).getLsbD j = decide (j < 5) := fun j => jlow 31 5 j (by decide) (by decide)
  have h15 : ∀ j : Nat, (15#32).getLsbD j = decide (j < 4) := fun j => jlow 15 4 j (by decide) (by decide)
  have k : (jKy tx as l r o w).toBitVec >>> 19 = tx.toBitVec := by
    apply BitVec.eq_of_getLsbD_eq
    intro i hi
    rw [BitVec.getLsbD_ushiftRight, e]
    simp only [BitVec.getLsbD_or, BitVec.getLsbD_and, BitVec.getLsbD_shiftLeft, h31, h15]
    by_cases c : 19 + i < 32
    · have a1 : ¬ (19 + i < 19) := by omega
      have a2 : ¬ (19 + i - 14 < 5) := by omega
      have a3 : ¬ (19 + i - 4 < 4) := by omega
      have a4 : ¬ (19 + i < 4) := by omega
      have a5 : 19 + i - 19 = i := by omega
      have a6 : r.toBitVec.getLsbD (19 + i - 8) = false := jbitF hr (by omega)
      simp [c, a1, a2, a3, a4, a5, a6]
    · have a1 : tx.toBitVec.getLsbD i = false := jbitF ht (by omega)
      have a4 : ¬ (19 + i < 4) := by omega
      simp [c, a1, a4]
  unfold jTop
  rw [k]; omega
theorem jbits {a b n : Nat} (h : ∀ j : Nat, j < n → a.testBit j = b.testBit j) : a % 2 ^ n = b % 2 ^ n := by
  apply Nat.eq_of_testBit_eq
  intro j
  rw [Nat.testBit_mod_two_pow, Nat.testBit_mod_two_pow]
  by_cases c : j < n
  · simp [c, h j c]
  · simp [c]
theorem jbits_sh {a b n q : Nat} (h : ∀ j : Nat, j < n → a.testBit (q + j) = b.testBit (q + j)) : a / 2 ^ q % 2 ^ n = b / 2 ^ q % 2 ^ n :=
  jbits (fun j hj => by rw [Nat.testBit_div_two_pow, Nat.testBit_div_two_pow, Nat.add_comm j q]; exact h j hj)
def jRgo (l r o w : Int32) : Prop := (-16 ≤ l.toInt ∧ l.toInt ≤ 15) ∧ (0 ≤ r.toInt ∧ r.toInt < 64) ∧ (0 ≤ o.toInt ∧ o.toInt ≤ 15) ∧ (0 ≤ w.toInt ∧ w.toInt ≤ 15)
theorem jl32 {x : Int32} : x.toInt % 32 = ((x.toBitVec.toNat % 2 ^ 5 : Nat) : Int) := by
  have e : x.toInt = x.toBitVec.toInt := rfl
  have l := x.toBitVec.isLt
  rw [e, BitVec.toInt_eq_toNat_cond]
  by_cases c : 2 * x.toBitVec.toNat < 2 ^ 32
  · rw [if_pos c]; omega
  · rw [if_neg c]; omega
theorem jf_w {l r o w l' r' o' w' : Int32} (a : jRgo l r o w) (b : jRgo l' r' o' w') (h : ∀ i : Nat, i < 4 → jFb l r o w i = jFb l' r' o' w' i) : w = w' := by
  have e := jnat_t a.2.2.2.1
  have e' := jnat_t b.2.2.2.1
  have k := jbits (a := w.toBitVec.toNat) (b := w'.toBitVec.toNat) (n := 4) (fun j hj => by
    have q := h j hj
    unfold jFb at q
    have c1 : ¬ (14 ≤ j) := by omega
    have c2 : ¬ (8 ≤ j) := by omega
    have c3 : ¬ (4 ≤ j) := by omega
    simp only [c1, c2, c3, hj, false_and, decide_false, decide_true, Bool.false_and, Bool.true_and, Bool.false_or] at q
    exact q)
  have a4 := a.2.2.2
  have b4 := b.2.2.2
  exact Int32.toInt_inj.mp (by omega)
theorem jf_o {l r o w l' r' o' w' : Int32} (a : jRgo l r o w) (b : jRgo l' r' o' w') (h : ∀ i : Nat, 4 ≤ i → i < 8 → jFb l r o w i = jFb l' r' o' w' i) : o = o' := by
  have e := jnat_t a.2.2.1.1
  have e' := jnat_t b.2.2.1.1
  have k := jbits (a := o.toBitVec.toNat) (b := o'.toBitVec.toNat) (n := 4) (fun j hj => by
    have q := h (4 + j) (by omega) (by omega)
    unfold jFb at q
    have c1 : ¬ (14 ≤ 4 + j) := by omega
    have c2 : ¬ (8 ≤ 4 + j) := by omega
    have c3 : 4 ≤ 4 + j := by omega
    have c4 : 4 + j < 8 := by omega
    have c5 : ¬ (4 + j < 4) := by omega
    have c6 : 4 + j - 4 = j := by omega
    simp only [c1, c2, c3, c4, c5, c6, false_and, and_self, decide_false, decide_true, Bool.false_and, Bool.true_and, Bool.false_or, Bool.or_false] at q
    exact q)
  have a4 := a.2.2.1
  have b4 := b.2.2.1
  exact Int32.toInt_inj.mp (by omega)
theorem jf_r {l r o w l' r' o' w' : Int32} {q n : Nat} (hq : q + n ≤ 6) (h : ∀ i : Nat, 8 + q ≤ i → i < 8 + q + n → jFb l r o w i = jFb l' r' o' w' i) : r.toBitVec.toNat / 2 ^ q % 2 ^ n = r'.toBitVec.toNat / 2 ^ q % 2 ^ n :=
  jbits_sh (fun j hj => by
    have k := h (8 + q + j) (by omega) (by omega)
    unfold jFb at k
    have c1 : ¬ (14 ≤ 8 + q + j) := by omega
    have c2 : 8 ≤ 8 + q + j := by omega
    have c4 : ¬ (8 + q + j < 8) := by omega
    have c5 : ¬ (8 + q + j < 4) := by omega
    have c6 : 8 + q + j - 8 = q + j := by omega
    simp only [c1, c2, c4, c5, c6, false_and, and_false, decide_false, decide_true, Bool.false_and, Bool.true_and, Bool.false_or, Bool.or_false] at k
    exact k)
theorem jf_l {l r o w l' r' o' w' : Int32} (a : jRgo l r o w) (b : jRgo l' r' o' w') (h : ∀ i : Nat, 14 ≤ i → i < 19 → jFb l r o w i = jFb l' r' o' w' i) : l = l' := by
  have er := jnat_t a.2.1.1
  have er' := jnat_t b.2.1.1
  have a2 := a.2.1
  have b2 := b.2.1
  have k := jbits (a := l.toBitVec.toNat) (b := l'.toBitVec.toNat) (n := 5) (fun j hj => by
    have q := h (14 + j) (by omega) (by omega)
    unfold jFb at q
    have c1 : 14 ≤ 14 + j := by omega
    have c0 : 14 + j < 19 := by omega
    have c2 : 8 ≤ 14 + j := by omega
    have c4 : ¬ (14 + j < 8) := by omega
    have c5 : ¬ (14 + j < 4) := by omega
    have c6 : 14 + j - 14 = j := by omega
    have d1 : r.toBitVec.getLsbD (14 + j - 8) = false := jbitF (n := 6) (by omega) (by omega)
    have d2 : r'.toBitVec.getLsbD (14 + j - 8) = false := jbitF (n := 6) (by omega) (by omega)
    simp only [c0, c1, c2, c4, c5, c6, d1, d2, and_self, and_false, decide_false, decide_true, Bool.false_and, Bool.true_and, Bool.and_false, Bool.or_false] at q
    exact q)
  have e1 := jl32 (x := l)
  have e2 := jl32 (x := l')
  rw [k] at e1
  have a4 := a.1
  have b4 := b.1
  exact Int32.toInt_inj.mp (by omega)
/-- the names of an over as the ball's text has them -/
def jN6 (l r o w : Int32) : Nat → Int32 := fun k => if k = 0 then o else if k = 1 then w else if k = 2 then jwd (r.toInt / 4 % 4) else if k = 3 then jwd (r.toInt / 16) else if k = 4 then jwd (r.toInt % 4) else if k = 5 then l else 0
def jMk (k i : Nat) : Prop := (k = 0 ∧ 4 ≤ i ∧ i < 8) ∨ (k = 1 ∧ i < 4) ∨ (k = 2 ∧ 10 ≤ i ∧ i < 12) ∨ (k = 3 ∧ 12 ≤ i ∧ i < 14) ∨ (k = 4 ∧ 8 ≤ i ∧ i < 10) ∨ (k = 5 ∧ 14 ≤ i ∧ i < 19)
def jAskn (as m : Int32) (n : Int) : Prop := ∀ k : Nat, (k : Int) < n → m.toBitVec.getLsbD k = true → ∀ i : Nat, jMk k i → as.toBitVec.getLsbD i = true
def jDep (G : (Nat → Int32) → Int32) (m : Int32) : Prop := ∀ nm nm' : Nat → Int32, (∀ k : Nat, k < 8 → m.toBitVec.getLsbD k = true → nm k = nm' k) → G nm = G nm'
theorem jKy_same {tx as m l r o w l' r' o' w' : Int32} {G : (Nat → Int32) → Int32} (hA : jAskn as m 6) (hG : jDep G m) (a : jRgo l r o w) (b : jRgo l' r' o' w') (e : jKy tx as l r o w = jKy tx as l' r' o' w') : G (jN6 l r o w) = G (jN6 l' r' o' w') := by
  have hb : ∀ i : Nat, i < 19 → as.toBitVec.getLsbD i = true → jFb l r o w i = jFb l' r' o' w' i := fun i hi ha => by
    have k := jKy_bit tx as l r o w i hi
    rw [e, jKy_bit tx as l' r' o' w' i hi, ha, Bool.and_true, Bool.and_true] at k
    exact k.symm
  have er := jnat_t a.2.1.1
  have er' := jnat_t b.2.1.1
  have a2 := a.2.1
  have b2 := b.2.1
  refine hG _ _ (fun k hk hm => ?_)
  by_cases k0 : k = 0
  · subst k0; show o = o'; exact jf_o a b (fun i h1 h2 => hb i (by omega) (hA 0 (by decide) hm i (Or.inl ⟨rfl, h1, h2⟩)))
  by_cases k1 : k = 1
  · subst k1; show w = w'; exact jf_w a b (fun i h1 => hb i (by omega) (hA 1 (by decide) hm i (Or.inr (Or.inl ⟨rfl, h1⟩))))
  by_cases k2 : k = 2
  · subst k2
    have q := jf_r (q := 2) (n := 2) (by decide) (fun i h1 h2 => hb i (by omega) (hA 2 (by decide) hm i (Or.inr (Or.inr (Or.inl ⟨rfl, by omega, by omega⟩)))))
    have e9 : r.toInt / 4 % 4 = r'.toInt / 4 % 4 := by omega
    show jwd (r.toInt / 4 % 4) = jwd (r'.toInt / 4 % 4)
    rw [e9]
  by_cases k3 : k = 3
  · subst k3
    have q := jf_r (q := 4) (n := 2) (by decide) (fun i h1 h2 => hb i (by omega) (hA 3 (by decide) hm i (Or.inr (Or.inr (Or.inr (Or.inl ⟨rfl, by omega, by omega⟩))))))
    have e9 : r.toInt / 16 = r'.toInt / 16 := by omega
    show jwd (r.toInt / 16) = jwd (r'.toInt / 16)
    rw [e9]
  by_cases k4 : k = 4
  · subst k4
    have q := jf_r (q := 0) (n := 2) (by decide) (fun i h1 h2 => hb i (by omega) (hA 4 (by decide) hm i (Or.inr (Or.inr (Or.inr (Or.inr (Or.inl ⟨rfl, by omega, by omega⟩)))))))
    have e9 : r.toInt % 4 = r'.toInt % 4 := by omega
    show jwd (r.toInt % 4) = jwd (r'.toInt % 4)
    rw [e9]
  by_cases k5 : k = 5
  · subst k5; show l = l'; exact jf_l a b (fun i h1 h2 => hb i (by omega) (hA 5 (by decide) hm i (Or.inr (Or.inr (Or.inr (Or.inr (Or.inr ⟨rfl, h1, h2⟩)))))))
  unfold jN6
  rw [if_neg k0, if_neg k1, if_neg k2, if_neg k3, if_neg k4, if_neg k5, if_neg k0, if_neg k1, if_neg k2, if_neg k3, if_neg k4, if_neg k5]
/-- the store -/
def jOdc (K Gf : Nat → Int32) (tx as : Int32) (G : (Nat → Int32) → Int32) : Prop := ∀ s : Nat, s < 4096 → jTop (K s) < tx.toInt.toNat ∨ ∃ l r o w : Int32, jRgo l r o w ∧ K s = jKy tx as l r o w ∧ Gf s = G (jN6 l r o w)
theorem jOdc.hit {K Gf : Nat → Int32} {tx as m l r o w : Int32} {G : (Nat → Int32) → Int32} {s : Nat} (h : jOdc K Gf tx as G) (hA : jAskn as m 6) (hG : jDep G m) (hs : s < 4096) (t0 : 0 ≤ tx.toInt) (t1 : tx.toInt < 8192) (a : jRgo l r o w) (e : K s = jKy tx as l r o w) : Gf s = G (jN6 l r o w) := by
  rcases h s hs with k | ⟨l', r', o', w', b, e', g⟩
  · rw [e, jTop_ky t0 t1 a.2.1.1 a.2.1.2] at k; omega
  · rw [g]; exact (jKy_same hA hG a b (e.symm.trans e')).symm
theorem jOdc.put {K Gf K' Gf' : Nat → Int32} {tx as l r o w : Int32} {G : (Nat → Int32) → Int32} {s : Nat} {k g : Int32} (h : jOdc K Gf tx as G) (a : jRgo l r o w) (eK : K' = jupd K s k) (eG : Gf' = jupd Gf s g) (ek : k = jKy tx as l r o w) (eg : g = G (jN6 l r o w)) : jOdc K' Gf' tx as G := by
  subst eK eG
  intro j hj
  unfold jupd
  by_cases c : j = s
  · rw [if_pos c, if_pos c]; exact Or.inr ⟨l, r, o, w, a, ek, eg⟩
  · rw [if_neg c, if_neg c]; exact h j hj
theorem jOdc.forget {K Gf : Nat → Int32} {tx tx' as as' : Int32} {G G' : (Nat → Int32) → Int32} (h : jOdc K Gf tx as G) (t0 : 0 ≤ tx.toInt) (t1 : tx.toInt < 8192) (e : tx'.toInt = tx.toInt + 1) : jOdc K Gf tx' as' G' := by
  intro s hs
  rcases h s hs with k | ⟨l, r, o, w, a, e', g⟩
  · exact Or.inl (by omega)
  · exact Or.inl (by rw [e', jTop_ky t0 t1 a.2.1.1 a.2.1.2]; omega)
theorem jOdc.first {tx as : Int32} {G : (Nat → Int32) → Int32} {K Gf : Nat → Int32} (e : ∀ s : Nat, s < 4096 → K s = 0) (t : 1 ≤ tx.toInt) : jOdc K Gf tx as G := fun s hs => Or.inl (by rw [e s hs, show jTop 0 = 0 from rfl]; omega)
/-- which names stand among the words -/
def jNamed (cd : Nat → Int32) (len : Int) (m : Int32) : Prop := ∀ q : Nat, (q : Int) < len → ∀ k : Nat, k < 8 → (cd q).toInt = 10000 + (k : Int) → m.toBitVec.getLsbD k = true
theorem jNamed.first {cd : Nat → Int32} {len : Int} {m : Int32} (h : len ≤ 0) : jNamed cd len m := fun q hq => absurd hq (by omega)
theorem jsetbit {m : Int32} {k : Nat} (hk : k < 8) (j : Nat) : (m ||| ((1 : Int32) <<< ((Int32.ofNat k) &&& 31))).toBitVec.getLsbD j = (m.toBitVec.getLsbD j || decide (j = k)) := by
  have e : (m ||| ((1 : Int32) <<< ((Int32.ofNat k) &&& 31))).toBitVec = m.toBitVec ||| (1#32 <<< k) := by
    show m.toBitVec ||| ((1 : Int32) <<< ((Int32.ofNat k) &&& 31)).toBitVec = _
    rw [jshl (by omega)]; rfl
  rw [e, BitVec.getLsbD_or, BitVec.getLsbD_shiftLeft, BitVec.getLsbD_one]
  by_cases c : j = k
  · have a1 : j < 32 := by omega
    simp [c, a1]; omega
  · by_cases c2 : j < k
    · have : ¬ (j = k) := c
      simp [c2, this]
    · have c3 : ¬ (j - k = 0) := by omega
      simp [c3, c]
theorem jNamed.add {cd cd' : Nat → Int32} {len len' : Int} {m m' w : Int32} (h : jNamed cd len m) (e : cd' = jupd cd len.toNat w) (el : len' = len + 1) (h0 : 0 ≤ len) (em : (m' = m ∧ (w.toInt < 10000 ∨ 10008 ≤ w.toInt)) ∨ (∃ x : Int32, m' = m ||| ((1 : Int32) <<< (x &&& 31)) ∧ x.toInt = w.toInt - 10000 ∧ 10000 ≤ w.toInt ∧ w.toInt ≤ 10007)) : jNamed cd' len' m' := by
  subst e
  intro q hq k hk hw
  unfold jupd at hw
  rcases em with ⟨e1, e2⟩ | ⟨x, e1, e2, e3, e4⟩
  · rw [e1]
    by_cases c : q = len.toNat
    · rw [if_pos c] at hw; omega
    · rw [if_neg c] at hw; exact h q (by omega) k hk hw
  · have ex : x = Int32.ofNat (w.toInt - 10000).toNat := by
      rw [← e2]; exact jofn (by omega) (by omega)
    rw [e1, ex, jsetbit (by omega)]
    by_cases c : q = len.toNat
    · rw [if_pos c] at hw
      have : k = (w.toInt - 10000).toNat := by omega
      rw [show decide (k = (w.toInt - 10000).toNat) = true by simp [this], Bool.or_true]
    · rw [if_neg c] at hw
      rw [h q (by omega) k hk hw, Bool.true_or]
theorem jNamed.put {cd cd' : Nat → Int32} {len : Int} {m w : Int32} {q : Nat} (h : jNamed cd len m) (e : cd' = jupd cd q w) (hw : w.toInt < 10000) : jNamed cd' len m := by
  subst e
  intro j hj k hk he
  unfold jupd at he
  by_cases c : j = q
  · rw [if_pos c] at he; omega
  · rw [if_neg c] at he; exact h j hj k hk he
theorem jNamed.copy {cd cd' : Nat → Int32} {len : Int} {m : Int32} (h : jNamed cd len m) (e : ∀ j : Nat, (j : Int) < len → cd' j = cd j) : jNamed cd' len m := fun q hq k hk he => h q hq k hk (by rw [← e q hq]; exact he)
theorem jHas_mem {cd : Nat → Int32} {c : List Int32} {w : Int32} : ∀ {q : Nat}, jHas cd q c → w ∈ c → ∃ j : Nat, q ≤ j ∧ j < q + c.length ∧ cd j = w := by
  induction c with
  | nil => intro q _ h; cases h
  | cons x c ih =>
    intro q h hw
    rcases List.mem_cons.mp hw with e | e
    · exact ⟨q, by omega, by simp only [List.length_cons]; omega, by rw [h.1, e]⟩
    · obtain ⟨j, a, b, d⟩ := ih h.2 e
      exact ⟨j, by omega, by simp only [List.length_cons]; omega, d⟩
theorem jHt_mem {c : List Int32} {w : Int32} : ∀ {h h' : Nat}, jHt h c = some h' → w ∈ c → 10000 ≤ w.toInt → w.toInt < 20000 → w.toInt ≤ 10007 := by
  induction c with
  | nil => intro h h' _ hw; cases hw
  | cons x c ih =>
    intro h h' ht hw h1 h2
    rw [jHt] at ht
    by_cases c1 : x.toInt < 0
    · rw [if_pos c1] at ht; cases ht
    rw [if_neg c1] at ht
    by_cases c2 : x.toInt < 20000
    · rw [if_pos c2] at ht
      by_cases c3 : x.toInt < 10000 ∨ x.toInt ≤ 10007
      · rw [if_pos c3] at ht
        rcases List.mem_cons.mp hw with e | e
        · subst e; omega
        · exact ih ht e h1 h2
      · rw [if_neg c3] at ht; cases ht
    rw [if_neg c2] at ht
    rcases List.mem_cons.mp hw with e | e
    · subst e; omega
    by_cases c4 : x.toInt = 20033 ∨ x.toInt = 20126
    · rw [if_pos c4] at ht
      by_cases c5 : h = 0
      · rw [if_pos c5] at ht; cases ht
      · rw [if_neg c5] at ht; exact ih ht e h1 h2
    rw [if_neg c4] at ht
    by_cases c6 : x.toInt = 20059 ∨ x.toInt = 20063
    · rw [if_pos c6] at ht; cases ht
    rw [if_neg c6] at ht
    by_cases c7 : h < 2
    · rw [if_pos c7] at ht; cases ht
    · rw [if_neg c7] at ht; exact ih ht e h1 h2
theorem jRun_nm {nm nm' : Nat → Int32} {c : List Int32} : ∀ {s : List Int32}, (∀ w ∈ c, 10000 ≤ w.toInt → w.toInt < 20000 → nm (w.toInt - 10000).toNat = nm' (w.toInt - 10000).toNat) → jRun nm c s = jRun nm' c s := by
  induction c with
  | nil => intro s _; rfl
  | cons x c ih =>
    intro s h
    have e : jWo nm x s = jWo nm' x s := by
      unfold jWo
      by_cases c1 : x.toInt < 10000
      · rw [if_pos c1, if_pos c1]
      · rw [if_neg c1, if_neg c1]
        by_cases c2 : x.toInt < 20000
        · rw [if_pos c2, if_pos c2, h x (List.mem_cons_self ..) (by omega) c2]
        · rw [if_neg c2, if_neg c2]
    show jRun nm c (jWo nm x s) = jRun nm' c (jWo nm' x s)
    rw [e]; exact ih (fun w hw => h w (List.mem_cons_of_mem _ hw))
theorem jVal_nm {nm nm' : Nat → Int32} : ∀ (Ls : List (Option (List Int32) × List Int32)), (∀ L ∈ Ls, (∀ w ∈ L.2, 10000 ≤ w.toInt → w.toInt < 20000 → nm (w.toInt - 10000).toNat = nm' (w.toInt - 10000).toNat) ∧ ∀ a, L.1 = some a → ∀ w ∈ a, 10000 ≤ w.toInt → w.toInt < 20000 → nm (w.toInt - 10000).toNat = nm' (w.toInt - 10000).toNat) → jVal nm Ls = jVal nm' Ls
  | [], _ => rfl
  | (x, b) :: Ls, h => by
    obtain ⟨h1, h2⟩ := h _ (List.mem_cons_self ..)
    have e1 : jEv nm b = jEv nm' b := by unfold jEv; rw [jRun_nm h1]
    have e2 : jCdn nm (x, b) = jCdn nm' (x, b) := by
      match x, h2 with
      | none, _ => rfl
      | some a, h2 => show jEv nm a = jEv nm' a; unfold jEv; rw [jRun_nm (h2 a rfl)]
    show (if jCdn nm (x, b) ≠ 0 then jEv nm b else jVal nm Ls) = (if jCdn nm' (x, b) ≠ 0 then jEv nm' b else jVal nm' Ls)
    rw [e1, e2, jVal_nm Ls (fun L hL => h L (List.mem_cons_of_mem _ hL))]
theorem jLay_mem {w : Int32} : ∀ (Ls : List (Option (List Int32) × List Int32)) (o : Int) (L : Option (List Int32) × List Int32), L ∈ Ls → (w ∈ L.2 ∨ ∃ a, L.1 = some a ∧ w ∈ a) → w ∈ jLay o Ls
  | [], _, _, h, _ => by cases h
  | M :: Ls, o, L, h, hw => by
    show w ∈ jLc o M ++ jLay _ Ls
    rcases List.mem_cons.mp h with e | e
    · subst e
      refine List.mem_append_left _ ?_
      match L, hw with
      | (none, b), hw =>
        show w ∈ b ++ [jwd 20059]
        rcases hw with q | ⟨a, e, _⟩
        · exact List.mem_append_left _ q
        · cases e
      | (some a, b), hw =>
        show w ∈ a ++ jwd 20063 :: jwd _ :: (b ++ [jwd 20059])
        rcases hw with q | ⟨a', e, q⟩
        · exact List.mem_append_right _ (List.mem_cons_of_mem _ (List.mem_cons_of_mem _ (List.mem_append_left _ q)))
        · cases e; exact List.mem_append_left _ q
    · exact List.mem_append_right _ (jLay_mem Ls _ L e hw)
theorem jDep_txt {f cd : Nat → Int32} {n r len : Int} {m : Int32} {Ls : List (Option (List Int32) × List Int32)} (h : jTxt f n r Ls) (h0 : 0 ≤ r) (hc : jHas cd 0 (jLay 0 Ls)) (hl : len = ((jLay 0 Ls).length : Int)) (h9 : len ≤ 160) (hm : jNamed cd len m) : jDep (jGc cd len) m := by
  intro nm nm' e
  rw [jGc_txt h h0 hc hl h9, jGc_txt h h0 hc hl h9]
  have ok := h.ok h0 (by decide)
  have key : ∀ w : Int32, w ∈ jLay 0 Ls → 10000 ≤ w.toInt → w.toInt ≤ 10007 → nm (w.toInt - 10000).toNat = nm' (w.toInt - 10000).toNat := fun w hw h1 h2 => by
    obtain ⟨j, a, b, d⟩ := jHas_mem hc hw
    exact e _ (by omega) (hm j (by omega) (w.toInt - 10000).toNat (by omega) (by rw [d]; omega))
  refine jVal_nm Ls (fun L hL => ⟨fun w hw h1 h2 => ?_, fun a ea w hw h1 h2 => ?_⟩)
  · exact key w (jLay_mem Ls 0 L hL (Or.inl hw)) h1 (jHt_mem (ok L hL).1 hw h1 h2)
  · exact key w (jLay_mem Ls 0 L hL (Or.inr ⟨a, ea, hw⟩)) h1 (jHt_mem ((ok L hL).2 a ea) hw h1 h2)
theorem jand1 (x : BitVec 32) : x &&& 1#32 = if x.getLsbD 0 then 1#32 else 0#32 := by
  apply BitVec.eq_of_getLsbD_eq
  intro i hi
  rw [BitVec.getLsbD_and, BitVec.getLsbD_one]
  by_cases c : i = 0
  · subst c
    by_cases d : x.getLsbD 0 = true
    · rw [if_pos d]; simp [d]
    · rw [if_neg d]; simp at d; simp [d]
  · by_cases d : x.getLsbD 0 = true
    · rw [if_pos d, BitVec.getLsbD_one]; simp [c]
    · rw [if_neg d]; simp [c]
theorem juses {m : Int32} (k : Nat) (hk : k < 8) : ((m >>> ((Int32.ofNat k) &&& 31)) &&& 1).toInt ≠ 0 ↔ m.toBitVec.getLsbD k = true := by
  have e : ((m >>> ((Int32.ofNat k) &&& 31)) &&& 1).toBitVec = (m.toBitVec.sshiftRight k) &&& 1#32 := by
    have h9 : k = 0 ∨ k = 1 ∨ k = 2 ∨ k = 3 ∨ k = 4 ∨ k = 5 ∨ k = 6 ∨ k = 7 := by omega
    rcases h9 with rfl | rfl | rfl | rfl | rfl | rfl | rfl | rfl <;> rfl
  have b : (m.toBitVec.sshiftRight k).getLsbD 0 = m.toBitVec.getLsbD k := by
    rw [BitVec.getLsbD_sshiftRight]
    have h2 : k + 0 < 32 := by omega
    have h3 : k < 32 := by omega
    simp [h3]
  rw [jand1, b] at e
  have ei : ((m >>> ((Int32.ofNat k) &&& 31)) &&& 1).toInt = (((m >>> ((Int32.ofNat k) &&& 31)) &&& 1).toBitVec).toInt := rfl
  rw [ei, e]
  by_cases c : m.toBitVec.getLsbD k = true
  · rw [if_pos c]; exact ⟨fun _ => c, fun _ => by decide⟩
  · rw [if_neg c]; exact ⟨fun z => absurd rfl z, fun z => absurd z c⟩
/-! an attack in one int: below 2 ^ 27 -/
def jT27 (x : Int32) : Prop := 0 ≤ x.toInt ∧ x.toInt ≤ 134217727
theorem jT27.bit {x : Int32} (h : jT27 x) (i : Nat) (hi : 27 ≤ i) : x.toBitVec.getLsbD i = false := by
  have e := jnat_t h.1
  have l := h.2
  exact jbitF (n := 27) (by omega) hi
theorem jT27.of {x : Int32} (h : ∀ i : Nat, 27 ≤ i → x.toBitVec.getLsbD i = false) : jT27 x := by
  have l : x.toBitVec.toNat < 2 ^ 27 := Nat.lt_pow_two_of_testBit _ (fun i hi => h i hi)
  have e : x.toInt = x.toBitVec.toInt := rfl
  rw [BitVec.toInt_eq_toNat_cond] at e
  rw [if_pos (by omega)] at e
  exact ⟨by omega, by omega⟩
theorem jpub27 {a v m : BitVec 32} {p : Nat} (h : ∀ i : Nat, 27 ≤ i → a.getLsbD i = false) (hm : ∀ i : Nat, 27 ≤ i + p → m.getLsbD i = false) : ∀ i : Nat, 27 ≤ i → (jpub a p m v).getLsbD i = false := by
  intro i hi
  unfold jpub
  rw [BitVec.getLsbD_or, BitVec.getLsbD_and, h i hi, BitVec.getLsbD_shiftLeft, BitVec.getLsbD_and]
  by_cases c : i < p
  · simp [c]
  · rw [hm (i - p) (by omega)]; simp
theorem jT27_Wl {a b v : Int32} (h : jT27 a) (h0 : 0 ≤ b.toInt) (h1 : b.toInt ≤ 3) : jT27 (jWl a b v) := by
  have m : ∀ q : Nat, q ≤ 23 → ∀ i : Nat, 27 ≤ i + q → (15#32).getLsbD i = false := fun q hq i hi => by
    rw [show (15#32) = BitVec.ofNat 32 (2 ^ 4 - 1) from rfl, jm_bit 4 (by decide)]; simp; omega
  rcases jc4 h0 h1 with rfl | rfl | rfl | rfl
  · exact jT27.of (jpub27 (p := 11) (v := v.toBitVec) h.bit (m 11 (by decide)))
  · exact jT27.of (jpub27 (p := 15) (v := v.toBitVec) h.bit (m 15 (by decide)))
  · exact jT27.of (jpub27 (p := 19) (v := v.toBitVec) h.bit (m 19 (by decide)))
  · exact jT27.of (jpub27 (p := 23) (v := v.toBitVec) h.bit (m 23 (by decide)))
theorem jT27_Ws {a b v : Int32} (h : jT27 a) (h0 : 0 ≤ b.toInt) (h1 : b.toInt ≤ 3) : jT27 (jWs a b v) := by
  have m : ∀ q : Nat, q ≤ 9 → ∀ i : Nat, 27 ≤ i + q → (3#32).getLsbD i = false := fun q hq i hi => by
    rw [show (3#32) = BitVec.ofNat 32 (2 ^ 2 - 1) from rfl, jm_bit 2 (by decide)]; simp; omega
  rcases jc4 h0 h1 with rfl | rfl | rfl | rfl
  · exact jT27.of (jpub27 (p := 3) (v := v.toBitVec) h.bit (m 3 (by decide)))
  · exact jT27.of (jpub27 (p := 5) (v := v.toBitVec) h.bit (m 5 (by decide)))
  · exact jT27.of (jpub27 (p := 7) (v := v.toBitVec) h.bit (m 7 (by decide)))
  · exact jT27.of (jpub27 (p := 9) (v := v.toBitVec) h.bit (m 9 (by decide)))
theorem jT27_Wa {a n : Int32} (h : jT27 a) (h0 : 0 ≤ n.toInt) (h1 : n.toInt ≤ 4) : jT27 (jWa a n) := by
  refine jT27.of (fun i hi => ?_)
  show ((a.toBitVec &&& 0xfffffff8#32) ||| n.toBitVec).getLsbD i = false
  have e := jnat_t h0
  rw [BitVec.getLsbD_or, BitVec.getLsbD_and, h.bit i hi, jbitF (x := n) (n := 27) (by omega) hi]; rfl
theorem jor27 {x a d : Int32} (e : x = a ||| (d <<< ((27 : Int32) &&& 31))) (a0 : 0 ≤ a.toInt) (a1 : a.toInt ≤ 134217727) (d0 : 0 ≤ d.toInt) (d1 : d.toInt ≤ 7) : x.toInt = a.toInt + d.toInt * 134217728 := by
  have ea := jnat_t a0
  have ed := jnat_t d0
  have eb : x.toBitVec = a.toBitVec ||| (d.toBitVec <<< 27) := by
    rw [e]; show a.toBitVec ||| (d <<< ((Int32.ofNat 27) &&& 31)).toBitVec = _
    rw [jshl (by decide)]
  have en : x.toBitVec.toNat = d.toBitVec.toNat * 134217728 + a.toBitVec.toNat := by
    rw [eb, BitVec.toNat_or, BitVec.toNat_shiftLeft, Nat.mod_eq_of_lt (by rw [Nat.shiftLeft_eq]; omega), Nat.or_comm, ← Nat.shiftLeft_add_eq_or_of_lt (by omega), Nat.shiftLeft_eq]
  have et : x.toInt = x.toBitVec.toInt := rfl
  rw [BitVec.toInt_eq_toNat_cond, if_pos (by omega)] at et
  omega
theorem jshr27 {x k : Int32} (e : x = k >>> ((27 : Int32) &&& 31)) : x.toInt = k.toInt / 134217728 := by
  rw [e]
  show (k.toBitVec.sshiftRight 27).toInt = k.toBitVec.toInt / 134217728
  rw [BitVec.toInt_sshiftRight, Int.shiftRight_eq_div_pow]; rfl
theorem jand27 {x k : Int32} (e : x = k &&& 134217727) (h : 0 ≤ k.toInt) : x.toInt = k.toInt % 134217728 := by
  have ek := jnat_t h
  have eb : x.toBitVec = k.toBitVec &&& 134217727#32 := by rw [e]; rfl
  have en : x.toBitVec.toNat = k.toBitVec.toNat % 134217728 := by
    rw [eb, BitVec.toNat_and, show (134217727#32).toNat = 2 ^ 27 - 1 from rfl, Nat.and_two_pow_sub_one_eq_mod]
  have et : x.toInt = x.toBitVec.toInt := rfl
  rw [BitVec.toInt_eq_toNat_cond, if_pos (by omega)] at et
  omega
/-! chances and runs -/
def jClp (x : Int32) : Int32 := if x.toInt < 0 then 0 else if 1000 < x.toInt then 1000 else x
def jFr (ti t : Int32) : Int32 := if (100 - ti * t).toInt < 0 then 0 else 100 - ti * t
def jB0 (e1 e2 fr : Int32) : Int32 := (e1 + e2) * fr / 100
def jRn (c e1 e2 t : Int32) : Int32 := if (c + e1 + e2 + t).toInt < 0 then 0 else c + e1 + e2 + t
def jOuI (t ti : Nat → Int32) (f i : Int) : Int32 := jB0 (t (i / 4).toNat) (t (36 + 4 * f + i / 4 % 4).toNat) (jFr (ti (i / 16).toNat) (jwd (i % 4)))
def jRuI (t co : Nat → Int32) (f i : Int) : Int32 := jRn (co (i / 16).toNat) (t (16 + i / 4).toNat) (t (52 + 4 * f + i / 4 % 4).toNat) (jwd (i % 4))
def jLd (o r t ti co : Nat → Int32) (f n : Int) : Prop := ∀ i : Nat, (i : Int) < n → o i = jOuI t ti f i ∧ r i = jRuI t co f i
theorem jLd.first {o r t ti co : Nat → Int32} {f n : Int} (h : n ≤ 0) : jLd o r t ti co f n := fun i hi => absurd hi (by omega)
theorem jLd.n {o r t ti co : Nat → Int32} {f n n' : Int} (h : jLd o r t ti co f n) (e : n' = n) : jLd o r t ti co f n' := e ▸ h
theorem jLd.step {o r o' r' t ti co : Nat → Int32} {f n n' b s k : Int} {x y e m fr K : Int32} (h : jLd o r t ti co f n) (eo : o' = jupd o n.toNat x) (er : r' = jupd r n.toNat y) (hn : n = 16 * b + 4 * s + k) (b0 : 0 ≤ b) (s0 : 0 ≤ s ∧ s ≤ 3) (k0 : 0 ≤ k ∧ k ≤ 3) (ee : e = t (4 * b + s).toNat + t (36 + 4 * f + s).toNat) (em : m = co b.toNat + t (16 + 4 * b + s).toNat + t (52 + 4 * f + s).toNat) (efr : fr = jFr (ti b.toNat) K) (hK : K.toInt = k) (ex : x = e * fr / 100) (ey : y = if (m + K).toInt < 0 then 0 else m + K) (hn' : n' = n + 1) : jLd o' r' t ti co f n' := by
  subst eo er hn'
  intro i hi
  unfold jupd
  by_cases c : i = n.toNat
  · rw [if_pos c, if_pos c]
    have eK : K = jwd ((i : Int) % 4) := jwd_of (by omega) (by omega) (by omega)
    have e1 : (i : Int) / 4 = 4 * b + s := by omega
    have e2 : (i : Int) / 4 % 4 = s := by omega
    have e3 : (i : Int) / 16 = b := by omega
    have e4 : 16 + (4 * b + s) = 16 + 4 * b + s := by omega
    unfold jOuI jRuI jB0 jRn
    rw [e2, e1, e3, ← eK, e4, ← ee, ← em, ← efr]
    exact ⟨ex, ey⟩
  · rw [if_neg c, if_neg c]; exact h i (by omega)
theorem jLd.at {o r t ti co : Nat → Int32} {f b s k : Int} {i : Nat} (h : jLd o r t ti co f 64) (b0 : 0 ≤ b ∧ b ≤ 3) (s0 : 0 ≤ s ∧ s ≤ 3) (k0 : 0 ≤ k ∧ k ≤ 3) (hi : (i : Int) = 16 * b + 4 * s + k) : o i = jB0 (t (4 * b + s).toNat) (t (36 + 4 * f + s).toNat) (jFr (ti b.toNat) (jwd k)) ∧ r i = jRn (co b.toNat) (t (16 + 4 * b + s).toNat) (t (52 + 4 * f + s).toNat) (jwd k) := by
  obtain ⟨a, c⟩ := h i (by omega)
  have e1 : (i : Int) / 4 = 4 * b + s := by omega
  have e2 : (i : Int) / 4 % 4 = s := by omega
  have e3 : (i : Int) / 16 = b := by omega
  have e4 : 16 + (4 * b + s) = 16 + 4 * b + s := by omega
  have e5 : (i : Int) % 4 = k := by omega
  rw [a, c]
  unfold jOuI jRuI
  rw [e2, e1, e3, e5, e4]; exact ⟨rfl, rfl⟩
/-- the names: of an over; of a text at all -/
def jN8 (o w s b t l p k : Int32) : Nat → Int32 := fun j => if j = 0 then o else if j = 1 then w else if j = 2 then s else if j = 3 then b else if j = 4 then t else if j = 5 then l else if j = 6 then p else if j = 7 then k else 0
theorem jN8_of {g : Nat → Int32} {o w s b t l p k : Int32} (h0 : g 0 = o) (h1 : g 1 = w) (h2 : g 2 = s) (h3 : g 3 = b) (h4 : g 4 = t) (h5 : g 5 = l) (h6 : g 6 = p) (h7 : g 7 = k) : ∀ j : Nat, j < 8 → g j = jN8 o w s b t l p k j := by
  intro j hj
  have h9 : j = 0 ∨ j = 1 ∨ j = 2 ∨ j = 3 ∨ j = 4 ∨ j = 5 ∨ j = 6 ∨ j = 7 := by omega
  rcases h9 with rfl | rfl | rfl | rfl | rfl | rfl | rfl | rfl <;> assumption
theorem jN6_8 {l r o w s b t : Int32} (hr : r.toInt = 16 * b.toInt + 4 * s.toInt + t.toInt) (b0 : 0 ≤ b.toInt ∧ b.toInt ≤ 3) (s0 : 0 ≤ s.toInt ∧ s.toInt ≤ 3) (t0 : 0 ≤ t.toInt ∧ t.toInt ≤ 3) : jN6 l r o w = jN8 o w s b t l 0 0 := by
  have e1 : s = jwd (r.toInt / 4 % 4) := jwd_of (by omega) (by omega) (by omega)
  have e2 : b = jwd (r.toInt / 16) := jwd_of (by omega) (by omega) (by omega)
  have e3 : t = jwd (r.toInt % 4) := jwd_of (by omega) (by omega) (by omega)
  funext j
  unfold jN6 jN8
  rw [← e1, ← e2, ← e3]
  by_cases c6 : j = 6
  · subst c6; rfl
  by_cases c7 : j = 7
  · subst c7; rfl
  rw [if_neg c6, if_neg c7]
theorem jVal_8 {f nm nm' : Nat → Int32} {n r : Int} {Ls : List (Option (List Int32) × List Int32)} (h : jTxt f n r Ls) (h0 : 0 ≤ r) (e : ∀ j : Nat, j < 8 → nm j = nm' j) : jVal nm Ls = jVal nm' Ls := by
  have ok := h.ok h0 (by decide)
  refine jVal_nm Ls (fun L hL => ⟨fun w hw h1 h2 => ?_, fun a ea w hw h1 h2 => ?_⟩)
  · have := jHt_mem (ok L hL).1 hw h1 h2; exact e _ (by omega)
  · have := jHt_mem ((ok L hL).2 a ea) hw h1 h2; exact e _ (by omega)
theorem jDep.eq {G : (Nat → Int32) → Int32} {m : Int32} (h : jDep G m) {nm nm' : Nat → Int32} (e : ∀ j : Nat, j < 8 → nm j = nm' j) : G nm = G nm' := h nm nm' (fun k hk _ => e k hk)
/-! a text is told: by the class, by the reference -/
def jTn (f : Nat → Int32) (n e : Int) (cd' cd : Nat → Int32) (len' len : Int) (m' m : Int32) : Prop :=
  (e = -1 ∧ ∃ (r : Int) (Ls : List (Option (List Int32) × List Int32)), jTxt f n r Ls ∧ 0 ≤ r ∧ jHas cd' 0 (jLay 0 Ls) ∧ len' = ((jLay 0 Ls).length : Int) ∧ len' ≤ 160 ∧ jNamed cd' len' m') ∨
  (0 ≤ e ∧ cd' = cd ∧ len' = len ∧ m' = m)
theorem jTn.of {f g0 g cd' cd : Nat → Int32} {n e l len' len : Int} {mm m' m : Int32} (h : jCx f n e g0 g l) (hl : l ≤ 160) (hm : jNamed g l mm) (c : (e = -1 ∧ (∀ j : Nat, (j : Int) < l → cd' j = g j) ∧ len' = l ∧ m' = mm) ∨ (0 ≤ e ∧ cd' = cd ∧ len' = len ∧ m' = m)) : jTn f n e cd' cd len' len m' m := by
  obtain ⟨r, Ls, h1, h2⟩ := h
  rcases c with ⟨c1, c2, c3, c4⟩ | ⟨c1, c2, c3, c4⟩
  · rcases h2 with ⟨d1, d2, d3, d4⟩ | ⟨d1, d2⟩
    · refine Or.inl ⟨c1, r, Ls, h1, d2, ?_, by omega, by omega, ?_⟩
      · have w := jHas_jApp (g := g0) (q := 0) (c := jLay 0 Ls)
        rw [← d3] at w
        exact jHas_eq w (fun k _ hk => c2 k (by omega))
      · rw [c4, c3]; exact hm.copy c2
    · omega
  · exact Or.inr ⟨c1, c2, c3, c4⟩
theorem jTn.dep {f cd' cd : Nat → Int32} {n len' len : Int} {m' m : Int32} (h : jTn f n (-1) cd' cd len' len m' m) : jDep (jGc cd' len') m' := by
  rcases h with ⟨_, r, Ls, h1, h2, h3, h4, h5, h6⟩ | ⟨h1, _⟩
  · exact jDep_txt h1 h2 h3 h4 h5 h6
  · exact absurd h1 (by decide)
/-- the reference's row, where a text was laid -/
def jCq (g' g f : Nat → Int32) (q n : Int) : Prop := (∀ j : Nat, (j : Int) < n → g' (q.toNat + j) = f j) ∧ ∀ k : Nat, ((k : Int) < q ∨ q + n ≤ (k : Int)) → g' k = g k
theorem jCq.first {g f : Nat → Int32} {q n : Int} (h : n ≤ 0) : jCq g g f q n := ⟨fun j hj => absurd hj (by omega), fun _ _ => rfl⟩
theorem jCq.step {g g' g2 f : Nat → Int32} {q n n' x : Int} {v : Int32} (h : jCq g' g f q n) (e : g2 = jupd g' x.toNat v) (hx : x = q + n) (hv : v = f n.toNat) (q0 : 0 ≤ q) (n0 : 0 ≤ n) (en : n' = n + 1) : jCq g2 g f q n' := by
  subst e hx hv en
  constructor
  · intro j hj
    unfold jupd
    by_cases c : q.toNat + j = (q + n).toNat
    · rw [if_pos c]; congr 1; omega
    · rw [if_neg c]; exact h.1 j (by omega)
  · intro k hk
    unfold jupd
    rw [if_neg (by omega)]; exact h.2 k (by omega)
/-- both give the same -/
theorem jTn.same {f g h64 cd' cd nm : Nat → Int32} {n n2 len' len q : Int} {m' m : Int32} (a : jTn f n (-1) cd' cd len' len m' m) (hf : jTp f g n) (hg : ∀ j : Nat, (j : Int) < n → h64 (q.toNat + j) = g j) (en : n2 = n) (n0 : 0 ≤ n) : jGc cd' len' nm = jGr (fun k => h64 (q.toNat + k)) n2 nm := by
  subst en
  rcases a with ⟨_, r, Ls, h1, h2, h3, h4, h5, h6⟩ | ⟨h1, _⟩
  · rw [jGc_txt h1 h2 h3 h4 h5]
    have e : jTxt (fun k => h64 (q.toNat + k)) n2 r Ls := by
      have w := jLs_eq (f := f) (g := fun k => h64 (q.toNat + k)) (n := n2) (jYs_eq (fun k hk => (hf k hk).trans (hg k hk).symm))
      unfold jTxt at h1 ⊢
      rw [← w]; exact h1
    exact (jGr_txt e h2 n0).symm
  · exact absurd h1 (by decide)
/-! what the class keeps between calls, beside plain ranges -/
def jNd12 (σ : Nat → Nat → Int32) : Prop := jNamed (σ 13) (σ 12 0).toInt (σ 12 1)
theorem jNd12.fr {σ σ' : Nat → Nat → Int32} (e0 : σ' 12 0 = σ 12 0) (e1 : σ' 12 1 = σ 12 1) (e2 : σ' 13 = σ 13) (h : jNd12 σ) : jNd12 σ' := by unfold jNd12 at *; rw [e0, e1, e2]; exact h
theorem jNd12.putw {σ σ' : Nat → Nat → Int32} {q : Nat} {w : Int32} (h : jNd12 σ) (e2 : σ' 13 = jupd (σ 13) q w) (e0 : σ' 12 0 = σ 12 0) (e1 : σ' 12 1 = σ 12 1) (hw : w.toInt < 10000) : jNd12 σ' := by unfold jNd12 at *; rw [e0, e1]; exact h.put e2 hw
def jN67 (σ : Nat → Nat → Int32) : Prop := σ 24 6 = 0 ∧ σ 24 7 = 0
theorem jN67.fr {σ σ' : Nat → Nat → Int32} (e : σ' 24 = σ 24) (h : jN67 σ) : jN67 σ' := by unfold jN67 at *; rw [e]; exact h
noncomputable abbrev jGb (σ : Nat → Nat → Int32) : (Nat → Int32) → Int32 := jGc (σ 23) (σ 22 0).toInt
def jBl (σ : Nat → Nat → Int32) : Prop := jDep (jGb σ) (σ 22 1) ∧ jAskn (σ 26 7) (σ 22 1) 6 ∧ jOdc (σ 29) (σ 30) (σ 26 6) (σ 26 7) (jGb σ)
theorem jBl.fr {σ σ' : Nat → Nat → Int32} (e1 : σ' 22 0 = σ 22 0) (e2 : σ' 22 1 = σ 22 1) (e3 : σ' 23 = σ 23) (e4 : σ' 26 6 = σ 26 6) (e5 : σ' 26 7 = σ 26 7) (e6 : σ' 29 = σ 29) (e7 : σ' 30 = σ 30) (h : jBl σ) : jBl σ' := by
  unfold jBl jGb at *; rw [e1, e2, e3, e4, e5, e6, e7]; exact h
theorem jBl.put {σ σ' : Nat → Nat → Int32} {l r o w k g : Int32} {s : Nat} (h : jBl σ) (e1 : σ' 22 0 = σ 22 0) (e2 : σ' 22 1 = σ 22 1) (e3 : σ' 23 = σ 23) (e4 : σ' 26 6 = σ 26 6) (e5 : σ' 26 7 = σ 26 7) (a : jRgo l r o w) (eK : σ' 29 = jupd (σ 29) s k) (eG : σ' 30 = jupd (σ 30) s g) (ek : k = jKy (σ 26 6) (σ 26 7) l r o w) (eg : g = jGb σ (jN6 l r o w)) : jBl σ' := by
  unfold jBl jGb at *; rw [e1, e2, e3, e4, e5]; exact ⟨h.1, h.2.1, h.2.2.put a eK eG ek eg⟩
theorem jBl.new {σ σ' : Nat → Nat → Int32} (h : jBl σ) (d : jDep (jGb σ') (σ' 22 1)) (a : jAskn (σ' 26 7) (σ' 22 1) 6) (e6 : σ' 29 = σ 29) (e7 : σ' 30 = σ 30) (t : (σ' 26 6).toInt = (σ 26 6).toInt + 1) (t0 : 0 ≤ (σ 26 6).toInt) (t1 : (σ 26 6).toInt < 8192) : jBl σ' := by
  unfold jBl at h
  exact ⟨d, a, by rw [e6, e7]; exact h.2.2.forget t0 t1 t⟩
def jKb (σ : Nat → Nat → Int32) : Prop := ∀ i : Nat, (i : Int) < (σ 31 8).toInt → 0 ≤ (σ 32 i).toInt ∧ (σ 32 i).toInt < (σ 31 11).toInt * 134217728
theorem jKb.fr {σ σ' : Nat → Nat → Int32} (e1 : σ' 31 8 = σ 31 8) (e2 : σ' 31 11 = σ 31 11) (e3 : σ' 32 = σ 32) (h : jKb σ) : jKb σ' := by unfold jKb at *; rw [e1, e2, e3]; exact h
theorem jKb.nil {σ : Nat → Nat → Int32} (h : (σ 31 8).toInt ≤ 0) : jKb σ := fun i hi => absurd hi (by omega)
theorem jKb.add {σ σ' : Nat → Nat → Int32} {k : Int32} (h : jKb σ) (e3 : σ' 32 = jupd (σ 32) (σ 31 8).toInt.toNat k) (e1 : (σ' 31 8).toInt = (σ 31 8).toInt + 1) (e2 : σ' 31 11 = σ 31 11) (h0 : 0 ≤ (σ 31 8).toInt) (k0 : 0 ≤ k.toInt) (k1 : k.toInt < (σ 31 11).toInt * 134217728) : jKb σ' := by
  intro i hi
  rw [e3, e2]
  unfold jupd
  by_cases c : i = (σ 31 8).toInt.toNat
  · rw [if_pos c]; exact ⟨k0, k1⟩
  · rw [if_neg c]; exact h i (by omega)
def jTR (σ : Nat → Nat → Int32) : Prop := ∀ u : Nat, u < 2 → 0 ≤ (σ 65 u).toInt → ∃ (r : Int) (Ls : List (Option (List Int32) × List Int32)), jTxt (fun k => σ 64 (80 * u + k)) (σ 65 u).toInt r Ls ∧ 0 ≤ r
theorem jTR.fr {σ σ' : Nat → Nat → Int32} (e1 : σ' 64 = σ 64) (e2 : σ' 65 = σ 65) (h : jTR σ) : jTR σ' := by unfold jTR at *; rw [e1, e2]; exact h
def jOk3 (σ : Nat → Nat → Int32) : Prop := jOk (σ 3)
theorem jOk3.fr {σ σ' : Nat → Nat → Int32} (e : σ' 3 = σ 3) (h : jOk3 σ) : jOk3 σ' := by unfold jOk3 at *; rw [e]; exact h
theorem juse {m a y : Int32} (h0 : 0 ≤ a.toInt) (h1 : a.toInt ≤ 7) (e : y = (m >>> (a &&& 31)) &&& 1) : y.toInt ≠ 0 ↔ m.toBitVec.getLsbD a.toInt.toNat = true := by
  rw [e, show a = Int32.ofNat a.toInt.toNat from jofn h0 (by omega)]
  have k := juses (m := m) a.toInt.toNat (by omega)
  rw [show (Int32.ofNat a.toInt.toNat).toInt.toNat = a.toInt.toNat from by rw [← jofn h0 (by omega)]]
  exact k
theorem jmk_st (n : Nat) (hn : n < 6) (i : Nat) (h : jMk n i) : (js0 n).toBitVec.getLsbD i = true := by
  have hn9 : n = 0 ∨ n = 1 ∨ n = 2 ∨ n = 3 ∨ n = 4 ∨ n = 5 := by omega
  unfold jMk at h
  rcases hn9 with rfl | rfl | rfl | rfl | rfl | rfl
  · have : i = 4 ∨ i = 5 ∨ i = 6 ∨ i = 7 := by omega
    rcases this with rfl | rfl | rfl | rfl <;> decide
  · have : i = 0 ∨ i = 1 ∨ i = 2 ∨ i = 3 := by omega
    rcases this with rfl | rfl | rfl | rfl <;> decide
  · have : i = 10 ∨ i = 11 := by omega
    rcases this with rfl | rfl <;> decide
  · have : i = 12 ∨ i = 13 := by omega
    rcases this with rfl | rfl <;> decide
  · have : i = 8 ∨ i = 9 := by omega
    rcases this with rfl | rfl <;> decide
  · have : i = 14 ∨ i = 15 ∨ i = 16 ∨ i = 17 ∨ i = 18 := by omega
    rcases this with rfl | rfl | rfl | rfl | rfl <;> decide
theorem jAskn.first {as m : Int32} {n : Int} (h : n ≤ 0) : jAskn as m n := fun k hk => absurd hk (by omega)
theorem jAskn.step {as as' m : Int32} {n n' : Int} (h : jAskn as m n) (h0 : 0 ≤ n) (h1 : n < 6) (e : (as' = as ||| js0 n.toNat) ∨ (as' = as ∧ m.toBitVec.getLsbD n.toNat ≠ true)) (en : n' = n + 1) : jAskn as' m n' := by
  subst en
  intro k hk hm i hi
  by_cases c : k = n.toNat
  · subst c
    rcases e with e | ⟨_, e⟩
    · rw [e]; show (as.toBitVec ||| (js0 n.toNat).toBitVec).getLsbD i = true
      rw [BitVec.getLsbD_or, jmk_st _ (by omega) i hi, Bool.or_true]
    · exact absurd hm e
  · have w := h k (by omega) hm i hi
    rcases e with e | ⟨e, _⟩
    · rw [e]; show (as.toBitVec ||| (js0 n.toNat).toBitVec).getLsbD i = true
      rw [BitVec.getLsbD_or, w, Bool.true_or]
    · rw [e]; exact w
/-- the ball's text, worked out by the class -/
theorem jDep.worked {σ : Nat → Nat → Int32} {g : Nat → Int32} {l r o w s b t v : Int32} (h : jDep (jGb σ) (σ 22 1)) (q : jWr (σ 23) (σ 22 0).toInt g 0 [] v) (e : ∀ j : Nat, j < 8 → g j = jN8 o w s b t l 0 0 j) (hr : r.toInt = 16 * b.toInt + 4 * s.toInt + t.toInt) (b0 : 0 ≤ b.toInt ∧ b.toInt ≤ 3) (s0 : 0 ≤ s.toInt ∧ s.toInt ≤ 3) (t0 : 0 ≤ t.toInt ∧ t.toInt ≤ 3) : v = jGb σ (jN6 l r o w) := by
  have k : jGb σ g = v := jGc_of q
  rw [← k, jN6_8 hr b0 s0 t0]; exact h.eq e
theorem jClp_0 {x : Int32} (h : x.toInt < 0) : (0 : Int32) = jClp x := by unfold jClp; rw [if_pos h]
theorem jClp_m {x z c : Int32} (h : 0 ≤ x.toInt) (hc : c.toInt = 1000) (e : (z.toInt = x.toInt ∧ x.toInt ≤ 1000) ∨ (z.toInt = 1000 ∧ 1000 ≤ x.toInt)) : z = jClp x := by
  unfold jClp
  rw [if_neg (by omega)]
  by_cases c1 : 1000 < x.toInt
  · rw [if_pos c1]; exact Int32.toInt_inj.mp (by rw [show ((1000 : Int32).toInt = 1000) from by decide]; omega)
  · rw [if_neg c1]; exact Int32.toInt_inj.mp (by omega)
theorem jOk3.at {σ : Nat → Nat → Int32} {b : Int} {v : Int32} (h : jOk3 σ) (h0 : 0 ≤ b) (h1 : b ≤ 3) (e : v = σ 3 (32 + b).toNat) : 0 ≤ v.toInt ∧ v.toInt ≤ 8 := by
  have k := h b.toNat (by omega)
  rw [e, show (32 + b).toNat = 32 + b.toNat by omega]; exact k
theorem jleft_fr {σ σ' : Nat → Nat → Int32} (h30 : σ' 55 30 = σ 55 30) (h31 : σ' 55 31 = σ 55 31) (h56 : σ' 56 = σ 56) (h69 : σ' 69 = σ 69) (b : Int32) : jleft σ' b = jleft σ b := by
  unfold jleft; rw [h30, h31, h56, h69]
theorem jLs.view {f g : Nat → Int32} {n p r : Int} {Ls : List (Option (List Int32) × List Int32)} (h : jLs f n p r Ls) (e : ∀ k : Nat, (k : Int) < n → g k = f k) : jLs g n p r Ls := by
  rw [jLs_eq (jYs_eq e)]; exact h
theorem jTR.on {σ σ' : Nat → Nat → Int32} {A n x : Int} {nm : Nat → Int32} {v N : Int32} (h : jTR σ) (q : jCq (σ' 64) (σ 64) (σ 63) (80 * A) n) (e65 : σ' 65 = jupd (σ 65) A.toNat N) (hN : N.toInt = n) (n0 : 0 ≤ n) (n8 : n ≤ 80) (A0 : 0 ≤ A) (A1 : A ≤ 1) (w : ∀ k : Nat, k < 2 → -1 ≤ (σ 65 k).toInt ∧ (σ 65 k).toInt ≤ 80) (p : jRx (σ 63) n nm x v) (hx : x = -1) : jTR σ' := by
  intro u hu h0
  rw [e65] at h0 ⊢
  unfold jupd at h0 ⊢
  by_cases c : u = A.toNat
  · rw [if_pos c] at h0 ⊢
    obtain ⟨r, Ls, p1, p2⟩ := p
    rcases p2 with ⟨_, p3, _⟩ | ⟨p3, _⟩
    · refine ⟨r, Ls, ?_, p3⟩
      rw [hN]
      exact p1.view (fun k hk => by rw [show 80 * u + k = (80 * A).toNat + k by omega]; exact q.1 k hk)
    · omega
  · rw [if_neg c] at h0 ⊢
    obtain ⟨r, Ls, p1, p2⟩ := h u hu h0
    have hb := w u hu
    exact ⟨r, Ls, p1.view (fun k hk => q.2 (80 * u + k) (by omega)), p2⟩
theorem jTR.gives {σ : Nat → Nat → Int32} {u : Nat} {b n x : Int} {g nm : Nat → Int32} {r : Int32} (tr : jTR σ) (hu : u < 2) (h : jRx (jVw b (σ 63) (σ 64)) n g x r) (hb : b = 80 * (u : Int)) (hn : n = (σ 65 u).toInt) (h0 : 0 ≤ n) (e : ∀ j : Nat, j < 8 → g j = nm j) : r = jGr (fun k => σ 64 (80 * u + k)) (σ 65 u).toInt nm := by
  subst hn
  obtain ⟨q, Ls, p1, p2⟩ := tr u hu h0
  rw [jVw_p (by omega), show b.toNat = 80 * u by omega] at h
  have k := jRx.det (v := jVal g Ls) ⟨q, Ls, p1, Or.inl ⟨rfl, p2, rfl⟩⟩ h
  rw [← k.2, jVal_8 p1 p2 e]
  exact (jGr_txt p1 p2 h0).symm
/-! over -/
def jOvB (B bst ow what : Int) : Prop := 0 ≤ bst ∧ bst / 100 < B ∧ bst / 10 % 10 ≤ 3 ∧ bst % 10 ≤ 3 ∧ 0 ≤ ow ∧ ow / 10 ≤ 12 ∧ ow % 10 ≤ 8 ∧ 0 ≤ what ∧ what ≤ 1
def jChv (t ti : Nat → Int32) (G : (Nat → Int32) → Int32) (f b s k : Int) (l o w : Int32) : Int32 := jClp (jB0 (t (4 * b + s).toNat) (t (36 + 4 * f + s).toNat) (jFr (ti b.toNat) (jwd k)) + G (jN8 o w (jwd s) (jwd b) (jwd k) l 0 0))
def jRnv (t co : Nat → Int32) (f b s k : Int) : Int32 := jRn (co b.toNat) (t (16 + 4 * b + s).toNat) (t (52 + 4 * f + s).toNat) (jwd k)
def jOvV (t ti co : Nat → Int32) (G : (Nat → Int32) → Int32) (f bst ow what : Int) : Int32 :=
  if what = 1 then jRnv t co f (bst / 100) (bst / 10 % 10) (bst % 10) else jChv t ti G f (bst / 100) (bst / 10 % 10) (bst % 10) (t (32 + bst / 100).toNat) (jwd (ow / 10)) (jwd (ow % 10))
theorem jOvV.same {t m ti t2 co c2 : Nat → Int32} {G G2 : (Nat → Int32) → Int32} {B f bst ow what : Int} (h : jOvB B bst ow what) (hB : B ≤ 4) (f0 : 0 ≤ f) (f3 : f ≤ 3) (e : ∀ k : Nat, k < 68 → ((k : Int) < 4 * B ∨ 16 ≤ k) → t k = m k) (e2 : ∀ k : Nat, (k : Int) < B → ti k = t2 k ∧ co k = c2 k) (eG : ∀ nm, G nm = G2 nm) : jOvV t ti co G f bst ow what = jOvV m t2 c2 G2 f bst ow what := by
  unfold jOvB at h
  unfold jOvV jRnv jChv
  obtain ⟨a1, a2⟩ := e2 (bst / 100).toNat (by omega)
  rw [a1, a2, eG, e (4 * (bst / 100) + bst / 10 % 10).toNat (by omega) (by omega), e (36 + 4 * f + bst / 10 % 10).toNat (by omega) (by omega), e (32 + bst / 100).toNat (by omega) (by omega), e (16 + 4 * (bst / 100) + bst / 10 % 10).toNat (by omega) (by omega), e (52 + 4 * f + bst / 10 % 10).toNat (by omega) (by omega)]
theorem jBl.first {σ : Nat → Nat → Int32} (h0 : (σ 22 0).toInt ≤ 0) (h1 : σ 22 1 = 0) (k : ∀ s : Nat, s < 4096 → σ 29 s = 0) (t : 1 ≤ (σ 26 6).toInt) : jBl σ := by
  refine ⟨fun nm nm' _ => ?_, fun q _ hq => ?_, jOdc.first k t⟩
  · show jGc _ _ nm = jGc _ _ nm'; rw [jGc_no h0, jGc_no h0]
  · rw [h1] at hq; exact absurd hq (by rw [show ((0 : Int32).toBitVec.getLsbD q) = false from by show (0#32).getLsbD q = false; simp]; decide)
theorem jTR.first {σ : Nat → Nat → Int32} (h0 : σ 65 0 = -1) (h1 : σ 65 1 = -1) : jTR σ := by
  intro u hu h
  have h9 : u = 0 ∨ u = 1 := by omega
  rcases h9 with rfl | rfl
  · rw [h0] at h; exact absurd h (by decide)
  · rw [h1] at h; exact absurd h (by decide)
theorem jGr_view {f g nm : Nat → Int32} {n : Int} (e : ∀ k : Nat, (k : Int) < n → g k = f k) : jGr g n nm = jGr f n nm := by
  have h : ∀ v, jRx g n nm (-1) v = jRx f n nm (-1) v := fun v => by
    unfold jRx jTxt; rw [jLs_eq (jYs_eq e)]
  unfold jGr
  congr 1; funext v; rw [h]
theorem jTxE {A r r2 n : Int} {f g c19 c19' c23 c23' w64 w64' w65 w65' : Nat → Int32} {l18 l18' l22 l22' : Int} {m18 m18' m22 m22' N : Int32}
    (h1 : (A = 0 ∧ (∃ e : Int, ((e = -1 ∧ r = 1) ∨ (0 ≤ e ∧ r ≤ -100)) ∧ jTn f n e c19' c19 l18' l18 m18' m18) ∧ (c23' = c23 ∧ l22' = l22)) ∨ (A = 1 ∧ (∃ e : Int, ((e = -1 ∧ r = 1) ∨ (0 ≤ e ∧ r ≤ -100)) ∧ jTn f n e c23' c23 l22' l22 m22' m22) ∧ (c19' = c19 ∧ l18' = l18)) ∨ (A ≠ 0 ∧ A ≠ 1 ∧ r ≤ -1 ∧ (c19' = c19 ∧ l18' = l18) ∧ (c23' = c23 ∧ l22' = l22)))
    (h2 : ((A < 0 ∨ 1 < A ∨ r2 ≤ -100) ∧ w64' = w64 ∧ w65' = w65) ∨ (0 ≤ A ∧ A ≤ 1 ∧ r2 = 1 ∧ jCq w64' w64 g (80 * A) n ∧ w65' = jupd w65 A.toNat N))
    (er : r = r2) (hf : jTp f g n) (hN : N.toInt = n) (n0 : 0 ≤ n) (n8 : n ≤ 80) (w : ∀ k : Nat, k < 2 → -1 ≤ (w65 k).toInt ∧ (w65 k).toInt ≤ 80)
    (B0 : ∀ nm, jGc c19 l18 nm = jGr (fun k : Nat => w64 (80 * 0 + k)) (w65 0).toInt nm) (B1 : ∀ nm, jGc c23 l22 nm = jGr (fun k : Nat => w64 (80 * 1 + k)) (w65 1).toInt nm) :
    (∀ nm, jGc c19' l18' nm = jGr (fun k : Nat => w64' (80 * 0 + k)) (w65' 0).toInt nm) ∧ (∀ nm, jGc c23' l22' nm = jGr (fun k : Nat => w64' (80 * 1 + k)) (w65' 1).toInt nm) := by
  have w0 := w 0 (by decide)
  have w1 := w 1 (by decide)
  rcases h1 with ⟨a1, ⟨e, a2, a3⟩, a4, a5⟩ | ⟨a1, ⟨e, a2, a3⟩, a4, a5⟩ | ⟨a1, a2, a3, ⟨a4, a5⟩, a6, a7⟩
  · rw [a4, a5]
    rcases h2 with ⟨b1, b2, b3⟩ | ⟨b1, b2, b3, b4, b5⟩
    · rw [b2, b3]
      rcases a3 with ⟨d1, _⟩ | ⟨d1, d2, d3, d4⟩
      · omega
      · rw [d2, d3]; exact ⟨B0, B1⟩
    · have e1 : e = -1 := by omega
      subst a1 e1
      refine ⟨fun nm => ?_, fun nm => ?_⟩
      · have k := a3.same (nm := nm) (q := 80 * 0) hf b4.1 (show (w65' 0).toInt = n from by rw [b5]; exact hN) n0
        rw [k]; congr 1
      · rw [B1 nm, b5]
        show jGr _ (w65 1).toInt nm = jGr _ (w65 1).toInt nm
        exact (jGr_view (fun k hk => b4.2 (80 * 1 + k) (by omega))).symm
  · rw [a4, a5]
    rcases h2 with ⟨b1, b2, b3⟩ | ⟨b1, b2, b3, b4, b5⟩
    · rw [b2, b3]
      rcases a3 with ⟨d1, _⟩ | ⟨d1, d2, d3, d4⟩
      · omega
      · rw [d2, d3]; exact ⟨B0, B1⟩
    · have e1 : e = -1 := by omega
      subst a1 e1
      refine ⟨fun nm => ?_, fun nm => ?_⟩
      · rw [B0 nm, b5]
        show jGr _ (w65 0).toInt nm = jGr _ (w65 0).toInt nm
        exact (jGr_view (fun k hk => b4.2 (80 * 0 + k) (by omega))).symm
      · have k := a3.same (nm := nm) (q := 80 * 1) hf b4.1 (show (w65' 1).toInt = n from by rw [b5]; exact hN) n0
        rw [k]; congr 1
  · rw [a4, a5, a6, a7]
    rcases h2 with ⟨b1, b2, b3⟩ | ⟨b1, b2, b3, b4, b5⟩
    · rw [b2, b3]; exact ⟨B0, B1⟩
    · omega
theorem jOvS {P : Prop} {r r' V V' : Int32} (a : (P ∧ r = V) ∨ (¬ P ∧ r = -1)) (b : (P ∧ r' = V') ∨ (¬ P ∧ r' = -1)) (e : P → V = V') : r = r' := by
  rcases a with ⟨a1, a2⟩ | ⟨a1, a2⟩ <;> rcases b with ⟨b1, b2⟩ | ⟨b1, b2⟩
  · rw [a2, b2, e a1]
  · exact absurd a1 b1
  · exact absurd b1 a1
  · rw [a2, b2]
theorem jTc_on {a b c d a' b' c' d' : Nat → Int32} {B B' : Int} {x y : Int32} (h : ∀ k : Nat, (k : Int) < B → a k = b k ∧ c k = d k) (e1 : a' = jupd a B.toNat x ∧ c' = jupd c B.toNat y) (e2 : b' = jupd b B.toNat x ∧ d' = jupd d B.toNat y) (eB : B' = B + 1) (h0 : 0 ≤ B) : ∀ k : Nat, (k : Int) < B' → a' k = b' k ∧ c' k = d' k := by
  intro k hk
  rw [e1.1, e1.2, e2.1, e2.2]
  unfold jupd
  by_cases q : k = B.toNat
  · rw [if_pos q, if_pos q, if_pos q, if_pos q]; exact ⟨rfl, rfl⟩
  · rw [if_neg q, if_neg q, if_neg q, if_neg q]; exact h k (by omega)
/-! the best, by all that follows: what class and reference both work out -/
def jMx (c p q : Int) : Int := (c * p + (1000 - c) * q) / 1000
def jMo (R r c p q : Int) : Int := r * 1000 + (1000 - R) * jMx c p q / 1000
def jPk (m : Nat → Bool) (v : Nat → Int) : Nat → Int × Int
  | 0 => (-1, 0)
  | b + 1 => if m b = true ∧ ((jPk m v b).1 < 0 ∨ v b < (jPk m v b).2) then ((b : Int), v b) else jPk m v b
def jMy4 (last : Int) (lf : Nat → Int) (b : Nat) : Bool := decide ((b : Int) ≠ last ∧ 0 < lf b)
def jLn (lf : Nat → Int) (b : Nat) : Nat → Int := fun c => if c = b then lf b - 1 else lf c
def jSn (st : Nat → Int) (b : Nat) : Nat → Int := fun c => if c = b then (if st b < 3 then st b + 1 else 3) else (if 0 < st c then st c - 1 else 0)
/-- whom, and the mean: k overs are left -/
def jV (ch : Nat → Int → Int → Int → Int → Int → Int) (rn : Nat → Int → Int → Int) (so : Nat → Int) (n R : Int) : Nat → Int → (Nat → Int) → (Nat → Int) → Int → Int → Int × Int
  | 0, _, _, _, _, _ => (-1, 0)
  | k + 1, last, lf, st, o, w => if n ≤ w then (-1, 0) else
      jPk (jMy4 last lf) (fun b => jMo R (rn b (so w.toNat) (st b)) (ch b (so w.toNat) (st b) (lf b) o w) (jV ch rn so n R k (b : Int) (jLn lf b) (jSn st b) (o + 1) (w + 1)).2 (jV ch rn so n R k (b : Int) (jLn lf b) (jSn st b) (o + 1) w).2) 4
theorem jPk_eq {m m' : Nat → Bool} {v v' : Nat → Int} {n : Nat} (hm : ∀ b : Nat, b < n → m b = m' b) (hv : ∀ b : Nat, b < n → m b = true → v b = v' b) : jPk m v n = jPk m' v' n := by
  induction n with
  | zero => rfl
  | succ n ih =>
    have e := ih (fun b hb => hm b (by omega)) (fun b hb => hv b (by omega))
    rw [jPk, jPk, e, ← hm n (by omega)]
    by_cases c : m n = true
    · rw [hv n (by omega) c]
    · rw [if_neg (fun z => c z.1), if_neg (fun z => c z.1)]
theorem jPk_r {m : Nat → Bool} {v : Nat → Int} {U : Int} {n : Nat} (U0 : 0 ≤ U) (h : ∀ b : Nat, b < n → m b = true → 0 ≤ v b ∧ v b ≤ U) : (0 ≤ (jPk m v n).2 ∧ (jPk m v n).2 ≤ U) ∧ (-1 ≤ (jPk m v n).1 ∧ (jPk m v n).1 < (n : Int)) := by
  induction n with
  | zero => exact ⟨⟨by show (0 : Int) ≤ 0; decide, U0⟩, by show (-1 : Int) ≤ -1; decide, by show (-1 : Int) < 0; decide⟩
  | succ n ih =>
    have e := ih (fun b hb => h b (by omega))
    rw [jPk]
    by_cases c : m n = true ∧ ((jPk m v n).1 < 0 ∨ v n < (jPk m v n).2)
    · rw [if_pos c]; exact ⟨h n (by omega) c.1, by show (-1 : Int) ≤ (n : Int); omega, by show (n : Int) < _; omega⟩
    · rw [if_neg c]; exact ⟨e.1, e.2.1, by omega⟩
theorem jPk_may {m : Nat → Bool} {v : Nat → Int} {n : Nat} (h : 0 ≤ (jPk m v n).1) : ∃ b : Nat, b < n ∧ (jPk m v n).1 = (b : Int) ∧ m b = true := by
  induction n with
  | zero => exact absurd h (by show ¬ (0 : Int) ≤ -1; decide)
  | succ n ih =>
    rw [jPk] at h ⊢
    by_cases c : m n = true ∧ ((jPk m v n).1 < 0 ∨ v n < (jPk m v n).2)
    · rw [if_pos c]; exact ⟨n, by omega, rfl, c.1⟩
    · rw [if_neg c] at h ⊢
      obtain ⟨b, h1, h2, h3⟩ := ih h
      exact ⟨b, by omega, h2, h3⟩
theorem jPk_some {m : Nat → Bool} {v : Nat → Int} {n b : Nat} (hb : b < n) (h : m b = true) : 0 ≤ (jPk m v n).1 := by
  induction n with
  | zero => omega
  | succ n ih =>
    rw [jPk]
    by_cases c : m n = true ∧ ((jPk m v n).1 < 0 ∨ v n < (jPk m v n).2)
    · rw [if_pos c]; show (0 : Int) ≤ (n : Int); omega
    · rw [if_neg c]
      by_cases e : b = n
      · subst e
        have : ¬ (jPk m v b).1 < 0 := fun z => c ⟨h, Or.inl z⟩
        omega
      · exact ih (by omega)
theorem jPk_none {m : Nat → Bool} {v : Nat → Int} {n : Nat} (h : ∀ b : Nat, b < n → m b = false) : jPk m v n = (-1, 0) := by
  induction n with
  | zero => rfl
  | succ n ih =>
    rw [jPk, if_neg (fun z => by have := h n (by omega); rw [this] at z; exact absurd z.1 (by decide)), ih (fun b hb => h b (by omega))]
theorem jMx_r {c p q U : Int} (c0 : 0 ≤ c) (c1 : c ≤ 1000) (p0 : 0 ≤ p ∧ p ≤ U) (q0 : 0 ≤ q ∧ q ≤ U) : 0 ≤ jMx c p q ∧ jMx c p q ≤ U := by
  unfold jMx
  have h1 : 0 ≤ c * p := Int.mul_nonneg c0 p0.1
  have h2 : 0 ≤ (1000 - c) * q := Int.mul_nonneg (by omega) q0.1
  have h3 : c * p ≤ c * U := Int.mul_le_mul_of_nonneg_left p0.2 c0
  have h4 : (1000 - c) * q ≤ (1000 - c) * U := Int.mul_le_mul_of_nonneg_left q0.2 (by omega)
  have h5 : c * U + (1000 - c) * U = 1000 * U := by rw [← Int.add_mul]; congr 1; omega
  constructor
  · omega
  · omega
theorem jMo_r {R r c p q U : Int} (R0 : 0 ≤ R ∧ R ≤ 999) (r0 : 0 ≤ r ∧ r ≤ 41) (c0 : 0 ≤ c ∧ c ≤ 1000) (p0 : 0 ≤ p ∧ p ≤ U) (q0 : 0 ≤ q ∧ q ≤ U) : 0 ≤ jMo R r c p q ∧ jMo R r c p q ≤ U + 41000 := by
  unfold jMo
  have h := jMx_r c0.1 c0.2 p0 q0
  have h1 : 0 ≤ (1000 - R) * jMx c p q := Int.mul_nonneg (by omega) h.1
  have h2 : (1000 - R) * jMx c p q ≤ 1000 * jMx c p q := Int.mul_le_mul_of_nonneg_right (by omega) h.1
  omega
theorem jV_r {ch : Nat → Int → Int → Int → Int → Int → Int} {rn : Nat → Int → Int → Int} {so : Nat → Int} {n R : Int} (R0 : 0 ≤ R ∧ R ≤ 999) (hc : ∀ b s t l o w, 0 ≤ ch b s t l o w ∧ ch b s t l o w ≤ 1000) (hr : ∀ b s t, 0 ≤ rn b s t ∧ rn b s t ≤ 41) : ∀ (k : Nat) (last : Int) (lf st : Nat → Int) (o w : Int), (0 ≤ (jV ch rn so n R k last lf st o w).2 ∧ (jV ch rn so n R k last lf st o w).2 ≤ 41000 * (k : Int)) ∧ (-1 ≤ (jV ch rn so n R k last lf st o w).1 ∧ (jV ch rn so n R k last lf st o w).1 ≤ 3)
  | 0, _, _, _, _, _ => ⟨⟨by show (0 : Int) ≤ 0; decide, by show (0 : Int) ≤ 41000 * ((0 : Nat) : Int); decide⟩, by show (-1 : Int) ≤ -1; decide, by show (-1 : Int) ≤ 3; decide⟩
  | k + 1, last, lf, st, o, w => by
    rw [jV]
    by_cases c : n ≤ w
    · rw [if_pos c]; exact ⟨⟨by show (0 : Int) ≤ 0; decide, by show (0 : Int) ≤ 41000 * ((k + 1 : Nat) : Int); omega⟩, by show (-1 : Int) ≤ -1; decide, by show (-1 : Int) ≤ 3; decide⟩
    · rw [if_neg c]
      have h := jPk_r (m := jMy4 last lf) (U := 41000 * ((k + 1 : Nat) : Int)) (n := 4) (v := fun b => jMo R (rn b (so w.toNat) (st b)) (ch b (so w.toNat) (st b) (lf b) o w) (jV ch rn so n R k (b : Int) (jLn lf b) (jSn st b) (o + 1) (w + 1)).2 (jV ch rn so n R k (b : Int) (jLn lf b) (jSn st b) (o + 1) w).2) (by omega) (fun b hb _ => by
        have q := jMo_r (U := 41000 * (k : Int)) R0 (hr b (so w.toNat) (st b)) (hc b (so w.toNat) (st b) (lf b) o w) (jV_r (so := so) (n := n) R0 hc hr k (b : Int) (jLn lf b) (jSn st b) (o + 1) (w + 1)).1 (jV_r (so := so) (n := n) R0 hc hr k (b : Int) (jLn lf b) (jSn st b) (o + 1) w).1
        exact ⟨q.1, by show jMo _ _ _ _ _ ≤ _; omega⟩)
      exact ⟨h.1, h.2.1, by have := h.2.2; omega⟩
/-- what of two attacks counts, when k overs are left -/
def jQv (ex : Bool) (k : Nat) (last : Int) (lf lf' st st' : Nat → Int) : Prop := ∀ c : Nat, c < 4 → 0 ≤ lf c ∧ 0 ≤ lf' c ∧ ((c : Int) ≠ last → (0 < lf c → st c = st' c)) ∧ (0 < lf c → 2 ≤ k → st c = st' c) ∧
  (min (lf c) ((if (c : Int) = last then (k : Int) else (k : Int) + 1) / 2) = min (lf' c) ((if (c : Int) = last then (k : Int) else (k : Int) + 1) / 2)) ∧ (ex = true → 2 ≤ k → lf c = lf' c)
theorem jQv.next {ex : Bool} {k : Nat} {last : Int} {lf lf' st st' : Nat → Int} {b : Nat} (h : jQv ex (k + 1) last lf lf' st st') (hb : b < 4) (hm : jMy4 last lf b = true) (hk : 1 ≤ k) : jQv ex k (b : Int) (jLn lf b) (jLn lf' b) (jSn st b) (jSn st' b) := by
  unfold jMy4 at hm
  have hm := of_decide_eq_true hm
  intro c hc
  obtain ⟨a1, a2, a3, a4, a5, a6⟩ := h c hc
  obtain ⟨b1, b2, b3, b4, b5, b6⟩ := h b hb
  by_cases e : c = b
  · subst e
    rw [if_neg hm.1] at a5
    have hs := a3 hm.1 hm.2
    have l1 : ∀ g : Nat → Int, jLn g c c = g c - 1 := fun g => if_pos rfl
    have l2 : ∀ g : Nat → Int, jSn g c c = if g c < 3 then g c + 1 else 3 := fun g => if_pos rfl
    rw [l1, l1, l2, l2, if_pos rfl, hs]
    exact ⟨by omega, by omega, fun z => absurd rfl z, fun _ _ => rfl, by omega, fun x y => by have := a6 x (by omega); omega⟩
  · have l1 : ∀ g : Nat → Int, jLn g b c = g c := fun g => if_neg e
    have l2 : ∀ g : Nat → Int, jSn g b c = if 0 < g c then g c - 1 else 0 := fun g => if_neg e
    rw [l1, l1, l2, l2, if_neg (show ¬ (c : Int) = (b : Int) by omega)]
    refine ⟨a1, a2, fun _ z => by rw [a4 z (by omega)], fun z _ => by rw [a4 z (by omega)], ?_, fun x y => a6 x (by omega)⟩
    by_cases e2 : (c : Int) = last
    · rw [if_pos e2] at a5; omega
    · rw [if_neg e2] at a5; omega
theorem jV_qv {ch : Nat → Int → Int → Int → Int → Int → Int} {rn : Nat → Int → Int → Int} {so : Nat → Int} {n R : Int} {ex : Bool} (hx : ex = false → ∀ b s t l l' o w, ch b s t l o w = ch b s t l' o w) : ∀ (k : Nat) (last : Int) (lf lf' st st' : Nat → Int) (o w : Int), jQv ex k last lf lf' st st' → jV ch rn so n R k last lf st o w = jV ch rn so n R k last lf' st' o w
  | 0, _, _, _, _, _, _, _, _ => rfl
  | k + 1, last, lf, lf', st, st', o, w, h => by
    rw [jV, jV]
    by_cases c : n ≤ w
    · rw [if_pos c, if_pos c]
    rw [if_neg c, if_neg c]
    refine jPk_eq (fun b hb => ?_) (fun b hb hm => ?_)
    · obtain ⟨a1, a2, a3, a4, a5, a6⟩ := h b hb
      unfold jMy4
      by_cases e : (b : Int) = last
      · rw [decide_eq_false (fun z => z.1 e), decide_eq_false (fun z => z.1 e)]
      · rw [if_neg e] at a5
        by_cases e2 : 0 < lf b
        · rw [decide_eq_true ⟨e, e2⟩, decide_eq_true ⟨e, by omega⟩]
        · rw [decide_eq_false (fun z => e2 z.2), decide_eq_false (fun z => e2 (by have := z.2; omega))]
    · have hm' := of_decide_eq_true hm
      obtain ⟨a1, a2, a3, a4, a5, a6⟩ := h b hb
      have es := a3 hm'.1 hm'.2
      match k, h with
      | 0, h =>
        show jMo R _ _ 0 0 = jMo R _ _ 0 0
        rw [es]; unfold jMo jMx; simp
      | k + 1, h =>
        have q := h.next hb hm (by omega)
        rw [jV_qv hx (k + 1) _ _ _ _ _ (o + 1) (w + 1) q, jV_qv hx (k + 1) _ _ _ _ _ (o + 1) w q, es]
        by_cases x : ex = true
        · rw [a6 x (by omega)]
        · rw [hx (by simpa using x) b _ _ (lf b) (lf' b)]
/-! an attack's fields -/
def jlf (A : Int32) (c : Nat) : Int := (jLf A (Int32.ofNat c)).toInt
def jst (A : Int32) (c : Nat) : Int := (jSt A (Int32.ofNat c)).toInt
def jla (A : Int32) : Int := (jLa A).toInt - 1
theorem jandm {x y m : Int32} {k M : Nat} (e : y = x &&& m) (hm : m.toBitVec.toNat = M - 1) (hM : M = 2 ^ k) (hk : k ≤ 30) : y.toInt = x.toInt % (M : Int) := by
  have l := x.toBitVec.isLt
  have eb : y.toBitVec = x.toBitVec &&& m.toBitVec := by rw [e]; rfl
  have en : y.toBitVec.toNat = x.toBitVec.toNat % M := by
    rw [eb, BitVec.toNat_and, hm, hM, Nat.and_two_pow_sub_one_eq_mod]
  have M0 : 0 < M := by rw [hM]; exact Nat.two_pow_pos k
  have M1 : M ≤ 2 ^ 30 := by rw [hM]; exact Nat.pow_le_pow_right (by decide) hk
  have lt : x.toBitVec.toNat % M < M := Nat.mod_lt _ M0
  have et : y.toInt = y.toBitVec.toInt := rfl
  rw [BitVec.toInt_eq_toNat_cond, if_pos (by omega), en] at et
  have ex : x.toInt = x.toBitVec.toInt := rfl
  rw [BitVec.toInt_eq_toNat_cond] at ex
  rw [et, ex]
  by_cases c : 2 * x.toBitVec.toNat < 2 ^ 32
  · rw [if_pos c]; exact Int.natCast_emod _ _
  · rw [if_neg c]
    have d : (M : Int) ∣ ((2 ^ 32 : Nat) : Int) := by
      rw [hM]; exact Int.natCast_dvd_natCast.mpr (Nat.pow_dvd_pow 2 (by omega))
    obtain ⟨q, hq⟩ := d
    rw [hq, show (x.toBitVec.toNat : Int) - (M : Int) * q = (x.toBitVec.toNat : Int) + (M : Int) * (-q) by rw [Int.mul_neg]; omega, Int.add_mul_emod_self_left]
    exact Int.natCast_emod _ _
theorem jshrn {A : Int32} (n : Nat) (h : n < 32) : (A >>> ((Int32.ofNat n) &&& 31)).toInt = A.toInt / (2 ^ n : Nat) := by
  have e : (A >>> ((Int32.ofNat n) &&& 31)).toBitVec = A.toBitVec.sshiftRight n := by
    have h9 : n = 0 ∨ n = 1 ∨ n = 2 ∨ n = 3 ∨ n = 4 ∨ n = 5 ∨ n = 6 ∨ n = 7 ∨ n = 8 ∨ n = 9 ∨ n = 10 ∨ n = 11 ∨ n = 12 ∨ n = 13 ∨ n = 14 ∨ n = 15 ∨ n = 16 ∨ n = 17 ∨ n = 18 ∨ n = 19 ∨ n = 20 ∨ n = 21 ∨ n = 22 ∨ n = 23 ∨ n = 24 ∨ n = 25 ∨ n = 26 ∨ n = 27 ∨ n = 28 ∨ n = 29 ∨ n = 30 ∨ n = 31 := by omega
    rcases h9 with rfl | rfl | rfl | rfl | rfl | rfl | rfl | rfl | rfl | rfl | rfl | rfl | rfl | rfl | rfl | rfl | rfl | rfl | rfl | rfl | rfl | rfl | rfl | rfl | rfl | rfl | rfl | rfl | rfl | rfl | rfl | rfl <;> rfl
  show (A >>> ((Int32.ofNat n) &&& 31)).toBitVec.toInt = A.toBitVec.toInt / _
  rw [e, BitVec.toInt_sshiftRight, Int.shiftRight_eq_div_pow]
theorem jla_m (A : Int32) : jla A = A.toInt % 8 - 1 := by unfold jla jLa; rw [jandm (k := 3) (M := 8) rfl rfl rfl (by decide)]; rfl
theorem jst_m (A : Int32) (c : Nat) (hc : c < 4) : jst A c = A.toInt / (2 ^ (3 + 2 * c) : Nat) % 4 := by
  unfold jst jSt
  have h9 : c = 0 ∨ c = 1 ∨ c = 2 ∨ c = 3 := by omega
  rcases h9 with rfl | rfl | rfl | rfl
  · show ((A >>> ((Int32.ofNat 3) &&& 31)) &&& 3).toInt = _
    rw [jandm (x := A >>> ((Int32.ofNat 3) &&& 31)) (m := 3) (k := 2) (M := 4) rfl rfl rfl (by decide), jshrn 3 (by decide)]; rfl
  · show ((A >>> ((Int32.ofNat 5) &&& 31)) &&& 3).toInt = _
    rw [jandm (x := A >>> ((Int32.ofNat 5) &&& 31)) (m := 3) (k := 2) (M := 4) rfl rfl rfl (by decide), jshrn 5 (by decide)]; rfl
  · show ((A >>> ((Int32.ofNat 7) &&& 31)) &&& 3).toInt = _
    rw [jandm (x := A >>> ((Int32.ofNat 7) &&& 31)) (m := 3) (k := 2) (M := 4) rfl rfl rfl (by decide), jshrn 7 (by decide)]; rfl
  · show ((A >>> ((Int32.ofNat 9) &&& 31)) &&& 3).toInt = _
    rw [jandm (x := A >>> ((Int32.ofNat 9) &&& 31)) (m := 3) (k := 2) (M := 4) rfl rfl rfl (by decide), jshrn 9 (by decide)]; rfl
theorem jlf_m (A : Int32) (c : Nat) (hc : c < 4) : jlf A c = A.toInt / (2 ^ (11 + 4 * c) : Nat) % 16 := by
  unfold jlf jLf
  have h9 : c = 0 ∨ c = 1 ∨ c = 2 ∨ c = 3 := by omega
  rcases h9 with rfl | rfl | rfl | rfl
  · show ((A >>> ((Int32.ofNat 11) &&& 31)) &&& 15).toInt = _
    rw [jandm (x := A >>> ((Int32.ofNat 11) &&& 31)) (m := 15) (k := 4) (M := 16) rfl rfl rfl (by decide), jshrn 11 (by decide)]; rfl
  · show ((A >>> ((Int32.ofNat 15) &&& 31)) &&& 15).toInt = _
    rw [jandm (x := A >>> ((Int32.ofNat 15) &&& 31)) (m := 15) (k := 4) (M := 16) rfl rfl rfl (by decide), jshrn 15 (by decide)]; rfl
  · show ((A >>> ((Int32.ofNat 19) &&& 31)) &&& 15).toInt = _
    rw [jandm (x := A >>> ((Int32.ofNat 19) &&& 31)) (m := 15) (k := 4) (M := 16) rfl rfl rfl (by decide), jshrn 19 (by decide)]; rfl
  · show ((A >>> ((Int32.ofNat 23) &&& 31)) &&& 15).toInt = _
    rw [jandm (x := A >>> ((Int32.ofNat 23) &&& 31)) (m := 15) (k := 4) (M := 16) rfl rfl rfl (by decide), jshrn 23 (by decide)]; rfl
theorem jlf_r (A : Int32) (c : Nat) (hc : c < 4) : 0 ≤ jlf A c ∧ jlf A c ≤ 15 := by rw [jlf_m A c hc]; omega
theorem jst_r (A : Int32) (c : Nat) (hc : c < 4) : 0 ≤ jst A c ∧ jst A c ≤ 3 := by rw [jst_m A c hc]; omega
theorem jla_r (A : Int32) : -1 ≤ jla A ∧ jla A ≤ 6 := by rw [jla_m]; omega
/-- two with like fields are one -/
theorem jA_ext {A A' : Int32} (h : jT27 A) (h' : jT27 A') (e : jla A = jla A') (el : ∀ c : Nat, c < 4 → jlf A c = jlf A' c) (es : ∀ c : Nat, c < 4 → jst A c = jst A' c) : A = A' := by
  have a0 := el 0 (by decide); have a1 := el 1 (by decide); have a2 := el 2 (by decide); have a3 := el 3 (by decide)
  have b0 := es 0 (by decide); have b1 := es 1 (by decide); have b2 := es 2 (by decide); have b3 := es 3 (by decide)
  rw [jlf_m _ _ (by decide), jlf_m _ _ (by decide)] at a0 a1 a2 a3
  rw [jst_m _ _ (by decide), jst_m _ _ (by decide)] at b0 b1 b2 b3
  rw [jla_m, jla_m] at e
  simp only [Nat.reduceMul, Nat.reduceAdd, Nat.reducePow] at a0 a1 a2 a3 b0 b1 b2 b3
  have q1 := h.1; have q2 := h.2; have q3 := h'.1; have q4 := h'.2
  refine Int32.toInt_inj.mp ?_
  generalize A.toInt = x at *
  generalize A'.toInt = y at *
  have c3 : x / 8388608 = y / 8388608 := by omega
  have c2 : x / 524288 = y / 524288 := by omega
  have c1 : x / 32768 = y / 32768 := by omega
  have c0 : x / 2048 = y / 2048 := by omega
  clear a0 a1 a2 a3 c3 c2 c1
  have d3 : x / 512 = y / 512 := by omega
  have d2 : x / 128 = y / 128 := by omega
  have d1 : x / 32 = y / 32 := by omega
  have d0 : x / 8 = y / 8 := by omega
  clear c0 d3 d2 d1 b0 b1 b2 b3
  omega
/-- behind an over of b -/
def jAg (A : Int32) (b : Nat) (r : Int32) : Prop := jla r = (b : Int) ∧ ∀ c : Nat, c < 4 → jlf r c = (if c = b then jmx (jlf A c - 1) else jlf A c) ∧ jst r c = (if c = b then (if jst A c < 3 then jst A c + 1 else 3) else (if 0 < jst A c then jst A c - 1 else 0))
theorem jAg.det {A r r' : Int32} {b : Nat} (h : jAg A b r) (h' : jAg A b r') (t : jT27 r) (t' : jT27 r') : r = r' :=
  jA_ext t t' (by rw [h.1, h'.1]) (fun c hc => by rw [(h.2 c hc).1, (h'.2 c hc).1]) (fun c hc => by rw [(h.2 c hc).2, (h'.2 c hc).2])
/-- what an attack is cut to, when k overs are left -/
def jMo2 (k last : Int) (c : Nat) : Int := (if (c : Int) = last then k else k + 1) / 2
def jTf (ex : Bool) (k : Int) (A r : Int32) : Prop := jla r = jla A ∧ ∀ c : Nat, c < 4 → jlf r c = (if (ex = false ∨ k ≤ 1) ∧ jMo2 k (jla A) c < jlf A c then jMo2 k (jla A) c else jlf A c) ∧ jst r c = (if jlf r c = 0 then 0 else jst A c)
theorem jTf.det {ex : Bool} {k : Int} {A r r' : Int32} (h : jTf ex k A r) (h' : jTf ex k A r') (t : jT27 r) (t' : jT27 r') : r = r' :=
  jA_ext t t' (by rw [h.1, h'.1]) (fun c hc => by rw [(h.2 c hc).1, (h'.2 c hc).1]) (fun c hc => by rw [(h.2 c hc).2, (h'.2 c hc).2, (h.2 c hc).1, (h'.2 c hc).1])
theorem jTf.qv {ex : Bool} {k : Nat} {A r : Int32} (h : jTf ex (k : Int) A r) (hk : 1 ≤ k) : jQv ex k (jla A) (jlf A) (jlf r) (jst A) (jst r) := by
  intro c hc
  obtain ⟨e1, e2⟩ := h.2 c hc
  have a := jlf_r A c hc
  have b := jlf_r r c hc
  unfold jMo2 at e1
  by_cases e : (c : Int) = jla A
  · rw [if_pos e] at e1 ⊢
    refine ⟨a.1, b.1, fun z => absurd e z, fun z y => ?_, ?_, fun x y => ?_⟩
    · rw [e2, if_neg (by split at e1 <;> omega)]
    · split at e1 <;> omega
    · rw [if_neg (by rintro ⟨z | z, _⟩; rw [x] at z; exact absurd z (by decide); omega)] at e1; exact e1.symm
  · rw [if_neg e] at e1 ⊢
    refine ⟨a.1, b.1, fun _ z => ?_, fun z y => ?_, ?_, fun x y => ?_⟩
    · rw [e2, if_neg (by split at e1 <;> omega)]
    · rw [e2, if_neg (by split at e1 <;> omega)]
    · split at e1 <;> omega
    · rw [if_neg (by rintro ⟨z | z, _⟩; rw [x] at z; exact absurd z (by decide); omega)] at e1; exact e1.symm
theorem jofn4 {c : Nat} (hc : c < 4) : 0 ≤ (Int32.ofNat c).toInt ∧ (Int32.ofNat c).toInt ≤ 3 ∧ (Int32.ofNat c).toInt = (c : Int) := by
  have h9 : c = 0 ∨ c = 1 ∨ c = 2 ∨ c = 3 := by omega
  rcases h9 with rfl | rfl | rfl | rfl <;> decide
theorem jofn4_ne {c : Nat} {b : Int32} (hc : c < 4) (h : (c : Int) ≠ b.toInt) : b ≠ Int32.ofNat c := fun e => h (by rw [e]; exact (jofn4 hc).2.2.symm)
theorem jofn4_eq {c : Nat} {b : Int32} (hc : c < 4) (h : (c : Int) = b.toInt) : b = Int32.ofNat c := Int32.toInt_inj.mp (by rw [← h]; exact (jofn4 hc).2.2.symm)
theorem jand3 {v : Int32} (h0 : 0 ≤ v.toInt) (h1 : v.toInt ≤ 3) : v &&& 3 = v := by
  rcases jc4 h0 h1 with rfl | rfl | rfl | rfl <;> decide
theorem jSt_Wl {a b b' v : Int32} (h0 : 0 ≤ b.toInt) (h1 : b.toInt ≤ 3) (k0 : 0 ≤ b'.toInt) (k1 : b'.toInt ≤ 3) : jSt (jWl a b v) b' = jSt a b' := by
  rcases jc4 h0 h1 with rfl | rfl | rfl | rfl <;> rcases jc4 k0 k1 with rfl | rfl | rfl | rfl
  · exact jbq (jget_put a.toBitVec v.toBitVec 11 3 4 2 (by decide) (by decide) (by decide) (by decide) (by decide))
  · exact jbq (jget_put a.toBitVec v.toBitVec 11 5 4 2 (by decide) (by decide) (by decide) (by decide) (by decide))
  · exact jbq (jget_put a.toBitVec v.toBitVec 11 7 4 2 (by decide) (by decide) (by decide) (by decide) (by decide))
  · exact jbq (jget_put a.toBitVec v.toBitVec 11 9 4 2 (by decide) (by decide) (by decide) (by decide) (by decide))
  · exact jbq (jget_put a.toBitVec v.toBitVec 15 3 4 2 (by decide) (by decide) (by decide) (by decide) (by decide))
  · exact jbq (jget_put a.toBitVec v.toBitVec 15 5 4 2 (by decide) (by decide) (by decide) (by decide) (by decide))
  · exact jbq (jget_put a.toBitVec v.toBitVec 15 7 4 2 (by decide) (by decide) (by decide) (by decide) (by decide))
  · exact jbq (jget_put a.toBitVec v.toBitVec 15 9 4 2 (by decide) (by decide) (by decide) (by decide) (by decide))
  · exact jbq (jget_put a.toBitVec v.toBitVec 19 3 4 2 (by decide) (by decide) (by decide) (by decide) (by decide))
  · exact jbq (jget_put a.toBitVec v.toBitVec 19 5 4 2 (by decide) (by decide) (by decide) (by decide) (by decide))
  · exact jbq (jget_put a.toBitVec v.toBitVec 19 7 4 2 (by decide) (by decide) (by decide) (by decide) (by decide))
  · exact jbq (jget_put a.toBitVec v.toBitVec 19 9 4 2 (by decide) (by decide) (by decide) (by decide) (by decide))
  · exact jbq (jget_put a.toBitVec v.toBitVec 23 3 4 2 (by decide) (by decide) (by decide) (by decide) (by decide))
  · exact jbq (jget_put a.toBitVec v.toBitVec 23 5 4 2 (by decide) (by decide) (by decide) (by decide) (by decide))
  · exact jbq (jget_put a.toBitVec v.toBitVec 23 7 4 2 (by decide) (by decide) (by decide) (by decide) (by decide))
  · exact jbq (jget_put a.toBitVec v.toBitVec 23 9 4 2 (by decide) (by decide) (by decide) (by decide) (by decide))
theorem jSt_Wa {a n b : Int32} (h0 : 0 ≤ n.toInt) (h1 : n.toInt ≤ 4) (k0 : 0 ≤ b.toInt) (k1 : b.toInt ≤ 3) : jSt (jWa a n) b = jSt a b := by
  have hn : n.toBitVec &&& 7#32 = n.toBitVec := by
    have h : n.toInt = 0 ∨ n.toInt = 1 ∨ n.toInt = 2 ∨ n.toInt = 3 ∨ n.toInt = 4 := by omega
    rcases h with h | h | h | h | h
    · rw [show n = 0 from Int32.toInt_inj.mp (by rw [h]; decide)]; decide
    · rw [show n = 1 from Int32.toInt_inj.mp (by rw [h]; decide)]; decide
    · rw [show n = 2 from Int32.toInt_inj.mp (by rw [h]; decide)]; decide
    · rw [show n = 3 from Int32.toInt_inj.mp (by rw [h]; decide)]; decide
    · rw [show n = 4 from Int32.toInt_inj.mp (by rw [h]; decide)]; decide
  rcases jc4 k0 k1 with rfl | rfl | rfl | rfl
  · exact jbq (jwa_bits a.toBitVec n.toBitVec 3 2 (by decide) (by decide) (by decide) hn)
  · exact jbq (jwa_bits a.toBitVec n.toBitVec 5 2 (by decide) (by decide) (by decide) hn)
  · exact jbq (jwa_bits a.toBitVec n.toBitVec 7 2 (by decide) (by decide) (by decide) hn)
  · exact jbq (jwa_bits a.toBitVec n.toBitVec 9 2 (by decide) (by decide) (by decide) hn)
theorem jst_Ws {A b v : Int32} (h0 : 0 ≤ b.toInt) (h1 : b.toInt ≤ 3) (v0 : 0 ≤ v.toInt) (v1 : v.toInt ≤ 3) (c : Nat) (hc : c < 4) : jst (jWs A b v) c = if (c : Int) = b.toInt then v.toInt else jst A c := by
  have k := jofn4 hc
  unfold jst
  by_cases e : (c : Int) = b.toInt
  · rw [if_pos e, ← jofn4_eq hc e, jSt_Ws_s h0 h1, jand3 v0 v1]
  · rw [if_neg e, jSt_Ws h0 h1 k.1 k.2.1 (jofn4_ne hc e)]
theorem jlf_Ws {A b v : Int32} (h0 : 0 ≤ b.toInt) (h1 : b.toInt ≤ 3) (c : Nat) (hc : c < 4) : jlf (jWs A b v) c = jlf A c := by
  unfold jlf; rw [jLf_Ws h0 h1 (jofn4 hc).1 (jofn4 hc).2.1]
theorem jla_Ws {A b v : Int32} (h0 : 0 ≤ b.toInt) (h1 : b.toInt ≤ 3) : jla (jWs A b v) = jla A := by unfold jla; rw [jLa_Ws h0 h1]
theorem jlf_Wl {A b v : Int32} (h0 : 0 ≤ b.toInt) (h1 : b.toInt ≤ 3) (v0 : 0 ≤ v.toInt) (v1 : v.toInt ≤ 15) (c : Nat) (hc : c < 4) : jlf (jWl A b v) c = if (c : Int) = b.toInt then v.toInt else jlf A c := by
  have k := jofn4 hc
  unfold jlf
  by_cases e : (c : Int) = b.toInt
  · rw [if_pos e, ← jofn4_eq hc e, jLf_Wl_s h0 h1, jand15 v0 v1]
  · rw [if_neg e, jLf_Wl h0 h1 k.1 k.2.1 (jofn4_ne hc e)]
theorem jst_Wl {A b v : Int32} (h0 : 0 ≤ b.toInt) (h1 : b.toInt ≤ 3) (c : Nat) (hc : c < 4) : jst (jWl A b v) c = jst A c := by
  unfold jst; rw [jSt_Wl h0 h1 (jofn4 hc).1 (jofn4 hc).2.1]
theorem jla_Wl {A b v : Int32} (h0 : 0 ≤ b.toInt) (h1 : b.toInt ≤ 3) : jla (jWl A b v) = jla A := by unfold jla; rw [jLa_Wl h0 h1]
theorem jst_Wa {A n : Int32} (h0 : 0 ≤ n.toInt) (h1 : n.toInt ≤ 4) (c : Nat) (hc : c < 4) : jst (jWa A n) c = jst A c := by
  unfold jst; rw [jSt_Wa h0 h1 (jofn4 hc).1 (jofn4 hc).2.1]
theorem jlf_Wa {A n : Int32} (h0 : 0 ≤ n.toInt) (h1 : n.toInt ≤ 4) (c : Nat) (hc : c < 4) : jlf (jWa A n) c = jlf A c := by
  unfold jlf; rw [jLf_Wa h0 h1 (jofn4 hc).1 (jofn4 hc).2.1]
theorem jla_Wa {A n : Int32} (h0 : 0 ≤ n.toInt) (h1 : n.toInt ≤ 4) : jla (jWa A n) = n.toInt - 1 := by unfold jla; rw [jLa_Wa h0 h1]
/-- behind an over of b, STEPS of the first n told -/
def jSs (A : Int32) (b : Int) (c : Nat) : Int := if (c : Int) = b then (if jst A c < 3 then jst A c + 1 else 3) else (if 0 < jst A c then jst A c - 1 else 0)
def jAh (A x : Int32) (b n : Int) : Prop := jla x = b ∧ ∀ c : Nat, c < 4 → jlf x c = jlf A c ∧ jst x c = if (c : Int) < n then jSs A b c else jst A c
theorem jAh.first {A x m : Int32} {b n : Int} (e : x = jWa A m) (hm : m.toInt = b + 1) (b0 : 0 ≤ b) (b1 : b ≤ 3) (hn : n ≤ 0) : jAh A x b n := by
  subst e
  refine ⟨by rw [jla_Wa (by omega) (by omega)]; omega, fun c hc => ?_⟩
  rw [jlf_Wa (by omega) (by omega) c hc, jst_Wa (by omega) (by omega) c hc, if_neg (by omega)]
  exact ⟨rfl, rfl⟩
theorem jAh.step {A x y k s v : Int32} {b n n' : Int} (h : jAh A x b n) (e : y = jWs x k v) (hk : k.toInt = n) (n0 : 0 ≤ n) (n3 : n ≤ 3) (hs : s = jSt A k) (hv : (n = b ∧ ((v.toInt = 3 ∧ 3 ≤ s.toInt + 1) ∨ (v.toInt = s.toInt + 1 ∧ s.toInt + 1 ≤ 3))) ∨ (n ≠ b ∧ ((v.toInt = 0 ∧ s.toInt - 1 ≤ 0) ∨ (v.toInt = s.toInt - 1 ∧ 0 ≤ s.toInt - 1)))) (hn : n' = n + 1) : jAh A y b n' := by
  subst e hn
  have es : jst A n.toNat = s.toInt := by
    unfold jst; rw [hs, jofn4_eq (c := n.toNat) (b := k) (by omega) (by omega)]
  have r := jst_r A n.toNat (by omega)
  refine ⟨by rw [jla_Ws (by omega) (by omega)]; exact h.1, fun c hc => ?_⟩
  obtain ⟨a1, a2⟩ := h.2 c hc
  rw [jlf_Ws (by omega) (by omega) c hc, jst_Ws (by omega) (by omega) (by omega) (by omega) c hc]
  refine ⟨a1, ?_⟩
  by_cases q : (c : Int) = k.toInt
  · rw [if_pos q, if_pos (by omega)]
    have ec : c = n.toNat := by omega
    subst ec
    unfold jSs
    rcases hv with ⟨q1, q2⟩ | ⟨q1, q2⟩
    · rw [if_pos (by omega), es]; split <;> omega
    · rw [if_neg (by omega), es]; split <;> omega
  · rw [if_neg q, a2]
    by_cases z : (c : Int) < n
    · rw [if_pos z, if_pos (by omega)]
    · rw [if_neg z, if_neg (by omega)]
theorem jAh.fin {A x r v l : Int32} {b n : Int} {k : Int32} (h : jAh A x b n) (e : r = jWl x k v) (hk : k.toInt = b) (b0 : 0 ≤ b) (b3 : b ≤ 3) (hn : 4 ≤ n) (hl : l = jLf A k) (hv : (v.toInt = 0 ∧ l.toInt - 1 ≤ 0) ∨ (v.toInt = l.toInt - 1 ∧ 0 ≤ l.toInt - 1)) : jAg A b.toNat r := by
  subst e
  have el : jlf A b.toNat = l.toInt := by
    unfold jlf; rw [hl, jofn4_eq (c := b.toNat) (b := k) (by omega) (by omega)]
  have rr := jlf_r A b.toNat (by omega)
  refine ⟨by rw [jla_Wl (by omega) (by omega), h.1]; omega, fun c hc => ?_⟩
  obtain ⟨a1, a2⟩ := h.2 c hc
  have a2' : jst x c = jSs A b c := by rw [a2, if_pos (by omega)]
  rw [jlf_Wl (by omega) (by omega) (by omega) (by omega) c hc, jst_Wl (by omega) (by omega) c hc, a1, a2']
  unfold jSs
  by_cases q : (c : Int) = b
  · have ec : c = b.toNat := by omega
    subst ec
    rw [if_pos (by omega), if_pos rfl, if_pos q, if_pos rfl, el]
    refine ⟨?_, rfl⟩
    unfold jmx; split <;> omega
  · have ec : c ≠ b.toNat := by omega
    rw [if_neg (by omega), if_neg ec, if_neg q, if_neg ec]; exact ⟨rfl, rfl⟩
/-- cut, the first n bowlers -/
def jTh (ex : Bool) (k : Int) (A x : Int32) (n : Int) : Prop := jla x = jla A ∧ ∀ c : Nat, c < 4 → if (c : Int) < n then (jlf x c = (if (ex = false ∨ k ≤ 1) ∧ jMo2 k (jla A) c < jlf A c then jMo2 k (jla A) c else jlf A c) ∧ jst x c = (if jlf x c = 0 then 0 else jst A c)) else (jlf x c = jlf A c ∧ jst x c = jst A c)
theorem jTh.first {ex : Bool} {k : Int} {A x : Int32} {n : Int} (e : x = A) (hn : n ≤ 0) : jTh ex k A x n := by
  subst e; exact ⟨rfl, fun c hc => by rw [if_neg (by omega)]; exact ⟨rfl, rfl⟩⟩
theorem jTh.fin {ex : Bool} {k : Int} {A x : Int32} {n : Int} (h : jTh ex k A x n) (hn : 4 ≤ n) : jTf ex k A x :=
  ⟨h.1, fun c hc => by have q := h.2 c hc; rw [if_pos (by omega)] at q; exact q⟩
theorem jTh.step {ex : Bool} {k : Int} {A x y q l m v w : Int32} {n n' : Int} (h : jTh ex k A x n) (hq : q.toInt = n) (n0 : 0 ≤ n) (n3 : n ≤ 3) (hl : l = jLf A q) (hm : m.toInt = (if jla A = n then k else k + 1) / 2) (m0 : 0 ≤ m.toInt) (hw : w.toInt = 0)
    (e1 : ((ex = false ∨ k ≤ 1) ∧ m.toInt < l.toInt ∧ v.toInt = m.toInt ∧ ((v.toInt = 0 ∧ y = jWs (jWl x q v) q w) ∨ (v.toInt ≠ 0 ∧ y = jWl x q v))) ∨ (¬ ((ex = false ∨ k ≤ 1) ∧ m.toInt < l.toInt) ∧ ((l.toInt = 0 ∧ y = jWs x q w) ∨ (l.toInt ≠ 0 ∧ y = x)))) (hn : n' = n + 1) : jTh ex k A y n' := by
  subst hn
  have el : jlf A n.toNat = l.toInt := by
    unfold jlf; rw [hl, jofn4_eq (c := n.toNat) (b := q) (by omega) (by omega)]
  have rr := jlf_r A n.toNat (by omega)
  have em : jMo2 k (jla A) n.toNat = m.toInt := by
    unfold jMo2; rw [hm]
    by_cases z : jla A = n
    · rw [if_pos z, if_pos (by omega)]
    · rw [if_neg z, if_neg (by omega)]
  have la : jla y = jla A := by
    rcases e1 with ⟨_, _, _, ⟨_, e⟩ | ⟨_, e⟩⟩ | ⟨_, ⟨_, e⟩ | ⟨_, e⟩⟩
    · rw [e, jla_Ws (by omega) (by omega), jla_Wl (by omega) (by omega)]; exact h.1
    · rw [e, jla_Wl (by omega) (by omega)]; exact h.1
    · rw [e, jla_Ws (by omega) (by omega)]; exact h.1
    · rw [e]; exact h.1
  refine ⟨la, fun c hc => ?_⟩
  have a := h.2 c hc
  by_cases z : (c : Int) = n
  · have ec : c = n.toNat := by omega
    subst ec
    rw [if_neg (by omega)] at a
    rw [if_pos (by omega), em, el]
    rcases e1 with ⟨d1, d2, d3, d4⟩ | ⟨d1, d4⟩
    · rw [if_pos ⟨d1, d2⟩]
      rcases d4 with ⟨d5, e⟩ | ⟨d5, e⟩
      · rw [e, jlf_Ws (by omega) (by omega) _ hc, jlf_Wl (by omega) (by omega) (by omega) (by omega) _ hc, if_pos (by omega), jst_Ws (by omega) (by omega) (by omega) (by omega) _ hc, if_pos (by omega), if_pos d5]; exact ⟨d3, hw⟩
      · rw [e, jlf_Wl (by omega) (by omega) (by omega) (by omega) _ hc, if_pos (by omega), jst_Wl (by omega) (by omega) _ hc, if_neg d5]; exact ⟨d3, a.2⟩
    · rw [if_neg d1]
      rcases d4 with ⟨d5, e⟩ | ⟨d5, e⟩
      · rw [e, jlf_Ws (by omega) (by omega) _ hc, jst_Ws (by omega) (by omega) (by omega) (by omega) _ hc, if_pos (by omega), a.1, el, if_pos d5]; exact ⟨rfl, hw⟩
      · rw [e, a.1, el, if_neg d5]; exact ⟨rfl, a.2⟩
  · have same : jlf y c = jlf x c ∧ jst y c = jst x c := by
      rcases e1 with ⟨_, d2, d3, ⟨_, e⟩ | ⟨_, e⟩⟩ | ⟨_, ⟨_, e⟩ | ⟨_, e⟩⟩
      · rw [e, jlf_Ws (by omega) (by omega) _ hc, jlf_Wl (by omega) (by omega) (by omega) (by omega) _ hc, if_neg (by omega), jst_Ws (by omega) (by omega) (by omega) (by omega) _ hc, if_neg (by omega), jst_Wl (by omega) (by omega) _ hc]; exact ⟨rfl, rfl⟩
      · rw [e, jlf_Wl (by omega) (by omega) (by omega) (by omega) _ hc, if_neg (by omega), jst_Wl (by omega) (by omega) _ hc]; exact ⟨rfl, rfl⟩
      · rw [e, jlf_Ws (by omega) (by omega) _ hc, jst_Ws (by omega) (by omega) (by omega) (by omega) _ hc, if_neg (by omega)]; exact ⟨rfl, rfl⟩
      · rw [e]; exact ⟨rfl, rfl⟩
    rw [same.1, same.2]
    by_cases y : (c : Int) < n
    · rw [if_pos y] at a; rw [if_pos (by omega)]; exact a
    · rw [if_neg y] at a; rw [if_neg (by omega)]; exact a
theorem jTh.stepi {e : Int} {k : Int} {A x y q l m v w : Int32} {n n' : Int} (h : jTh (decide (e ≠ 0)) k A x n) (hq : q.toInt = n) (n0 : 0 ≤ n) (n3 : n ≤ 3) (hl : l = jLf A q) (hm : (jla A = n ∧ m.toInt = k / 2) ∨ (jla A ≠ n ∧ m.toInt = (k + 1) / 2)) (m0 : 0 ≤ m.toInt) (hw : w.toInt = 0)
    (e1 : ((e = 0 ∨ k ≤ 1) ∧ m.toInt < l.toInt ∧ v.toInt = m.toInt ∧ ((v.toInt = 0 ∧ y = jWs (jWl x q v) q w) ∨ (v.toInt ≠ 0 ∧ y = jWl x q v))) ∨ (¬ ((e = 0 ∨ k ≤ 1) ∧ m.toInt < l.toInt) ∧ ((l.toInt = 0 ∧ y = jWs x q w) ∨ (l.toInt ≠ 0 ∧ y = x)))) (hn : n' = n + 1) : jTh (decide (e ≠ 0)) k A y n' := by
  have i : (e = 0 ∨ k ≤ 1) ↔ (decide (e ≠ 0) = false ∨ k ≤ 1) := by rw [decide_eq_false_iff_not]; omega
  rw [i] at e1
  refine h.step hq n0 n3 hl ?_ m0 hw e1 hn
  rcases hm with ⟨a, b⟩ | ⟨a, b⟩
  · rw [if_pos a]; exact b
  · rw [if_neg a]; exact b
/-! keys in slots -/
theorem jqup_ne {g : Nat → Int32} {a b : Nat} {x : Int32} (h : b ≠ a) : jupd g a x b = g b := if_neg h
theorem jqup_eq {g : Nat → Int32} {a : Nat} {x : Int32} : jupd g a x a = x := if_pos rfl
def jHx (k : Int32) : Int32 := ((k * (-1640531527)).toUInt32 >>> (Int32.toUInt32 22 &&& Int32.toUInt32 31)).toInt32
theorem jHx_r (k : Int32) : 0 ≤ (jHx k).toInt ∧ (jHx k).toInt ≤ 1023 := jushr (y := 22) (n := 22) (by decide) (by decide) (show jHx k = ((k * (-1640531527)).toUInt32 >>> (Int32.toUInt32 22 &&& Int32.toUInt32 31)).toInt32 from rfl) (by decide)
/-- the slot of a key's probe p -/
def jqpr (k : Int32) (p : Nat) : Int := ((jHx k).toInt + (p : Int)) % 1024
theorem jqpr_r (k : Int32) (p : Nat) : 0 ≤ jqpr k p ∧ jqpr k p < 1024 := by unfold jqpr; omega
theorem jqpr_inj {k : Int32} {p q : Nat} (e : jqpr k p = jqpr k q) (hp : p < 1024) (hq : q < 1024) : p = q := by
  have h := jHx_r k; unfold jqpr at e; omega
def jqTk (n : Int) (S T : Nat → Int32) (s : Int) : Prop := 0 ≤ (S s.toNat).toInt ∧ (S s.toNat).toInt < n ∧ (T (S s.toNat).toInt.toNat).toInt = s
def jqMs (n : Int) (K S T : Nat → Int32) (k : Int32) (p : Nat) : Prop := jqTk n S T (jqpr k p) ∧ K (S (jqpr k p).toNat).toInt.toNat ≠ k
def jqSf (n : Int) (K S T : Nat → Int32) (k : Int32) (r : Int) : Prop := (∃ p : Nat, p < 1024 ∧ r = jqpr k p ∧ (∀ q : Nat, q < p → jqMs n K S T k q) ∧ (¬ jqTk n S T r ∨ (jqTk n S T r ∧ K (S r.toNat).toInt.toNat = k))) ∨ (r = -1 ∧ ∀ q : Nat, q < 1024 → jqMs n K S T k q)
def jqHs (n : Int) (K S T : Nat → Int32) : Prop := (∀ i : Nat, (i : Int) < n → 0 ≤ (T i).toInt ∧ (T i).toInt < 1024 ∧ (S (T i).toInt.toNat).toInt = i ∧ ∃ p : Nat, p < 1024 ∧ (T i).toInt = jqpr (K i) p ∧ ∀ q : Nat, q < p → jqTk n S T (jqpr (K i) q)) ∧ ∀ i j : Nat, (i : Int) < n → (j : Int) < n → K i = K j → i = j
theorem jqHs.tk {n : Int} {K S T : Nat → Int32} (h : jqHs n K S T) {i : Nat} (hi : (i : Int) < n) : jqTk n S T (T i).toInt := by
  obtain ⟨a, b, c, _⟩ := h.1 i hi
  refine ⟨by omega, by omega, ?_⟩
  rw [c]; rfl
theorem jqHs.found {n : Int} {K S T : Nat → Int32} {k : Int32} {r : Int} {j : Nat} (h : jqHs n K S T) (f : jqSf n K S T k r) (hj : (j : Int) < n) (e : K j = k) : 0 ≤ r ∧ jqTk n S T r ∧ (S r.toNat).toInt = j := by
  have t := h.tk hj
  obtain ⟨a, b, c, p', hp', e', b'⟩ := h.1 j hj
  rw [e] at e' b'
  have no : ∀ q : Nat, q = p' → jqMs n K S T k q → False := fun q hq m => by
    subst hq; refine m.2 ?_; rw [← e', c]; exact e
  rcases f with ⟨p, hp, er, ms, m⟩ | ⟨er, ms⟩
  · have rr := jqpr_r k p
    refine ⟨by omega, ?_⟩
    by_cases lt : p' < p
    · exact (no p' rfl (ms p' lt)).elim
    · by_cases eq : p = p'
      · subst eq; rw [er, ← e']; exact ⟨t, c⟩
      · have tk : jqTk n S T r := by rw [er]; exact b' p (by omega)
        rcases m with m | m
        · exact (m tk).elim
        · refine ⟨tk, ?_⟩
          have := h.2 _ j (show (((S r.toNat).toInt.toNat : Nat) : Int) < n by have := tk.1; have := tk.2.1; omega) hj (by rw [m.2, e])
          have := tk.1; omega
  · exact (no p' rfl (ms p' hp')).elim
theorem jphp : ∀ (N : Nat) (n : Nat) (f : Nat → Nat), (∀ i, i < N → f i < n) → (∀ i j, i < N → j < N → f i = f j → i = j) → N ≤ n
  | 0, n, f, _, _ => Nat.zero_le n
  | N + 1, 0, f, h, _ => absurd (h 0 (Nat.succ_pos N)) (Nat.not_lt_zero _)
  | N + 1, n + 1, f, h, g => by
    refine Nat.succ_le_succ (jphp N n (fun i => if f i = n then f N else f i) ?_ ?_)
    · intro i hi
      have a := h i (by omega); have b := h N (by omega)
      show (if f i = n then f N else f i) < n
      by_cases c : f i = n
      · rw [if_pos c]
        have : f N ≠ n := fun e => by have := g i N (by omega) (by omega) (by omega); omega
        omega
      · rw [if_neg c]; omega
    · intro i j hi hj e
      have e : (if f i = n then f N else f i) = (if f j = n then f N else f j) := e
      by_cases c : f i = n
      · by_cases d : f j = n
        · exact g i j (by omega) (by omega) (by omega)
        · rw [if_pos c, if_neg d] at e; have := g N j (by omega) (by omega) e; omega
      · by_cases d : f j = n
        · rw [if_neg c, if_pos d] at e; have := g i N (by omega) (by omega) e; omega
        · rw [if_neg c, if_neg d] at e; exact g i j (by omega) (by omega) e
theorem jqSf.full {n : Int} {K S T : Nat → Int32} {k : Int32} {r : Int} (f : jqSf n K S T k r) (h : r < 0) : 1024 ≤ n := by
  rcases f with ⟨p, _, er, _⟩ | ⟨_, ms⟩
  · have := jqpr_r k p; omega
  · have n0 : 0 ≤ n := by have := (ms 0 (by omega)).1; have := this.1; have := (ms 0 (by omega)).1.2.1; omega
    have := jphp 1024 n.toNat (fun q => (S (jqpr k q).toNat).toInt.toNat) (fun q hq => by have := (ms q hq).1; have a := this.1; have b := this.2.1; show (S (jqpr k q).toNat).toInt.toNat < _; omega) (fun i j hi hj e => by
      have e : (S (jqpr k i).toNat).toInt.toNat = (S (jqpr k j).toNat).toInt.toNat := e
      have a := (ms i hi).1.2.2; have b := (ms j hj).1.2.2
      rw [e] at a; rw [a] at b; exact jqpr_inj b hi hj)
    omega
theorem jqHs.add {n n' : Int} {K S T K' S' T' : Nat → Int32} {k v w : Int32} {r : Int} (h : jqHs n K S T) (f : jqSf n K S T k r) (hr : 0 ≤ r) (nt : ¬ jqTk n S T r) (n0 : 0 ≤ n) (eK : K' = jupd K n.toNat k) (eS : S' = jupd S r.toNat v) (hv : v.toInt = n) (eT : T' = jupd T n.toNat w) (hw : w.toInt = r) (hn : n' = n + 1) : jqHs n' K' S' T' := by
  subst eK eS eT hn
  have key : ∀ j : Nat, (j : Int) < n → K j ≠ k := fun j hj e => nt (h.found f hj e).2.1
  have mono : ∀ s : Int, 0 ≤ s → jqTk n S T s → jqTk (n + 1) (jupd S r.toNat v) (jupd T n.toNat w) s := fun s s0 t => by
    have ne : s.toNat ≠ r.toNat := fun e => nt (by rw [show r = s by omega]; exact t)
    have := t.1; have := t.2.1
    unfold jqTk; rw [jqup_ne ne]
    refine ⟨by omega, by omega, ?_⟩
    rw [jqup_ne (by omega)]; exact t.2.2
  rcases f with ⟨p, hp, er, ms, _⟩ | ⟨er, _⟩
  · refine ⟨fun i hi => ?_, fun i j hi hj e => ?_⟩
    · by_cases c : (i : Int) = n
      · rw [show i = n.toNat by omega, jqup_eq, jqup_eq]
        have rr := jqpr_r k p
        refine ⟨by omega, by omega, ?_, p, hp, by rw [hw, er], fun q hq => mono _ (jqpr_r k q).1 (ms q hq).1⟩
        rw [hw, jqup_eq]; omega
      · have hi : (i : Int) < n := by omega
        rw [jqup_ne (show i ≠ n.toNat by omega), jqup_ne (show i ≠ n.toNat by omega)]
        obtain ⟨a, b, c', p', hp', e', b'⟩ := h.1 i hi
        have ne : (T i).toInt.toNat ≠ r.toNat := fun e => nt (by rw [show r = (T i).toInt from by rw [← Int.toNat_of_nonneg hr, ← e, Int.toNat_of_nonneg a]]; exact h.tk hi)
        refine ⟨a, b, ?_, p', hp', e', fun q hq => mono _ (jqpr_r _ q).1 (b' q hq)⟩
        rw [jqup_ne ne]; exact c'
    · by_cases c : (i : Int) = n
      · by_cases d : (j : Int) = n
        · omega
        · rw [show i = n.toNat by omega, jqup_eq, jqup_ne (show j ≠ n.toNat by omega)] at e
          exact (key j (by omega) e.symm).elim
      · by_cases d : (j : Int) = n
        · rw [show j = n.toNat by omega, jqup_eq, jqup_ne (show i ≠ n.toNat by omega)] at e
          exact (key i (by omega) e).elim
        · rw [jqup_ne (show i ≠ n.toNat by omega), jqup_ne (show j ≠ n.toNat by omega)] at e
          exact h.2 i j (by omega) (by omega) e
  · omega
theorem jqHs.nil {n : Int} {K S T : Nat → Int32} (h : n ≤ 0) : jqHs n K S T := ⟨fun _ hi => absurd hi (by omega), fun _ _ hi => absurd hi (by omega)⟩
theorem jqTk_iff {n : Int} {S T : Nat → Int32} {a : Int32} : jqTk n S T a.toInt ↔ (0 ≤ (S a.toNatClampNeg).toInt ∧ (S a.toNatClampNeg).toInt < n ∧ (T (S a.toNatClampNeg).toNatClampNeg).toInt = a.toInt) := Iff.rfl
theorem jqMs.step {n : Int} {K S T : Nat → Int32} {k : Int32} {m m' s : Int} (h : ∀ q : Nat, (q : Int) < m → jqMs n K S T k q) (m0 : 0 ≤ m) (es : s = ((jHx k).toInt + m) % 1024) (t : jqTk n S T s) (ne : (K (S s.toNat).toInt.toNat).toInt ≠ k.toInt) (hm : m' = m + 1) : ∀ q : Nat, (q : Int) < m' → jqMs n K S T k q := by
  intro q hq
  by_cases c : (q : Int) < m
  · exact h q c
  · have e : jqpr k q = s := by unfold jqpr; rw [es]; omega
    unfold jqMs; rw [e]; exact ⟨t, fun w => ne (congrArg Int32.toInt w)⟩
theorem jqSf.of {n : Int} {K S T : Nat → Int32} {k : Int32} {m s : Int} (h : ∀ q : Nat, (q : Int) < m → jqMs n K S T k q) (m0 : 0 ≤ m) (m1 : m < 1024) (es : s = ((jHx k).toInt + m) % 1024) (t : ¬ jqTk n S T s ∨ (jqTk n S T s ∧ (K (S s.toNat).toInt.toNat).toInt = k.toInt)) : jqSf n K S T k s := by
  refine Or.inl ⟨m.toNat, by omega, by unfold jqpr; rw [es]; omega, fun q hq => h q (by omega), ?_⟩
  rcases t with t | t
  · exact Or.inl t
  · exact Or.inr ⟨t.1, Int32.toInt_inj.mp t.2⟩
theorem jqSf.no {n : Int} {K S T : Nat → Int32} {k : Int32} {m r : Int} (h : ∀ q : Nat, (q : Int) < m → jqMs n K S T k q) (m1 : 1024 ≤ m) (er : r = -1) : jqSf n K S T k r := Or.inr ⟨er, fun q hq => h q (by omega)⟩
theorem jqSf.hit {n : Int} {K S T : Nat → Int32} {k : Int32} {r : Int} (f : jqSf n K S T k r) (hr : 0 ≤ r) (t : jqTk n S T r) : K (S r.toNat).toInt.toNat = k := by
  rcases f with ⟨p, _, _, _, m | m⟩ | ⟨e, _⟩
  · exact (m t).elim
  · exact m.2
  · omega
def jKh (σ : Nat → Nat → Int32) : Prop := jqHs (σ 31 8).toInt (σ 32) (σ 36) (σ 37)
theorem jKh.fr {σ σ' : Nat → Nat → Int32} (e1 : σ' 31 8 = σ 31 8) (e2 : σ' 32 = σ 32) (e3 : σ' 36 = σ 36) (e4 : σ' 37 = σ 37) (h : jKh σ) : jKh σ' := by unfold jKh at *; rw [e1, e2, e3, e4]; exact h
theorem jKh.nil {σ : Nat → Nat → Int32} (h : (σ 31 8).toInt ≤ 0) : jKh σ := jqHs.nil h
/-- what adding answers -/
def jqAd (n n' : Int) (K K' : Nat → Int32) (lv d : Int) (ex : Bool) (A : Int32) (r : Int) : Prop := (∀ j : Nat, (j : Int) < n → K' j = K j) ∧ ((lv ≤ d ∧ r = 350 ∧ n' = n) ∨ (d < lv ∧ ∃ t : Int32, jTf ex (lv - d) A t ∧ jT27 t ∧ ((n' = n ∧ r = 350 ∧ n = 350) ∨ (0 ≤ r ∧ r < n' ∧ (K' r.toNat).toInt = t.toInt + d * 134217728 ∧ (n' = n ∨ (n' = n + 1 ∧ r = n))))))
theorem jqAd.out {n lv d : Int} {K : Nat → Int32} {ex : Bool} {A : Int32} (h : lv ≤ d) : jqAd n n K K lv d ex A 350 := ⟨fun _ _ => rfl, Or.inl ⟨h, rfl, rfl⟩⟩
theorem jqAd.full {n lv d : Int} {K : Nat → Int32} {ex : Bool} {A t : Int32} {k : Int} (h : d < lv) (hk : k = lv - d) (f : jTf ex k A t) (t0 : 0 ≤ t.toInt) (t1 : t.toInt ≤ 134217727) (n1 : n = 350) : jqAd n n K K lv d ex A 350 := by
  subst hk; exact ⟨fun _ _ => rfl, Or.inr ⟨h, t, f, ⟨t0, t1⟩, Or.inl ⟨rfl, rfl, n1⟩⟩⟩
theorem jqAd.old {n lv d : Int} {K S T : Nat → Int32} {ex : Bool} {A t y : Int32} {k s r : Int} (h : d < lv) (hk : k = lv - d) (f : jTf ex k A t) (t0 : 0 ≤ t.toInt) (t1 : t.toInt ≤ 134217727) (sf : jqSf n K S T y s) (s0 : 0 ≤ s) (tk : jqTk n S T s) (er : r = (S s.toNat).toInt) (ey : y.toInt = t.toInt + d * 134217728) : jqAd n n K K lv d ex A r := by
  subst hk er
  exact ⟨fun _ _ => rfl, Or.inr ⟨h, t, f, ⟨t0, t1⟩, Or.inr ⟨tk.1, tk.2.1, by rw [sf.hit s0 tk, ey], Or.inl rfl⟩⟩⟩
theorem jqAd.new {n n' lv d : Int} {K K' : Nat → Int32} {ex : Bool} {A t y : Int32} {k r : Int} (h : d < lv) (hk : k = lv - d) (f : jTf ex k A t) (t0 : 0 ≤ t.toInt) (t1 : t.toInt ≤ 134217727) (n0 : 0 ≤ n) (eK : K' = jupd K n.toNat y) (hn : n' = n + 1) (er : r = n) (ey : y.toInt = t.toInt + d * 134217728) : jqAd n n' K K' lv d ex A r := by
  subst hk eK er
  exact ⟨fun j hj => jqup_ne (by omega), Or.inr ⟨h, t, f, ⟨t0, t1⟩, Or.inr ⟨n0, by omega, by rw [jqup_eq, ey], Or.inr ⟨hn, rfl⟩⟩⟩⟩
/-! nodes: forms, how many -/
def jCu (ex : Bool) (k l : Int) (b : Nat) (x : Int) : Int := if (ex = false ∨ k ≤ 1) ∧ jMo2 k l b < x then jMo2 k l b else x
def jFm (A : Int32) : Prop := ∀ b : Nat, b < 4 → jst A b = if (b : Int) = jla A then 1 else 0
def jFk (A0 : Int32) (ex : Bool) (k l : Int) (c : Nat → Nat) (A : Int32) : Prop := jla A = l ∧ ∀ b : Nat, b < 4 → jlf A b = jCu ex k l b (jmx (jlf A0 b - (c b : Int))) ∧ jst A b = if jlf A b = 0 then 0 else if (b : Int) = l then 1 else 0
def jRc : Nat → Int → Int → (Nat → Nat) → Prop
  | 0, l0, l, c => l = l0 ∧ ∀ b : Nat, b < 4 → c b = 0
  | d + 1, l0, l, c => ∃ (l' : Int) (c' : Nat → Nat) (b : Nat), jRc d l0 l' c' ∧ b < 4 ∧ (b : Int) ≠ l' ∧ l = (b : Int) ∧ ∀ x : Nat, x < 4 → c x = c' x + (if x = b then 1 else 0)
theorem jFk.root {A0 T : Int32} {ex : Bool} {k : Int} (h : jFm A0) (t : jTf ex k A0 T) : jFk A0 ex k (jla A0) (fun _ => 0) T := by
  refine ⟨t.1, fun b hb => ?_⟩
  obtain ⟨e1, e2⟩ := t.2 b hb
  have r := jlf_r A0 b hb
  refine ⟨?_, by rw [e2, h b hb]⟩
  rw [e1, show jmx (jlf A0 b - ((0 : Nat) : Int)) = jlf A0 b by unfold jmx; split <;> omega]; rfl
theorem jCu_next {ex : Bool} {k l x c : Int} {b z : Nat} (hk : 1 ≤ k) (hb : (b : Int) ≠ l) : jCu ex k b z (if z = b then jmx (jCu ex (k + 1) l z (jmx (x - c)) - 1) else jCu ex (k + 1) l z (jmx (x - c))) = jCu ex k b z (jmx (x - (c + (if z = b then 1 else 0)))) := by
  by_cases e : z = b
  · subst e
    rw [if_pos rfl, if_pos rfl]
    unfold jCu jMo2 jmx
    cases ex
    · simp only [true_or, true_and, if_pos, if_neg hb]; repeat' split <;> omega
    · simp only [Bool.true_eq_false, false_or, if_pos, if_neg hb]; repeat' split <;> omega
  · rw [if_neg e, if_neg e]
    have e' : ¬ (z : Int) = (b : Int) := by omega
    unfold jCu jMo2 jmx
    cases ex
    · simp only [true_or, true_and, if_neg e']; repeat' split <;> omega
    · simp only [Bool.true_eq_false, false_or, if_neg e']; repeat' split <;> omega
theorem jFk.next {A0 A a T : Int32} {ex : Bool} {k l : Int} {c c' : Nat → Nat} {b : Nat} (h : jFk A0 ex (k + 1) l c A) (hb : b < 4) (hl : (b : Int) ≠ l) (lf : 0 < jlf A b) (g : jAg A b a) (t : jTf ex k a T) (hk : 1 ≤ k) (hc : ∀ x : Nat, x < 4 → c' x = c x + (if x = b then 1 else 0)) : jFk A0 ex k (b : Int) c' T := by
  refine ⟨by rw [t.1, g.1], fun x hx => ?_⟩
  obtain ⟨a1, a2⟩ := h.2 x hx
  obtain ⟨b1, b2⟩ := g.2 x hx
  obtain ⟨c1, c2⟩ := t.2 x hx
  have e : jlf T x = jCu ex k (b : Int) x (jlf a x) := by rw [c1, g.1]; rfl
  refine ⟨?_, ?_⟩
  · rw [e, b1, a1, jCu_next hk hl, hc x hx]
    by_cases z : x = b
    · rw [if_pos z, if_pos z]; congr 1
    · rw [if_neg z, if_neg z]; congr 1
  · rw [c2]
    by_cases z : jlf T x = 0
    · rw [if_pos z, if_pos z]
    · rw [if_neg z, if_neg z, b2, a2]
      by_cases y : x = b
      · subst y
        rw [if_pos rfl, if_pos rfl, if_neg (show ¬ jlf A x = 0 by omega), if_neg hl]; decide
      · rw [if_neg y, if_neg (show ¬ (x : Int) = (b : Int) by omega)]
        by_cases w : jlf A x = 0
        · rw [if_pos w]; decide
        · rw [if_neg w]; split <;> decide
theorem jFk.det {A0 A A' : Int32} {ex : Bool} {k l : Int} {c c' : Nat → Nat} (h : jFk A0 ex k l c A) (h' : jFk A0 ex k l c' A') (e : ∀ b : Nat, b < 4 → c b = c' b) (t : jT27 A) (t' : jT27 A') : A = A' := by
  have f : ∀ b : Nat, b < 4 → jlf A b = jlf A' b := fun b hb => by rw [(h.2 b hb).1, (h'.2 b hb).1, e b hb]
  exact jA_ext t t' (by rw [h.1, h'.1]) f (fun b hb => by rw [(h.2 b hb).2, (h'.2 b hb).2, f b hb])
/-! codes -/
def jSu (e b : Nat) : Nat := (e / 8 + 8 ^ b) * 8 + (b + 1)
def jAc (e b : Nat) (acc : List Nat) : List Nat := if e % 8 = b + 1 then acc else if acc.elem (jSu e b) then acc else jSu e b :: acc
def jNx : List Nat → List Nat → List Nat
  | [], acc => acc
  | e :: t, acc => jNx t (jAc e 0 (jAc e 1 (jAc e 2 (jAc e 3 acc))))
theorem jAc_old {e b x : Nat} {acc : List Nat} (h : x ∈ acc) : x ∈ jAc e b acc := by
  unfold jAc; split
  · exact h
  · split
    · exact h
    · exact List.mem_cons_of_mem _ h
theorem jAc_new {e b : Nat} {acc : List Nat} (h : e % 8 ≠ b + 1) : jSu e b ∈ jAc e b acc := by
  unfold jAc; rw [if_neg h]; split
  · rename_i q; exact List.elem_iff.mp q
  · exact List.mem_cons_self
theorem jNx_old {x : Nat} : ∀ (t acc : List Nat), x ∈ acc → x ∈ jNx t acc
  | [], _, h => h
  | _ :: t, _, h => jNx_old t _ (jAc_old (jAc_old (jAc_old (jAc_old h))))
theorem jNx_new {e b : Nat} : ∀ (t acc : List Nat), e ∈ t → b < 4 → e % 8 ≠ b + 1 → jSu e b ∈ jNx t acc
  | f :: t, acc, h, hb, hn => by
    rcases List.mem_cons.mp h with h | h
    · subst h
      refine jNx_old t _ ?_
      have h9 : b = 0 ∨ b = 1 ∨ b = 2 ∨ b = 3 := by omega
      rcases h9 with rfl | rfl | rfl | rfl
      · exact jAc_new hn
      · exact jAc_old (jAc_new hn)
      · exact jAc_old (jAc_old (jAc_new hn))
      · exact jAc_old (jAc_old (jAc_old (jAc_new hn)))
    · exact jNx_new t _ h hb hn
def jLq : Nat → List Nat
  | 0 => [0]
  | d + 1 => jNx (jLq d) []
def jCd (l : Int) (c : Nat → Nat) : Nat := (l + 1).toNat + 8 * (c 0 + 8 * (c 1 + 8 * (c 2 + 8 * c 3)))
theorem jRc.sum : ∀ (d : Nat) {l0 l : Int} {c : Nat → Nat}, jRc d l0 l c → c 0 + c 1 + c 2 + c 3 = d ∧ (1 ≤ d → 0 ≤ l ∧ l ≤ 3)
  | 0, _, _, c, h => by
    have a := h.2 0 (by decide); have b := h.2 1 (by decide); have d := h.2 2 (by decide); have e := h.2 3 (by decide)
    exact ⟨by omega, fun h => absurd h (by decide)⟩
  | d + 1, _, l, c, ⟨l', c', b, h, hb, _, el, ec⟩ => by
    have q := (jRc.sum d h).1
    have a0 := ec 0 (by decide); have a1 := ec 1 (by decide); have a2 := ec 2 (by decide); have a3 := ec 3 (by decide)
    have h9 : b = 0 ∨ b = 1 ∨ b = 2 ∨ b = 3 := by omega
    refine ⟨?_, fun _ => by omega⟩
    rcases h9 with rfl | rfl | rfl | rfl
    · rw [if_pos rfl] at a0; rw [if_neg (by decide)] at a1 a2 a3; omega
    · rw [if_pos rfl] at a1; rw [if_neg (by decide)] at a0 a2 a3; omega
    · rw [if_pos rfl] at a2; rw [if_neg (by decide)] at a0 a1 a3; omega
    · rw [if_pos rfl] at a3; rw [if_neg (by decide)] at a0 a1 a2; omega
theorem jRc.code : ∀ (d : Nat) {l0 l : Int} {c : Nat → Nat}, jRc (d + 1) l0 l c → jCd l c ∈ jLq (d + 1)
  | d, l0, l, c, ⟨l', c', b, h, hb, hl, el, ec⟩ => by
    have a0 := ec 0 (by decide); have a1 := ec 1 (by decide); have a2 := ec 2 (by decide); have a3 := ec 3 (by decide)
    have key : ∀ E : Nat, E / 8 = c' 0 + 8 * (c' 1 + 8 * (c' 2 + 8 * c' 3)) → jCd l c = jSu E b := by
      intro E hE
      unfold jCd jSu; rw [hE, el]
      have h9 : b = 0 ∨ b = 1 ∨ b = 2 ∨ b = 3 := by omega
      rcases h9 with rfl | rfl | rfl | rfl
      · rw [if_pos rfl] at a0; rw [if_neg (by decide)] at a1 a2 a3; omega
      · rw [if_pos rfl] at a1; rw [if_neg (by decide)] at a0 a2 a3; omega
      · rw [if_pos rfl] at a2; rw [if_neg (by decide)] at a0 a1 a3; omega
      · rw [if_pos rfl] at a3; rw [if_neg (by decide)] at a0 a1 a2; omega
    match d, h with
    | 0, h =>
      have b0 := h.2 0 (by decide); have b1 := h.2 1 (by decide); have b2 := h.2 2 (by decide); have b3 := h.2 3 (by decide)
      rw [key 0 (by omega)]
      exact jNx_new [0] [] List.mem_cons_self hb (by omega)
    | d + 1, h =>
      have s := (jRc.sum _ h).2 (by omega)
      have m := jRc.code d h
      rw [key (jCd l' c') (by unfold jCd; omega)]
      exact jNx_new _ [] m hb (by unfold jCd; omega)
def jqLz : List Nat := (List.range 64).filterMap (fun z => if (z / 4) / 2 ^ (z % 4) % 2 = 1 then none else some (1000000 + z))
def jqBg : List Nat := 0 :: (jLq 1 ++ jLq 2 ++ jLq 3 ++ jLq 4 ++ jLq 5 ++ jLq 6 ++ jqLz)
theorem jqBg_len : jqBg.length = 337 := by decide +kernel
def jqNo (K A : Int32) (d : Int) : Prop := K.toInt = A.toInt + d * 134217728 ∧ jT27 A ∧ 0 ≤ d
theorem jqNo.inj {K A A' : Int32} {d d' : Int} (h : jqNo K A d) (h' : jqNo K A' d') : A = A' ∧ d = d' := by
  have a := h.1; have b := h'.1; have c := h.2.1.1; have e := h.2.1.2; have f := h'.2.1.1; have g := h'.2.1.2
  exact ⟨Int32.toInt_inj.mp (by omega), by omega⟩
theorem jqNo.key {K K' A : Int32} {d : Int} (h : jqNo K A d) (h' : jqNo K' A d) : K = K' := Int32.toInt_inj.mp (by rw [h.1, h'.1])
def jqFl (A : Int32) (l : Int) : Nat := 1000000 + (l.toNat + 4 * (jlf A 0 + 2 * jlf A 1 + 4 * jlf A 2 + 8 * jlf A 3).toNat)
def jqCo (A0 : Int32) (ex : Bool) (lv : Int) (K : Int32) (e : Nat) : Prop := ∃ (A : Int32) (d : Nat) (l : Int) (c : Nat → Nat), jqNo K A (d : Int) ∧ (d : Int) < lv ∧ jRc d (jla A0) l c ∧ jFk A0 ex (lv - d) l c A ∧ ((d = 0 ∧ e = 0) ∨ (1 ≤ d ∧ d ≤ 6 ∧ e = jCd l c) ∨ (d = 7 ∧ e = jqFl A l))
def jqNf (A0 : Int32) (ex : Bool) (lv : Int) (K A : Int32) (d : Nat) : Prop := jqNo K A (d : Int) ∧ (d : Int) < lv ∧ ∃ (l : Int) (c : Nat → Nat), jRc d (jla A0) l c ∧ jFk A0 ex (lv - d) l c A
theorem jFk.one {A0 A : Int32} {ex : Bool} {l : Int} {c : Nat → Nat} (h : jFk A0 ex 1 l c A) (b : Nat) (hb : b < 4) : 0 ≤ jlf A b ∧ jlf A b ≤ (if (b : Int) = l then 0 else 1) := by
  have r := jlf_r A b hb
  refine ⟨r.1, ?_⟩
  rw [(h.2 b hb).1]
  unfold jCu jMo2 jmx
  by_cases e : (b : Int) = l
  · simp only [if_pos e]
    cases ex
    · simp only [true_or, true_and]; repeat' split <;> omega
    · simp only [Bool.true_eq_false, false_or]; repeat' split <;> omega
  · simp only [if_neg e]
    cases ex
    · simp only [true_or, true_and]; repeat' split <;> omega
    · simp only [Bool.true_eq_false, false_or]; repeat' split <;> omega
theorem jqFl_mem {A : Int32} {l : Int} (l0 : 0 ≤ l) (l3 : l ≤ 3) (h : ∀ b : Nat, b < 4 → 0 ≤ jlf A b ∧ jlf A b ≤ (if (b : Int) = l then 0 else 1)) : jqFl A l ∈ jqLz := by
  unfold jqLz jqFl
  have a0 := h 0 (by decide); have a1 := h 1 (by decide); have a2 := h 2 (by decide); have a3 := h 3 (by decide)
  generalize jlf A 0 = x0 at *
  generalize jlf A 1 = x1 at *
  generalize jlf A 2 = x2 at *
  generalize jlf A 3 = x3 at *
  refine List.mem_filterMap.mpr ⟨l.toNat + 4 * (x0 + 2 * x1 + 4 * x2 + 8 * x3).toNat, List.mem_range.mpr ?_, ?_⟩
  · split at a0 <;> split at a1 <;> split at a2 <;> split at a3 <;> omega
  · have h9 : l = 0 ∨ l = 1 ∨ l = 2 ∨ l = 3 := by omega
    rcases h9 with rfl | rfl | rfl | rfl
    · rw [if_pos (by decide)] at a0; rw [if_neg (by decide)] at a1 a2 a3
      rw [if_neg]
      intro q
      rw [show ((0 : Int).toNat + 4 * (x0 + 2 * x1 + 4 * x2 + 8 * x3).toNat) % 4 = 0 by omega] at q
      simp only [Nat.reducePow] at q; omega
    · rw [if_pos (by decide)] at a1; rw [if_neg (by decide)] at a0 a2 a3
      rw [if_neg]
      intro q
      rw [show ((1 : Int).toNat + 4 * (x0 + 2 * x1 + 4 * x2 + 8 * x3).toNat) % 4 = 1 by omega] at q
      simp only [Nat.reducePow] at q; omega
    · rw [if_pos (by decide)] at a2; rw [if_neg (by decide)] at a0 a1 a3
      rw [if_neg]
      intro q
      rw [show ((2 : Int).toNat + 4 * (x0 + 2 * x1 + 4 * x2 + 8 * x3).toNat) % 4 = 2 by omega] at q
      simp only [Nat.reducePow] at q; omega
    · rw [if_pos (by decide)] at a3; rw [if_neg (by decide)] at a0 a1 a2
      rw [if_neg]
      intro q
      rw [show ((3 : Int).toNat + 4 * (x0 + 2 * x1 + 4 * x2 + 8 * x3).toNat) % 4 = 3 by omega] at q
      simp only [Nat.reducePow] at q; omega
theorem jqBg_0 : 0 ∈ jqBg := by unfold jqBg; exact List.mem_cons_self
theorem jqBg_l {x d : Nat} (h1 : 1 ≤ d) (h6 : d ≤ 6) (m : x ∈ jLq d) : x ∈ jqBg := by
  unfold jqBg
  refine List.mem_cons_of_mem _ ?_
  simp only [List.mem_append]
  have h9 : d = 1 ∨ d = 2 ∨ d = 3 ∨ d = 4 ∨ d = 5 ∨ d = 6 := by omega
  rcases h9 with rfl | rfl | rfl | rfl | rfl | rfl
  · exact Or.inl (Or.inl (Or.inl (Or.inl (Or.inl (Or.inl m)))))
  · exact Or.inl (Or.inl (Or.inl (Or.inl (Or.inl (Or.inr m)))))
  · exact Or.inl (Or.inl (Or.inl (Or.inl (Or.inr m))))
  · exact Or.inl (Or.inl (Or.inl (Or.inr m)))
  · exact Or.inl (Or.inl (Or.inr m))
  · exact Or.inl (Or.inr m)
theorem jqBg_z {x : Nat} (m : x ∈ jqLz) : x ∈ jqBg := by
  unfold jqBg
  refine List.mem_cons_of_mem _ ?_
  simp only [List.mem_append]
  exact Or.inr m
theorem jRc.code1 {d : Nat} {l0 l : Int} {c : Nat → Nat} (h1 : 1 ≤ d) (r : jRc d l0 l c) : jCd l c ∈ jLq d := by
  obtain ⟨e, rfl⟩ : ∃ e, d = e + 1 := ⟨d - 1, by omega⟩
  exact r.code
theorem jqNf.code {A0 K A : Int32} {ex : Bool} {lv : Int} {d : Nat} (h : jqNf A0 ex lv K A d) (h8 : lv ≤ 8) : ∃ e : Nat, e ∈ jqBg ∧ jqCo A0 ex lv K e := by
  obtain ⟨n, hd, l, c, r, f⟩ := h
  have s := r.sum
  by_cases q0 : d = 0
  · exact ⟨0, jqBg_0, A, d, l, c, n, hd, r, f, Or.inl ⟨q0, rfl⟩⟩
  by_cases q : d ≤ 6
  · exact ⟨jCd l c, jqBg_l (by omega) q (r.code1 (by omega)), A, d, l, c, n, hd, r, f, Or.inr (Or.inl ⟨by omega, q, rfl⟩)⟩
  · have e7 : d = 7 := by omega
    have e8 : lv - (d : Int) = 1 := by omega
    refine ⟨jqFl A l, jqBg_z ?_, A, d, l, c, n, hd, r, f, Or.inr (Or.inr ⟨e7, rfl⟩)⟩
    rw [e8] at f
    exact jqFl_mem (s.2 (by omega)).1 (s.2 (by omega)).2 f.one
theorem jqCo.det {A0 K K' : Int32} {ex : Bool} {lv : Int} {e : Nat} (h8 : lv ≤ 8) (h : jqCo A0 ex lv K e) (h' : jqCo A0 ex lv K' e) : K = K' := by
  obtain ⟨A, d, l, c, n, hd, r, f, g⟩ := h
  obtain ⟨A', d', l', c', n', hd', r', f', g'⟩ := h'
  have s := r.sum; have s' := r'.sum
  have big : ∀ (l : Int) (c : Nat → Nat) (d : Nat), c 0 + c 1 + c 2 + c 3 = d → 1 ≤ d → d ≤ 6 → 0 ≤ l → l ≤ 3 → 8 ≤ jCd l c ∧ jCd l c < 1000000 := fun l c d a1 a2 a3 a4 a5 => by unfold jCd; omega
  have fl : ∀ (A : Int32) (l : Int), 1000000 ≤ jqFl A l := fun A l => by unfold jqFl; omega
  rcases g with ⟨g1, g2⟩ | ⟨g1, g2, g3⟩ | ⟨g1, g2⟩ <;> rcases g' with ⟨g1', g2'⟩ | ⟨g1', g2', g3'⟩ | ⟨g1', g2'⟩
  · subst g1 g1'
    have : A = A' := by
      have el : l = l' := by rw [r.1, r'.1]
      subst el
      exact f.det f' (fun b hb => by rw [r.2 b hb, r'.2 b hb]) n.2.1 n'.2.1
    subst this; exact n.key n'
  · have := big l' c' d' s'.1 g1' g2' (s'.2 g1').1 (s'.2 g1').2; omega
  · have := fl A' l'; omega
  · have := big l c d s.1 g1 g2 (s.2 g1).1 (s.2 g1).2; omega
  · have l1 := s.2 g1; have l2 := s'.2 g1'
    have e := g3.symm.trans g3'
    unfold jCd at e
    have el : l = l' := by omega
    subst el
    have e0 : c 0 = c' 0 := by omega
    have e1 : c 1 = c' 1 := by omega
    have e2 : c 2 = c' 2 := by omega
    have e3 : c 3 = c' 3 := by omega
    have ed : d = d' := by omega
    subst ed
    have : A = A' := f.det f' (fun b hb => by
      have h9 : b = 0 ∨ b = 1 ∨ b = 2 ∨ b = 3 := by omega
      rcases h9 with rfl | rfl | rfl | rfl
      · exact e0
      · exact e1
      · exact e2
      · exact e3) n.2.1 n'.2.1
    subst this; exact n.key n'
  · have := big l c d s.1 g1 g2 (s.2 g1).1 (s.2 g1).2; have := fl A' l'; omega
  · have := fl A l; omega
  · have := big l' c' d' s'.1 g1' g2' (s'.2 g1').1 (s'.2 g1').2; have := fl A l; omega
  · subst g1 g1'
    have l1 := s.2 (by omega); have l2 := s'.2 (by omega)
    have ek : lv - ((7 : Nat) : Int) = 1 := by omega
    rw [ek] at f f'
    have e := g2.symm.trans g2'
    have q : ∀ b : Nat, b < 4 → (0 ≤ jlf A b ∧ jlf A b ≤ 1) ∧ 0 ≤ jlf A' b ∧ jlf A' b ≤ 1 := fun b hb => by
      have a := f.one b hb; have b := f'.one b hb
      split at a <;> split at b <;> omega
    have q0 := q 0 (by decide); have q1 := q 1 (by decide); have q2 := q 2 (by decide); have q3 := q 3 (by decide)
    unfold jqFl at e
    have el : l = l' := by omega
    subst el
    have e0 : jlf A 0 = jlf A' 0 := by omega
    have e1 : jlf A 1 = jlf A' 1 := by omega
    have e2 : jlf A 2 = jlf A' 2 := by omega
    have e3 : jlf A 3 = jlf A' 3 := by omega
    have el : ∀ b : Nat, b < 4 → jlf A b = jlf A' b := fun b hb => by
      have h9 : b = 0 ∨ b = 1 ∨ b = 2 ∨ b = 3 := by omega
      rcases h9 with rfl | rfl | rfl | rfl
      · exact e0
      · exact e1
      · exact e2
      · exact e3
    have : A = A' := jA_ext n.2.1 n'.2.1 (by rw [f.1, f'.1]) el (fun b hb => by rw [(f.2 b hb).2, (f'.2 b hb).2, el b hb])
    subst this; exact n.key n'
def jqPs : List Nat → Nat → Nat
  | [], _ => 0
  | x :: t, e => if x = e then 0 else jqPs t e + 1
theorem jqPs_lt {e : Nat} : ∀ {L : List Nat}, e ∈ L → jqPs L e < L.length
  | x :: t, h => by
    unfold jqPs; split
    · exact Nat.succ_pos _
    · rename_i q
      rcases List.mem_cons.mp h with h | h
      · exact absurd h.symm q
      · exact Nat.succ_lt_succ (jqPs_lt h)
theorem jqPs_inj {e e' : Nat} : ∀ {L : List Nat}, e ∈ L → e' ∈ L → jqPs L e = jqPs L e' → e = e'
  | x :: t, h, h', q => by
    unfold jqPs at q
    by_cases a : x = e
    · by_cases b : x = e'
      · omega
      · rw [if_pos a, if_neg b] at q; omega
    · by_cases b : x = e'
      · rw [if_neg a, if_pos b] at q; omega
      · rw [if_neg a, if_neg b] at q
        rcases List.mem_cons.mp h with h | h
        · exact absurd h.symm a
        rcases List.mem_cons.mp h' with h' | h'
        · exact absurd h'.symm b
        exact jqPs_inj h h' (by omega)
/-- so many nodes at most -/
theorem jqNf_count {A0 : Int32} {ex : Bool} {lv : Int} {N : Nat} {K : Nat → Int32} (h8 : lv ≤ 8) (h : ∀ i : Nat, i < N → ∃ (A : Int32) (d : Nat), jqNf A0 ex lv (K i) A d) (hk : ∀ i j : Nat, i < N → j < N → K i = K j → i = j) : N ≤ 337 := by
  have g : ∀ i : Nat, i < N → ∃ e : Nat, e ∈ jqBg ∧ jqCo A0 ex lv (K i) e := fun i hi => by
    obtain ⟨A, d, q⟩ := h i hi; exact q.code h8
  have := jphp N jqBg.length (fun i => if hi : i < N then jqPs jqBg (Classical.choose (g i hi)) else 0) (fun i hi => by
    show (if hi : i < N then jqPs jqBg (Classical.choose (g i hi)) else 0) < _
    rw [dif_pos hi]; exact jqPs_lt (Classical.choose_spec (g i hi)).1) (fun i j hi hj e => by
    have e : (if hi : i < N then jqPs jqBg (Classical.choose (g i hi)) else 0) = (if hj : j < N then jqPs jqBg (Classical.choose (g j hj)) else 0) := e
    rw [dif_pos hi, dif_pos hj] at e
    have a := Classical.choose_spec (g i hi); have b := Classical.choose_spec (g j hj)
    have q := jqPs_inj a.1 b.1 e
    rw [q] at a
    exact hk i j hi hj (a.2.det h8 b.2))
  rw [jqBg_len] at this; exact this
/-! the graph -/
def jqLv (k : Int32) : Int := k.toInt / 134217728
theorem jqNo.lv {K A : Int32} {d : Int} (h : jqNo K A d) : jqLv K = d := by
  have a := h.1; have b := h.2.1.1; have c := h.2.1.2; unfold jqLv; omega
def jqMy (A : Int32) (b : Nat) : Prop := (b : Int) ≠ jla A ∧ 0 < jlf A b
theorem jqMy_iff {A b : Int32} (h0 : 0 ≤ b.toInt) (h1 : b.toInt ≤ 3) : jqMy A b.toInt.toNat ↔ jMb A b := by
  have e : b = Int32.ofNat b.toInt.toNat := jofn4_eq (by omega) (by omega)
  have el : jlf A b.toInt.toNat = (jLf A b).toInt := by unfold jlf; rw [← e]
  unfold jqMy jMb; rw [el]; unfold jla; omega
def jqKc (ex : Bool) (lv n : Int) (K X : Nat → Int32) (p b : Nat) : Prop := ∀ (A : Int32) (d : Int), jqNo (K p) A d → (jqMy A b → ((lv ≤ d + 1 ∧ (X (4 * p + b)).toInt = 350) ∨ (d + 1 < lv ∧ ∃ (j : Nat) (a T : Int32), (X (4 * p + b)).toInt = (j : Int) ∧ (j : Int) < n ∧ p < j ∧ jAg A b a ∧ jTf ex (lv - (d + 1)) a T ∧ jqNo (K j) T (d + 1)))) ∧ (¬ jqMy A b → (X (4 * p + b)).toInt = -1)
def jqGo (A0 : Int32) (ex : Bool) (lv n : Int) (K X : Nat → Int32) (i b : Int) : Prop :=
  (∀ p : Nat, (p : Int) < n → ∃ (A : Int32) (d : Nat), jqNf A0 ex lv (K p) A d) ∧ (∀ p j : Nat, p ≤ j → (j : Int) < n → jqLv (K p) ≤ jqLv (K j)) ∧ (i < n → ∀ j : Nat, (j : Int) < n → jqLv (K j) ≤ jqLv (K i.toNat) + 1) ∧ (1 ≤ lv → 1 ≤ n ∧ ∃ T : Int32, jTf ex lv A0 T ∧ jqNo (K 0) T 0) ∧ ∀ p c : Nat, c < 4 → ((p : Int) < i ∧ (p : Int) < n) ∨ ((p : Int) = i ∧ (p : Int) < n ∧ (c : Int) < b) → jqKc ex lv n K X p c
theorem jqKc.on {ex : Bool} {lv n n' : Int} {K K' X X' : Nat → Int32} {p b : Nat} (h : jqKc ex lv n K X p b) (hp : (p : Int) < n) (hn : n ≤ n') (eK : ∀ j : Nat, (j : Int) < n → K' j = K j) (eX : X' (4 * p + b) = X (4 * p + b)) : jqKc ex lv n' K' X' p b := by
  intro A d q
  rw [eK p hp] at q
  obtain ⟨a1, a2⟩ := h A d q
  rw [eX]
  refine ⟨fun m => ?_, a2⟩
  rcases a1 m with a | ⟨a, j, x, T, e, hj, pj, g, t, no⟩
  · exact Or.inl a
  · exact Or.inr ⟨a, j, x, T, e, by omega, pj, g, t, by rw [eK j hj]; exact no⟩
theorem jqGo.none {A0 : Int32} {ex : Bool} {lv n : Int} {K X X' : Nat → Int32} {i b b' : Int} {f v : Int32} {d : Int} (h : jqGo A0 ex lv n K X i b) (i0 : 0 ≤ i) (hi : i < n) (b0 : 0 ≤ b) (b3 : b ≤ 3) (no : jqNo (K i.toNat) f d) (my : ¬ jqMy f b.toNat) (eX : X' = jupd X (4 * i + b).toNat v) (hv : v.toInt = -1) (hb : b' = b + 1) : jqGo A0 ex lv n K X' i b' := by
  subst eX hb
  obtain ⟨h1, h2, h3, h4, h5⟩ := h
  refine ⟨h1, h2, h3, h4, fun p c hc q => ?_⟩
  by_cases e : (p : Int) = i ∧ (c : Int) = b
  · have ep : p = i.toNat := by omega
    have ec : c = b.toNat := by omega
    subst ep ec
    intro A d' n'
    obtain ⟨eA, ed⟩ := no.inj n'
    subst eA
    refine ⟨fun m => absurd m my, fun _ => ?_⟩
    rw [show 4 * i.toNat + b.toNat = (4 * i + b).toNat by omega, jqup_eq]; exact hv
  · refine jqKc.on (h5 p c hc (by omega)) (by omega) (by omega) (fun _ _ => rfl) (jqup_ne ?_)
    intro w
    exact e (by omega)
theorem jqGo.put {A0 : Int32} {ex : Bool} {lv n n' : Int} {K K' S T' X X' : Nat → Int32} {i b b' d d' x : Int} {f a v : Int32} (h : jqGo A0 ex lv n K X i b) (i0 : 0 ≤ i) (hi : i < n) (b0 : 0 ≤ b) (b3 : b ≤ 3) (no : jqNo (K i.toNat) f d) (my : jqMy f b.toNat) (g : jAg f b.toNat a) (ad : jqAd n n' K K' lv d' ex a x) (hd : d' = d + 1) (tb : jqHs n K S T') (h8 : lv ≤ 8) (eX : X' = jupd X (4 * i + b).toNat v) (hv : v.toInt = x) (hb : b' = b + 1) : jqGo A0 ex lv n' K' X' i b' := by
  subst eX hb hd
  obtain ⟨h1, h2, h3, h4, h5⟩ := h
  obtain ⟨eK, ad⟩ := ad
  have h3 := h3 hi
  have li := no.lv
  have eKi : K' i.toNat = K i.toNat := eK _ (by omega)
  have idx : ∀ p c : Nat, c < 4 → ¬ ((p : Int) = i ∧ (c : Int) = b) → 4 * p + c ≠ (4 * i + b).toNat := fun p c hc e w => e (by omega)
  rcases ad with ⟨a1, a2, a3⟩ | ⟨a1, t, tf, t27, ⟨a2, a3, a4⟩ | ⟨a2, a3, a4, a5⟩⟩
  · subst a3
    refine ⟨fun p hp => by rw [eK p hp]; exact h1 p hp, fun p j q hj => by rw [eK p (by omega), eK j hj]; exact h2 p j q hj, fun _ j hj => by rw [eK j hj, eKi]; exact h3 j hj, fun q => ?_, fun p c hc q => ?_⟩
    · obtain ⟨c1, T, c2, c3⟩ := h4 q
      exact ⟨c1, T, c2, by rw [eK 0 (by omega)]; exact c3⟩
    · by_cases e : (p : Int) = i ∧ (c : Int) = b
      · have ep : p = i.toNat := by omega
        have ec : c = b.toNat := by omega
        subst ep ec
        intro A d' no'
        rw [eKi] at no'
        obtain ⟨eA, ed⟩ := no.inj no'
        subst eA ed
        refine ⟨fun _ => Or.inl ⟨a1, ?_⟩, fun z => absurd my z⟩
        rw [show 4 * i.toNat + b.toNat = (4 * i + b).toNat by omega, jqup_eq, hv]; exact a2
      · exact jqKc.on (h5 p c hc (by omega)) (by omega) (by omega) eK (jqup_ne (idx p c hc e))
  · have cnt := jqNf_count (N := n.toNat) (K := K) h8 (fun p hp => h1 p (by omega)) (fun p j hp hj e => tb.2 p j (by omega) (by omega) e)
    omega
  · have nn : n ≤ n' := by rcases a5 with a5 | a5 <;> omega
    have nt : jqNo (K' x.toNat) t (d + 1) := ⟨a4, t27, by have := no.2.2; omega⟩
    have new : ∀ p : Nat, (p : Int) < n' → (p : Int) < n ∨ (p = x.toNat ∧ x = n) := fun p hp => by rcases a5 with a5 | a5 <;> omega
    refine ⟨fun p hp => ?_, fun p j q hj => ?_, fun _ j hj => ?_, fun q => ?_, fun p c hc q => ?_⟩
    · rcases new p hp with c | ⟨c, c'⟩
      · rw [eK p c]; exact h1 p c
      · subst c
        obtain ⟨A, dn, no1, dl, l, cc, r, fk⟩ := h1 i.toNat (by omega)
        obtain ⟨eA, ed⟩ := no1.inj no
        subst eA
        have e1 : ((dn + 1 : Nat) : Int) = d + 1 := by omega
        refine ⟨t, dn + 1, by rw [e1]; exact nt, by omega, (b.toNat : Int), fun z => cc z + (if z = b.toNat then 1 else 0), ⟨l, cc, b.toNat, r, by omega, ?_, rfl, fun _ _ => rfl⟩, ?_⟩
        · rw [← fk.1]; exact my.1
        · rw [e1]
          refine jFk.next (k := lv - (d + 1)) (l := l) (c := cc) (by rw [show lv - (d + 1) + 1 = lv - (dn : Int) by omega]; exact fk) (by omega) (by rw [← fk.1]; exact my.1) my.2 g tf (by omega) (fun _ _ => rfl)
    · rcases new j hj with c | ⟨c, c'⟩
      · rw [eK j c, eK p (by omega)]; exact h2 p j q c
      · subst c
        rw [nt.lv]
        by_cases z : (p : Int) < n
        · rw [eK p z]; have := h3 p z; omega
        · have : p = x.toNat := by omega
          rw [this, nt.lv]; omega
    · rw [eKi, li]
      rcases new j hj with c | ⟨c, c'⟩
      · rw [eK j c]; have := h3 j c; omega
      · subst c; rw [nt.lv]; omega
    · obtain ⟨c1, T, c2, c3⟩ := h4 q
      exact ⟨by omega, T, c2, by rw [eK 0 (by omega)]; exact c3⟩
    · by_cases e : (p : Int) = i ∧ (c : Int) = b
      · have ep : p = i.toNat := by omega
        have ec : c = b.toNat := by omega
        subst ep ec
        intro A d' no'
        rw [eKi] at no'
        obtain ⟨eA, ed⟩ := no.inj no'
        subst eA ed
        refine ⟨fun _ => Or.inr ⟨a1, x.toNat, a, t, ?_, by omega, ?_, g, tf, nt⟩, fun z => absurd my z⟩
        · rw [show 4 * i.toNat + b.toNat = (4 * i + b).toNat by omega, jqup_eq, hv]; omega
        · by_cases z : x < n
          · have lx : jqLv (K x.toNat) = d + 1 := by rw [← eK x.toNat (by omega)]; exact nt.lv
            by_cases w : i.toNat < x.toNat
            · exact w
            · have := h2 x.toNat i.toNat (by omega) (by omega); omega
          · omega
      · exact jqKc.on (h5 p c hc (by omega)) (by omega) nn eK (jqup_ne (idx p c hc e))
theorem jqGo.row {A0 : Int32} {ex : Bool} {lv n : Int} {K X : Nat → Int32} {i i' b : Int} (h : jqGo A0 ex lv n K X i b) (hb : 4 ≤ b) (hi : i' = i + 1) (i0 : 0 ≤ i) (hn : i < n) : jqGo A0 ex lv n K X i' 0 := by
  obtain ⟨h1, h2, h3, h4, h5⟩ := h
  subst hi
  refine ⟨h1, h2, fun q j hj => ?_, h4, fun p c hc q => h5 p c hc (by omega)⟩
  have a := h3 hn j hj
  have b := h2 i.toNat (i + 1).toNat (by omega) (by omega)
  omega
theorem jqGo.fin {A0 : Int32} {ex : Bool} {lv n : Int} {K X : Nat → Int32} {i b : Int} (h : jqGo A0 ex lv n K X i b) (hn : n ≤ i) : jqGo A0 ex lv n K X n 0 := by
  obtain ⟨h1, h2, h3, h4, h5⟩ := h
  exact ⟨h1, h2, fun q => absurd q (by omega), h4, fun p c hc q => h5 p c hc (by omega)⟩
theorem jqGo.first {A0 : Int32} {ex : Bool} {lv n : Int} {K K' X : Nat → Int32} {d x i : Int} (fm : jFm A0) (ad : jqAd 0 n K K' lv d ex A0 x) (hd : d = 0) (hi : i ≤ 0) : jqGo A0 ex lv n K' X i 0 := by
  subst hd
  obtain ⟨_, ⟨a1, a2, a3⟩ | ⟨a1, t, tf, t27, ⟨a2, a3, a4⟩ | ⟨a2, a3, a4, a5⟩⟩⟩ := ad
  · subst a3
    exact ⟨fun p hp => absurd hp (by omega), fun p j _ hj => absurd hj (by omega), fun _ j hj => absurd hj (by omega), fun q => absurd q (by omega), fun p c _ q => absurd q (by omega)⟩
  · omega
  · rcases a5 with a5 | ⟨a5, a6⟩
    · omega
    · subst a6
      have e0 : ∀ p : Nat, (p : Int) < n → p = 0 := fun p hp => by omega
      have no : jqNo (K' 0) t 0 := ⟨a4, t27, by omega⟩
      rw [show lv - 0 = lv by omega] at tf
      refine ⟨fun p hp => ?_, fun p j q hj => ?_, fun q j hj => ?_, fun _ => ⟨by omega, t, tf, no⟩, fun p c _ q => absurd q (by omega)⟩
      · rw [e0 p hp]
        exact ⟨t, 0, no, by omega, jla A0, fun _ => 0, ⟨rfl, fun _ _ => rfl⟩, by rw [show lv - ((0 : Nat) : Int) = lv by omega]; exact jFk.root fm tf⟩
      · rw [e0 j hj, e0 p (by have := e0 j hj; omega)]; omega
      · rw [e0 j hj, show i.toNat = 0 by omega]; omega
def jKg (σ : Nat → Nat → Int32) : Prop := jFm (σ 31 9) → jqGo (σ 31 9) (decide ((σ 31 12).toInt ≠ 0)) (σ 31 11).toInt (σ 31 8).toInt (σ 32) (σ 33) (σ 31 8).toInt 0
theorem jKg.fr {σ σ' : Nat → Nat → Int32} (e1 : σ' 31 8 = σ 31 8) (e2 : σ' 31 9 = σ 31 9) (e3 : σ' 31 11 = σ 31 11) (e4 : σ' 31 12 = σ 31 12) (e5 : σ' 32 = σ 32) (e6 : σ' 33 = σ 33) (h : jKg σ) : jKg σ' := by unfold jKg at *; rw [e1, e2, e3, e4, e5, e6]; exact h
theorem jKg.nil {σ : Nat → Nat → Int32} (h : (σ 31 8).toInt ≤ 0) (hl : (σ 31 11).toInt ≤ 0) : jKg σ := fun _ =>
  ⟨fun p hp => absurd hp (by omega), fun p j _ hj => absurd hj (by omega), fun _ j hj => absurd hj (by omega), fun q => absurd q (by omega), fun p c _ q => absurd q (by omega)⟩
/-! means, exactly -/
theorem jmb2 {a b U V : Int} (a0 : 0 ≤ a) (a1 : a ≤ U) (b0 : 0 ≤ b) (b1 : b ≤ V) : 0 ≤ a * b ∧ a * b ≤ U * V :=
  ⟨Int.mul_nonneg a0 b0, Int.mul_le_mul a1 b1 b0 (by omega)⟩
theorem jMo_of {R r c p q x : Int32} (e : x = r * 1000 + (1000 - R) * ((c * p + (1000 - c) * q) / 1000) / 1000) (R0 : 0 ≤ R.toInt ∧ R.toInt ≤ 1000) (r0 : 0 ≤ r.toInt ∧ r.toInt ≤ 41) (c0 : 0 ≤ c.toInt ∧ c.toInt ≤ 1000) (p0 : 0 ≤ p.toInt ∧ p.toInt ≤ 328000) (q0 : 0 ≤ q.toInt ∧ q.toInt ≤ 328000) : x.toInt = jMo R.toInt r.toInt c.toInt p.toInt q.toInt := by
  have k : (1000 : Int32).toInt = 1000 := by decide
  have b1 := jmb2 c0.1 c0.2 p0.1 p0.2
  have m1 : (c * p).toInt = c.toInt * p.toInt := jmul rfl rfl rfl (by omega) (by omega)
  have s1 : ((1000 : Int32) - c).toInt = 1000 - c.toInt := jsub rfl k rfl (by omega) (by omega)
  have b2 := jmb2 (a := 1000 - c.toInt) (U := 1000) (by omega) (by omega) q0.1 q0.2
  have m2 : ((1000 - c) * q).toInt = (1000 - c.toInt) * q.toInt := jmul rfl s1 rfl (by omega) (by omega)
  have b3 : c.toInt * p.toInt ≤ c.toInt * 328000 := Int.mul_le_mul_of_nonneg_left p0.2 c0.1
  have b4 : (1000 - c.toInt) * q.toInt ≤ (1000 - c.toInt) * 328000 := Int.mul_le_mul_of_nonneg_left q0.2 (by omega)
  have b5 : c.toInt * p.toInt + (1000 - c.toInt) * q.toInt ≤ 328000000 := by omega
  have a1 : (c * p + (1000 - c) * q).toInt = c.toInt * p.toInt + (1000 - c.toInt) * q.toInt := jadd rfl m1 m2 (by omega) (by omega)
  have d1 : ((c * p + (1000 - c) * q) / 1000).toInt = jMx c.toInt p.toInt q.toInt := jdiv rfl a1 k (by omega) (by decide)
  have d0 : 0 ≤ jMx c.toInt p.toInt q.toInt ∧ jMx c.toInt p.toInt q.toInt ≤ 328000 := by unfold jMx; omega
  have s2 : ((1000 : Int32) - R).toInt = 1000 - R.toInt := jsub rfl k rfl (by omega) (by omega)
  have b6 := jmb2 (a := 1000 - R.toInt) (U := 1000) (by omega) (by omega) d0.1 d0.2
  have m3 : ((1000 - R) * ((c * p + (1000 - c) * q) / 1000)).toInt = (1000 - R.toInt) * jMx c.toInt p.toInt q.toInt := jmul rfl s2 d1 (by omega) (by omega)
  have d2 : ((1000 - R) * ((c * p + (1000 - c) * q) / 1000) / 1000).toInt = (1000 - R.toInt) * jMx c.toInt p.toInt q.toInt / 1000 := jdiv rfl m3 k b6.1 (by decide)
  have m4 : (r * 1000).toInt = r.toInt * 1000 := jmul rfl rfl k (by omega) (by omega)
  rw [e, jadd rfl m4 d2 (by omega) (by omega)]
  rfl
theorem jAg.qv {A a : Int32} {b : Nat} (g : jAg A b a) (my : jqMy A b) (hb : b < 4) : jla a = (b : Int) ∧ ∀ c : Nat, c < 4 → jlf a c = jLn (jlf A) b c ∧ jst a c = jSn (jst A) b c := by
  refine ⟨g.1, fun c hc => ?_⟩
  obtain ⟨e1, e2⟩ := g.2 c hc
  refine ⟨?_, ?_⟩
  · rw [e1]; unfold jLn
    by_cases z : c = b
    · rw [if_pos z, if_pos z, z]; have := my.2; unfold jmx; split <;> omega
    · rw [if_neg z, if_neg z]
  · rw [e2]; unfold jSn
    by_cases z : c = b
    · rw [if_pos z, if_pos z, z]
    · rw [if_neg z, if_neg z]
/-- behind: what stands at the next node is the best of what is left -/
theorem jV_child {ch : Nat → Int → Int → Int → Int → Int → Int} {rn : Nat → Int → Int → Int} {so : Nat → Int} {N R : Int} {ex : Bool} {lv n d o w : Int} {K X V : Nat → Int32} {i b : Nat} {A : Int32} (hx : ex = false → ∀ b s t l l' o w, ch b s t l o w = ch b s t l' o w)
    (h : jqKc ex lv n K X i b) (no : jqNo (K i) A d) (my : jqMy A b) (hb : b < 4) (w0 : 0 ≤ w)
    (right : ∀ j : Nat, i < j → (j : Int) < n → ∀ T : Int32, jqNo (K j) T (d + 1) → (V (9 * (j : Int) + w).toNat).toInt = (jV ch rn so N R (lv - (d + 1)).toNat (jla T) (jlf T) (jst T) o w).2)
    (nil : (V (3150 + w).toNat).toInt = 0) : (V (9 * (X (4 * i + b)).toInt + w).toNat).toInt = (jV ch rn so N R (lv - (d + 1)).toNat (b : Int) (jLn (jlf A) b) (jSn (jst A) b) o w).2 := by
  rcases (h A d no).1 my with ⟨e1, e2⟩ | ⟨e1, j, a, T, e2, jn, ij, g, t, nt⟩
  · rw [e2, show (lv - (d + 1)).toNat = 0 by omega]
    show (V (9 * 350 + w).toNat).toInt = 0
    rw [← nil]; rfl
  · rw [e2, right j ij jn T nt]
    obtain ⟨ga, gq⟩ := g.qv my hb
    have ek : lv - (d + 1) = (((lv - (d + 1)).toNat : Nat) : Int) := by omega
    rw [ek] at t
    have q := t.qv (by omega)
    rw [t.1, ga]
    have q' : jQv ex (lv - (d + 1)).toNat (b : Int) (jLn (jlf A) b) (jlf T) (jSn (jst A) b) (jst T) := by
      intro c hc
      have z := q c hc
      rw [ga, (gq c hc).1, (gq c hc).2] at z
      exact z
    rw [jV_qv hx (lv - (d + 1)).toNat (b : Int) _ _ _ _ o w q']
/-! judging a node -/
def jqS (ch : Nat → Int → Int → Int → Int → Int → Int) (rn : Nat → Int → Int → Int) (so : Nat → Int) (N R : Int) (k : Nat) (A : Int32) (o : Int) (w : Nat) (b : Nat) : Int := jMo R (rn b (so w) (jst A b)) (ch b (so w) (jst A b) (jlf A b) o w) (jV ch rn so N R k (b : Int) (jLn (jlf A) b) (jSn (jst A) b) (o + 1) ((w : Int) + 1)).2 (jV ch rn so N R k (b : Int) (jLn (jlf A) b) (jSn (jst A) b) (o + 1) w).2
theorem jV_succ {ch : Nat → Int → Int → Int → Int → Int → Int} {rn : Nat → Int → Int → Int} {so : Nat → Int} {N R : Int} {k : Nat} {A : Int32} {o : Int} {w : Nat} (h : (w : Int) < N) : jV ch rn so N R (k + 1) (jla A) (jlf A) (jst A) o w = jPk (jMy4 (jla A) (jlf A)) (jqS ch rn so N R k A o w) 4 := by
  rw [jV, if_neg (by omega)]; rfl
/-- values and whoms of a node, where w from f to e are told by g -/
def jqJd (V0 W0 V W : Nat → Int32) (i N f e : Int) (g : Nat → Int × Int) : Prop := (∀ w : Nat, f ≤ (w : Int) → (w : Int) ≤ e → ((W (9 * i + w).toNat).toInt, (V (9 * i + w).toNat).toInt) = g w) ∧ (∀ k : Nat, ¬ (9 * i + f ≤ (k : Int) ∧ (k : Int) ≤ 9 * i + e) → W k = W0 k ∧ ((k : Int) ≠ 9 * i + N → V k = V0 k)) ∧ (V (9 * i + N).toNat).toInt = 0
def jqIn (m : Nat → Bool) (v : Nat → Nat → Int) (b w : Int) : Nat → Int × Int := fun z => jPk m (v z) (if (z : Int) < w then b.toNat + 1 else b.toNat)
theorem jqJd.eq {V0 W0 V W : Nat → Int32} {i N f e : Int} {g g' : Nat → Int × Int} (h : jqJd V0 W0 V W i N f e g) (q : ∀ w : Nat, f ≤ (w : Int) → (w : Int) ≤ e → g w = g' w) : jqJd V0 W0 V W i N f e g' :=
  ⟨fun w h1 h2 => by rw [h.1 w h1 h2, q w h1 h2], h.2⟩
theorem jqJd.into {V0 W0 V W : Nat → Int32} {i N f e b w : Int} {m : Nat → Bool} {v : Nat → Nat → Int} (h : jqJd V0 W0 V W i N f e (fun z => jPk m (v z) b.toNat)) (hw : w ≤ f) : jqJd V0 W0 V W i N f e (jqIn m v b w) :=
  h.eq (fun z h1 _ => by unfold jqIn; rw [if_neg (by omega)])
theorem jqJd.out {V0 W0 V W : Nat → Int32} {i N f e b b' w : Int} {m : Nat → Bool} {v : Nat → Nat → Int} (h : jqJd V0 W0 V W i N f e (jqIn m v b w)) (hw : e < w) (b0 : 0 ≤ b) (hb : b' = b + 1) : jqJd V0 W0 V W i N f e (fun z => jPk m (v z) b'.toNat) :=
  h.eq (fun z _ h2 => by unfold jqIn; rw [if_pos (by omega), show b.toNat + 1 = b'.toNat by omega])
theorem jqJd.skip {V0 W0 V W : Nat → Int32} {i N f e b b' : Int} {m : Nat → Bool} {v : Nat → Nat → Int} (h : jqJd V0 W0 V W i N f e (fun z => jPk m (v z) b.toNat)) (hm : m b.toNat = false) (b0 : 0 ≤ b) (hb : b' = b + 1) : jqJd V0 W0 V W i N f e (fun z => jPk m (v z) b'.toNat) :=
  h.eq (fun z _ _ => by
    show jPk m (v z) b.toNat = jPk m (v z) b'.toNat
    rw [show b'.toNat = b.toNat + 1 by omega, jPk, if_neg (fun q => by rw [hm] at q; exact absurd q.1 (by decide))])
theorem jqJd.keep {V0 W0 V W : Nat → Int32} {i N f e b w w' x : Int} {m : Nat → Bool} {v : Nat → Nat → Int} (h : jqJd V0 W0 V W i N f e (jqIn m v b w)) (f0 : 0 ≤ f) (hf : f ≤ w) (he : w ≤ e) (c : ¬ ((W (9 * i + w).toNat).toInt < 0 ∨ x < (V (9 * i + w).toNat).toInt)) (hx : x = v w.toNat b.toNat) (hw : w' = w + 1) : jqJd V0 W0 V W i N f e (jqIn m v b w') :=
  h.eq (fun z h1 h2 => by
    unfold jqIn
    by_cases q : (z : Int) < w
    · rw [if_pos q, if_pos (by omega)]
    · rw [if_neg q]
      by_cases y : (z : Int) = w
      · rw [if_pos (by omega)]
        have g := h.1 z h1 h2
        unfold jqIn at g
        rw [if_neg q] at g
        have ez : w.toNat = z := by omega
        rw [jPk, ← g]
        rw [if_neg]
        rintro ⟨_, u⟩
        refine c ?_
        rw [← y]
        rw [hx, ez]
        exact u
      · rw [if_neg (by omega)])
theorem jqJd.set {V0 W0 V W V' W' : Nat → Int32} {i N f e b w w' x : Int} {xv xw : Int32} {m : Nat → Bool} {v : Nat → Nat → Int} (h : jqJd V0 W0 V W i N f e (jqIn m v b w)) (f0 : 0 ≤ f) (hf : f ≤ w) (he : w ≤ e) (eN : e < N) (i0 : 0 ≤ i) (hm : m b.toNat = true) (c : (W (9 * i + w).toNat).toInt < 0 ∨ x < (V (9 * i + w).toNat).toInt) (hx : x = v w.toNat b.toNat) (eV : V' = jupd V (9 * i + w).toNat xv) (hv : xv.toInt = x) (eW : W' = jupd W (9 * i + w).toNat xw) (hb : xw.toInt = b) (b0 : 0 ≤ b) (hw : w' = w + 1) : jqJd V0 W0 V' W' i N f e (jqIn m v b w') := by
  subst eV eW
  refine ⟨fun z h1 h2 => ?_, fun k hk => ?_, ?_⟩
  · have g := h.1 z h1 h2
    by_cases y : (z : Int) = w
    · rw [y, jqup_eq, jqup_eq]
      unfold jqIn at g ⊢
      rw [if_neg (by omega)] at g
      rw [if_pos (by omega), jPk, ← g, y, if_pos ⟨hm, by rw [show z = w.toNat by omega, ← hx]; exact c⟩, hv, hb, hx, show z = w.toNat by omega]
      exact Prod.ext (by show b = _; omega) rfl
    · rw [jqup_ne (by omega), jqup_ne (by omega), g]
      unfold jqIn
      by_cases q : (z : Int) < w
      · rw [if_pos q, if_pos (by omega)]
      · rw [if_neg q, if_neg (by omega)]
  · obtain ⟨k1, k2⟩ := h.2.1 k hk
    have ne : k ≠ (9 * i + w).toNat := fun q => hk (by omega)
    rw [jqup_ne ne, jqup_ne ne]; exact ⟨k1, k2⟩
  · rw [jqup_ne (by omega)]; exact h.2.2
/-- before the first BOWLER -/
def jqJi (V0 W0 V W : Nat → Int32) (i f w : Int) : Prop := (∀ z : Nat, f ≤ (z : Int) → (z : Int) < w → (W (9 * i + z).toNat).toInt = -1 ∧ (V (9 * i + z).toNat).toInt = 0) ∧ ∀ k : Nat, ¬ (9 * i + f ≤ (k : Int) ∧ (k : Int) < 9 * i + w) → W k = W0 k ∧ V k = V0 k
theorem jqJi.first {V W : Nat → Int32} {i f w : Int} (h : w ≤ f) : jqJi V W V W i f w := ⟨fun z h1 h2 => absurd h2 (by omega), fun _ _ => ⟨rfl, rfl⟩⟩
theorem jqJi.step {V0 W0 V W V' W' : Nat → Int32} {i f w w' : Int} {a b : Int32} (h : jqJi V0 W0 V W i f w) (f0 : 0 ≤ f) (i0 : 0 ≤ i) (hf : f ≤ w) (eV : V' = jupd V (9 * i + w).toNat a) (ha : a.toInt = 0) (eW : W' = jupd W (9 * i + w).toNat b) (hb : b.toInt = -1) (hw : w' = w + 1) : jqJi V0 W0 V' W' i f w' := by
  subst eV eW
  refine ⟨fun z h1 h2 => ?_, fun k hk => ?_⟩
  · by_cases y : (z : Int) = w
    · rw [y, jqup_eq, jqup_eq]; exact ⟨hb, ha⟩
    · rw [jqup_ne (by omega), jqup_ne (by omega)]; exact h.1 z h1 (by omega)
  · have ne : k ≠ (9 * i + w).toNat := fun q => hk (by omega)
    rw [jqup_ne ne, jqup_ne ne]; exact h.2 k (by omega)
theorem jqJi.fin {V0 W0 V W V' : Nat → Int32} {i N f e w : Int} {a : Int32} {m : Nat → Bool} {v : Nat → Nat → Int} {b : Int} (h : jqJi V0 W0 V W i f w) (f0 : 0 ≤ f) (i0 : 0 ≤ i) (hw : w = e + 1 ∨ (w = f ∧ e < f)) (eN : e < N) (N0 : 0 ≤ N) (eV : V' = jupd V (9 * i + N).toNat a) (ha : a.toInt = 0) (hb : b ≤ 0) : jqJd V0 W0 V' W i N f e (fun z => jPk m (v z) b.toNat) := by
  subst eV
  refine ⟨fun z h1 h2 => ?_, fun k hk => ?_, by rw [jqup_eq]; exact ha⟩
  · obtain ⟨g1, g2⟩ := h.1 z h1 (by omega)
    rw [jqup_ne (by omega), g1, g2, show b.toNat = 0 by omega]; rfl
  · obtain ⟨g1, g2⟩ := h.2 k (by omega)
    refine ⟨g1, fun q => ?_⟩
    rw [jqup_ne (by omega)]; exact g2
noncomputable def jChc (σ : Nat → Nat → Int32) : Nat → Int → Int → Int → Int → Int → Int := fun b s t l o w => (jClp (σ 27 ((16 * (b : Int) + 4 * s + t) % 64).toNat + jGb σ (jN6 (jwd l) (jwd (16 * (b : Int) + 4 * s + t)) (jwd o) (jwd w)))).toInt
def jRnc (σ : Nat → Nat → Int32) : Nat → Int → Int → Int := fun b s t => (σ 28 ((16 * (b : Int) + 4 * s + t) % 64).toNat).toInt
theorem jRnc_of {σ σ1 : Nat → Nat → Int32} {b : Nat} {s t B : Int} {r : Int32} (h : r = σ1 28 (16 * B + 4 * s + t).toNat) (e : σ1 28 = σ 28) (hB : B = (b : Int)) (hb : b < 4) (s0 : 0 ≤ s ∧ s ≤ 3) (t0 : 0 ≤ t ∧ t ≤ 3) : r.toInt = jRnc σ b s t := by
  subst hB; unfold jRnc; rw [h, e, show (16 * (b : Int) + 4 * s + t) % 64 = 16 * (b : Int) + 4 * s + t by omega]
theorem jChc_of {σ σ1 : Nat → Nat → Int32} {b : Nat} {s t l o w B : Int} {r lx ox wx : Int32} (h : r = jClp (σ1 27 (16 * B + 4 * s + t).toNat + jGb σ1 (jN6 lx (jwd (16 * B + 4 * s + t)) ox wx))) (e : σ1 27 = σ 27) (eg : jGb σ1 = jGb σ) (hB : B = (b : Int)) (hb : b < 4) (s0 : 0 ≤ s ∧ s ≤ 3) (t0 : 0 ≤ t ∧ t ≤ 3) (hl : lx = jwd l) (ho : ox = jwd o) (hw : wx = jwd w) : r.toInt = jChc σ b s t l o w := by
  subst hB; unfold jChc; rw [h, e, eg, hl, ho, hw, show (16 * (b : Int) + 4 * s + t) % 64 = 16 * (b : Int) + 4 * s + t by omega]
/-- what stands at a node is right from lo on -/
def jqRt (ch : Nat → Int → Int → Int → Int → Int → Int) (rn : Nat → Int → Int → Int) (so : Nat → Int) (N R lv start fr : Int) (K V W : Nat → Int32) (j : Nat) (lo : Int) : Prop := ∀ (T : Int32) (d : Int), jqNo (K j) T d → ∀ w : Nat, lo ≤ (w : Int) → (w : Int) ≤ fr + 1 + d → (w : Int) < N → ((W (9 * (j : Int) + w).toNat).toInt, (V (9 * (j : Int) + w).toNat).toInt) = jV ch rn so N R (lv - d).toNat (jla T) (jlf T) (jst T) (start + d) w
/-- all of them, from node m on -/
def jqAr (ch : Nat → Int → Int → Int → Int → Int → Int) (rn : Nat → Int → Int → Int) (so : Nat → Int) (N R lv start fr n : Int) (K V W : Nat → Int32) (m : Int) (lo : Int) : Prop := ∀ j : Nat, m ≤ (j : Int) → (j : Int) < n → jqRt ch rn so N R lv start fr K V W j lo ∧ (V (9 * (j : Int) + N).toNat).toInt = 0
theorem jV_N {ch : Nat → Int → Int → Int → Int → Int → Int} {rn : Nat → Int → Int → Int} {so : Nat → Int} {N R : Int} {k : Nat} {la : Int} {lf st : Nat → Int} {o w : Int} (h : N ≤ w) : (jV ch rn so N R k la lf st o w).2 = 0 := by
  cases k with
  | zero => rfl
  | succ k => rw [jV, if_pos h]
/-- a child's mean, read where it stands -/
theorem jqAr.child {ch : Nat → Int → Int → Int → Int → Int → Int} {rn : Nat → Int → Int → Int} {so : Nat → Int} {N R lv start fr n : Int} {K X V W V1 : Nat → Int32} {i b : Nat} {lo d f e w x : Int} {A : Int32} {ex : Bool} {g : Nat → Int × Int} {W1 : Nat → Int32} (ar : jqAr ch rn so N R lv start fr n K V W ((i : Int) + 1) lo) (nil : ∀ z : Nat, z < 9 → (V (3150 + z)).toInt = 0)
    (jd : jqJd V W V1 W1 (i : Int) N f e g) (hx : ex = false → ∀ b s t l l' o w, ch b s t l o w = ch b s t l' o w) (h : jqKc ex lv n K X i b) (no : jqNo (K i) A d) (my : jqMy A b) (hb : b < 4) (f0 : 0 ≤ f) (eN : e < N) (N8 : N ≤ 8) (i9 : (i : Int) < n) (n9 : n ≤ 350) (lw : lo ≤ w) (w0 : 0 ≤ w) (wf : w ≤ fr + 2 + d) (wN : w ≤ N) (ex1 : x = 9 * (X (4 * i + b)).toInt + w) : (V1 x.toNat).toInt = (jV ch rn so N R (lv - (d + 1)).toNat (b : Int) (jLn (jlf A) b) (jSn (jst A) b) (start + d + 1) w).2 := by
  subst ex1
  have c := jV_child (ch := ch) (rn := rn) (so := so) (N := N) (R := R) (V := V) (o := start + d + 1) (w := w) hx h no my hb w0 (fun j ij jn T nt => by
    obtain ⟨a1, a2⟩ := ar j (by omega) jn
    by_cases q : w < N
    · have z := a1 T (d + 1) nt w.toNat (by omega) (by omega) (by omega)
      rw [show ((w.toNat : Nat) : Int) = w by omega, show start + (d + 1) = start + d + 1 by omega] at z
      exact congrArg Prod.snd z
    · rw [show w = N by omega, a2, jV_N (by omega)]) (by
    have z := nil w.toNat (by omega)
    rw [show (3150 + w).toNat = 3150 + w.toNat by omega]; exact z)
  rw [← c]
  have away : 9 * (i : Int) + 9 ≤ 9 * (X (4 * i + b)).toInt + w := by
    rcases (h A d no).1 my with ⟨_, e2⟩ | ⟨_, j, a, T, e2, _, ij, _⟩
    · omega
    · omega
  rw [(jd.2.1 (9 * (X (4 * i + b)).toInt + w).toNat (by omega)).2 (by omega)]
/-- at the end -/
theorem jqJd.right {ch : Nat → Int → Int → Int → Int → Int → Int} {rn : Nat → Int → Int → Int} {so : Nat → Int} {N R lv start fr : Int} {K V0 W0 V W : Nat → Int32} {i : Nat} {f e d lo last : Int} {A : Int32} {k : Nat} {b : Int} (h : jqJd V0 W0 V W (i : Int) N f e (fun z => jPk (jMy4 (jla A) (jlf A)) (jqS ch rn so N R k A (start + d) z) b.toNat)) (hb : b = 4) (no : jqNo (K i) A d) (hk : (lv - d).toNat = k + 1) (own : jqRt ch rn so N R lv start fr K V0 W0 i (last + 1)) (f0 : 0 ≤ f) (fl : f ≤ lo) (lf : lo ≤ last + 1 ∨ True) (he : e = last ∨ (e ≤ last ∧ fr + 1 + d ≤ e)) : jqRt ch rn so N R lv start fr K V W i lo := by
  intro T d' no' w h1 h2 h3
  obtain ⟨eA, ed⟩ := no.inj no'
  subst eA ed hb
  by_cases c : (w : Int) ≤ e
  · rw [h.1 w (by omega) c, hk, jV_succ h3]; rfl
  · have z := own _ _ no w (by omega) h2 h3
    obtain ⟨g1, g2⟩ := h.2.1 (9 * (i : Int) + w).toNat (by omega)
    rw [g1, g2 (by omega)]; exact z
/-- other nodes stay -/
theorem jqAr.on {ch : Nat → Int → Int → Int → Int → Int → Int} {rn : Nat → Int → Int → Int} {so : Nat → Int} {N R lv start fr n : Int} {K V0 W0 V W : Nat → Int32} {i : Nat} {f e lo : Int} {g : Nat → Int × Int} (h : jqJd V0 W0 V W (i : Int) N f e g) (r : jqRt ch rn so N R lv start fr K V W i lo) (ar : jqAr ch rn so N R lv start fr n K V0 W0 ((i : Int) + 1) lo) (f0 : 0 ≤ f) (eN : e < N) (N0 : 0 ≤ N) (N8 : N ≤ 8) : jqAr ch rn so N R lv start fr n K V W (i : Int) lo := by
  intro j hj hn
  by_cases c : j = i
  · subst c; exact ⟨r, h.2.2⟩
  · obtain ⟨a1, a2⟩ := ar j (by omega) hn
    have fr : ∀ z : Int, 0 ≤ z → W (9 * (j : Int) + z).toNat = W0 (9 * (j : Int) + z).toNat ∧ V (9 * (j : Int) + z).toNat = V0 (9 * (j : Int) + z).toNat := fun z z0 => by
      obtain ⟨g1, g2⟩ := h.2.1 (9 * (j : Int) + z).toNat (by omega)
      exact ⟨g1, g2 (by omega)⟩
    refine ⟨fun T d no w h1 h2 h3 => ?_, ?_⟩
    · rw [(fr w (by omega)).1, (fr w (by omega)).2]; exact a1 T d no w h1 h2 h3
    · rw [(fr N N0).2]; exact a2
noncomputable def jqG (σ : Nat → Nat → Int32) (ln : Nat) (A : Int32) (d : Int) : Nat → Nat → Int := fun z => jqS (jChc σ) (jRnc σ) (fun y => (σ ln y).toInt) (σ 16 0).toInt (σ 16 2).toInt ((σ 31 11).toInt - (d + 1)).toNat A ((σ 31 10).toInt + d) z
/-- what judging presumes -/
def jqPr (σ : Nat → Nat → Int32) (ln : Nat) (i : Nat) (fr last : Int) : Prop := jFm (σ 31 9) ∧ last < (σ 16 0).toInt ∧ (∀ k : Nat, k < 64 → 0 ≤ (σ 28 k).toInt ∧ (σ 28 k).toInt ≤ 41) ∧ (decide ((σ 31 12).toInt ≠ 0) = false → ∀ b s t l l' o w, jChc σ b s t l o w = jChc σ b s t l' o w) ∧ (∀ z : Nat, z < 9 → (σ 34 (3150 + z)).toInt = 0) ∧ jqAr (jChc σ) (jRnc σ) (fun y => (σ ln y).toInt) (σ 16 0).toInt (σ 16 2).toInt (σ 31 11).toInt (σ 31 10).toInt fr (σ 31 8).toInt (σ 32) (σ 34) (σ 35) ((i : Int) + 1) (jmx fr) ∧ jqRt (jChc σ) (jRnc σ) (fun y => (σ ln y).toInt) (σ 16 0).toInt (σ 16 2).toInt (σ 31 11).toInt (σ 31 10).toInt fr (σ 32) (σ 34) (σ 35) i (last + 1)
theorem jChc_r (σ : Nat → Nat → Int32) (b : Nat) (s t l o w : Int) : 0 ≤ jChc σ b s t l o w ∧ jChc σ b s t l o w ≤ 1000 := by
  unfold jChc jClp
  split
  · exact ⟨by decide, by decide⟩
  · split
    · exact ⟨by decide, by decide⟩
    · omega
theorem jRnc_r {σ : Nat → Nat → Int32} (h : ∀ k : Nat, k < 64 → 0 ≤ (σ 28 k).toInt ∧ (σ 28 k).toInt ≤ 41) (b : Nat) (s t : Int) : 0 ≤ jRnc σ b s t ∧ jRnc σ b s t ≤ 41 := h _ (by omega)
theorem jMy4_iff {A : Int32} {b : Nat} : jMy4 (jla A) (jlf A) b = true ↔ jqMy A b := by
  unfold jMy4 jqMy; exact decide_eq_true_iff
/-- no node behind: may not bowl -/
theorem jqKc.no {ex : Bool} {lv n d : Int} {K X : Nat → Int32} {i b : Nat} {A : Int32} (h : jqKc ex lv n K X i b) (no : jqNo (K i) A d) (c : (X (4 * i + b)).toInt < 0) : jMy4 (jla A) (jlf A) b = false := by
  by_cases m : jqMy A b
  · rcases (h A d no).1 m with ⟨_, e⟩ | ⟨_, j, a, T, e, _⟩ <;> omega
  · cases q : jMy4 (jla A) (jlf A) b
    · rfl
    · exact (m (jMy4_iff.mp q)).elim
theorem jqKc.my {ex : Bool} {lv n d : Int} {K X : Nat → Int32} {i b : Nat} {A : Int32} (h : jqKc ex lv n K X i b) (no : jqNo (K i) A d) (c : 0 ≤ (X (4 * i + b)).toInt) : jqMy A b := by
  by_cases m : jqMy A b
  · exact m
  · have := (h A d no).2 m; omega
/-- one mean, as it is worked out -/
theorem jqG_of {σ : Nat → Nat → Int32} {ln : Nat} {i b : Nat} {fr last d f e x y w w2 r c p q rain mean s : Int} {A : Int32} {V1 W1 : Nat → Int32} {g : Nat → Int × Int} {k4 : Nat} (pr : jqPr σ ln i fr last) (kg : jKg σ) (jd : jqJd (σ 34) (σ 35) V1 W1 (i : Int) (σ 16 0).toInt f e g) (no : jqNo (σ 32 i) A d) (hb : b < 4) (ek : k4 = 4 * i + b) (c0 : 0 ≤ (σ 33 k4).toInt) (i9 : (i : Int) < (σ 31 8).toInt) (n9 : (σ 31 8).toInt ≤ 350) (l8 : (σ 31 11).toInt ≤ 8) (N8 : (σ 16 0).toInt ≤ 8) (f0 : 0 ≤ f) (eN : e < (σ 16 0).toInt) (ef : e ≤ fr + 1 + d) (fw : f ≤ w) (we : w ≤ e) (hf : f = jmx fr)
    (es : s = (σ ln w.toNat).toInt) (er : r = jRnc σ b s (jst A b)) (ec : c = jChc σ b s (jst A b) (jlf A b) ((σ 31 10).toInt + d) w) (ex : x = 9 * (σ 33 k4).toInt + (w + 1)) (ey : y = 9 * (σ 33 k4).toInt + w) (ep : p = (V1 x.toNat).toInt) (eq : q = (V1 y.toNat).toInt) (R0 : 0 ≤ (σ 16 2).toInt ∧ (σ 16 2).toInt ≤ 999) (hR : rain = (σ 16 2).toInt)
    (hm : (0 ≤ rain ∧ rain ≤ 1000) → (0 ≤ r ∧ r ≤ 41) → (0 ≤ c ∧ c ≤ 1000) → (0 ≤ p ∧ p ≤ 328000) → (0 ≤ q ∧ q ≤ 328000) → mean = jMo rain r c p q) : mean = jqG σ ln A d w.toNat b ∧ jMy4 (jla A) (jlf A) b = true := by
  obtain ⟨h1, h2, h3, h4, h5, h6, h7⟩ := pr
  have go := kg h1
  have kc := go.2.2.2.2 i b hb (Or.inl ⟨i9, i9⟩)
  subst ek ex ey hR
  have my := kc.my no c0
  have ch : ∀ (z v : Int), f ≤ z → 0 ≤ z → z ≤ fr + 2 + d → z ≤ (σ 16 0).toInt → v = 9 * (σ 33 (4 * i + b)).toInt + z → (V1 v.toNat).toInt = (jV (jChc σ) (jRnc σ) (fun y => (σ ln y).toInt) (σ 16 0).toInt (σ 16 2).toInt ((σ 31 11).toInt - (d + 1)).toNat (b : Int) (jLn (jlf A) b) (jSn (jst A) b) ((σ 31 10).toInt + d + 1) z).2 :=
    fun z v a1 a2 a3 a4 a5 => h6.child h5 jd h4 kc no my hb f0 eN N8 i9 n9 (by omega) a2 a3 a4 a5
  have e1 := ch (w + 1) _ (by omega) (by omega) (by omega) (by omega) rfl
  have e2 := ch w _ fw (by omega) (by omega) (by omega) rfl
  have rg : ∀ z : Int, 0 ≤ (jV (jChc σ) (jRnc σ) (fun y => (σ ln y).toInt) (σ 16 0).toInt (σ 16 2).toInt ((σ 31 11).toInt - (d + 1)).toNat (b : Int) (jLn (jlf A) b) (jSn (jst A) b) ((σ 31 10).toInt + d + 1) z).2 ∧ (jV (jChc σ) (jRnc σ) (fun y => (σ ln y).toInt) (σ 16 0).toInt (σ 16 2).toInt ((σ 31 11).toInt - (d + 1)).toNat (b : Int) (jLn (jlf A) b) (jSn (jst A) b) ((σ 31 10).toInt + d + 1) z).2 ≤ 328000 := fun z => by
    have a := (jV_r (so := fun y => (σ ln y).toInt) (n := (σ 16 0).toInt) R0 (jChc_r σ) (jRnc_r h3) ((σ 31 11).toInt - (d + 1)).toNat (b : Int) (jLn (jlf A) b) (jSn (jst A) b) ((σ 31 10).toInt + d + 1) z).1
    have dd := no.2.2
    omega
  have rr := jRnc_r h3 b s (jst A b)
  have cr := jChc_r σ b s (jst A b) (jlf A b) ((σ 31 10).toInt + d) w
  refine ⟨?_, jMy4_iff.mpr my⟩
  have r1 := rg (w + 1); have r2 := rg w
  rw [hm (by omega) (by omega) (by omega) (by rw [ep, e1]; exact r1) (by rw [eq, e2]; exact r2), ep, eq, e1, e2, er, ec, es]
  unfold jqG jqS
  rw [show ((w.toNat : Nat) : Int) = w by omega]
def jI2 (σ : Nat → Nat → Int32) : Prop := (0 ≤ (σ 2 0).toInt ∧ (σ 2 0).toInt ≤ 4) ∧ (0 ≤ (σ 2 1).toInt ∧ (σ 2 1).toInt ≤ 3) ∧ (0 ≤ (σ 2 2).toInt) ∧ (0 ≤ (σ 2 3).toInt) ∧ ((σ 2 2).toInt + (σ 2 3).toInt ≤ 40) ∧ (∀ k : Nat, k < 40 → 0 ≤ (σ 6 k).toInt ∧ (σ 6 k).toInt ≤ 67) ∧ (∀ k : Nat, k < 4 → 0 ≤ (σ 5 k).toInt ∧ (σ 5 k).toInt ≤ 20)
theorem jI2_fr {σ σ' : Nat → Nat → Int32} (f2_0 : σ' 2 0 = σ 2 0) (f2_1 : σ' 2 1 = σ 2 1) (f2_2 : σ' 2 2 = σ 2 2) (f2_3 : σ' 2 3 = σ 2 3) (r6 : σ' 6 = σ 6) (r5 : σ' 5 = σ 5) (h : jI2 σ) : jI2 σ' := by
  unfold jI2 at *; rw [f2_0, f2_1, f2_2, f2_3, r6, r5]; exact h
def jI9 (σ : Nat → Nat → Int32) : Prop := (0 ≤ (σ 9 0).toInt ∧ (σ 9 0).toInt ≤ 80) ∧ (∀ k : Nat, k < 80 → 0 ≤ (σ 10 k).toInt ∧ (σ 10 k).toInt ≤ 255) ∧ (∀ k : Nat, k < 8 → 0 ≤ (σ 11 k).toInt ∧ (σ 11 k).toInt ≤ 3)
theorem jI9_fr {σ σ' : Nat → Nat → Int32} (f9_0 : σ' 9 0 = σ 9 0) (r10 : σ' 10 = σ 10) (r11 : σ' 11 = σ 11) (h : jI9 σ) : jI9 σ' := by
  unfold jI9 at *; rw [f9_0, r10, r11]; exact h
def jI12 (σ : Nat → Nat → Int32) : Prop := (0 ≤ (σ 12 0).toInt ∧ (σ 12 0).toInt ≤ 160) ∧ (∀ k : Nat, k < 160 → 0 ≤ (σ 13 k).toInt ∧ (σ 13 k).toInt ≤ 30000)
theorem jI12_fr {σ σ' : Nat → Nat → Int32} (f12_0 : σ' 12 0 = σ 12 0) (r13 : σ' 13 = σ 13) (h : jI12 σ) : jI12 σ' := by
  unfold jI12 at *; rw [f12_0, r13]; exact h
def jI16 (σ : Nat → Nat → Int32) : Prop := (1 ≤ (σ 16 0).toInt ∧ (σ 16 0).toInt ≤ 8) ∧ (1 ≤ (σ 16 1).toInt ∧ (σ 16 1).toInt ≤ 12) ∧ (0 ≤ (σ 16 2).toInt ∧ (σ 16 2).toInt ≤ 999) ∧ (∀ k : Nat, k < 8 → 0 ≤ (σ 17 k).toInt ∧ (σ 17 k).toInt ≤ 3)
theorem jI16_fr {σ σ' : Nat → Nat → Int32} (f16_0 : σ' 16 0 = σ 16 0) (f16_1 : σ' 16 1 = σ 16 1) (f16_2 : σ' 16 2 = σ 16 2) (r17 : σ' 17 = σ 17) (h : jI16 σ) : jI16 σ' := by
  unfold jI16 at *; rw [f16_0, f16_1, f16_2, r17]; exact h
def jI18 (σ : Nat → Nat → Int32) : Prop := (0 ≤ (σ 18 0).toInt ∧ (σ 18 0).toInt ≤ 160) ∧ (∀ k : Nat, k < 160 → 0 ≤ (σ 19 k).toInt ∧ (σ 19 k).toInt ≤ 30000)
theorem jI18_fr {σ σ' : Nat → Nat → Int32} (f18_0 : σ' 18 0 = σ 18 0) (r19 : σ' 19 = σ 19) (h : jI18 σ) : jI18 σ' := by
  unfold jI18 at *; rw [f18_0, r19]; exact h
def jI22 (σ : Nat → Nat → Int32) : Prop := (0 ≤ (σ 22 0).toInt ∧ (σ 22 0).toInt ≤ 160) ∧ (∀ k : Nat, k < 160 → 0 ≤ (σ 23 k).toInt ∧ (σ 23 k).toInt ≤ 30000)
theorem jI22_fr {σ σ' : Nat → Nat → Int32} (f22_0 : σ' 22 0 = σ 22 0) (r23 : σ' 23 = σ 23) (h : jI22 σ) : jI22 σ' := by
  unfold jI22 at *; rw [f22_0, r23]; exact h
def jI31 (σ : Nat → Nat → Int32) : Prop := (0 ≤ (σ 31 8).toInt ∧ (σ 31 8).toInt ≤ 350) ∧ (0 ≤ (σ 31 10).toInt ∧ (σ 31 10).toInt ≤ 12) ∧ (0 ≤ (σ 31 11).toInt ∧ (σ 31 11).toInt ≤ 8) ∧ ((σ 31 10).toInt + (σ 31 11).toInt ≤ 12) ∧ (∀ k : Nat, k < 1400 → (-1) ≤ (σ 33 k).toInt ∧ (σ 33 k).toInt ≤ 350) ∧ (∀ k : Nat, k < 3159 → (-1) ≤ (σ 35 k).toInt ∧ (σ 35 k).toInt ≤ 3) ∧ (∀ k : Nat, k < 1024 → 0 ≤ (σ 36 k).toInt ∧ (σ 36 k).toInt ≤ 349)
theorem jI31_fr {σ σ' : Nat → Nat → Int32} (f31_8 : σ' 31 8 = σ 31 8) (f31_10 : σ' 31 10 = σ 31 10) (f31_11 : σ' 31 11 = σ 31 11) (r33 : σ' 33 = σ 33) (r35 : σ' 35 = σ 35) (r36 : σ' 36 = σ 36) (h : jI31 σ) : jI31 σ' := by
  unfold jI31 at *; rw [f31_8, f31_10, f31_11, r33, r35, r36]; exact h
def jI38 (σ : Nat → Nat → Int32) : Prop := (0 ≤ (σ 38 0).toInt ∧ (σ 38 0).toInt ≤ 20) ∧ (0 ≤ (σ 38 1).toInt ∧ (σ 38 1).toInt ≤ 1000) ∧ (∀ k : Nat, k < 20 → 0 ≤ (σ 39 k).toInt ∧ (σ 39 k).toInt ≤ 6)
theorem jI38_fr {σ σ' : Nat → Nat → Int32} (f38_0 : σ' 38 0 = σ 38 0) (f38_1 : σ' 38 1 = σ 38 1) (r39 : σ' 39 = σ 39) (h : jI38 σ) : jI38 σ' := by
  unfold jI38 at *; rw [f38_0, f38_1, r39]; exact h
def jI43 (σ : Nat → Nat → Int32) : Prop := (0 ≤ (σ 43 8).toInt ∧ (σ 43 8).toInt ≤ 8)
theorem jI43_fr {σ σ' : Nat → Nat → Int32} (f43_8 : σ' 43 8 = σ 43 8) (h : jI43 σ) : jI43 σ' := by
  unfold jI43 at *; rw [f43_8]; exact h
def jI47 (σ : Nat → Nat → Int32) : Prop := (0 ≤ (σ 47 0).toInt ∧ (σ 47 0).toInt ≤ 12) ∧ (∀ k : Nat, k < 12 → 0 ≤ (σ 48 k).toInt ∧ (σ 48 k).toInt ≤ 3) ∧ (∀ k : Nat, k < 12 → 0 ≤ (σ 49 k).toInt ∧ (σ 49 k).toInt ≤ 1)
theorem jI47_fr {σ σ' : Nat → Nat → Int32} (f47_0 : σ' 47 0 = σ 47 0) (r48 : σ' 48 = σ 48) (r49 : σ' 49 = σ 49) (h : jI47 σ) : jI47 σ' := by
  unfold jI47 at *; rw [f47_0, r48, r49]; exact h
def jI50 (σ : Nat → Nat → Int32) : Prop := (∀ k : Nat, k < 6 → 0 ≤ (σ 52 k).toInt ∧ (σ 52 k).toInt ≤ 60)
theorem jI50_fr {σ σ' : Nat → Nat → Int32} (r52 : σ' 52 = σ 52) (h : jI50 σ) : jI50 σ' := by
  unfold jI50 at *; rw [r52]; exact h
def jI0 (σ : Nat → Nat → Int32) : Prop := (∀ k : Nat, k < 8 → 0 ≤ (σ 1 k).toInt ∧ (σ 1 k).toInt ≤ 3)
theorem jI0_fr {σ σ' : Nat → Nat → Int32} (r1 : σ' 1 = σ 1) (h : jI0 σ) : jI0 σ' := by
  unfold jI0 at *; rw [r1]; exact h
def jI26 (σ : Nat → Nat → Int32) : Prop := (1 ≤ (σ 26 6).toInt ∧ (σ 26 6).toInt ≤ 8000)
theorem jI26_fr {σ σ' : Nat → Nat → Int32} (f26_6 : σ' 26 6 = σ 26 6) (h : jI26 σ) : jI26 σ' := by
  unfold jI26 at *; rw [f26_6]; exact h
def jI91 (σ : Nat → Nat → Int32) : Prop := (0 ≤ (σ 9 1).toInt) ∧ ((σ 9 1).toInt ≤ (σ 9 0).toInt)
theorem jI91_fr {σ σ' : Nat → Nat → Int32} (f9_0 : σ' 9 0 = σ 9 0) (f9_1 : σ' 9 1 = σ 9 1) (h : jI91 σ) : jI91 σ' := by
  unfold jI91 at *; rw [f9_0, f9_1]; exact h
def jI92 (σ : Nat → Nat → Int32) : Prop := ((-1) ≤ (σ 9 2).toInt ∧ (σ 9 2).toInt ≤ 80)
theorem jI92_fr {σ σ' : Nat → Nat → Int32} (f9_2 : σ' 9 2 = σ 9 2) (h : jI92 σ) : jI92 σ' := by
  unfold jI92 at *; rw [f9_2]; exact h
def jI101 (σ : Nat → Nat → Int32) : Prop := (0 ≤ (σ 55 5).toInt) ∧ ((σ 55 5).toInt ≤ (σ 55 4).toInt) ∧ ((σ 55 4).toInt ≤ 40) ∧ (∀ k : Nat, k < 68 → (-200) ≤ (σ 56 k).toInt ∧ (σ 56 k).toInt ≤ 500) ∧ (∀ k : Nat, k < 40 → 0 ≤ (σ 57 k).toInt ∧ (σ 57 k).toInt ≤ 67) ∧ (∀ k : Nat, k < 40 → (-200) ≤ (σ 58 k).toInt ∧ (σ 58 k).toInt ≤ 500) ∧ (∀ k : Nat, k < 40 → (-200) ≤ (σ 59 k).toInt ∧ (σ 59 k).toInt ≤ 500)
theorem jI101_fr {σ σ' : Nat → Nat → Int32} (f55_4 : σ' 55 4 = σ 55 4) (f55_5 : σ' 55 5 = σ 55 5) (r56 : σ' 56 = σ 56) (r57 : σ' 57 = σ 57) (r58 : σ' 58 = σ 58) (r59 : σ' 59 = σ 59) (h : jI101 σ) : jI101 σ' := by
  unfold jI101 at *; rw [f55_4, f55_5, r56, r57, r58, r59]; exact h
def jI102 (σ : Nat → Nat → Int32) : Prop := (0 ≤ (σ 55 6).toInt ∧ (σ 55 6).toInt ≤ 4) ∧ (∀ k : Nat, k < 4 → 0 ≤ (σ 60 k).toInt ∧ (σ 60 k).toInt ≤ 50) ∧ (∀ k : Nat, k < 4 → 0 ≤ (σ 61 k).toInt ∧ (σ 61 k).toInt ≤ 20)
theorem jI102_fr {σ σ' : Nat → Nat → Int32} (f55_6 : σ' 55 6 = σ 55 6) (r60 : σ' 60 = σ 60) (r61 : σ' 61 = σ 61) (h : jI102 σ) : jI102 σ' := by
  unfold jI102 at *; rw [f55_6, r60, r61]; exact h
def jI103 (σ : Nat → Nat → Int32) : Prop := (0 ≤ (σ 55 9).toInt ∧ (σ 55 9).toInt ≤ 3)
theorem jI103_fr {σ σ' : Nat → Nat → Int32} (f55_9 : σ' 55 9 = σ 55 9) (h : jI103 σ) : jI103 σ' := by
  unfold jI103 at *; rw [f55_9]; exact h
def jI104 (σ : Nat → Nat → Int32) : Prop := (1 ≤ (σ 55 10).toInt ∧ (σ 55 10).toInt ≤ 8) ∧ (1 ≤ (σ 55 12).toInt ∧ (σ 55 12).toInt ≤ 12) ∧ (0 ≤ (σ 55 13).toInt ∧ (σ 55 13).toInt ≤ 999) ∧ (∀ k : Nat, k < 8 → 0 ≤ (σ 62 k).toInt ∧ (σ 62 k).toInt ≤ 3) ∧ (∀ k : Nat, k < 8 → 0 ≤ (σ 67 k).toInt ∧ (σ 67 k).toInt ≤ 3)
theorem jI104_fr {σ σ' : Nat → Nat → Int32} (f55_10 : σ' 55 10 = σ 55 10) (f55_12 : σ' 55 12 = σ 55 12) (f55_13 : σ' 55 13 = σ 55 13) (r62 : σ' 62 = σ 62) (r67 : σ' 67 = σ 67) (h : jI104 σ) : jI104 σ' := by
  unfold jI104 at *; rw [f55_10, f55_12, f55_13, r62, r67]; exact h
def jI105 (σ : Nat → Nat → Int32) : Prop := (0 ≤ (σ 55 15).toInt ∧ (σ 55 15).toInt ≤ 80) ∧ (∀ k : Nat, k < 2 → (-1) ≤ (σ 65 k).toInt ∧ (σ 65 k).toInt ≤ 80)
theorem jI105_fr {σ σ' : Nat → Nat → Int32} (f55_15 : σ' 55 15 = σ 55 15) (r65 : σ' 65 = σ 65) (h : jI105 σ) : jI105 σ' := by
  unfold jI105 at *; rw [f55_15, r65]; exact h
def jI106 (σ : Nat → Nat → Int32) : Prop := (0 ≤ (σ 55 32).toInt ∧ (σ 55 32).toInt ≤ 20) ∧ (∀ k : Nat, k < 20 → 0 ≤ (σ 70 k).toInt ∧ (σ 70 k).toInt ≤ 6) ∧ (∀ k : Nat, k < 20 → 0 ≤ (σ 71 k).toInt ∧ (σ 71 k).toInt ≤ 8) ∧ (∀ k : Nat, k < 160 → 0 ≤ (σ 72 k).toInt ∧ (σ 72 k).toInt ≤ 3)
theorem jI106_fr {σ σ' : Nat → Nat → Int32} (f55_32 : σ' 55 32 = σ 55 32) (r70 : σ' 70 = σ 70) (r71 : σ' 71 = σ 71) (r72 : σ' 72 = σ 72) (h : jI106 σ) : jI106 σ' := by
  unfold jI106 at *; rw [f55_32, r70, r71, r72]; exact h
def jI107 (σ : Nat → Nat → Int32) : Prop := (0 ≤ (σ 55 47).toInt ∧ (σ 55 47).toInt ≤ 12) ∧ ((σ 55 47).toInt ≤ (σ 55 12).toInt) ∧ (∀ k : Nat, k < 12 → 0 ≤ (σ 80 k).toInt ∧ (σ 80 k).toInt ≤ 3)
theorem jI107_fr {σ σ' : Nat → Nat → Int32} (f55_12 : σ' 55 12 = σ 55 12) (f55_47 : σ' 55 47 = σ 55 47) (r80 : σ' 80 = σ 80) (h : jI107 σ) : jI107 σ' := by
  unfold jI107 at *; rw [f55_12, f55_47, r80]; exact h
def jI109 (σ : Nat → Nat → Int32) : Prop := (0 ≤ (σ 55 50).toInt ∧ (σ 55 50).toInt ≤ 12)
theorem jI109_fr {σ σ' : Nat → Nat → Int32} (f55_50 : σ' 55 50 = σ 55 50) (h : jI109 σ) : jI109 σ' := by
  unfold jI109 at *; rw [f55_50]; exact h
def jI110 (σ : Nat → Nat → Int32) : Prop := (∀ k : Nat, k < 6 → (-1) ≤ (σ 86 k).toInt ∧ (σ 86 k).toInt ≤ 24) ∧ (∀ k : Nat, k < 6 → 0 ≤ (σ 87 k).toInt ∧ (σ 87 k).toInt ≤ 60)
theorem jI110_fr {σ σ' : Nat → Nat → Int32} (r86 : σ' 86 = σ 86) (r87 : σ' 87 = σ 87) (h : jI110 σ) : jI110 σ' := by
  unfold jI110 at *; rw [r86, r87]; exact h
def jI111 (σ : Nat → Nat → Int32) : Prop := (∀ k : Nat, k < 5 → 0 ≤ (σ 79 k).toInt ∧ (σ 79 k).toInt ≤ 3)
theorem jI111_fr {σ σ' : Nat → Nat → Int32} (r79 : σ' 79 = σ 79) (h : jI111 σ) : jI111 σ' := by
  unfold jI111 at *; rw [r79]; exact h
def jI120 (σ : Nat → Nat → Int32) : Prop := (0 ≤ (σ 55 25).toInt) ∧ ((σ 55 25).toInt ≤ (σ 55 10).toInt) ∧ (0 ≤ (σ 55 26).toInt) ∧ ((σ 55 26).toInt ≤ (σ 55 12).toInt) ∧ ((-1) ≤ (σ 55 27).toInt ∧ (σ 55 27).toInt ≤ 3) ∧ (∀ k : Nat, k < 4 → 0 ≤ (σ 68 k).toInt ∧ (σ 68 k).toInt ≤ 3)
theorem jI120_fr {σ σ' : Nat → Nat → Int32} (f55_10 : σ' 55 10 = σ 55 10) (f55_12 : σ' 55 12 = σ 55 12) (f55_25 : σ' 55 25 = σ 55 25) (f55_26 : σ' 55 26 = σ 55 26) (f55_27 : σ' 55 27 = σ 55 27) (r68 : σ' 68 = σ 68) (h : jI120 σ) : jI120 σ' := by
  unfold jI120 at *; rw [f55_10, f55_12, f55_25, f55_26, f55_27, r68]; exact h
def jI121 (σ : Nat → Nat → Int32) : Prop := ((-1) ≤ (σ 55 18).toInt ∧ (σ 55 18).toInt ≤ 80) ∧ (0 ≤ (σ 55 19).toInt) ∧ ((σ 55 19).toInt ≤ (σ 55 20).toInt) ∧ ((σ 55 20).toInt ≤ 80) ∧ ((-1) ≤ (σ 55 21).toInt ∧ (σ 55 21).toInt ≤ 80)
theorem jI121_fr {σ σ' : Nat → Nat → Int32} (f55_18 : σ' 55 18 = σ 55 18) (f55_19 : σ' 55 19 = σ 55 19) (f55_20 : σ' 55 20 = σ 55 20) (f55_21 : σ' 55 21 = σ 55 21) (h : jI121 σ) : jI121 σ' := by
  unfold jI121 at *; rw [f55_18, f55_19, f55_20, f55_21]; exact h
def jI119 (σ : Nat → Nat → Int32) : Prop := (∀ k : Nat, k < 4 → 0 ≤ (σ 68 k).toInt ∧ (σ 68 k).toInt ≤ 3)
theorem jI119_fr {σ σ' : Nat → Nat → Int32} (r68 : σ' 68 = σ 68) (h : jI119 σ) : jI119 σ' := by
  unfold jI119 at *; rw [r68]; exact h
