/-! numbers: an int or long and the integer that it is -/
theorem jrg {x : Int32} {A : Int} (h : x.toInt = A) : -2147483648 ≤ A ∧ A ≤ 2147483647 := by
  have h1 := Int32.le_toInt x
  have h2 := Int32.toInt_lt x
  omega
theorem jrgL {x : Int64} {A : Int} (h : x.toInt = A) : -9223372036854775808 ≤ A ∧ A ≤ 9223372036854775807 := by
  have h1 := Int64.le_toInt x
  have h2 := Int64.toInt_lt x
  omega
theorem jbm {z : Int} (h1 : -2147483648 ≤ z) (h2 : z ≤ 2147483647) : z.bmod (2 ^ 32) = z := by
  rw [Int.bmod_eq_of_le] <;> omega
theorem jbmL {z : Int} (h1 : -9223372036854775808 ≤ z) (h2 : z ≤ 9223372036854775807) : z.bmod (2 ^ 64) = z := by
  rw [Int.bmod_eq_of_le] <;> omega
theorem jadd {x a b : Int32} {A B : Int} (e : x = a + b) (ha : a.toInt = A) (hb : b.toInt = B) (h1 : -2147483648 ≤ A + B) (h2 : A + B ≤ 2147483647) : x.toInt = A + B := by
  rw [e, Int32.toInt_add, ha, hb]; exact jbm h1 h2
theorem jsub {x a b : Int32} {A B : Int} (e : x = a - b) (ha : a.toInt = A) (hb : b.toInt = B) (h1 : -2147483648 ≤ A - B) (h2 : A - B ≤ 2147483647) : x.toInt = A - B := by
  rw [e, Int32.toInt_sub, ha, hb]; exact jbm h1 h2
theorem jmul {x a b : Int32} {A B : Int} (e : x = a * b) (ha : a.toInt = A) (hb : b.toInt = B) (h1 : -2147483648 ≤ A * B) (h2 : A * B ≤ 2147483647) : x.toInt = A * B := by
  rw [e, Int32.toInt_mul, ha, hb]; exact jbm h1 h2
theorem jneg {x a : Int32} {A : Int} (e : x = -a) (ha : a.toInt = A) (h1 : -2147483648 < A) : x.toInt = -A := by
  have := jrg ha
  rw [e, Int32.toInt_neg, ha]; exact jbm (by omega) (by omega)
theorem jdiv {x a b : Int32} {A B : Int} (e : x = a / b) (ha : a.toInt = A) (hb : b.toInt = B) (h0 : 0 ≤ A) (h1 : 0 < B) : x.toInt = A / B := by
  have := jrg ha
  have h3 : 0 ≤ A / B := Int.ediv_nonneg h0 (by omega)
  have h4 : A / B ≤ A := Int.ediv_le_self B h0
  rw [e, Int32.toInt_div, ha, hb, Int.tdiv_eq_ediv_of_nonneg h0]; exact jbm (by omega) (by omega)
theorem jrem {x a b : Int32} {A B : Int} (e : x = a - a / b * b) (ha : a.toInt = A) (hb : b.toInt = B) (h0 : 0 ≤ A) : x.toInt = A % B := by
  rw [e, rem_toInt, ha, hb, Int.tmod_eq_emod_of_nonneg h0]
theorem jtoL {x : Int32} {A : Int} (h : x.toInt = A) : x.toInt64.toInt = A := by rw [Int32.toInt_toInt64, h]
theorem jlt {x y : Int32} {A B : Int} (h : x < y) (ha : x.toInt = A) (hb : y.toInt = B) : A < B := by rw [← ha, ← hb]; exact Int32.lt_iff_toInt_lt.mp h
theorem jle {x y : Int32} {A B : Int} (h : x ≤ y) (ha : x.toInt = A) (hb : y.toInt = B) : A ≤ B := by rw [← ha, ← hb]; exact Int32.le_iff_toInt_le.mp h
theorem jnlt {x y : Int32} {A B : Int} (h : ¬ x < y) (ha : x.toInt = A) (hb : y.toInt = B) : B ≤ A := by
  rw [← ha, ← hb]; rw [Int32.lt_iff_toInt_lt] at h; omega
theorem jnle {x y : Int32} {A B : Int} (h : ¬ x ≤ y) (ha : x.toInt = A) (hb : y.toInt = B) : B < A := by
  rw [← ha, ← hb]; rw [Int32.le_iff_toInt_le] at h; omega
theorem jeq {x y : Int32} {A B : Int} (h : x = y) (ha : x.toInt = A) (hb : y.toInt = B) : A = B := by rw [← ha, ← hb, h]
theorem jne {x y : Int32} {A B : Int} (h : ¬ x = y) (ha : x.toInt = A) (hb : y.toInt = B) : A ≠ B := by
  rw [← ha, ← hb]; exact fun q => h (Int32.toInt_inj.mp q)
theorem jsame {x y : Int32} {A B : Int} (ha : x.toInt = A) (hb : y.toInt = B) (h : A = B) : x = y := Int32.toInt_inj.mp (by rw [ha, hb, h])
theorem jin {x : Int32} {A : Int} {n : Nat} (ha : x.toInt = A) (h0 : 0 ≤ A) (h1 : A < n) : vp_in x n := vp_in_iff.mpr (by rw [ha]; exact ⟨h0, h1⟩)
theorem jnat {x : Int32} {A : Int} {n : Nat} (ha : x.toInt = A) (h1 : A < n) (h2 : 0 < n) : x.toNatClampNeg < n := by
  show x.toInt.toNat < n
  omega
theorem jcmp {x y : Int64} {A B : Int} (ha : x.toInt = A) (hb : y.toInt = B) : (A < B ∧ lg_cmp x y = -1) ∨ (A = B ∧ lg_cmp x y = 0) ∨ (B < A ∧ lg_cmp x y = 1) := by
  unfold lg_cmp
  simp only [gt_iff_lt, Int64.lt_iff_toInt_lt, ← Int64.toInt_inj, ha, hb]
  rcases Int.lt_trichotomy A B with h | h | h
  · exact Or.inl ⟨h, by rw [if_neg (by omega), if_neg (by omega)]⟩
  · exact Or.inr (Or.inl ⟨h, by rw [if_neg (by omega), if_pos h]⟩)
  · exact Or.inr (Or.inr ⟨h, by rw [if_pos h]⟩)
theorem jclt {x y : Int64} {A B : Int} (h : lg_cmp x y < 0) (ha : x.toInt = A) (hb : y.toInt = B) : A < B := by
  rcases jcmp ha hb with ⟨h1, e⟩ | ⟨h1, e⟩ | ⟨h1, e⟩ <;> rw [e] at h <;> first | exact h1 | exact absurd h (by decide)
theorem jcnlt {x y : Int64} {A B : Int} (h : ¬ lg_cmp x y < 0) (ha : x.toInt = A) (hb : y.toInt = B) : B ≤ A := by
  rcases jcmp ha hb with ⟨h1, e⟩ | ⟨h1, e⟩ | ⟨h1, e⟩ <;> rw [e] at h <;> first | omega | exact absurd (by decide) h
theorem jcge {x y : Int64} {A B : Int} (h : 0 ≤ lg_cmp x y) (ha : x.toInt = A) (hb : y.toInt = B) : B ≤ A := by
  rcases jcmp ha hb with ⟨h1, e⟩ | ⟨h1, e⟩ | ⟨h1, e⟩ <;> rw [e] at h <;> first | omega | exact absurd h (by decide)
theorem jcnge {x y : Int64} {A B : Int} (h : ¬ 0 ≤ lg_cmp x y) (ha : x.toInt = A) (hb : y.toInt = B) : A < B := by
  rcases jcmp ha hb with ⟨h1, e⟩ | ⟨h1, e⟩ | ⟨h1, e⟩ <;> rw [e] at h <;> first | omega | exact absurd (by decide) h
theorem jcgt {x y : Int64} {A B : Int} (h : 0 < lg_cmp x y) (ha : x.toInt = A) (hb : y.toInt = B) : B < A := by
  rcases jcmp ha hb with ⟨h1, e⟩ | ⟨h1, e⟩ | ⟨h1, e⟩ <;> rw [e] at h <;> first | omega | exact absurd h (by decide)
theorem jcngt {x y : Int64} {A B : Int} (h : ¬ 0 < lg_cmp x y) (ha : x.toInt = A) (hb : y.toInt = B) : A ≤ B := by
  rcases jcmp ha hb with ⟨h1, e⟩ | ⟨h1, e⟩ | ⟨h1, e⟩ <;> rw [e] at h <;> first | omega | exact absurd (by decide) h
theorem jcle {x y : Int64} {A B : Int} (h : lg_cmp x y ≤ 0) (ha : x.toInt = A) (hb : y.toInt = B) : A ≤ B := by
  rcases jcmp ha hb with ⟨h1, e⟩ | ⟨h1, e⟩ | ⟨h1, e⟩ <;> rw [e] at h <;> first | omega | exact absurd h (by decide)
theorem jcnle {x y : Int64} {A B : Int} (h : ¬ lg_cmp x y ≤ 0) (ha : x.toInt = A) (hb : y.toInt = B) : B < A := by
  rcases jcmp ha hb with ⟨h1, e⟩ | ⟨h1, e⟩ | ⟨h1, e⟩ <;> rw [e] at h <;> first | omega | exact absurd (by decide) h
theorem jceq {x y : Int64} {A B : Int} (h : lg_cmp x y = 0) (ha : x.toInt = A) (hb : y.toInt = B) : A = B := by
  rcases jcmp ha hb with ⟨h1, e⟩ | ⟨h1, e⟩ | ⟨h1, e⟩ <;> rw [e] at h <;> first | omega | exact absurd h (by decide)
theorem jcne {x y : Int64} {A B : Int} (h : ¬ lg_cmp x y = 0) (ha : x.toInt = A) (hb : y.toInt = B) : A ≠ B := by
  rcases jcmp ha hb with ⟨h1, e⟩ | ⟨h1, e⟩ | ⟨h1, e⟩ <;> rw [e] at h <;> first | omega | exact absurd (by decide) h
theorem jz_0 : (0 : Int32).toInt = 0 := by decide
theorem jz_1 : (1 : Int32).toInt = 1 := by decide
theorem jz_2 : (2 : Int32).toInt = 2 := by decide
theorem jz_3 : (3 : Int32).toInt = 3 := by decide
theorem jz_4 : (4 : Int32).toInt = 4 := by decide
theorem jz_5 : (5 : Int32).toInt = 5 := by decide
theorem jz_6 : (6 : Int32).toInt = 6 := by decide
theorem jz_7 : (7 : Int32).toInt = 7 := by decide
theorem jz_8 : (8 : Int32).toInt = 8 := by decide
theorem jz_9 : (9 : Int32).toInt = 9 := by decide
theorem jz_10 : (10 : Int32).toInt = 10 := by decide
theorem jz_11 : (11 : Int32).toInt = 11 := by decide
theorem jz_12 : (12 : Int32).toInt = 12 := by decide
theorem jz_13 : (13 : Int32).toInt = 13 := by decide
theorem jz_14 : (14 : Int32).toInt = 14 := by decide
theorem jz_15 : (15 : Int32).toInt = 15 := by decide
theorem jz_16 : (16 : Int32).toInt = 16 := by decide
theorem jz_17 : (17 : Int32).toInt = 17 := by decide
theorem jz_18 : (18 : Int32).toInt = 18 := by decide
theorem jz_19 : (19 : Int32).toInt = 19 := by decide
theorem jz_20 : (20 : Int32).toInt = 20 := by decide
theorem jz_21 : (21 : Int32).toInt = 21 := by decide
theorem jz_22 : (22 : Int32).toInt = 22 := by decide
theorem jz_23 : (23 : Int32).toInt = 23 := by decide
theorem jz_24 : (24 : Int32).toInt = 24 := by decide
theorem jz_25 : (25 : Int32).toInt = 25 := by decide
theorem jz_26 : (26 : Int32).toInt = 26 := by decide
theorem jz_27 : (27 : Int32).toInt = 27 := by decide
theorem jz_28 : (28 : Int32).toInt = 28 := by decide
theorem jz_29 : (29 : Int32).toInt = 29 := by decide
theorem jz_30 : (30 : Int32).toInt = 30 := by decide
theorem jz_31 : (31 : Int32).toInt = 31 := by decide
theorem jz_32 : (32 : Int32).toInt = 32 := by decide
theorem jz_33 : (33 : Int32).toInt = 33 := by decide
theorem jz_34 : (34 : Int32).toInt = 34 := by decide
theorem jz_35 : (35 : Int32).toInt = 35 := by decide
theorem jz_36 : (36 : Int32).toInt = 36 := by decide
theorem jz_37 : (37 : Int32).toInt = 37 := by decide
theorem jz_38 : (38 : Int32).toInt = 38 := by decide
theorem jz_39 : (39 : Int32).toInt = 39 := by decide
theorem jz_40 : (40 : Int32).toInt = 40 := by decide
theorem jz_41 : (41 : Int32).toInt = 41 := by decide
theorem jz_42 : (42 : Int32).toInt = 42 := by decide
theorem jz_43 : (43 : Int32).toInt = 43 := by decide
theorem jz_44 : (44 : Int32).toInt = 44 := by decide
theorem jz_45 : (45 : Int32).toInt = 45 := by decide
theorem jz_46 : (46 : Int32).toInt = 46 := by decide
theorem jz_47 : (47 : Int32).toInt = 47 := by decide
theorem jz_48 : (48 : Int32).toInt = 48 := by decide
theorem jz_49 : (49 : Int32).toInt = 49 := by decide
theorem jz_50 : (50 : Int32).toInt = 50 := by decide
theorem jz_51 : (51 : Int32).toInt = 51 := by decide
theorem jz_52 : (52 : Int32).toInt = 52 := by decide
theorem jz_53 : (53 : Int32).toInt = 53 := by decide
theorem jz_54 : (54 : Int32).toInt = 54 := by decide
theorem jz_55 : (55 : Int32).toInt = 55 := by decide
theorem jz_56 : (56 : Int32).toInt = 56 := by decide
theorem jz_57 : (57 : Int32).toInt = 57 := by decide
theorem jz_58 : (58 : Int32).toInt = 58 := by decide
theorem jz_59 : (59 : Int32).toInt = 59 := by decide
theorem jz_60 : (60 : Int32).toInt = 60 := by decide
theorem jz_61 : (61 : Int32).toInt = 61 := by decide
theorem jz_62 : (62 : Int32).toInt = 62 := by decide
theorem jz_63 : (63 : Int32).toInt = 63 := by decide
theorem jz_64 : (64 : Int32).toInt = 64 := by decide
theorem jz_65 : (65 : Int32).toInt = 65 := by decide
theorem jz_66 : (66 : Int32).toInt = 66 := by decide
theorem jz_67 : (67 : Int32).toInt = 67 := by decide
theorem jz_68 : (68 : Int32).toInt = 68 := by decide
theorem jz_69 : (69 : Int32).toInt = 69 := by decide
theorem jz_70 : (70 : Int32).toInt = 70 := by decide
theorem jz_71 : (71 : Int32).toInt = 71 := by decide
theorem jz_72 : (72 : Int32).toInt = 72 := by decide
theorem jz_73 : (73 : Int32).toInt = 73 := by decide
theorem jz_74 : (74 : Int32).toInt = 74 := by decide
theorem jz_75 : (75 : Int32).toInt = 75 := by decide
theorem jz_76 : (76 : Int32).toInt = 76 := by decide
theorem jz_77 : (77 : Int32).toInt = 77 := by decide
theorem jz_78 : (78 : Int32).toInt = 78 := by decide
theorem jz_79 : (79 : Int32).toInt = 79 := by decide
theorem jz_80 : (80 : Int32).toInt = 80 := by decide
theorem jz_81 : (81 : Int32).toInt = 81 := by decide
theorem jz_82 : (82 : Int32).toInt = 82 := by decide
theorem jz_83 : (83 : Int32).toInt = 83 := by decide
theorem jz_84 : (84 : Int32).toInt = 84 := by decide
theorem jz_85 : (85 : Int32).toInt = 85 := by decide
theorem jz_86 : (86 : Int32).toInt = 86 := by decide
theorem jz_87 : (87 : Int32).toInt = 87 := by decide
theorem jz_88 : (88 : Int32).toInt = 88 := by decide
theorem jz_89 : (89 : Int32).toInt = 89 := by decide
theorem jz_90 : (90 : Int32).toInt = 90 := by decide
theorem jz_91 : (91 : Int32).toInt = 91 := by decide
theorem jz_92 : (92 : Int32).toInt = 92 := by decide
theorem jz_93 : (93 : Int32).toInt = 93 := by decide
theorem jz_94 : (94 : Int32).toInt = 94 := by decide
theorem jz_95 : (95 : Int32).toInt = 95 := by decide
theorem jz_96 : (96 : Int32).toInt = 96 := by decide
theorem jz_97 : (97 : Int32).toInt = 97 := by decide
theorem jz_98 : (98 : Int32).toInt = 98 := by decide
theorem jz_99 : (99 : Int32).toInt = 99 := by decide
theorem jz_100 : (100 : Int32).toInt = 100 := by decide
theorem jz_101 : (101 : Int32).toInt = 101 := by decide
theorem jz_102 : (102 : Int32).toInt = 102 := by decide
theorem jz_103 : (103 : Int32).toInt = 103 := by decide
theorem jz_104 : (104 : Int32).toInt = 104 := by decide
theorem jz_105 : (105 : Int32).toInt = 105 := by decide
theorem jz_106 : (106 : Int32).toInt = 106 := by decide
theorem jz_107 : (107 : Int32).toInt = 107 := by decide
theorem jz_108 : (108 : Int32).toInt = 108 := by decide
theorem jz_109 : (109 : Int32).toInt = 109 := by decide
theorem jz_110 : (110 : Int32).toInt = 110 := by decide
theorem jz_111 : (111 : Int32).toInt = 111 := by decide
theorem jz_112 : (112 : Int32).toInt = 112 := by decide
theorem jz_113 : (113 : Int32).toInt = 113 := by decide
theorem jz_114 : (114 : Int32).toInt = 114 := by decide
theorem jz_115 : (115 : Int32).toInt = 115 := by decide
theorem jz_116 : (116 : Int32).toInt = 116 := by decide
theorem jz_117 : (117 : Int32).toInt = 117 := by decide
theorem jz_118 : (118 : Int32).toInt = 118 := by decide
theorem jz_119 : (119 : Int32).toInt = 119 := by decide
theorem jz_120 : (120 : Int32).toInt = 120 := by decide
theorem jz_121 : (121 : Int32).toInt = 121 := by decide
theorem jz_122 : (122 : Int32).toInt = 122 := by decide
theorem jz_123 : (123 : Int32).toInt = 123 := by decide
theorem jz_124 : (124 : Int32).toInt = 124 := by decide
theorem jz_125 : (125 : Int32).toInt = 125 := by decide
theorem jz_126 : (126 : Int32).toInt = 126 := by decide
theorem jz_127 : (127 : Int32).toInt = 127 := by decide
theorem jz_128 : (128 : Int32).toInt = 128 := by decide
theorem jz_131 : (131 : Int32).toInt = 131 := by decide
theorem jz_136 : (136 : Int32).toInt = 136 := by decide
theorem jz_150 : (150 : Int32).toInt = 150 := by decide
theorem jz_160 : (160 : Int32).toInt = 160 := by decide
theorem jz_200 : (200 : Int32).toInt = 200 := by decide
theorem jz_255 : (255 : Int32).toInt = 255 := by decide
theorem jz_256 : (256 : Int32).toInt = 256 := by decide
theorem jz_350 : (350 : Int32).toInt = 350 := by decide
theorem jz_400 : (400 : Int32).toInt = 400 := by decide
theorem jz_500 : (500 : Int32).toInt = 500 := by decide
theorem jz_512 : (512 : Int32).toInt = 512 := by decide
theorem jz_1000 : (1000 : Int32).toInt = 1000 := by decide
theorem jz_1023 : (1023 : Int32).toInt = 1023 := by decide
theorem jz_1024 : (1024 : Int32).toInt = 1024 := by decide
theorem jz_1400 : (1400 : Int32).toInt = 1400 := by decide
theorem jz_3159 : (3159 : Int32).toInt = 3159 := by decide
theorem jz_4095 : (4095 : Int32).toInt = 4095 := by decide
theorem jz_4096 : (4096 : Int32).toInt = 4096 := by decide
theorem jz_9999 : (9999 : Int32).toInt = 9999 := by decide
theorem jz_10000 : (10000 : Int32).toInt = 10000 := by decide
theorem jz_10007 : (10007 : Int32).toInt = 10007 := by decide
theorem jz_10008 : (10008 : Int32).toInt = 10008 := by decide
theorem jz_20000 : (20000 : Int32).toInt = 20000 := by decide
theorem jz_65535 : (65535 : Int32).toInt = 65535 := by decide
theorem jz_65536 : (65536 : Int32).toInt = 65536 := by decide
theorem jz_99999999 : (99999999 : Int32).toInt = 99999999 := by decide
theorem jz_44444444 : (44444444 : Int32).toInt = 44444444 := by decide
theorem jz_1000000 : (1000000 : Int32).toInt = 1000000 := by decide
theorem jz_2000000000 : (2000000000 : Int32).toInt = 2000000000 := by decide
theorem jz_40503 : (40503 : Int32).toInt = 40503 := by decide
theorem jz_134217727 : (134217727 : Int32).toInt = 134217727 := by decide
theorem jz_m1 : (-1 : Int32).toInt = -1 := by decide
theorem jz_m2 : (-2 : Int32).toInt = -2 := by decide
theorem jz_m3 : (-3 : Int32).toInt = -3 := by decide
theorem jz_m4 : (-4 : Int32).toInt = -4 := by decide
theorem jz_m5 : (-5 : Int32).toInt = -5 := by decide
theorem jz_m9 : (-9 : Int32).toInt = -9 := by decide
theorem jz_m11 : (-11 : Int32).toInt = -11 := by decide
theorem jz_m12 : (-12 : Int32).toInt = -12 := by decide
theorem jz_m13 : (-13 : Int32).toInt = -13 := by decide
theorem jz_m14 : (-14 : Int32).toInt = -14 := by decide
theorem jz_m19 : (-19 : Int32).toInt = -19 := by decide
theorem jz_m100 : (-100 : Int32).toInt = -100 := by decide
theorem jz_m200 : (-200 : Int32).toInt = -200 := by decide
theorem jz_m2000000000 : (-2000000000 : Int32).toInt = -2000000000 := by decide
theorem jzl_0 : (0 : Int64).toInt = 0 := by decide
theorem jzl_1 : (1 : Int64).toInt = 1 := by decide
theorem jzl_2 : (2 : Int64).toInt = 2 := by decide
theorem jzl_3 : (3 : Int64).toInt = 3 := by decide
theorem jzl_4 : (4 : Int64).toInt = 4 := by decide
theorem jzl_5 : (5 : Int64).toInt = 5 := by decide
theorem jzl_6 : (6 : Int64).toInt = 6 := by decide
theorem jzl_7 : (7 : Int64).toInt = 7 := by decide
theorem jzl_8 : (8 : Int64).toInt = 8 := by decide
theorem jzl_9 : (9 : Int64).toInt = 9 := by decide
theorem jzl_12 : (12 : Int64).toInt = 12 := by decide
theorem jzl_19 : (19 : Int64).toInt = 19 := by decide
theorem jzl_20 : (20 : Int64).toInt = 20 := by decide
theorem jzl_50 : (50 : Int64).toInt = 50 := by decide
theorem jzl_60 : (60 : Int64).toInt = 60 := by decide
theorem jzl_99 : (99 : Int64).toInt = 99 := by decide
theorem jzl_200 : (200 : Int64).toInt = 200 := by decide
theorem jzl_500 : (500 : Int64).toInt = 500 := by decide
theorem jzl_999 : (999 : Int64).toInt = 999 := by decide
theorem jzl_9999 : (9999 : Int64).toInt = 9999 := by decide
theorem jzl_44444444 : (44444444 : Int64).toInt = 44444444 := by decide
theorem jzl_1000 : (1000 : Int64).toInt = 1000 := by decide
theorem jzl_16 : (16 : Int64).toInt = 16 := by decide
theorem jzl_13 : (13 : Int64).toInt = 13 := by decide
theorem jzl_m1 : (-1 : Int64).toInt = -1 := by decide
theorem jzl_m9 : (-9 : Int64).toInt = -9 := by decide
theorem jzl_m200 : (-200 : Int64).toInt = -200 := by decide
theorem jmask {x a : Int32} {m : Int32} (e : x = a &&& m) (k : Nat) (hm : m.toBitVec.toNat = 2 ^ k - 1) (hk : k ≤ 30) : 0 ≤ x.toInt ∧ x.toInt ≤ m.toInt := by
  obtain ⟨j, hj, e2⟩ := pk_andE a (m := m) k hm
  have h2 : (2 : Nat) ^ k ≤ 2 ^ 30 := Nat.pow_le_pow_right (by decide) hk
  have h3 : x.toInt = (j : Int) := by rw [e, e2]; exact nI_toInt (by omega)
  have h4 : m.toInt = (2 : Int) ^ k - 1 := by
    have h5 : m = nI (2 ^ k - 1) := by
      apply Int32.toBitVec_inj.mp
      apply BitVec.eq_of_toNat_eq
      rw [hm, pk_tn (by omega)]
    rw [h5, nI_toInt (by omega)]
    have : 1 ≤ (2 : Nat) ^ k := Nat.one_le_two_pow
    rw [Int.natCast_sub this]; simp
  rw [h3, h4]
  have : ((2 : Nat) ^ k : Int) = (2 : Int) ^ k := by norm_cast
  omega
theorem jmin {x a b : Int32} {A B : Int} (e : x = if b < a then b else a) (ha : a.toInt = A) (hb : b.toInt = B) : (x.toInt = A ∧ A ≤ B) ∨ (x.toInt = B ∧ B < A) := by
  by_cases h : b < a
  · rw [if_pos h] at e; exact Or.inr ⟨by rw [e, hb], jlt h hb ha⟩
  · rw [if_neg h] at e; exact Or.inl ⟨by rw [e, ha], jnlt h hb ha⟩
theorem jmax {x a b : Int32} {A B : Int} (e : x = if a < b then b else a) (ha : a.toInt = A) (hb : b.toInt = B) : (x.toInt = A ∧ B ≤ A) ∨ (x.toInt = B ∧ A < B) := by
  by_cases h : a < b
  · rw [if_pos h] at e; exact Or.inr ⟨by rw [e, hb], jlt h ha hb⟩
  · rw [if_neg h] at e; exact Or.inl ⟨by rw [e, ha], jnlt h ha hb⟩
theorem jnatl {x : Int32} {A : Int} {n : Nat} (ha : x.toInt = A) (h1 : (n : Int) ≤ A) : n ≤ x.toNatClampNeg := by
  show n ≤ x.toInt.toNat
  omega
theorem jbw (z : Int) (h1 : -4294967296 ≤ z) (h2 : z ≤ 4294967295) : (z.bmod (2 ^ 32) = z ∧ -2147483648 ≤ z ∧ z ≤ 2147483647) ∨ (z.bmod (2 ^ 32) = z - 4294967296 ∧ 2147483647 < z) ∨ (z.bmod (2 ^ 32) = z + 4294967296 ∧ z < -2147483648) := by
  simp only [Int.bmod_def]
  omega
theorem jaddw {x a b : Int32} {A B : Int} (e : x = a + b) (ha : a.toInt = A) (hb : b.toInt = B) : (x.toInt = A + B ∧ -2147483648 ≤ A + B ∧ A + B ≤ 2147483647) ∨ (x.toInt = A + B - 4294967296 ∧ 2147483647 < A + B) ∨ (x.toInt = A + B + 4294967296 ∧ A + B < -2147483648) := by
  have h1 := jrg ha
  have h2 := jrg hb
  rw [e, Int32.toInt_add, ha, hb]; exact jbw _ (by omega) (by omega)
theorem jsubw {x a b : Int32} {A B : Int} (e : x = a - b) (ha : a.toInt = A) (hb : b.toInt = B) : (x.toInt = A - B ∧ -2147483648 ≤ A - B ∧ A - B ≤ 2147483647) ∨ (x.toInt = A - B - 4294967296 ∧ 2147483647 < A - B) ∨ (x.toInt = A - B + 4294967296 ∧ A - B < -2147483648) := by
  have h1 := jrg ha
  have h2 := jrg hb
  rw [e, Int32.toInt_sub, ha, hb]; exact jbw _ (by omega) (by omega)
/-! rows within bounds; the static rows as numbers -/
theorem jrr_up {σ : Nat → Nat → Int32} {i n j : Nat} {v : Int32} {lo hi : Int} (h : ∀ k : Nat, k < n → lo ≤ (σ i k).toInt ∧ (σ i k).toInt ≤ hi) (h1 : lo ≤ v.toInt) (h2 : v.toInt ≤ hi) : ∀ k : Nat, k < n → lo ≤ (jup σ i j v i k).toInt ∧ (jup σ i j v i k).toInt ≤ hi := by
  intro k hk
  by_cases e : k = j
  · subst e; rw [jup_s]; exact ⟨h1, h2⟩
  · rw [jup_k e]; exact h k hk
def js0 : Nat → Int32 := fun k => [240, 15, 3072, 12288, 768, 507904].getD k 0
def js1 : Nat → Int32 := fun k => [-1, 0, 0, 2, 1, 3, 0].getD k 0
def js2 : Nat → Int32 := fun k => [1, 10, 11, 2, 20, 0, 0, 0, 0, 0, 30, 0, 0, 40, 0, 0, 50, 0, 0, 51, 0, 0, 60, 0, 0, 70, 0, 0].getD k 0
theorem js_r {l : List Int32} {lo hi : Int} (h : ∀ x ∈ l, lo ≤ x.toInt ∧ x.toInt ≤ hi) (h0 : lo ≤ 0 ∧ 0 ≤ hi) (k : Nat) : lo ≤ (l.getD k 0).toInt ∧ (l.getD k 0).toInt ≤ hi := by
  by_cases hk : k < l.length
  · have e : l.getD k 0 = l[k] := by simp [List.getD, List.getElem?_eq_getElem hk]
    rw [e]; exact h _ (List.getElem_mem hk)
  · have e : l.getD k 0 = 0 := by simp [List.getD, List.getElem?_eq_none (Nat.le_of_not_lt hk)]
    rw [e]; exact h0
theorem js0_r (k : Nat) : 0 ≤ (js0 k).toInt ∧ (js0 k).toInt ≤ 507904 := js_r (by decide) (by decide) k
theorem js1_r (k : Nat) : -1 ≤ (js1 k).toInt ∧ (js1 k).toInt ≤ 3 := js_r (by decide) (by decide) k
theorem js2_r (k : Nat) : 0 ≤ (js2 k).toInt ∧ (js2 k).toInt ≤ 70 := js_r (by decide) (by decide) k
def jI2 (σ : Nat → Nat → Int32) : Prop := (0 ≤ (σ 2 0).toInt ∧ (σ 2 0).toInt ≤ 4) ∧ (0 ≤ (σ 2 1).toInt ∧ (σ 2 1).toInt ≤ 3) ∧ (0 ≤ (σ 2 2).toInt) ∧ (0 ≤ (σ 2 3).toInt) ∧ ((σ 2 2).toInt + (σ 2 3).toInt ≤ 40) ∧ (∀ k : Nat, k < 40 → 0 ≤ (σ 6 k).toInt ∧ (σ 6 k).toInt ≤ 67)
def jI9 (σ : Nat → Nat → Int32) : Prop := (0 ≤ (σ 9 0).toInt ∧ (σ 9 0).toInt ≤ 80) ∧ (∀ k : Nat, k < 80 → 0 ≤ (σ 10 k).toInt ∧ (σ 10 k).toInt ≤ 255)
def jI12 (σ : Nat → Nat → Int32) : Prop := (0 ≤ (σ 12 0).toInt ∧ (σ 12 0).toInt ≤ 160) ∧ (∀ k : Nat, k < 160 → 0 ≤ (σ 13 k).toInt ∧ (σ 13 k).toInt ≤ 30000)
def jI16 (σ : Nat → Nat → Int32) : Prop := (1 ≤ (σ 16 0).toInt ∧ (σ 16 0).toInt ≤ 8) ∧ (1 ≤ (σ 16 1).toInt ∧ (σ 16 1).toInt ≤ 12) ∧ (0 ≤ (σ 16 2).toInt ∧ (σ 16 2).toInt ≤ 999) ∧ (∀ k : Nat, k < 8 → 0 ≤ (σ 17 k).toInt ∧ (σ 17 k).toInt ≤ 3)
def jI18 (σ : Nat → Nat → Int32) : Prop := (0 ≤ (σ 18 0).toInt ∧ (σ 18 0).toInt ≤ 160) ∧ (∀ k : Nat, k < 160 → 0 ≤ (σ 19 k).toInt ∧ (σ 19 k).toInt ≤ 30000)
def jI22 (σ : Nat → Nat → Int32) : Prop := (0 ≤ (σ 22 0).toInt ∧ (σ 22 0).toInt ≤ 160) ∧ (∀ k : Nat, k < 160 → 0 ≤ (σ 23 k).toInt ∧ (σ 23 k).toInt ≤ 30000)
def jI31 (σ : Nat → Nat → Int32) : Prop := (0 ≤ (σ 31 8).toInt ∧ (σ 31 8).toInt ≤ 350) ∧ (∀ k : Nat, k < 1400 → (-1) ≤ (σ 33 k).toInt ∧ (σ 33 k).toInt ≤ 350) ∧ (∀ k : Nat, k < 1024 → 0 ≤ (σ 36 k).toInt ∧ (σ 36 k).toInt ≤ 349)
def jI38 (σ : Nat → Nat → Int32) : Prop := (0 ≤ (σ 38 0).toInt ∧ (σ 38 0).toInt ≤ 20) ∧ (0 ≤ (σ 38 1).toInt ∧ (σ 38 1).toInt ≤ 1000) ∧ (∀ k : Nat, k < 20 → 0 ≤ (σ 39 k).toInt ∧ (σ 39 k).toInt ≤ 6)
def jI43 (σ : Nat → Nat → Int32) : Prop := (0 ≤ (σ 43 8).toInt ∧ (σ 43 8).toInt ≤ 8)
def jI47 (σ : Nat → Nat → Int32) : Prop := (0 ≤ (σ 47 0).toInt ∧ (σ 47 0).toInt ≤ 12) ∧ (∀ k : Nat, k < 12 → 0 ≤ (σ 49 k).toInt ∧ (σ 49 k).toInt ≤ 1)
def jI50 (σ : Nat → Nat → Int32) : Prop := (∀ k : Nat, k < 6 → 0 ≤ (σ 52 k).toInt ∧ (σ 52 k).toInt ≤ 60)
